set_option maxHeartbeats 4000000 in
set_option maxRecDepth 100000 in
theorem kX2_harmBelow (l : Launch) (D : va_G) (cA : Nat → ClassId) (r : Nat → Nat) (sz : Nat) (u : Nat → Int32) (a : Nat → Nat → Int32) (th : Nat → Option Nat) (LP : List Nat) (tf : Nat → va_E) (tO : Nat) (g : Nat → Nat) (T : Nat → Nat → Nat) (ro : Nat → Nat) (L : Nat) (cf : Nat → Nat) (P : Nat) (t en : Nat) (hM : NT u a g T) (hB : TB g T) (hL : u 11 = nI L) (hL6 : L ≤ 6) (hro : ∀ k, k < L → a 23 k = nI (ro k)) (hrg : ∀ k, k < L → ro k < g 0) (hcm : ∀ k, k < L → a 24 (ro k) = nI (cf k)) (hcb : ∀ k, k < L → cf k ≤ 10000) (hPd : u 12 = nI P) (hPb : P ≤ 10000) (htl : t ≤ 300) (hen : en < 2147483648) : Met l yX2_harmBelow wsX2_harmBelow ({ frames := 1, cells := 0, slots := 0, locals := 26 } : Room) (va_Pc [.ref (r 4), .int (nI t), .int (nI en)] (wA D vwCl (tyA cA) (eO tO) (xN cA r) (u, a, th, LP, tf) sz)) (va_Qi (fun (v : Int32) (z : sN) => ∃ s7, v = nI s7 ∧ s7 ≤ 20000 ∧ (s7 = sm (oH g T ro cf P t) L ∨ (en ≤ s7 ∧ en ≤ sm (oH g T ro cf P t) L)) ∧ z = (u, a, th, LP, tf)) (wB D vwCl (tyA cA) (xN cA r) (va_A (xN cA r (u, a, th, LP, tf)) sz)) (va_A (xN cA r (u, a, th, LP, tf)) sz)) 0 0 (va_A (xN cA r (u, a, th, LP, tf)) sz) := by
  refine Met.ofW (cc := cX2_harmBelow) (maxL := 5) (ret := (some .int)) (by decide) rfl ?_
  intro p e s m args below meth c s₁ B hml hv
  obtain ⟨rfl, hsz, hP, hK, hD0, hE⟩ := hv
  have hx := B.exec
  have hb := B.bytes
  have hr := B.returns
  have hts := atoms_spec (ws := wsX2_harmBelow) B.pre
  have hown : s.vm.findClass RX2 = some m.cls := findClass_of_methodNamed B.named
  have hlocks := B.notSynchronized
  subst hsz
  have hD := hD0.self (sz := s.heap.size)
  generalize hAe : va_A (xN cA r (u, a, th, LP, tf)) s.heap.size = A at hD hE ⊢
  have hA : ∀ q : Nat, s.heap.size ≤ q → A q := fun q h => by rw [← hAe]; exact Or.inr h
  have hS : va_S A s.heap s.heap [] := va_S.rf
  have hinX2 : ∀ w ∈ u_ws RX2 TX2 6, w ∈ wsX2_harmBelow := by decide +kernel
  have hinX5 : ∀ w ∈ u_ws RX5 TX5 8, w ∈ wsX2_harmBelow := by decide +kernel
  have hl := lv_entry ([.ref (r 4), .int (nI t), .int (nI en)]) (n := 5) (Nat.le_of_ble_eq_true rfl)
  rw [lg_entry_eq]
  generalize (lg_sl ([.ref (r 4), .int (nI t), .int (nI en)]) ++ List.replicate (5 - (lg_sl ([.ref (r 4), .int (nI t), .int (nI en)])).length) Slot.unset).toArray = ls at hl ⊢
  have hl : lv_has ls 5 [(0, .ref (r 4)), (1, .int (nI t)), (2, .int (nI en))] := hl
  have hg6 := hB.1
  refine lv_iconst (v := (nI 0)) hx hb dX2_harmBelow_0 rfl ?_
  refine lv_istore_n (lv' := [(3, .int (nI 0)), (0, .ref (r 4)), (1, .int (nI t)), (2, .int (nI en))]) hx hb dX2_harmBelow_1 rfl hl (by decide) rfl (fun ls hl => ?_)
  refine lv_iconst (v := (nI 0)) hx hb dX2_harmBelow_2 rfl ?_
  refine lv_istore (lv' := [(4, .int (nI 0)), (3, .int (nI 0)), (0, .ref (r 4)), (1, .int (nI t)), (2, .int (nI en))]) hx hb dX2_harmBelow_3 hl (by decide) rfl (fun ls hl => ?_)
  refine wLoop (τ := Nat) (fun z H locs ls => (fun (k : Nat) => (k ≤ L) ∧ (va_P D vwCl (xN cA r (u, a, th, LP, tf)) H) ∧ (va_D A (xN cA r (u, a, th, LP, tf))) ∧ (va_S A s.heap H locs) ∧ (lv_has ls 5 [(4, .int (nI k)), (3, .int (nI (sm (oH g T ro cf P t) k))), (0, .ref (r 4)), (1, .int (nI t)), (2, .int (nI en))])) z) (fun z => (fun (k : Nat) => L - k) z) (0) ⟨(show 0 ≤ L from Nat.zero_le _), hP, hD, hS, lv_sub hl [0, 1, 2, 3, 4] rfl⟩ ?_
  rintro k H locs ls ⟨hk, hP, hD, hS, hl⟩ ih5
  have hk : k ≤ L := hk
  have hP : va_P D vwCl (xN cA r (u, a, th, LP, tf)) H := hP
  have hD : va_D A (xN cA r (u, a, th, LP, tf)) := hD
  have hl : lv_has ls 5 [(4, .int (nI k)), (3, .int (nI (sm (oH g T ro cf P t) k))), (0, .ref (r 4)), (1, .int (nI t)), (2, .int (nI en))] := hl
  have hsl := sm_le (F := oH g T ro cf P t) (M := 2727) (n := k) (fun x hx7 => oH_le hB (hrg x (by omega)) htl)
  refine lv_iload hx hb dX2_harmBelow_5 (lv_at hl 0 rfl) ?_
  refine lv_aload_n hx hb dX2_harmBelow_7 rfl (lv_at hl 2 rfl) ?_
  refine va_get (D := D) (ci := 2) (v := .int (nI L)) (C := RX2) (T := TX2) (N := 6) hx hb hts hinX2 hown hK hP 4 rfl rfl 2 (by decide) (hts (.fieldLink RX2 15 "OneNail$Orders" "length" "I") (by decide +kernel)) (fun _ h9 => h9) (congrArg (fun z => some (Value.int z)) (hL)) dX2_harmBelow_8 ?_
  refine rn_ge (x := k) (y := L) (tgt := 56) hx hb (by omega) (by omega) dX2_harmBelow_11 (by decide) (fun c_1 => ?_) (fun c_1 => ?_)
  · refine lv_iload_n hx hb dX2_harmBelow_56 rfl (lv_at hl 1 rfl) ?_
    exact wIret hx hb hr hlocks (v := (nI (sm (oH g T ro cf P t) k))) (u, a, th, LP, tf) (⟨sm (oH g T ro cf P t) k, rfl, by omega, by have hmo := sm_mono (F := oH g T ro cf P t) (d := L - k) (k := k); rw [show k + (L - k) = L by omega] at hmo; rcases Nat.lt_or_ge k L with q | q; exact Or.inr ⟨by omega, by omega⟩; exact Or.inl (by rw [show k = L by omega]), rfl⟩) hK hP hD hS dX2_harmBelow_57
  · refine lv_iload_n hx hb dX2_harmBelow_14 rfl (lv_at hl 1 rfl) ?_
    refine lv_iload_n hx hb dX2_harmBelow_15 rfl (lv_at hl 4 rfl) ?_
    refine rn_ge (x := sm (oH g T ro cf P t) k) (y := en) (tgt := 56) hx hb (by omega) (by omega) dX2_harmBelow_16 (by decide) (fun c_2 => ?_) (fun c_2 => ?_)
    · refine lv_iload_n hx hb dX2_harmBelow_56 rfl (lv_at hl 1 rfl) ?_
      exact wIret hx hb hr hlocks (v := (nI (sm (oH g T ro cf P t) k))) (u, a, th, LP, tf) (⟨sm (oH g T ro cf P t) k, rfl, by omega, by have hmo := sm_mono (F := oH g T ro cf P t) (d := L - k) (k := k); rw [show k + (L - k) = L by omega] at hmo; rcases Nat.lt_or_ge k L with q | q; exact Or.inr ⟨by omega, by omega⟩; exact Or.inl (by rw [show k = L by omega]), rfl⟩) hK hP hD hS dX2_harmBelow_57
    · have hrk := hrg k (by omega)
      have hTk := hB.2.2.2 _ hrk
      have hck := hcb k (by omega)
      have hfl := fB_le (h := hd g T (ro k)) (y := T 2 (ro k)) (c := cf k) (P := P) (t := t)
      have hoh := oH_le (cf := cf) (P := P) hB hrk htl
      have hoe : fB (hd g T (ro k)) (T 2 (ro k)) (cf k) P t * T 4 (ro k) = oH g T ro cf P t k := rfl
      refine lv_iload_n hx hb dX2_harmBelow_19 rfl (lv_at hl 1 rfl) ?_
      refine lv_aload_n hx hb dX2_harmBelow_20 rfl (lv_at hl 2 rfl) ?_
      refine lv_aload_n hx hb dX2_harmBelow_21 rfl (lv_at hl 2 rfl) ?_
      refine va_get (D := D) (ci := 2) (v := .ref (r 23)) (C := RX2) (T := TX2) (N := 6) hx hb hts hinX2 hown hK hP 4 rfl rfl 1 (by decide) (hts (.fieldLink RX2 9 "OneNail$Orders" "row" "[I") (by decide +kernel)) (fun _ h9 => h9) rfl dX2_harmBelow_22 ?_
      refine lv_iload hx hb dX2_harmBelow_25 (lv_at hl 0 rfl) ?_
      refine ra_iald hx hb hK hP 23 0 (n := 6) (f := (a 23)) (j := k) (v := (nI (ro k))) rfl rfl (by omega) (by decide) (hro (k) (by omega)) dX2_harmBelow_27 ?_
      refine lv_iload_n hx hb dX2_harmBelow_28 rfl (lv_at hl 3 rfl) ?_
      refine wVi (eO_S tO) (As := [.int (nI (ro k)), .int (nI t)]) (rest := [.int (nI (sm (oH g T ro cf P t) k))]) ⟨hx, hb, hml, hown, hts⟩ (kX2_fallsBelow l D cA r _ u a th LP tf tO g T (ro k) t (cf k) P (NT.keep hM rfl rfl rfl rfl rfl) hB (hcm k (by omega)) (by omega) hPd hPb (by omega) (by omega)) (cwV 2 hts gX2_harmBelow_X2_fallsBelow rfl rfl rfl (by decide +kernel) ⟨Nat.le_of_ble_eq_true rfl, Nat.le_of_ble_eq_true rfl⟩) (va_recv hK hP (ci := 2) (q0 := 4) rfl rfl) hK hP hD hS hA hE rfl hl.1 rfl (Nat.le_of_ble_eq_true rfl) dX2_harmBelow_29 ⟨Nat.zero_le _, Nat.zero_le _⟩ (fun rv_3 z_5 H locs hw_4 hP hD hS => ?_)
      obtain ⟨rfl, rfl⟩ := hw_4
      have hP : va_P D vwCl (xN cA r (u, a, th, LP, tf)) H := hP
      have hD : va_D A (xN cA r (u, a, th, LP, tf)) := hD
      refine lv_aload_n hx hb dX2_harmBelow_32 rfl (lv_at hl 2 rfl) ?_
      refine va_get (D := D) (ci := 2) (v := .ref (r 1)) (C := RX2) (T := TX2) (N := 6) hx hb hts hinX2 hown hK hP 4 rfl rfl 0 (by decide) (hts (.fieldLink RX2 28 "OneNail$Orders" "town" "LOneNail$Street;") (by decide +kernel)) (fun _ h9 => h9) rfl dX2_harmBelow_33 ?_
      refine va_get (D := D) (ci := 5) (v := .ref (r 15)) (C := RX5) (T := TX5) (N := 8) hx hb hts hinX5 hown hK hP 1 rfl rfl 6 (by decide) (hts (.fieldLink RX2 88 "OneNail$Street" "harms" "[I") (by decide +kernel)) (fun _ h9 => h9) rfl dX2_harmBelow_36 ?_
      refine lv_aload_n hx hb dX2_harmBelow_39 rfl (lv_at hl 2 rfl) ?_
      refine va_get (D := D) (ci := 2) (v := .ref (r 23)) (C := RX2) (T := TX2) (N := 6) hx hb hts hinX2 hown hK hP 4 rfl rfl 1 (by decide) (hts (.fieldLink RX2 9 "OneNail$Orders" "row" "[I") (by decide +kernel)) (fun _ h9 => h9) rfl dX2_harmBelow_40 ?_
      refine lv_iload hx hb dX2_harmBelow_43 (lv_at hl 0 rfl) ?_
      refine ra_iald hx hb hK hP 23 0 (n := 6) (f := (a 23)) (j := k) (v := (nI (ro k))) rfl rfl (by omega) (by decide) (hro (k) (by omega)) dX2_harmBelow_45 ?_
      refine ra_iald hx hb hK hP 15 0 (n := 6) (f := (a 15)) (j := ro k) (v := (nI (T 4 (ro k)))) rfl rfl (by omega) (by decide) ((hM.2 (ro k) (by omega)).2.2.1) dX2_harmBelow_46 ?_
      refine rn_imul (x := fB (hd g T (ro k)) (T 2 (ro k)) (cf k) P t) (y := T 4 (ro k)) hx hb dX2_harmBelow_47 ?_
      refine rn_iadd (x := sm (oH g T ro cf P t) k) (y := (fB (hd g T (ro k)) (T 2 (ro k)) (cf k) P t) * (T 4 (ro k))) hx hb dX2_harmBelow_48 ?_
      refine lv_istore_n (lv' := [(3, .int (nI ((sm (oH g T ro cf P t) k) + ((fB (hd g T (ro k)) (T 2 (ro k)) (cf k) P t) * (T 4 (ro k)))))), (4, .int (nI k)), (0, .ref (r 4)), (1, .int (nI t)), (2, .int (nI en))]) hx hb dX2_harmBelow_49 rfl hl (by decide) rfl (fun ls hl => ?_)
      refine rn_iinc (x := k) (d := 1) (lv' := [(4, .int (nI (k + 1))), (3, .int (nI ((sm (oH g T ro cf P t) k) + ((fB (hd g T (ro k)) (T 2 (ro k)) (cf k) P t) * (T 4 (ro k)))))), (0, .ref (r 4)), (1, .int (nI t)), (2, .int (nI en))]) hx hb rfl dX2_harmBelow_50 hl (k := 1) rfl (by decide) rfl (fun ls hl => ?_)
      refine lv_goto (tgt := 5) hx hb dX2_harmBelow_53 (by decide) ?_
      exact ih5 ((k + 1)) _ _ _ (show L - (k + 1) < L - k from by omega) ⟨(show (k + 1) ≤ L from by omega), hP, hD, hS, lv_sub hl [0, 1, 2, 3, 4] rfl⟩

set_option maxHeartbeats 4000000 in
set_option maxRecDepth 100000 in
theorem kX2_leastHarm (l : Launch) (D : va_G) (cA : Nat → ClassId) (r : Nat → Nat) (sz : Nat) (u : Nat → Int32) (a : Nat → Nat → Int32) (th : Nat → Option Nat) (LP : List Nat) (tf : Nat → va_E) (tO : Nat) (g : Nat → Nat) (T : Nat → Nat → Nat) (S t : Nat) (hM : NT u a g T) (hB : TB g T) (htl : t ≤ 300) (hSn : S < 2 ^ g 0) (L : Nat) (hLe : L = ol S (g 0)) : Met l yX2_leastHarm wsX2_leastHarm ({ frames := 2, cells := 0, slots := 0, locals := 50 } : Room) (va_Pc [.ref (r 4), .int (nI S), .int (nI (g 1)), .int (nI t)] (wA D vwCl (tyA cA) (eO tO) (xN cA r) (u, a, th, LP, tf) sz)) (va_Qi (fun (v : Int32) (z : sN) => v = nI (bo (fun n9 => hv g T (dg n9) L S t) L (fct L - 1) (f1c S (g 0))).1 ∧ (∀ i, i < L → z.2.1 25 i = nI (dg (bo (fun n9 => hv g T (dg n9) L S t) L (fct L - 1) (f1c S (g 0))).2 i)) ∧ z.1 11 = nI L ∧ (∀ i, i ≠ 11 → i ≠ 12 → z.1 i = u i) ∧ (∀ i, i ≠ 23 → i ≠ 24 → i ≠ 25 → z.2.1 i = a i) ∧ z.2.2 = (th, LP, tf)) (wB D vwCl (tyA cA) (xN cA r) (va_A (xN cA r (u, a, th, LP, tf)) sz)) (va_A (xN cA r (u, a, th, LP, tf)) sz)) 0 0 (va_A (xN cA r (u, a, th, LP, tf)) sz) := by
  refine Met.ofW (cc := cX2_leastHarm) (maxL := 8) (ret := (some .int)) (by decide) rfl ?_
  intro p e s m args below meth c s₁ B hml hv
  obtain ⟨rfl, hsz, hP, hK, hD0, hE⟩ := hv
  have hx := B.exec
  have hb := B.bytes
  have hr := B.returns
  have hts := atoms_spec (ws := wsX2_leastHarm) B.pre
  have hown : s.vm.findClass RX2 = some m.cls := findClass_of_methodNamed B.named
  have hlocks := B.notSynchronized
  subst hsz
  have hD := hD0.self (sz := s.heap.size)
  generalize hAe : va_A (xN cA r (u, a, th, LP, tf)) s.heap.size = A at hD hE ⊢
  have hA : ∀ q : Nat, s.heap.size ≤ q → A q := fun q h => by rw [← hAe]; exact Or.inr h
  have hS : va_S A s.heap s.heap [] := va_S.rf
  have hl := lv_entry ([.ref (r 4), .int (nI S), .int (nI (g 1)), .int (nI t)]) (n := 8) (Nat.le_of_ble_eq_true rfl)
  rw [lg_entry_eq]
  generalize (lg_sl ([.ref (r 4), .int (nI S), .int (nI (g 1)), .int (nI t)]) ++ List.replicate (8 - (lg_sl ([.ref (r 4), .int (nI S), .int (nI (g 1)), .int (nI t)])).length) Slot.unset).toArray = ls at hl ⊢
  have hl : lv_has ls 8 [(0, .ref (r 4)), (1, .int (nI S)), (2, .int (nI (g 1))), (3, .int (nI t))] := hl
  have hg6 := hB.1
  have hS64 : S < 64 := p2_64 hg6 hSn
  have hL6 : L ≤ 6 := by have := ol_le S (g 0); omega
  have hfc := fct_le L
  refine lv_aload_n hx hb dX2_leastHarm_0 rfl (lv_at hl 0 rfl) ?_
  refine lv_iload_n hx hb dX2_leastHarm_1 rfl (lv_at hl 1 rfl) ?_
  refine wVi (eO_S tO) (As := [.int (nI S)]) (rest := []) ⟨hx, hb, hml, hown, hts⟩ (kX2_begin l D cA r _ u a th LP tf tO g T S hM hB (by omega)) (cwV 1 hts gX2_leastHarm_X2_begin rfl rfl rfl (by decide +kernel) ⟨Nat.le_of_ble_eq_true rfl, Nat.le_of_ble_eq_true rfl⟩) (va_recv hK hP (ci := 2) (q0 := 4) rfl rfl) hK hP hD hS hA hE rfl hl.1 rfl (Nat.le_of_ble_eq_true rfl) dX2_leastHarm_2 ⟨Nat.zero_le _, Nat.zero_le _⟩ (fun rv_1 z_3 H locs hw_2 hP hD hS => ?_)
  obtain ⟨zu4, za5, zq6⟩ := z_3
  obtain ⟨rfl, hu11_zu4, hrow_zu4, hfu_zu4, hfa_zu4, hzq_zu4⟩ := hw_2
  have hzq_zu4 : zq6 = (th, LP, tf) := hzq_zu4
  subst hzq_zu4
  have hu11_zu4 : zu4 11 = nI (ol S (g 0)) := hu11_zu4
  have hrow_zu4 : ∀ k, k < ol S (g 0) → za5 23 k = nI (of1 S (g 0) k) := hrow_zu4
  have hfu_zu4 : ∀ i, i ≠ 11 → zu4 i = u i := hfu_zu4
  have hfa_zu4 : ∀ i, i ≠ 23 → za5 i = a i := hfa_zu4
  have hP : va_P D vwCl (xN cA r (zu4, za5, th, LP, tf)) H := hP
  have hD : va_D A (xN cA r (zu4, za5, th, LP, tf)) := hD
  refine lv_topi (fun y_7 ey_7 => ?_)
  obtain rfl : y_7 = (nI (fct L)) := ey_7.trans (by rw [hLe])
  refine lv_istore (lv' := [(4, .int (nI (fct L))), (0, .ref (r 4)), (1, .int (nI S)), (2, .int (nI (g 1))), (3, .int (nI t))]) hx hb dX2_leastHarm_5 hl (by decide) rfl (fun ls hl => ?_)
  refine lv_ldc (v := 1000000) hx hb hown (hts (.constant RX2 36 (1000000)) (by decide +kernel)) dX2_leastHarm_7 ?_
  refine lv_istore (lv' := [(5, .int (nI 1000000)), (4, .int (nI (fct L))), (0, .ref (r 4)), (1, .int (nI S)), (2, .int (nI (g 1))), (3, .int (nI t))]) hx hb dX2_leastHarm_9 hl (by decide) rfl (fun ls hl => ?_)
  refine lv_iconst (v := (nI 0)) hx hb dX2_leastHarm_11 rfl ?_
  refine lv_istore (lv' := [(6, .int (nI 0)), (5, .int (nI 1000000)), (4, .int (nI (fct L))), (0, .ref (r 4)), (1, .int (nI S)), (2, .int (nI (g 1))), (3, .int (nI t))]) hx hb dX2_leastHarm_12 hl (by decide) rfl (fun ls hl => ?_)
  refine wLoop (τ := Nat × Nat × Nat × Nat × Nat × Nat × (Nat → Int32) × (Nat → Nat → Int32)) (fun z H locs ls => (fun (mo : Nat) (c9 : Nat) (k : Nat) (N : Nat) (b : Nat) (Bc : Nat) (u1014 : (Nat → Int32)) (a1014 : (Nat → Nat → Int32)) => (mo ≤ 1) ∧ (mo = 1 → c9 + k + 1 = fct L ∧ chk S L k N = true ∧ (∀ i, i < L → a1014 23 i = nI (dg N i)) ∧ ((b = 1000000 ∧ bo (fun n9 => hv g T (dg n9) L S t) L k N = (bo (fun n9 => hv g T (dg n9) L S t) L (fct L - 1) (f1c S (g 0)))) ∨ (b ≤ 20000 ∧ cm (b, Bc) (bo (fun n9 => hv g T (dg n9) L S t) L k N) = (bo (fun n9 => hv g T (dg n9) L S t) L (fct L - 1) (f1c S (g 0))) ∧ ∀ i, i < L → a1014 25 i = nI (dg Bc i)))) ∧ (mo = 0 → c9 = fct L ∧ b = (bo (fun n9 => hv g T (dg n9) L S t) L (fct L - 1) (f1c S (g 0))).1 ∧ ∀ i, i < L → a1014 25 i = nI (dg (bo (fun n9 => hv g T (dg n9) L S t) L (fct L - 1) (f1c S (g 0))).2 i)) ∧ (b ≤ 1000000) ∧ (∀ i : Nat, i ≠ 12 → u1014 i = zu4 i) ∧ (∀ i : Nat, i ≠ 23 → i ≠ 24 → i ≠ 25 → a1014 i = za5 i) ∧ (va_P D vwCl (xN cA r (u1014, a1014, th, LP, tf)) H) ∧ (va_D A (xN cA r (u1014, a1014, th, LP, tf))) ∧ (va_S A s.heap H locs) ∧ (lv_has ls 8 [(6, .int (nI c9)), (5, .int (nI b)), (4, .int (nI (fct L))), (0, .ref (r 4)), (1, .int (nI S)), (2, .int (nI (g 1))), (3, .int (nI t))])) z.1 z.2.1 z.2.2.1 z.2.2.2.1 z.2.2.2.2.1 z.2.2.2.2.2.1 z.2.2.2.2.2.2.1 z.2.2.2.2.2.2.2) (fun z => (fun (mo : Nat) (c9 : Nat) (k : Nat) (N : Nat) (b : Nat) (Bc : Nat) (u1014 : (Nat → Int32)) (a1014 : (Nat → Nat → Int32)) => mo + k) z.1 z.2.1 z.2.2.1 z.2.2.2.1 z.2.2.2.2.1 z.2.2.2.2.2.1 z.2.2.2.2.2.2.1 z.2.2.2.2.2.2.2) (1, 0, (fct L - 1), (f1c S (g 0)), 1000000, 0, zu4, za5) ⟨(show 1 ≤ 1 from Nat.le_refl 1), (show 1 = 1 → 0 + (fct L - 1) + 1 = fct L ∧ chk S L (fct L - 1) (f1c S (g 0)) = true ∧ (∀ i, i < L → za5 23 i = nI (dg (f1c S (g 0)) i)) ∧ ((1000000 = 1000000 ∧ bo (fun n9 => hv g T (dg n9) L S t) L (fct L - 1) (f1c S (g 0)) = (bo (fun n9 => hv g T (dg n9) L S t) L (fct L - 1) (f1c S (g 0)))) ∨ (1000000 ≤ 20000 ∧ cm (1000000, 0) (bo (fun n9 => hv g T (dg n9) L S t) L (fct L - 1) (f1c S (g 0))) = (bo (fun n9 => hv g T (dg n9) L S t) L (fct L - 1) (f1c S (g 0))) ∧ ∀ i, i < L → za5 25 i = nI (dg 0 i))) from (fun _ => ⟨by omega, by rw [hLe]; exact perms_ok _ hg6 _ hSn, by rw [hLe]; exact (fun i hi => (hrow_zu4 (i) (by omega)).trans (congrArg nI (dg_f1 hg6 (by omega)).symm)), Or.inl ⟨rfl, rfl⟩⟩)), (show 1 = 0 → 0 = fct L ∧ 1000000 = (bo (fun n9 => hv g T (dg n9) L S t) L (fct L - 1) (f1c S (g 0))).1 ∧ ∀ i, i < L → za5 25 i = nI (dg (bo (fun n9 => hv g T (dg n9) L S t) L (fct L - 1) (f1c S (g 0))).2 i) from (fun h => absurd h (by decide))), (show 1000000 ≤ 1000000 from by omega), (fun i h12 => rfl), (fun i h23 h24 h25 => rfl), hP, hD, hS, lv_sub hl [0, 1, 2, 3, 4, 5, 6] rfl⟩ ?_
  rintro ⟨mo, c9, k, N, b, Bc, u1014, a1014⟩ H locs ls ⟨hmo, h1, h0, hb2, hfu14, hfa14, hP, hD, hS, hl⟩ ih14
  have hmo : mo ≤ 1 := hmo
  have h1 : mo = 1 → c9 + k + 1 = fct L ∧ chk S L k N = true ∧ (∀ i, i < L → a1014 23 i = nI (dg N i)) ∧ ((b = 1000000 ∧ bo (fun n9 => hv g T (dg n9) L S t) L k N = (bo (fun n9 => hv g T (dg n9) L S t) L (fct L - 1) (f1c S (g 0)))) ∨ (b ≤ 20000 ∧ cm (b, Bc) (bo (fun n9 => hv g T (dg n9) L S t) L k N) = (bo (fun n9 => hv g T (dg n9) L S t) L (fct L - 1) (f1c S (g 0))) ∧ ∀ i, i < L → a1014 25 i = nI (dg Bc i))) := h1
  have h0 : mo = 0 → c9 = fct L ∧ b = (bo (fun n9 => hv g T (dg n9) L S t) L (fct L - 1) (f1c S (g 0))).1 ∧ ∀ i, i < L → a1014 25 i = nI (dg (bo (fun n9 => hv g T (dg n9) L S t) L (fct L - 1) (f1c S (g 0))).2 i) := h0
  have hb2 : b ≤ 1000000 := hb2
  have hfu14 : ∀ i : Nat, i ≠ 12 → u1014 i = zu4 i := hfu14
  have hfa14 : ∀ i : Nat, i ≠ 23 → i ≠ 24 → i ≠ 25 → a1014 i = za5 i := hfa14
  have hP : va_P D vwCl (xN cA r (u1014, a1014, th, LP, tf)) H := hP
  have hD : va_D A (xN cA r (u1014, a1014, th, LP, tf)) := hD
  have hl : lv_has ls 8 [(6, .int (nI c9)), (5, .int (nI b)), (4, .int (nI (fct L))), (0, .ref (r 4)), (1, .int (nI S)), (2, .int (nI (g 1))), (3, .int (nI t))] := hl
  rcases (show mo = 0 ∨ mo = 1 by omega) with hm7 | hm7
  · obtain ⟨hce, hbe, hkd⟩ := h0 hm7
    refine lv_iload hx hb dX2_leastHarm_14 (lv_at hl 0 rfl) ?_
    refine lv_iload hx hb dX2_leastHarm_16 (lv_at hl 2 rfl) ?_
    refine rn_ge (x := c9) (y := fct L) (tgt := 65) hx hb (by omega) (by omega) dX2_leastHarm_18 (by decide) (fun c_8 => ?_) (fun c_8 => absurd c_8 (by omega))
    refine lv_iload hx hb dX2_leastHarm_65 (lv_at hl 1 rfl) ?_
    exact wIret hx hb hr hlocks (v := (nI b)) (u1014, a1014, th, LP, tf) (⟨by rw [← hbe], hkd, ((hfu14 11 (by decide)).trans ((hu11_zu4).trans (congrArg nI hLe.symm))), (fun i h11 h12 => Eq.trans (hfu14 i h12) (hfu_zu4 i h11)), (fun i h23 h24 h25 => Eq.trans (hfa14 i h23 h24 h25) (hfa_zu4 i h23)), rfl⟩) hK hP hD hS dX2_leastHarm_67
  · obtain ⟨hce, hck, hrowN, hacc⟩ := h1 hm7
    have hrgN : ∀ k, k < L → dg N k < g 0 := fun k hk => bi_in hSn (chk_in hck k hk)
    have hvo := hv_ord (t := t) hB hck hSn (by omega)
    have hvl : hv g T (dg N) L S t ≤ 20000 := by have h9 := sm_le (F := oH g T (dg N) (ct g T (dg N) L) (pd g T (dg N) L) t) (M := 2727) (n := L) (fun x hx7 => oH_le hB (hrgN x hx7) (by omega)); omega
    refine lv_iload hx hb dX2_leastHarm_14 (lv_at hl 0 rfl) ?_
    refine lv_iload hx hb dX2_leastHarm_16 (lv_at hl 2 rfl) ?_
    refine rn_ge (x := c9) (y := fct L) (tgt := 65) hx hb (by omega) (by omega) dX2_leastHarm_18 (by decide) (fun c_9 => absurd c_9 (by omega)) (fun c_9 => ?_)
    rcases hacc with hacc | hacc
    · have hbb : b = 1000000 := hacc.1
      have hbv : (hv g T (dg N) L S t) < b := by omega
      refine lv_iload hx hb dX2_leastHarm_21 (lv_at hl 1 rfl) ?_
      refine rz_le (x := b) (tgt := 65) hx hb (by omega) dX2_leastHarm_23 (by decide) (fun c_10 => absurd c_10 (by omega)) (fun c_10 => ?_)
      refine lv_aload_n hx hb dX2_leastHarm_26 rfl (lv_at hl 3 rfl) ?_
      refine lv_iload_n hx hb dX2_leastHarm_27 rfl (lv_at hl 5 rfl) ?_
      refine wVv (eO_S tO) (As := [.int (nI (g 1))]) (rest := []) ⟨hx, hb, hml, hown, hts⟩ (kX2_time l D cA r _ u1014 a1014 th LP tf tO g T (dg N) L (NT.keep (NT.keep hM (hfu_zu4 1 (by decide)) (hfa_zu4 13 (by decide)) (hfa_zu4 14 (by decide)) (hfa_zu4 15 (by decide)) (hfa_zu4 16 (by decide))) (hfu14 1 (by decide)) (hfa14 13 (by decide) (by decide) (by decide)) (hfa14 14 (by decide) (by decide) (by decide)) (hfa14 15 (by decide) (by decide) (by decide)) (hfa14 16 (by decide) (by decide) (by decide))) hB ((hfu14 11 (by decide)).trans ((hu11_zu4).trans (congrArg nI hLe.symm))) hL6 (fun k hk => hrowN (k) hk) hrgN (chk_ne hck)) (cwV 1 hts gX2_leastHarm_X2_time rfl rfl rfl (by decide +kernel) ⟨Nat.le_of_ble_eq_true rfl, Nat.le_of_ble_eq_true rfl⟩) (va_recv hK hP (ci := 2) (q0 := 4) rfl rfl) hK hP hD hS hA hE rfl hl.1 rfl (Nat.le_of_ble_eq_true rfl) dX2_leastHarm_28 ⟨Nat.zero_le _, Nat.zero_le _⟩ (fun z_13 H locs hw_12 hP hD hS => ?_)
      obtain ⟨zu14, za15, zq16⟩ := z_13
      obtain ⟨hpd_zu14, hcm_zu14, hfu_zu14, hfa_zu14, hzq_zu14⟩ := hw_12
      have hzq_zu14 : zq16 = (th, LP, tf) := hzq_zu14
      subst hzq_zu14
      have hpd_zu14 : zu14 12 = nI (if L = 0 then 0 else pd g T (dg N) L) := hpd_zu14
      have hcm_zu14 : ∀ k, k < L → za15 24 (dg N k) = nI (ct g T (dg N) L k) := hcm_zu14
      have hfu_zu14 : ∀ i, i ≠ 12 → zu14 i = u1014 i := hfu_zu14
      have hfa_zu14 : ∀ i, i ≠ 24 → za15 i = a1014 i := hfa_zu14
      have hP : va_P D vwCl (xN cA r (zu14, za15, th, LP, tf)) H := hP
      have hD : va_D A (xN cA r (zu14, za15, th, LP, tf)) := hD
      refine lv_aload_n hx hb dX2_leastHarm_31 rfl (lv_at hl 3 rfl) ?_
      refine lv_iload_n hx hb dX2_leastHarm_32 rfl (lv_at hl 6 rfl) ?_
      refine lv_iload hx hb dX2_leastHarm_33 (lv_at hl 1 rfl) ?_
      refine wVi (eO_S tO) (As := [.int (nI t), .int (nI b)]) (rest := []) ⟨hx, hb, hml, hown, hts⟩ (kX2_harmBelow l D cA r _ zu14 za15 th LP tf tO g T (dg N) L (ct g T (dg N) L) (if L = 0 then 0 else pd g T (dg N) L) t b (NT.keep (NT.keep (NT.keep hM (hfu_zu4 1 (by decide)) (hfa_zu4 13 (by decide)) (hfa_zu4 14 (by decide)) (hfa_zu4 15 (by decide)) (hfa_zu4 16 (by decide))) (hfu14 1 (by decide)) (hfa14 13 (by decide) (by decide) (by decide)) (hfa14 14 (by decide) (by decide) (by decide)) (hfa14 15 (by decide) (by decide) (by decide)) (hfa14 16 (by decide) (by decide) (by decide))) (hfu_zu14 1 (by decide)) (hfa_zu14 13 (by decide)) (hfa_zu14 14 (by decide)) (hfa_zu14 15 (by decide)) (hfa_zu14 16 (by decide))) hB ((hfu_zu14 11 (by decide)).trans ((hfu14 11 (by decide)).trans ((hu11_zu4).trans (congrArg nI hLe.symm)))) hL6 (fun k hk => (congrFun (hfa_zu14 23 (by decide)) (k)).trans (hrowN (k) hk)) hrgN hcm_zu14 (fun k hk => by have h8 := ct_le hB (by omega) hrgN k; omega) (hpd_zu14) (by split; exact Nat.zero_le _; have h8 := pd_pos hB (by omega) hrgN; omega) (by omega) (by omega)) (cwV 2 hts gX2_leastHarm_X2_harmBelow rfl rfl rfl (by decide +kernel) ⟨Nat.le_of_ble_eq_true rfl, Nat.le_of_ble_eq_true rfl⟩) (va_recv hK hP (ci := 2) (q0 := 4) rfl rfl) hK hP hD hS hA hE rfl hl.1 rfl (Nat.le_of_ble_eq_true rfl) dX2_leastHarm_35 ⟨Nat.zero_le _, Nat.zero_le _⟩ (fun rv_17 z_19 H locs hw_18 hP hD hS => ?_)
      obtain ⟨sP, rfl, hsPb, hsP, hzP⟩ := hw_18
      subst hzP
      have hP : va_P D vwCl (xN cA r (zu14, za15, th, LP, tf)) H := hP
      have hD : va_D A (xN cA r (zu14, za15, th, LP, tf)) := hD
      have hsm : sm (oH g T (dg N) (ct g T (dg N) L) (if L = 0 then 0 else pd g T (dg N) L) t) L = (hv g T (dg N) L S t) := by rw [hvo]; rcases Nat.eq_zero_or_pos L with q | q; rw [q]; rfl; rw [if_neg (by omega)]
      rw [hsm] at hsP
      refine lv_istore (lv' := [(7, .int (nI sP)), (6, .int (nI c9)), (5, .int (nI b)), (4, .int (nI (fct L))), (0, .ref (r 4)), (1, .int (nI S)), (2, .int (nI (g 1))), (3, .int (nI t))]) hx hb dX2_leastHarm_38 hl (by decide) rfl (fun ls hl => ?_)
      refine lv_iload hx hb dX2_leastHarm_40 (lv_at hl 0 rfl) ?_
      refine lv_iload hx hb dX2_leastHarm_42 (lv_at hl 2 rfl) ?_
      refine rn_ge (x := sP) (y := b) (tgt := 55) hx hb (by omega) (by omega) dX2_leastHarm_44 (by decide) (fun c_20 => absurd c_20 (by omega)) (fun c_20 => ?_)
      refine lv_iload hx hb dX2_leastHarm_47 (lv_at hl 0 rfl) ?_
      refine lv_istore (lv' := [(5, .int (nI sP)), (7, .int (nI sP)), (6, .int (nI c9)), (4, .int (nI (fct L))), (0, .ref (r 4)), (1, .int (nI S)), (2, .int (nI (g 1))), (3, .int (nI t))]) hx hb dX2_leastHarm_49 hl (by decide) rfl (fun ls hl => ?_)
      refine lv_aload_n hx hb dX2_leastHarm_51 rfl (lv_at hl 4 rfl) ?_
      refine wVv (eO_S tO) (As := []) (rest := []) ⟨hx, hb, hml, hown, hts⟩ (kX2_keep l D cA r _ zu14 za15 th LP tf tO (dg N) L ((hfu_zu14 11 (by decide)).trans ((hfu14 11 (by decide)).trans ((hu11_zu4).trans (congrArg nI hLe.symm)))) hL6 (fun k hk => (congrFun (hfa_zu14 23 (by decide)) (k)).trans (hrowN (k) hk))) (cwV 0 hts gX2_leastHarm_X2_keep rfl rfl rfl (by decide +kernel) ⟨Nat.le_of_ble_eq_true rfl, Nat.le_of_ble_eq_true rfl⟩) (va_recv hK hP (ci := 2) (q0 := 4) rfl rfl) hK hP hD hS hA hE rfl hl.1 rfl (Nat.le_of_ble_eq_true rfl) dX2_leastHarm_52 ⟨Nat.zero_le _, Nat.zero_le _⟩ (fun z_23 H locs hw_22 hP hD hS => ?_)
      obtain ⟨zu24, za25, zq26⟩ := z_23
      obtain ⟨hkp_zu24, hfu_zu24, hfa_zu24, hzq_zu24⟩ := hw_22
      have hzq_zu24 : zq26 = (th, LP, tf) := hzq_zu24
      subst hzq_zu24
      have hkp_zu24 : ∀ j, j < L → za25 25 j = nI ((dg N) j) := hkp_zu24
      have hfu_zu24 : ∀ i, zu24 i = zu14 i := hfu_zu24
      have hfa_zu24 : ∀ i, i ≠ 25 → za25 i = za15 i := hfa_zu24
      have hue_zu24 : zu14 = zu24 := Eq.symm (funext hfu_zu24)
      subst hue_zu24
      have hP : va_P D vwCl (xN cA r (zu14, za25, th, LP, tf)) H := hP
      have hD : va_D A (xN cA r (zu14, za25, th, LP, tf)) := hD
      refine lv_aload_n hx hb dX2_leastHarm_55 rfl (lv_at hl 4 rfl) ?_
      refine wVv (eO_S tO) (As := []) (rest := []) ⟨hx, hb, hml, hown, hts⟩ (kX2_goOn l D cA r _ zu14 za25 th LP tf tO L N ((hfu_zu14 11 (by decide)).trans ((hfu14 11 (by decide)).trans ((hu11_zu4).trans (congrArg nI hLe.symm)))) hL6 (fun k hk => (congrFun (hfa_zu24 23 (by decide)) (k)).trans ((congrFun (hfa_zu14 23 (by decide)) (k)).trans (hrowN (k) hk)))) (cwV 0 hts gX2_leastHarm_X2_goOn rfl rfl rfl (by decide +kernel) ⟨Nat.le_of_ble_eq_true rfl, Nat.le_of_ble_eq_true rfl⟩) (va_recv hK hP (ci := 2) (q0 := 4) rfl rfl) hK hP hD hS hA hE rfl hl.1 rfl (Nat.le_of_ble_eq_true rfl) dX2_leastHarm_56 ⟨Nat.zero_le _, Nat.zero_le _⟩ (fun z_29 H locs hw_28 hP hD hS => ?_)
      obtain ⟨zu30, za31, zq32⟩ := z_29
      rcases hw_28 with ⟨hfk0, hz_zu30⟩ | ⟨hfk1, hzu_zu30, hrw_zu30, hfa_zu30, hzq_zu30⟩
      · cases hz_zu30
        have hP : va_P D vwCl (xN cA r (zu14, za25, th, LP, tf)) H := hP
        have hD : va_D A (xN cA r (zu14, za25, th, LP, tf)) := hD
        refine rn_iinc (x := c9) (d := 1) (lv' := [(6, .int (nI (c9 + 1))), (5, .int (nI sP)), (7, .int (nI sP)), (4, .int (nI (fct L))), (0, .ref (r 4)), (1, .int (nI S)), (2, .int (nI (g 1))), (3, .int (nI t))]) hx hb rfl dX2_leastHarm_59 hl (k := 2) rfl (by decide) rfl (fun ls hl => ?_)
        refine lv_goto (tgt := 14) hx hb dX2_leastHarm_62 (by decide) ?_
        have hkeep : ∀ i, i < L → za25 25 i = nI (dg N i) := fun i hi => hkp_zu24 i hi
        have hsv : sP = (hv g T (dg N) L S t) := by rw [hvo]; omega
        have hk0 := chk_end hck hfk0
        have hfe : (bo (fun n9 => hv g T (dg n9) L S t) L (fct L - 1) (f1c S (g 0))) = (sP, N) := by rw [← hacc.2, hk0, hsv]; rfl
        exact ih14 (0, (c9 + 1), 0, 0, sP, N, zu14, za25) _ _ _ (show 0 + 0 < mo + k from by omega) ⟨(show 0 ≤ 1 from Nat.zero_le _), (show 0 = 1 → (c9 + 1) + 0 + 1 = fct L ∧ chk S L 0 0 = true ∧ (∀ i, i < L → za25 23 i = nI (dg 0 i)) ∧ ((sP = 1000000 ∧ bo (fun n9 => hv g T (dg n9) L S t) L 0 0 = (bo (fun n9 => hv g T (dg n9) L S t) L (fct L - 1) (f1c S (g 0)))) ∨ (sP ≤ 20000 ∧ cm (sP, N) (bo (fun n9 => hv g T (dg n9) L S t) L 0 0) = (bo (fun n9 => hv g T (dg n9) L S t) L (fct L - 1) (f1c S (g 0))) ∧ ∀ i, i < L → za25 25 i = nI (dg N i))) from (fun h => absurd h (by decide))), (show 0 = 0 → (c9 + 1) = fct L ∧ sP = (bo (fun n9 => hv g T (dg n9) L S t) L (fct L - 1) (f1c S (g 0))).1 ∧ ∀ i, i < L → za25 25 i = nI (dg (bo (fun n9 => hv g T (dg n9) L S t) L (fct L - 1) (f1c S (g 0))).2 i) from (fun _ => ⟨by omega, by rw [hfe], by rw [hfe]; exact hkeep⟩)), (show sP ≤ 1000000 from by omega), (fun i h12 => Eq.trans (hfu_zu14 i h12) (hfu14 i h12)), (fun i h23 h24 h25 => Eq.trans (hfa_zu24 i h25) (Eq.trans (hfa_zu14 i h24) (hfa14 i h23 h24 h25))), hP, hD, hS, lv_sub hl [0, 1, 3, 4, 5, 6, 7] rfl⟩
      · have hzu_zu30 : zu14 = zu30 := Eq.symm hzu_zu30
        subst hzu_zu30
        have hzq_zu30 : zq32 = (th, LP, tf) := hzq_zu30
        subst hzq_zu30
        have hrw_zu30 : ∀ k, k < L → za31 23 k = nI (dg (nx N L) k) := hrw_zu30
        have hfa_zu30 : ∀ i, i ≠ 23 → za31 i = za25 i := hfa_zu30
        have hP : va_P D vwCl (xN cA r (zu14, za31, th, LP, tf)) H := hP
        have hD : va_D A (xN cA r (zu14, za31, th, LP, tf)) := hD
        refine rn_iinc (x := c9) (d := 1) (lv' := [(6, .int (nI (c9 + 1))), (5, .int (nI sP)), (7, .int (nI sP)), (4, .int (nI (fct L))), (0, .ref (r 4)), (1, .int (nI S)), (2, .int (nI (g 1))), (3, .int (nI t))]) hx hb rfl dX2_leastHarm_59 hl (k := 2) rfl (by decide) rfl (fun ls hl => ?_)
        refine lv_goto (tgt := 14) hx hb dX2_leastHarm_62 (by decide) ?_
        have hkeep : ∀ i, i < L → za31 25 i = nI (dg N i) := fun i hi => (congrFun (hfa_zu30 25 (by decide)) i).trans (hkp_zu24 i hi)
        have hsv : sP = (hv g T (dg N) L S t) := by rw [hvo]; omega
        obtain ⟨hk0, hck2⟩ := chk_next hck hfk1
        have hfe : cm (sP, N) (bo (fun n9 => hv g T (dg n9) L S t) L (k - 1) (nx N L)) = (bo (fun n9 => hv g T (dg n9) L S t) L (fct L - 1) (f1c S (g 0))) := by rw [← hacc.2, bo_step hk0, hsv]
        exact ih14 (1, (c9 + 1), (k - 1), (nx N L), sP, N, zu14, za31) _ _ _ (show 1 + (k - 1) < mo + k from by omega) ⟨(show 1 ≤ 1 from Nat.le_refl 1), (show 1 = 1 → (c9 + 1) + (k - 1) + 1 = fct L ∧ chk S L (k - 1) (nx N L) = true ∧ (∀ i, i < L → za31 23 i = nI (dg (nx N L) i)) ∧ ((sP = 1000000 ∧ bo (fun n9 => hv g T (dg n9) L S t) L (k - 1) (nx N L) = (bo (fun n9 => hv g T (dg n9) L S t) L (fct L - 1) (f1c S (g 0)))) ∨ (sP ≤ 20000 ∧ cm (sP, N) (bo (fun n9 => hv g T (dg n9) L S t) L (k - 1) (nx N L)) = (bo (fun n9 => hv g T (dg n9) L S t) L (fct L - 1) (f1c S (g 0))) ∧ ∀ i, i < L → za31 25 i = nI (dg N i))) from (fun _ => ⟨by omega, hck2, hrw_zu30, Or.inr ⟨by omega, hfe, hkeep⟩⟩)), (show 1 = 0 → (c9 + 1) = fct L ∧ sP = (bo (fun n9 => hv g T (dg n9) L S t) L (fct L - 1) (f1c S (g 0))).1 ∧ ∀ i, i < L → za31 25 i = nI (dg (bo (fun n9 => hv g T (dg n9) L S t) L (fct L - 1) (f1c S (g 0))).2 i) from (fun h => absurd h (by decide))), (show sP ≤ 1000000 from by omega), (fun i h12 => Eq.trans (hfu_zu14 i h12) (hfu14 i h12)), (fun i h23 h24 h25 => Eq.trans (hfa_zu30 i h23) (Eq.trans (hfa_zu24 i h25) (Eq.trans (hfa_zu14 i h24) (hfa14 i h23 h24 h25)))), hP, hD, hS, lv_sub hl [0, 1, 3, 4, 5, 6, 7] rfl⟩
    · have hkb := hacc.2.2
      refine lv_iload hx hb dX2_leastHarm_21 (lv_at hl 1 rfl) ?_
      refine rz_le (x := b) (tgt := 65) hx hb (by omega) dX2_leastHarm_23 (by decide) (fun c_33 => ?_) (fun c_33 => ?_)
      · refine lv_iload hx hb dX2_leastHarm_65 (lv_at hl 1 rfl) ?_
        exact wIret hx hb hr hlocks (v := (nI b)) (u1014, a1014, th, LP, tf) (⟨by rw [← hacc.2.1, show b = 0 by omega, cm_zero], by rw [← hacc.2.1, show b = 0 by omega, cm_zero]; exact hkb, ((hfu14 11 (by decide)).trans ((hu11_zu4).trans (congrArg nI hLe.symm))), (fun i h11 h12 => Eq.trans (hfu14 i h12) (hfu_zu4 i h11)), (fun i h23 h24 h25 => Eq.trans (hfa14 i h23 h24 h25) (hfa_zu4 i h23)), rfl⟩) hK hP hD hS dX2_leastHarm_67
      · refine lv_aload_n hx hb dX2_leastHarm_26 rfl (lv_at hl 3 rfl) ?_
        refine lv_iload_n hx hb dX2_leastHarm_27 rfl (lv_at hl 5 rfl) ?_
        refine wVv (eO_S tO) (As := [.int (nI (g 1))]) (rest := []) ⟨hx, hb, hml, hown, hts⟩ (kX2_time l D cA r _ u1014 a1014 th LP tf tO g T (dg N) L (NT.keep (NT.keep hM (hfu_zu4 1 (by decide)) (hfa_zu4 13 (by decide)) (hfa_zu4 14 (by decide)) (hfa_zu4 15 (by decide)) (hfa_zu4 16 (by decide))) (hfu14 1 (by decide)) (hfa14 13 (by decide) (by decide) (by decide)) (hfa14 14 (by decide) (by decide) (by decide)) (hfa14 15 (by decide) (by decide) (by decide)) (hfa14 16 (by decide) (by decide) (by decide))) hB ((hfu14 11 (by decide)).trans ((hu11_zu4).trans (congrArg nI hLe.symm))) hL6 (fun k hk => hrowN (k) hk) hrgN (chk_ne hck)) (cwV 1 hts gX2_leastHarm_X2_time rfl rfl rfl (by decide +kernel) ⟨Nat.le_of_ble_eq_true rfl, Nat.le_of_ble_eq_true rfl⟩) (va_recv hK hP (ci := 2) (q0 := 4) rfl rfl) hK hP hD hS hA hE rfl hl.1 rfl (Nat.le_of_ble_eq_true rfl) dX2_leastHarm_28 ⟨Nat.zero_le _, Nat.zero_le _⟩ (fun z_36 H locs hw_35 hP hD hS => ?_)
        obtain ⟨zu37, za38, zq39⟩ := z_36
        obtain ⟨hpd_zu37, hcm_zu37, hfu_zu37, hfa_zu37, hzq_zu37⟩ := hw_35
        have hzq_zu37 : zq39 = (th, LP, tf) := hzq_zu37
        subst hzq_zu37
        have hpd_zu37 : zu37 12 = nI (if L = 0 then 0 else pd g T (dg N) L) := hpd_zu37
        have hcm_zu37 : ∀ k, k < L → za38 24 (dg N k) = nI (ct g T (dg N) L k) := hcm_zu37
        have hfu_zu37 : ∀ i, i ≠ 12 → zu37 i = u1014 i := hfu_zu37
        have hfa_zu37 : ∀ i, i ≠ 24 → za38 i = a1014 i := hfa_zu37
        have hP : va_P D vwCl (xN cA r (zu37, za38, th, LP, tf)) H := hP
        have hD : va_D A (xN cA r (zu37, za38, th, LP, tf)) := hD
        refine lv_aload_n hx hb dX2_leastHarm_31 rfl (lv_at hl 3 rfl) ?_
        refine lv_iload_n hx hb dX2_leastHarm_32 rfl (lv_at hl 6 rfl) ?_
        refine lv_iload hx hb dX2_leastHarm_33 (lv_at hl 1 rfl) ?_
        refine wVi (eO_S tO) (As := [.int (nI t), .int (nI b)]) (rest := []) ⟨hx, hb, hml, hown, hts⟩ (kX2_harmBelow l D cA r _ zu37 za38 th LP tf tO g T (dg N) L (ct g T (dg N) L) (if L = 0 then 0 else pd g T (dg N) L) t b (NT.keep (NT.keep (NT.keep hM (hfu_zu4 1 (by decide)) (hfa_zu4 13 (by decide)) (hfa_zu4 14 (by decide)) (hfa_zu4 15 (by decide)) (hfa_zu4 16 (by decide))) (hfu14 1 (by decide)) (hfa14 13 (by decide) (by decide) (by decide)) (hfa14 14 (by decide) (by decide) (by decide)) (hfa14 15 (by decide) (by decide) (by decide)) (hfa14 16 (by decide) (by decide) (by decide))) (hfu_zu37 1 (by decide)) (hfa_zu37 13 (by decide)) (hfa_zu37 14 (by decide)) (hfa_zu37 15 (by decide)) (hfa_zu37 16 (by decide))) hB ((hfu_zu37 11 (by decide)).trans ((hfu14 11 (by decide)).trans ((hu11_zu4).trans (congrArg nI hLe.symm)))) hL6 (fun k hk => (congrFun (hfa_zu37 23 (by decide)) (k)).trans (hrowN (k) hk)) hrgN hcm_zu37 (fun k hk => by have h8 := ct_le hB (by omega) hrgN k; omega) (hpd_zu37) (by split; exact Nat.zero_le _; have h8 := pd_pos hB (by omega) hrgN; omega) (by omega) (by omega)) (cwV 2 hts gX2_leastHarm_X2_harmBelow rfl rfl rfl (by decide +kernel) ⟨Nat.le_of_ble_eq_true rfl, Nat.le_of_ble_eq_true rfl⟩) (va_recv hK hP (ci := 2) (q0 := 4) rfl rfl) hK hP hD hS hA hE rfl hl.1 rfl (Nat.le_of_ble_eq_true rfl) dX2_leastHarm_35 ⟨Nat.zero_le _, Nat.zero_le _⟩ (fun rv_40 z_42 H locs hw_41 hP hD hS => ?_)
        obtain ⟨sP, rfl, hsPb, hsP, hzP⟩ := hw_41
        subst hzP
        have hP : va_P D vwCl (xN cA r (zu37, za38, th, LP, tf)) H := hP
        have hD : va_D A (xN cA r (zu37, za38, th, LP, tf)) := hD
        have hsm : sm (oH g T (dg N) (ct g T (dg N) L) (if L = 0 then 0 else pd g T (dg N) L) t) L = (hv g T (dg N) L S t) := by rw [hvo]; rcases Nat.eq_zero_or_pos L with q | q; rw [q]; rfl; rw [if_neg (by omega)]
        rw [hsm] at hsP
        refine lv_istore (lv' := [(7, .int (nI sP)), (6, .int (nI c9)), (5, .int (nI b)), (4, .int (nI (fct L))), (0, .ref (r 4)), (1, .int (nI S)), (2, .int (nI (g 1))), (3, .int (nI t))]) hx hb dX2_leastHarm_38 hl (by decide) rfl (fun ls hl => ?_)
        refine lv_iload hx hb dX2_leastHarm_40 (lv_at hl 0 rfl) ?_
        refine lv_iload hx hb dX2_leastHarm_42 (lv_at hl 2 rfl) ?_
        refine rn_ge (x := sP) (y := b) (tgt := 55) hx hb (by omega) (by omega) dX2_leastHarm_44 (by decide) (fun c_43 => ?_) (fun c_43 => ?_)
        · refine lv_aload_n hx hb dX2_leastHarm_55 rfl (lv_at hl 4 rfl) ?_
          refine wVv (eO_S tO) (As := []) (rest := []) ⟨hx, hb, hml, hown, hts⟩ (kX2_goOn l D cA r _ zu37 za38 th LP tf tO L N ((hfu_zu37 11 (by decide)).trans ((hfu14 11 (by decide)).trans ((hu11_zu4).trans (congrArg nI hLe.symm)))) hL6 (fun k hk => (congrFun (hfa_zu37 23 (by decide)) (k)).trans (hrowN (k) hk))) (cwV 0 hts gX2_leastHarm_X2_goOn rfl rfl rfl (by decide +kernel) ⟨Nat.le_of_ble_eq_true rfl, Nat.le_of_ble_eq_true rfl⟩) (va_recv hK hP (ci := 2) (q0 := 4) rfl rfl) hK hP hD hS hA hE rfl hl.1 rfl (Nat.le_of_ble_eq_true rfl) dX2_leastHarm_56 ⟨Nat.zero_le _, Nat.zero_le _⟩ (fun z_46 H locs hw_45 hP hD hS => ?_)
          obtain ⟨zu47, za48, zq49⟩ := z_46
          rcases hw_45 with ⟨hfk0, hz_zu47⟩ | ⟨hfk1, hzu_zu47, hrw_zu47, hfa_zu47, hzq_zu47⟩
          · cases hz_zu47
            have hP : va_P D vwCl (xN cA r (zu37, za38, th, LP, tf)) H := hP
            have hD : va_D A (xN cA r (zu37, za38, th, LP, tf)) := hD
            refine rn_iinc (x := c9) (d := 1) (lv' := [(6, .int (nI (c9 + 1))), (7, .int (nI sP)), (5, .int (nI b)), (4, .int (nI (fct L))), (0, .ref (r 4)), (1, .int (nI S)), (2, .int (nI (g 1))), (3, .int (nI t))]) hx hb rfl dX2_leastHarm_59 hl (k := 1) rfl (by decide) rfl (fun ls hl => ?_)
            refine lv_goto (tgt := 14) hx hb dX2_leastHarm_62 (by decide) ?_
            have hkeep : ∀ i, i < L → za38 25 i = nI (dg Bc i) := fun i hi => (congrFun (hfa_zu37 25 (by decide)) i).trans (hkb i hi)
            have hk0 := chk_end hck hfk0
            have hfe : (bo (fun n9 => hv g T (dg n9) L S t) L (fct L - 1) (f1c S (g 0))) = (b, Bc) := by rw [← hacc.2.1, hk0]; show cm (b, Bc) ((hv g T (dg N) L S t), N) = _; unfold cm; rw [if_neg (show ¬ (hv g T (dg N) L S t) < b by omega)]
            exact ih14 (0, (c9 + 1), 0, 0, b, Bc, zu37, za38) _ _ _ (show 0 + 0 < mo + k from by omega) ⟨(show 0 ≤ 1 from Nat.zero_le _), (show 0 = 1 → (c9 + 1) + 0 + 1 = fct L ∧ chk S L 0 0 = true ∧ (∀ i, i < L → za38 23 i = nI (dg 0 i)) ∧ ((b = 1000000 ∧ bo (fun n9 => hv g T (dg n9) L S t) L 0 0 = (bo (fun n9 => hv g T (dg n9) L S t) L (fct L - 1) (f1c S (g 0)))) ∨ (b ≤ 20000 ∧ cm (b, Bc) (bo (fun n9 => hv g T (dg n9) L S t) L 0 0) = (bo (fun n9 => hv g T (dg n9) L S t) L (fct L - 1) (f1c S (g 0))) ∧ ∀ i, i < L → za38 25 i = nI (dg Bc i))) from (fun h => absurd h (by decide))), (show 0 = 0 → (c9 + 1) = fct L ∧ b = (bo (fun n9 => hv g T (dg n9) L S t) L (fct L - 1) (f1c S (g 0))).1 ∧ ∀ i, i < L → za38 25 i = nI (dg (bo (fun n9 => hv g T (dg n9) L S t) L (fct L - 1) (f1c S (g 0))).2 i) from (fun _ => ⟨by omega, by rw [hfe], by rw [hfe]; exact hkeep⟩)), (show b ≤ 1000000 from by omega), (fun i h12 => Eq.trans (hfu_zu37 i h12) (hfu14 i h12)), (fun i h23 h24 h25 => Eq.trans (hfa_zu37 i h24) (hfa14 i h23 h24 h25)), hP, hD, hS, lv_sub hl [0, 2, 3, 4, 5, 6, 7] rfl⟩
          · have hzu_zu47 : zu37 = zu47 := Eq.symm hzu_zu47
            subst hzu_zu47
            have hzq_zu47 : zq49 = (th, LP, tf) := hzq_zu47
            subst hzq_zu47
            have hrw_zu47 : ∀ k, k < L → za48 23 k = nI (dg (nx N L) k) := hrw_zu47
            have hfa_zu47 : ∀ i, i ≠ 23 → za48 i = za38 i := hfa_zu47
            have hP : va_P D vwCl (xN cA r (zu37, za48, th, LP, tf)) H := hP
            have hD : va_D A (xN cA r (zu37, za48, th, LP, tf)) := hD
            refine rn_iinc (x := c9) (d := 1) (lv' := [(6, .int (nI (c9 + 1))), (7, .int (nI sP)), (5, .int (nI b)), (4, .int (nI (fct L))), (0, .ref (r 4)), (1, .int (nI S)), (2, .int (nI (g 1))), (3, .int (nI t))]) hx hb rfl dX2_leastHarm_59 hl (k := 1) rfl (by decide) rfl (fun ls hl => ?_)
            refine lv_goto (tgt := 14) hx hb dX2_leastHarm_62 (by decide) ?_
            have hkeep : ∀ i, i < L → za48 25 i = nI (dg Bc i) := fun i hi => (congrFun (Eq.trans (hfa_zu47 25 (by decide)) (hfa_zu37 25 (by decide))) i).trans (hkb i hi)
            obtain ⟨hk0, hck2⟩ := chk_next hck hfk1
            have hfe : cm (b, Bc) (bo (fun n9 => hv g T (dg n9) L S t) L (k - 1) (nx N L)) = (bo (fun n9 => hv g T (dg n9) L S t) L (fct L - 1) (f1c S (g 0))) := by rw [← hacc.2.1, bo_step hk0, cm_as, show cm (b, Bc) ((hv g T (dg N) L S t), N) = (b, Bc) from (by unfold cm; rw [if_neg (show ¬ (hv g T (dg N) L S t) < b by omega)])]
            exact ih14 (1, (c9 + 1), (k - 1), (nx N L), b, Bc, zu37, za48) _ _ _ (show 1 + (k - 1) < mo + k from by omega) ⟨(show 1 ≤ 1 from Nat.le_refl 1), (show 1 = 1 → (c9 + 1) + (k - 1) + 1 = fct L ∧ chk S L (k - 1) (nx N L) = true ∧ (∀ i, i < L → za48 23 i = nI (dg (nx N L) i)) ∧ ((b = 1000000 ∧ bo (fun n9 => hv g T (dg n9) L S t) L (k - 1) (nx N L) = (bo (fun n9 => hv g T (dg n9) L S t) L (fct L - 1) (f1c S (g 0)))) ∨ (b ≤ 20000 ∧ cm (b, Bc) (bo (fun n9 => hv g T (dg n9) L S t) L (k - 1) (nx N L)) = (bo (fun n9 => hv g T (dg n9) L S t) L (fct L - 1) (f1c S (g 0))) ∧ ∀ i, i < L → za48 25 i = nI (dg Bc i))) from (fun _ => ⟨by omega, hck2, hrw_zu47, Or.inr ⟨by omega, hfe, hkeep⟩⟩)), (show 1 = 0 → (c9 + 1) = fct L ∧ b = (bo (fun n9 => hv g T (dg n9) L S t) L (fct L - 1) (f1c S (g 0))).1 ∧ ∀ i, i < L → za48 25 i = nI (dg (bo (fun n9 => hv g T (dg n9) L S t) L (fct L - 1) (f1c S (g 0))).2 i) from (fun h => absurd h (by decide))), (show b ≤ 1000000 from by omega), (fun i h12 => Eq.trans (hfu_zu37 i h12) (hfu14 i h12)), (fun i h23 h24 h25 => Eq.trans (hfa_zu47 i h23) (Eq.trans (hfa_zu37 i h24) (hfa14 i h23 h24 h25))), hP, hD, hS, lv_sub hl [0, 2, 3, 4, 5, 6, 7] rfl⟩
        · refine lv_iload hx hb dX2_leastHarm_47 (lv_at hl 0 rfl) ?_
          refine lv_istore (lv' := [(5, .int (nI sP)), (7, .int (nI sP)), (6, .int (nI c9)), (4, .int (nI (fct L))), (0, .ref (r 4)), (1, .int (nI S)), (2, .int (nI (g 1))), (3, .int (nI t))]) hx hb dX2_leastHarm_49 hl (by decide) rfl (fun ls hl => ?_)
          refine lv_aload_n hx hb dX2_leastHarm_51 rfl (lv_at hl 4 rfl) ?_
          refine wVv (eO_S tO) (As := []) (rest := []) ⟨hx, hb, hml, hown, hts⟩ (kX2_keep l D cA r _ zu37 za38 th LP tf tO (dg N) L ((hfu_zu37 11 (by decide)).trans ((hfu14 11 (by decide)).trans ((hu11_zu4).trans (congrArg nI hLe.symm)))) hL6 (fun k hk => (congrFun (hfa_zu37 23 (by decide)) (k)).trans (hrowN (k) hk))) (cwV 0 hts gX2_leastHarm_X2_keep rfl rfl rfl (by decide +kernel) ⟨Nat.le_of_ble_eq_true rfl, Nat.le_of_ble_eq_true rfl⟩) (va_recv hK hP (ci := 2) (q0 := 4) rfl rfl) hK hP hD hS hA hE rfl hl.1 rfl (Nat.le_of_ble_eq_true rfl) dX2_leastHarm_52 ⟨Nat.zero_le _, Nat.zero_le _⟩ (fun z_52 H locs hw_51 hP hD hS => ?_)
          obtain ⟨zu53, za54, zq55⟩ := z_52
          obtain ⟨hkp_zu53, hfu_zu53, hfa_zu53, hzq_zu53⟩ := hw_51
          have hzq_zu53 : zq55 = (th, LP, tf) := hzq_zu53
          subst hzq_zu53
          have hkp_zu53 : ∀ j, j < L → za54 25 j = nI ((dg N) j) := hkp_zu53
          have hfu_zu53 : ∀ i, zu53 i = zu37 i := hfu_zu53
          have hfa_zu53 : ∀ i, i ≠ 25 → za54 i = za38 i := hfa_zu53
          have hue_zu53 : zu37 = zu53 := Eq.symm (funext hfu_zu53)
          subst hue_zu53
          have hP : va_P D vwCl (xN cA r (zu37, za54, th, LP, tf)) H := hP
          have hD : va_D A (xN cA r (zu37, za54, th, LP, tf)) := hD
          refine lv_aload_n hx hb dX2_leastHarm_55 rfl (lv_at hl 4 rfl) ?_
          refine wVv (eO_S tO) (As := []) (rest := []) ⟨hx, hb, hml, hown, hts⟩ (kX2_goOn l D cA r _ zu37 za54 th LP tf tO L N ((hfu_zu37 11 (by decide)).trans ((hfu14 11 (by decide)).trans ((hu11_zu4).trans (congrArg nI hLe.symm)))) hL6 (fun k hk => (congrFun (hfa_zu53 23 (by decide)) (k)).trans ((congrFun (hfa_zu37 23 (by decide)) (k)).trans (hrowN (k) hk)))) (cwV 0 hts gX2_leastHarm_X2_goOn rfl rfl rfl (by decide +kernel) ⟨Nat.le_of_ble_eq_true rfl, Nat.le_of_ble_eq_true rfl⟩) (va_recv hK hP (ci := 2) (q0 := 4) rfl rfl) hK hP hD hS hA hE rfl hl.1 rfl (Nat.le_of_ble_eq_true rfl) dX2_leastHarm_56 ⟨Nat.zero_le _, Nat.zero_le _⟩ (fun z_58 H locs hw_57 hP hD hS => ?_)
          obtain ⟨zu59, za60, zq61⟩ := z_58
          rcases hw_57 with ⟨hfk0, hz_zu59⟩ | ⟨hfk1, hzu_zu59, hrw_zu59, hfa_zu59, hzq_zu59⟩
          · cases hz_zu59
            have hP : va_P D vwCl (xN cA r (zu37, za54, th, LP, tf)) H := hP
            have hD : va_D A (xN cA r (zu37, za54, th, LP, tf)) := hD
            refine rn_iinc (x := c9) (d := 1) (lv' := [(6, .int (nI (c9 + 1))), (5, .int (nI sP)), (7, .int (nI sP)), (4, .int (nI (fct L))), (0, .ref (r 4)), (1, .int (nI S)), (2, .int (nI (g 1))), (3, .int (nI t))]) hx hb rfl dX2_leastHarm_59 hl (k := 2) rfl (by decide) rfl (fun ls hl => ?_)
            refine lv_goto (tgt := 14) hx hb dX2_leastHarm_62 (by decide) ?_
            have hkeep : ∀ i, i < L → za54 25 i = nI (dg N i) := fun i hi => hkp_zu53 i hi
            have hsv : sP = (hv g T (dg N) L S t) := by rw [hvo]; omega
            have hk0 := chk_end hck hfk0
            have hfe : (bo (fun n9 => hv g T (dg n9) L S t) L (fct L - 1) (f1c S (g 0))) = (sP, N) := by rw [← hacc.2.1, hk0, hsv]; show cm (b, Bc) ((hv g T (dg N) L S t), N) = _; unfold cm; rw [if_pos (show (hv g T (dg N) L S t) < b by omega)]
            exact ih14 (0, (c9 + 1), 0, 0, sP, N, zu37, za54) _ _ _ (show 0 + 0 < mo + k from by omega) ⟨(show 0 ≤ 1 from Nat.zero_le _), (show 0 = 1 → (c9 + 1) + 0 + 1 = fct L ∧ chk S L 0 0 = true ∧ (∀ i, i < L → za54 23 i = nI (dg 0 i)) ∧ ((sP = 1000000 ∧ bo (fun n9 => hv g T (dg n9) L S t) L 0 0 = (bo (fun n9 => hv g T (dg n9) L S t) L (fct L - 1) (f1c S (g 0)))) ∨ (sP ≤ 20000 ∧ cm (sP, N) (bo (fun n9 => hv g T (dg n9) L S t) L 0 0) = (bo (fun n9 => hv g T (dg n9) L S t) L (fct L - 1) (f1c S (g 0))) ∧ ∀ i, i < L → za54 25 i = nI (dg N i))) from (fun h => absurd h (by decide))), (show 0 = 0 → (c9 + 1) = fct L ∧ sP = (bo (fun n9 => hv g T (dg n9) L S t) L (fct L - 1) (f1c S (g 0))).1 ∧ ∀ i, i < L → za54 25 i = nI (dg (bo (fun n9 => hv g T (dg n9) L S t) L (fct L - 1) (f1c S (g 0))).2 i) from (fun _ => ⟨by omega, by rw [hfe], by rw [hfe]; exact hkeep⟩)), (show sP ≤ 1000000 from by omega), (fun i h12 => Eq.trans (hfu_zu37 i h12) (hfu14 i h12)), (fun i h23 h24 h25 => Eq.trans (hfa_zu53 i h25) (Eq.trans (hfa_zu37 i h24) (hfa14 i h23 h24 h25))), hP, hD, hS, lv_sub hl [0, 1, 3, 4, 5, 6, 7] rfl⟩
          · have hzu_zu59 : zu37 = zu59 := Eq.symm hzu_zu59
            subst hzu_zu59
            have hzq_zu59 : zq61 = (th, LP, tf) := hzq_zu59
            subst hzq_zu59
            have hrw_zu59 : ∀ k, k < L → za60 23 k = nI (dg (nx N L) k) := hrw_zu59
            have hfa_zu59 : ∀ i, i ≠ 23 → za60 i = za54 i := hfa_zu59
            have hP : va_P D vwCl (xN cA r (zu37, za60, th, LP, tf)) H := hP
            have hD : va_D A (xN cA r (zu37, za60, th, LP, tf)) := hD
            refine rn_iinc (x := c9) (d := 1) (lv' := [(6, .int (nI (c9 + 1))), (5, .int (nI sP)), (7, .int (nI sP)), (4, .int (nI (fct L))), (0, .ref (r 4)), (1, .int (nI S)), (2, .int (nI (g 1))), (3, .int (nI t))]) hx hb rfl dX2_leastHarm_59 hl (k := 2) rfl (by decide) rfl (fun ls hl => ?_)
            refine lv_goto (tgt := 14) hx hb dX2_leastHarm_62 (by decide) ?_
            have hkeep : ∀ i, i < L → za60 25 i = nI (dg N i) := fun i hi => (congrFun (hfa_zu59 25 (by decide)) i).trans (hkp_zu53 i hi)
            have hsv : sP = (hv g T (dg N) L S t) := by rw [hvo]; omega
            obtain ⟨hk0, hck2⟩ := chk_next hck hfk1
            have hfe : cm (sP, N) (bo (fun n9 => hv g T (dg n9) L S t) L (k - 1) (nx N L)) = (bo (fun n9 => hv g T (dg n9) L S t) L (fct L - 1) (f1c S (g 0))) := by rw [← hacc.2.1, bo_step hk0, cm_as, hsv, show cm (b, Bc) ((hv g T (dg N) L S t), N) = ((hv g T (dg N) L S t), N) from (by unfold cm; rw [if_pos (show (hv g T (dg N) L S t) < b by omega)])]
            exact ih14 (1, (c9 + 1), (k - 1), (nx N L), sP, N, zu37, za60) _ _ _ (show 1 + (k - 1) < mo + k from by omega) ⟨(show 1 ≤ 1 from Nat.le_refl 1), (show 1 = 1 → (c9 + 1) + (k - 1) + 1 = fct L ∧ chk S L (k - 1) (nx N L) = true ∧ (∀ i, i < L → za60 23 i = nI (dg (nx N L) i)) ∧ ((sP = 1000000 ∧ bo (fun n9 => hv g T (dg n9) L S t) L (k - 1) (nx N L) = (bo (fun n9 => hv g T (dg n9) L S t) L (fct L - 1) (f1c S (g 0)))) ∨ (sP ≤ 20000 ∧ cm (sP, N) (bo (fun n9 => hv g T (dg n9) L S t) L (k - 1) (nx N L)) = (bo (fun n9 => hv g T (dg n9) L S t) L (fct L - 1) (f1c S (g 0))) ∧ ∀ i, i < L → za60 25 i = nI (dg N i))) from (fun _ => ⟨by omega, hck2, hrw_zu59, Or.inr ⟨by omega, hfe, hkeep⟩⟩)), (show 1 = 0 → (c9 + 1) = fct L ∧ sP = (bo (fun n9 => hv g T (dg n9) L S t) L (fct L - 1) (f1c S (g 0))).1 ∧ ∀ i, i < L → za60 25 i = nI (dg (bo (fun n9 => hv g T (dg n9) L S t) L (fct L - 1) (f1c S (g 0))).2 i) from (fun h => absurd h (by decide))), (show sP ≤ 1000000 from by omega), (fun i h12 => Eq.trans (hfu_zu37 i h12) (hfu14 i h12)), (fun i h23 h24 h25 => Eq.trans (hfa_zu59 i h23) (Eq.trans (hfa_zu53 i h25) (Eq.trans (hfa_zu37 i h24) (hfa14 i h23 h24 h25)))), hP, hD, hS, lv_sub hl [0, 1, 3, 4, 5, 6, 7] rfl⟩

set_option maxHeartbeats 4000000 in
set_option maxRecDepth 100000 in
theorem kX2_countSafe (l : Launch) (D : va_G) (cA : Nat → ClassId) (r : Nat → Nat) (sz : Nat) (u : Nat → Int32) (a : Nat → Nat → Int32) (th : Nat → Option Nat) (LP : List Nat) (tf : Nat → va_E) (tO : Nat) (g : Nat → Nat) (T : Nat → Nat → Nat) (S en : Nat) (hM : NT u a g T) (hB : TB g T) (hsm : u 2 = nI (g 1)) (hen : en < 2147483648) (hSn : S < 2 ^ g 0) (L : Nat) (hLe : L = ol S (g 0)) : Met l yX2_countSafe wsX2_countSafe ({ frames := 2, cells := 0, slots := 0, locals := 50 } : Room) (va_Pc [.ref (r 4), .int (nI S), .int (nI en)] (wA D vwCl (tyA cA) (eO tO) (xN cA r) (u, a, th, LP, tf) sz)) (va_Qi (fun (v : Int32) (z : sN) => ∃ s7, v = nI s7 ∧ s7 ≤ 720 ∧ (s7 = (cq (pS g T L S) L (fct L - 1) (f1c S (g 0))) ∨ (en ≤ s7 ∧ en ≤ (cq (pS g T L S) L (fct L - 1) (f1c S (g 0))))) ∧ z.1 11 = nI L ∧ (∀ i, i ≠ 11 → i ≠ 12 → z.1 i = u i) ∧ (∀ i, i ≠ 23 → i ≠ 24 → z.2.1 i = a i) ∧ z.2.2 = (th, LP, tf)) (wB D vwCl (tyA cA) (xN cA r) (va_A (xN cA r (u, a, th, LP, tf)) sz)) (va_A (xN cA r (u, a, th, LP, tf)) sz)) 0 0 (va_A (xN cA r (u, a, th, LP, tf)) sz) := by
  refine Met.ofW (cc := cX2_countSafe) (maxL := 6) (ret := (some .int)) (by decide) rfl ?_
  intro p e s m args below meth c s₁ B hml hv
  obtain ⟨rfl, hsz, hP, hK, hD0, hE⟩ := hv
  have hx := B.exec
  have hb := B.bytes
  have hr := B.returns
  have hts := atoms_spec (ws := wsX2_countSafe) B.pre
  have hown : s.vm.findClass RX2 = some m.cls := findClass_of_methodNamed B.named
  have hlocks := B.notSynchronized
  subst hsz
  have hD := hD0.self (sz := s.heap.size)
  generalize hAe : va_A (xN cA r (u, a, th, LP, tf)) s.heap.size = A at hD hE ⊢
  have hA : ∀ q : Nat, s.heap.size ≤ q → A q := fun q h => by rw [← hAe]; exact Or.inr h
  have hS : va_S A s.heap s.heap [] := va_S.rf
  have hinX2 : ∀ w ∈ u_ws RX2 TX2 6, w ∈ wsX2_countSafe := by decide +kernel
  have hinX5 : ∀ w ∈ u_ws RX5 TX5 8, w ∈ wsX2_countSafe := by decide +kernel
  have hl := lv_entry ([.ref (r 4), .int (nI S), .int (nI en)]) (n := 6) (Nat.le_of_ble_eq_true rfl)
  rw [lg_entry_eq]
  generalize (lg_sl ([.ref (r 4), .int (nI S), .int (nI en)]) ++ List.replicate (6 - (lg_sl ([.ref (r 4), .int (nI S), .int (nI en)])).length) Slot.unset).toArray = ls at hl ⊢
  have hl : lv_has ls 6 [(0, .ref (r 4)), (1, .int (nI S)), (2, .int (nI en))] := hl
  have hg6 := hB.1
  have hS64 : S < 64 := p2_64 hg6 hSn
  have hL6 : L ≤ 6 := by have := ol_le S (g 0); omega
  have hfc := fct_le L
  refine lv_aload_n hx hb dX2_countSafe_0 rfl (lv_at hl 0 rfl) ?_
  refine lv_iload_n hx hb dX2_countSafe_1 rfl (lv_at hl 1 rfl) ?_
  refine wVi (eO_S tO) (As := [.int (nI S)]) (rest := []) ⟨hx, hb, hml, hown, hts⟩ (kX2_begin l D cA r _ u a th LP tf tO g T S hM hB (by omega)) (cwV 1 hts gX2_countSafe_X2_begin rfl rfl rfl (by decide +kernel) ⟨Nat.le_of_ble_eq_true rfl, Nat.le_of_ble_eq_true rfl⟩) (va_recv hK hP (ci := 2) (q0 := 4) rfl rfl) hK hP hD hS hA hE rfl hl.1 rfl (Nat.le_of_ble_eq_true rfl) dX2_countSafe_2 ⟨Nat.zero_le _, Nat.zero_le _⟩ (fun rv_1 z_3 H locs hw_2 hP hD hS => ?_)
  obtain ⟨zu4, za5, zq6⟩ := z_3
  obtain ⟨rfl, hu11_zu4, hrow_zu4, hfu_zu4, hfa_zu4, hzq_zu4⟩ := hw_2
  have hzq_zu4 : zq6 = (th, LP, tf) := hzq_zu4
  subst hzq_zu4
  have hu11_zu4 : zu4 11 = nI (ol S (g 0)) := hu11_zu4
  have hrow_zu4 : ∀ k, k < ol S (g 0) → za5 23 k = nI (of1 S (g 0) k) := hrow_zu4
  have hfu_zu4 : ∀ i, i ≠ 11 → zu4 i = u i := hfu_zu4
  have hfa_zu4 : ∀ i, i ≠ 23 → za5 i = a i := hfa_zu4
  have hP : va_P D vwCl (xN cA r (zu4, za5, th, LP, tf)) H := hP
  have hD : va_D A (xN cA r (zu4, za5, th, LP, tf)) := hD
  refine lv_topi (fun y_7 ey_7 => ?_)
  obtain rfl : y_7 = (nI (fct L)) := ey_7.trans (by rw [hLe])
  refine lv_istore_n (lv' := [(3, .int (nI (fct L))), (0, .ref (r 4)), (1, .int (nI S)), (2, .int (nI en))]) hx hb dX2_countSafe_5 rfl hl (by decide) rfl (fun ls hl => ?_)
  refine lv_iconst (v := (nI 0)) hx hb dX2_countSafe_6 rfl ?_
  refine lv_istore (lv' := [(4, .int (nI 0)), (3, .int (nI (fct L))), (0, .ref (r 4)), (1, .int (nI S)), (2, .int (nI en))]) hx hb dX2_countSafe_7 hl (by decide) rfl (fun ls hl => ?_)
  refine lv_iconst (v := (nI 0)) hx hb dX2_countSafe_9 rfl ?_
  refine lv_istore (lv' := [(5, .int (nI 0)), (4, .int (nI 0)), (3, .int (nI (fct L))), (0, .ref (r 4)), (1, .int (nI S)), (2, .int (nI en))]) hx hb dX2_countSafe_10 hl (by decide) rfl (fun ls hl => ?_)
  refine wLoop (τ := Nat × Nat × Nat × Nat × Nat × (Nat → Int32) × (Nat → Nat → Int32)) (fun z H locs ls => (fun (mo : Nat) (c9 : Nat) (k : Nat) (N : Nat) (cn : Nat) (u1012 : (Nat → Int32)) (a1012 : (Nat → Nat → Int32)) => (mo ≤ 1) ∧ (mo = 1 → c9 + k + 1 = fct L ∧ chk S L k N = true ∧ (∀ i, i < L → a1012 23 i = nI (dg N i)) ∧ cn + cq (pS g T L S) L k N = (cq (pS g T L S) L (fct L - 1) (f1c S (g 0)))) ∧ (mo = 0 → c9 = fct L ∧ cn = (cq (pS g T L S) L (fct L - 1) (f1c S (g 0)))) ∧ (cn ≤ c9) ∧ (∀ i : Nat, i ≠ 12 → u1012 i = zu4 i) ∧ (∀ i : Nat, i ≠ 23 → i ≠ 24 → a1012 i = za5 i) ∧ (va_P D vwCl (xN cA r (u1012, a1012, th, LP, tf)) H) ∧ (va_D A (xN cA r (u1012, a1012, th, LP, tf))) ∧ (va_S A s.heap H locs) ∧ (lv_has ls 6 [(5, .int (nI c9)), (4, .int (nI cn)), (3, .int (nI (fct L))), (0, .ref (r 4)), (1, .int (nI S)), (2, .int (nI en))])) z.1 z.2.1 z.2.2.1 z.2.2.2.1 z.2.2.2.2.1 z.2.2.2.2.2.1 z.2.2.2.2.2.2) (fun z => (fun (mo : Nat) (c9 : Nat) (k : Nat) (N : Nat) (cn : Nat) (u1012 : (Nat → Int32)) (a1012 : (Nat → Nat → Int32)) => mo + k) z.1 z.2.1 z.2.2.1 z.2.2.2.1 z.2.2.2.2.1 z.2.2.2.2.2.1 z.2.2.2.2.2.2) (1, 0, (fct L - 1), (f1c S (g 0)), 0, zu4, za5) ⟨(show 1 ≤ 1 from Nat.le_refl 1), (show 1 = 1 → 0 + (fct L - 1) + 1 = fct L ∧ chk S L (fct L - 1) (f1c S (g 0)) = true ∧ (∀ i, i < L → za5 23 i = nI (dg (f1c S (g 0)) i)) ∧ 0 + cq (pS g T L S) L (fct L - 1) (f1c S (g 0)) = (cq (pS g T L S) L (fct L - 1) (f1c S (g 0))) from (fun _ => ⟨by omega, by rw [hLe]; exact perms_ok _ hg6 _ hSn, by rw [hLe]; exact (fun i hi => (hrow_zu4 (i) (by omega)).trans (congrArg nI (dg_f1 hg6 (by omega)).symm)), Nat.zero_add _⟩)), (show 1 = 0 → 0 = fct L ∧ 0 = (cq (pS g T L S) L (fct L - 1) (f1c S (g 0))) from (fun h => absurd h (by decide))), (show 0 ≤ 0 from Nat.zero_le _), (fun i h12 => rfl), (fun i h23 h24 => rfl), hP, hD, hS, lv_sub hl [0, 1, 2, 3, 4, 5] rfl⟩ ?_
  rintro ⟨mo, c9, k, N, cn, u1012, a1012⟩ H locs ls ⟨hmo, h1, h0, hcn, hfu12, hfa12, hP, hD, hS, hl⟩ ih12
  have hmo : mo ≤ 1 := hmo
  have h1 : mo = 1 → c9 + k + 1 = fct L ∧ chk S L k N = true ∧ (∀ i, i < L → a1012 23 i = nI (dg N i)) ∧ cn + cq (pS g T L S) L k N = (cq (pS g T L S) L (fct L - 1) (f1c S (g 0))) := h1
  have h0 : mo = 0 → c9 = fct L ∧ cn = (cq (pS g T L S) L (fct L - 1) (f1c S (g 0))) := h0
  have hcn : cn ≤ c9 := hcn
  have hfu12 : ∀ i : Nat, i ≠ 12 → u1012 i = zu4 i := hfu12
  have hfa12 : ∀ i : Nat, i ≠ 23 → i ≠ 24 → a1012 i = za5 i := hfa12
  have hP : va_P D vwCl (xN cA r (u1012, a1012, th, LP, tf)) H := hP
  have hD : va_D A (xN cA r (u1012, a1012, th, LP, tf)) := hD
  have hl : lv_has ls 6 [(5, .int (nI c9)), (4, .int (nI cn)), (3, .int (nI (fct L))), (0, .ref (r 4)), (1, .int (nI S)), (2, .int (nI en))] := hl
  rcases (show mo = 0 ∨ mo = 1 by omega) with hm7 | hm7
  · obtain ⟨hce, hbe⟩ := h0 hm7
    refine lv_iload hx hb dX2_countSafe_12 (lv_at hl 0 rfl) ?_
    refine lv_iload_n hx hb dX2_countSafe_14 rfl (lv_at hl 2 rfl) ?_
    refine rn_ge (x := c9) (y := fct L) (tgt := 55) hx hb (by omega) (by omega) dX2_countSafe_15 (by decide) (fun c_8 => ?_) (fun c_8 => absurd c_8 (by omega))
    refine lv_iload hx hb dX2_countSafe_55 (lv_at hl 1 rfl) ?_
    exact wIret hx hb hr hlocks (v := (nI cn)) (u1012, a1012, th, LP, tf) (⟨cn, rfl, by omega, Or.inl hbe, ((hfu12 11 (by decide)).trans ((hu11_zu4).trans (congrArg nI hLe.symm))), (fun i h11 h12 => Eq.trans (hfu12 i h12) (hfu_zu4 i h11)), (fun i h23 h24 => Eq.trans (hfa12 i h23 h24) (hfa_zu4 i h23)), rfl⟩) hK hP hD hS dX2_countSafe_57
  · obtain ⟨hce, hck, hrowN, hacc⟩ := h1 hm7
    have hrgN : ∀ k, k < L → dg N k < g 0 := fun k hk => bi_in hSn (chk_in hck k hk)
    have hso := sf_ord hB hck hSn
    have hcq := cq_le (pS_le g T L S) L k N
    refine lv_iload hx hb dX2_countSafe_12 (lv_at hl 0 rfl) ?_
    refine lv_iload_n hx hb dX2_countSafe_14 rfl (lv_at hl 2 rfl) ?_
    refine rn_ge (x := c9) (y := fct L) (tgt := 55) hx hb (by omega) (by omega) dX2_countSafe_15 (by decide) (fun c_9 => absurd c_9 (by omega)) (fun c_9 => ?_)
    refine lv_iload hx hb dX2_countSafe_18 (lv_at hl 1 rfl) ?_
    refine lv_iload_n hx hb dX2_countSafe_20 rfl (lv_at hl 5 rfl) ?_
    refine rn_ge (x := cn) (y := en) (tgt := 55) hx hb (by omega) (by omega) dX2_countSafe_21 (by decide) (fun c_10 => ?_) (fun c_10 => ?_)
    · refine lv_iload hx hb dX2_countSafe_55 (lv_at hl 1 rfl) ?_
      exact wIret hx hb hr hlocks (v := (nI cn)) (u1012, a1012, th, LP, tf) (⟨cn, rfl, by omega, Or.inr ⟨by omega, by omega⟩, ((hfu12 11 (by decide)).trans ((hu11_zu4).trans (congrArg nI hLe.symm))), (fun i h11 h12 => Eq.trans (hfu12 i h12) (hfu_zu4 i h11)), (fun i h23 h24 => Eq.trans (hfa12 i h23 h24) (hfa_zu4 i h23)), rfl⟩) hK hP hD hS dX2_countSafe_57
    · refine lv_aload_n hx hb dX2_countSafe_24 rfl (lv_at hl 3 rfl) ?_
      refine lv_aload_n hx hb dX2_countSafe_25 rfl (lv_at hl 3 rfl) ?_
      refine va_get (D := D) (ci := 2) (v := .ref (r 1)) (C := RX2) (T := TX2) (N := 6) hx hb hts hinX2 hown hK hP 4 rfl rfl 0 (by decide) (hts (.fieldLink RX2 28 "OneNail$Orders" "town" "LOneNail$Street;") (by decide +kernel)) (fun _ h9 => h9) rfl dX2_countSafe_26 ?_
      refine va_get (D := D) (ci := 5) (v := .int (nI (g 1))) (C := RX5) (T := TX5) (N := 8) hx hb hts hinX5 hown hK hP 1 rfl rfl 1 (by decide) (hts (.fieldLink RX2 51 "OneNail$Street" "smithyPlace" "I") (by decide +kernel)) (fun _ h9 => h9) (congrArg (fun z => some (Value.int z)) ((hfu12 2 (by decide)).trans ((hfu_zu4 2 (by decide)).trans (hsm)))) dX2_countSafe_29 ?_
      refine wVv (eO_S tO) (As := [.int (nI (g 1))]) (rest := []) ⟨hx, hb, hml, hown, hts⟩ (kX2_time l D cA r _ u1012 a1012 th LP tf tO g T (dg N) L (NT.keep (NT.keep hM (hfu_zu4 1 (by decide)) (hfa_zu4 13 (by decide)) (hfa_zu4 14 (by decide)) (hfa_zu4 15 (by decide)) (hfa_zu4 16 (by decide))) (hfu12 1 (by decide)) (hfa12 13 (by decide) (by decide)) (hfa12 14 (by decide) (by decide)) (hfa12 15 (by decide) (by decide)) (hfa12 16 (by decide) (by decide))) hB ((hfu12 11 (by decide)).trans ((hu11_zu4).trans (congrArg nI hLe.symm))) hL6 (fun k hk => hrowN (k) hk) hrgN (chk_ne hck)) (cwV 1 hts gX2_countSafe_X2_time rfl rfl rfl (by decide +kernel) ⟨Nat.le_of_ble_eq_true rfl, Nat.le_of_ble_eq_true rfl⟩) (va_recv hK hP (ci := 2) (q0 := 4) rfl rfl) hK hP hD hS hA hE rfl hl.1 rfl (Nat.le_of_ble_eq_true rfl) dX2_countSafe_32 ⟨Nat.zero_le _, Nat.zero_le _⟩ (fun z_13 H locs hw_12 hP hD hS => ?_)
      obtain ⟨zu14, za15, zq16⟩ := z_13
      obtain ⟨hpd_zu14, hcm_zu14, hfu_zu14, hfa_zu14, hzq_zu14⟩ := hw_12
      have hzq_zu14 : zq16 = (th, LP, tf) := hzq_zu14
      subst hzq_zu14
      have hpd_zu14 : zu14 12 = nI (if L = 0 then 0 else pd g T (dg N) L) := hpd_zu14
      have hcm_zu14 : ∀ k, k < L → za15 24 (dg N k) = nI (ct g T (dg N) L k) := hcm_zu14
      have hfu_zu14 : ∀ i, i ≠ 12 → zu14 i = u1012 i := hfu_zu14
      have hfa_zu14 : ∀ i, i ≠ 24 → za15 i = a1012 i := hfa_zu14
      have hP : va_P D vwCl (xN cA r (zu14, za15, th, LP, tf)) H := hP
      have hD : va_D A (xN cA r (zu14, za15, th, LP, tf)) := hD
      refine lv_aload_n hx hb dX2_countSafe_35 rfl (lv_at hl 3 rfl) ?_
      refine wVi (eO_S tO) (As := []) (rest := []) ⟨hx, hb, hml, hown, hts⟩ (kX2_nothingEverFalls l D cA r _ zu14 za15 th LP tf tO g T (dg N) L (ct g T (dg N) L) (if L = 0 then 0 else pd g T (dg N) L) (NT.keep (NT.keep (NT.keep hM (hfu_zu4 1 (by decide)) (hfa_zu4 13 (by decide)) (hfa_zu4 14 (by decide)) (hfa_zu4 15 (by decide)) (hfa_zu4 16 (by decide))) (hfu12 1 (by decide)) (hfa12 13 (by decide) (by decide)) (hfa12 14 (by decide) (by decide)) (hfa12 15 (by decide) (by decide)) (hfa12 16 (by decide) (by decide))) (hfu_zu14 1 (by decide)) (hfa_zu14 13 (by decide)) (hfa_zu14 14 (by decide)) (hfa_zu14 15 (by decide)) (hfa_zu14 16 (by decide))) hB ((hfu_zu14 11 (by decide)).trans ((hfu12 11 (by decide)).trans ((hu11_zu4).trans (congrArg nI hLe.symm)))) hL6 (fun k hk => (congrFun (hfa_zu14 23 (by decide)) (k)).trans (hrowN (k) hk)) hrgN hcm_zu14 (fun k hk => by have h8 := ct_le hB (by omega) hrgN k; omega) (hpd_zu14) (by split; exact Nat.zero_le _; have h8 := pd_pos hB (by omega) hrgN; omega)) (cwV 0 hts gX2_countSafe_X2_nothingEverFalls rfl rfl rfl (by decide +kernel) ⟨Nat.le_of_ble_eq_true rfl, Nat.le_of_ble_eq_true rfl⟩) (va_recv hK hP (ci := 2) (q0 := 4) rfl rfl) hK hP hD hS hA hE rfl hl.1 rfl (Nat.le_of_ble_eq_true rfl) dX2_countSafe_36 ⟨Nat.zero_le _, Nat.zero_le _⟩ (fun rv_17 z_19 H locs hw_18 hP hD hS => ?_)
      obtain ⟨hz_20, hw_18⟩ := hw_18
      subst hz_20
      have hP : va_P D vwCl (xN cA r (zu14, za15, th, LP, tf)) H := hP
      have hD : va_D A (xN cA r (zu14, za15, th, LP, tf)) := hD
      rcases hw_18 with ⟨rfl, b_21⟩ | ⟨rfl, b_21⟩
      · refine lv_if_eq (tgt := 45) hx hb dX2_countSafe_39 (by decide) (fun c_22 => absurd c_22 (by decide)) (fun _ => ?_)
        refine rn_iinc (x := cn) (d := 1) (lv' := [(4, .int (nI (cn + 1))), (5, .int (nI c9)), (3, .int (nI (fct L))), (0, .ref (r 4)), (1, .int (nI S)), (2, .int (nI en))]) hx hb rfl dX2_countSafe_42 hl (k := 1) rfl (by decide) rfl (fun ls hl => ?_)
        refine lv_aload_n hx hb dX2_countSafe_45 rfl (lv_at hl 3 rfl) ?_
        refine wVv (eO_S tO) (As := []) (rest := []) ⟨hx, hb, hml, hown, hts⟩ (kX2_goOn l D cA r _ zu14 za15 th LP tf tO L N ((hfu_zu14 11 (by decide)).trans ((hfu12 11 (by decide)).trans ((hu11_zu4).trans (congrArg nI hLe.symm)))) hL6 (fun k hk => (congrFun (hfa_zu14 23 (by decide)) (k)).trans (hrowN (k) hk))) (cwV 0 hts gX2_countSafe_X2_goOn rfl rfl rfl (by decide +kernel) ⟨Nat.le_of_ble_eq_true rfl, Nat.le_of_ble_eq_true rfl⟩) (va_recv hK hP (ci := 2) (q0 := 4) rfl rfl) hK hP hD hS hA hE rfl hl.1 rfl (Nat.le_of_ble_eq_true rfl) dX2_countSafe_46 ⟨Nat.zero_le _, Nat.zero_le _⟩ (fun z_25 H locs hw_24 hP hD hS => ?_)
        obtain ⟨zu26, za27, zq28⟩ := z_25
        rcases hw_24 with ⟨hfk0, hz_zu26⟩ | ⟨hfk1, hzu_zu26, hrw_zu26, hfa_zu26, hzq_zu26⟩
        · cases hz_zu26
          have hP : va_P D vwCl (xN cA r (zu14, za15, th, LP, tf)) H := hP
          have hD : va_D A (xN cA r (zu14, za15, th, LP, tf)) := hD
          refine rn_iinc (x := c9) (d := 1) (lv' := [(5, .int (nI (c9 + 1))), (4, .int (nI (cn + 1))), (3, .int (nI (fct L))), (0, .ref (r 4)), (1, .int (nI S)), (2, .int (nI en))]) hx hb rfl dX2_countSafe_49 hl (k := 1) rfl (by decide) rfl (fun ls hl => ?_)
          refine lv_goto (tgt := 12) hx hb dX2_countSafe_52 (by decide) ?_
          have hp1 : pS g T L S N = 1 := cif_pos (hso.mpr b_21)
          have hk0 := chk_end hck hfk0
          exact ih12 (0, (c9 + 1), 0, 0, (cn + 1), zu14, za15) _ _ _ (show 0 + 0 < mo + k from by omega) ⟨(show 0 ≤ 1 from Nat.zero_le _), (show 0 = 1 → (c9 + 1) + 0 + 1 = fct L ∧ chk S L 0 0 = true ∧ (∀ i, i < L → za15 23 i = nI (dg 0 i)) ∧ (cn + 1) + cq (pS g T L S) L 0 0 = (cq (pS g T L S) L (fct L - 1) (f1c S (g 0))) from (fun h => absurd h (by decide))), (show 0 = 0 → (c9 + 1) = fct L ∧ (cn + 1) = (cq (pS g T L S) L (fct L - 1) (f1c S (g 0))) from (fun _ => ⟨by omega, by rw [hk0] at hacc; have e7 : cq (pS g T L S) L 0 N = pS g T L S N := rfl; omega⟩)), (show (cn + 1) ≤ (c9 + 1) from by omega), (fun i h12 => Eq.trans (hfu_zu14 i h12) (hfu12 i h12)), (fun i h23 h24 => Eq.trans (hfa_zu14 i h24) (hfa12 i h23 h24)), hP, hD, hS, lv_sub hl [0, 1, 2, 3, 4, 5] rfl⟩
        · have hzu_zu26 : zu14 = zu26 := Eq.symm hzu_zu26
          subst hzu_zu26
          have hzq_zu26 : zq28 = (th, LP, tf) := hzq_zu26
          subst hzq_zu26
          have hrw_zu26 : ∀ k, k < L → za27 23 k = nI (dg (nx N L) k) := hrw_zu26
          have hfa_zu26 : ∀ i, i ≠ 23 → za27 i = za15 i := hfa_zu26
          have hP : va_P D vwCl (xN cA r (zu14, za27, th, LP, tf)) H := hP
          have hD : va_D A (xN cA r (zu14, za27, th, LP, tf)) := hD
          refine rn_iinc (x := c9) (d := 1) (lv' := [(5, .int (nI (c9 + 1))), (4, .int (nI (cn + 1))), (3, .int (nI (fct L))), (0, .ref (r 4)), (1, .int (nI S)), (2, .int (nI en))]) hx hb rfl dX2_countSafe_49 hl (k := 1) rfl (by decide) rfl (fun ls hl => ?_)
          refine lv_goto (tgt := 12) hx hb dX2_countSafe_52 (by decide) ?_
          have hp1 : pS g T L S N = 1 := cif_pos (hso.mpr b_21)
          obtain ⟨hk0, hck2⟩ := chk_next hck hfk1
          exact ih12 (1, (c9 + 1), (k - 1), (nx N L), (cn + 1), zu14, za27) _ _ _ (show 1 + (k - 1) < mo + k from by omega) ⟨(show 1 ≤ 1 from Nat.le_refl 1), (show 1 = 1 → (c9 + 1) + (k - 1) + 1 = fct L ∧ chk S L (k - 1) (nx N L) = true ∧ (∀ i, i < L → za27 23 i = nI (dg (nx N L) i)) ∧ (cn + 1) + cq (pS g T L S) L (k - 1) (nx N L) = (cq (pS g T L S) L (fct L - 1) (f1c S (g 0))) from (fun _ => ⟨by omega, hck2, hrw_zu26, by rw [cq_step hk0] at hacc; omega⟩)), (show 1 = 0 → (c9 + 1) = fct L ∧ (cn + 1) = (cq (pS g T L S) L (fct L - 1) (f1c S (g 0))) from (fun h => absurd h (by decide))), (show (cn + 1) ≤ (c9 + 1) from by omega), (fun i h12 => Eq.trans (hfu_zu14 i h12) (hfu12 i h12)), (fun i h23 h24 => Eq.trans (hfa_zu26 i h23) (Eq.trans (hfa_zu14 i h24) (hfa12 i h23 h24))), hP, hD, hS, lv_sub hl [0, 1, 2, 3, 4, 5] rfl⟩
      · refine lv_if_eq (tgt := 45) hx hb dX2_countSafe_39 (by decide) (fun _ => ?_) (fun c_29 => absurd c_29 (by decide))
        refine lv_aload_n hx hb dX2_countSafe_45 rfl (lv_at hl 3 rfl) ?_
        refine wVv (eO_S tO) (As := []) (rest := []) ⟨hx, hb, hml, hown, hts⟩ (kX2_goOn l D cA r _ zu14 za15 th LP tf tO L N ((hfu_zu14 11 (by decide)).trans ((hfu12 11 (by decide)).trans ((hu11_zu4).trans (congrArg nI hLe.symm)))) hL6 (fun k hk => (congrFun (hfa_zu14 23 (by decide)) (k)).trans (hrowN (k) hk))) (cwV 0 hts gX2_countSafe_X2_goOn rfl rfl rfl (by decide +kernel) ⟨Nat.le_of_ble_eq_true rfl, Nat.le_of_ble_eq_true rfl⟩) (va_recv hK hP (ci := 2) (q0 := 4) rfl rfl) hK hP hD hS hA hE rfl hl.1 rfl (Nat.le_of_ble_eq_true rfl) dX2_countSafe_46 ⟨Nat.zero_le _, Nat.zero_le _⟩ (fun z_32 H locs hw_31 hP hD hS => ?_)
        obtain ⟨zu33, za34, zq35⟩ := z_32
        rcases hw_31 with ⟨hfk0, hz_zu33⟩ | ⟨hfk1, hzu_zu33, hrw_zu33, hfa_zu33, hzq_zu33⟩
        · cases hz_zu33
          have hP : va_P D vwCl (xN cA r (zu14, za15, th, LP, tf)) H := hP
          have hD : va_D A (xN cA r (zu14, za15, th, LP, tf)) := hD
          refine rn_iinc (x := c9) (d := 1) (lv' := [(5, .int (nI (c9 + 1))), (4, .int (nI cn)), (3, .int (nI (fct L))), (0, .ref (r 4)), (1, .int (nI S)), (2, .int (nI en))]) hx hb rfl dX2_countSafe_49 hl (k := 0) rfl (by decide) rfl (fun ls hl => ?_)
          refine lv_goto (tgt := 12) hx hb dX2_countSafe_52 (by decide) ?_
          have hp1 : pS g T L S N = 0 := cif_neg (fun q => b_21 (hso.mp q))
          have hk0 := chk_end hck hfk0
          exact ih12 (0, (c9 + 1), 0, 0, cn, zu14, za15) _ _ _ (show 0 + 0 < mo + k from by omega) ⟨(show 0 ≤ 1 from Nat.zero_le _), (show 0 = 1 → (c9 + 1) + 0 + 1 = fct L ∧ chk S L 0 0 = true ∧ (∀ i, i < L → za15 23 i = nI (dg 0 i)) ∧ cn + cq (pS g T L S) L 0 0 = (cq (pS g T L S) L (fct L - 1) (f1c S (g 0))) from (fun h => absurd h (by decide))), (show 0 = 0 → (c9 + 1) = fct L ∧ cn = (cq (pS g T L S) L (fct L - 1) (f1c S (g 0))) from (fun _ => ⟨by omega, by rw [hk0] at hacc; have e7 : cq (pS g T L S) L 0 N = pS g T L S N := rfl; omega⟩)), (show cn ≤ (c9 + 1) from by omega), (fun i h12 => Eq.trans (hfu_zu14 i h12) (hfu12 i h12)), (fun i h23 h24 => Eq.trans (hfa_zu14 i h24) (hfa12 i h23 h24)), hP, hD, hS, lv_sub hl [0, 1, 2, 3, 4, 5] rfl⟩
        · have hzu_zu33 : zu14 = zu33 := Eq.symm hzu_zu33
          subst hzu_zu33
          have hzq_zu33 : zq35 = (th, LP, tf) := hzq_zu33
          subst hzq_zu33
          have hrw_zu33 : ∀ k, k < L → za34 23 k = nI (dg (nx N L) k) := hrw_zu33
          have hfa_zu33 : ∀ i, i ≠ 23 → za34 i = za15 i := hfa_zu33
          have hP : va_P D vwCl (xN cA r (zu14, za34, th, LP, tf)) H := hP
          have hD : va_D A (xN cA r (zu14, za34, th, LP, tf)) := hD
          refine rn_iinc (x := c9) (d := 1) (lv' := [(5, .int (nI (c9 + 1))), (4, .int (nI cn)), (3, .int (nI (fct L))), (0, .ref (r 4)), (1, .int (nI S)), (2, .int (nI en))]) hx hb rfl dX2_countSafe_49 hl (k := 0) rfl (by decide) rfl (fun ls hl => ?_)
          refine lv_goto (tgt := 12) hx hb dX2_countSafe_52 (by decide) ?_
          have hp1 : pS g T L S N = 0 := cif_neg (fun q => b_21 (hso.mp q))
          obtain ⟨hk0, hck2⟩ := chk_next hck hfk1
          exact ih12 (1, (c9 + 1), (k - 1), (nx N L), cn, zu14, za34) _ _ _ (show 1 + (k - 1) < mo + k from by omega) ⟨(show 1 ≤ 1 from Nat.le_refl 1), (show 1 = 1 → (c9 + 1) + (k - 1) + 1 = fct L ∧ chk S L (k - 1) (nx N L) = true ∧ (∀ i, i < L → za34 23 i = nI (dg (nx N L) i)) ∧ cn + cq (pS g T L S) L (k - 1) (nx N L) = (cq (pS g T L S) L (fct L - 1) (f1c S (g 0))) from (fun _ => ⟨by omega, hck2, hrw_zu33, by rw [cq_step hk0] at hacc; omega⟩)), (show 1 = 0 → (c9 + 1) = fct L ∧ cn = (cq (pS g T L S) L (fct L - 1) (f1c S (g 0))) from (fun h => absurd h (by decide))), (show cn ≤ (c9 + 1) from by omega), (fun i h12 => Eq.trans (hfu_zu14 i h12) (hfu12 i h12)), (fun i h23 h24 => Eq.trans (hfa_zu33 i h23) (Eq.trans (hfa_zu14 i h24) (hfa12 i h23 h24))), hP, hD, hS, lv_sub hl [0, 1, 2, 3, 4, 5] rfl⟩
