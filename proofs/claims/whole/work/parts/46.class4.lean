set_option maxHeartbeats 4000000 in
set_option maxRecDepth 100000 in
theorem kX2_allAreSo (l : Launch) (D : va_G) (cA : Nat → ClassId) (r : Nat → Nat) (sz : Nat) (u : Nat → Int32) (a : Nat → Nat → Int32) (th : Nat → Option Nat) (LP : List Nat) (tf : Nat → va_E) (tO : Nat) (g : Nat → Nat) (T : Nat → Nat → Nat) (nr : Nat) (rx rm rb : Nat → Nat) (cx : Nat → Nat) (P : Nat) (hM : NT u a g T) (hB : TB g T) (hnr : u 4 = nI nr) (hnr8 : nr ≤ 8) (hrx : ∀ q, q < nr → a 17 q = nI (rx q) ∧ rx q < g 0) (hrm : ∀ q, q < nr → a 18 q = nI (rm q) ∧ rm q < 300) (hrb : ∀ q, q < nr → a 19 q = nI (rb q) ∧ rb q ≤ 1) (hcx : ∀ q, q < nr → a 24 (rx q) = nI (cx q) ∧ cx q ≤ 10000) (hPd : u 12 = nI P) (hPb : P ≤ 10000) (hP0 : 0 < P) : Met l yX2_allAreSo wsX2_allAreSo ({ frames := 1, cells := 0, slots := 0, locals := 23 } : Room) (va_Pc [.ref (r 4), .ref (r 2)] (wA D vwCl (tyA cA) (eO tO) (xN cA r) (u, a, th, LP, tf) sz)) (va_Qi (fun (v : Int32) (z : sN) => z = (u, a, th, LP, tf) ∧ ((v = nI 1 ∧ ∀ q, q < nr → ((if rm q < cx q then rm q < hd g T (rx q) else (rm q - cx q) % P < T 2 (rx q) + hd g T (rx q)) ↔ rb q = 1)) ∨ (v = nI 0 ∧ ¬ ∀ q, q < nr → ((if rm q < cx q then rm q < hd g T (rx q) else (rm q - cx q) % P < T 2 (rx q) + hd g T (rx q)) ↔ rb q = 1)))) (wB D vwCl (tyA cA) (xN cA r) (va_A (xN cA r (u, a, th, LP, tf)) sz)) (va_A (xN cA r (u, a, th, LP, tf)) sz)) 0 0 (va_A (xN cA r (u, a, th, LP, tf)) sz) := by
  refine Met.ofW (cc := cX2_allAreSo) (maxL := 3) (ret := (some .boolean)) (by decide) rfl ?_
  intro p e s m args below meth c s₁ B hml hv
  obtain ⟨rfl, hsz, hP, hK, hD0, hE⟩ := hv
  have hx := B.exec
  have hb := B.bytes
  have hr := B.returns
  have hts := atoms_spec (ws := wsX2_allAreSo) B.pre
  have hown : s.vm.findClass RX2 = some m.cls := findClass_of_methodNamed B.named
  have hlocks := B.notSynchronized
  subst hsz
  have hD := hD0.self (sz := s.heap.size)
  generalize hAe : va_A (xN cA r (u, a, th, LP, tf)) s.heap.size = A at hD hE ⊢
  have hA : ∀ q : Nat, s.heap.size ≤ q → A q := fun q h => by rw [← hAe]; exact Or.inr h
  have hS : va_S A s.heap s.heap [] := va_S.rf
  have hinX3 : ∀ w ∈ u_ws RX3 TX3 4, w ∈ wsX2_allAreSo := by decide +kernel
  have hl := lv_entry ([.ref (r 4), .ref (r 2)]) (n := 3) (Nat.le_of_ble_eq_true rfl)
  rw [lg_entry_eq]
  generalize (lg_sl ([.ref (r 4), .ref (r 2)]) ++ List.replicate (3 - (lg_sl ([.ref (r 4), .ref (r 2)])).length) Slot.unset).toArray = ls at hl ⊢
  have hl : lv_has ls 3 [(0, .ref (r 4)), (1, .ref (r 2))] := hl
  have hg6 := hB.1
  refine lv_iconst (v := (nI 0)) hx hb dX2_allAreSo_0 rfl ?_
  refine lv_istore_n (lv' := [(2, .int (nI 0)), (0, .ref (r 4)), (1, .ref (r 2))]) hx hb dX2_allAreSo_1 rfl hl (by decide) rfl (fun ls hl => ?_)
  refine wLoop (τ := Nat) (fun z H locs ls => (fun (q : Nat) => (q ≤ nr) ∧ (∀ q1, q1 < q → ((if rm q1 < cx q1 then rm q1 < hd g T (rx q1) else (rm q1 - cx q1) % P < T 2 (rx q1) + hd g T (rx q1)) ↔ rb q1 = 1)) ∧ (va_P D vwCl (xN cA r (u, a, th, LP, tf)) H) ∧ (va_D A (xN cA r (u, a, th, LP, tf))) ∧ (va_S A s.heap H locs) ∧ (lv_has ls 3 [(2, .int (nI q)), (0, .ref (r 4)), (1, .ref (r 2))])) z) (fun z => (fun (q : Nat) => nr - q) z) (0) ⟨(show 0 ≤ nr from Nat.zero_le _), (show ∀ q1, q1 < 0 → ((if rm q1 < cx q1 then rm q1 < hd g T (rx q1) else (rm q1 - cx q1) % P < T 2 (rx q1) + hd g T (rx q1)) ↔ rb q1 = 1) from (fun y h => absurd h (Nat.not_lt_zero y))), hP, hD, hS, lv_sub hl [0, 1, 2] rfl⟩ ?_
  rintro q H locs ls ⟨hq, has, hP, hD, hS, hl⟩ ih2
  have hq : q ≤ nr := hq
  have has : ∀ q1, q1 < q → ((if rm q1 < cx q1 then rm q1 < hd g T (rx q1) else (rm q1 - cx q1) % P < T 2 (rx q1) + hd g T (rx q1)) ↔ rb q1 = 1) := has
  have hP : va_P D vwCl (xN cA r (u, a, th, LP, tf)) H := hP
  have hD : va_D A (xN cA r (u, a, th, LP, tf)) := hD
  have hl : lv_has ls 3 [(2, .int (nI q)), (0, .ref (r 4)), (1, .ref (r 2))] := hl
  refine lv_iload_n hx hb dX2_allAreSo_2 rfl (lv_at hl 0 rfl) ?_
  refine lv_aload_n hx hb dX2_allAreSo_3 rfl (lv_at hl 2 rfl) ?_
  refine va_get (D := D) (ci := 3) (v := .int (nI nr)) (C := RX3) (T := TX3) (N := 4) hx hb hts hinX3 hown hK hP 2 rfl rfl 0 (by decide) (hts (.fieldLink RX2 94 "OneNail$Readings" "count" "I") (by decide +kernel)) (fun _ h9 => h9) (congrArg (fun z => some (Value.int z)) (hnr)) dX2_allAreSo_4 ?_
  refine rn_ge (x := q) (y := nr) (tgt := 43) hx hb (by omega) (by omega) dX2_allAreSo_7 (by decide) (fun c_1 => ?_) (fun c_1 => ?_)
  · refine lv_iconst (v := (nI 1)) hx hb dX2_allAreSo_43 rfl ?_
    exact wZret hx hb hr hlocks (v := (nI 1)) (by first | exact Or.inl rfl | exact Or.inr rfl) (u, a, th, LP, tf) (⟨rfl, Or.inl ⟨rfl, fun y hy => has y (by omega)⟩⟩) hK hP hD hS dX2_allAreSo_44
  · have hqx := hrx q (by omega)
    have hqm := hrm q (by omega)
    have hqb := hrb q (by omega)
    refine lv_aload_n hx hb dX2_allAreSo_10 rfl (lv_at hl 1 rfl) ?_
    refine lv_aload_n hx hb dX2_allAreSo_11 rfl (lv_at hl 2 rfl) ?_
    refine va_get (D := D) (ci := 3) (v := .ref (r 17)) (C := RX3) (T := TX3) (N := 4) hx hb hts hinX3 hown hK hP 2 rfl rfl 1 (by decide) (hts (.fieldLink RX2 97 "OneNail$Readings" "things" "[I") (by decide +kernel)) (fun _ h9 => h9) rfl dX2_allAreSo_12 ?_
    refine lv_iload_n hx hb dX2_allAreSo_15 rfl (lv_at hl 0 rfl) ?_
    refine ra_iald hx hb hK hP 17 0 (n := 8) (f := (a 17)) (j := q) (v := (nI (rx q))) rfl rfl (by omega) (by decide) ((hrx (q) (by omega)).1) dX2_allAreSo_16 ?_
    refine lv_aload_n hx hb dX2_allAreSo_17 rfl (lv_at hl 2 rfl) ?_
    refine va_get (D := D) (ci := 3) (v := .ref (r 18)) (C := RX3) (T := TX3) (N := 4) hx hb hts hinX3 hown hK hP 2 rfl rfl 2 (by decide) (hts (.fieldLink RX2 100 "OneNail$Readings" "minutes" "[I") (by decide +kernel)) (fun _ h9 => h9) rfl dX2_allAreSo_18 ?_
    refine lv_iload_n hx hb dX2_allAreSo_21 rfl (lv_at hl 0 rfl) ?_
    refine ra_iald hx hb hK hP 18 0 (n := 8) (f := (a 18)) (j := q) (v := (nI (rm q))) rfl rfl (by omega) (by decide) ((hrm (q) (by omega)).1) dX2_allAreSo_22 ?_
    refine wVi (eO_S tO) (As := [.int (nI (rx q)), .int (nI (rm q))]) (rest := []) ⟨hx, hb, hml, hown, hts⟩ (kX2_isUp l D cA r _ u a th LP tf tO g T (rx q) (rm q) (cx q) P (NT.keep hM rfl rfl rfl rfl rfl) hB (hcx q (by omega)).1 (hcx q (by omega)).2 hPd hPb hP0 (by omega) (by omega)) (cwV 2 hts gX2_allAreSo_X2_isUp rfl rfl rfl (by decide +kernel) ⟨Nat.le_of_ble_eq_true rfl, Nat.le_of_ble_eq_true rfl⟩) (va_recv hK hP (ci := 2) (q0 := 4) rfl rfl) hK hP hD hS hA hE rfl hl.1 rfl (Nat.le_of_ble_eq_true rfl) dX2_allAreSo_23 ⟨Nat.zero_le _, Nat.zero_le _⟩ (fun rv_2 z_4 H locs hw_3 hP hD hS => ?_)
    obtain ⟨hz_5, hw_3⟩ := hw_3
    subst hz_5
    have hP : va_P D vwCl (xN cA r (u, a, th, LP, tf)) H := hP
    have hD : va_D A (xN cA r (u, a, th, LP, tf)) := hD
    rcases hw_3 with ⟨rfl, b_6⟩ | ⟨rfl, b_6⟩
    · refine lv_aload_n hx hb dX2_allAreSo_26 rfl (lv_at hl 2 rfl) ?_
      refine va_get (D := D) (ci := 3) (v := .ref (r 19)) (C := RX3) (T := TX3) (N := 4) hx hb hts hinX3 hown hK hP 2 rfl rfl 3 (by decide) (hts (.fieldLink RX2 107 "OneNail$Readings" "ups" "[Z") (by decide +kernel)) (fun _ h9 => h9) rfl dX2_allAreSo_27 ?_
      refine lv_iload_n hx hb dX2_allAreSo_30 rfl (lv_at hl 0 rfl) ?_
      refine ra_zald hx hb hK hP 19 1 (n := 8) (f := (a 19)) (j := q) (v := (nI (rb q))) rfl rfl (by omega) (by decide) ((hrb (q) (by omega)).1) dX2_allAreSo_31 ?_
      refine rn_eq (x := 1) (y := rb q) (tgt := 37) hx hb (by omega) (by omega) dX2_allAreSo_32 (by decide) (fun c_7 => ?_) (fun c_7 => ?_)
      · refine rn_iinc (x := q) (d := 1) (lv' := [(2, .int (nI (q + 1))), (0, .ref (r 4)), (1, .ref (r 2))]) hx hb rfl dX2_allAreSo_37 hl (k := 0) rfl (by decide) rfl (fun ls hl => ?_)
        refine lv_goto (tgt := 2) hx hb dX2_allAreSo_40 (by decide) ?_
        exact ih2 ((q + 1)) _ _ _ (show nr - (q + 1) < nr - q from by omega) ⟨(show (q + 1) ≤ nr from by omega), (show ∀ q1, q1 < (q + 1) → ((if rm q1 < cx q1 then rm q1 < hd g T (rx q1) else (rm q1 - cx q1) % P < T 2 (rx q1) + hd g T (rx q1)) ↔ rb q1 = 1) from (lt_s (p := fun q => ((if rm q < cx q then rm q < hd g T (rx q) else (rm q - cx q) % P < T 2 (rx q) + hd g T (rx q)) ↔ rb q = 1)) has ⟨fun _ => by omega, fun _ => b_6⟩)), hP, hD, hS, lv_sub hl [0, 1, 2] rfl⟩
      · refine lv_iconst (v := (nI 0)) hx hb dX2_allAreSo_35 rfl ?_
        exact wZret hx hb hr hlocks (v := (nI 0)) (by first | exact Or.inl rfl | exact Or.inr rfl) (u, a, th, LP, tf) (⟨rfl, Or.inr ⟨rfl, fun h7 => absurd ((h7 q (by omega)).mp b_6) (by omega)⟩⟩) hK hP hD hS dX2_allAreSo_36
    · refine lv_aload_n hx hb dX2_allAreSo_26 rfl (lv_at hl 2 rfl) ?_
      refine va_get (D := D) (ci := 3) (v := .ref (r 19)) (C := RX3) (T := TX3) (N := 4) hx hb hts hinX3 hown hK hP 2 rfl rfl 3 (by decide) (hts (.fieldLink RX2 107 "OneNail$Readings" "ups" "[Z") (by decide +kernel)) (fun _ h9 => h9) rfl dX2_allAreSo_27 ?_
      refine lv_iload_n hx hb dX2_allAreSo_30 rfl (lv_at hl 0 rfl) ?_
      refine ra_zald hx hb hK hP 19 1 (n := 8) (f := (a 19)) (j := q) (v := (nI (rb q))) rfl rfl (by omega) (by decide) ((hrb (q) (by omega)).1) dX2_allAreSo_31 ?_
      refine rn_eq (x := 0) (y := rb q) (tgt := 37) hx hb (by omega) (by omega) dX2_allAreSo_32 (by decide) (fun c_8 => ?_) (fun c_8 => ?_)
      · refine rn_iinc (x := q) (d := 1) (lv' := [(2, .int (nI (q + 1))), (0, .ref (r 4)), (1, .ref (r 2))]) hx hb rfl dX2_allAreSo_37 hl (k := 0) rfl (by decide) rfl (fun ls hl => ?_)
        refine lv_goto (tgt := 2) hx hb dX2_allAreSo_40 (by decide) ?_
        exact ih2 ((q + 1)) _ _ _ (show nr - (q + 1) < nr - q from by omega) ⟨(show (q + 1) ≤ nr from by omega), (show ∀ q1, q1 < (q + 1) → ((if rm q1 < cx q1 then rm q1 < hd g T (rx q1) else (rm q1 - cx q1) % P < T 2 (rx q1) + hd g T (rx q1)) ↔ rb q1 = 1) from (lt_s (p := fun q => ((if rm q < cx q then rm q < hd g T (rx q) else (rm q - cx q) % P < T 2 (rx q) + hd g T (rx q)) ↔ rb q = 1)) has ⟨fun w7 => absurd w7 b_6, fun w7 => absurd w7 (by omega)⟩)), hP, hD, hS, lv_sub hl [0, 1, 2] rfl⟩
      · refine lv_iconst (v := (nI 0)) hx hb dX2_allAreSo_35 rfl ?_
        exact wZret hx hb hr hlocks (v := (nI 0)) (by first | exact Or.inl rfl | exact Or.inr rfl) (u, a, th, LP, tf) (⟨rfl, Or.inr ⟨rfl, fun h7 => b_6 ((h7 q (by omega)).mpr (by omega))⟩⟩) hK hP hD hS dX2_allAreSo_36

set_option maxHeartbeats 4000000 in
set_option maxRecDepth 100000 in
theorem kX2_countFitting (l : Launch) (D : va_G) (cA : Nat → ClassId) (r : Nat → Nat) (sz : Nat) (u : Nat → Int32) (a : Nat → Nat → Int32) (th : Nat → Option Nat) (LP : List Nat) (tf : Nat → va_E) (tO : Nat) (g : Nat → Nat) (T : Nat → Nat → Nat) (S : Nat) (nr : Nat) (rx rm rb : Nat → Nat) (hM : NT u a g T) (hB : TB g T) (hsm : u 2 = nI (g 1)) (hnr : u 4 = nI nr) (hnr8 : nr ≤ 8) (hrx : ∀ q, q < nr → a 17 q = nI (rx q) ∧ rx q < g 0) (hrm : ∀ q, q < nr → a 18 q = nI (rm q) ∧ rm q < 300) (hrb : ∀ q, q < nr → a 19 q = nI (rb q) ∧ rb q ≤ 1) (hall : ∀ x, x < g 0 → bi S x = 1) (hSn : S < 2 ^ g 0) (L : Nat) (hLe : L = ol S (g 0)) (hL0 : 0 < L) : Met l yX2_countFitting wsX2_countFitting ({ frames := 2, cells := 0, slots := 0, locals := 50 } : Room) (va_Pc [.ref (r 4), .int (nI S), .ref (r 2)] (wA D vwCl (tyA cA) (eO tO) (xN cA r) (u, a, th, LP, tf) sz)) (va_Qi (fun (v : Int32) (z : sN) => v = nI (cq (pF g T L nr rx rm rb) L (fct L - 1) (f1c S (g 0))) ∧ (0 < (cq (pF g T L nr rx rm rb) L (fct L - 1) (f1c S (g 0))) → ∀ i, i < L → z.2.1 25 i = nI (dg (ft (pF g T L nr rx rm rb) L (fct L - 1) (f1c S (g 0))) i)) ∧ z.1 11 = nI L ∧ (∀ i, i ≠ 11 → i ≠ 12 → z.1 i = u i) ∧ (∀ i, i ≠ 23 → i ≠ 24 → i ≠ 25 → z.2.1 i = a i) ∧ z.2.2 = (th, LP, tf)) (wB D vwCl (tyA cA) (xN cA r) (va_A (xN cA r (u, a, th, LP, tf)) sz)) (va_A (xN cA r (u, a, th, LP, tf)) sz)) 0 0 (va_A (xN cA r (u, a, th, LP, tf)) sz) := by
  refine Met.ofW (cc := cX2_countFitting) (maxL := 6) (ret := (some .int)) (by decide) rfl ?_
  intro p e s m args below meth c s₁ B hml hv
  obtain ⟨rfl, hsz, hP, hK, hD0, hE⟩ := hv
  have hx := B.exec
  have hb := B.bytes
  have hr := B.returns
  have hts := atoms_spec (ws := wsX2_countFitting) B.pre
  have hown : s.vm.findClass RX2 = some m.cls := findClass_of_methodNamed B.named
  have hlocks := B.notSynchronized
  subst hsz
  have hD := hD0.self (sz := s.heap.size)
  generalize hAe : va_A (xN cA r (u, a, th, LP, tf)) s.heap.size = A at hD hE ⊢
  have hA : ∀ q : Nat, s.heap.size ≤ q → A q := fun q h => by rw [← hAe]; exact Or.inr h
  have hS : va_S A s.heap s.heap [] := va_S.rf
  have hinX2 : ∀ w ∈ u_ws RX2 TX2 6, w ∈ wsX2_countFitting := by decide +kernel
  have hinX5 : ∀ w ∈ u_ws RX5 TX5 8, w ∈ wsX2_countFitting := by decide +kernel
  have hl := lv_entry ([.ref (r 4), .int (nI S), .ref (r 2)]) (n := 6) (Nat.le_of_ble_eq_true rfl)
  rw [lg_entry_eq]
  generalize (lg_sl ([.ref (r 4), .int (nI S), .ref (r 2)]) ++ List.replicate (6 - (lg_sl ([.ref (r 4), .int (nI S), .ref (r 2)])).length) Slot.unset).toArray = ls at hl ⊢
  have hl : lv_has ls 6 [(0, .ref (r 4)), (1, .int (nI S)), (2, .ref (r 2))] := hl
  have hg6 := hB.1
  have hS64 : S < 64 := p2_64 hg6 hSn
  have hL6 : L ≤ 6 := by have := ol_le S (g 0); omega
  have hfc := fct_le L
  refine lv_aload_n hx hb dX2_countFitting_0 rfl (lv_at hl 0 rfl) ?_
  refine lv_iload_n hx hb dX2_countFitting_1 rfl (lv_at hl 1 rfl) ?_
  refine wVi (eO_S tO) (As := [.int (nI S)]) (rest := []) ⟨hx, hb, hml, hown, hts⟩ (kX2_begin l D cA r _ u a th LP tf tO g T S hM hB (by omega)) (cwV 1 hts gX2_countFitting_X2_begin rfl rfl rfl (by decide +kernel) ⟨Nat.le_of_ble_eq_true rfl, Nat.le_of_ble_eq_true rfl⟩) (va_recv hK hP (ci := 2) (q0 := 4) rfl rfl) hK hP hD hS hA hE rfl hl.1 rfl (Nat.le_of_ble_eq_true rfl) dX2_countFitting_2 ⟨Nat.zero_le _, Nat.zero_le _⟩ (fun rv_1 z_3 H locs hw_2 hP hD hS => ?_)
  obtain ⟨zu4, za5, zq6⟩ := z_3
  obtain ⟨rfl, hu11_zu4, hrow_zu4, hfu_zu4, hfa_zu4, hzq_zu4⟩ := hw_2
  have hzq_zu4 : zq6 = (th, LP, tf) := hzq_zu4
  subst hzq_zu4
  have hu11_zu4 : zu4 11 = nI (ol S (g 0)) := hu11_zu4
  have hrow_zu4 : ∀ k, k < ol S (g 0) → za5 23 k = nI (of1 S (g 0) k) := hrow_zu4
  have hfu_zu4 : ∀ i, i ≠ 11 → zu4 i = u i := hfu_zu4
  have hfa_zu4 : ∀ i, i ≠ 23 → za5 i = a i := hfa_zu4
  have hP : va_P D vwCl (xN cA r (zu4, za5, th, LP, tf)) H := hP
  have hD : va_D A (xN cA r (zu4, za5, th, LP, tf)) := hD
  refine lv_topi (fun y_7 ey_7 => ?_)
  obtain rfl : y_7 = (nI (fct L)) := ey_7.trans (by rw [hLe])
  refine lv_istore_n (lv' := [(3, .int (nI (fct L))), (0, .ref (r 4)), (1, .int (nI S)), (2, .ref (r 2))]) hx hb dX2_countFitting_5 rfl hl (by decide) rfl (fun ls hl => ?_)
  refine lv_iconst (v := (nI 0)) hx hb dX2_countFitting_6 rfl ?_
  refine lv_istore (lv' := [(4, .int (nI 0)), (3, .int (nI (fct L))), (0, .ref (r 4)), (1, .int (nI S)), (2, .ref (r 2))]) hx hb dX2_countFitting_7 hl (by decide) rfl (fun ls hl => ?_)
  refine lv_iconst (v := (nI 0)) hx hb dX2_countFitting_9 rfl ?_
  refine lv_istore (lv' := [(5, .int (nI 0)), (4, .int (nI 0)), (3, .int (nI (fct L))), (0, .ref (r 4)), (1, .int (nI S)), (2, .ref (r 2))]) hx hb dX2_countFitting_10 hl (by decide) rfl (fun ls hl => ?_)
  refine wLoop (τ := Nat × Nat × Nat × Nat × Nat × (Nat → Int32) × (Nat → Nat → Int32)) (fun z H locs ls => (fun (mo : Nat) (c9 : Nat) (k : Nat) (N : Nat) (cn : Nat) (u1012 : (Nat → Int32)) (a1012 : (Nat → Nat → Int32)) => (mo ≤ 1) ∧ (mo = 1 → c9 + k + 1 = fct L ∧ chk S L k N = true ∧ (∀ i, i < L → a1012 23 i = nI (dg N i)) ∧ cn + cq (pF g T L nr rx rm rb) L k N = (cq (pF g T L nr rx rm rb) L (fct L - 1) (f1c S (g 0))) ∧ ((cn = 0 ∧ ft (pF g T L nr rx rm rb) L k N = (ft (pF g T L nr rx rm rb) L (fct L - 1) (f1c S (g 0)))) ∨ (0 < cn ∧ ∀ i, i < L → a1012 25 i = nI (dg (ft (pF g T L nr rx rm rb) L (fct L - 1) (f1c S (g 0))) i)))) ∧ (mo = 0 → c9 = fct L ∧ cn = (cq (pF g T L nr rx rm rb) L (fct L - 1) (f1c S (g 0))) ∧ (0 < cn → ∀ i, i < L → a1012 25 i = nI (dg (ft (pF g T L nr rx rm rb) L (fct L - 1) (f1c S (g 0))) i))) ∧ (cn ≤ c9) ∧ (∀ i : Nat, i ≠ 12 → u1012 i = zu4 i) ∧ (∀ i : Nat, i ≠ 23 → i ≠ 24 → i ≠ 25 → a1012 i = za5 i) ∧ (va_P D vwCl (xN cA r (u1012, a1012, th, LP, tf)) H) ∧ (va_D A (xN cA r (u1012, a1012, th, LP, tf))) ∧ (va_S A s.heap H locs) ∧ (lv_has ls 6 [(5, .int (nI c9)), (4, .int (nI cn)), (3, .int (nI (fct L))), (0, .ref (r 4)), (1, .int (nI S)), (2, .ref (r 2))])) z.1 z.2.1 z.2.2.1 z.2.2.2.1 z.2.2.2.2.1 z.2.2.2.2.2.1 z.2.2.2.2.2.2) (fun z => (fun (mo : Nat) (c9 : Nat) (k : Nat) (N : Nat) (cn : Nat) (u1012 : (Nat → Int32)) (a1012 : (Nat → Nat → Int32)) => mo + k) z.1 z.2.1 z.2.2.1 z.2.2.2.1 z.2.2.2.2.1 z.2.2.2.2.2.1 z.2.2.2.2.2.2) (1, 0, (fct L - 1), (f1c S (g 0)), 0, zu4, za5) ⟨(show 1 ≤ 1 from Nat.le_refl 1), (show 1 = 1 → 0 + (fct L - 1) + 1 = fct L ∧ chk S L (fct L - 1) (f1c S (g 0)) = true ∧ (∀ i, i < L → za5 23 i = nI (dg (f1c S (g 0)) i)) ∧ 0 + cq (pF g T L nr rx rm rb) L (fct L - 1) (f1c S (g 0)) = (cq (pF g T L nr rx rm rb) L (fct L - 1) (f1c S (g 0))) ∧ ((0 = 0 ∧ ft (pF g T L nr rx rm rb) L (fct L - 1) (f1c S (g 0)) = (ft (pF g T L nr rx rm rb) L (fct L - 1) (f1c S (g 0)))) ∨ (0 < 0 ∧ ∀ i, i < L → za5 25 i = nI (dg (ft (pF g T L nr rx rm rb) L (fct L - 1) (f1c S (g 0))) i))) from (fun _ => ⟨by omega, by rw [hLe]; exact perms_ok _ hg6 _ hSn, by rw [hLe]; exact (fun i hi => (hrow_zu4 (i) (by omega)).trans (congrArg nI (dg_f1 hg6 (by omega)).symm)), Nat.zero_add _, Or.inl ⟨rfl, rfl⟩⟩)), (show 1 = 0 → 0 = fct L ∧ 0 = (cq (pF g T L nr rx rm rb) L (fct L - 1) (f1c S (g 0))) ∧ (0 < 0 → ∀ i, i < L → za5 25 i = nI (dg (ft (pF g T L nr rx rm rb) L (fct L - 1) (f1c S (g 0))) i)) from (fun h => absurd h (by decide))), (show 0 ≤ 0 from Nat.zero_le _), (fun i h12 => rfl), (fun i h23 h24 h25 => rfl), hP, hD, hS, lv_sub hl [0, 1, 2, 3, 4, 5] rfl⟩ ?_
  rintro ⟨mo, c9, k, N, cn, u1012, a1012⟩ H locs ls ⟨hmo, h1, h0, hcn, hfu12, hfa12, hP, hD, hS, hl⟩ ih12
  have hmo : mo ≤ 1 := hmo
  have h1 : mo = 1 → c9 + k + 1 = fct L ∧ chk S L k N = true ∧ (∀ i, i < L → a1012 23 i = nI (dg N i)) ∧ cn + cq (pF g T L nr rx rm rb) L k N = (cq (pF g T L nr rx rm rb) L (fct L - 1) (f1c S (g 0))) ∧ ((cn = 0 ∧ ft (pF g T L nr rx rm rb) L k N = (ft (pF g T L nr rx rm rb) L (fct L - 1) (f1c S (g 0)))) ∨ (0 < cn ∧ ∀ i, i < L → a1012 25 i = nI (dg (ft (pF g T L nr rx rm rb) L (fct L - 1) (f1c S (g 0))) i))) := h1
  have h0 : mo = 0 → c9 = fct L ∧ cn = (cq (pF g T L nr rx rm rb) L (fct L - 1) (f1c S (g 0))) ∧ (0 < cn → ∀ i, i < L → a1012 25 i = nI (dg (ft (pF g T L nr rx rm rb) L (fct L - 1) (f1c S (g 0))) i)) := h0
  have hcn : cn ≤ c9 := hcn
  have hfu12 : ∀ i : Nat, i ≠ 12 → u1012 i = zu4 i := hfu12
  have hfa12 : ∀ i : Nat, i ≠ 23 → i ≠ 24 → i ≠ 25 → a1012 i = za5 i := hfa12
  have hP : va_P D vwCl (xN cA r (u1012, a1012, th, LP, tf)) H := hP
  have hD : va_D A (xN cA r (u1012, a1012, th, LP, tf)) := hD
  have hl : lv_has ls 6 [(5, .int (nI c9)), (4, .int (nI cn)), (3, .int (nI (fct L))), (0, .ref (r 4)), (1, .int (nI S)), (2, .ref (r 2))] := hl
  rcases (show mo = 0 ∨ mo = 1 by omega) with hm7 | hm7
  · obtain ⟨hce, hbe, hkd⟩ := h0 hm7
    refine lv_iload hx hb dX2_countFitting_12 (lv_at hl 0 rfl) ?_
    refine lv_iload_n hx hb dX2_countFitting_14 rfl (lv_at hl 2 rfl) ?_
    refine rn_ge (x := c9) (y := fct L) (tgt := 60) hx hb (by omega) (by omega) dX2_countFitting_15 (by decide) (fun c_8 => ?_) (fun c_8 => absurd c_8 (by omega))
    refine lv_iload hx hb dX2_countFitting_60 (lv_at hl 1 rfl) ?_
    exact wIret hx hb hr hlocks (v := (nI cn)) (u1012, a1012, th, LP, tf) (⟨by rw [hbe], fun h7 => hkd (by omega), ((hfu12 11 (by decide)).trans ((hu11_zu4).trans (congrArg nI hLe.symm))), (fun i h11 h12 => Eq.trans (hfu12 i h12) (hfu_zu4 i h11)), (fun i h23 h24 h25 => Eq.trans (hfa12 i h23 h24 h25) (hfa_zu4 i h23)), rfl⟩) hK hP hD hS dX2_countFitting_62
  · obtain ⟨hce, hck, hrowN, hacc, hkk⟩ := h1 hm7
    have hrgN : ∀ k, k < L → dg N k < g 0 := fun k hk => bi_in hSn (chk_in hck k hk)
    have hro9 := aR_ord (rb := rb) hB hck hSn hall hL0 (fun q hq => (hrx q hq).2) (fun q hq => (hrm q hq).2)
    have hcq := cq_le (pF_le g T L nr rx rm rb) L k N
    have hpp := pd_pos hB hL0 hrgN
    refine lv_iload hx hb dX2_countFitting_12 (lv_at hl 0 rfl) ?_
    refine lv_iload_n hx hb dX2_countFitting_14 rfl (lv_at hl 2 rfl) ?_
    refine rn_ge (x := c9) (y := fct L) (tgt := 60) hx hb (by omega) (by omega) dX2_countFitting_15 (by decide) (fun c_9 => absurd c_9 (by omega)) (fun c_9 => ?_)
    refine lv_aload_n hx hb dX2_countFitting_18 rfl (lv_at hl 3 rfl) ?_
    refine lv_aload_n hx hb dX2_countFitting_19 rfl (lv_at hl 3 rfl) ?_
    refine va_get (D := D) (ci := 2) (v := .ref (r 1)) (C := RX2) (T := TX2) (N := 6) hx hb hts hinX2 hown hK hP 4 rfl rfl 0 (by decide) (hts (.fieldLink RX2 28 "OneNail$Orders" "town" "LOneNail$Street;") (by decide +kernel)) (fun _ h9 => h9) rfl dX2_countFitting_20 ?_
    refine va_get (D := D) (ci := 5) (v := .int (nI (g 1))) (C := RX5) (T := TX5) (N := 8) hx hb hts hinX5 hown hK hP 1 rfl rfl 1 (by decide) (hts (.fieldLink RX2 51 "OneNail$Street" "smithyPlace" "I") (by decide +kernel)) (fun _ h9 => h9) (congrArg (fun z => some (Value.int z)) ((hfu12 2 (by decide)).trans ((hfu_zu4 2 (by decide)).trans (hsm)))) dX2_countFitting_23 ?_
    refine wVv (eO_S tO) (As := [.int (nI (g 1))]) (rest := []) ⟨hx, hb, hml, hown, hts⟩ (kX2_time l D cA r _ u1012 a1012 th LP tf tO g T (dg N) L (NT.keep (NT.keep hM (hfu_zu4 1 (by decide)) (hfa_zu4 13 (by decide)) (hfa_zu4 14 (by decide)) (hfa_zu4 15 (by decide)) (hfa_zu4 16 (by decide))) (hfu12 1 (by decide)) (hfa12 13 (by decide) (by decide) (by decide)) (hfa12 14 (by decide) (by decide) (by decide)) (hfa12 15 (by decide) (by decide) (by decide)) (hfa12 16 (by decide) (by decide) (by decide))) hB ((hfu12 11 (by decide)).trans ((hu11_zu4).trans (congrArg nI hLe.symm))) hL6 (fun k hk => hrowN (k) hk) hrgN (chk_ne hck)) (cwV 1 hts gX2_countFitting_X2_time rfl rfl rfl (by decide +kernel) ⟨Nat.le_of_ble_eq_true rfl, Nat.le_of_ble_eq_true rfl⟩) (va_recv hK hP (ci := 2) (q0 := 4) rfl rfl) hK hP hD hS hA hE rfl hl.1 rfl (Nat.le_of_ble_eq_true rfl) dX2_countFitting_26 ⟨Nat.zero_le _, Nat.zero_le _⟩ (fun z_12 H locs hw_11 hP hD hS => ?_)
    obtain ⟨zu13, za14, zq15⟩ := z_12
    obtain ⟨hpd_zu13, hcm_zu13, hfu_zu13, hfa_zu13, hzq_zu13⟩ := hw_11
    have hzq_zu13 : zq15 = (th, LP, tf) := hzq_zu13
    subst hzq_zu13
    have hpd_zu13 : zu13 12 = nI (if L = 0 then 0 else pd g T (dg N) L) := hpd_zu13
    have hcm_zu13 : ∀ k, k < L → za14 24 (dg N k) = nI (ct g T (dg N) L k) := hcm_zu13
    have hfu_zu13 : ∀ i, i ≠ 12 → zu13 i = u1012 i := hfu_zu13
    have hfa_zu13 : ∀ i, i ≠ 24 → za14 i = a1012 i := hfa_zu13
    have hP : va_P D vwCl (xN cA r (zu13, za14, th, LP, tf)) H := hP
    have hD : va_D A (xN cA r (zu13, za14, th, LP, tf)) := hD
    refine lv_aload_n hx hb dX2_countFitting_29 rfl (lv_at hl 3 rfl) ?_
    refine lv_aload_n hx hb dX2_countFitting_30 rfl (lv_at hl 5 rfl) ?_
    refine wVi (eO_S tO) (As := [.ref (r 2)]) (rest := []) ⟨hx, hb, hml, hown, hts⟩ (kX2_allAreSo l D cA r _ zu13 za14 th LP tf tO g T nr rx rm rb (fun q => ct g T (dg N) L (ps N (rx q) L)) (pd g T (dg N) L) (NT.keep (NT.keep (NT.keep hM (hfu_zu4 1 (by decide)) (hfa_zu4 13 (by decide)) (hfa_zu4 14 (by decide)) (hfa_zu4 15 (by decide)) (hfa_zu4 16 (by decide))) (hfu12 1 (by decide)) (hfa12 13 (by decide) (by decide) (by decide)) (hfa12 14 (by decide) (by decide) (by decide)) (hfa12 15 (by decide) (by decide) (by decide)) (hfa12 16 (by decide) (by decide) (by decide))) (hfu_zu13 1 (by decide)) (hfa_zu13 13 (by decide)) (hfa_zu13 14 (by decide)) (hfa_zu13 15 (by decide)) (hfa_zu13 16 (by decide))) hB ((hfu_zu13 4 (by decide)).trans ((hfu12 4 (by decide)).trans ((hfu_zu4 4 (by decide)).trans (hnr)))) hnr8 (fun q hq => ⟨(congrFun (hfa_zu13 17 (by decide)) (q)).trans ((congrFun (hfa12 17 (by decide) (by decide) (by decide)) (q)).trans ((congrFun (hfa_zu4 17 (by decide)) (q)).trans ((hrx (q) hq).1))), (hrx q hq).2⟩) (fun q hq => ⟨(congrFun (hfa_zu13 18 (by decide)) (q)).trans ((congrFun (hfa12 18 (by decide) (by decide) (by decide)) (q)).trans ((congrFun (hfa_zu4 18 (by decide)) (q)).trans ((hrm (q) hq).1))), (hrm q hq).2⟩) (fun q hq => ⟨(congrFun (hfa_zu13 19 (by decide)) (q)).trans ((congrFun (hfa12 19 (by decide) (by decide) (by decide)) (q)).trans ((congrFun (hfa_zu4 19 (by decide)) (q)).trans ((hrb (q) hq).1))), (hrb q hq).2⟩) (fun q hq => by obtain ⟨h8, h9⟩ := ps_ok (chk_on hck (rx q) (by have := (hrx q hq).2; omega) (hall _ (hrx q hq).2)); have h7 := hcm_zu13 _ h8; rw [h9] at h7; exact ⟨h7, by have := ct_le hB (by omega) hrgN (ps N (rx q) L); omega⟩) ((hpd_zu13).trans (congrArg nI (if_neg (by omega)))) (by omega) hpp.1) (cwV 1 hts gX2_countFitting_X2_allAreSo rfl rfl rfl (by decide +kernel) ⟨Nat.le_of_ble_eq_true rfl, Nat.le_of_ble_eq_true rfl⟩) (va_recv hK hP (ci := 2) (q0 := 4) rfl rfl) hK hP hD hS hA hE rfl hl.1 rfl (Nat.le_of_ble_eq_true rfl) dX2_countFitting_31 ⟨Nat.zero_le _, Nat.zero_le _⟩ (fun rv_16 z_18 H locs hw_17 hP hD hS => ?_)
    obtain ⟨hz_19, hw_17⟩ := hw_17
    subst hz_19
    have hP : va_P D vwCl (xN cA r (zu13, za14, th, LP, tf)) H := hP
    have hD : va_D A (xN cA r (zu13, za14, th, LP, tf)) := hD
    rcases hw_17 with ⟨rfl, b_20⟩ | ⟨rfl, b_20⟩
    · refine lv_if_eq (tgt := 50) hx hb dX2_countFitting_34 (by decide) (fun c_21 => absurd c_21 (by decide)) (fun _ => ?_)
      refine rn_iinc (x := cn) (d := 1) (lv' := [(4, .int (nI (cn + 1))), (5, .int (nI c9)), (3, .int (nI (fct L))), (0, .ref (r 4)), (1, .int (nI S)), (2, .ref (r 2))]) hx hb rfl dX2_countFitting_37 hl (k := 1) rfl (by decide) rfl (fun ls hl => ?_)
      refine lv_iload hx hb dX2_countFitting_40 (lv_at hl 0 rfl) ?_
      refine lv_iconst (v := (nI 1)) hx hb dX2_countFitting_42 rfl ?_
      refine rn_ne (x := cn + 1) (y := 1) (tgt := 50) hx hb (by omega) (by omega) dX2_countFitting_43 (by decide) (fun c_22 => ?_) (fun c_22 => ?_)
      · refine lv_aload_n hx hb dX2_countFitting_50 rfl (lv_at hl 3 rfl) ?_
        refine wVv (eO_S tO) (As := []) (rest := []) ⟨hx, hb, hml, hown, hts⟩ (kX2_goOn l D cA r _ zu13 za14 th LP tf tO L N ((hfu_zu13 11 (by decide)).trans ((hfu12 11 (by decide)).trans ((hu11_zu4).trans (congrArg nI hLe.symm)))) hL6 (fun k hk => (congrFun (hfa_zu13 23 (by decide)) (k)).trans (hrowN (k) hk))) (cwV 0 hts gX2_countFitting_X2_goOn rfl rfl rfl (by decide +kernel) ⟨Nat.le_of_ble_eq_true rfl, Nat.le_of_ble_eq_true rfl⟩) (va_recv hK hP (ci := 2) (q0 := 4) rfl rfl) hK hP hD hS hA hE rfl hl.1 rfl (Nat.le_of_ble_eq_true rfl) dX2_countFitting_51 ⟨Nat.zero_le _, Nat.zero_le _⟩ (fun z_25 H locs hw_24 hP hD hS => ?_)
        obtain ⟨zu26, za27, zq28⟩ := z_25
        rcases hw_24 with ⟨hfk0, hz_zu26⟩ | ⟨hfk1, hzu_zu26, hrw_zu26, hfa_zu26, hzq_zu26⟩
        · cases hz_zu26
          have hP : va_P D vwCl (xN cA r (zu13, za14, th, LP, tf)) H := hP
          have hD : va_D A (xN cA r (zu13, za14, th, LP, tf)) := hD
          refine rn_iinc (x := c9) (d := 1) (lv' := [(5, .int (nI (c9 + 1))), (4, .int (nI (cn + 1))), (3, .int (nI (fct L))), (0, .ref (r 4)), (1, .int (nI S)), (2, .ref (r 2))]) hx hb rfl dX2_countFitting_54 hl (k := 1) rfl (by decide) rfl (fun ls hl => ?_)
          refine lv_goto (tgt := 12) hx hb dX2_countFitting_57 (by decide) ?_
          have hp1 : pF g T L nr rx rm rb N = 1 := cif_pos (hro9.mpr b_20)
          have hkeep : ∀ i, i < L → za14 25 i = nI (dg (ft (pF g T L nr rx rm rb) L (fct L - 1) (f1c S (g 0))) i) := fun i hi => (congrFun (hfa_zu13 25 (by decide)) i).trans ((hkk.resolve_left (fun w7 => by omega)).2 i hi)
          have hk0 := chk_end hck hfk0
          exact ih12 (0, (c9 + 1), 0, 0, (cn + 1), zu13, za14) _ _ _ (show 0 + 0 < mo + k from by omega) ⟨(show 0 ≤ 1 from Nat.zero_le _), (show 0 = 1 → (c9 + 1) + 0 + 1 = fct L ∧ chk S L 0 0 = true ∧ (∀ i, i < L → za14 23 i = nI (dg 0 i)) ∧ (cn + 1) + cq (pF g T L nr rx rm rb) L 0 0 = (cq (pF g T L nr rx rm rb) L (fct L - 1) (f1c S (g 0))) ∧ (((cn + 1) = 0 ∧ ft (pF g T L nr rx rm rb) L 0 0 = (ft (pF g T L nr rx rm rb) L (fct L - 1) (f1c S (g 0)))) ∨ (0 < (cn + 1) ∧ ∀ i, i < L → za14 25 i = nI (dg (ft (pF g T L nr rx rm rb) L (fct L - 1) (f1c S (g 0))) i))) from (fun h => absurd h (by decide))), (show 0 = 0 → (c9 + 1) = fct L ∧ (cn + 1) = (cq (pF g T L nr rx rm rb) L (fct L - 1) (f1c S (g 0))) ∧ (0 < (cn + 1) → ∀ i, i < L → za14 25 i = nI (dg (ft (pF g T L nr rx rm rb) L (fct L - 1) (f1c S (g 0))) i)) from (fun _ => ⟨by omega, by rw [hk0] at hacc; have e7 : cq (pF g T L nr rx rm rb) L 0 N = pF g T L nr rx rm rb N := rfl; omega, fun _ => hkeep⟩)), (show (cn + 1) ≤ (c9 + 1) from by omega), (fun i h12 => Eq.trans (hfu_zu13 i h12) (hfu12 i h12)), (fun i h23 h24 h25 => Eq.trans (hfa_zu13 i h24) (hfa12 i h23 h24 h25)), hP, hD, hS, lv_sub hl [0, 1, 2, 3, 4, 5] rfl⟩
        · have hzu_zu26 : zu13 = zu26 := Eq.symm hzu_zu26
          subst hzu_zu26
          have hzq_zu26 : zq28 = (th, LP, tf) := hzq_zu26
          subst hzq_zu26
          have hrw_zu26 : ∀ k, k < L → za27 23 k = nI (dg (nx N L) k) := hrw_zu26
          have hfa_zu26 : ∀ i, i ≠ 23 → za27 i = za14 i := hfa_zu26
          have hP : va_P D vwCl (xN cA r (zu13, za27, th, LP, tf)) H := hP
          have hD : va_D A (xN cA r (zu13, za27, th, LP, tf)) := hD
          refine rn_iinc (x := c9) (d := 1) (lv' := [(5, .int (nI (c9 + 1))), (4, .int (nI (cn + 1))), (3, .int (nI (fct L))), (0, .ref (r 4)), (1, .int (nI S)), (2, .ref (r 2))]) hx hb rfl dX2_countFitting_54 hl (k := 1) rfl (by decide) rfl (fun ls hl => ?_)
          refine lv_goto (tgt := 12) hx hb dX2_countFitting_57 (by decide) ?_
          have hp1 : pF g T L nr rx rm rb N = 1 := cif_pos (hro9.mpr b_20)
          have hkeep : ∀ i, i < L → za27 25 i = nI (dg (ft (pF g T L nr rx rm rb) L (fct L - 1) (f1c S (g 0))) i) := fun i hi => (congrFun (Eq.trans (hfa_zu26 25 (by decide)) (hfa_zu13 25 (by decide))) i).trans ((hkk.resolve_left (fun w7 => by omega)).2 i hi)
          obtain ⟨hk0, hck2⟩ := chk_next hck hfk1
          exact ih12 (1, (c9 + 1), (k - 1), (nx N L), (cn + 1), zu13, za27) _ _ _ (show 1 + (k - 1) < mo + k from by omega) ⟨(show 1 ≤ 1 from Nat.le_refl 1), (show 1 = 1 → (c9 + 1) + (k - 1) + 1 = fct L ∧ chk S L (k - 1) (nx N L) = true ∧ (∀ i, i < L → za27 23 i = nI (dg (nx N L) i)) ∧ (cn + 1) + cq (pF g T L nr rx rm rb) L (k - 1) (nx N L) = (cq (pF g T L nr rx rm rb) L (fct L - 1) (f1c S (g 0))) ∧ (((cn + 1) = 0 ∧ ft (pF g T L nr rx rm rb) L (k - 1) (nx N L) = (ft (pF g T L nr rx rm rb) L (fct L - 1) (f1c S (g 0)))) ∨ (0 < (cn + 1) ∧ ∀ i, i < L → za27 25 i = nI (dg (ft (pF g T L nr rx rm rb) L (fct L - 1) (f1c S (g 0))) i))) from (fun _ => ⟨by omega, hck2, hrw_zu26, by rw [cq_step hk0] at hacc; omega, Or.inr ⟨by omega, hkeep⟩⟩)), (show 1 = 0 → (c9 + 1) = fct L ∧ (cn + 1) = (cq (pF g T L nr rx rm rb) L (fct L - 1) (f1c S (g 0))) ∧ (0 < (cn + 1) → ∀ i, i < L → za27 25 i = nI (dg (ft (pF g T L nr rx rm rb) L (fct L - 1) (f1c S (g 0))) i)) from (fun h => absurd h (by decide))), (show (cn + 1) ≤ (c9 + 1) from by omega), (fun i h12 => Eq.trans (hfu_zu13 i h12) (hfu12 i h12)), (fun i h23 h24 h25 => Eq.trans (hfa_zu26 i h23) (Eq.trans (hfa_zu13 i h24) (hfa12 i h23 h24 h25))), hP, hD, hS, lv_sub hl [0, 1, 2, 3, 4, 5] rfl⟩
      · refine lv_aload_n hx hb dX2_countFitting_46 rfl (lv_at hl 3 rfl) ?_
        refine wVv (eO_S tO) (As := []) (rest := []) ⟨hx, hb, hml, hown, hts⟩ (kX2_keep l D cA r _ zu13 za14 th LP tf tO (dg N) L ((hfu_zu13 11 (by decide)).trans ((hfu12 11 (by decide)).trans ((hu11_zu4).trans (congrArg nI hLe.symm)))) hL6 (fun k hk => (congrFun (hfa_zu13 23 (by decide)) (k)).trans (hrowN (k) hk))) (cwV 0 hts gX2_countFitting_X2_keep rfl rfl rfl (by decide +kernel) ⟨Nat.le_of_ble_eq_true rfl, Nat.le_of_ble_eq_true rfl⟩) (va_recv hK hP (ci := 2) (q0 := 4) rfl rfl) hK hP hD hS hA hE rfl hl.1 rfl (Nat.le_of_ble_eq_true rfl) dX2_countFitting_47 ⟨Nat.zero_le _, Nat.zero_le _⟩ (fun z_31 H locs hw_30 hP hD hS => ?_)
        obtain ⟨zu32, za33, zq34⟩ := z_31
        obtain ⟨hkp_zu32, hfu_zu32, hfa_zu32, hzq_zu32⟩ := hw_30
        have hzq_zu32 : zq34 = (th, LP, tf) := hzq_zu32
        subst hzq_zu32
        have hkp_zu32 : ∀ j, j < L → za33 25 j = nI ((dg N) j) := hkp_zu32
        have hfu_zu32 : ∀ i, zu32 i = zu13 i := hfu_zu32
        have hfa_zu32 : ∀ i, i ≠ 25 → za33 i = za14 i := hfa_zu32
        have hue_zu32 : zu13 = zu32 := Eq.symm (funext hfu_zu32)
        subst hue_zu32
        have hP : va_P D vwCl (xN cA r (zu13, za33, th, LP, tf)) H := hP
        have hD : va_D A (xN cA r (zu13, za33, th, LP, tf)) := hD
        refine lv_aload_n hx hb dX2_countFitting_50 rfl (lv_at hl 3 rfl) ?_
        refine wVv (eO_S tO) (As := []) (rest := []) ⟨hx, hb, hml, hown, hts⟩ (kX2_goOn l D cA r _ zu13 za33 th LP tf tO L N ((hfu_zu13 11 (by decide)).trans ((hfu12 11 (by decide)).trans ((hu11_zu4).trans (congrArg nI hLe.symm)))) hL6 (fun k hk => (congrFun (hfa_zu32 23 (by decide)) (k)).trans ((congrFun (hfa_zu13 23 (by decide)) (k)).trans (hrowN (k) hk)))) (cwV 0 hts gX2_countFitting_X2_goOn rfl rfl rfl (by decide +kernel) ⟨Nat.le_of_ble_eq_true rfl, Nat.le_of_ble_eq_true rfl⟩) (va_recv hK hP (ci := 2) (q0 := 4) rfl rfl) hK hP hD hS hA hE rfl hl.1 rfl (Nat.le_of_ble_eq_true rfl) dX2_countFitting_51 ⟨Nat.zero_le _, Nat.zero_le _⟩ (fun z_37 H locs hw_36 hP hD hS => ?_)
        obtain ⟨zu38, za39, zq40⟩ := z_37
        rcases hw_36 with ⟨hfk0, hz_zu38⟩ | ⟨hfk1, hzu_zu38, hrw_zu38, hfa_zu38, hzq_zu38⟩
        · cases hz_zu38
          have hP : va_P D vwCl (xN cA r (zu13, za33, th, LP, tf)) H := hP
          have hD : va_D A (xN cA r (zu13, za33, th, LP, tf)) := hD
          refine rn_iinc (x := c9) (d := 1) (lv' := [(5, .int (nI (c9 + 1))), (4, .int (nI (cn + 1))), (3, .int (nI (fct L))), (0, .ref (r 4)), (1, .int (nI S)), (2, .ref (r 2))]) hx hb rfl dX2_countFitting_54 hl (k := 1) rfl (by decide) rfl (fun ls hl => ?_)
          refine lv_goto (tgt := 12) hx hb dX2_countFitting_57 (by decide) ?_
          have hp1 : pF g T L nr rx rm rb N = 1 := cif_pos (hro9.mpr b_20)
          have hkeep : ∀ i, i < L → za33 25 i = nI (dg (ft (pF g T L nr rx rm rb) L (fct L - 1) (f1c S (g 0))) i) := fun i hi => by rw [show (ft (pF g T L nr rx rm rb) L (fct L - 1) (f1c S (g 0))) = N from (by rcases hkk with w7 | w7; rw [← w7.2, ft_yes hp1]; omega)]; exact hkp_zu32 i hi
          have hk0 := chk_end hck hfk0
          exact ih12 (0, (c9 + 1), 0, 0, (cn + 1), zu13, za33) _ _ _ (show 0 + 0 < mo + k from by omega) ⟨(show 0 ≤ 1 from Nat.zero_le _), (show 0 = 1 → (c9 + 1) + 0 + 1 = fct L ∧ chk S L 0 0 = true ∧ (∀ i, i < L → za33 23 i = nI (dg 0 i)) ∧ (cn + 1) + cq (pF g T L nr rx rm rb) L 0 0 = (cq (pF g T L nr rx rm rb) L (fct L - 1) (f1c S (g 0))) ∧ (((cn + 1) = 0 ∧ ft (pF g T L nr rx rm rb) L 0 0 = (ft (pF g T L nr rx rm rb) L (fct L - 1) (f1c S (g 0)))) ∨ (0 < (cn + 1) ∧ ∀ i, i < L → za33 25 i = nI (dg (ft (pF g T L nr rx rm rb) L (fct L - 1) (f1c S (g 0))) i))) from (fun h => absurd h (by decide))), (show 0 = 0 → (c9 + 1) = fct L ∧ (cn + 1) = (cq (pF g T L nr rx rm rb) L (fct L - 1) (f1c S (g 0))) ∧ (0 < (cn + 1) → ∀ i, i < L → za33 25 i = nI (dg (ft (pF g T L nr rx rm rb) L (fct L - 1) (f1c S (g 0))) i)) from (fun _ => ⟨by omega, by rw [hk0] at hacc; have e7 : cq (pF g T L nr rx rm rb) L 0 N = pF g T L nr rx rm rb N := rfl; omega, fun _ => hkeep⟩)), (show (cn + 1) ≤ (c9 + 1) from by omega), (fun i h12 => Eq.trans (hfu_zu13 i h12) (hfu12 i h12)), (fun i h23 h24 h25 => Eq.trans (hfa_zu32 i h25) (Eq.trans (hfa_zu13 i h24) (hfa12 i h23 h24 h25))), hP, hD, hS, lv_sub hl [0, 1, 2, 3, 4, 5] rfl⟩
        · have hzu_zu38 : zu13 = zu38 := Eq.symm hzu_zu38
          subst hzu_zu38
          have hzq_zu38 : zq40 = (th, LP, tf) := hzq_zu38
          subst hzq_zu38
          have hrw_zu38 : ∀ k, k < L → za39 23 k = nI (dg (nx N L) k) := hrw_zu38
          have hfa_zu38 : ∀ i, i ≠ 23 → za39 i = za33 i := hfa_zu38
          have hP : va_P D vwCl (xN cA r (zu13, za39, th, LP, tf)) H := hP
          have hD : va_D A (xN cA r (zu13, za39, th, LP, tf)) := hD
          refine rn_iinc (x := c9) (d := 1) (lv' := [(5, .int (nI (c9 + 1))), (4, .int (nI (cn + 1))), (3, .int (nI (fct L))), (0, .ref (r 4)), (1, .int (nI S)), (2, .ref (r 2))]) hx hb rfl dX2_countFitting_54 hl (k := 1) rfl (by decide) rfl (fun ls hl => ?_)
          refine lv_goto (tgt := 12) hx hb dX2_countFitting_57 (by decide) ?_
          have hp1 : pF g T L nr rx rm rb N = 1 := cif_pos (hro9.mpr b_20)
          have hkeep : ∀ i, i < L → za39 25 i = nI (dg (ft (pF g T L nr rx rm rb) L (fct L - 1) (f1c S (g 0))) i) := fun i hi => by rw [show (ft (pF g T L nr rx rm rb) L (fct L - 1) (f1c S (g 0))) = N from (by rcases hkk with w7 | w7; rw [← w7.2, ft_yes hp1]; omega)]; exact (congrFun (hfa_zu38 25 (by decide)) i).trans (hkp_zu32 i hi)
          obtain ⟨hk0, hck2⟩ := chk_next hck hfk1
          exact ih12 (1, (c9 + 1), (k - 1), (nx N L), (cn + 1), zu13, za39) _ _ _ (show 1 + (k - 1) < mo + k from by omega) ⟨(show 1 ≤ 1 from Nat.le_refl 1), (show 1 = 1 → (c9 + 1) + (k - 1) + 1 = fct L ∧ chk S L (k - 1) (nx N L) = true ∧ (∀ i, i < L → za39 23 i = nI (dg (nx N L) i)) ∧ (cn + 1) + cq (pF g T L nr rx rm rb) L (k - 1) (nx N L) = (cq (pF g T L nr rx rm rb) L (fct L - 1) (f1c S (g 0))) ∧ (((cn + 1) = 0 ∧ ft (pF g T L nr rx rm rb) L (k - 1) (nx N L) = (ft (pF g T L nr rx rm rb) L (fct L - 1) (f1c S (g 0)))) ∨ (0 < (cn + 1) ∧ ∀ i, i < L → za39 25 i = nI (dg (ft (pF g T L nr rx rm rb) L (fct L - 1) (f1c S (g 0))) i))) from (fun _ => ⟨by omega, hck2, hrw_zu38, by rw [cq_step hk0] at hacc; omega, Or.inr ⟨by omega, hkeep⟩⟩)), (show 1 = 0 → (c9 + 1) = fct L ∧ (cn + 1) = (cq (pF g T L nr rx rm rb) L (fct L - 1) (f1c S (g 0))) ∧ (0 < (cn + 1) → ∀ i, i < L → za39 25 i = nI (dg (ft (pF g T L nr rx rm rb) L (fct L - 1) (f1c S (g 0))) i)) from (fun h => absurd h (by decide))), (show (cn + 1) ≤ (c9 + 1) from by omega), (fun i h12 => Eq.trans (hfu_zu13 i h12) (hfu12 i h12)), (fun i h23 h24 h25 => Eq.trans (hfa_zu38 i h23) (Eq.trans (hfa_zu32 i h25) (Eq.trans (hfa_zu13 i h24) (hfa12 i h23 h24 h25)))), hP, hD, hS, lv_sub hl [0, 1, 2, 3, 4, 5] rfl⟩
    · refine lv_if_eq (tgt := 50) hx hb dX2_countFitting_34 (by decide) (fun _ => ?_) (fun c_41 => absurd c_41 (by decide))
      refine lv_aload_n hx hb dX2_countFitting_50 rfl (lv_at hl 3 rfl) ?_
      refine wVv (eO_S tO) (As := []) (rest := []) ⟨hx, hb, hml, hown, hts⟩ (kX2_goOn l D cA r _ zu13 za14 th LP tf tO L N ((hfu_zu13 11 (by decide)).trans ((hfu12 11 (by decide)).trans ((hu11_zu4).trans (congrArg nI hLe.symm)))) hL6 (fun k hk => (congrFun (hfa_zu13 23 (by decide)) (k)).trans (hrowN (k) hk))) (cwV 0 hts gX2_countFitting_X2_goOn rfl rfl rfl (by decide +kernel) ⟨Nat.le_of_ble_eq_true rfl, Nat.le_of_ble_eq_true rfl⟩) (va_recv hK hP (ci := 2) (q0 := 4) rfl rfl) hK hP hD hS hA hE rfl hl.1 rfl (Nat.le_of_ble_eq_true rfl) dX2_countFitting_51 ⟨Nat.zero_le _, Nat.zero_le _⟩ (fun z_44 H locs hw_43 hP hD hS => ?_)
      obtain ⟨zu45, za46, zq47⟩ := z_44
      rcases hw_43 with ⟨hfk0, hz_zu45⟩ | ⟨hfk1, hzu_zu45, hrw_zu45, hfa_zu45, hzq_zu45⟩
      · cases hz_zu45
        have hP : va_P D vwCl (xN cA r (zu13, za14, th, LP, tf)) H := hP
        have hD : va_D A (xN cA r (zu13, za14, th, LP, tf)) := hD
        refine rn_iinc (x := c9) (d := 1) (lv' := [(5, .int (nI (c9 + 1))), (4, .int (nI cn)), (3, .int (nI (fct L))), (0, .ref (r 4)), (1, .int (nI S)), (2, .ref (r 2))]) hx hb rfl dX2_countFitting_54 hl (k := 0) rfl (by decide) rfl (fun ls hl => ?_)
        refine lv_goto (tgt := 12) hx hb dX2_countFitting_57 (by decide) ?_
        have hp1 : pF g T L nr rx rm rb N = 0 := cif_neg (fun q => b_20 (hro9.mp q))
        have hkeep : 0 < cn → ∀ i, i < L → za14 25 i = nI (dg (ft (pF g T L nr rx rm rb) L (fct L - 1) (f1c S (g 0))) i) := fun hc7 i hi => (congrFun (hfa_zu13 25 (by decide)) i).trans ((hkk.resolve_left (fun w7 => by omega)).2 i hi)
        have hk0 := chk_end hck hfk0
        exact ih12 (0, (c9 + 1), 0, 0, cn, zu13, za14) _ _ _ (show 0 + 0 < mo + k from by omega) ⟨(show 0 ≤ 1 from Nat.zero_le _), (show 0 = 1 → (c9 + 1) + 0 + 1 = fct L ∧ chk S L 0 0 = true ∧ (∀ i, i < L → za14 23 i = nI (dg 0 i)) ∧ cn + cq (pF g T L nr rx rm rb) L 0 0 = (cq (pF g T L nr rx rm rb) L (fct L - 1) (f1c S (g 0))) ∧ ((cn = 0 ∧ ft (pF g T L nr rx rm rb) L 0 0 = (ft (pF g T L nr rx rm rb) L (fct L - 1) (f1c S (g 0)))) ∨ (0 < cn ∧ ∀ i, i < L → za14 25 i = nI (dg (ft (pF g T L nr rx rm rb) L (fct L - 1) (f1c S (g 0))) i))) from (fun h => absurd h (by decide))), (show 0 = 0 → (c9 + 1) = fct L ∧ cn = (cq (pF g T L nr rx rm rb) L (fct L - 1) (f1c S (g 0))) ∧ (0 < cn → ∀ i, i < L → za14 25 i = nI (dg (ft (pF g T L nr rx rm rb) L (fct L - 1) (f1c S (g 0))) i)) from (fun _ => ⟨by omega, by rw [hk0] at hacc; have e7 : cq (pF g T L nr rx rm rb) L 0 N = pF g T L nr rx rm rb N := rfl; omega, hkeep⟩)), (show cn ≤ (c9 + 1) from by omega), (fun i h12 => Eq.trans (hfu_zu13 i h12) (hfu12 i h12)), (fun i h23 h24 h25 => Eq.trans (hfa_zu13 i h24) (hfa12 i h23 h24 h25)), hP, hD, hS, lv_sub hl [0, 1, 2, 3, 4, 5] rfl⟩
      · have hzu_zu45 : zu13 = zu45 := Eq.symm hzu_zu45
        subst hzu_zu45
        have hzq_zu45 : zq47 = (th, LP, tf) := hzq_zu45
        subst hzq_zu45
        have hrw_zu45 : ∀ k, k < L → za46 23 k = nI (dg (nx N L) k) := hrw_zu45
        have hfa_zu45 : ∀ i, i ≠ 23 → za46 i = za14 i := hfa_zu45
        have hP : va_P D vwCl (xN cA r (zu13, za46, th, LP, tf)) H := hP
        have hD : va_D A (xN cA r (zu13, za46, th, LP, tf)) := hD
        refine rn_iinc (x := c9) (d := 1) (lv' := [(5, .int (nI (c9 + 1))), (4, .int (nI cn)), (3, .int (nI (fct L))), (0, .ref (r 4)), (1, .int (nI S)), (2, .ref (r 2))]) hx hb rfl dX2_countFitting_54 hl (k := 0) rfl (by decide) rfl (fun ls hl => ?_)
        refine lv_goto (tgt := 12) hx hb dX2_countFitting_57 (by decide) ?_
        have hp1 : pF g T L nr rx rm rb N = 0 := cif_neg (fun q => b_20 (hro9.mp q))
        have hkeep : 0 < cn → ∀ i, i < L → za46 25 i = nI (dg (ft (pF g T L nr rx rm rb) L (fct L - 1) (f1c S (g 0))) i) := fun hc7 i hi => (congrFun (Eq.trans (hfa_zu45 25 (by decide)) (hfa_zu13 25 (by decide))) i).trans ((hkk.resolve_left (fun w7 => by omega)).2 i hi)
        obtain ⟨hk0, hck2⟩ := chk_next hck hfk1
        exact ih12 (1, (c9 + 1), (k - 1), (nx N L), cn, zu13, za46) _ _ _ (show 1 + (k - 1) < mo + k from by omega) ⟨(show 1 ≤ 1 from Nat.le_refl 1), (show 1 = 1 → (c9 + 1) + (k - 1) + 1 = fct L ∧ chk S L (k - 1) (nx N L) = true ∧ (∀ i, i < L → za46 23 i = nI (dg (nx N L) i)) ∧ cn + cq (pF g T L nr rx rm rb) L (k - 1) (nx N L) = (cq (pF g T L nr rx rm rb) L (fct L - 1) (f1c S (g 0))) ∧ ((cn = 0 ∧ ft (pF g T L nr rx rm rb) L (k - 1) (nx N L) = (ft (pF g T L nr rx rm rb) L (fct L - 1) (f1c S (g 0)))) ∨ (0 < cn ∧ ∀ i, i < L → za46 25 i = nI (dg (ft (pF g T L nr rx rm rb) L (fct L - 1) (f1c S (g 0))) i))) from (fun _ => ⟨by omega, hck2, hrw_zu45, by rw [cq_step hk0] at hacc; omega, by rcases hkk with w7 | w7; exact Or.inl ⟨w7.1, by rw [← w7.2]; exact (ft_no hk0 (by omega)).symm⟩; exact Or.inr ⟨w7.1, hkeep w7.1⟩⟩)), (show 1 = 0 → (c9 + 1) = fct L ∧ cn = (cq (pF g T L nr rx rm rb) L (fct L - 1) (f1c S (g 0))) ∧ (0 < cn → ∀ i, i < L → za46 25 i = nI (dg (ft (pF g T L nr rx rm rb) L (fct L - 1) (f1c S (g 0))) i)) from (fun h => absurd h (by decide))), (show cn ≤ (c9 + 1) from by omega), (fun i h12 => Eq.trans (hfu_zu13 i h12) (hfu12 i h12)), (fun i h23 h24 h25 => Eq.trans (hfa_zu45 i h23) (Eq.trans (hfa_zu13 i h24) (hfa12 i h23 h24 h25))), hP, hD, hS, lv_sub hl [0, 1, 2, 3, 4, 5] rfl⟩
