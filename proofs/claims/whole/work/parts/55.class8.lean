set_option maxHeartbeats 4000000 in
set_option maxRecDepth 100000 in
theorem kX8_fallNumber (l : Launch) (D : va_G) (cA : Nat → ClassId) (r : Nat → Nat) (sz : Nat) (u : Nat → Int32) (a : Nat → Nat → Int32) (th : Nat → Option Nat) (LP : List Nat) (tf : Nat → va_E) (tO : Nat) (g : Nat → Nat) (T : Nat → Nat → Nat) (fm : Nat → Nat) (ll : Nat → List Nat) (k : Nat) (hM : NT u a g T) (hB : TB g T) (hfm : ∀ q, q < 300 → a 22 q = nI (fm q)) (hfi : fmI (g 0) fm ll) (hk31 : k < 2147483648) : Met l yX8_fallNumber wsX8_fallNumber ({ frames := 0, cells := 0, slots := 0, locals := 0 } : Room) (va_Pc [.ref (r 3), .int (nI k)] (wA D vwCl (tyA cA) (eO tO) (xN cA r) (u, a, th, LP, tf) sz)) (va_Qi (fun (v : Int32) (z : sN) => fnR (g 0) ll k v ∧ z = (u, a, th, LP, tf)) (wB D vwCl (tyA cA) (xN cA r) (va_A (xN cA r (u, a, th, LP, tf)) sz)) (va_A (xN cA r (u, a, th, LP, tf)) sz)) 0 0 (va_A (xN cA r (u, a, th, LP, tf)) sz) := by
  refine Met.ofW (cc := cX8_fallNumber) (maxL := 5) (ret := (some .int)) (by decide) rfl ?_
  intro p e s m args below meth c s₁ B hml hv
  obtain ⟨rfl, hsz, hP, hK, hD0, hE⟩ := hv
  have hx := B.exec
  have hb := B.bytes
  have hr := B.returns
  have hts := atoms_spec (ws := wsX8_fallNumber) B.pre
  have hown : s.vm.findClass RX8 = some m.cls := findClass_of_methodNamed B.named
  have hlocks := B.notSynchronized
  subst hsz
  have hD := hD0.self (sz := s.heap.size)
  generalize hAe : va_A (xN cA r (u, a, th, LP, tf)) s.heap.size = A at hD hE ⊢
  have hA : ∀ q : Nat, s.heap.size ≤ q → A q := fun q h => by rw [← hAe]; exact Or.inr h
  have hS : va_S A s.heap s.heap [] := va_S.rf
  have hinX5 : ∀ w ∈ u_ws RX5 TX5 8, w ∈ wsX8_fallNumber := by decide +kernel
  have hinX8 : ∀ w ∈ u_ws RX8 TX8 10, w ∈ wsX8_fallNumber := by decide +kernel
  have hl := lv_entry ([.ref (r 3), .int (nI k)]) (n := 5) (Nat.le_of_ble_eq_true rfl)
  rw [lg_entry_eq]
  generalize (lg_sl ([.ref (r 3), .int (nI k)]) ++ List.replicate (5 - (lg_sl ([.ref (r 3), .int (nI k)])).length) Slot.unset).toArray = ls at hl ⊢
  have hl : lv_has ls 5 [(0, .ref (r 3)), (1, .int (nI k))] := hl
  have hg6 := hB.1
  refine lv_iload_n hx hb dX8_fallNumber_0 rfl (lv_at hl 1 rfl) ?_
  refine lv_istore_n (lv' := [(2, .int (nI k)), (0, .ref (r 3)), (1, .int (nI k))]) hx hb dX8_fallNumber_1 rfl hl (by decide) rfl (fun ls hl => ?_)
  refine lv_iconst (v := (nI 0)) hx hb dX8_fallNumber_2 rfl ?_
  refine lv_istore_n (lv' := [(3, .int (nI 0)), (2, .int (nI k)), (0, .ref (r 3)), (1, .int (nI k))]) hx hb dX8_fallNumber_3 rfl hl (by decide) rfl (fun ls hl => ?_)
  refine wLoop (τ := Nat × Nat) (fun z H locs ls => (fun (m1 : Nat) (lf : Nat) => (m1 ≤ 300) ∧ (lf + sm (dF (g 0) ll) (6 * m1) = k) ∧ (va_P D vwCl (xN cA r (u, a, th, LP, tf)) H) ∧ (va_D A (xN cA r (u, a, th, LP, tf))) ∧ (va_S A s.heap H locs) ∧ (lv_has ls 5 [(3, .int (nI m1)), (2, .int (nI lf)), (0, .ref (r 3)), (1, .int (nI k))])) z.1 z.2) (fun z => (fun (m1 : Nat) (lf : Nat) => 300 - m1) z.1 z.2) (0, k) ⟨(show 0 ≤ 300 from by omega), (show k + sm (dF (g 0) ll) (6 * 0) = k from by rw [sm]; rfl), hP, hD, hS, lv_sub hl [0, 1, 2, 3] rfl⟩ ?_
  rintro ⟨m1, lf⟩ H locs ls ⟨hm1, hlf, hP, hD, hS, hl⟩ ih4
  have hm1 : m1 ≤ 300 := hm1
  have hlf : lf + sm (dF (g 0) ll) (6 * m1) = k := hlf
  have hP : va_P D vwCl (xN cA r (u, a, th, LP, tf)) H := hP
  have hD : va_D A (xN cA r (u, a, th, LP, tf)) := hD
  have hl : lv_has ls 5 [(3, .int (nI m1)), (2, .int (nI lf)), (0, .ref (r 3)), (1, .int (nI k))] := hl
  refine lv_iload_n hx hb dX8_fallNumber_4 rfl (lv_at hl 0 rfl) ?_
  refine lv_sipush (v := (nI 300)) hx hb dX8_fallNumber_5 rfl ?_
  refine rn_ge (x := m1) (y := 300) (tgt := 77) hx hb (by omega) (by omega) dX8_fallNumber_8 (by decide) (fun c_1 => ?_) (fun c_1 => ?_)
  · have hme : m1 = 300 := by omega
    refine lv_bipush (v := (-9)) hx hb dX8_fallNumber_77 (by decide) ?_
    exact wIret hx hb hr hlocks (v := (-9)) (u, a, th, LP, tf) (⟨Or.inr ⟨by have e9 : lf + sm (dF (g 0) ll) 1800 = k := (by rw [hme] at hlf; exact hlf); omega, rfl⟩, rfl⟩) hK hP hD hS dX8_fallNumber_79
  · refine lv_iconst (v := (nI 0)) hx hb dX8_fallNumber_11 rfl ?_
    refine lv_istore (lv' := [(4, .int (nI 0)), (3, .int (nI m1)), (2, .int (nI lf)), (0, .ref (r 3)), (1, .int (nI k))]) hx hb dX8_fallNumber_12 hl (by decide) rfl (fun ls hl => ?_)
    refine wLoop (τ := Nat × Nat) (fun z H locs ls => (fun (x : Nat) (lf2 : Nat) => (x ≤ g 0) ∧ (lf2 + sm (dF (g 0) ll) (6 * m1 + x) = k) ∧ (va_P D vwCl (xN cA r (u, a, th, LP, tf)) H) ∧ (va_D A (xN cA r (u, a, th, LP, tf))) ∧ (va_S A s.heap H locs) ∧ (lv_has ls 5 [(4, .int (nI x)), (2, .int (nI lf2)), (3, .int (nI m1)), (0, .ref (r 3)), (1, .int (nI k))])) z.1 z.2) (fun z => (fun (x : Nat) (lf2 : Nat) => g 0 - x) z.1 z.2) (0, lf) ⟨(show 0 ≤ g 0 from Nat.zero_le _), (show lf + sm (dF (g 0) ll) (6 * m1 + 0) = k from hlf), hP, hD, hS, lv_sub hl [0, 2, 1, 3, 4] rfl⟩ ?_
    rintro ⟨x, lf2⟩ H locs ls ⟨hx1, hlf2, hP, hD, hS, hl⟩ ih14
    have hx1 : x ≤ g 0 := hx1
    have hlf2 : lf2 + sm (dF (g 0) ll) (6 * m1 + x) = k := hlf2
    have hP : va_P D vwCl (xN cA r (u, a, th, LP, tf)) H := hP
    have hD : va_D A (xN cA r (u, a, th, LP, tf)) := hD
    have hl : lv_has ls 5 [(4, .int (nI x)), (2, .int (nI lf2)), (3, .int (nI m1)), (0, .ref (r 3)), (1, .int (nI k))] := hl
    have hf7 := (hfi m1 (by omega)).1
    refine lv_aload_n hx hb dX8_fallNumber_14 rfl (lv_at hl 3 rfl) ?_
    refine va_get (D := D) (ci := 8) (v := .ref (r 22)) (C := RX8) (T := TX8) (N := 10) hx hb hts hinX8 hown hK hP 3 rfl rfl 4 (by decide) (hts (.fieldLink RX8 22 "OneNail$Walk" "fallen" "[I") (by decide +kernel)) (fun _ h9 => h9) rfl dX8_fallNumber_15 ?_
    refine lv_iload_n hx hb dX8_fallNumber_18 rfl (lv_at hl 2 rfl) ?_
    refine ra_iald hx hb hK hP 22 0 (n := 300) (f := (a 22)) (j := m1) (v := (nI (fm m1))) rfl rfl (by omega) (by decide) (hfm m1 (by omega)) dX8_fallNumber_19 ?_
    refine rz_eq (x := fm m1) (tgt := 71) hx hb (by omega) dX8_fallNumber_20 (by decide) (fun c_2 => ?_) (fun c_2 => ?_)
    · refine rn_iinc (x := m1) (d := 1) (lv' := [(3, .int (nI (m1 + 1))), (4, .int (nI x)), (2, .int (nI lf2)), (0, .ref (r 3)), (1, .int (nI k))]) hx hb rfl dX8_fallNumber_71 hl (k := 2) rfl (by decide) rfl (fun ls hl => ?_)
      refine lv_goto (tgt := 4) hx hb dX8_fallNumber_74 (by decide) ?_
      exact ih4 ((m1 + 1), lf2) _ _ _ (show 300 - (m1 + 1) < 300 - m1 from by omega) ⟨(show (m1 + 1) ≤ 300 from by omega), (show lf2 + sm (dF (g 0) ll) (6 * (m1 + 1)) = k from (by rw [(cD_row (m := m1) (x := x) (by omega) (fun y h1 h2 h3 => by have h4 := (hfi m1 (by omega)).2 y h2; rw [show fm m1 = 0 by omega, bi_0 y h2] at h4; exact absurd (h4.mpr h3) (by decide)))]; exact hlf2)), hP, hD, hS, lv_sub hl [0, 2, 3, 4] rfl⟩
    · refine lv_iload hx hb dX8_fallNumber_23 (lv_at hl 0 rfl) ?_
      refine lv_aload_n hx hb dX8_fallNumber_25 rfl (lv_at hl 3 rfl) ?_
      refine va_get (D := D) (ci := 8) (v := .ref (r 1)) (C := RX8) (T := TX8) (N := 10) hx hb hts hinX8 hown hK hP 3 rfl rfl 0 (by decide) (hts (.fieldLink RX8 40 "OneNail$Walk" "town" "LOneNail$Street;") (by decide +kernel)) (fun _ h9 => h9) rfl dX8_fallNumber_26 ?_
      refine va_get (D := D) (ci := 5) (v := .int (nI (g 0))) (C := RX5) (T := TX5) (N := 8) hx hb hts hinX5 hown hK hP 1 rfl rfl 0 (by decide) (hts (.fieldLink RX8 61 "OneNail$Street" "count" "I") (by decide +kernel)) (fun _ h9 => h9) (congrArg (fun z => some (Value.int z)) (hM.1)) dX8_fallNumber_29 ?_
      refine rn_ge (x := x) (y := g 0) (tgt := 71) hx hb (by omega) (by omega) dX8_fallNumber_32 (by decide) (fun c_3 => ?_) (fun c_3 => ?_)
      · refine rn_iinc (x := m1) (d := 1) (lv' := [(3, .int (nI (m1 + 1))), (4, .int (nI x)), (2, .int (nI lf2)), (0, .ref (r 3)), (1, .int (nI k))]) hx hb rfl dX8_fallNumber_71 hl (k := 2) rfl (by decide) rfl (fun ls hl => ?_)
        refine lv_goto (tgt := 4) hx hb dX8_fallNumber_74 (by decide) ?_
        exact ih4 ((m1 + 1), lf2) _ _ _ (show 300 - (m1 + 1) < 300 - m1 from by omega) ⟨(show (m1 + 1) ≤ 300 from by omega), (show lf2 + sm (dF (g 0) ll) (6 * (m1 + 1)) = k from (by rw [(cD_row (m := m1) (x := x) (by omega) (fun y h1 h2 h3 => by omega))]; exact hlf2)), hP, hD, hS, lv_sub hl [0, 2, 3, 4] rfl⟩
      · have hbx := (hfi m1 (by omega)).2 x (by omega)
        have hbl := bi_lt (fm m1) x
        refine lv_aload_n hx hb dX8_fallNumber_35 rfl (lv_at hl 3 rfl) ?_
        refine va_get (D := D) (ci := 8) (v := .ref (r 22)) (C := RX8) (T := TX8) (N := 10) hx hb hts hinX8 hown hK hP 3 rfl rfl 4 (by decide) (hts (.fieldLink RX8 22 "OneNail$Walk" "fallen" "[I") (by decide +kernel)) (fun _ h9 => h9) rfl dX8_fallNumber_36 ?_
        refine lv_iload_n hx hb dX8_fallNumber_39 rfl (lv_at hl 2 rfl) ?_
        refine ra_iald hx hb hK hP 22 0 (n := 300) (f := (a 22)) (j := m1) (v := (nI (fm m1))) rfl rfl (by omega) (by decide) (hfm m1 (by omega)) dX8_fallNumber_40 ?_
        refine lv_iload hx hb dX8_fallNumber_41 (lv_at hl 0 rfl) ?_
        refine lv_ishr hx hb dX8_fallNumber_43 ?_
        refine lv_iconst (v := (nI 1)) hx hb dX8_fallNumber_44 rfl ?_
        refine lv_iand hx hb dX8_fallNumber_45 ?_
        refine lv_topi (fun y_4 ey_4 => ?_)
        obtain rfl : y_4 = (nI (bi (fm m1) x)) := ey_4.trans (bi_row _ hf7 x (by omega))
        refine lv_iconst (v := (nI 1)) hx hb dX8_fallNumber_46 rfl ?_
        refine rn_ne (x := bi (fm m1) x) (y := 1) (tgt := 65) hx hb (by omega) (by omega) dX8_fallNumber_47 (by decide) (fun c_5 => ?_) (fun c_5 => ?_)
        · refine rn_iinc (x := x) (d := 1) (lv' := [(4, .int (nI (x + 1))), (2, .int (nI lf2)), (3, .int (nI m1)), (0, .ref (r 3)), (1, .int (nI k))]) hx hb rfl dX8_fallNumber_65 hl (k := 0) rfl (by decide) rfl (fun ls hl => ?_)
          refine lv_goto (tgt := 14) hx hb dX8_fallNumber_68 (by decide) ?_
          exact ih14 ((x + 1), lf2) _ _ _ (show g 0 - (x + 1) < g 0 - x from by omega) ⟨(show (x + 1) ≤ g 0 from by omega), (show lf2 + sm (dF (g 0) ll) (6 * m1 + (x + 1)) = k from (by rw [cD_no (by omega) (fun e7 => by have := hbx.mpr e7; omega)]; exact hlf2)), hP, hD, hS, lv_sub hl [0, 1, 2, 3, 4] rfl⟩
        · refine lv_iload_n hx hb dX8_fallNumber_50 rfl (lv_at hl 1 rfl) ?_
          refine rz_ne (x := lf2) (tgt := 62) hx hb (by omega) dX8_fallNumber_51 (by decide) (fun c_6 => ?_) (fun c_6 => ?_)
          · obtain ⟨x_7, ex_7⟩ : ∃ z : Int32, z = (nI lf2) + Int32.ofInt (-1) := ⟨_, rfl⟩
            refine lv_iinc (v := x_7) (lv' := [(2, .int x_7), (4, .int (nI x)), (3, .int (nI m1)), (0, .ref (r 3)), (1, .int (nI k))]) hx hb dX8_fallNumber_62 hl (k := 1) rfl (ex_7).symm (by decide) rfl (fun ls hl => ?_)
            refine rn_iinc (x := x) (d := 1) (lv' := [(4, .int (nI (x + 1))), (2, .int x_7), (3, .int (nI m1)), (0, .ref (r 3)), (1, .int (nI k))]) hx hb rfl dX8_fallNumber_65 hl (k := 1) rfl (by decide) rfl (fun ls hl => ?_)
            refine lv_goto (tgt := 14) hx hb dX8_fallNumber_68 (by decide) ?_
            have hl : lv_has ls 5 [(4, .int (nI (x + 1))), (2, .int (nI (lf2 - 1))), (3, .int (nI m1)), (0, .ref (r 3)), (1, .int (nI k))] := lv_re hl 1 ⟨rfl, rfl⟩ (ex_7.trans (sub_n (by omega)))
            exact ih14 ((x + 1), (lf2 - 1)) _ _ _ (show g 0 - (x + 1) < g 0 - x from by omega) ⟨(show (x + 1) ≤ g 0 from by omega), (show (lf2 - 1) + sm (dF (g 0) ll) (6 * m1 + (x + 1)) = k from (by rw [cD_yes (by omega) (hbx.mp (by omega))]; omega)), hP, hD, hS, lv_sub hl [0, 1, 2, 3, 4] rfl⟩
          · refine lv_bipush (v := (nI 10)) hx hb dX8_fallNumber_54 rfl ?_
            refine lv_iload_n hx hb dX8_fallNumber_56 rfl (lv_at hl 2 rfl) ?_
            refine rn_imul (x := 10) (y := m1) hx hb dX8_fallNumber_57 ?_
            refine lv_iload hx hb dX8_fallNumber_58 (lv_at hl 0 rfl) ?_
            refine rn_iadd (x := 10 * m1) (y := x) hx hb dX8_fallNumber_60 ?_
            exact wIret hx hb hr hlocks (v := (nI ((10 * m1) + x))) (u, a, th, LP, tf) (⟨Or.inl ⟨6 * m1 + x, by omega, (DF_at (by omega)).mpr (hbx.mp (by omega)), by omega, by rw [show (6 * m1 + x) / 6 = m1 by omega, show (6 * m1 + x) % 6 = x by omega]⟩, rfl⟩) hK hP hD hS dX8_fallNumber_61

set_option maxHeartbeats 4000000 in
set_option maxRecDepth 100000 in
theorem kX10_layFalls (l : Launch) (D : va_G) (cA : Nat → ClassId) (r : Nat → Nat) (sz : Nat) (u : Nat → Int32) (a : Nat → Nat → Int32) (g : Nat → Nat) (T : Nat → Nat → Nat) (ro : Nat → Nat) (L : Nat) (hM : MT u a g T) (hB : TB g T) (hL : u 22 = nI L) (hL8 : L ≤ 8) (hro : ∀ k, k < L → a 21 k = nI (ro k)) (hrg : ∀ k, k < L → ro k < g 0) (hL0 : 0 < L) : Met l yX10_layFalls wsX10_layFalls ({ frames := 2, cells := 0, slots := 0, locals := 47 } : Room) (va_Pc [.ref (r 0)] (wA D vwCl (tyA cA) e0 (xM cA r) (u, a) sz)) (va_Qi (fun (v : Int32) (z : sM) => v = nI (fc g T ro L) ∧ (∀ q, q < 1800 → z.2 27 q = nI (dF (g 0) (fs g T ro L 300) q)) ∧ (∀ i, i ≠ 25 → z.1 i = u i) ∧ (∀ i, i ≠ 23 → i ≠ 24 → i ≠ 26 → i ≠ 27 → z.2 i = a i)) (wB D vwCl (tyA cA) (xM cA r) (va_A (xM cA r (u, a)) sz)) (va_A (xM cA r (u, a)) sz)) 0 0 (va_A (xM cA r (u, a)) sz) := by
  refine Met.ofW (cc := cX10_layFalls) (maxL := 5) (ret := (some .int)) (by decide) rfl ?_
  intro p e s m args below meth c s₁ B hml hv
  obtain ⟨rfl, hsz, hP, hK, hD0, hE⟩ := hv
  have hx := B.exec
  have hb := B.bytes
  have hr := B.returns
  have hts := atoms_spec (ws := wsX10_layFalls) B.pre
  have hown : s.vm.findClass RX10 = some m.cls := findClass_of_methodNamed B.named
  have hlocks := B.notSynchronized
  subst hsz
  have hD := hD0.self (sz := s.heap.size)
  generalize hAe : va_A (xM cA r (u, a)) s.heap.size = A at hD hE ⊢
  have hA : ∀ q : Nat, s.heap.size ≤ q → A q := fun q h => by rw [← hAe]; exact Or.inr h
  have hS : va_S A s.heap s.heap [] := va_S.rf
  have hinX10 : ∀ w ∈ u_ws RX10 TX10 34, w ∈ wsX10_layFalls := by decide +kernel
  have hl := lv_entry ([.ref (r 0)]) (n := 5) (Nat.le_of_ble_eq_true rfl)
  rw [lg_entry_eq]
  generalize (lg_sl ([.ref (r 0)]) ++ List.replicate (5 - (lg_sl ([.ref (r 0)])).length) Slot.unset).toArray = ls at hl ⊢
  have hl : lv_has ls 5 [(0, .ref (r 0))] := hl
  have hg6 := hB.1
  refine lv_aload_n hx hb dX10_layFalls_0 rfl (lv_at hl 0 rfl) ?_
  refine lv_sipush (v := (nI 300)) hx hb dX10_layFalls_1 rfl ?_
  refine lv_sipush (v := (nI 400)) hx hb dX10_layFalls_4 rfl ?_
  refine wVv e0_S (As := [.int (nI 300), .int (nI 400)]) (rest := []) ⟨hx, hb, hml, hown, hts⟩ (kX10_layComings l D cA r _ u a g T ro L 300 400 hM hB (hL) hL8 (fun k hk => hro (k) hk) hrg (by decide) (by omega)) (cwV 2 hts gX10_layFalls_X10_layComings rfl rfl rfl (by decide +kernel) ⟨Nat.le_of_ble_eq_true rfl, Nat.le_of_ble_eq_true rfl⟩) (va_recv hK hP (ci := 10) (q0 := 0) rfl rfl) hK hP hD hS hA hE rfl hl.1 rfl (Nat.le_of_ble_eq_true rfl) dX10_layFalls_7 ⟨Nat.zero_le _, Nat.zero_le _⟩ (fun z_3 H locs hw_2 hP hD hS => ?_)
  obtain ⟨zu4, za5⟩ := z_3
  obtain ⟨cN, hLC, hcu_zu4, hc23_zu4, hc24_zu4, hfu_zu4, hfa_zu4⟩ := hw_2
  have hcu_zu4 : zu4 25 = nI cN := hcu_zu4
  have hc23_zu4 : ∀ k, k < cN → za5 23 k = nI (ct g T ro L k) := hc23_zu4
  have hc24_zu4 : ∀ k, k < cN → za5 24 k = nI (ro (k % L)) := hc24_zu4
  have hfu_zu4 : ∀ i, i ≠ 25 → zu4 i = u i := hfu_zu4
  have hfa_zu4 : ∀ i, i ≠ 23 → i ≠ 24 → za5 i = a i := hfa_zu4
  have hP : va_P D vwCl (xM cA r (zu4, za5)) H := hP
  have hD : va_D A (xM cA r (zu4, za5)) := hD
  have hcN := LC_300 hLC hB hrg
  have hce := LC_cnf hLC hB hL0 hrg
  refine lv_iconst (v := (nI 0)) hx hb dX10_layFalls_10 rfl ?_
  refine lv_istore_n (lv' := [(1, .int (nI 0)), (0, .ref (r 0))]) hx hb dX10_layFalls_11 rfl hl (by decide) rfl (fun ls hl => ?_)
  refine wLoop (τ := Nat × (Nat → Nat → Int32)) (fun z H locs ls => (fun (q : Nat) (a1012 : (Nat → Nat → Int32)) => (q ≤ 1800) ∧ (∀ j, j < q → a1012 27 j = nI 0) ∧ (∀ i : Nat, i ≠ 27 → a1012 i = za5 i) ∧ (va_P D vwCl (xM cA r (zu4, a1012)) H) ∧ (va_D A (xM cA r (zu4, a1012))) ∧ (va_S A s.heap H locs) ∧ (lv_has ls 5 [(1, .int (nI q)), (0, .ref (r 0))])) z.1 z.2) (fun z => (fun (q : Nat) (a1012 : (Nat → Nat → Int32)) => 1800 - q) z.1 z.2) (0, za5) ⟨(show 0 ≤ 1800 from Nat.zero_le _), (show ∀ j, j < 0 → za5 27 j = nI 0 from (fun j h => absurd h (Nat.not_lt_zero j))), (fun i h27 => rfl), hP, hD, hS, lv_sub hl [0, 1] rfl⟩ ?_
  rintro ⟨q, a1012⟩ H locs ls ⟨hq, hze, hfa12, hP, hD, hS, hl⟩ ih12
  have hq : q ≤ 1800 := hq
  have hze : ∀ j, j < q → a1012 27 j = nI 0 := hze
  have hfa12 : ∀ i : Nat, i ≠ 27 → a1012 i = za5 i := hfa12
  have hP : va_P D vwCl (xM cA r (zu4, a1012)) H := hP
  have hD : va_D A (xM cA r (zu4, a1012)) := hD
  have hl : lv_has ls 5 [(1, .int (nI q)), (0, .ref (r 0))] := hl
  refine lv_iload_n hx hb dX10_layFalls_12 rfl (lv_at hl 0 rfl) ?_
  refine lv_sipush (v := (nI 1800)) hx hb dX10_layFalls_13 rfl ?_
  refine rn_ge (x := q) (y := 1800) (tgt := 32) hx hb (by omega) (by omega) dX10_layFalls_16 (by decide) (fun c_6 => ?_) (fun c_6 => ?_)
  · refine lv_iconst (v := (nI 0)) hx hb dX10_layFalls_32 rfl ?_
    refine lv_istore_n (lv' := [(1, .int (nI 0)), (0, .ref (r 0))]) hx hb dX10_layFalls_33 rfl hl (by decide) rfl (fun ls hl => ?_)
    refine lv_iconst (v := (nI 0)) hx hb dX10_layFalls_34 rfl ?_
    refine lv_istore_n (lv' := [(2, .int (nI 0)), (1, .int (nI 0)), (0, .ref (r 0))]) hx hb dX10_layFalls_35 rfl hl (by decide) rfl (fun ls hl => ?_)
    refine wLoop (τ := Nat × (Nat → Nat → Int32)) (fun z H locs ls => (fun (x : Nat) (a1036 : (Nat → Nat → Int32)) => (x ≤ g 0) ∧ (∀ q1, q1 < 1800 → a1036 27 q1 = nI (dF x (fun y9 => fa (ct g T ro L) (fun k => ro (k % L)) y9 (hd g T y9) (T 2 y9) 300 cN) q1)) ∧ (∀ i : Nat, i ≠ 26 → i ≠ 27 → a1036 i = a1012 i) ∧ (va_P D vwCl (xM cA r (zu4, a1036)) H) ∧ (va_D A (xM cA r (zu4, a1036))) ∧ (va_S A s.heap H locs) ∧ (lv_has ls 5 [(2, .int (nI x)), (1, .int (nI (sm (fun x => (fa (ct g T ro L) (fun k => ro (k % L)) x (hd g T x) (T 2 x) 300 cN).length) x))), (0, .ref (r 0))])) z.1 z.2) (fun z => (fun (x : Nat) (a1036 : (Nat → Nat → Int32)) => g 0 - x) z.1 z.2) (0, a1012) ⟨(show 0 ≤ g 0 from Nat.zero_le _), (show ∀ q1, q1 < 1800 → a1012 27 q1 = nI (dF 0 (fun y9 => fa (ct g T ro L) (fun k => ro (k % L)) y9 (hd g T y9) (T 2 y9) 300 cN) q1) from (fun j hj => (hze j (by omega)).trans (congrArg nI (dF_0 _ j).symm))), (fun i h26 h27 => rfl), hP, hD, hS, lv_sub hl [0, 1, 2] rfl⟩ ?_
    rintro ⟨x, a1036⟩ H locs ls ⟨hx1, hdf, hfa36, hP, hD, hS, hl⟩ ih36
    have hx1 : x ≤ g 0 := hx1
    have hdf : ∀ q1, q1 < 1800 → a1036 27 q1 = nI (dF x (fun y9 => fa (ct g T ro L) (fun k => ro (k % L)) y9 (hd g T y9) (T 2 y9) 300 cN) q1) := hdf
    have hfa36 : ∀ i : Nat, i ≠ 26 → i ≠ 27 → a1036 i = a1012 i := hfa36
    have hP : va_P D vwCl (xM cA r (zu4, a1036)) H := hP
    have hD : va_D A (xM cA r (zu4, a1036)) := hD
    have hl : lv_has ls 5 [(2, .int (nI x)), (1, .int (nI (sm (fun x => (fa (ct g T ro L) (fun k => ro (k % L)) x (hd g T x) (T 2 x) 300 cN).length) x))), (0, .ref (r 0))] := hl
    have hsl := sm_le (F := fun x => (fa (ct g T ro L) (fun k => ro (k % L)) x (hd g T x) (T 2 x) 300 cN).length) (M := 301) (n := x) (fun y _ => by have := fa_len (ct g T ro L) (fun k => ro (k % L)) y (hd g T y) (T 2 y) 300 cN; omega)
    refine lv_iload_n hx hb dX10_layFalls_36 rfl (lv_at hl 0 rfl) ?_
    refine lv_aload_n hx hb dX10_layFalls_37 rfl (lv_at hl 2 rfl) ?_
    refine va_get (D := D) (ci := 10) (v := .int (nI (g 0))) (C := RX10) (T := TX10) (N := 34) hx hb hts hinX10 hown hK hP 0 rfl rfl 5 (by decide) (hts (.fieldLink RX10 90 "OneNailModel" "things" "I") (by decide +kernel)) (fun _ h9 => h9) (congrArg (fun z => some (Value.int z)) ((hfu_zu4 5 (by decide)).trans (hM.1))) dX10_layFalls_38 ?_
    refine rn_ge (x := x) (y := g 0) (tgt := 96) hx hb (by omega) (by omega) dX10_layFalls_41 (by decide) (fun c_7 => ?_) (fun c_7 => ?_)
    · have hxe : x = g 0 := by omega
      refine lv_iload_n hx hb dX10_layFalls_96 rfl (lv_at hl 1 rfl) ?_
      exact wIret hx hb hr hlocks (v := (nI (sm (fun x => (fa (ct g T ro L) (fun k => ro (k % L)) x (hd g T x) (T 2 x) 300 cN).length) x))) (zu4, a1036) (⟨congrArg nI (by unfold fc; rw [← fs_llc hce, hxe]), fun q hq => by rw [← fs_llc hce, ← hxe]; exact hdf q hq, (fun i h25 => hfu_zu4 i h25), (fun i h23 h24 h26 h27 => Eq.trans (hfa36 i h26 h27) (Eq.trans (hfa12 i h27) (hfa_zu4 i h23 h24)))⟩) hK hP hD hS dX10_layFalls_97
    · have hTx := hB.2.2.2 x (by omega)
      have hfl := fa_len (ct g T ro L) (fun k => ro (k % L)) x (hd g T x) (T 2 x) 300 cN
      refine lv_aload_n hx hb dX10_layFalls_44 rfl (lv_at hl 2 rfl) ?_
      refine lv_iload_n hx hb dX10_layFalls_45 rfl (lv_at hl 0 rfl) ?_
      refine lv_sipush (v := (nI 300)) hx hb dX10_layFalls_46 rfl ?_
      refine wVi e0_S (As := [.int (nI x), .int (nI 300)]) (rest := []) ⟨hx, hb, hml, hown, hts⟩ (kX10_fallsOf l D cA r _ zu4 a1036 g T (ct g T ro L) (fun k => ro (k % L)) cN x 300 (MT.keep (MT.keep (MT.keep hM (hfu_zu4 5 (by decide)) (hfu_zu4 6 (by decide)) (hfu_zu4 7 (by decide)) (hfa_zu4 8 (by decide) (by decide)) (hfa_zu4 9 (by decide) (by decide)) (hfa_zu4 10 (by decide) (by decide)) (hfa_zu4 11 (by decide) (by decide)) (hfa_zu4 12 (by decide) (by decide))) rfl rfl rfl (hfa12 8 (by decide)) (hfa12 9 (by decide)) (hfa12 10 (by decide)) (hfa12 11 (by decide)) (hfa12 12 (by decide))) rfl rfl rfl (hfa36 8 (by decide) (by decide)) (hfa36 9 (by decide) (by decide)) (hfa36 10 (by decide) (by decide)) (hfa36 11 (by decide) (by decide)) (hfa36 12 (by decide) (by decide))) hB (hcu_zu4) hcN (fun k hk => (congrFun (hfa36 23 (by decide) (by decide)) (k)).trans ((congrFun (hfa12 23 (by decide)) (k)).trans (hc23_zu4 (k) hk))) (fun k hk => (congrFun (hfa36 24 (by decide) (by decide)) (k)).trans ((congrFun (hfa12 24 (by decide)) (k)).trans (hc24_zu4 (k) hk))) (fun k hk => by have := ct_le hB hL0 hrg k; omega) (fun k hk => by have := hrg _ (Nat.mod_lt k hL0); omega) (by omega) (by omega)) (cwV 2 hts gX10_layFalls_X10_fallsOf rfl rfl rfl (by decide +kernel) ⟨Nat.le_of_ble_eq_true rfl, Nat.le_of_ble_eq_true rfl⟩) (va_recv hK hP (ci := 10) (q0 := 0) rfl rfl) hK hP hD hS hA hE rfl hl.1 rfl (Nat.le_of_ble_eq_true rfl) dX10_layFalls_49 ⟨Nat.zero_le _, Nat.zero_le _⟩ (fun rv_8 z_10 H locs hw_9 hP hD hS => ?_)
      obtain ⟨zu12, za11⟩ := z_10
      obtain ⟨rfl, hu_za11, hfa_za11, hF_za11⟩ := hw_9
      have hu_za11 : zu4 = zu12 := Eq.symm hu_za11
      subst hu_za11
      have hfa_za11 : ∀ i, i ≠ 26 → za11 i = a1036 i := hfa_za11
      have hF_za11 : ∀ j, j < (fa (ct g T ro L) (fun k => ro (k % L)) x (hd g T x) (T 2 x) 300 cN).length → za11 26 j = nI ((fa (ct g T ro L) (fun k => ro (k % L)) x (hd g T x) (T 2 x) 300 cN).getD j 0) := hF_za11
      have hFl_za11 := fa_len (ct g T ro L) (fun k => ro (k % L)) x (hd g T x) (T 2 x) 300 cN
      have hP : va_P D vwCl (xM cA r (zu4, za11)) H := hP
      have hD : va_D A (xM cA r (zu4, za11)) := hD
      refine lv_istore_n (lv' := [(3, .int (nI ((fa (ct g T ro L) (fun k => ro (k % L)) x (hd g T x) (T 2 x) 300 cN).length))), (2, .int (nI x)), (1, .int (nI (sm (fun x => (fa (ct g T ro L) (fun k => ro (k % L)) x (hd g T x) (T 2 x) 300 cN).length) x))), (0, .ref (r 0))]) hx hb dX10_layFalls_52 rfl hl (by decide) rfl (fun ls hl => ?_)
      refine lv_iconst (v := (nI 0)) hx hb dX10_layFalls_53 rfl ?_
      refine lv_istore (lv' := [(4, .int (nI 0)), (3, .int (nI ((fa (ct g T ro L) (fun k => ro (k % L)) x (hd g T x) (T 2 x) 300 cN).length))), (2, .int (nI x)), (1, .int (nI (sm (fun x => (fa (ct g T ro L) (fun k => ro (k % L)) x (hd g T x) (T 2 x) 300 cN).length) x))), (0, .ref (r 0))]) hx hb dX10_layFalls_54 hl (by decide) rfl (fun ls hl => ?_)
      refine wLoop (τ := Nat × (Nat → Nat → Int32)) (fun z H locs ls => (fun (j : Nat) (a1056 : (Nat → Nat → Int32)) => (j ≤ (fa (ct g T ro L) (fun k => ro (k % L)) x (hd g T x) (T 2 x) 300 cN).length) ∧ (∀ q1, q1 < 1800 → a1056 27 q1 = nI (dG x (fun x => fa (ct g T ro L) (fun k => ro (k % L)) x (hd g T x) (T 2 x) 300 cN) j q1)) ∧ (∀ i : Nat, i ≠ 27 → a1056 i = za11 i) ∧ (va_P D vwCl (xM cA r (zu4, a1056)) H) ∧ (va_D A (xM cA r (zu4, a1056))) ∧ (va_S A s.heap H locs) ∧ (lv_has ls 5 [(4, .int (nI j)), (3, .int (nI ((fa (ct g T ro L) (fun k => ro (k % L)) x (hd g T x) (T 2 x) 300 cN).length))), (1, .int (nI (sm (fun x => (fa (ct g T ro L) (fun k => ro (k % L)) x (hd g T x) (T 2 x) 300 cN).length) x))), (2, .int (nI x)), (0, .ref (r 0))])) z.1 z.2) (fun z => (fun (j : Nat) (a1056 : (Nat → Nat → Int32)) => (fa (ct g T ro L) (fun k => ro (k % L)) x (hd g T x) (T 2 x) 300 cN).length - j) z.1 z.2) (0, za11) ⟨(show 0 ≤ (fa (ct g T ro L) (fun k => ro (k % L)) x (hd g T x) (T 2 x) 300 cN).length from Nat.zero_le _), (show ∀ q1, q1 < 1800 → za11 27 q1 = nI (dG x (fun x => fa (ct g T ro L) (fun k => ro (k % L)) x (hd g T x) (T 2 x) 300 cN) 0 q1) from (fun q hq => ((congrFun (hfa_za11 27 (by decide)) q).trans (hdf q hq)).trans (congrArg nI (dG_0 x (fun x => fa (ct g T ro L) (fun k => ro (k % L)) x (hd g T x) (T 2 x) 300 cN) q).symm))), (fun i h27 => rfl), hP, hD, hS, lv_sub hl [0, 1, 3, 2, 4] rfl⟩ ?_
      rintro ⟨j, a1056⟩ H locs ls ⟨hj, hdg, hfa56, hP, hD, hS, hl⟩ ih56
      have hj : j ≤ (fa (ct g T ro L) (fun k => ro (k % L)) x (hd g T x) (T 2 x) 300 cN).length := hj
      have hdg : ∀ q1, q1 < 1800 → a1056 27 q1 = nI (dG x (fun x => fa (ct g T ro L) (fun k => ro (k % L)) x (hd g T x) (T 2 x) 300 cN) j q1) := hdg
      have hfa56 : ∀ i : Nat, i ≠ 27 → a1056 i = za11 i := hfa56
      have hP : va_P D vwCl (xM cA r (zu4, a1056)) H := hP
      have hD : va_D A (xM cA r (zu4, a1056)) := hD
      have hl : lv_has ls 5 [(4, .int (nI j)), (3, .int (nI ((fa (ct g T ro L) (fun k => ro (k % L)) x (hd g T x) (T 2 x) 300 cN).length))), (1, .int (nI (sm (fun x => (fa (ct g T ro L) (fun k => ro (k % L)) x (hd g T x) (T 2 x) 300 cN).length) x))), (2, .int (nI x)), (0, .ref (r 0))] := hl
      refine lv_iload hx hb dX10_layFalls_56 (lv_at hl 0 rfl) ?_
      refine lv_iload_n hx hb dX10_layFalls_58 rfl (lv_at hl 1 rfl) ?_
      refine rn_ge (x := j) (y := (fa (ct g T ro L) (fun k => ro (k % L)) x (hd g T x) (T 2 x) 300 cN).length) (tgt := 86) hx hb (by omega) (by omega) dX10_layFalls_59 (by decide) (fun c_13 => ?_) (fun c_13 => ?_)
      · have hje : j = (fa (ct g T ro L) (fun k => ro (k % L)) x (hd g T x) (T 2 x) 300 cN).length := by omega
        refine lv_iload_n hx hb dX10_layFalls_86 rfl (lv_at hl 2 rfl) ?_
        refine lv_iload_n hx hb dX10_layFalls_87 rfl (lv_at hl 1 rfl) ?_
        refine rn_iadd (x := sm (fun x => (fa (ct g T ro L) (fun k => ro (k % L)) x (hd g T x) (T 2 x) 300 cN).length) x) (y := (fa (ct g T ro L) (fun k => ro (k % L)) x (hd g T x) (T 2 x) 300 cN).length) hx hb dX10_layFalls_88 ?_
        refine lv_istore_n (lv' := [(1, .int (nI ((sm (fun x => (fa (ct g T ro L) (fun k => ro (k % L)) x (hd g T x) (T 2 x) 300 cN).length) x) + ((fa (ct g T ro L) (fun k => ro (k % L)) x (hd g T x) (T 2 x) 300 cN).length)))), (4, .int (nI j)), (3, .int (nI ((fa (ct g T ro L) (fun k => ro (k % L)) x (hd g T x) (T 2 x) 300 cN).length))), (2, .int (nI x)), (0, .ref (r 0))]) hx hb dX10_layFalls_89 rfl hl (by decide) rfl (fun ls hl => ?_)
        refine rn_iinc (x := x) (d := 1) (lv' := [(2, .int (nI (x + 1))), (1, .int (nI ((sm (fun x => (fa (ct g T ro L) (fun k => ro (k % L)) x (hd g T x) (T 2 x) 300 cN).length) x) + ((fa (ct g T ro L) (fun k => ro (k % L)) x (hd g T x) (T 2 x) 300 cN).length)))), (4, .int (nI j)), (3, .int (nI ((fa (ct g T ro L) (fun k => ro (k % L)) x (hd g T x) (T 2 x) 300 cN).length))), (0, .ref (r 0))]) hx hb rfl dX10_layFalls_90 hl (k := 3) rfl (by decide) rfl (fun ls hl => ?_)
        refine lv_goto (tgt := 36) hx hb dX10_layFalls_93 (by decide) ?_
        exact ih36 ((x + 1), a1056) _ _ _ (show g 0 - (x + 1) < g 0 - x from by omega) ⟨(show (x + 1) ≤ g 0 from by omega), (show ∀ q1, q1 < 1800 → a1056 27 q1 = nI (dF (x + 1) (fun y9 => fa (ct g T ro L) (fun k => ro (k % L)) y9 (hd g T y9) (T 2 y9) 300 cN) q1) from (fun q hq => (hdg q hq).trans (congrArg nI (by rw [hje]; exact dG_end x (fun x => fa (ct g T ro L) (fun k => ro (k % L)) x (hd g T x) (T 2 x) 300 cN) q)))), (fun i h26 h27 => Eq.trans (hfa56 i h27) (Eq.trans (hfa_za11 i h26) (hfa36 i h26 h27))), hP, hD, hS, lv_sub hl [0, 1, 4] rfl⟩
      · have hgm := fa_bd _ (getD_mem (show j < (fa (ct g T ro L) (fun k => ro (k % L)) x (hd g T x) (T 2 x) 300 cN).length by omega))
        refine lv_aload_n hx hb dX10_layFalls_62 rfl (lv_at hl 4 rfl) ?_
        refine va_get (D := D) (ci := 10) (v := .ref (r 27)) (C := RX10) (T := TX10) (N := 34) hx hb hts hinX10 hown hK hP 0 rfl rfl 27 (by decide) (hts (.fieldLink RX10 61 "OneNailModel" "doesFall" "[Z") (by decide +kernel)) (fun _ h9 => h9) rfl dX10_layFalls_63 ?_
        refine lv_bipush (v := (nI 6)) hx hb dX10_layFalls_66 rfl ?_
        refine lv_aload_n hx hb dX10_layFalls_68 rfl (lv_at hl 4 rfl) ?_
        refine va_get (D := D) (ci := 10) (v := .ref (r 26)) (C := RX10) (T := TX10) (N := 34) hx hb hts hinX10 hown hK hP 0 rfl rfl 26 (by decide) (hts (.fieldLink RX10 58 "OneNailModel" "falls" "[I") (by decide +kernel)) (fun _ h9 => h9) rfl dX10_layFalls_69 ?_
        refine lv_iload hx hb dX10_layFalls_72 (lv_at hl 0 rfl) ?_
        refine ra_iald hx hb hK hP 17 0 (n := 400) (f := (a1056 26)) (j := j) (v := (nI ((fa (ct g T ro L) (fun k => ro (k % L)) x (hd g T x) (T 2 x) 300 cN).getD j 0))) rfl rfl (by omega) (by decide) ((congrFun (hfa56 26 (by decide)) (j)).trans (hF_za11 (j) (by omega))) dX10_layFalls_74 ?_
        refine rn_imul (x := 6) (y := (fa (ct g T ro L) (fun k => ro (k % L)) x (hd g T x) (T 2 x) 300 cN).getD j 0) hx hb dX10_layFalls_75 ?_
        refine lv_iload_n hx hb dX10_layFalls_76 rfl (lv_at hl 3 rfl) ?_
        refine rn_iadd (x := 6 * ((fa (ct g T ro L) (fun k => ro (k % L)) x (hd g T x) (T 2 x) 300 cN).getD j 0)) (y := x) hx hb dX10_layFalls_77 ?_
        refine lv_iconst (v := (nI 1)) hx hb dX10_layFalls_78 rfl ?_
        refine ra_zast hx hb hK hP hD hS 18 1 (n := 1800) (f := (a1056 27)) (j := (6 * ((fa (ct g T ro L) (fun k => ro (k % L)) x (hd g T x) (T 2 x) 300 cN).getD j 0)) + x) (x := (nI 1)) rfl rfl (by first | exact Or.inl rfl | exact Or.inr rfl | assumption) (by omega) (by decide) dX10_layFalls_79 (fun H locs hP hD hS => ?_)
        have hP : va_P D vwCl (xM cA r (zu4, (va_up a1056 27 (upd (a1056 27) ((6 * ((fa (ct g T ro L) (fun k => ro (k % L)) x (hd g T x) (T 2 x) 300 cN).getD j 0)) + x) (nI 1))))) H := hP
        have hD : va_D A (xM cA r (zu4, (va_up a1056 27 (upd (a1056 27) ((6 * ((fa (ct g T ro L) (fun k => ro (k % L)) x (hd g T x) (T 2 x) 300 cN).getD j 0)) + x) (nI 1))))) := hD
        refine rn_iinc (x := j) (d := 1) (lv' := [(4, .int (nI (j + 1))), (3, .int (nI ((fa (ct g T ro L) (fun k => ro (k % L)) x (hd g T x) (T 2 x) 300 cN).length))), (1, .int (nI (sm (fun x => (fa (ct g T ro L) (fun k => ro (k % L)) x (hd g T x) (T 2 x) 300 cN).length) x))), (2, .int (nI x)), (0, .ref (r 0))]) hx hb rfl dX10_layFalls_80 hl (k := 0) rfl (by decide) rfl (fun ls hl => ?_)
        refine lv_goto (tgt := 56) hx hb dX10_layFalls_83 (by decide) ?_
        exact ih56 ((j + 1), (va_up a1056 27 (upd (a1056 27) ((6 * ((fa (ct g T ro L) (fun k => ro (k % L)) x (hd g T x) (T 2 x) 300 cN).getD j 0)) + x) (nI 1)))) _ _ _ (show (fa (ct g T ro L) (fun k => ro (k % L)) x (hd g T x) (T 2 x) 300 cN).length - (j + 1) < (fa (ct g T ro L) (fun k => ro (k % L)) x (hd g T x) (T 2 x) 300 cN).length - j from by omega) ⟨(show (j + 1) ≤ (fa (ct g T ro L) (fun k => ro (k % L)) x (hd g T x) (T 2 x) 300 cN).length from by omega), (show ∀ q1, q1 < 1800 → (va_up a1056 27 (upd (a1056 27) ((6 * ((fa (ct g T ro L) (fun k => ro (k % L)) x (hd g T x) (T 2 x) 300 cN).getD j 0)) + x) (nI 1))) 27 q1 = nI (dG x (fun x => fa (ct g T ro L) (fun k => ro (k % L)) x (hd g T x) (T 2 x) 300 cN) (j + 1) q1) from (show ∀ q, q < 1800 → (upd (a1056 27) ((6 * ((fa (ct g T ro L) (fun k => ro (k % L)) x (hd g T x) (T 2 x) 300 cN).getD j 0)) + x) (nI 1)) q = nI (dG x (fun x => fa (ct g T ro L) (fun k => ro (k % L)) x (hd g T x) (T 2 x) 300 cN) (j + 1) q) from dG_put (ll := (fun x => fa (ct g T ro L) (fun k => ro (k % L)) x (hd g T x) (T 2 x) 300 cN)) hdg (by omega) (by omega))), (fun i h27 => Eq.trans (vup_ne h27) (hfa56 i h27)), hP, hD, hS, lv_sub hl [0, 1, 2, 3, 4] rfl⟩
  · refine lv_aload_n hx hb dX10_layFalls_19 rfl (lv_at hl 1 rfl) ?_
    refine va_get (D := D) (ci := 10) (v := .ref (r 27)) (C := RX10) (T := TX10) (N := 34) hx hb hts hinX10 hown hK hP 0 rfl rfl 27 (by decide) (hts (.fieldLink RX10 61 "OneNailModel" "doesFall" "[Z") (by decide +kernel)) (fun _ h9 => h9) rfl dX10_layFalls_20 ?_
    refine lv_iload_n hx hb dX10_layFalls_23 rfl (lv_at hl 0 rfl) ?_
    refine lv_iconst (v := (nI 0)) hx hb dX10_layFalls_24 rfl ?_
    refine ra_zast hx hb hK hP hD hS 18 1 (n := 1800) (f := (a1012 27)) (j := q) (x := (nI 0)) rfl rfl (by first | exact Or.inl rfl | exact Or.inr rfl | assumption) (by omega) (by decide) dX10_layFalls_25 (fun H locs hP hD hS => ?_)
    have hP : va_P D vwCl (xM cA r (zu4, (va_up a1012 27 (upd (a1012 27) q (nI 0))))) H := hP
    have hD : va_D A (xM cA r (zu4, (va_up a1012 27 (upd (a1012 27) q (nI 0))))) := hD
    refine rn_iinc (x := q) (d := 1) (lv' := [(1, .int (nI (q + 1))), (0, .ref (r 0))]) hx hb rfl dX10_layFalls_26 hl (k := 0) rfl (by decide) rfl (fun ls hl => ?_)
    refine lv_goto (tgt := 12) hx hb dX10_layFalls_29 (by decide) ?_
    exact ih12 ((q + 1), (va_up a1012 27 (upd (a1012 27) q (nI 0)))) _ _ _ (show 1800 - (q + 1) < 1800 - q from by omega) ⟨(show (q + 1) ≤ 1800 from by omega), (show ∀ j, j < (q + 1) → (va_up a1012 27 (upd (a1012 27) q (nI 0))) 27 j = nI 0 from (show ∀ j, j < q + 1 → (upd (a1012 27) q (nI 0)) j = nI 0 from arr_push (F := fun _ => nI 0) hze rfl)), (fun i h27 => Eq.trans (vup_ne h27) (hfa12 i h27)), hP, hD, hS, lv_sub hl [0, 1] rfl⟩
