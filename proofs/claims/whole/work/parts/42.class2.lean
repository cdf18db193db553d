theorem fq_at {N i q : Nat} (hq : i ≤ q) (h : ¬ (i < q ∧ dg N q < dg N i)) : fq N (dg N i) q = q := fq_no (fun e => by
  rcases Nat.lt_or_ge i q with w | w
  · exact h ⟨w, e⟩
  · obtain rfl : q = i := by omega
    omega)
set_option maxHeartbeats 4000000 in
set_option maxRecDepth 100000 in
theorem kX2_keptAt (l : Launch) (D : va_G) (cA : Nat → ClassId) (r : Nat → Nat) (sz : Nat) (u : Nat → Int32) (a : Nat → Nat → Int32) (th : Nat → Option Nat) (LP : List Nat) (tf : Nat → va_E) (tO : Nat) (q L : Nat) (hL : u 11 = nI L) (hL6 : L ≤ 6) (hq : q < L) : Met l yX2_keptAt wsX2_keptAt ({ frames := 0, cells := 0, slots := 0, locals := 0 } : Room) (va_Pc [.ref (r 4), .int (nI q)] (wA D vwCl (tyA cA) (eO tO) (xN cA r) (u, a, th, LP, tf) sz)) (va_Qi (fun (v : Int32) (z : sN) => v = a 25 q ∧ z = (u, a, th, LP, tf)) (wB D vwCl (tyA cA) (xN cA r) (va_A (xN cA r (u, a, th, LP, tf)) sz)) (va_A (xN cA r (u, a, th, LP, tf)) sz)) 0 0 (va_A (xN cA r (u, a, th, LP, tf)) sz) := by
  refine Met.ofW (cc := cX2_keptAt) (maxL := 2) (ret := (some .int)) (by decide) rfl ?_
  intro p e s m args below meth c s₁ B hml hv
  obtain ⟨rfl, hsz, hP, hK, hD0, hE⟩ := hv
  have hx := B.exec
  have hb := B.bytes
  have hr := B.returns
  have hts := atoms_spec (ws := wsX2_keptAt) B.pre
  have hown : s.vm.findClass RX2 = some m.cls := findClass_of_methodNamed B.named
  have hlocks := B.notSynchronized
  subst hsz
  have hD := hD0.self (sz := s.heap.size)
  generalize hAe : va_A (xN cA r (u, a, th, LP, tf)) s.heap.size = A at hD hE ⊢
  have hA : ∀ q : Nat, s.heap.size ≤ q → A q := fun q h => by rw [← hAe]; exact Or.inr h
  have hS : va_S A s.heap s.heap [] := va_S.rf
  have hinX2 : ∀ w ∈ u_ws RX2 TX2 6, w ∈ wsX2_keptAt := by decide +kernel
  have hl := lv_entry ([.ref (r 4), .int (nI q)]) (n := 2) (Nat.le_of_ble_eq_true rfl)
  rw [lg_entry_eq]
  generalize (lg_sl ([.ref (r 4), .int (nI q)]) ++ List.replicate (2 - (lg_sl ([.ref (r 4), .int (nI q)])).length) Slot.unset).toArray = ls at hl ⊢
  have hl : lv_has ls 2 [(0, .ref (r 4)), (1, .int (nI q))] := hl
  refine lv_iload_n hx hb dX2_keptAt_0 rfl (lv_at hl 1 rfl) ?_
  refine rz_lt (x := q) (tgt := 21) hx hb (by omega) dX2_keptAt_1 (by decide) ?_
  refine lv_iload_n hx hb dX2_keptAt_4 rfl (lv_at hl 1 rfl) ?_
  refine lv_aload_n hx hb dX2_keptAt_5 rfl (lv_at hl 0 rfl) ?_
  refine va_get (D := D) (ci := 2) (v := .int (nI L)) (C := RX2) (T := TX2) (N := 6) hx hb hts hinX2 hown hK hP 4 rfl rfl 2 (by decide) (hts (.fieldLink RX2 15 "OneNail$Orders" "length" "I") (by decide +kernel)) (fun _ h9 => h9) (congrArg (fun z => some (Value.int z)) (hL)) dX2_keptAt_6 ?_
  refine rn_ge (x := q) (y := L) (tgt := 21) hx hb (by omega) (by omega) dX2_keptAt_9 (by decide) (fun c_2 => absurd c_2 (by omega)) (fun c_2 => ?_)
  refine lv_aload_n hx hb dX2_keptAt_12 rfl (lv_at hl 0 rfl) ?_
  refine va_get (D := D) (ci := 2) (v := .ref (r 25)) (C := RX2) (T := TX2) (N := 6) hx hb hts hinX2 hown hK hP 4 rfl rfl 5 (by decide) (hts (.fieldLink RX2 25 "OneNail$Orders" "kept" "[I") (by decide +kernel)) (fun _ h9 => h9) rfl dX2_keptAt_13 ?_
  refine lv_iload_n hx hb dX2_keptAt_16 rfl (lv_at hl 1 rfl) ?_
  refine ra_iald hx hb hK hP 25 0 (n := 6) (f := (a 25)) (j := q) (v := ((a 25) q)) rfl rfl (by omega) (by decide) (rfl) dX2_keptAt_17 ?_
  refine lv_goto (tgt := 23) hx hb dX2_keptAt_18 (by decide) ?_
  exact wIret hx hb hr hlocks (v := ((a 25) q)) (u, a, th, LP, tf) (⟨rfl, rfl⟩) hK hP hD hS dX2_keptAt_23

set_option maxHeartbeats 4000000 in
set_option maxRecDepth 100000 in
theorem kX2_goOn (l : Launch) (D : va_G) (cA : Nat → ClassId) (r : Nat → Nat) (sz : Nat) (u : Nat → Int32) (a : Nat → Nat → Int32) (th : Nat → Option Nat) (LP : List Nat) (tf : Nat → va_E) (tO : Nat) (L N : Nat) (hL : u 11 = nI L) (hL6 : L ≤ 6) (hN : ∀ k, k < L → a 23 k = nI (dg N k)) : Met l yX2_goOn wsX2_goOn ({ frames := 1, cells := 0, slots := 0, locals := 23 } : Room) (va_Pc [.ref (r 4)] (wA D vwCl (tyA cA) (eO tO) (xN cA r) (u, a, th, LP, tf) sz)) (va_Qv (fun (z : sN) => (fk N (L - 1) = 0 ∧ z = (u, a, th, LP, tf)) ∨ (fk N (L - 1) ≠ 0 ∧ z.1 = u ∧ (∀ k, k < L → z.2.1 23 k = nI (dg (nx N L) k)) ∧ (∀ i, i ≠ 23 → z.2.1 i = a i) ∧ z.2.2 = (th, LP, tf))) (wB D vwCl (tyA cA) (xN cA r) (va_A (xN cA r (u, a, th, LP, tf)) sz)) (va_A (xN cA r (u, a, th, LP, tf)) sz)) 0 0 (va_A (xN cA r (u, a, th, LP, tf)) sz) := by
  refine Met.ofW (cc := cX2_goOn) (maxL := 5) (ret := none) (by decide) rfl ?_
  intro p e s m args below meth c s₁ B hml hv
  obtain ⟨rfl, hsz, hP, hK, hD0, hE⟩ := hv
  have hx := B.exec
  have hb := B.bytes
  have hr := B.returns
  have hts := atoms_spec (ws := wsX2_goOn) B.pre
  have hown : s.vm.findClass RX2 = some m.cls := findClass_of_methodNamed B.named
  have hlocks := B.notSynchronized
  subst hsz
  have hD := hD0.self (sz := s.heap.size)
  generalize hAe : va_A (xN cA r (u, a, th, LP, tf)) s.heap.size = A at hD hE ⊢
  have hA : ∀ q : Nat, s.heap.size ≤ q → A q := fun q h => by rw [← hAe]; exact Or.inr h
  have hS : va_S A s.heap s.heap [] := va_S.rf
  have hinX2 : ∀ w ∈ u_ws RX2 TX2 6, w ∈ wsX2_goOn := by decide +kernel
  have hl := lv_entry ([.ref (r 4)]) (n := 5) (Nat.le_of_ble_eq_true rfl)
  rw [lg_entry_eq]
  generalize (lg_sl ([.ref (r 4)]) ++ List.replicate (5 - (lg_sl ([.ref (r 4)])).length) Slot.unset).toArray = ls at hl ⊢
  have hl : lv_has ls 5 [(0, .ref (r 4))] := hl
  refine lv_aload_n hx hb dX2_goOn_0 rfl (lv_at hl 0 rfl) ?_
  refine va_get (D := D) (ci := 2) (v := .int (nI L)) (C := RX2) (T := TX2) (N := 6) hx hb hts hinX2 hown hK hP 4 rfl rfl 2 (by decide) (hts (.fieldLink RX2 15 "OneNail$Orders" "length" "I") (by decide +kernel)) (fun _ h9 => h9) (congrArg (fun z => some (Value.int z)) (hL)) dX2_goOn_1 ?_
  refine lv_iconst (v := (nI 2)) hx hb dX2_goOn_4 rfl ?_
  refine lv_isub hx hb dX2_goOn_5 ?_
  rcases Nat.eq_zero_or_pos L with hLz | hLz
  · refine lv_topi (fun y_1 ey_1 => ?_)
    obtain rfl : y_1 = (-2) := ey_1.trans (by rw [hLz]; decide)
    refine lv_istore_n (lv' := [(1, .int (-2)), (0, .ref (r 4))]) hx hb dX2_goOn_6 rfl hl (by decide) rfl (fun ls hl => ?_)
    refine lv_iload_n hx hb dX2_goOn_7 rfl (lv_at hl 0 rfl) ?_
    refine lv_if_lt (tgt := 34) hx hb dX2_goOn_8 (by decide) (fun _ => ?_) (fun c_2 => absurd c_2 (by decide))
    refine lv_iload_n hx hb dX2_goOn_34 rfl (lv_at hl 0 rfl) ?_
    refine lv_if_ge (tgt := 39) hx hb dX2_goOn_35 (by decide) (fun c_3 => absurd c_3 (by decide)) (fun _ => ?_)
    exact wVret hx hb hr hlocks (u, a, th, LP, tf) (Or.inl ⟨by first | (rw [hLz]; rfl) | (rw [← hfk, hjz]; rfl), rfl⟩) hK hP hD hS dX2_goOn_38
  · refine lv_topi (fun y_4 ey_4 => ?_)
    obtain rfl : y_4 = (nI (L - 1) - nI 1) := ey_4.trans (sub_a hLz)
    refine lv_istore_n (lv' := [(1, .int (nI (L - 1) - nI 1)), (0, .ref (r 4))]) hx hb dX2_goOn_6 rfl hl (by decide) rfl (fun ls hl => ?_)
    refine wLoop (τ := Nat) (fun z H locs ls => (fun (j : Nat) => (j ≤ L - 1) ∧ (fk N j = fk N (L - 1)) ∧ (va_P D vwCl (xN cA r (u, a, th, LP, tf)) H) ∧ (va_D A (xN cA r (u, a, th, LP, tf))) ∧ (va_S A s.heap H locs) ∧ (lv_has ls 5 [(1, .int (nI j - nI 1)), (0, .ref (r 4))])) z) (fun z => (fun (j : Nat) => j) z) ((L - 1)) ⟨(show (L - 1) ≤ L - 1 from Nat.le_refl _), (show fk N (L - 1) = fk N (L - 1) from rfl), hP, hD, hS, lv_sub hl [0, 1] rfl⟩ ?_
    rintro j H locs ls ⟨hj, hfk, hP, hD, hS, hl⟩ ih7
    have hj : j ≤ L - 1 := hj
    have hfk : fk N j = fk N (L - 1) := hfk
    have hP : va_P D vwCl (xN cA r (u, a, th, LP, tf)) H := hP
    have hD : va_D A (xN cA r (u, a, th, LP, tf)) := hD
    have hl : lv_has ls 5 [(1, .int (nI j - nI 1)), (0, .ref (r 4))] := hl
    rcases Nat.eq_zero_or_pos j with hjz | hjz
    · have hl : lv_has ls 5 [(1, .int (-1)), (0, .ref (r 4))] := lv_re hl 0 ⟨rfl, rfl⟩ (by rw [hjz]; decide)
      refine lv_iload_n hx hb dX2_goOn_7 rfl (lv_at hl 0 rfl) ?_
      refine lv_if_lt (tgt := 34) hx hb dX2_goOn_8 (by decide) (fun _ => ?_) (fun c_5 => absurd c_5 (by decide))
      refine lv_iload_n hx hb dX2_goOn_34 rfl (lv_at hl 0 rfl) ?_
      refine lv_if_ge (tgt := 39) hx hb dX2_goOn_35 (by decide) (fun c_6 => absurd c_6 (by decide)) (fun _ => ?_)
      exact wVret hx hb hr hlocks (u, a, th, LP, tf) (Or.inl ⟨by first | (rw [hLz]; rfl) | (rw [← hfk, hjz]; rfl), rfl⟩) hK hP hD hS dX2_goOn_38
    · have hl : lv_has ls 5 [(1, .int (nI (j - 1))), (0, .ref (r 4))] := lv_re hl 0 ⟨rfl, rfl⟩ (pk_sub (by omega))
      refine lv_iload_n hx hb dX2_goOn_7 rfl (lv_at hl 0 rfl) ?_
      refine rz_lt (x := j - 1) (tgt := 34) hx hb (by omega) dX2_goOn_8 (by decide) ?_
      have hd1 := dg_lt N (j - 1)
      have hd2 := dg_lt N (j - 1 + 1)
      refine lv_aload_n hx hb dX2_goOn_11 rfl (lv_at hl 1 rfl) ?_
      refine va_get (D := D) (ci := 2) (v := .ref (r 23)) (C := RX2) (T := TX2) (N := 6) hx hb hts hinX2 hown hK hP 4 rfl rfl 1 (by decide) (hts (.fieldLink RX2 9 "OneNail$Orders" "row" "[I") (by decide +kernel)) (fun _ h9 => h9) rfl dX2_goOn_12 ?_
      refine lv_iload_n hx hb dX2_goOn_15 rfl (lv_at hl 0 rfl) ?_
      refine ra_iald hx hb hK hP 23 0 (n := 6) (f := (a 23)) (j := j - 1) (v := (nI (dg N (j - 1)))) rfl rfl (by omega) (by decide) (hN (j - 1) (by omega)) dX2_goOn_16 ?_
      refine lv_aload_n hx hb dX2_goOn_17 rfl (lv_at hl 1 rfl) ?_
      refine va_get (D := D) (ci := 2) (v := .ref (r 23)) (C := RX2) (T := TX2) (N := 6) hx hb hts hinX2 hown hK hP 4 rfl rfl 1 (by decide) (hts (.fieldLink RX2 9 "OneNail$Orders" "row" "[I") (by decide +kernel)) (fun _ h9 => h9) rfl dX2_goOn_18 ?_
      refine lv_iload_n hx hb dX2_goOn_21 rfl (lv_at hl 0 rfl) ?_
      refine lv_iconst (v := (nI 1)) hx hb dX2_goOn_22 rfl ?_
      refine rn_iadd (x := j - 1) (y := 1) hx hb dX2_goOn_23 ?_
      refine ra_iald hx hb hK hP 23 0 (n := 6) (f := (a 23)) (j := (j - 1) + 1) (v := (nI (dg N ((j - 1) + 1)))) rfl rfl (by omega) (by decide) (hN ((j - 1) + 1) (by omega)) dX2_goOn_24 ?_
      refine rn_le (x := dg N (j - 1)) (y := dg N ((j - 1) + 1)) (tgt := 34) hx hb (by omega) (by omega) dX2_goOn_25 (by decide) (fun c_8 => ?_) (fun c_8 => ?_)
      · refine lv_iload_n hx hb dX2_goOn_34 rfl (lv_at hl 0 rfl) ?_
        refine rz_ge (x := j - 1) (tgt := 39) hx hb (by omega) dX2_goOn_35 (by decide) ?_
        refine lv_aload_n hx hb dX2_goOn_39 rfl (lv_at hl 1 rfl) ?_
        refine va_get (D := D) (ci := 2) (v := .int (nI L)) (C := RX2) (T := TX2) (N := 6) hx hb hts hinX2 hown hK hP 4 rfl rfl 2 (by decide) (hts (.fieldLink RX2 15 "OneNail$Orders" "length" "I") (by decide +kernel)) (fun _ h9 => h9) (congrArg (fun z => some (Value.int z)) (hL)) dX2_goOn_40 ?_
        refine lv_iconst (v := (nI 1)) hx hb dX2_goOn_43 rfl ?_
        refine rn_isub (x := L) (y := 1) hx hb (by omega) dX2_goOn_44 ?_
        refine lv_istore_n (lv' := [(2, .int (nI (L - 1))), (1, .int (nI (j - 1))), (0, .ref (r 4))]) hx hb dX2_goOn_45 rfl hl (by decide) rfl (fun ls hl => ?_)
        refine wLoop (τ := Nat) (fun z H locs ls => (fun (q : Nat) => (j - 1 ≤ q) ∧ (q ≤ L - 1) ∧ (fq N (dg N (j - 1)) q = fq N (dg N (j - 1)) (L - 1)) ∧ (va_P D vwCl (xN cA r (u, a, th, LP, tf)) H) ∧ (va_D A (xN cA r (u, a, th, LP, tf))) ∧ (va_S A s.heap H locs) ∧ (lv_has ls 5 [(2, .int (nI q)), (0, .ref (r 4)), (1, .int (nI (j - 1)))])) z) (fun z => (fun (q : Nat) => q) z) ((L - 1)) ⟨(show j - 1 ≤ (L - 1) from by omega), (show (L - 1) ≤ L - 1 from Nat.le_refl _), (show fq N (dg N (j - 1)) (L - 1) = fq N (dg N (j - 1)) (L - 1) from rfl), hP, hD, hS, lv_sub hl [0, 2, 1] rfl⟩ ?_
        rintro q H locs ls ⟨hq, hq2, hfq, hP, hD, hS, hl⟩ ih46
        have hq : j - 1 ≤ q := hq
        have hq2 : q ≤ L - 1 := hq2
        have hfq : fq N (dg N (j - 1)) q = fq N (dg N (j - 1)) (L - 1) := hfq
        have hP : va_P D vwCl (xN cA r (u, a, th, LP, tf)) H := hP
        have hD : va_D A (xN cA r (u, a, th, LP, tf)) := hD
        have hl : lv_has ls 5 [(2, .int (nI q)), (0, .ref (r 4)), (1, .int (nI (j - 1)))] := hl
        refine lv_iload_n hx hb dX2_goOn_46 rfl (lv_at hl 0 rfl) ?_
        refine lv_iload_n hx hb dX2_goOn_47 rfl (lv_at hl 2 rfl) ?_
        refine rn_le (x := q) (y := j - 1) (tgt := 72) hx hb (by omega) (by omega) dX2_goOn_48 (by decide) (fun c_10 => ?_) (fun c_10 => ?_)
        · refine lv_aload_n hx hb dX2_goOn_72 rfl (lv_at hl 1 rfl) ?_
          refine lv_iload_n hx hb dX2_goOn_73 rfl (lv_at hl 2 rfl) ?_
          refine lv_iload_n hx hb dX2_goOn_74 rfl (lv_at hl 0 rfl) ?_
          refine wVv (eO_S tO) (As := [.int (nI (j - 1)), .int (nI q)]) (rest := []) ⟨hx, hb, hml, hown, hts⟩ (kX2_swap l D cA r _ u a th LP tf tO (j - 1) q (by omega) (by omega)) (cwV 2 hts gX2_goOn_X2_swap rfl rfl rfl (by decide +kernel) ⟨Nat.le_of_ble_eq_true rfl, Nat.le_of_ble_eq_true rfl⟩) (va_recv hK hP (ci := 2) (q0 := 4) rfl rfl) hK hP hD hS hA hE rfl hl.1 rfl (Nat.le_of_ble_eq_true rfl) dX2_goOn_75 ⟨Nat.zero_le _, Nat.zero_le _⟩ (fun z_13 H locs hw_12 hP hD hS => ?_)
          obtain rfl := hw_12
          have hP : va_P D vwCl (xN cA r (u, (va_up a 23 (upd (upd (a 23) (j - 1) ((a 23) q)) q ((a 23) (j - 1)))), th, LP, tf)) H := hP
          have hD : va_D A (xN cA r (u, (va_up a 23 (upd (upd (a 23) (j - 1) ((a 23) q)) q ((a 23) (j - 1)))), th, LP, tf)) := hD
          refine lv_iload_n hx hb dX2_goOn_78 rfl (lv_at hl 2 rfl) ?_
          refine lv_iconst (v := (nI 1)) hx hb dX2_goOn_79 rfl ?_
          refine rn_iadd (x := j - 1) (y := 1) hx hb dX2_goOn_80 ?_
          refine lv_istore_n (lv' := [(3, .int (nI ((j - 1) + 1))), (2, .int (nI q)), (0, .ref (r 4)), (1, .int (nI (j - 1)))]) hx hb dX2_goOn_81 rfl hl (by decide) rfl (fun ls hl => ?_)
          refine lv_aload_n hx hb dX2_goOn_82 rfl (lv_at hl 2 rfl) ?_
          refine va_get (D := D) (ci := 2) (v := .int (nI L)) (C := RX2) (T := TX2) (N := 6) hx hb hts hinX2 hown hK hP 4 rfl rfl 2 (by decide) (hts (.fieldLink RX2 15 "OneNail$Orders" "length" "I") (by decide +kernel)) (fun _ h9 => h9) (congrArg (fun z => some (Value.int z)) (hL)) dX2_goOn_83 ?_
          refine lv_iconst (v := (nI 1)) hx hb dX2_goOn_86 rfl ?_
          refine rn_isub (x := L) (y := 1) hx hb (by omega) dX2_goOn_87 ?_
          refine lv_istore (lv' := [(4, .int (nI (L - 1))), (3, .int (nI ((j - 1) + 1))), (2, .int (nI q)), (0, .ref (r 4)), (1, .int (nI (j - 1)))]) hx hb dX2_goOn_88 hl (by decide) rfl (fun ls hl => ?_)
          have hfkj : fk N (L - 1) = j := hfk.symm.trans (fk_no hjz (by omega))
          have hl : lv_has ls 5 [(4, .int (nI (L - 1))), (3, .int (nI j)), (2, .int (nI q)), (0, .ref (r 4)), (1, .int (nI (j - 1)))] := lv_re hl 1 ⟨rfl, rfl⟩ (congrArg nI (by omega))
          have hfqq : fq N (dg N (j - 1)) (L - 1) = q := hfq.symm.trans (fq_at hq (by omega))
          refine wLoop (τ := (Nat → Nat) × Nat × Nat × Nat × (Nat → Nat → Int32)) (fun z H locs ls => (fun (F : (Nat → Nat)) (n : Nat) (i : Nat) (b : Nat) (a1090 : (Nat → Nat → Int32)) => (∀ k, k < L → a1090 23 k = nI (F k)) ∧ (rv F n i b = nxf N L) ∧ (b ≤ i + 2 * n) ∧ (i ≤ L) ∧ (b < L) ∧ (∀ i : Nat, i ≠ 23 → a1090 i = a i) ∧ (va_P D vwCl (xN cA r (u, a1090, th, LP, tf)) H) ∧ (va_D A (xN cA r (u, a1090, th, LP, tf))) ∧ (va_S A s.heap H locs) ∧ (lv_has ls 5 [(3, .int (nI i)), (4, .int (nI b)), (0, .ref (r 4)), (1, .int (nI (j - 1))), (2, .int (nI q))])) z.1 z.2.1 z.2.2.1 z.2.2.2.1 z.2.2.2.2) (fun z => (fun (F : (Nat → Nat)) (n : Nat) (i : Nat) (b : Nat) (a1090 : (Nat → Nat → Int32)) => n) z.1 z.2.1 z.2.2.1 z.2.2.2.1 z.2.2.2.2) ((sw (dg N) (j - 1) q), 6, j, (L - 1), (va_up a 23 (upd (upd (a 23) (j - 1) ((a 23) q)) q ((a 23) (j - 1))))) ⟨(show ∀ k, k < L → (va_up a 23 (upd (upd (a 23) (j - 1) ((a 23) q)) q ((a 23) (j - 1)))) 23 k = nI ((sw (dg N) (j - 1) q) k) from (show ∀ k, k < L → (upd (upd (a 23) (j - 1) ((a 23) q)) q ((a 23) (j - 1))) k = nI (sw (dg N) (j - 1) q k) from sw_row hN (by omega) (by omega))), (show rv (sw (dg N) (j - 1) q) 6 j (L - 1) = nxf N L from (by unfold nxf; rw [hfkj, hfqq])), (show (L - 1) ≤ j + 2 * 6 from by omega), (show j ≤ L from by omega), (show (L - 1) < L from by omega), (fun i h23 => vup_ne h23), hP, hD, hS, lv_sub hl [1, 0, 3, 4, 2] rfl⟩ ?_
          rintro ⟨F, n, i, b, a1090⟩ H locs ls ⟨hrow, hrv, hn, hiL, hbL, hfa90, hP, hD, hS, hl⟩ ih90
          have hrow : ∀ k, k < L → a1090 23 k = nI (F k) := hrow
          have hrv : rv F n i b = nxf N L := hrv
          have hn : b ≤ i + 2 * n := hn
          have hiL : i ≤ L := hiL
          have hbL : b < L := hbL
          have hfa90 : ∀ i : Nat, i ≠ 23 → a1090 i = a i := hfa90
          have hP : va_P D vwCl (xN cA r (u, a1090, th, LP, tf)) H := hP
          have hD : va_D A (xN cA r (u, a1090, th, LP, tf)) := hD
          have hl : lv_has ls 5 [(3, .int (nI i)), (4, .int (nI b)), (0, .ref (r 4)), (1, .int (nI (j - 1))), (2, .int (nI q))] := hl
          refine lv_iload_n hx hb dX2_goOn_90 rfl (lv_at hl 0 rfl) ?_
          refine lv_iload hx hb dX2_goOn_91 (lv_at hl 1 rfl) ?_
          refine rn_ge (x := i) (y := b) (tgt := 112) hx hb (by omega) (by omega) dX2_goOn_93 (by decide) (fun c_14 => ?_) (fun c_14 => ?_)
          · exact wVret hx hb hr hlocks (u, a1090, th, LP, tf) (Or.inr ⟨by omega, rfl, fun k hk => by rw [dg_nx hk, ← hrv, rv_done (by omega)]; exact hrow k hk, (fun i h23 => hfa90 i h23), rfl⟩) hK hP hD hS dX2_goOn_112
          · refine lv_aload_n hx hb dX2_goOn_96 rfl (lv_at hl 2 rfl) ?_
            refine lv_iload_n hx hb dX2_goOn_97 rfl (lv_at hl 0 rfl) ?_
            refine lv_iload hx hb dX2_goOn_98 (lv_at hl 1 rfl) ?_
            refine wVv (eO_S tO) (As := [.int (nI i), .int (nI b)]) (rest := []) ⟨hx, hb, hml, hown, hts⟩ (kX2_swap l D cA r _ u a1090 th LP tf tO i b (by omega) (by omega)) (cwV 2 hts gX2_goOn_X2_swap rfl rfl rfl (by decide +kernel) ⟨Nat.le_of_ble_eq_true rfl, Nat.le_of_ble_eq_true rfl⟩) (va_recv hK hP (ci := 2) (q0 := 4) rfl rfl) hK hP hD hS hA hE rfl hl.1 rfl (Nat.le_of_ble_eq_true rfl) dX2_goOn_100 ⟨Nat.zero_le _, Nat.zero_le _⟩ (fun z_17 H locs hw_16 hP hD hS => ?_)
            obtain rfl := hw_16
            have hP : va_P D vwCl (xN cA r (u, (va_up a1090 23 (upd (upd (a1090 23) i ((a1090 23) b)) b ((a1090 23) i))), th, LP, tf)) H := hP
            have hD : va_D A (xN cA r (u, (va_up a1090 23 (upd (upd (a1090 23) i ((a1090 23) b)) b ((a1090 23) i))), th, LP, tf)) := hD
            refine rn_iinc (x := i) (d := 1) (lv' := [(3, .int (nI (i + 1))), (4, .int (nI b)), (0, .ref (r 4)), (1, .int (nI (j - 1))), (2, .int (nI q))]) hx hb rfl dX2_goOn_103 hl (k := 0) rfl (by decide) rfl (fun ls hl => ?_)
            obtain ⟨x_18, ex_18⟩ : ∃ z : Int32, z = (nI b) + Int32.ofInt (-1) := ⟨_, rfl⟩
            refine lv_iinc (v := x_18) (lv' := [(4, .int x_18), (3, .int (nI (i + 1))), (0, .ref (r 4)), (1, .int (nI (j - 1))), (2, .int (nI q))]) hx hb dX2_goOn_106 hl (k := 1) rfl (ex_18).symm (by decide) rfl (fun ls hl => ?_)
            refine lv_goto (tgt := 90) hx hb dX2_goOn_109 (by decide) ?_
            have hl : lv_has ls 5 [(4, .int (nI (b - 1))), (3, .int (nI (i + 1))), (0, .ref (r 4)), (1, .int (nI (j - 1))), (2, .int (nI q))] := lv_re hl 0 ⟨rfl, rfl⟩ (ex_18.trans (sub_n (by omega)))
            exact ih90 ((sw F i b), (n - 1), (i + 1), (b - 1), (va_up a1090 23 (upd (upd (a1090 23) i ((a1090 23) b)) b ((a1090 23) i)))) _ _ _ (show (n - 1) < n from by omega) ⟨(show ∀ k, k < L → (va_up a1090 23 (upd (upd (a1090 23) i ((a1090 23) b)) b ((a1090 23) i))) 23 k = nI ((sw F i b) k) from (show ∀ k, k < L → (upd (upd (a1090 23) i ((a1090 23) b)) b ((a1090 23) i)) k = nI (sw F i b k) from sw_row hrow (by omega) (by omega))), (show rv (sw F i b) (n - 1) (i + 1) (b - 1) = nxf N L from ((rv_step (by omega) (by omega)).symm.trans hrv)), (show (b - 1) ≤ (i + 1) + 2 * (n - 1) from by omega), (show (i + 1) ≤ L from by omega), (show (b - 1) < L from by omega), (fun i h23 => Eq.trans (vup_ne h23) (hfa90 i h23)), hP, hD, hS, lv_sub hl [1, 0, 2, 3, 4] rfl⟩
        · have hd3 := dg_lt N q
          have hd4 := dg_lt N (j - 1)
          refine lv_aload_n hx hb dX2_goOn_51 rfl (lv_at hl 1 rfl) ?_
          refine va_get (D := D) (ci := 2) (v := .ref (r 23)) (C := RX2) (T := TX2) (N := 6) hx hb hts hinX2 hown hK hP 4 rfl rfl 1 (by decide) (hts (.fieldLink RX2 9 "OneNail$Orders" "row" "[I") (by decide +kernel)) (fun _ h9 => h9) rfl dX2_goOn_52 ?_
          refine lv_iload_n hx hb dX2_goOn_55 rfl (lv_at hl 0 rfl) ?_
          refine ra_iald hx hb hK hP 23 0 (n := 6) (f := (a 23)) (j := q) (v := (nI (dg N q))) rfl rfl (by omega) (by decide) (hN (q) (by omega)) dX2_goOn_56 ?_
          refine lv_aload_n hx hb dX2_goOn_57 rfl (lv_at hl 1 rfl) ?_
          refine va_get (D := D) (ci := 2) (v := .ref (r 23)) (C := RX2) (T := TX2) (N := 6) hx hb hts hinX2 hown hK hP 4 rfl rfl 1 (by decide) (hts (.fieldLink RX2 9 "OneNail$Orders" "row" "[I") (by decide +kernel)) (fun _ h9 => h9) rfl dX2_goOn_58 ?_
          refine lv_iload_n hx hb dX2_goOn_61 rfl (lv_at hl 2 rfl) ?_
          refine ra_iald hx hb hK hP 23 0 (n := 6) (f := (a 23)) (j := j - 1) (v := (nI (dg N (j - 1)))) rfl rfl (by omega) (by decide) (hN (j - 1) (by omega)) dX2_goOn_62 ?_
          refine rn_ge (x := dg N q) (y := dg N (j - 1)) (tgt := 72) hx hb (by omega) (by omega) dX2_goOn_63 (by decide) (fun c_19 => ?_) (fun c_19 => ?_)
          · refine lv_aload_n hx hb dX2_goOn_72 rfl (lv_at hl 1 rfl) ?_
            refine lv_iload_n hx hb dX2_goOn_73 rfl (lv_at hl 2 rfl) ?_
            refine lv_iload_n hx hb dX2_goOn_74 rfl (lv_at hl 0 rfl) ?_
            refine wVv (eO_S tO) (As := [.int (nI (j - 1)), .int (nI q)]) (rest := []) ⟨hx, hb, hml, hown, hts⟩ (kX2_swap l D cA r _ u a th LP tf tO (j - 1) q (by omega) (by omega)) (cwV 2 hts gX2_goOn_X2_swap rfl rfl rfl (by decide +kernel) ⟨Nat.le_of_ble_eq_true rfl, Nat.le_of_ble_eq_true rfl⟩) (va_recv hK hP (ci := 2) (q0 := 4) rfl rfl) hK hP hD hS hA hE rfl hl.1 rfl (Nat.le_of_ble_eq_true rfl) dX2_goOn_75 ⟨Nat.zero_le _, Nat.zero_le _⟩ (fun z_22 H locs hw_21 hP hD hS => ?_)
            obtain rfl := hw_21
            have hP : va_P D vwCl (xN cA r (u, (va_up a 23 (upd (upd (a 23) (j - 1) ((a 23) q)) q ((a 23) (j - 1)))), th, LP, tf)) H := hP
            have hD : va_D A (xN cA r (u, (va_up a 23 (upd (upd (a 23) (j - 1) ((a 23) q)) q ((a 23) (j - 1)))), th, LP, tf)) := hD
            refine lv_iload_n hx hb dX2_goOn_78 rfl (lv_at hl 2 rfl) ?_
            refine lv_iconst (v := (nI 1)) hx hb dX2_goOn_79 rfl ?_
            refine rn_iadd (x := j - 1) (y := 1) hx hb dX2_goOn_80 ?_
            refine lv_istore_n (lv' := [(3, .int (nI ((j - 1) + 1))), (2, .int (nI q)), (0, .ref (r 4)), (1, .int (nI (j - 1)))]) hx hb dX2_goOn_81 rfl hl (by decide) rfl (fun ls hl => ?_)
            refine lv_aload_n hx hb dX2_goOn_82 rfl (lv_at hl 2 rfl) ?_
            refine va_get (D := D) (ci := 2) (v := .int (nI L)) (C := RX2) (T := TX2) (N := 6) hx hb hts hinX2 hown hK hP 4 rfl rfl 2 (by decide) (hts (.fieldLink RX2 15 "OneNail$Orders" "length" "I") (by decide +kernel)) (fun _ h9 => h9) (congrArg (fun z => some (Value.int z)) (hL)) dX2_goOn_83 ?_
            refine lv_iconst (v := (nI 1)) hx hb dX2_goOn_86 rfl ?_
            refine rn_isub (x := L) (y := 1) hx hb (by omega) dX2_goOn_87 ?_
            refine lv_istore (lv' := [(4, .int (nI (L - 1))), (3, .int (nI ((j - 1) + 1))), (2, .int (nI q)), (0, .ref (r 4)), (1, .int (nI (j - 1)))]) hx hb dX2_goOn_88 hl (by decide) rfl (fun ls hl => ?_)
            have hfkj : fk N (L - 1) = j := hfk.symm.trans (fk_no hjz (by omega))
            have hl : lv_has ls 5 [(4, .int (nI (L - 1))), (3, .int (nI j)), (2, .int (nI q)), (0, .ref (r 4)), (1, .int (nI (j - 1)))] := lv_re hl 1 ⟨rfl, rfl⟩ (congrArg nI (by omega))
            have hfqq : fq N (dg N (j - 1)) (L - 1) = q := hfq.symm.trans (fq_at hq (by omega))
            refine wLoop (τ := (Nat → Nat) × Nat × Nat × Nat × (Nat → Nat → Int32)) (fun z H locs ls => (fun (F : (Nat → Nat)) (n : Nat) (i : Nat) (b : Nat) (a1090 : (Nat → Nat → Int32)) => (∀ k, k < L → a1090 23 k = nI (F k)) ∧ (rv F n i b = nxf N L) ∧ (b ≤ i + 2 * n) ∧ (i ≤ L) ∧ (b < L) ∧ (∀ i : Nat, i ≠ 23 → a1090 i = a i) ∧ (va_P D vwCl (xN cA r (u, a1090, th, LP, tf)) H) ∧ (va_D A (xN cA r (u, a1090, th, LP, tf))) ∧ (va_S A s.heap H locs) ∧ (lv_has ls 5 [(3, .int (nI i)), (4, .int (nI b)), (0, .ref (r 4)), (1, .int (nI (j - 1))), (2, .int (nI q))])) z.1 z.2.1 z.2.2.1 z.2.2.2.1 z.2.2.2.2) (fun z => (fun (F : (Nat → Nat)) (n : Nat) (i : Nat) (b : Nat) (a1090 : (Nat → Nat → Int32)) => n) z.1 z.2.1 z.2.2.1 z.2.2.2.1 z.2.2.2.2) ((sw (dg N) (j - 1) q), 6, j, (L - 1), (va_up a 23 (upd (upd (a 23) (j - 1) ((a 23) q)) q ((a 23) (j - 1))))) ⟨(show ∀ k, k < L → (va_up a 23 (upd (upd (a 23) (j - 1) ((a 23) q)) q ((a 23) (j - 1)))) 23 k = nI ((sw (dg N) (j - 1) q) k) from (show ∀ k, k < L → (upd (upd (a 23) (j - 1) ((a 23) q)) q ((a 23) (j - 1))) k = nI (sw (dg N) (j - 1) q k) from sw_row hN (by omega) (by omega))), (show rv (sw (dg N) (j - 1) q) 6 j (L - 1) = nxf N L from (by unfold nxf; rw [hfkj, hfqq])), (show (L - 1) ≤ j + 2 * 6 from by omega), (show j ≤ L from by omega), (show (L - 1) < L from by omega), (fun i h23 => vup_ne h23), hP, hD, hS, lv_sub hl [1, 0, 3, 4, 2] rfl⟩ ?_
            rintro ⟨F, n, i, b, a1090⟩ H locs ls ⟨hrow, hrv, hn, hiL, hbL, hfa90, hP, hD, hS, hl⟩ ih90
            have hrow : ∀ k, k < L → a1090 23 k = nI (F k) := hrow
            have hrv : rv F n i b = nxf N L := hrv
            have hn : b ≤ i + 2 * n := hn
            have hiL : i ≤ L := hiL
            have hbL : b < L := hbL
            have hfa90 : ∀ i : Nat, i ≠ 23 → a1090 i = a i := hfa90
            have hP : va_P D vwCl (xN cA r (u, a1090, th, LP, tf)) H := hP
            have hD : va_D A (xN cA r (u, a1090, th, LP, tf)) := hD
            have hl : lv_has ls 5 [(3, .int (nI i)), (4, .int (nI b)), (0, .ref (r 4)), (1, .int (nI (j - 1))), (2, .int (nI q))] := hl
            refine lv_iload_n hx hb dX2_goOn_90 rfl (lv_at hl 0 rfl) ?_
            refine lv_iload hx hb dX2_goOn_91 (lv_at hl 1 rfl) ?_
            refine rn_ge (x := i) (y := b) (tgt := 112) hx hb (by omega) (by omega) dX2_goOn_93 (by decide) (fun c_23 => ?_) (fun c_23 => ?_)
            · exact wVret hx hb hr hlocks (u, a1090, th, LP, tf) (Or.inr ⟨by omega, rfl, fun k hk => by rw [dg_nx hk, ← hrv, rv_done (by omega)]; exact hrow k hk, (fun i h23 => hfa90 i h23), rfl⟩) hK hP hD hS dX2_goOn_112
            · refine lv_aload_n hx hb dX2_goOn_96 rfl (lv_at hl 2 rfl) ?_
              refine lv_iload_n hx hb dX2_goOn_97 rfl (lv_at hl 0 rfl) ?_
              refine lv_iload hx hb dX2_goOn_98 (lv_at hl 1 rfl) ?_
              refine wVv (eO_S tO) (As := [.int (nI i), .int (nI b)]) (rest := []) ⟨hx, hb, hml, hown, hts⟩ (kX2_swap l D cA r _ u a1090 th LP tf tO i b (by omega) (by omega)) (cwV 2 hts gX2_goOn_X2_swap rfl rfl rfl (by decide +kernel) ⟨Nat.le_of_ble_eq_true rfl, Nat.le_of_ble_eq_true rfl⟩) (va_recv hK hP (ci := 2) (q0 := 4) rfl rfl) hK hP hD hS hA hE rfl hl.1 rfl (Nat.le_of_ble_eq_true rfl) dX2_goOn_100 ⟨Nat.zero_le _, Nat.zero_le _⟩ (fun z_26 H locs hw_25 hP hD hS => ?_)
              obtain rfl := hw_25
              have hP : va_P D vwCl (xN cA r (u, (va_up a1090 23 (upd (upd (a1090 23) i ((a1090 23) b)) b ((a1090 23) i))), th, LP, tf)) H := hP
              have hD : va_D A (xN cA r (u, (va_up a1090 23 (upd (upd (a1090 23) i ((a1090 23) b)) b ((a1090 23) i))), th, LP, tf)) := hD
              refine rn_iinc (x := i) (d := 1) (lv' := [(3, .int (nI (i + 1))), (4, .int (nI b)), (0, .ref (r 4)), (1, .int (nI (j - 1))), (2, .int (nI q))]) hx hb rfl dX2_goOn_103 hl (k := 0) rfl (by decide) rfl (fun ls hl => ?_)
              obtain ⟨x_27, ex_27⟩ : ∃ z : Int32, z = (nI b) + Int32.ofInt (-1) := ⟨_, rfl⟩
              refine lv_iinc (v := x_27) (lv' := [(4, .int x_27), (3, .int (nI (i + 1))), (0, .ref (r 4)), (1, .int (nI (j - 1))), (2, .int (nI q))]) hx hb dX2_goOn_106 hl (k := 1) rfl (ex_27).symm (by decide) rfl (fun ls hl => ?_)
              refine lv_goto (tgt := 90) hx hb dX2_goOn_109 (by decide) ?_
              have hl : lv_has ls 5 [(4, .int (nI (b - 1))), (3, .int (nI (i + 1))), (0, .ref (r 4)), (1, .int (nI (j - 1))), (2, .int (nI q))] := lv_re hl 0 ⟨rfl, rfl⟩ (ex_27.trans (sub_n (by omega)))
              exact ih90 ((sw F i b), (n - 1), (i + 1), (b - 1), (va_up a1090 23 (upd (upd (a1090 23) i ((a1090 23) b)) b ((a1090 23) i)))) _ _ _ (show (n - 1) < n from by omega) ⟨(show ∀ k, k < L → (va_up a1090 23 (upd (upd (a1090 23) i ((a1090 23) b)) b ((a1090 23) i))) 23 k = nI ((sw F i b) k) from (show ∀ k, k < L → (upd (upd (a1090 23) i ((a1090 23) b)) b ((a1090 23) i)) k = nI (sw F i b k) from sw_row hrow (by omega) (by omega))), (show rv (sw F i b) (n - 1) (i + 1) (b - 1) = nxf N L from ((rv_step (by omega) (by omega)).symm.trans hrv)), (show (b - 1) ≤ (i + 1) + 2 * (n - 1) from by omega), (show (i + 1) ≤ L from by omega), (show (b - 1) < L from by omega), (fun i h23 => Eq.trans (vup_ne h23) (hfa90 i h23)), hP, hD, hS, lv_sub hl [1, 0, 2, 3, 4] rfl⟩
          · obtain ⟨x_28, ex_28⟩ : ∃ z : Int32, z = (nI q) + Int32.ofInt (-1) := ⟨_, rfl⟩
            refine lv_iinc (v := x_28) (lv' := [(2, .int x_28), (0, .ref (r 4)), (1, .int (nI (j - 1)))]) hx hb dX2_goOn_66 hl (k := 0) rfl (ex_28).symm (by decide) rfl (fun ls hl => ?_)
            refine lv_goto (tgt := 46) hx hb dX2_goOn_69 (by decide) ?_
            have hl : lv_has ls 5 [(2, .int (nI (q - 1))), (0, .ref (r 4)), (1, .int (nI (j - 1)))] := lv_re hl 0 ⟨rfl, rfl⟩ (ex_28.trans (sub_n (by omega)))
            exact ih46 ((q - 1)) _ _ _ (show (q - 1) < q from by omega) ⟨(show j - 1 ≤ (q - 1) from by omega), (show (q - 1) ≤ L - 1 from by omega), (show fq N (dg N (j - 1)) (q - 1) = fq N (dg N (j - 1)) (L - 1) from ((fq_yes (by omega) (by omega)).symm.trans hfq)), hP, hD, hS, lv_sub hl [0, 1, 2] rfl⟩
      · obtain ⟨x_29, ex_29⟩ : ∃ z : Int32, z = (nI (j - 1)) + Int32.ofInt (-1) := ⟨_, rfl⟩
        refine lv_iinc (v := x_29) (lv' := [(1, .int x_29), (0, .ref (r 4))]) hx hb dX2_goOn_28 hl (k := 0) rfl (ex_29).symm (by decide) rfl (fun ls hl => ?_)
        refine lv_goto (tgt := 7) hx hb dX2_goOn_31 (by decide) ?_
        have hl : lv_has ls 5 [(1, .int (nI (j - 1) - nI 1)), (0, .ref (r 4))] := lv_re hl 0 ⟨rfl, rfl⟩ (ex_29.trans (sub_1 _))
        exact ih7 ((j - 1)) _ _ _ (show (j - 1) < j from by omega) ⟨(show (j - 1) ≤ L - 1 from by omega), (show fk N (j - 1) = fk N (L - 1) from ((fk_yes hjz (by omega)).symm.trans hfk)), hP, hD, hS, lv_sub hl [0, 1] rfl⟩

set_option maxHeartbeats 4000000 in
set_option maxRecDepth 100000 in
theorem kX2_time (l : Launch) (D : va_G) (cA : Nat → ClassId) (r : Nat → Nat) (sz : Nat) (u : Nat → Int32) (a : Nat → Nat → Int32) (th : Nat → Option Nat) (LP : List Nat) (tf : Nat → va_E) (tO : Nat) (g : Nat → Nat) (T : Nat → Nat → Nat) (ro : Nat → Nat) (L : Nat) (hM : NT u a g T) (hB : TB g T) (hL : u 11 = nI L) (hL6 : L ≤ 6) (hro : ∀ k, k < L → a 23 k = nI (ro k)) (hrg : ∀ k, k < L → ro k < g 0) (hne : ∀ i, i < L → ∀ j, j < i → ro i ≠ ro j) : Met l yX2_time wsX2_time ({ frames := 1, cells := 0, slots := 0, locals := 25 } : Room) (va_Pc [.ref (r 4), .int (nI (g 1))] (wA D vwCl (tyA cA) (eO tO) (xN cA r) (u, a, th, LP, tf) sz)) (va_Qv (fun (z : sN) => z.1 12 = nI (if L = 0 then 0 else pd g T ro L) ∧ (∀ k, k < L → z.2.1 24 (ro k) = nI (ct g T ro L k)) ∧ (∀ i, i ≠ 12 → z.1 i = u i) ∧ (∀ i, i ≠ 24 → z.2.1 i = a i) ∧ z.2.2 = (th, LP, tf)) (wB D vwCl (tyA cA) (xN cA r) (va_A (xN cA r (u, a, th, LP, tf)) sz)) (va_A (xN cA r (u, a, th, LP, tf)) sz)) 0 0 (va_A (xN cA r (u, a, th, LP, tf)) sz) := by
  refine Met.ofW (cc := cX2_time) (maxL := 6) (ret := none) (by decide) rfl ?_
  intro p e s m args below meth c s₁ B hml hv
  obtain ⟨rfl, hsz, hP, hK, hD0, hE⟩ := hv
  have hx := B.exec
  have hb := B.bytes
  have hr := B.returns
  have hts := atoms_spec (ws := wsX2_time) B.pre
  have hown : s.vm.findClass RX2 = some m.cls := findClass_of_methodNamed B.named
  have hlocks := B.notSynchronized
  subst hsz
  have hD := hD0.self (sz := s.heap.size)
  generalize hAe : va_A (xN cA r (u, a, th, LP, tf)) s.heap.size = A at hD hE ⊢
  have hA : ∀ q : Nat, s.heap.size ≤ q → A q := fun q h => by rw [← hAe]; exact Or.inr h
  have hS : va_S A s.heap s.heap [] := va_S.rf
  have hinX2 : ∀ w ∈ u_ws RX2 TX2 6, w ∈ wsX2_time := by decide +kernel
  have hinX5 : ∀ w ∈ u_ws RX5 TX5 8, w ∈ wsX2_time := by decide +kernel
  have hl := lv_entry ([.ref (r 4), .int (nI (g 1))]) (n := 6) (Nat.le_of_ble_eq_true rfl)
  rw [lg_entry_eq]
  generalize (lg_sl ([.ref (r 4), .int (nI (g 1))]) ++ List.replicate (6 - (lg_sl ([.ref (r 4), .int (nI (g 1))])).length) Slot.unset).toArray = ls at hl ⊢
  have hl : lv_has ls 6 [(0, .ref (r 4)), (1, .int (nI (g 1)))] := hl
  have hg6 := hB.1
  have hg1 := hB.2.1
  refine lv_aload_n hx hb dX2_time_0 rfl (lv_at hl 0 rfl) ?_
  refine lv_iconst (v := (nI 0)) hx hb dX2_time_1 rfl ?_
  refine va_put (D := D) (ci := 2) (v := .int (nI 0)) (ty := .int) (C := RX2) (T := TX2) (N := 6) hx hb hts hinX2 tyX2 tyX2_ok nmX2 hown hK hP hD hS 4 rfl rfl 4 (by decide) (hts (.fieldLink RX2 22 "OneNail$Orders" "period" "I") (by decide +kernel)) (fun _ h9 => h9) rfl (by decide +kernel) rfl rfl (Nat.le_of_ble_eq_true rfl) dX2_time_2 (fun H locs hP hD hS => ?_)
  have hP : va_P D vwCl (xN cA r ((upd u 12 (nI 0)), a, th, LP, tf)) H := hP
  have hD : va_D A (xN cA r ((upd u 12 (nI 0)), a, th, LP, tf)) := hD
  refine lv_aload_n hx hb dX2_time_5 rfl (lv_at hl 0 rfl) ?_
  refine va_get (D := D) (ci := 2) (v := .int (nI L)) (C := RX2) (T := TX2) (N := 6) hx hb hts hinX2 hown hK hP 4 rfl rfl 2 (by decide) (hts (.fieldLink RX2 15 "OneNail$Orders" "length" "I") (by decide +kernel)) (fun _ h9 => h9) (congrArg (fun z => some (Value.int z)) (hL)) dX2_time_6 ?_
  refine rz_ne (x := L) (tgt := 13) hx hb (by omega) dX2_time_9 (by decide) (fun c_1 => ?_) (fun c_1 => ?_)
  · refine lv_iconst (v := (nI 0)) hx hb dX2_time_13 rfl ?_
    refine lv_istore_n (lv' := [(2, .int (nI 0)), (0, .ref (r 4)), (1, .int (nI (g 1)))]) hx hb dX2_time_14 rfl hl (by decide) rfl (fun ls hl => ?_)
    refine lv_iload_n hx hb dX2_time_15 rfl (lv_at hl 2 rfl) ?_
    refine lv_istore_n (lv' := [(3, .int (nI (g 1))), (2, .int (nI 0)), (0, .ref (r 4)), (1, .int (nI (g 1)))]) hx hb dX2_time_16 rfl hl (by decide) rfl (fun ls hl => ?_)
    refine lv_iconst (v := (nI 0)) hx hb dX2_time_17 rfl ?_
    refine lv_istore (lv' := [(4, .int (nI 0)), (3, .int (nI (g 1))), (2, .int (nI 0)), (0, .ref (r 4)), (1, .int (nI (g 1)))]) hx hb dX2_time_18 hl (by decide) rfl (fun ls hl => ?_)
    refine wLoop (τ := Nat × Nat × Nat × (Nat → Nat → Int32)) (fun z H locs ls => (fun (k : Nat) (mi : Nat) (pa : Nat) (a1020 : (Nat → Nat → Int32)) => (k ≤ L) ∧ (tiI g T ro L k mi pa) ∧ (∀ j, j < k → a1020 24 (ro j) = nI (ct g T ro L j)) ∧ (∀ i : Nat, i ≠ 24 → a1020 i = a i) ∧ (va_P D vwCl (xN cA r ((upd u 12 (nI 0)), a1020, th, LP, tf)) H) ∧ (va_D A (xN cA r ((upd u 12 (nI 0)), a1020, th, LP, tf))) ∧ (va_S A s.heap H locs) ∧ (lv_has ls 6 [(4, .int (nI k)), (2, .int (nI mi)), (3, .int (nI pa)), (0, .ref (r 4)), (1, .int (nI (g 1)))])) z.1 z.2.1 z.2.2.1 z.2.2.2) (fun z => (fun (k : Nat) (mi : Nat) (pa : Nat) (a1020 : (Nat → Nat → Int32)) => L - k) z.1 z.2.1 z.2.2.1 z.2.2.2) (0, 0, (g 1), a) ⟨(show 0 ≤ L from Nat.zero_le _), (show tiI g T ro L 0 0 (g 1) from (Or.inl ⟨rfl, rfl, rfl⟩)), (show ∀ j, j < 0 → a 24 (ro j) = nI (ct g T ro L j) from (fun j h => absurd h (Nat.not_lt_zero j))), (fun i h24 => rfl), hP, hD, hS, lv_sub hl [0, 2, 1, 3, 4] rfl⟩ ?_
    rintro ⟨k, mi, pa, a1020⟩ H locs ls ⟨hk, hmi, hcm, hfa20, hP, hD, hS, hl⟩ ih20
    have hk : k ≤ L := hk
    have hmi : tiI g T ro L k mi pa := hmi
    have hcm : ∀ j, j < k → a1020 24 (ro j) = nI (ct g T ro L j) := hcm
    have hfa20 : ∀ i : Nat, i ≠ 24 → a1020 i = a i := hfa20
    have hP : va_P D vwCl (xN cA r ((upd u 12 (nI 0)), a1020, th, LP, tf)) H := hP
    have hD : va_D A (xN cA r ((upd u 12 (nI 0)), a1020, th, LP, tf)) := hD
    have hl : lv_has ls 6 [(4, .int (nI k)), (2, .int (nI mi)), (3, .int (nI pa)), (0, .ref (r 4)), (1, .int (nI (g 1)))] := hl
    have hpa := ti_pa hB hrg hL6 hk hmi
    refine lv_iload hx hb dX2_time_20 (lv_at hl 0 rfl) ?_
    refine lv_aload_n hx hb dX2_time_22 rfl (lv_at hl 3 rfl) ?_
    refine va_get (D := D) (ci := 2) (v := .int (nI L)) (C := RX2) (T := TX2) (N := 6) hx hb hts hinX2 hown hK hP 4 rfl rfl 2 (by decide) (hts (.fieldLink RX2 15 "OneNail$Orders" "length" "I") (by decide +kernel)) (fun _ h9 => h9) (congrArg (fun z => some (Value.int z)) (hL)) dX2_time_23 ?_
    refine rn_ge (x := k) (y := L) (tgt := 94) hx hb (by omega) (by omega) dX2_time_26 (by decide) (fun c_2 => ?_) (fun c_2 => ?_)
    · have hke : k = L := by omega
      have hr0 := hrg 0 (by omega)
      have hT0 := hB.2.2.2 _ hr0
      have hmd := md_le hpa.1 hT0.2.1
      have hcL := ti_cL (by omega) (hke ▸ hmi)
      have hc0L := (pd_pos hB (by omega) hrg).2.1
      have hclL := ct_le hB (by omega) hrg L
      refine lv_aload_n hx hb dX2_time_94 rfl (lv_at hl 3 rfl) ?_
      refine va_get (D := D) (ci := 2) (v := .ref (r 23)) (C := RX2) (T := TX2) (N := 6) hx hb hts hinX2 hown hK hP 4 rfl rfl 1 (by decide) (hts (.fieldLink RX2 9 "OneNail$Orders" "row" "[I") (by decide +kernel)) (fun _ h9 => h9) rfl dX2_time_95 ?_
      refine lv_iconst (v := (nI 0)) hx hb dX2_time_98 rfl ?_
      refine ra_iald hx hb hK hP 23 0 (n := 6) (f := (a1020 23)) (j := 0) (v := (nI (ro 0))) rfl rfl (by omega) (by decide) ((congrFun (hfa20 23 (by decide)) (0)).trans (hro (0) (by omega))) dX2_time_99 ?_
      refine lv_istore (lv' := [(4, .int (nI (ro 0))), (2, .int (nI mi)), (3, .int (nI pa)), (0, .ref (r 4)), (1, .int (nI (g 1)))]) hx hb dX2_time_100 hl (by decide) rfl (fun ls hl => ?_)
      refine lv_aload_n hx hb dX2_time_102 rfl (lv_at hl 3 rfl) ?_
      refine lv_iload_n hx hb dX2_time_103 rfl (lv_at hl 1 rfl) ?_
      refine lv_aload_n hx hb dX2_time_104 rfl (lv_at hl 3 rfl) ?_
      refine va_get (D := D) (ci := 2) (v := .ref (r 1)) (C := RX2) (T := TX2) (N := 6) hx hb hts hinX2 hown hK hP 4 rfl rfl 0 (by decide) (hts (.fieldLink RX2 28 "OneNail$Orders" "town" "LOneNail$Street;") (by decide +kernel)) (fun _ h9 => h9) rfl dX2_time_105 ?_
      refine va_get (D := D) (ci := 5) (v := .ref (r 13)) (C := RX5) (T := TX5) (N := 8) hx hb hts hinX5 hown hK hP 1 rfl rfl 4 (by decide) (hts (.fieldLink RX2 74 "OneNail$Street" "places" "[I") (by decide +kernel)) (fun _ h9 => h9) rfl dX2_time_108 ?_
      refine lv_iload hx hb dX2_time_111 (lv_at hl 0 rfl) ?_
      refine ra_iald hx hb hK hP 13 0 (n := 6) (f := (a1020 13)) (j := ro 0) (v := (nI (T 1 (ro 0)))) rfl rfl (by omega) (by decide) ((congrFun (hfa20 13 (by decide)) (ro 0)).trans ((hM.2 (ro 0) (by omega)).1)) dX2_time_113 ?_
      refine lv_iload_n hx hb dX2_time_114 rfl (lv_at hl 2 rfl) ?_
      refine lv_isub hx hb dX2_time_115 ?_
      refine va_mabs hx hb (hml.trans hl.1.symm) hown (hts (.methodLink RX2 77 Lib.Math.abs.name) (by decide +kernel)) (hts (.static Lib.Math.abs.name) (by decide +kernel)) (hts (.initialized "java/lang/Math") (by decide +kernel)) (hts (.code Lib.Math.abs.name Lib.Math.abs.code 1 (some .int)) (by decide +kernel)) (Nat.le_of_ble_eq_true rfl) (Nat.le_of_ble_eq_true rfl) (Nat.zero_le _) (Nat.zero_le _) dX2_time_116 ?_
      refine lv_topi (fun y_3 ey_3 => ?_)
      obtain rfl : y_3 = (nI (md pa (T 1 (ro 0)))) := ey_3.trans (abs_row _ (by omega) _ (by omega))
      refine rn_iadd (x := mi) (y := md pa (T 1 (ro 0))) hx hb dX2_time_119 ?_
      refine lv_topi (fun y_4 ey_4 => ?_)
      obtain rfl : y_4 = (nI (ct g T ro L L)) := ey_4.trans (congrArg nI hcL)
      refine lv_aload_n hx hb dX2_time_120 rfl (lv_at hl 3 rfl) ?_
      refine va_get (D := D) (ci := 2) (v := .ref (r 24)) (C := RX2) (T := TX2) (N := 6) hx hb hts hinX2 hown hK hP 4 rfl rfl 3 (by decide) (hts (.fieldLink RX2 19 "OneNail$Orders" "comes" "[I") (by decide +kernel)) (fun _ h9 => h9) rfl dX2_time_121 ?_
      refine lv_iload hx hb dX2_time_124 (lv_at hl 0 rfl) ?_
      refine ra_iald hx hb hK hP 24 0 (n := 6) (f := (a1020 24)) (j := ro 0) (v := (nI (ct g T ro L 0))) rfl rfl (by omega) (by decide) (hcm 0 (by omega)) dX2_time_126 ?_
      refine rn_isub (x := ct g T ro L L) (y := ct g T ro L 0) hx hb (by omega) dX2_time_127 ?_
      refine va_put (D := D) (ci := 2) (v := .int (nI ((ct g T ro L L) - (ct g T ro L 0)))) (ty := .int) (C := RX2) (T := TX2) (N := 6) hx hb hts hinX2 tyX2 tyX2_ok nmX2 hown hK hP hD hS 4 rfl rfl 4 (by decide) (hts (.fieldLink RX2 22 "OneNail$Orders" "period" "I") (by decide +kernel)) (fun _ h9 => h9) rfl (by decide +kernel) rfl rfl (Nat.le_of_ble_eq_true rfl) dX2_time_128 (fun H locs hP hD hS => ?_)
      have hP : va_P D vwCl (xN cA r ((upd u 12 (nI ((ct g T ro L L) - (ct g T ro L 0)))), a1020, th, LP, tf)) H := hP
      have hD : va_D A (xN cA r ((upd u 12 (nI ((ct g T ro L L) - (ct g T ro L 0)))), a1020, th, LP, tf)) := hD
      exact wVret hx hb hr hlocks ((upd u 12 (nI ((ct g T ro L L) - (ct g T ro L 0)))), a1020, th, LP, tf) (⟨by rw [if_neg (by omega)]; rfl, fun j hj => hcm j (by omega), (fun i h12 => up_ne h12), (fun i h24 => hfa20 i h24), rfl⟩) hK hP hD hS dX2_time_131
    · have hrk := hrg k (by omega)
      have hTk := hB.2.2.2 _ hrk
      have hcl := ct_le hB (by omega) hrg k
      have hmd := md_le hpa.1 hTk.2.1
      have hck := ti_ck (by omega) hmi
      refine lv_aload_n hx hb dX2_time_29 rfl (lv_at hl 3 rfl) ?_
      refine va_get (D := D) (ci := 2) (v := .ref (r 23)) (C := RX2) (T := TX2) (N := 6) hx hb hts hinX2 hown hK hP 4 rfl rfl 1 (by decide) (hts (.fieldLink RX2 9 "OneNail$Orders" "row" "[I") (by decide +kernel)) (fun _ h9 => h9) rfl dX2_time_30 ?_
      refine lv_iload hx hb dX2_time_33 (lv_at hl 0 rfl) ?_
      refine ra_iald hx hb hK hP 23 0 (n := 6) (f := (a1020 23)) (j := k) (v := (nI (ro k))) rfl rfl (by omega) (by decide) ((congrFun (hfa20 23 (by decide)) (k)).trans (hro (k) (by omega))) dX2_time_35 ?_
      refine lv_istore (lv' := [(5, .int (nI (ro k))), (4, .int (nI k)), (2, .int (nI mi)), (3, .int (nI pa)), (0, .ref (r 4)), (1, .int (nI (g 1)))]) hx hb dX2_time_36 hl (by decide) rfl (fun ls hl => ?_)
      refine lv_iload_n hx hb dX2_time_38 rfl (lv_at hl 2 rfl) ?_
      refine lv_aload_n hx hb dX2_time_39 rfl (lv_at hl 4 rfl) ?_
      refine va_get (D := D) (ci := 2) (v := .ref (r 1)) (C := RX2) (T := TX2) (N := 6) hx hb hts hinX2 hown hK hP 4 rfl rfl 0 (by decide) (hts (.fieldLink RX2 28 "OneNail$Orders" "town" "LOneNail$Street;") (by decide +kernel)) (fun _ h9 => h9) rfl dX2_time_40 ?_
      refine va_get (D := D) (ci := 5) (v := .ref (r 13)) (C := RX5) (T := TX5) (N := 8) hx hb hts hinX5 hown hK hP 1 rfl rfl 4 (by decide) (hts (.fieldLink RX2 74 "OneNail$Street" "places" "[I") (by decide +kernel)) (fun _ h9 => h9) rfl dX2_time_43 ?_
      refine lv_iload hx hb dX2_time_46 (lv_at hl 0 rfl) ?_
      refine ra_iald hx hb hK hP 13 0 (n := 6) (f := (a1020 13)) (j := ro k) (v := (nI (T 1 (ro k)))) rfl rfl (by omega) (by decide) ((congrFun (hfa20 13 (by decide)) (ro k)).trans ((hM.2 (ro k) (by omega)).1)) dX2_time_48 ?_
      refine lv_iload_n hx hb dX2_time_49 rfl (lv_at hl 3 rfl) ?_
      refine lv_isub hx hb dX2_time_50 ?_
      refine va_mabs hx hb (hml.trans hl.1.symm) hown (hts (.methodLink RX2 77 Lib.Math.abs.name) (by decide +kernel)) (hts (.static Lib.Math.abs.name) (by decide +kernel)) (hts (.initialized "java/lang/Math") (by decide +kernel)) (hts (.code Lib.Math.abs.name Lib.Math.abs.code 1 (some .int)) (by decide +kernel)) (Nat.le_of_ble_eq_true rfl) (Nat.le_of_ble_eq_true rfl) (Nat.zero_le _) (Nat.zero_le _) dX2_time_51 ?_
      refine lv_topi (fun y_5 ey_5 => ?_)
      obtain rfl : y_5 = (nI (md pa (T 1 (ro k)))) := ey_5.trans (abs_row _ (by omega) _ (by omega))
      refine rn_iadd (x := mi) (y := md pa (T 1 (ro k))) hx hb dX2_time_54 ?_
      refine lv_topi (fun y_6 ey_6 => ?_)
      obtain rfl : y_6 = (nI (ct g T ro L k)) := ey_6.trans (congrArg nI hck)
      refine lv_istore_n (lv' := [(2, .int (nI (ct g T ro L k))), (5, .int (nI (ro k))), (4, .int (nI k)), (3, .int (nI pa)), (0, .ref (r 4)), (1, .int (nI (g 1)))]) hx hb dX2_time_55 rfl hl (by decide) rfl (fun ls hl => ?_)
      refine lv_aload_n hx hb dX2_time_56 rfl (lv_at hl 4 rfl) ?_
      refine va_get (D := D) (ci := 2) (v := .ref (r 24)) (C := RX2) (T := TX2) (N := 6) hx hb hts hinX2 hown hK hP 4 rfl rfl 3 (by decide) (hts (.fieldLink RX2 19 "OneNail$Orders" "comes" "[I") (by decide +kernel)) (fun _ h9 => h9) rfl dX2_time_57 ?_
      refine lv_iload hx hb dX2_time_60 (lv_at hl 1 rfl) ?_
      refine lv_iload_n hx hb dX2_time_62 rfl (lv_at hl 0 rfl) ?_
      refine ra_iast hx hb hK hP hD hS 24 0 (n := 6) (f := (a1020 24)) (j := ro k) (x := (nI (ct g T ro L k))) rfl rfl (by omega) (by decide) dX2_time_63 (fun H locs hP hD hS => ?_)
      have hP : va_P D vwCl (xN cA r ((upd u 12 (nI 0)), (va_up a1020 24 (upd (a1020 24) (ro k) (nI (ct g T ro L k)))), th, LP, tf)) H := hP
      have hD : va_D A (xN cA r ((upd u 12 (nI 0)), (va_up a1020 24 (upd (a1020 24) (ro k) (nI (ct g T ro L k)))), th, LP, tf)) := hD
      refine lv_iload_n hx hb dX2_time_64 rfl (lv_at hl 0 rfl) ?_
      refine lv_aload_n hx hb dX2_time_65 rfl (lv_at hl 4 rfl) ?_
      refine va_get (D := D) (ci := 2) (v := .ref (r 1)) (C := RX2) (T := TX2) (N := 6) hx hb hts hinX2 hown hK hP 4 rfl rfl 0 (by decide) (hts (.fieldLink RX2 28 "OneNail$Orders" "town" "LOneNail$Street;") (by decide +kernel)) (fun _ h9 => h9) rfl dX2_time_66 ?_
      refine va_get (D := D) (ci := 5) (v := .ref (r 14)) (C := RX5) (T := TX5) (N := 8) hx hb hts hinX5 hown hK hP 1 rfl rfl 5 (by decide) (hts (.fieldLink RX2 82 "OneNail$Street" "stays" "[I") (by decide +kernel)) (fun _ h9 => h9) rfl dX2_time_69 ?_
      refine lv_iload hx hb dX2_time_72 (lv_at hl 1 rfl) ?_
      refine ra_iald hx hb hK hP 14 0 (n := 6) (f := (a1020 14)) (j := ro k) (v := (nI (T 2 (ro k)))) rfl rfl (by omega) (by decide) ((congrFun (hfa20 14 (by decide)) (ro k)).trans ((hM.2 (ro k) (by omega)).2.1)) dX2_time_74 ?_
      refine rn_iadd (x := ct g T ro L k) (y := T 2 (ro k)) hx hb dX2_time_75 ?_
      refine lv_istore_n (lv' := [(2, .int (nI ((ct g T ro L k) + (T 2 (ro k))))), (5, .int (nI (ro k))), (4, .int (nI k)), (3, .int (nI pa)), (0, .ref (r 4)), (1, .int (nI (g 1)))]) hx hb dX2_time_76 rfl hl (by decide) rfl (fun ls hl => ?_)
      refine lv_aload_n hx hb dX2_time_77 rfl (lv_at hl 4 rfl) ?_
      refine va_get (D := D) (ci := 2) (v := .ref (r 1)) (C := RX2) (T := TX2) (N := 6) hx hb hts hinX2 hown hK hP 4 rfl rfl 0 (by decide) (hts (.fieldLink RX2 28 "OneNail$Orders" "town" "LOneNail$Street;") (by decide +kernel)) (fun _ h9 => h9) rfl dX2_time_78 ?_
      refine va_get (D := D) (ci := 5) (v := .ref (r 13)) (C := RX5) (T := TX5) (N := 8) hx hb hts hinX5 hown hK hP 1 rfl rfl 4 (by decide) (hts (.fieldLink RX2 74 "OneNail$Street" "places" "[I") (by decide +kernel)) (fun _ h9 => h9) rfl dX2_time_81 ?_
      refine lv_iload hx hb dX2_time_84 (lv_at hl 1 rfl) ?_
      refine ra_iald hx hb hK hP 13 0 (n := 6) (f := (a1020 13)) (j := ro k) (v := (nI (T 1 (ro k)))) rfl rfl (by omega) (by decide) ((congrFun (hfa20 13 (by decide)) (ro k)).trans ((hM.2 (ro k) (by omega)).1)) dX2_time_86 ?_
      refine lv_istore_n (lv' := [(3, .int (nI (T 1 (ro k)))), (2, .int (nI ((ct g T ro L k) + (T 2 (ro k))))), (5, .int (nI (ro k))), (4, .int (nI k)), (0, .ref (r 4)), (1, .int (nI (g 1)))]) hx hb dX2_time_87 rfl hl (by decide) rfl (fun ls hl => ?_)
      refine rn_iinc (x := k) (d := 1) (lv' := [(4, .int (nI (k + 1))), (3, .int (nI (T 1 (ro k)))), (2, .int (nI ((ct g T ro L k) + (T 2 (ro k))))), (5, .int (nI (ro k))), (0, .ref (r 4)), (1, .int (nI (g 1)))]) hx hb rfl dX2_time_88 hl (k := 3) rfl (by decide) rfl (fun ls hl => ?_)
      refine lv_goto (tgt := 20) hx hb dX2_time_91 (by decide) ?_
      exact ih20 ((k + 1), (ct g T ro L k + T 2 (ro k)), (T 1 (ro k)), (va_up a1020 24 (upd (a1020 24) (ro k) (nI (ct g T ro L k))))) _ _ _ (show L - (k + 1) < L - k from by omega) ⟨(show (k + 1) ≤ L from by omega), (show tiI g T ro L (k + 1) (ct g T ro L k + T 2 (ro k)) (T 1 (ro k)) from (Or.inr ⟨by omega, rfl, rfl⟩)), (show ∀ j, j < (k + 1) → (va_up a1020 24 (upd (a1020 24) (ro k) (nI (ct g T ro L k)))) 24 (ro j) = nI (ct g T ro L j) from (show ∀ j, j < k + 1 → (upd (a1020 24) (ro k) (nI (ct g T ro L k))) (ro j) = nI (ct g T ro L j) from ti_push hcm (hne k (by omega)))), (fun i h24 => Eq.trans (vup_ne h24) (hfa20 i h24)), hP, hD, hS, lv_sub hl [0, 2, 1, 4, 5] rfl⟩
  · exact wVret hx hb hr hlocks ((upd u 12 (nI 0)), a, th, LP, tf) (⟨by rw [if_pos (by omega)]; rfl, fun k hk => absurd hk (by omega), (fun i h12 => up_ne h12), (fun i h24 => rfl), rfl⟩) hK hP hD hS dX2_time_12

set_option maxHeartbeats 4000000 in
set_option maxRecDepth 100000 in
theorem kX2_fallsBelow (l : Launch) (D : va_G) (cA : Nat → ClassId) (r : Nat → Nat) (sz : Nat) (u : Nat → Int32) (a : Nat → Nat → Int32) (th : Nat → Option Nat) (LP : List Nat) (tf : Nat → va_E) (tO : Nat) (g : Nat → Nat) (T : Nat → Nat → Nat) (x t cx P : Nat) (hM : NT u a g T) (hB : TB g T) (hcx : a 24 x = nI cx) (hcb : cx ≤ 10000) (hPd : u 12 = nI P) (hPb : P ≤ 10000) (hx0 : x < g 0) (htl : t ≤ 300) : Met l yX2_fallsBelow wsX2_fallsBelow ({ frames := 0, cells := 0, slots := 0, locals := 0 } : Room) (va_Pc [.ref (r 4), .int (nI x), .int (nI t)] (wA D vwCl (tyA cA) (eO tO) (xN cA r) (u, a, th, LP, tf) sz)) (va_Qi (fun (v : Int32) (z : sN) => v = nI (fB (hd g T x) (T 2 x) cx P t) ∧ z = (u, a, th, LP, tf)) (wB D vwCl (tyA cA) (xN cA r) (va_A (xN cA r (u, a, th, LP, tf)) sz)) (va_A (xN cA r (u, a, th, LP, tf)) sz)) 0 0 (va_A (xN cA r (u, a, th, LP, tf)) sz) := by
  refine Met.ofW (cc := cX2_fallsBelow) (maxL := 7) (ret := (some .int)) (by decide) rfl ?_
  intro p e s m args below meth c s₁ B hml hv
  obtain ⟨rfl, hsz, hP, hK, hD0, hE⟩ := hv
  have hx := B.exec
  have hb := B.bytes
  have hr := B.returns
  have hts := atoms_spec (ws := wsX2_fallsBelow) B.pre
  have hown : s.vm.findClass RX2 = some m.cls := findClass_of_methodNamed B.named
  have hlocks := B.notSynchronized
  subst hsz
  have hD := hD0.self (sz := s.heap.size)
  generalize hAe : va_A (xN cA r (u, a, th, LP, tf)) s.heap.size = A at hD hE ⊢
  have hA : ∀ q : Nat, s.heap.size ≤ q → A q := fun q h => by rw [← hAe]; exact Or.inr h
  have hS : va_S A s.heap s.heap [] := va_S.rf
  have hinX2 : ∀ w ∈ u_ws RX2 TX2 6, w ∈ wsX2_fallsBelow := by decide +kernel
  have hinX5 : ∀ w ∈ u_ws RX5 TX5 8, w ∈ wsX2_fallsBelow := by decide +kernel
  have hl := lv_entry ([.ref (r 4), .int (nI x), .int (nI t)]) (n := 7) (Nat.le_of_ble_eq_true rfl)
  rw [lg_entry_eq]
  generalize (lg_sl ([.ref (r 4), .int (nI x), .int (nI t)]) ++ List.replicate (7 - (lg_sl ([.ref (r 4), .int (nI x), .int (nI t)])).length) Slot.unset).toArray = ls at hl ⊢
  have hl : lv_has ls 7 [(0, .ref (r 4)), (1, .int (nI x)), (2, .int (nI t))] := hl
  have hg6 := hB.1
  have hTx := hB.2.2.2 x hx0
  have hdx := hd_le hB hx0
  refine lv_aload_n hx hb dX2_fallsBelow_0 rfl (lv_at hl 0 rfl) ?_
  refine va_get (D := D) (ci := 2) (v := .ref (r 1)) (C := RX2) (T := TX2) (N := 6) hx hb hts hinX2 hown hK hP 4 rfl rfl 0 (by decide) (hts (.fieldLink RX2 28 "OneNail$Orders" "town" "LOneNail$Street;") (by decide +kernel)) (fun _ h9 => h9) rfl dX2_fallsBelow_1 ?_
  refine va_get (D := D) (ci := 5) (v := .ref (r 16)) (C := RX5) (T := TX5) (N := 8) hx hb hts hinX5 hown hK hP 1 rfl rfl 7 (by decide) (hts (.fieldLink RX2 91 "OneNail$Street" "holds" "[I") (by decide +kernel)) (fun _ h9 => h9) rfl dX2_fallsBelow_4 ?_
  refine lv_iload_n hx hb dX2_fallsBelow_7 rfl (lv_at hl 1 rfl) ?_
  refine ra_iald hx hb hK hP 16 0 (n := 6) (f := (a 16)) (j := x) (v := (nI (hd g T x))) rfl rfl (by omega) (by decide) ((hM.2 (x) (by omega)).2.2.2) dX2_fallsBelow_8 ?_
  refine lv_istore_n (lv' := [(3, .int (nI (hd g T x))), (0, .ref (r 4)), (1, .int (nI x)), (2, .int (nI t))]) hx hb dX2_fallsBelow_9 rfl hl (by decide) rfl (fun ls hl => ?_)
  refine lv_iload_n hx hb dX2_fallsBelow_10 rfl (lv_at hl 0 rfl) ?_
  refine lv_aload_n hx hb dX2_fallsBelow_11 rfl (lv_at hl 1 rfl) ?_
  refine va_get (D := D) (ci := 2) (v := .ref (r 24)) (C := RX2) (T := TX2) (N := 6) hx hb hts hinX2 hown hK hP 4 rfl rfl 3 (by decide) (hts (.fieldLink RX2 19 "OneNail$Orders" "comes" "[I") (by decide +kernel)) (fun _ h9 => h9) rfl dX2_fallsBelow_12 ?_
  refine lv_iload_n hx hb dX2_fallsBelow_15 rfl (lv_at hl 2 rfl) ?_
  refine ra_iald hx hb hK hP 24 0 (n := 6) (f := (a 24)) (j := x) (v := (nI cx)) rfl rfl (by omega) (by decide) (hcx) dX2_fallsBelow_16 ?_
  refine rn_ge (x := hd g T x) (y := cx) (tgt := 29) hx hb (by omega) (by omega) dX2_fallsBelow_17 (by decide) (fun c_1 => ?_) (fun c_1 => ?_)
  · refine lv_iconst (v := (nI 0)) hx hb dX2_fallsBelow_29 rfl ?_
    refine lv_istore (lv' := [(4, .int (nI 0)), (3, .int (nI (hd g T x))), (0, .ref (r 4)), (1, .int (nI x)), (2, .int (nI t))]) hx hb dX2_fallsBelow_30 hl (by decide) rfl (fun ls hl => ?_)
    refine lv_aload_n hx hb dX2_fallsBelow_32 rfl (lv_at hl 2 rfl) ?_
    refine va_get (D := D) (ci := 2) (v := .ref (r 1)) (C := RX2) (T := TX2) (N := 6) hx hb hts hinX2 hown hK hP 4 rfl rfl 0 (by decide) (hts (.fieldLink RX2 28 "OneNail$Orders" "town" "LOneNail$Street;") (by decide +kernel)) (fun _ h9 => h9) rfl dX2_fallsBelow_33 ?_
    refine va_get (D := D) (ci := 5) (v := .ref (r 14)) (C := RX5) (T := TX5) (N := 8) hx hb hts hinX5 hown hK hP 1 rfl rfl 5 (by decide) (hts (.fieldLink RX2 82 "OneNail$Street" "stays" "[I") (by decide +kernel)) (fun _ h9 => h9) rfl dX2_fallsBelow_36 ?_
    refine lv_iload_n hx hb dX2_fallsBelow_39 rfl (lv_at hl 3 rfl) ?_
    refine ra_iald hx hb hK hP 14 0 (n := 6) (f := (a 14)) (j := x) (v := (nI (T 2 x))) rfl rfl (by omega) (by decide) ((hM.2 (x) (by omega)).2.1) dX2_fallsBelow_40 ?_
    refine lv_iload_n hx hb dX2_fallsBelow_41 rfl (lv_at hl 1 rfl) ?_
    refine rn_iadd (x := T 2 x) (y := hd g T x) hx hb dX2_fallsBelow_42 ?_
    refine lv_istore (lv' := [(5, .int (nI ((T 2 x) + (hd g T x)))), (4, .int (nI 0)), (3, .int (nI (hd g T x))), (0, .ref (r 4)), (1, .int (nI x)), (2, .int (nI t))]) hx hb dX2_fallsBelow_43 hl (by decide) rfl (fun ls hl => ?_)
    refine lv_aload_n hx hb dX2_fallsBelow_45 rfl (lv_at hl 3 rfl) ?_
    refine va_get (D := D) (ci := 2) (v := .ref (r 24)) (C := RX2) (T := TX2) (N := 6) hx hb hts hinX2 hown hK hP 4 rfl rfl 3 (by decide) (hts (.fieldLink RX2 19 "OneNail$Orders" "comes" "[I") (by decide +kernel)) (fun _ h9 => h9) rfl dX2_fallsBelow_46 ?_
    refine lv_iload_n hx hb dX2_fallsBelow_49 rfl (lv_at hl 4 rfl) ?_
    refine ra_iald hx hb hK hP 24 0 (n := 6) (f := (a 24)) (j := x) (v := (nI cx)) rfl rfl (by omega) (by decide) (hcx) dX2_fallsBelow_50 ?_
    refine lv_iload hx hb dX2_fallsBelow_51 (lv_at hl 0 rfl) ?_
    refine rn_iadd (x := cx) (y := (T 2 x) + (hd g T x)) hx hb dX2_fallsBelow_53 ?_
    refine lv_istore (lv' := [(6, .int (nI (cx + ((T 2 x) + (hd g T x))))), (5, .int (nI ((T 2 x) + (hd g T x)))), (4, .int (nI 0)), (3, .int (nI (hd g T x))), (0, .ref (r 4)), (1, .int (nI x)), (2, .int (nI t))]) hx hb dX2_fallsBelow_54 hl (by decide) rfl (fun ls hl => ?_)
    refine lv_aload_n hx hb dX2_fallsBelow_56 rfl (lv_at hl 4 rfl) ?_
    refine va_get (D := D) (ci := 2) (v := .int (nI P)) (C := RX2) (T := TX2) (N := 6) hx hb hts hinX2 hown hK hP 4 rfl rfl 4 (by decide) (hts (.fieldLink RX2 22 "OneNail$Orders" "period" "I") (by decide +kernel)) (fun _ h9 => h9) (congrArg (fun z => some (Value.int z)) (hPd)) dX2_fallsBelow_57 ?_
    refine rz_le (x := P) (tgt := 96) hx hb (by omega) dX2_fallsBelow_60 (by decide) (fun c_2 => ?_) (fun c_2 => ?_)
    · refine lv_iload hx hb dX2_fallsBelow_96 (lv_at hl 2 rfl) ?_
      exact wIret hx hb hr hlocks (v := (nI 0)) (u, a, th, LP, tf) (⟨congrArg nI (by unfold fB; (repeat' split) <;> omega), rfl⟩) hK hP hD hS dX2_fallsBelow_98
    · refine lv_aload_n hx hb dX2_fallsBelow_63 rfl (lv_at hl 4 rfl) ?_
      refine va_get (D := D) (ci := 2) (v := .int (nI P)) (C := RX2) (T := TX2) (N := 6) hx hb hts hinX2 hown hK hP 4 rfl rfl 4 (by decide) (hts (.fieldLink RX2 22 "OneNail$Orders" "period" "I") (by decide +kernel)) (fun _ h9 => h9) (congrArg (fun z => some (Value.int z)) (hPd)) dX2_fallsBelow_64 ?_
      refine lv_iload hx hb dX2_fallsBelow_67 (lv_at hl 1 rfl) ?_
      refine rn_le (x := P) (y := (T 2 x) + (hd g T x)) (tgt := 96) hx hb (by omega) (by omega) dX2_fallsBelow_69 (by decide) (fun c_3 => ?_) (fun c_3 => ?_)
      · refine lv_iload hx hb dX2_fallsBelow_96 (lv_at hl 2 rfl) ?_
        exact wIret hx hb hr hlocks (v := (nI 0)) (u, a, th, LP, tf) (⟨congrArg nI (by unfold fB; (repeat' split) <;> omega), rfl⟩) hK hP hD hS dX2_fallsBelow_98
      · refine lv_iload hx hb dX2_fallsBelow_72 (lv_at hl 0 rfl) ?_
        refine lv_iload_n hx hb dX2_fallsBelow_74 rfl (lv_at hl 6 rfl) ?_
        refine rn_ge (x := cx + ((T 2 x) + (hd g T x))) (y := t) (tgt := 96) hx hb (by omega) (by omega) dX2_fallsBelow_75 (by decide) (fun c_4 => ?_) (fun c_4 => ?_)
        · refine lv_iload hx hb dX2_fallsBelow_96 (lv_at hl 2 rfl) ?_
          exact wIret hx hb hr hlocks (v := (nI 0)) (u, a, th, LP, tf) (⟨congrArg nI (by unfold fB; (repeat' split) <;> omega), rfl⟩) hK hP hD hS dX2_fallsBelow_98
        · refine lv_iload hx hb dX2_fallsBelow_78 (lv_at hl 2 rfl) ?_
          refine lv_iconst (v := (nI 1)) hx hb dX2_fallsBelow_80 rfl ?_
          refine lv_iload_n hx hb dX2_fallsBelow_81 rfl (lv_at hl 6 rfl) ?_
          refine lv_iconst (v := (nI 1)) hx hb dX2_fallsBelow_82 rfl ?_
          refine rn_isub (x := t) (y := 1) hx hb (by omega) dX2_fallsBelow_83 ?_
          refine lv_iload hx hb dX2_fallsBelow_84 (lv_at hl 0 rfl) ?_
          refine rn_isub (x := t - 1) (y := cx + ((T 2 x) + (hd g T x))) hx hb (by omega) dX2_fallsBelow_86 ?_
          refine lv_aload_n hx hb dX2_fallsBelow_87 rfl (lv_at hl 4 rfl) ?_
          refine va_get (D := D) (ci := 2) (v := .int (nI P)) (C := RX2) (T := TX2) (N := 6) hx hb hts hinX2 hown hK hP 4 rfl rfl 4 (by decide) (hts (.fieldLink RX2 22 "OneNail$Orders" "period" "I") (by decide +kernel)) (fun _ h9 => h9) (congrArg (fun z => some (Value.int z)) (hPd)) dX2_fallsBelow_88 ?_
          refine rn_idiv (x := (t - 1) - (cx + ((T 2 x) + (hd g T x)))) (y := P) hx hb (by omega) (by omega) (by omega) dX2_fallsBelow_91 ?_
          refine rn_iadd (x := 1) (y := ((t - 1) - (cx + ((T 2 x) + (hd g T x)))) / P) hx hb dX2_fallsBelow_92 ?_
          refine rn_iadd (x := 0) (y := 1 + (((t - 1) - (cx + ((T 2 x) + (hd g T x)))) / P)) hx hb dX2_fallsBelow_93 ?_
          refine lv_istore (lv' := [(4, .int (nI (0 + (1 + (((t - 1) - (cx + ((T 2 x) + (hd g T x)))) / P))))), (6, .int (nI (cx + ((T 2 x) + (hd g T x))))), (5, .int (nI ((T 2 x) + (hd g T x)))), (3, .int (nI (hd g T x))), (0, .ref (r 4)), (1, .int (nI x)), (2, .int (nI t))]) hx hb dX2_fallsBelow_94 hl (by decide) rfl (fun ls hl => ?_)
          refine lv_iload hx hb dX2_fallsBelow_96 (lv_at hl 0 rfl) ?_
          exact wIret hx hb hr hlocks (v := (nI (0 + (1 + (((t - 1) - (cx + ((T 2 x) + (hd g T x)))) / P))))) (u, a, th, LP, tf) (⟨congrArg nI (by unfold fB; (repeat' split) <;> omega), rfl⟩) hK hP hD hS dX2_fallsBelow_98
  · refine lv_iload_n hx hb dX2_fallsBelow_20 rfl (lv_at hl 0 rfl) ?_
    refine lv_iload_n hx hb dX2_fallsBelow_21 rfl (lv_at hl 3 rfl) ?_
    refine rn_ge (x := hd g T x) (y := t) (tgt := 29) hx hb (by omega) (by omega) dX2_fallsBelow_22 (by decide) (fun c_5 => ?_) (fun c_5 => ?_)
    · refine lv_iconst (v := (nI 0)) hx hb dX2_fallsBelow_29 rfl ?_
      refine lv_istore (lv' := [(4, .int (nI 0)), (3, .int (nI (hd g T x))), (0, .ref (r 4)), (1, .int (nI x)), (2, .int (nI t))]) hx hb dX2_fallsBelow_30 hl (by decide) rfl (fun ls hl => ?_)
      refine lv_aload_n hx hb dX2_fallsBelow_32 rfl (lv_at hl 2 rfl) ?_
      refine va_get (D := D) (ci := 2) (v := .ref (r 1)) (C := RX2) (T := TX2) (N := 6) hx hb hts hinX2 hown hK hP 4 rfl rfl 0 (by decide) (hts (.fieldLink RX2 28 "OneNail$Orders" "town" "LOneNail$Street;") (by decide +kernel)) (fun _ h9 => h9) rfl dX2_fallsBelow_33 ?_
      refine va_get (D := D) (ci := 5) (v := .ref (r 14)) (C := RX5) (T := TX5) (N := 8) hx hb hts hinX5 hown hK hP 1 rfl rfl 5 (by decide) (hts (.fieldLink RX2 82 "OneNail$Street" "stays" "[I") (by decide +kernel)) (fun _ h9 => h9) rfl dX2_fallsBelow_36 ?_
      refine lv_iload_n hx hb dX2_fallsBelow_39 rfl (lv_at hl 3 rfl) ?_
      refine ra_iald hx hb hK hP 14 0 (n := 6) (f := (a 14)) (j := x) (v := (nI (T 2 x))) rfl rfl (by omega) (by decide) ((hM.2 (x) (by omega)).2.1) dX2_fallsBelow_40 ?_
      refine lv_iload_n hx hb dX2_fallsBelow_41 rfl (lv_at hl 1 rfl) ?_
      refine rn_iadd (x := T 2 x) (y := hd g T x) hx hb dX2_fallsBelow_42 ?_
      refine lv_istore (lv' := [(5, .int (nI ((T 2 x) + (hd g T x)))), (4, .int (nI 0)), (3, .int (nI (hd g T x))), (0, .ref (r 4)), (1, .int (nI x)), (2, .int (nI t))]) hx hb dX2_fallsBelow_43 hl (by decide) rfl (fun ls hl => ?_)
      refine lv_aload_n hx hb dX2_fallsBelow_45 rfl (lv_at hl 3 rfl) ?_
      refine va_get (D := D) (ci := 2) (v := .ref (r 24)) (C := RX2) (T := TX2) (N := 6) hx hb hts hinX2 hown hK hP 4 rfl rfl 3 (by decide) (hts (.fieldLink RX2 19 "OneNail$Orders" "comes" "[I") (by decide +kernel)) (fun _ h9 => h9) rfl dX2_fallsBelow_46 ?_
      refine lv_iload_n hx hb dX2_fallsBelow_49 rfl (lv_at hl 4 rfl) ?_
      refine ra_iald hx hb hK hP 24 0 (n := 6) (f := (a 24)) (j := x) (v := (nI cx)) rfl rfl (by omega) (by decide) (hcx) dX2_fallsBelow_50 ?_
      refine lv_iload hx hb dX2_fallsBelow_51 (lv_at hl 0 rfl) ?_
      refine rn_iadd (x := cx) (y := (T 2 x) + (hd g T x)) hx hb dX2_fallsBelow_53 ?_
      refine lv_istore (lv' := [(6, .int (nI (cx + ((T 2 x) + (hd g T x))))), (5, .int (nI ((T 2 x) + (hd g T x)))), (4, .int (nI 0)), (3, .int (nI (hd g T x))), (0, .ref (r 4)), (1, .int (nI x)), (2, .int (nI t))]) hx hb dX2_fallsBelow_54 hl (by decide) rfl (fun ls hl => ?_)
      refine lv_aload_n hx hb dX2_fallsBelow_56 rfl (lv_at hl 4 rfl) ?_
      refine va_get (D := D) (ci := 2) (v := .int (nI P)) (C := RX2) (T := TX2) (N := 6) hx hb hts hinX2 hown hK hP 4 rfl rfl 4 (by decide) (hts (.fieldLink RX2 22 "OneNail$Orders" "period" "I") (by decide +kernel)) (fun _ h9 => h9) (congrArg (fun z => some (Value.int z)) (hPd)) dX2_fallsBelow_57 ?_
      refine rz_le (x := P) (tgt := 96) hx hb (by omega) dX2_fallsBelow_60 (by decide) (fun c_6 => ?_) (fun c_6 => ?_)
      · refine lv_iload hx hb dX2_fallsBelow_96 (lv_at hl 2 rfl) ?_
        exact wIret hx hb hr hlocks (v := (nI 0)) (u, a, th, LP, tf) (⟨congrArg nI (by unfold fB; (repeat' split) <;> omega), rfl⟩) hK hP hD hS dX2_fallsBelow_98
      · refine lv_aload_n hx hb dX2_fallsBelow_63 rfl (lv_at hl 4 rfl) ?_
        refine va_get (D := D) (ci := 2) (v := .int (nI P)) (C := RX2) (T := TX2) (N := 6) hx hb hts hinX2 hown hK hP 4 rfl rfl 4 (by decide) (hts (.fieldLink RX2 22 "OneNail$Orders" "period" "I") (by decide +kernel)) (fun _ h9 => h9) (congrArg (fun z => some (Value.int z)) (hPd)) dX2_fallsBelow_64 ?_
        refine lv_iload hx hb dX2_fallsBelow_67 (lv_at hl 1 rfl) ?_
        refine rn_le (x := P) (y := (T 2 x) + (hd g T x)) (tgt := 96) hx hb (by omega) (by omega) dX2_fallsBelow_69 (by decide) (fun c_7 => ?_) (fun c_7 => ?_)
        · refine lv_iload hx hb dX2_fallsBelow_96 (lv_at hl 2 rfl) ?_
          exact wIret hx hb hr hlocks (v := (nI 0)) (u, a, th, LP, tf) (⟨congrArg nI (by unfold fB; (repeat' split) <;> omega), rfl⟩) hK hP hD hS dX2_fallsBelow_98
        · refine lv_iload hx hb dX2_fallsBelow_72 (lv_at hl 0 rfl) ?_
          refine lv_iload_n hx hb dX2_fallsBelow_74 rfl (lv_at hl 6 rfl) ?_
          refine rn_ge (x := cx + ((T 2 x) + (hd g T x))) (y := t) (tgt := 96) hx hb (by omega) (by omega) dX2_fallsBelow_75 (by decide) (fun c_8 => ?_) (fun c_8 => ?_)
          · refine lv_iload hx hb dX2_fallsBelow_96 (lv_at hl 2 rfl) ?_
            exact wIret hx hb hr hlocks (v := (nI 0)) (u, a, th, LP, tf) (⟨congrArg nI (by unfold fB; (repeat' split) <;> omega), rfl⟩) hK hP hD hS dX2_fallsBelow_98
          · refine lv_iload hx hb dX2_fallsBelow_78 (lv_at hl 2 rfl) ?_
            refine lv_iconst (v := (nI 1)) hx hb dX2_fallsBelow_80 rfl ?_
            refine lv_iload_n hx hb dX2_fallsBelow_81 rfl (lv_at hl 6 rfl) ?_
            refine lv_iconst (v := (nI 1)) hx hb dX2_fallsBelow_82 rfl ?_
            refine rn_isub (x := t) (y := 1) hx hb (by omega) dX2_fallsBelow_83 ?_
            refine lv_iload hx hb dX2_fallsBelow_84 (lv_at hl 0 rfl) ?_
            refine rn_isub (x := t - 1) (y := cx + ((T 2 x) + (hd g T x))) hx hb (by omega) dX2_fallsBelow_86 ?_
            refine lv_aload_n hx hb dX2_fallsBelow_87 rfl (lv_at hl 4 rfl) ?_
            refine va_get (D := D) (ci := 2) (v := .int (nI P)) (C := RX2) (T := TX2) (N := 6) hx hb hts hinX2 hown hK hP 4 rfl rfl 4 (by decide) (hts (.fieldLink RX2 22 "OneNail$Orders" "period" "I") (by decide +kernel)) (fun _ h9 => h9) (congrArg (fun z => some (Value.int z)) (hPd)) dX2_fallsBelow_88 ?_
            refine rn_idiv (x := (t - 1) - (cx + ((T 2 x) + (hd g T x)))) (y := P) hx hb (by omega) (by omega) (by omega) dX2_fallsBelow_91 ?_
            refine rn_iadd (x := 1) (y := ((t - 1) - (cx + ((T 2 x) + (hd g T x)))) / P) hx hb dX2_fallsBelow_92 ?_
            refine rn_iadd (x := 0) (y := 1 + (((t - 1) - (cx + ((T 2 x) + (hd g T x)))) / P)) hx hb dX2_fallsBelow_93 ?_
            refine lv_istore (lv' := [(4, .int (nI (0 + (1 + (((t - 1) - (cx + ((T 2 x) + (hd g T x)))) / P))))), (6, .int (nI (cx + ((T 2 x) + (hd g T x))))), (5, .int (nI ((T 2 x) + (hd g T x)))), (3, .int (nI (hd g T x))), (0, .ref (r 4)), (1, .int (nI x)), (2, .int (nI t))]) hx hb dX2_fallsBelow_94 hl (by decide) rfl (fun ls hl => ?_)
            refine lv_iload hx hb dX2_fallsBelow_96 (lv_at hl 0 rfl) ?_
            exact wIret hx hb hr hlocks (v := (nI (0 + (1 + (((t - 1) - (cx + ((T 2 x) + (hd g T x)))) / P))))) (u, a, th, LP, tf) (⟨congrArg nI (by unfold fB; (repeat' split) <;> omega), rfl⟩) hK hP hD hS dX2_fallsBelow_98
    · refine lv_iconst (v := (nI 1)) hx hb dX2_fallsBelow_25 rfl ?_
      refine lv_goto (tgt := 30) hx hb dX2_fallsBelow_26 (by decide) ?_
      refine lv_istore (lv' := [(4, .int (nI 1)), (3, .int (nI (hd g T x))), (0, .ref (r 4)), (1, .int (nI x)), (2, .int (nI t))]) hx hb dX2_fallsBelow_30 hl (by decide) rfl (fun ls hl => ?_)
      refine lv_aload_n hx hb dX2_fallsBelow_32 rfl (lv_at hl 2 rfl) ?_
      refine va_get (D := D) (ci := 2) (v := .ref (r 1)) (C := RX2) (T := TX2) (N := 6) hx hb hts hinX2 hown hK hP 4 rfl rfl 0 (by decide) (hts (.fieldLink RX2 28 "OneNail$Orders" "town" "LOneNail$Street;") (by decide +kernel)) (fun _ h9 => h9) rfl dX2_fallsBelow_33 ?_
      refine va_get (D := D) (ci := 5) (v := .ref (r 14)) (C := RX5) (T := TX5) (N := 8) hx hb hts hinX5 hown hK hP 1 rfl rfl 5 (by decide) (hts (.fieldLink RX2 82 "OneNail$Street" "stays" "[I") (by decide +kernel)) (fun _ h9 => h9) rfl dX2_fallsBelow_36 ?_
      refine lv_iload_n hx hb dX2_fallsBelow_39 rfl (lv_at hl 3 rfl) ?_
      refine ra_iald hx hb hK hP 14 0 (n := 6) (f := (a 14)) (j := x) (v := (nI (T 2 x))) rfl rfl (by omega) (by decide) ((hM.2 (x) (by omega)).2.1) dX2_fallsBelow_40 ?_
      refine lv_iload_n hx hb dX2_fallsBelow_41 rfl (lv_at hl 1 rfl) ?_
      refine rn_iadd (x := T 2 x) (y := hd g T x) hx hb dX2_fallsBelow_42 ?_
      refine lv_istore (lv' := [(5, .int (nI ((T 2 x) + (hd g T x)))), (4, .int (nI 1)), (3, .int (nI (hd g T x))), (0, .ref (r 4)), (1, .int (nI x)), (2, .int (nI t))]) hx hb dX2_fallsBelow_43 hl (by decide) rfl (fun ls hl => ?_)
      refine lv_aload_n hx hb dX2_fallsBelow_45 rfl (lv_at hl 3 rfl) ?_
      refine va_get (D := D) (ci := 2) (v := .ref (r 24)) (C := RX2) (T := TX2) (N := 6) hx hb hts hinX2 hown hK hP 4 rfl rfl 3 (by decide) (hts (.fieldLink RX2 19 "OneNail$Orders" "comes" "[I") (by decide +kernel)) (fun _ h9 => h9) rfl dX2_fallsBelow_46 ?_
      refine lv_iload_n hx hb dX2_fallsBelow_49 rfl (lv_at hl 4 rfl) ?_
      refine ra_iald hx hb hK hP 24 0 (n := 6) (f := (a 24)) (j := x) (v := (nI cx)) rfl rfl (by omega) (by decide) (hcx) dX2_fallsBelow_50 ?_
      refine lv_iload hx hb dX2_fallsBelow_51 (lv_at hl 0 rfl) ?_
      refine rn_iadd (x := cx) (y := (T 2 x) + (hd g T x)) hx hb dX2_fallsBelow_53 ?_
      refine lv_istore (lv' := [(6, .int (nI (cx + ((T 2 x) + (hd g T x))))), (5, .int (nI ((T 2 x) + (hd g T x)))), (4, .int (nI 1)), (3, .int (nI (hd g T x))), (0, .ref (r 4)), (1, .int (nI x)), (2, .int (nI t))]) hx hb dX2_fallsBelow_54 hl (by decide) rfl (fun ls hl => ?_)
      refine lv_aload_n hx hb dX2_fallsBelow_56 rfl (lv_at hl 4 rfl) ?_
      refine va_get (D := D) (ci := 2) (v := .int (nI P)) (C := RX2) (T := TX2) (N := 6) hx hb hts hinX2 hown hK hP 4 rfl rfl 4 (by decide) (hts (.fieldLink RX2 22 "OneNail$Orders" "period" "I") (by decide +kernel)) (fun _ h9 => h9) (congrArg (fun z => some (Value.int z)) (hPd)) dX2_fallsBelow_57 ?_
      refine rz_le (x := P) (tgt := 96) hx hb (by omega) dX2_fallsBelow_60 (by decide) (fun c_9 => ?_) (fun c_9 => ?_)
      · refine lv_iload hx hb dX2_fallsBelow_96 (lv_at hl 2 rfl) ?_
        exact wIret hx hb hr hlocks (v := (nI 1)) (u, a, th, LP, tf) (⟨congrArg nI (by unfold fB; (repeat' split) <;> omega), rfl⟩) hK hP hD hS dX2_fallsBelow_98
      · refine lv_aload_n hx hb dX2_fallsBelow_63 rfl (lv_at hl 4 rfl) ?_
        refine va_get (D := D) (ci := 2) (v := .int (nI P)) (C := RX2) (T := TX2) (N := 6) hx hb hts hinX2 hown hK hP 4 rfl rfl 4 (by decide) (hts (.fieldLink RX2 22 "OneNail$Orders" "period" "I") (by decide +kernel)) (fun _ h9 => h9) (congrArg (fun z => some (Value.int z)) (hPd)) dX2_fallsBelow_64 ?_
        refine lv_iload hx hb dX2_fallsBelow_67 (lv_at hl 1 rfl) ?_
        refine rn_le (x := P) (y := (T 2 x) + (hd g T x)) (tgt := 96) hx hb (by omega) (by omega) dX2_fallsBelow_69 (by decide) (fun c_10 => ?_) (fun c_10 => ?_)
        · refine lv_iload hx hb dX2_fallsBelow_96 (lv_at hl 2 rfl) ?_
          exact wIret hx hb hr hlocks (v := (nI 1)) (u, a, th, LP, tf) (⟨congrArg nI (by unfold fB; (repeat' split) <;> omega), rfl⟩) hK hP hD hS dX2_fallsBelow_98
        · refine lv_iload hx hb dX2_fallsBelow_72 (lv_at hl 0 rfl) ?_
          refine lv_iload_n hx hb dX2_fallsBelow_74 rfl (lv_at hl 6 rfl) ?_
          refine rn_ge (x := cx + ((T 2 x) + (hd g T x))) (y := t) (tgt := 96) hx hb (by omega) (by omega) dX2_fallsBelow_75 (by decide) (fun c_11 => ?_) (fun c_11 => ?_)
          · refine lv_iload hx hb dX2_fallsBelow_96 (lv_at hl 2 rfl) ?_
            exact wIret hx hb hr hlocks (v := (nI 1)) (u, a, th, LP, tf) (⟨congrArg nI (by unfold fB; (repeat' split) <;> omega), rfl⟩) hK hP hD hS dX2_fallsBelow_98
          · refine lv_iload hx hb dX2_fallsBelow_78 (lv_at hl 2 rfl) ?_
            refine lv_iconst (v := (nI 1)) hx hb dX2_fallsBelow_80 rfl ?_
            refine lv_iload_n hx hb dX2_fallsBelow_81 rfl (lv_at hl 6 rfl) ?_
            refine lv_iconst (v := (nI 1)) hx hb dX2_fallsBelow_82 rfl ?_
            refine rn_isub (x := t) (y := 1) hx hb (by omega) dX2_fallsBelow_83 ?_
            refine lv_iload hx hb dX2_fallsBelow_84 (lv_at hl 0 rfl) ?_
            refine rn_isub (x := t - 1) (y := cx + ((T 2 x) + (hd g T x))) hx hb (by omega) dX2_fallsBelow_86 ?_
            refine lv_aload_n hx hb dX2_fallsBelow_87 rfl (lv_at hl 4 rfl) ?_
            refine va_get (D := D) (ci := 2) (v := .int (nI P)) (C := RX2) (T := TX2) (N := 6) hx hb hts hinX2 hown hK hP 4 rfl rfl 4 (by decide) (hts (.fieldLink RX2 22 "OneNail$Orders" "period" "I") (by decide +kernel)) (fun _ h9 => h9) (congrArg (fun z => some (Value.int z)) (hPd)) dX2_fallsBelow_88 ?_
            refine rn_idiv (x := (t - 1) - (cx + ((T 2 x) + (hd g T x)))) (y := P) hx hb (by omega) (by omega) (by omega) dX2_fallsBelow_91 ?_
            refine rn_iadd (x := 1) (y := ((t - 1) - (cx + ((T 2 x) + (hd g T x)))) / P) hx hb dX2_fallsBelow_92 ?_
            refine rn_iadd (x := 1) (y := 1 + (((t - 1) - (cx + ((T 2 x) + (hd g T x)))) / P)) hx hb dX2_fallsBelow_93 ?_
            refine lv_istore (lv' := [(4, .int (nI (1 + (1 + (((t - 1) - (cx + ((T 2 x) + (hd g T x)))) / P))))), (6, .int (nI (cx + ((T 2 x) + (hd g T x))))), (5, .int (nI ((T 2 x) + (hd g T x)))), (3, .int (nI (hd g T x))), (0, .ref (r 4)), (1, .int (nI x)), (2, .int (nI t))]) hx hb dX2_fallsBelow_94 hl (by decide) rfl (fun ls hl => ?_)
            refine lv_iload hx hb dX2_fallsBelow_96 (lv_at hl 0 rfl) ?_
            exact wIret hx hb hr hlocks (v := (nI (1 + (1 + (((t - 1) - (cx + ((T 2 x) + (hd g T x)))) / P))))) (u, a, th, LP, tf) (⟨congrArg nI (by unfold fB; (repeat' split) <;> omega), rfl⟩) hK hP hD hS dX2_fallsBelow_98

set_option maxHeartbeats 4000000 in
set_option maxRecDepth 100000 in
theorem kX2_nothingEverFalls (l : Launch) (D : va_G) (cA : Nat → ClassId) (r : Nat → Nat) (sz : Nat) (u : Nat → Int32) (a : Nat → Nat → Int32) (th : Nat → Option Nat) (LP : List Nat) (tf : Nat → va_E) (tO : Nat) (g : Nat → Nat) (T : Nat → Nat → Nat) (ro : Nat → Nat) (L : Nat) (cf : Nat → Nat) (P : Nat) (hM : NT u a g T) (hB : TB g T) (hL : u 11 = nI L) (hL6 : L ≤ 6) (hro : ∀ k, k < L → a 23 k = nI (ro k)) (hrg : ∀ k, k < L → ro k < g 0) (hcm : ∀ k, k < L → a 24 (ro k) = nI (cf k)) (hcb : ∀ k, k < L → cf k ≤ 10000) (hPd : u 12 = nI P) (hPb : P ≤ 10000) : Met l yX2_nothingEverFalls wsX2_nothingEverFalls ({ frames := 0, cells := 0, slots := 0, locals := 0 } : Room) (va_Pc [.ref (r 4)] (wA D vwCl (tyA cA) (eO tO) (xN cA r) (u, a, th, LP, tf) sz)) (va_Qi (fun (v : Int32) (z : sN) => z = (u, a, th, LP, tf) ∧ ((v = nI 1 ∧ (∀ k, k < L → cf k ≤ hd g T (ro k) ∧ P ≤ T 2 (ro k) + hd g T (ro k))) ∨ (v = nI 0 ∧ ¬ (∀ k, k < L → cf k ≤ hd g T (ro k) ∧ P ≤ T 2 (ro k) + hd g T (ro k))))) (wB D vwCl (tyA cA) (xN cA r) (va_A (xN cA r (u, a, th, LP, tf)) sz)) (va_A (xN cA r (u, a, th, LP, tf)) sz)) 0 0 (va_A (xN cA r (u, a, th, LP, tf)) sz) := by
  refine Met.ofW (cc := cX2_nothingEverFalls) (maxL := 4) (ret := (some .boolean)) (by decide) rfl ?_
  intro p e s m args below meth c s₁ B hml hv
  obtain ⟨rfl, hsz, hP, hK, hD0, hE⟩ := hv
  have hx := B.exec
  have hb := B.bytes
  have hr := B.returns
  have hts := atoms_spec (ws := wsX2_nothingEverFalls) B.pre
  have hown : s.vm.findClass RX2 = some m.cls := findClass_of_methodNamed B.named
  have hlocks := B.notSynchronized
  subst hsz
  have hD := hD0.self (sz := s.heap.size)
  generalize hAe : va_A (xN cA r (u, a, th, LP, tf)) s.heap.size = A at hD hE ⊢
  have hA : ∀ q : Nat, s.heap.size ≤ q → A q := fun q h => by rw [← hAe]; exact Or.inr h
  have hS : va_S A s.heap s.heap [] := va_S.rf
  have hinX2 : ∀ w ∈ u_ws RX2 TX2 6, w ∈ wsX2_nothingEverFalls := by decide +kernel
  have hinX5 : ∀ w ∈ u_ws RX5 TX5 8, w ∈ wsX2_nothingEverFalls := by decide +kernel
  have hl := lv_entry ([.ref (r 4)]) (n := 4) (Nat.le_of_ble_eq_true rfl)
  rw [lg_entry_eq]
  generalize (lg_sl ([.ref (r 4)]) ++ List.replicate (4 - (lg_sl ([.ref (r 4)])).length) Slot.unset).toArray = ls at hl ⊢
  have hl : lv_has ls 4 [(0, .ref (r 4))] := hl
  have hg6 := hB.1
  refine lv_iconst (v := (nI 0)) hx hb dX2_nothingEverFalls_0 rfl ?_
  refine lv_istore_n (lv' := [(1, .int (nI 0)), (0, .ref (r 4))]) hx hb dX2_nothingEverFalls_1 rfl hl (by decide) rfl (fun ls hl => ?_)
  refine wLoop (τ := Nat) (fun z H locs ls => (fun (k : Nat) => (k ≤ L) ∧ (∀ j, j < k → cf j ≤ hd g T (ro j) ∧ P ≤ T 2 (ro j) + hd g T (ro j)) ∧ (va_P D vwCl (xN cA r (u, a, th, LP, tf)) H) ∧ (va_D A (xN cA r (u, a, th, LP, tf))) ∧ (va_S A s.heap H locs) ∧ (lv_has ls 4 [(1, .int (nI k)), (0, .ref (r 4))])) z) (fun z => (fun (k : Nat) => L - k) z) (0) ⟨(show 0 ≤ L from Nat.zero_le _), (show ∀ j, j < 0 → cf j ≤ hd g T (ro j) ∧ P ≤ T 2 (ro j) + hd g T (ro j) from (fun j h => absurd h (Nat.not_lt_zero j))), hP, hD, hS, lv_sub hl [0, 1] rfl⟩ ?_
  rintro k H locs ls ⟨hk, hal, hP, hD, hS, hl⟩ ih2
  have hk : k ≤ L := hk
  have hal : ∀ j, j < k → cf j ≤ hd g T (ro j) ∧ P ≤ T 2 (ro j) + hd g T (ro j) := hal
  have hP : va_P D vwCl (xN cA r (u, a, th, LP, tf)) H := hP
  have hD : va_D A (xN cA r (u, a, th, LP, tf)) := hD
  have hl : lv_has ls 4 [(1, .int (nI k)), (0, .ref (r 4))] := hl
  refine lv_iload_n hx hb dX2_nothingEverFalls_2 rfl (lv_at hl 0 rfl) ?_
  refine lv_aload_n hx hb dX2_nothingEverFalls_3 rfl (lv_at hl 1 rfl) ?_
  refine va_get (D := D) (ci := 2) (v := .int (nI L)) (C := RX2) (T := TX2) (N := 6) hx hb hts hinX2 hown hK hP 4 rfl rfl 2 (by decide) (hts (.fieldLink RX2 15 "OneNail$Orders" "length" "I") (by decide +kernel)) (fun _ h9 => h9) (congrArg (fun z => some (Value.int z)) (hL)) dX2_nothingEverFalls_4 ?_
  refine rn_ge (x := k) (y := L) (tgt := 63) hx hb (by omega) (by omega) dX2_nothingEverFalls_7 (by decide) (fun c_1 => ?_) (fun c_1 => ?_)
  · refine lv_iconst (v := (nI 1)) hx hb dX2_nothingEverFalls_63 rfl ?_
    exact wZret hx hb hr hlocks (v := (nI 1)) (by first | exact Or.inl rfl | exact Or.inr rfl) (u, a, th, LP, tf) (⟨rfl, Or.inl ⟨rfl, fun j hj => hal j (by omega)⟩⟩) hK hP hD hS dX2_nothingEverFalls_64
  · have hrk := hrg k (by omega)
    have hTk := hB.2.2.2 _ hrk
    have hdk := hd_le hB hrk
    have hck := hcb k (by omega)
    refine lv_aload_n hx hb dX2_nothingEverFalls_10 rfl (lv_at hl 1 rfl) ?_
    refine va_get (D := D) (ci := 2) (v := .ref (r 23)) (C := RX2) (T := TX2) (N := 6) hx hb hts hinX2 hown hK hP 4 rfl rfl 1 (by decide) (hts (.fieldLink RX2 9 "OneNail$Orders" "row" "[I") (by decide +kernel)) (fun _ h9 => h9) rfl dX2_nothingEverFalls_11 ?_
    refine lv_iload_n hx hb dX2_nothingEverFalls_14 rfl (lv_at hl 0 rfl) ?_
    refine ra_iald hx hb hK hP 23 0 (n := 6) (f := (a 23)) (j := k) (v := (nI (ro k))) rfl rfl (by omega) (by decide) (hro (k) (by omega)) dX2_nothingEverFalls_15 ?_
    refine lv_istore_n (lv' := [(2, .int (nI (ro k))), (1, .int (nI k)), (0, .ref (r 4))]) hx hb dX2_nothingEverFalls_16 rfl hl (by decide) rfl (fun ls hl => ?_)
    refine lv_aload_n hx hb dX2_nothingEverFalls_17 rfl (lv_at hl 2 rfl) ?_
    refine va_get (D := D) (ci := 2) (v := .ref (r 1)) (C := RX2) (T := TX2) (N := 6) hx hb hts hinX2 hown hK hP 4 rfl rfl 0 (by decide) (hts (.fieldLink RX2 28 "OneNail$Orders" "town" "LOneNail$Street;") (by decide +kernel)) (fun _ h9 => h9) rfl dX2_nothingEverFalls_18 ?_
    refine va_get (D := D) (ci := 5) (v := .ref (r 16)) (C := RX5) (T := TX5) (N := 8) hx hb hts hinX5 hown hK hP 1 rfl rfl 7 (by decide) (hts (.fieldLink RX2 91 "OneNail$Street" "holds" "[I") (by decide +kernel)) (fun _ h9 => h9) rfl dX2_nothingEverFalls_21 ?_
    refine lv_iload_n hx hb dX2_nothingEverFalls_24 rfl (lv_at hl 0 rfl) ?_
    refine ra_iald hx hb hK hP 16 0 (n := 6) (f := (a 16)) (j := ro k) (v := (nI (hd g T (ro k)))) rfl rfl (by omega) (by decide) ((hM.2 (ro k) (by omega)).2.2.2) dX2_nothingEverFalls_25 ?_
    refine lv_istore_n (lv' := [(3, .int (nI (hd g T (ro k)))), (2, .int (nI (ro k))), (1, .int (nI k)), (0, .ref (r 4))]) hx hb dX2_nothingEverFalls_26 rfl hl (by decide) rfl (fun ls hl => ?_)
    refine lv_iload_n hx hb dX2_nothingEverFalls_27 rfl (lv_at hl 0 rfl) ?_
    refine lv_aload_n hx hb dX2_nothingEverFalls_28 rfl (lv_at hl 3 rfl) ?_
    refine va_get (D := D) (ci := 2) (v := .ref (r 24)) (C := RX2) (T := TX2) (N := 6) hx hb hts hinX2 hown hK hP 4 rfl rfl 3 (by decide) (hts (.fieldLink RX2 19 "OneNail$Orders" "comes" "[I") (by decide +kernel)) (fun _ h9 => h9) rfl dX2_nothingEverFalls_29 ?_
    refine lv_iload_n hx hb dX2_nothingEverFalls_32 rfl (lv_at hl 1 rfl) ?_
    refine ra_iald hx hb hK hP 24 0 (n := 6) (f := (a 24)) (j := ro k) (v := (nI (cf k))) rfl rfl (by omega) (by decide) (hcm k (by omega)) dX2_nothingEverFalls_33 ?_
    refine rn_lt (x := hd g T (ro k)) (y := cf k) (tgt := 55) hx hb (by omega) (by omega) dX2_nothingEverFalls_34 (by decide) (fun c_2 => ?_) (fun c_2 => ?_)
    · refine lv_iconst (v := (nI 0)) hx hb dX2_nothingEverFalls_55 rfl ?_
      exact wZret hx hb hr hlocks (v := (nI 0)) (by first | exact Or.inl rfl | exact Or.inr rfl) (u, a, th, LP, tf) (⟨rfl, Or.inr ⟨rfl, fun q => by have := q k (by omega); omega⟩⟩) hK hP hD hS dX2_nothingEverFalls_56
    · refine lv_aload_n hx hb dX2_nothingEverFalls_37 rfl (lv_at hl 3 rfl) ?_
      refine va_get (D := D) (ci := 2) (v := .ref (r 1)) (C := RX2) (T := TX2) (N := 6) hx hb hts hinX2 hown hK hP 4 rfl rfl 0 (by decide) (hts (.fieldLink RX2 28 "OneNail$Orders" "town" "LOneNail$Street;") (by decide +kernel)) (fun _ h9 => h9) rfl dX2_nothingEverFalls_38 ?_
      refine va_get (D := D) (ci := 5) (v := .ref (r 14)) (C := RX5) (T := TX5) (N := 8) hx hb hts hinX5 hown hK hP 1 rfl rfl 5 (by decide) (hts (.fieldLink RX2 82 "OneNail$Street" "stays" "[I") (by decide +kernel)) (fun _ h9 => h9) rfl dX2_nothingEverFalls_41 ?_
      refine lv_iload_n hx hb dX2_nothingEverFalls_44 rfl (lv_at hl 1 rfl) ?_
      refine ra_iald hx hb hK hP 14 0 (n := 6) (f := (a 14)) (j := ro k) (v := (nI (T 2 (ro k)))) rfl rfl (by omega) (by decide) ((hM.2 (ro k) (by omega)).2.1) dX2_nothingEverFalls_45 ?_
      refine lv_iload_n hx hb dX2_nothingEverFalls_46 rfl (lv_at hl 0 rfl) ?_
      refine rn_iadd (x := T 2 (ro k)) (y := hd g T (ro k)) hx hb dX2_nothingEverFalls_47 ?_
      refine lv_aload_n hx hb dX2_nothingEverFalls_48 rfl (lv_at hl 3 rfl) ?_
      refine va_get (D := D) (ci := 2) (v := .int (nI P)) (C := RX2) (T := TX2) (N := 6) hx hb hts hinX2 hown hK hP 4 rfl rfl 4 (by decide) (hts (.fieldLink RX2 22 "OneNail$Orders" "period" "I") (by decide +kernel)) (fun _ h9 => h9) (congrArg (fun z => some (Value.int z)) (hPd)) dX2_nothingEverFalls_49 ?_
      refine rn_ge (x := (T 2 (ro k)) + (hd g T (ro k))) (y := P) (tgt := 57) hx hb (by omega) (by omega) dX2_nothingEverFalls_52 (by decide) (fun c_3 => ?_) (fun c_3 => ?_)
      · refine rn_iinc (x := k) (d := 1) (lv' := [(1, .int (nI (k + 1))), (3, .int (nI (hd g T (ro k)))), (2, .int (nI (ro k))), (0, .ref (r 4))]) hx hb rfl dX2_nothingEverFalls_57 hl (k := 2) rfl (by decide) rfl (fun ls hl => ?_)
        refine lv_goto (tgt := 2) hx hb dX2_nothingEverFalls_60 (by decide) ?_
        exact ih2 ((k + 1)) _ _ _ (show L - (k + 1) < L - k from by omega) ⟨(show (k + 1) ≤ L from by omega), (show ∀ j, j < (k + 1) → cf j ≤ hd g T (ro j) ∧ P ≤ T 2 (ro j) + hd g T (ro j) from (lt_s (p := fun j => cf j ≤ hd g T (ro j) ∧ P ≤ T 2 (ro j) + hd g T (ro j)) hal ⟨by omega, by omega⟩)), hP, hD, hS, lv_sub hl [0, 3] rfl⟩
      · refine lv_iconst (v := (nI 0)) hx hb dX2_nothingEverFalls_55 rfl ?_
        exact wZret hx hb hr hlocks (v := (nI 0)) (by first | exact Or.inl rfl | exact Or.inr rfl) (u, a, th, LP, tf) (⟨rfl, Or.inr ⟨rfl, fun q => by have := q k (by omega); omega⟩⟩) hK hP hD hS dX2_nothingEverFalls_56

set_option maxHeartbeats 4000000 in
set_option maxRecDepth 100000 in
theorem kX2_isUp (l : Launch) (D : va_G) (cA : Nat → ClassId) (r : Nat → Nat) (sz : Nat) (u : Nat → Int32) (a : Nat → Nat → Int32) (th : Nat → Option Nat) (LP : List Nat) (tf : Nat → va_E) (tO : Nat) (g : Nat → Nat) (T : Nat → Nat → Nat) (x w cx P : Nat) (hM : NT u a g T) (hB : TB g T) (hcx : a 24 x = nI cx) (hcb : cx ≤ 10000) (hPd : u 12 = nI P) (hPb : P ≤ 10000) (hP0 : 0 < P) (hx0 : x < g 0) (hw3 : w < 300) : Met l yX2_isUp wsX2_isUp ({ frames := 0, cells := 0, slots := 0, locals := 0 } : Room) (va_Pc [.ref (r 4), .int (nI x), .int (nI w)] (wA D vwCl (tyA cA) (eO tO) (xN cA r) (u, a, th, LP, tf) sz)) (va_Qi (fun (v : Int32) (z : sN) => z = (u, a, th, LP, tf) ∧ ((v = nI 1 ∧ (if w < cx then w < hd g T x else (w - cx) % P < T 2 x + hd g T x)) ∨ (v = nI 0 ∧ ¬ (if w < cx then w < hd g T x else (w - cx) % P < T 2 x + hd g T x)))) (wB D vwCl (tyA cA) (xN cA r) (va_A (xN cA r (u, a, th, LP, tf)) sz)) (va_A (xN cA r (u, a, th, LP, tf)) sz)) 0 0 (va_A (xN cA r (u, a, th, LP, tf)) sz) := by
  refine Met.ofW (cc := cX2_isUp) (maxL := 4) (ret := (some .boolean)) (by decide) rfl ?_
  intro p e s m args below meth c s₁ B hml hv
  obtain ⟨rfl, hsz, hP, hK, hD0, hE⟩ := hv
  have hx := B.exec
  have hb := B.bytes
  have hr := B.returns
  have hts := atoms_spec (ws := wsX2_isUp) B.pre
  have hown : s.vm.findClass RX2 = some m.cls := findClass_of_methodNamed B.named
  have hlocks := B.notSynchronized
  subst hsz
  have hD := hD0.self (sz := s.heap.size)
  generalize hAe : va_A (xN cA r (u, a, th, LP, tf)) s.heap.size = A at hD hE ⊢
  have hA : ∀ q : Nat, s.heap.size ≤ q → A q := fun q h => by rw [← hAe]; exact Or.inr h
  have hS : va_S A s.heap s.heap [] := va_S.rf
  have hinX2 : ∀ w ∈ u_ws RX2 TX2 6, w ∈ wsX2_isUp := by decide +kernel
  have hinX5 : ∀ w ∈ u_ws RX5 TX5 8, w ∈ wsX2_isUp := by decide +kernel
  have hl := lv_entry ([.ref (r 4), .int (nI x), .int (nI w)]) (n := 4) (Nat.le_of_ble_eq_true rfl)
  rw [lg_entry_eq]
  generalize (lg_sl ([.ref (r 4), .int (nI x), .int (nI w)]) ++ List.replicate (4 - (lg_sl ([.ref (r 4), .int (nI x), .int (nI w)])).length) Slot.unset).toArray = ls at hl ⊢
  have hl : lv_has ls 4 [(0, .ref (r 4)), (1, .int (nI x)), (2, .int (nI w))] := hl
  have hg6 := hB.1
  have hTx := hB.2.2.2 x hx0
  have hdx := hd_le hB hx0
  refine lv_iload_n hx hb dX2_isUp_0 rfl (lv_at hl 2 rfl) ?_
  refine lv_aload_n hx hb dX2_isUp_1 rfl (lv_at hl 0 rfl) ?_
  refine va_get (D := D) (ci := 2) (v := .ref (r 24)) (C := RX2) (T := TX2) (N := 6) hx hb hts hinX2 hown hK hP 4 rfl rfl 3 (by decide) (hts (.fieldLink RX2 19 "OneNail$Orders" "comes" "[I") (by decide +kernel)) (fun _ h9 => h9) rfl dX2_isUp_2 ?_
  refine lv_iload_n hx hb dX2_isUp_5 rfl (lv_at hl 1 rfl) ?_
  refine ra_iald hx hb hK hP 24 0 (n := 6) (f := (a 24)) (j := x) (v := (nI cx)) rfl rfl (by omega) (by decide) (hcx) dX2_isUp_6 ?_
  refine lv_isub hx hb dX2_isUp_7 ?_
  rcases Nat.lt_or_ge w cx with hwc | hwc
  · have hneg : ¬ 0 ≤ nI w - nI cx := Int32.not_le.mpr (pk_sneg (by omega) hwc)
    refine lv_istore_n (lv' := [(3, .int ((nI w) - (nI cx))), (0, .ref (r 4)), (1, .int (nI x)), (2, .int (nI w))]) hx hb dX2_isUp_8 rfl hl (by decide) rfl (fun ls hl => ?_)
    refine lv_iload_n hx hb dX2_isUp_9 rfl (lv_at hl 0 rfl) ?_
    refine lv_if_ge (tgt := 32) hx hb dX2_isUp_10 (by decide) (fun c_1 => absurd c_1 (hneg)) (fun c_1 => ?_)
    refine lv_iload_n hx hb dX2_isUp_13 rfl (lv_at hl 3 rfl) ?_
    refine lv_aload_n hx hb dX2_isUp_14 rfl (lv_at hl 1 rfl) ?_
    refine va_get (D := D) (ci := 2) (v := .ref (r 1)) (C := RX2) (T := TX2) (N := 6) hx hb hts hinX2 hown hK hP 4 rfl rfl 0 (by decide) (hts (.fieldLink RX2 28 "OneNail$Orders" "town" "LOneNail$Street;") (by decide +kernel)) (fun _ h9 => h9) rfl dX2_isUp_15 ?_
    refine va_get (D := D) (ci := 5) (v := .ref (r 16)) (C := RX5) (T := TX5) (N := 8) hx hb hts hinX5 hown hK hP 1 rfl rfl 7 (by decide) (hts (.fieldLink RX2 91 "OneNail$Street" "holds" "[I") (by decide +kernel)) (fun _ h9 => h9) rfl dX2_isUp_18 ?_
    refine lv_iload_n hx hb dX2_isUp_21 rfl (lv_at hl 2 rfl) ?_
    refine ra_iald hx hb hK hP 16 0 (n := 6) (f := (a 16)) (j := x) (v := (nI (hd g T x))) rfl rfl (by omega) (by decide) ((hM.2 (x) (by omega)).2.2.2) dX2_isUp_22 ?_
    refine rn_ge (x := w) (y := hd g T x) (tgt := 30) hx hb (by omega) (by omega) dX2_isUp_23 (by decide) (fun c_2 => ?_) (fun c_2 => ?_)
    · refine lv_iconst (v := (nI 0)) hx hb dX2_isUp_30 rfl ?_
      exact wZret hx hb hr hlocks (v := (nI 0)) (by first | exact Or.inl rfl | exact Or.inr rfl) (u, a, th, LP, tf) (⟨rfl, by first | exact Or.inl ⟨rfl, by first | (rw [if_pos (by omega)]; omega) | (rw [if_neg (by omega)]; omega)⟩ | exact Or.inr ⟨rfl, by first | (rw [if_pos (by omega)]; omega) | (rw [if_neg (by omega)]; omega)⟩⟩) hK hP hD hS dX2_isUp_31
    · refine lv_iconst (v := (nI 1)) hx hb dX2_isUp_26 rfl ?_
      refine lv_goto (tgt := 31) hx hb dX2_isUp_27 (by decide) ?_
      exact wZret hx hb hr hlocks (v := (nI 1)) (by first | exact Or.inl rfl | exact Or.inr rfl) (u, a, th, LP, tf) (⟨rfl, by first | exact Or.inl ⟨rfl, by first | (rw [if_pos (by omega)]; omega) | (rw [if_neg (by omega)]; omega)⟩ | exact Or.inr ⟨rfl, by first | (rw [if_pos (by omega)]; omega) | (rw [if_neg (by omega)]; omega)⟩⟩) hK hP hD hS dX2_isUp_31
  · refine lv_topi (fun y_3 ey_3 => ?_)
    obtain rfl : y_3 = (nI (w - cx)) := ey_3.trans (pk_sub hwc)
    refine lv_istore_n (lv' := [(3, .int (nI (w - cx))), (0, .ref (r 4)), (1, .int (nI x)), (2, .int (nI w))]) hx hb dX2_isUp_8 rfl hl (by decide) rfl (fun ls hl => ?_)
    refine lv_iload_n hx hb dX2_isUp_9 rfl (lv_at hl 0 rfl) ?_
    refine rz_ge (x := w - cx) (tgt := 32) hx hb (by omega) dX2_isUp_10 (by decide) ?_
    refine lv_aload_n hx hb dX2_isUp_32 rfl (lv_at hl 1 rfl) ?_
    refine va_get (D := D) (ci := 2) (v := .int (nI P)) (C := RX2) (T := TX2) (N := 6) hx hb hts hinX2 hown hK hP 4 rfl rfl 4 (by decide) (hts (.fieldLink RX2 22 "OneNail$Orders" "period" "I") (by decide +kernel)) (fun _ h9 => h9) (congrArg (fun z => some (Value.int z)) (hPd)) dX2_isUp_33 ?_
    refine rz_le (x := P) (tgt := 71) hx hb (by omega) dX2_isUp_36 (by decide) (fun c_5 => ?_) (fun c_5 => ?_)
    · refine lv_iconst (v := (nI 0)) hx hb dX2_isUp_71 rfl ?_
      exact wZret hx hb hr hlocks (v := (nI 0)) (by first | exact Or.inl rfl | exact Or.inr rfl) (u, a, th, LP, tf) (⟨rfl, by first | exact Or.inl ⟨rfl, by first | (rw [if_pos (by omega)]; omega) | (rw [if_neg (by omega)]; omega)⟩ | exact Or.inr ⟨rfl, by first | (rw [if_pos (by omega)]; omega) | (rw [if_neg (by omega)]; omega)⟩⟩) hK hP hD hS dX2_isUp_72
    · have hmdl := Nat.mod_lt (w - cx) hP0
      refine lv_iload_n hx hb dX2_isUp_39 rfl (lv_at hl 0 rfl) ?_
      refine lv_aload_n hx hb dX2_isUp_40 rfl (lv_at hl 1 rfl) ?_
      refine va_get (D := D) (ci := 2) (v := .int (nI P)) (C := RX2) (T := TX2) (N := 6) hx hb hts hinX2 hown hK hP 4 rfl rfl 4 (by decide) (hts (.fieldLink RX2 22 "OneNail$Orders" "period" "I") (by decide +kernel)) (fun _ h9 => h9) (congrArg (fun z => some (Value.int z)) (hPd)) dX2_isUp_41 ?_
      refine rn_irem (x := w - cx) (y := P) hx hb (by omega) (by omega) (by omega) dX2_isUp_44 ?_
      refine lv_aload_n hx hb dX2_isUp_45 rfl (lv_at hl 1 rfl) ?_
      refine va_get (D := D) (ci := 2) (v := .ref (r 1)) (C := RX2) (T := TX2) (N := 6) hx hb hts hinX2 hown hK hP 4 rfl rfl 0 (by decide) (hts (.fieldLink RX2 28 "OneNail$Orders" "town" "LOneNail$Street;") (by decide +kernel)) (fun _ h9 => h9) rfl dX2_isUp_46 ?_
      refine va_get (D := D) (ci := 5) (v := .ref (r 14)) (C := RX5) (T := TX5) (N := 8) hx hb hts hinX5 hown hK hP 1 rfl rfl 5 (by decide) (hts (.fieldLink RX2 82 "OneNail$Street" "stays" "[I") (by decide +kernel)) (fun _ h9 => h9) rfl dX2_isUp_49 ?_
      refine lv_iload_n hx hb dX2_isUp_52 rfl (lv_at hl 2 rfl) ?_
      refine ra_iald hx hb hK hP 14 0 (n := 6) (f := (a 14)) (j := x) (v := (nI (T 2 x))) rfl rfl (by omega) (by decide) ((hM.2 (x) (by omega)).2.1) dX2_isUp_53 ?_
      refine lv_aload_n hx hb dX2_isUp_54 rfl (lv_at hl 1 rfl) ?_
      refine va_get (D := D) (ci := 2) (v := .ref (r 1)) (C := RX2) (T := TX2) (N := 6) hx hb hts hinX2 hown hK hP 4 rfl rfl 0 (by decide) (hts (.fieldLink RX2 28 "OneNail$Orders" "town" "LOneNail$Street;") (by decide +kernel)) (fun _ h9 => h9) rfl dX2_isUp_55 ?_
      refine va_get (D := D) (ci := 5) (v := .ref (r 16)) (C := RX5) (T := TX5) (N := 8) hx hb hts hinX5 hown hK hP 1 rfl rfl 7 (by decide) (hts (.fieldLink RX2 91 "OneNail$Street" "holds" "[I") (by decide +kernel)) (fun _ h9 => h9) rfl dX2_isUp_58 ?_
      refine lv_iload_n hx hb dX2_isUp_61 rfl (lv_at hl 2 rfl) ?_
      refine ra_iald hx hb hK hP 16 0 (n := 6) (f := (a 16)) (j := x) (v := (nI (hd g T x))) rfl rfl (by omega) (by decide) ((hM.2 (x) (by omega)).2.2.2) dX2_isUp_62 ?_
      refine rn_iadd (x := T 2 x) (y := hd g T x) hx hb dX2_isUp_63 ?_
      refine rn_ge (x := (w - cx) % P) (y := (T 2 x) + (hd g T x)) (tgt := 71) hx hb (by omega) (by omega) dX2_isUp_64 (by decide) (fun c_6 => ?_) (fun c_6 => ?_)
      · refine lv_iconst (v := (nI 0)) hx hb dX2_isUp_71 rfl ?_
        exact wZret hx hb hr hlocks (v := (nI 0)) (by first | exact Or.inl rfl | exact Or.inr rfl) (u, a, th, LP, tf) (⟨rfl, by first | exact Or.inl ⟨rfl, by first | (rw [if_pos (by omega)]; omega) | (rw [if_neg (by omega)]; omega)⟩ | exact Or.inr ⟨rfl, by first | (rw [if_pos (by omega)]; omega) | (rw [if_neg (by omega)]; omega)⟩⟩) hK hP hD hS dX2_isUp_72
      · refine lv_iconst (v := (nI 1)) hx hb dX2_isUp_67 rfl ?_
        refine lv_goto (tgt := 72) hx hb dX2_isUp_68 (by decide) ?_
        exact wZret hx hb hr hlocks (v := (nI 1)) (by first | exact Or.inl rfl | exact Or.inr rfl) (u, a, th, LP, tf) (⟨rfl, by first | exact Or.inl ⟨rfl, by first | (rw [if_pos (by omega)]; omega) | (rw [if_neg (by omega)]; omega)⟩ | exact Or.inr ⟨rfl, by first | (rw [if_pos (by omega)]; omega) | (rw [if_neg (by omega)]; omega)⟩⟩) hK hP hD hS dX2_isUp_72
