set_option maxHeartbeats 4000000 in
set_option maxRecDepth 100000 in
theorem kX10_firstOrder (l : Launch) (D : va_G) (cA : Nat → ClassId) (r : Nat → Nat) (sz : Nat) (u : Nat → Int32) (a : Nat → Nat → Int32) (g : Nat → Nat) (T : Nat → Nat → Nat) (S : Nat) (hM : MT u a g T) (hB : TB g T) (hS64 : S < 64) : Met l yX10_firstOrder wsX10_firstOrder ({ frames := 0, cells := 0, slots := 0, locals := 0 } : Room) (va_Pc [.ref (r 0), .int (nI S)] (wA D vwCl (tyA cA) e0 (xM cA r) (u, a) sz)) (va_Qv (fun (z : sM) => z.1 22 = nI (ol S (g 0)) ∧ (∀ k, k < ol S (g 0) → z.2 21 k = nI (of1 S (g 0) k)) ∧ (∀ i, i ≠ 22 → z.1 i = u i) ∧ (∀ i, i ≠ 21 → z.2 i = a i)) (wB D vwCl (tyA cA) (xM cA r) (va_A (xM cA r (u, a)) sz)) (va_A (xM cA r (u, a)) sz)) 0 0 (va_A (xM cA r (u, a)) sz) := by
  refine Met.ofW (cc := cX10_firstOrder) (maxL := 3) (ret := none) (by decide) rfl ?_
  intro p e s m args below meth c s₁ B hml hv
  obtain ⟨rfl, hsz, hP, hK, hD0, hE⟩ := hv
  have hx := B.exec
  have hb := B.bytes
  have hr := B.returns
  have hts := atoms_spec (ws := wsX10_firstOrder) B.pre
  have hown : s.vm.findClass RX10 = some m.cls := findClass_of_methodNamed B.named
  have hlocks := B.notSynchronized
  subst hsz
  have hD := hD0.self (sz := s.heap.size)
  generalize hAe : va_A (xM cA r (u, a)) s.heap.size = A at hD hE ⊢
  have hA : ∀ q : Nat, s.heap.size ≤ q → A q := fun q h => by rw [← hAe]; exact Or.inr h
  have hS : va_S A s.heap s.heap [] := va_S.rf
  have hinX10 : ∀ w ∈ u_ws RX10 TX10 34, w ∈ wsX10_firstOrder := by decide +kernel
  have hl := lv_entry ([.ref (r 0), .int (nI S)]) (n := 3) (Nat.le_of_ble_eq_true rfl)
  rw [lg_entry_eq]
  generalize (lg_sl ([.ref (r 0), .int (nI S)]) ++ List.replicate (3 - (lg_sl ([.ref (r 0), .int (nI S)])).length) Slot.unset).toArray = ls at hl ⊢
  have hl : lv_has ls 3 [(0, .ref (r 0)), (1, .int (nI S))] := hl
  have hg6 := hB.1
  refine lv_aload_n hx hb dX10_firstOrder_0 rfl (lv_at hl 0 rfl) ?_
  refine lv_iconst (v := (nI 0)) hx hb dX10_firstOrder_1 rfl ?_
  refine va_put (D := D) (ci := 10) (v := .int (nI 0)) (ty := .int) (C := RX10) (T := TX10) (N := 34) hx hb hts hinX10 tyX10 tyX10_ok nmX10 hown hK hP hD hS 0 rfl rfl 22 (by decide) (hts (.fieldLink RX10 145 "OneNailModel" "rowLong" "I") (by decide +kernel)) (fun _ h9 => h9) rfl (by decide +kernel) rfl rfl (Nat.le_of_ble_eq_true rfl) dX10_firstOrder_2 (fun H locs hP hD hS => ?_)
  have hP : va_P D vwCl (xM cA r ((upd u 22 (nI 0)), a)) H := hP
  have hD : va_D A (xM cA r ((upd u 22 (nI 0)), a)) := hD
  refine lv_iconst (v := (nI 0)) hx hb dX10_firstOrder_5 rfl ?_
  refine lv_istore_n (lv' := [(2, .int (nI 0)), (0, .ref (r 0)), (1, .int (nI S))]) hx hb dX10_firstOrder_6 rfl hl (by decide) rfl (fun ls hl => ?_)
  refine wLoop (τ := Nat × (Nat → Int32) × (Nat → Nat → Int32)) (fun z H locs ls => (fun (x : Nat) (u1007 : (Nat → Int32)) (a1007 : (Nat → Nat → Int32)) => (x ≤ g 0) ∧ (u1007 22 = nI (ol S x)) ∧ (∀ k, k < ol S x → a1007 21 k = nI (of1 S x k)) ∧ (∀ i : Nat, i ≠ 22 → u1007 i = u i) ∧ (∀ i : Nat, i ≠ 21 → a1007 i = a i) ∧ (va_P D vwCl (xM cA r (u1007, a1007)) H) ∧ (va_D A (xM cA r (u1007, a1007))) ∧ (va_S A s.heap H locs) ∧ (lv_has ls 3 [(2, .int (nI x)), (0, .ref (r 0)), (1, .int (nI S))])) z.1 z.2.1 z.2.2) (fun z => (fun (x : Nat) (u1007 : (Nat → Int32)) (a1007 : (Nat → Nat → Int32)) => g 0 - x) z.1 z.2.1 z.2.2) (0, (upd u 22 (nI 0)), a) ⟨(show 0 ≤ g 0 from Nat.zero_le _), (show (upd u 22 (nI 0)) 22 = nI (ol S 0) from rfl), (show ∀ k, k < ol S 0 → a 21 k = nI (of1 S 0 k) from (fun k h => absurd h (Nat.not_lt_zero k))), (fun i h22 => up_ne h22), (fun i h21 => rfl), hP, hD, hS, lv_sub hl [0, 1, 2] rfl⟩ ?_
  rintro ⟨x, u1007, a1007⟩ H locs ls ⟨hx1, hu22, hrow, hfu7, hfa7, hP, hD, hS, hl⟩ ih7
  have hx1 : x ≤ g 0 := hx1
  have hu22 : u1007 22 = nI (ol S x) := hu22
  have hrow : ∀ k, k < ol S x → a1007 21 k = nI (of1 S x k) := hrow
  have hfu7 : ∀ i : Nat, i ≠ 22 → u1007 i = u i := hfu7
  have hfa7 : ∀ i : Nat, i ≠ 21 → a1007 i = a i := hfa7
  have hP : va_P D vwCl (xM cA r (u1007, a1007)) H := hP
  have hD : va_D A (xM cA r (u1007, a1007)) := hD
  have hl : lv_has ls 3 [(2, .int (nI x)), (0, .ref (r 0)), (1, .int (nI S))] := hl
  refine lv_iload_n hx hb dX10_firstOrder_7 rfl (lv_at hl 0 rfl) ?_
  refine lv_aload_n hx hb dX10_firstOrder_8 rfl (lv_at hl 1 rfl) ?_
  refine va_get (D := D) (ci := 10) (v := .int (nI (g 0))) (C := RX10) (T := TX10) (N := 34) hx hb hts hinX10 hown hK hP 0 rfl rfl 5 (by decide) (hts (.fieldLink RX10 90 "OneNailModel" "things" "I") (by decide +kernel)) (fun _ h9 => h9) (congrArg (fun z => some (Value.int z)) ((hfu7 5 (by decide)).trans (hM.1))) dX10_firstOrder_9 ?_
  refine rn_ge (x := x) (y := g 0) (tgt := 50) hx hb (by omega) (by omega) dX10_firstOrder_12 (by decide) (fun c_1 => ?_) (fun c_1 => ?_)
  · have hxe : x = g 0 := by omega
    exact wVret hx hb hr hlocks (u1007, a1007) (⟨by rw [← hxe]; exact hu22, by rw [← hxe]; exact hrow, (fun i h22 => hfu7 i h22), (fun i h21 => hfa7 i h21)⟩) hK hP hD hS dX10_firstOrder_50
  · have hbx := bi_lt S x
    have holx := ol_le S x
    refine lv_iload_n hx hb dX10_firstOrder_15 rfl (lv_at hl 2 rfl) ?_
    refine lv_iload_n hx hb dX10_firstOrder_16 rfl (lv_at hl 0 rfl) ?_
    refine lv_ishr hx hb dX10_firstOrder_17 ?_
    refine lv_iconst (v := (nI 1)) hx hb dX10_firstOrder_18 rfl ?_
    refine lv_iand hx hb dX10_firstOrder_19 ?_
    refine lv_topi (fun y_2 ey_2 => ?_)
    obtain rfl : y_2 = (nI (bi S x)) := ey_2.trans (bi_row S hS64 x (by omega))
    refine lv_iconst (v := (nI 1)) hx hb dX10_firstOrder_20 rfl ?_
    refine rn_ne (x := bi S x) (y := 1) (tgt := 44) hx hb (by omega) (by omega) dX10_firstOrder_21 (by decide) (fun c_3 => ?_) (fun c_3 => ?_)
    · refine rn_iinc (x := x) (d := 1) (lv' := [(2, .int (nI (x + 1))), (0, .ref (r 0)), (1, .int (nI S))]) hx hb rfl dX10_firstOrder_44 hl (k := 0) rfl (by decide) rfl (fun ls hl => ?_)
      refine lv_goto (tgt := 7) hx hb dX10_firstOrder_47 (by decide) ?_
      exact ih7 ((x + 1), u1007, a1007) _ _ _ (show g 0 - (x + 1) < g 0 - x from by omega) ⟨(show (x + 1) ≤ g 0 from by omega), (show u1007 22 = nI (ol S (x + 1)) from (hu22.trans (congrArg nI (by rw [ol, if_neg (by omega)])))), (show ∀ k, k < ol S (x + 1) → a1007 21 k = nI (of1 S (x + 1) k) from (of_keep hrow (by omega))), (fun i h22 => hfu7 i h22), (fun i h21 => hfa7 i h21), hP, hD, hS, lv_sub hl [0, 1, 2] rfl⟩
    · refine lv_aload_n hx hb dX10_firstOrder_24 rfl (lv_at hl 1 rfl) ?_
      refine va_get (D := D) (ci := 10) (v := .ref (r 21)) (C := RX10) (T := TX10) (N := 34) hx hb hts hinX10 hown hK hP 0 rfl rfl 21 (by decide) (hts (.fieldLink RX10 49 "OneNailModel" "row" "[I") (by decide +kernel)) (fun _ h9 => h9) rfl dX10_firstOrder_25 ?_
      refine lv_aload_n hx hb dX10_firstOrder_28 rfl (lv_at hl 1 rfl) ?_
      refine va_get (D := D) (ci := 10) (v := .int (nI (ol S x))) (C := RX10) (T := TX10) (N := 34) hx hb hts hinX10 hown hK hP 0 rfl rfl 22 (by decide) (hts (.fieldLink RX10 145 "OneNailModel" "rowLong" "I") (by decide +kernel)) (fun _ h9 => h9) (congrArg (fun z => some (Value.int z)) (hu22)) dX10_firstOrder_29 ?_
      refine lv_iload_n hx hb dX10_firstOrder_32 rfl (lv_at hl 0 rfl) ?_
      refine ra_iast hx hb hK hP hD hS 14 0 (n := 8) (f := (a1007 21)) (j := ol S x) (x := (nI x)) rfl rfl (by omega) (by decide) dX10_firstOrder_33 (fun H locs hP hD hS => ?_)
      have hP : va_P D vwCl (xM cA r (u1007, (va_up a1007 21 (upd (a1007 21) (ol S x) (nI x))))) H := hP
      have hD : va_D A (xM cA r (u1007, (va_up a1007 21 (upd (a1007 21) (ol S x) (nI x))))) := hD
      refine lv_aload_n hx hb dX10_firstOrder_34 rfl (lv_at hl 1 rfl) ?_
      refine lv_dup hx hb dX10_firstOrder_35 rfl ?_
      refine va_get (D := D) (ci := 10) (v := .int (nI (ol S x))) (C := RX10) (T := TX10) (N := 34) hx hb hts hinX10 hown hK hP 0 rfl rfl 22 (by decide) (hts (.fieldLink RX10 145 "OneNailModel" "rowLong" "I") (by decide +kernel)) (fun _ h9 => h9) (congrArg (fun z => some (Value.int z)) (hu22)) dX10_firstOrder_36 ?_
      refine lv_iconst (v := (nI 1)) hx hb dX10_firstOrder_39 rfl ?_
      refine rn_iadd (x := ol S x) (y := 1) hx hb dX10_firstOrder_40 ?_
      refine va_put (D := D) (ci := 10) (v := .int (nI ((ol S x) + 1))) (ty := .int) (C := RX10) (T := TX10) (N := 34) hx hb hts hinX10 tyX10 tyX10_ok nmX10 hown hK hP hD hS 0 rfl rfl 22 (by decide) (hts (.fieldLink RX10 145 "OneNailModel" "rowLong" "I") (by decide +kernel)) (fun _ h9 => h9) rfl (by decide +kernel) rfl rfl (Nat.le_of_ble_eq_true rfl) dX10_firstOrder_41 (fun H locs hP hD hS => ?_)
      have hP : va_P D vwCl (xM cA r ((upd u1007 22 (nI ((ol S x) + 1))), (va_up a1007 21 (upd (a1007 21) (ol S x) (nI x))))) H := hP
      have hD : va_D A (xM cA r ((upd u1007 22 (nI ((ol S x) + 1))), (va_up a1007 21 (upd (a1007 21) (ol S x) (nI x))))) := hD
      refine rn_iinc (x := x) (d := 1) (lv' := [(2, .int (nI (x + 1))), (0, .ref (r 0)), (1, .int (nI S))]) hx hb rfl dX10_firstOrder_44 hl (k := 0) rfl (by decide) rfl (fun ls hl => ?_)
      refine lv_goto (tgt := 7) hx hb dX10_firstOrder_47 (by decide) ?_
      exact ih7 ((x + 1), (upd u1007 22 (nI ((ol S x) + 1))), (va_up a1007 21 (upd (a1007 21) (ol S x) (nI x)))) _ _ _ (show g 0 - (x + 1) < g 0 - x from by omega) ⟨(show (x + 1) ≤ g 0 from by omega), (show (upd u1007 22 (nI ((ol S x) + 1))) 22 = nI (ol S (x + 1)) from (congrArg nI (by rw [ol, if_pos (by omega)]))), (show ∀ k, k < ol S (x + 1) → (va_up a1007 21 (upd (a1007 21) (ol S x) (nI x))) 21 k = nI (of1 S (x + 1) k) from (show ∀ k, k < ol S (x + 1) → (upd (a1007 21) (ol S x) (nI x)) k = nI (of1 S (x + 1) k) from of_push hrow (by omega))), (fun i h22 => Eq.trans (up_ne h22) (hfu7 i h22)), (fun i h21 => Eq.trans (vup_ne h21) (hfa7 i h21)), hP, hD, hS, lv_sub hl [0, 1, 2] rfl⟩

set_option maxHeartbeats 4000000 in
set_option maxRecDepth 100000 in
theorem kX10_change (l : Launch) (D : va_G) (cA : Nat → ClassId) (r : Nat → Nat) (sz : Nat) (u : Nat → Int32) (a : Nat → Nat → Int32) (i j : Nat) (hi8 : i < 8) (hj8 : j < 8) : Met l yX10_change wsX10_change ({ frames := 0, cells := 0, slots := 0, locals := 0 } : Room) (va_Pc [.ref (r 0), .int (nI i), .int (nI j)] (wA D vwCl (tyA cA) e0 (xM cA r) (u, a) sz)) (va_Qv (fun (z : sM) => z = (u, va_up a 21 (upd (upd (a 21) i (a 21 j)) j (a 21 i)))) (wB D vwCl (tyA cA) (xM cA r) (va_A (xM cA r (u, a)) sz)) (va_A (xM cA r (u, a)) sz)) 0 0 (va_A (xM cA r (u, a)) sz) := by
  refine Met.ofW (cc := cX10_change) (maxL := 4) (ret := none) (by decide) rfl ?_
  intro p e s m args below meth c s₁ B hml hv
  obtain ⟨rfl, hsz, hP, hK, hD0, hE⟩ := hv
  have hx := B.exec
  have hb := B.bytes
  have hr := B.returns
  have hts := atoms_spec (ws := wsX10_change) B.pre
  have hown : s.vm.findClass RX10 = some m.cls := findClass_of_methodNamed B.named
  have hlocks := B.notSynchronized
  subst hsz
  have hD := hD0.self (sz := s.heap.size)
  generalize hAe : va_A (xM cA r (u, a)) s.heap.size = A at hD hE ⊢
  have hA : ∀ q : Nat, s.heap.size ≤ q → A q := fun q h => by rw [← hAe]; exact Or.inr h
  have hS : va_S A s.heap s.heap [] := va_S.rf
  have hinX10 : ∀ w ∈ u_ws RX10 TX10 34, w ∈ wsX10_change := by decide +kernel
  have hl := lv_entry ([.ref (r 0), .int (nI i), .int (nI j)]) (n := 4) (Nat.le_of_ble_eq_true rfl)
  rw [lg_entry_eq]
  generalize (lg_sl ([.ref (r 0), .int (nI i), .int (nI j)]) ++ List.replicate (4 - (lg_sl ([.ref (r 0), .int (nI i), .int (nI j)])).length) Slot.unset).toArray = ls at hl ⊢
  have hl : lv_has ls 4 [(0, .ref (r 0)), (1, .int (nI i)), (2, .int (nI j))] := hl
  refine lv_aload_n hx hb dX10_change_0 rfl (lv_at hl 0 rfl) ?_
  refine va_get (D := D) (ci := 10) (v := .ref (r 21)) (C := RX10) (T := TX10) (N := 34) hx hb hts hinX10 hown hK hP 0 rfl rfl 21 (by decide) (hts (.fieldLink RX10 49 "OneNailModel" "row" "[I") (by decide +kernel)) (fun _ h9 => h9) rfl dX10_change_1 ?_
  refine lv_iload_n hx hb dX10_change_4 rfl (lv_at hl 1 rfl) ?_
  refine ra_iald hx hb hK hP 14 0 (n := 8) (f := (a 21)) (j := i) (v := ((a 21) i)) rfl rfl (by omega) (by decide) (rfl) dX10_change_5 ?_
  refine lv_istore_n (lv' := [(3, .int ((a 21) i)), (0, .ref (r 0)), (1, .int (nI i)), (2, .int (nI j))]) hx hb dX10_change_6 rfl hl (by decide) rfl (fun ls hl => ?_)
  refine lv_aload_n hx hb dX10_change_7 rfl (lv_at hl 1 rfl) ?_
  refine va_get (D := D) (ci := 10) (v := .ref (r 21)) (C := RX10) (T := TX10) (N := 34) hx hb hts hinX10 hown hK hP 0 rfl rfl 21 (by decide) (hts (.fieldLink RX10 49 "OneNailModel" "row" "[I") (by decide +kernel)) (fun _ h9 => h9) rfl dX10_change_8 ?_
  refine lv_iload_n hx hb dX10_change_11 rfl (lv_at hl 2 rfl) ?_
  refine lv_aload_n hx hb dX10_change_12 rfl (lv_at hl 1 rfl) ?_
  refine va_get (D := D) (ci := 10) (v := .ref (r 21)) (C := RX10) (T := TX10) (N := 34) hx hb hts hinX10 hown hK hP 0 rfl rfl 21 (by decide) (hts (.fieldLink RX10 49 "OneNailModel" "row" "[I") (by decide +kernel)) (fun _ h9 => h9) rfl dX10_change_13 ?_
  refine lv_iload_n hx hb dX10_change_16 rfl (lv_at hl 3 rfl) ?_
  refine ra_iald hx hb hK hP 14 0 (n := 8) (f := (a 21)) (j := j) (v := ((a 21) j)) rfl rfl (by omega) (by decide) (rfl) dX10_change_17 ?_
  refine ra_iast hx hb hK hP hD hS 14 0 (n := 8) (f := (a 21)) (j := i) (x := ((a 21) j)) rfl rfl (by omega) (by decide) dX10_change_18 (fun H locs hP hD hS => ?_)
  have hP : va_P D vwCl (xM cA r (u, (va_up a 21 (upd (a 21) i ((a 21) j))))) H := hP
  have hD : va_D A (xM cA r (u, (va_up a 21 (upd (a 21) i ((a 21) j))))) := hD
  refine lv_aload_n hx hb dX10_change_19 rfl (lv_at hl 1 rfl) ?_
  refine va_get (D := D) (ci := 10) (v := .ref (r 21)) (C := RX10) (T := TX10) (N := 34) hx hb hts hinX10 hown hK hP 0 rfl rfl 21 (by decide) (hts (.fieldLink RX10 49 "OneNailModel" "row" "[I") (by decide +kernel)) (fun _ h9 => h9) rfl dX10_change_20 ?_
  refine lv_iload_n hx hb dX10_change_23 rfl (lv_at hl 3 rfl) ?_
  refine lv_iload_n hx hb dX10_change_24 rfl (lv_at hl 0 rfl) ?_
  refine ra_iast hx hb hK hP hD hS 14 0 (n := 8) (f := (upd (a 21) i ((a 21) j))) (j := j) (x := ((a 21) i)) rfl rfl (by omega) (by decide) dX10_change_25 (fun H locs hP hD hS => ?_)
  have hP : va_P D vwCl (xM cA r (u, (va_up a 21 (upd (upd (a 21) i ((a 21) j)) j ((a 21) i))))) H := hP
  have hD : va_D A (xM cA r (u, (va_up a 21 (upd (upd (a 21) i ((a 21) j)) j ((a 21) i))))) := hD
  exact wVret hx hb hr hlocks (u, (va_up a 21 (upd (upd (a 21) i ((a 21) j)) j ((a 21) i)))) (rfl) hK hP hD hS dX10_change_26

set_option maxHeartbeats 4000000 in
set_option maxRecDepth 100000 in
theorem kX10_nextOrder (l : Launch) (D : va_G) (cA : Nat → ClassId) (r : Nat → Nat) (sz : Nat) (u : Nat → Int32) (a : Nat → Nat → Int32) (L N : Nat) (hL : u 22 = nI L) (hL6 : L ≤ 6) (hN : ∀ k, k < L → a 21 k = nI (dg N k)) : Met l yX10_nextOrder wsX10_nextOrder ({ frames := 1, cells := 0, slots := 0, locals := 23 } : Room) (va_Pc [.ref (r 0)] (wA D vwCl (tyA cA) e0 (xM cA r) (u, a) sz)) (va_Qi (fun (v : Int32) (z : sM) => (v = nI 0 ∧ fk N (L - 1) = 0 ∧ z = (u, a)) ∨ (v = nI 1 ∧ fk N (L - 1) ≠ 0 ∧ z.1 = u ∧ (∀ k, k < L → z.2 21 k = nI (dg (nx N L) k)) ∧ (∀ i, i ≠ 21 → z.2 i = a i))) (wB D vwCl (tyA cA) (xM cA r) (va_A (xM cA r (u, a)) sz)) (va_A (xM cA r (u, a)) sz)) 0 0 (va_A (xM cA r (u, a)) sz) := by
  refine Met.ofW (cc := cX10_nextOrder) (maxL := 5) (ret := (some .boolean)) (by decide) rfl ?_
  intro p e s m args below meth c s₁ B hml hv
  obtain ⟨rfl, hsz, hP, hK, hD0, hE⟩ := hv
  have hx := B.exec
  have hb := B.bytes
  have hr := B.returns
  have hts := atoms_spec (ws := wsX10_nextOrder) B.pre
  have hown : s.vm.findClass RX10 = some m.cls := findClass_of_methodNamed B.named
  have hlocks := B.notSynchronized
  subst hsz
  have hD := hD0.self (sz := s.heap.size)
  generalize hAe : va_A (xM cA r (u, a)) s.heap.size = A at hD hE ⊢
  have hA : ∀ q : Nat, s.heap.size ≤ q → A q := fun q h => by rw [← hAe]; exact Or.inr h
  have hS : va_S A s.heap s.heap [] := va_S.rf
  have hinX10 : ∀ w ∈ u_ws RX10 TX10 34, w ∈ wsX10_nextOrder := by decide +kernel
  have hl := lv_entry ([.ref (r 0)]) (n := 5) (Nat.le_of_ble_eq_true rfl)
  rw [lg_entry_eq]
  generalize (lg_sl ([.ref (r 0)]) ++ List.replicate (5 - (lg_sl ([.ref (r 0)])).length) Slot.unset).toArray = ls at hl ⊢
  have hl : lv_has ls 5 [(0, .ref (r 0))] := hl
  refine lv_aload_n hx hb dX10_nextOrder_0 rfl (lv_at hl 0 rfl) ?_
  refine va_get (D := D) (ci := 10) (v := .int (nI L)) (C := RX10) (T := TX10) (N := 34) hx hb hts hinX10 hown hK hP 0 rfl rfl 22 (by decide) (hts (.fieldLink RX10 145 "OneNailModel" "rowLong" "I") (by decide +kernel)) (fun _ h9 => h9) (congrArg (fun z => some (Value.int z)) (hL)) dX10_nextOrder_1 ?_
  refine lv_iconst (v := (nI 2)) hx hb dX10_nextOrder_4 rfl ?_
  refine lv_isub hx hb dX10_nextOrder_5 ?_
  rcases Nat.eq_zero_or_pos L with hLz | hLz
  · refine lv_topi (fun y_1 ey_1 => ?_)
    obtain rfl : y_1 = (-2) := ey_1.trans (by rw [hLz]; decide)
    refine lv_istore_n (lv' := [(1, .int (-2)), (0, .ref (r 0))]) hx hb dX10_nextOrder_6 rfl hl (by decide) rfl (fun ls hl => ?_)
    refine lv_iload_n hx hb dX10_nextOrder_7 rfl (lv_at hl 0 rfl) ?_
    refine lv_if_lt (tgt := 34) hx hb dX10_nextOrder_8 (by decide) (fun _ => ?_) (fun c_2 => absurd c_2 (by decide))
    refine lv_iload_n hx hb dX10_nextOrder_34 rfl (lv_at hl 0 rfl) ?_
    refine lv_if_ge (tgt := 40) hx hb dX10_nextOrder_35 (by decide) (fun c_3 => absurd c_3 (by decide)) (fun _ => ?_)
    refine lv_iconst (v := (nI 0)) hx hb dX10_nextOrder_38 rfl ?_
    exact wZret hx hb hr hlocks (v := (nI 0)) (by first | exact Or.inl rfl | exact Or.inr rfl) (u, a) (Or.inl ⟨rfl, by first | (rw [hLz]; rfl) | (rw [← hfk, hjz]; rfl), rfl⟩) hK hP hD hS dX10_nextOrder_39
  · refine lv_topi (fun y_4 ey_4 => ?_)
    obtain rfl : y_4 = (nI (L - 1) - nI 1) := ey_4.trans (sub_a hLz)
    refine lv_istore_n (lv' := [(1, .int (nI (L - 1) - nI 1)), (0, .ref (r 0))]) hx hb dX10_nextOrder_6 rfl hl (by decide) rfl (fun ls hl => ?_)
    refine wLoop (τ := Nat) (fun z H locs ls => (fun (j : Nat) => (j ≤ L - 1) ∧ (fk N j = fk N (L - 1)) ∧ (va_P D vwCl (xM cA r (u, a)) H) ∧ (va_D A (xM cA r (u, a))) ∧ (va_S A s.heap H locs) ∧ (lv_has ls 5 [(1, .int (nI j - nI 1)), (0, .ref (r 0))])) z) (fun z => (fun (j : Nat) => j) z) ((L - 1)) ⟨(show (L - 1) ≤ L - 1 from Nat.le_refl _), (show fk N (L - 1) = fk N (L - 1) from rfl), hP, hD, hS, lv_sub hl [0, 1] rfl⟩ ?_
    rintro j H locs ls ⟨hj, hfk, hP, hD, hS, hl⟩ ih7
    have hj : j ≤ L - 1 := hj
    have hfk : fk N j = fk N (L - 1) := hfk
    have hP : va_P D vwCl (xM cA r (u, a)) H := hP
    have hD : va_D A (xM cA r (u, a)) := hD
    have hl : lv_has ls 5 [(1, .int (nI j - nI 1)), (0, .ref (r 0))] := hl
    rcases Nat.eq_zero_or_pos j with hjz | hjz
    · have hl : lv_has ls 5 [(1, .int (-1)), (0, .ref (r 0))] := lv_re hl 0 ⟨rfl, rfl⟩ (by rw [hjz]; decide)
      refine lv_iload_n hx hb dX10_nextOrder_7 rfl (lv_at hl 0 rfl) ?_
      refine lv_if_lt (tgt := 34) hx hb dX10_nextOrder_8 (by decide) (fun _ => ?_) (fun c_5 => absurd c_5 (by decide))
      refine lv_iload_n hx hb dX10_nextOrder_34 rfl (lv_at hl 0 rfl) ?_
      refine lv_if_ge (tgt := 40) hx hb dX10_nextOrder_35 (by decide) (fun c_6 => absurd c_6 (by decide)) (fun _ => ?_)
      refine lv_iconst (v := (nI 0)) hx hb dX10_nextOrder_38 rfl ?_
      exact wZret hx hb hr hlocks (v := (nI 0)) (by first | exact Or.inl rfl | exact Or.inr rfl) (u, a) (Or.inl ⟨rfl, by first | (rw [hLz]; rfl) | (rw [← hfk, hjz]; rfl), rfl⟩) hK hP hD hS dX10_nextOrder_39
    · have hl : lv_has ls 5 [(1, .int (nI (j - 1))), (0, .ref (r 0))] := lv_re hl 0 ⟨rfl, rfl⟩ (pk_sub (by omega))
      refine lv_iload_n hx hb dX10_nextOrder_7 rfl (lv_at hl 0 rfl) ?_
      refine rz_lt (x := j - 1) (tgt := 34) hx hb (by omega) dX10_nextOrder_8 (by decide) ?_
      have hd1 := dg_lt N (j - 1)
      have hd2 := dg_lt N (j - 1 + 1)
      refine lv_aload_n hx hb dX10_nextOrder_11 rfl (lv_at hl 1 rfl) ?_
      refine va_get (D := D) (ci := 10) (v := .ref (r 21)) (C := RX10) (T := TX10) (N := 34) hx hb hts hinX10 hown hK hP 0 rfl rfl 21 (by decide) (hts (.fieldLink RX10 49 "OneNailModel" "row" "[I") (by decide +kernel)) (fun _ h9 => h9) rfl dX10_nextOrder_12 ?_
      refine lv_iload_n hx hb dX10_nextOrder_15 rfl (lv_at hl 0 rfl) ?_
      refine ra_iald hx hb hK hP 14 0 (n := 8) (f := (a 21)) (j := j - 1) (v := (nI (dg N (j - 1)))) rfl rfl (by omega) (by decide) (hN (j - 1) (by omega)) dX10_nextOrder_16 ?_
      refine lv_aload_n hx hb dX10_nextOrder_17 rfl (lv_at hl 1 rfl) ?_
      refine va_get (D := D) (ci := 10) (v := .ref (r 21)) (C := RX10) (T := TX10) (N := 34) hx hb hts hinX10 hown hK hP 0 rfl rfl 21 (by decide) (hts (.fieldLink RX10 49 "OneNailModel" "row" "[I") (by decide +kernel)) (fun _ h9 => h9) rfl dX10_nextOrder_18 ?_
      refine lv_iload_n hx hb dX10_nextOrder_21 rfl (lv_at hl 0 rfl) ?_
      refine lv_iconst (v := (nI 1)) hx hb dX10_nextOrder_22 rfl ?_
      refine rn_iadd (x := j - 1) (y := 1) hx hb dX10_nextOrder_23 ?_
      refine ra_iald hx hb hK hP 14 0 (n := 8) (f := (a 21)) (j := (j - 1) + 1) (v := (nI (dg N ((j - 1) + 1)))) rfl rfl (by omega) (by decide) (hN ((j - 1) + 1) (by omega)) dX10_nextOrder_24 ?_
      refine rn_le (x := dg N (j - 1)) (y := dg N ((j - 1) + 1)) (tgt := 34) hx hb (by omega) (by omega) dX10_nextOrder_25 (by decide) (fun c_8 => ?_) (fun c_8 => ?_)
      · refine lv_iload_n hx hb dX10_nextOrder_34 rfl (lv_at hl 0 rfl) ?_
        refine rz_ge (x := j - 1) (tgt := 40) hx hb (by omega) dX10_nextOrder_35 (by decide) ?_
        refine lv_aload_n hx hb dX10_nextOrder_40 rfl (lv_at hl 1 rfl) ?_
        refine va_get (D := D) (ci := 10) (v := .int (nI L)) (C := RX10) (T := TX10) (N := 34) hx hb hts hinX10 hown hK hP 0 rfl rfl 22 (by decide) (hts (.fieldLink RX10 145 "OneNailModel" "rowLong" "I") (by decide +kernel)) (fun _ h9 => h9) (congrArg (fun z => some (Value.int z)) (hL)) dX10_nextOrder_41 ?_
        refine lv_iconst (v := (nI 1)) hx hb dX10_nextOrder_44 rfl ?_
        refine rn_isub (x := L) (y := 1) hx hb (by omega) dX10_nextOrder_45 ?_
        refine lv_istore_n (lv' := [(2, .int (nI (L - 1))), (1, .int (nI (j - 1))), (0, .ref (r 0))]) hx hb dX10_nextOrder_46 rfl hl (by decide) rfl (fun ls hl => ?_)
        refine wLoop (τ := Nat) (fun z H locs ls => (fun (q : Nat) => (j - 1 ≤ q) ∧ (q ≤ L - 1) ∧ (fq N (dg N (j - 1)) q = fq N (dg N (j - 1)) (L - 1)) ∧ (va_P D vwCl (xM cA r (u, a)) H) ∧ (va_D A (xM cA r (u, a))) ∧ (va_S A s.heap H locs) ∧ (lv_has ls 5 [(2, .int (nI q)), (0, .ref (r 0)), (1, .int (nI (j - 1)))])) z) (fun z => (fun (q : Nat) => q) z) ((L - 1)) ⟨(show j - 1 ≤ (L - 1) from by omega), (show (L - 1) ≤ L - 1 from Nat.le_refl _), (show fq N (dg N (j - 1)) (L - 1) = fq N (dg N (j - 1)) (L - 1) from rfl), hP, hD, hS, lv_sub hl [0, 2, 1] rfl⟩ ?_
        rintro q H locs ls ⟨hq, hq2, hfq, hP, hD, hS, hl⟩ ih47
        have hq : j - 1 ≤ q := hq
        have hq2 : q ≤ L - 1 := hq2
        have hfq : fq N (dg N (j - 1)) q = fq N (dg N (j - 1)) (L - 1) := hfq
        have hP : va_P D vwCl (xM cA r (u, a)) H := hP
        have hD : va_D A (xM cA r (u, a)) := hD
        have hl : lv_has ls 5 [(2, .int (nI q)), (0, .ref (r 0)), (1, .int (nI (j - 1)))] := hl
        have hd3 := dg_lt N q
        have hd4 := dg_lt N (j - 1)
        refine lv_aload_n hx hb dX10_nextOrder_47 rfl (lv_at hl 1 rfl) ?_
        refine va_get (D := D) (ci := 10) (v := .ref (r 21)) (C := RX10) (T := TX10) (N := 34) hx hb hts hinX10 hown hK hP 0 rfl rfl 21 (by decide) (hts (.fieldLink RX10 49 "OneNailModel" "row" "[I") (by decide +kernel)) (fun _ h9 => h9) rfl dX10_nextOrder_48 ?_
        refine lv_iload_n hx hb dX10_nextOrder_51 rfl (lv_at hl 0 rfl) ?_
        refine ra_iald hx hb hK hP 14 0 (n := 8) (f := (a 21)) (j := q) (v := (nI (dg N q))) rfl rfl (by omega) (by decide) (hN (q) (by omega)) dX10_nextOrder_52 ?_
        refine lv_aload_n hx hb dX10_nextOrder_53 rfl (lv_at hl 1 rfl) ?_
        refine va_get (D := D) (ci := 10) (v := .ref (r 21)) (C := RX10) (T := TX10) (N := 34) hx hb hts hinX10 hown hK hP 0 rfl rfl 21 (by decide) (hts (.fieldLink RX10 49 "OneNailModel" "row" "[I") (by decide +kernel)) (fun _ h9 => h9) rfl dX10_nextOrder_54 ?_
        refine lv_iload_n hx hb dX10_nextOrder_57 rfl (lv_at hl 2 rfl) ?_
        refine ra_iald hx hb hK hP 14 0 (n := 8) (f := (a 21)) (j := j - 1) (v := (nI (dg N (j - 1)))) rfl rfl (by omega) (by decide) (hN (j - 1) (by omega)) dX10_nextOrder_58 ?_
        refine rn_ge (x := dg N q) (y := dg N (j - 1)) (tgt := 68) hx hb (by omega) (by omega) dX10_nextOrder_59 (by decide) (fun c_10 => ?_) (fun c_10 => ?_)
        · refine lv_aload_n hx hb dX10_nextOrder_68 rfl (lv_at hl 1 rfl) ?_
          refine lv_iload_n hx hb dX10_nextOrder_69 rfl (lv_at hl 2 rfl) ?_
          refine lv_iload_n hx hb dX10_nextOrder_70 rfl (lv_at hl 0 rfl) ?_
          refine wVv e0_S (As := [.int (nI (j - 1)), .int (nI q)]) (rest := []) ⟨hx, hb, hml, hown, hts⟩ (kX10_change l D cA r _ u a (j - 1) q (by omega) (by omega)) (cwV 2 hts gX10_nextOrder_X10_change rfl rfl rfl (by decide +kernel) ⟨Nat.le_of_ble_eq_true rfl, Nat.le_of_ble_eq_true rfl⟩) (va_recv hK hP (ci := 10) (q0 := 0) rfl rfl) hK hP hD hS hA hE rfl hl.1 rfl (Nat.le_of_ble_eq_true rfl) dX10_nextOrder_71 ⟨Nat.zero_le _, Nat.zero_le _⟩ (fun z_13 H locs hw_12 hP hD hS => ?_)
          obtain rfl := hw_12
          have hP : va_P D vwCl (xM cA r (u, (va_up a 21 (upd (upd (a 21) (j - 1) ((a 21) q)) q ((a 21) (j - 1)))))) H := hP
          have hD : va_D A (xM cA r (u, (va_up a 21 (upd (upd (a 21) (j - 1) ((a 21) q)) q ((a 21) (j - 1)))))) := hD
          refine lv_iload_n hx hb dX10_nextOrder_74 rfl (lv_at hl 2 rfl) ?_
          refine lv_iconst (v := (nI 1)) hx hb dX10_nextOrder_75 rfl ?_
          refine rn_iadd (x := j - 1) (y := 1) hx hb dX10_nextOrder_76 ?_
          refine lv_istore_n (lv' := [(3, .int (nI ((j - 1) + 1))), (2, .int (nI q)), (0, .ref (r 0)), (1, .int (nI (j - 1)))]) hx hb dX10_nextOrder_77 rfl hl (by decide) rfl (fun ls hl => ?_)
          refine lv_aload_n hx hb dX10_nextOrder_78 rfl (lv_at hl 2 rfl) ?_
          refine va_get (D := D) (ci := 10) (v := .int (nI L)) (C := RX10) (T := TX10) (N := 34) hx hb hts hinX10 hown hK hP 0 rfl rfl 22 (by decide) (hts (.fieldLink RX10 145 "OneNailModel" "rowLong" "I") (by decide +kernel)) (fun _ h9 => h9) (congrArg (fun z => some (Value.int z)) (hL)) dX10_nextOrder_79 ?_
          refine lv_iconst (v := (nI 1)) hx hb dX10_nextOrder_82 rfl ?_
          refine rn_isub (x := L) (y := 1) hx hb (by omega) dX10_nextOrder_83 ?_
          refine lv_istore (lv' := [(4, .int (nI (L - 1))), (3, .int (nI ((j - 1) + 1))), (2, .int (nI q)), (0, .ref (r 0)), (1, .int (nI (j - 1)))]) hx hb dX10_nextOrder_84 hl (by decide) rfl (fun ls hl => ?_)
          have hfkj : fk N (L - 1) = j := hfk.symm.trans (fk_no hjz (by omega))
          have hl : lv_has ls 5 [(4, .int (nI (L - 1))), (3, .int (nI j)), (2, .int (nI q)), (0, .ref (r 0)), (1, .int (nI (j - 1)))] := lv_re hl 1 ⟨rfl, rfl⟩ (congrArg nI (by omega))
          have hfqq : fq N (dg N (j - 1)) (L - 1) = q := hfq.symm.trans (fq_no (by omega))
          refine wLoop (τ := (Nat → Nat) × Nat × Nat × Nat × (Nat → Nat → Int32)) (fun z H locs ls => (fun (F : (Nat → Nat)) (n : Nat) (i : Nat) (b : Nat) (a1086 : (Nat → Nat → Int32)) => (∀ k, k < L → a1086 21 k = nI (F k)) ∧ (rv F n i b = nxf N L) ∧ (b ≤ i + 2 * n) ∧ (i ≤ L) ∧ (b < L) ∧ (∀ i : Nat, i ≠ 21 → a1086 i = a i) ∧ (va_P D vwCl (xM cA r (u, a1086)) H) ∧ (va_D A (xM cA r (u, a1086))) ∧ (va_S A s.heap H locs) ∧ (lv_has ls 5 [(3, .int (nI i)), (4, .int (nI b)), (0, .ref (r 0)), (1, .int (nI (j - 1))), (2, .int (nI q))])) z.1 z.2.1 z.2.2.1 z.2.2.2.1 z.2.2.2.2) (fun z => (fun (F : (Nat → Nat)) (n : Nat) (i : Nat) (b : Nat) (a1086 : (Nat → Nat → Int32)) => n) z.1 z.2.1 z.2.2.1 z.2.2.2.1 z.2.2.2.2) ((sw (dg N) (j - 1) q), 6, j, (L - 1), (va_up a 21 (upd (upd (a 21) (j - 1) ((a 21) q)) q ((a 21) (j - 1))))) ⟨(show ∀ k, k < L → (va_up a 21 (upd (upd (a 21) (j - 1) ((a 21) q)) q ((a 21) (j - 1)))) 21 k = nI ((sw (dg N) (j - 1) q) k) from (show ∀ k, k < L → (upd (upd (a 21) (j - 1) ((a 21) q)) q ((a 21) (j - 1))) k = nI (sw (dg N) (j - 1) q k) from sw_row hN (by omega) (by omega))), (show rv (sw (dg N) (j - 1) q) 6 j (L - 1) = nxf N L from (by unfold nxf; rw [hfkj, hfqq])), (show (L - 1) ≤ j + 2 * 6 from by omega), (show j ≤ L from by omega), (show (L - 1) < L from by omega), (fun i h21 => vup_ne h21), hP, hD, hS, lv_sub hl [1, 0, 3, 4, 2] rfl⟩ ?_
          rintro ⟨F, n, i, b, a1086⟩ H locs ls ⟨hrow, hrv, hn, hiL, hbL, hfa86, hP, hD, hS, hl⟩ ih86
          have hrow : ∀ k, k < L → a1086 21 k = nI (F k) := hrow
          have hrv : rv F n i b = nxf N L := hrv
          have hn : b ≤ i + 2 * n := hn
          have hiL : i ≤ L := hiL
          have hbL : b < L := hbL
          have hfa86 : ∀ i : Nat, i ≠ 21 → a1086 i = a i := hfa86
          have hP : va_P D vwCl (xM cA r (u, a1086)) H := hP
          have hD : va_D A (xM cA r (u, a1086)) := hD
          have hl : lv_has ls 5 [(3, .int (nI i)), (4, .int (nI b)), (0, .ref (r 0)), (1, .int (nI (j - 1))), (2, .int (nI q))] := hl
          refine lv_iload_n hx hb dX10_nextOrder_86 rfl (lv_at hl 0 rfl) ?_
          refine lv_iload hx hb dX10_nextOrder_87 (lv_at hl 1 rfl) ?_
          refine rn_ge (x := i) (y := b) (tgt := 108) hx hb (by omega) (by omega) dX10_nextOrder_89 (by decide) (fun c_14 => ?_) (fun c_14 => ?_)
          · refine lv_iconst (v := (nI 1)) hx hb dX10_nextOrder_108 rfl ?_
            exact wZret hx hb hr hlocks (v := (nI 1)) (by first | exact Or.inl rfl | exact Or.inr rfl) (u, a1086) (Or.inr ⟨rfl, by omega, rfl, fun k hk => by rw [dg_nx hk, ← hrv, rv_done (by omega)]; exact hrow k hk, (fun i h21 => hfa86 i h21)⟩) hK hP hD hS dX10_nextOrder_109
          · refine lv_aload_n hx hb dX10_nextOrder_92 rfl (lv_at hl 2 rfl) ?_
            refine lv_iload_n hx hb dX10_nextOrder_93 rfl (lv_at hl 0 rfl) ?_
            refine lv_iload hx hb dX10_nextOrder_94 (lv_at hl 1 rfl) ?_
            refine wVv e0_S (As := [.int (nI i), .int (nI b)]) (rest := []) ⟨hx, hb, hml, hown, hts⟩ (kX10_change l D cA r _ u a1086 i b (by omega) (by omega)) (cwV 2 hts gX10_nextOrder_X10_change rfl rfl rfl (by decide +kernel) ⟨Nat.le_of_ble_eq_true rfl, Nat.le_of_ble_eq_true rfl⟩) (va_recv hK hP (ci := 10) (q0 := 0) rfl rfl) hK hP hD hS hA hE rfl hl.1 rfl (Nat.le_of_ble_eq_true rfl) dX10_nextOrder_96 ⟨Nat.zero_le _, Nat.zero_le _⟩ (fun z_17 H locs hw_16 hP hD hS => ?_)
            obtain rfl := hw_16
            have hP : va_P D vwCl (xM cA r (u, (va_up a1086 21 (upd (upd (a1086 21) i ((a1086 21) b)) b ((a1086 21) i))))) H := hP
            have hD : va_D A (xM cA r (u, (va_up a1086 21 (upd (upd (a1086 21) i ((a1086 21) b)) b ((a1086 21) i))))) := hD
            refine rn_iinc (x := i) (d := 1) (lv' := [(3, .int (nI (i + 1))), (4, .int (nI b)), (0, .ref (r 0)), (1, .int (nI (j - 1))), (2, .int (nI q))]) hx hb rfl dX10_nextOrder_99 hl (k := 0) rfl (by decide) rfl (fun ls hl => ?_)
            obtain ⟨x_18, ex_18⟩ : ∃ z : Int32, z = (nI b) + Int32.ofInt (-1) := ⟨_, rfl⟩
            refine lv_iinc (v := x_18) (lv' := [(4, .int x_18), (3, .int (nI (i + 1))), (0, .ref (r 0)), (1, .int (nI (j - 1))), (2, .int (nI q))]) hx hb dX10_nextOrder_102 hl (k := 1) rfl (ex_18).symm (by decide) rfl (fun ls hl => ?_)
            refine lv_goto (tgt := 86) hx hb dX10_nextOrder_105 (by decide) ?_
            have hl : lv_has ls 5 [(4, .int (nI (b - 1))), (3, .int (nI (i + 1))), (0, .ref (r 0)), (1, .int (nI (j - 1))), (2, .int (nI q))] := lv_re hl 0 ⟨rfl, rfl⟩ (ex_18.trans (sub_n (by omega)))
            exact ih86 ((sw F i b), (n - 1), (i + 1), (b - 1), (va_up a1086 21 (upd (upd (a1086 21) i ((a1086 21) b)) b ((a1086 21) i)))) _ _ _ (show (n - 1) < n from by omega) ⟨(show ∀ k, k < L → (va_up a1086 21 (upd (upd (a1086 21) i ((a1086 21) b)) b ((a1086 21) i))) 21 k = nI ((sw F i b) k) from (show ∀ k, k < L → (upd (upd (a1086 21) i ((a1086 21) b)) b ((a1086 21) i)) k = nI (sw F i b k) from sw_row hrow (by omega) (by omega))), (show rv (sw F i b) (n - 1) (i + 1) (b - 1) = nxf N L from ((rv_step (by omega) (by omega)).symm.trans hrv)), (show (b - 1) ≤ (i + 1) + 2 * (n - 1) from by omega), (show (i + 1) ≤ L from by omega), (show (b - 1) < L from by omega), (fun i h21 => Eq.trans (vup_ne h21) (hfa86 i h21)), hP, hD, hS, lv_sub hl [1, 0, 2, 3, 4] rfl⟩
        · obtain ⟨x_19, ex_19⟩ : ∃ z : Int32, z = (nI q) + Int32.ofInt (-1) := ⟨_, rfl⟩
          refine lv_iinc (v := x_19) (lv' := [(2, .int x_19), (0, .ref (r 0)), (1, .int (nI (j - 1)))]) hx hb dX10_nextOrder_62 hl (k := 0) rfl (ex_19).symm (by decide) rfl (fun ls hl => ?_)
          refine lv_goto (tgt := 47) hx hb dX10_nextOrder_65 (by decide) ?_
          have hqj : q ≠ j - 1 := fun w => by rw [w] at c_10; omega
          have hl : lv_has ls 5 [(2, .int (nI (q - 1))), (0, .ref (r 0)), (1, .int (nI (j - 1)))] := lv_re hl 0 ⟨rfl, rfl⟩ (ex_19.trans (sub_n (by omega)))
          exact ih47 ((q - 1)) _ _ _ (show (q - 1) < q from by omega) ⟨(show j - 1 ≤ (q - 1) from by omega), (show (q - 1) ≤ L - 1 from by omega), (show fq N (dg N (j - 1)) (q - 1) = fq N (dg N (j - 1)) (L - 1) from ((fq_yes (by omega) (by omega)).symm.trans hfq)), hP, hD, hS, lv_sub hl [0, 1, 2] rfl⟩
      · obtain ⟨x_20, ex_20⟩ : ∃ z : Int32, z = (nI (j - 1)) + Int32.ofInt (-1) := ⟨_, rfl⟩
        refine lv_iinc (v := x_20) (lv' := [(1, .int x_20), (0, .ref (r 0))]) hx hb dX10_nextOrder_28 hl (k := 0) rfl (ex_20).symm (by decide) rfl (fun ls hl => ?_)
        refine lv_goto (tgt := 7) hx hb dX10_nextOrder_31 (by decide) ?_
        have hl : lv_has ls 5 [(1, .int (nI (j - 1) - nI 1)), (0, .ref (r 0))] := lv_re hl 0 ⟨rfl, rfl⟩ (ex_20.trans (sub_1 _))
        exact ih7 ((j - 1)) _ _ _ (show (j - 1) < j from by omega) ⟨(show (j - 1) ≤ L - 1 from by omega), (show fk N (j - 1) = fk N (L - 1) from ((fk_yes hjz (by omega)).symm.trans hfk)), hP, hD, hS, lv_sub hl [0, 1] rfl⟩
