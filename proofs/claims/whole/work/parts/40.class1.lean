/-- the class's picture of the town (the smithy's place apart) -/
def NT (u : Nat → Int32) (a : Nat → Nat → Int32) (g : Nat → Nat) (T : Nat → Nat → Nat) : Prop := u 1 = nI (g 0) ∧ ∀ x, x < g 0 → a 13 x = nI (T 1 x) ∧ a 14 x = nI (T 2 x) ∧ a 15 x = nI (T 4 x) ∧ a 16 x = nI (hd g T x)
theorem NT.keep {u u' : Nat → Int32} {a a' : Nat → Nat → Int32} {g : Nat → Nat} {T : Nat → Nat → Nat} (h : NT u a g T) (h1 : u' 1 = u 1) (h13 : a' 13 = a 13) (h14 : a' 14 = a 14) (h15 : a' 15 = a 15) (h16 : a' 16 = a 16) : NT u' a' g T := by
  unfold NT; rw [h1, h13, h14, h15, h16]; exact h
set_option maxHeartbeats 4000000 in
set_option maxRecDepth 100000 in
theorem kX2_swap (l : Launch) (D : va_G) (cA : Nat → ClassId) (r : Nat → Nat) (sz : Nat) (u : Nat → Int32) (a : Nat → Nat → Int32) (th : Nat → Option Nat) (LP : List Nat) (tf : Nat → va_E) (tO : Nat) (i j : Nat) (hi8 : i < 6) (hj8 : j < 6) : Met l yX2_swap wsX2_swap ({ frames := 0, cells := 0, slots := 0, locals := 0 } : Room) (va_Pc [.ref (r 4), .int (nI i), .int (nI j)] (wA D vwCl (tyA cA) (eO tO) (xN cA r) (u, a, th, LP, tf) sz)) (va_Qv (fun (z : sN) => z = (u, va_up a 23 (upd (upd (a 23) i (a 23 j)) j (a 23 i)), th, LP, tf)) (wB D vwCl (tyA cA) (xN cA r) (va_A (xN cA r (u, a, th, LP, tf)) sz)) (va_A (xN cA r (u, a, th, LP, tf)) sz)) 0 0 (va_A (xN cA r (u, a, th, LP, tf)) sz) := by
  refine Met.ofW (cc := cX2_swap) (maxL := 4) (ret := none) (by decide) rfl ?_
  intro p e s m args below meth c s₁ B hml hv
  obtain ⟨rfl, hsz, hP, hK, hD0, hE⟩ := hv
  have hx := B.exec
  have hb := B.bytes
  have hr := B.returns
  have hts := atoms_spec (ws := wsX2_swap) B.pre
  have hown : s.vm.findClass RX2 = some m.cls := findClass_of_methodNamed B.named
  have hlocks := B.notSynchronized
  subst hsz
  have hD := hD0.self (sz := s.heap.size)
  generalize hAe : va_A (xN cA r (u, a, th, LP, tf)) s.heap.size = A at hD hE ⊢
  have hA : ∀ q : Nat, s.heap.size ≤ q → A q := fun q h => by rw [← hAe]; exact Or.inr h
  have hS : va_S A s.heap s.heap [] := va_S.rf
  have hinX2 : ∀ w ∈ u_ws RX2 TX2 6, w ∈ wsX2_swap := by decide +kernel
  have hl := lv_entry ([.ref (r 4), .int (nI i), .int (nI j)]) (n := 4) (Nat.le_of_ble_eq_true rfl)
  rw [lg_entry_eq]
  generalize (lg_sl ([.ref (r 4), .int (nI i), .int (nI j)]) ++ List.replicate (4 - (lg_sl ([.ref (r 4), .int (nI i), .int (nI j)])).length) Slot.unset).toArray = ls at hl ⊢
  have hl : lv_has ls 4 [(0, .ref (r 4)), (1, .int (nI i)), (2, .int (nI j))] := hl
  refine lv_aload_n hx hb dX2_swap_0 rfl (lv_at hl 0 rfl) ?_
  refine va_get (D := D) (ci := 2) (v := .ref (r 23)) (C := RX2) (T := TX2) (N := 6) hx hb hts hinX2 hown hK hP 4 rfl rfl 1 (by decide) (hts (.fieldLink RX2 9 "OneNail$Orders" "row" "[I") (by decide +kernel)) (fun _ h9 => h9) rfl dX2_swap_1 ?_
  refine lv_iload_n hx hb dX2_swap_4 rfl (lv_at hl 1 rfl) ?_
  refine ra_iald hx hb hK hP 23 0 (n := 6) (f := (a 23)) (j := i) (v := ((a 23) i)) rfl rfl (by omega) (by decide) (rfl) dX2_swap_5 ?_
  refine lv_istore_n (lv' := [(3, .int ((a 23) i)), (0, .ref (r 4)), (1, .int (nI i)), (2, .int (nI j))]) hx hb dX2_swap_6 rfl hl (by decide) rfl (fun ls hl => ?_)
  refine lv_aload_n hx hb dX2_swap_7 rfl (lv_at hl 1 rfl) ?_
  refine va_get (D := D) (ci := 2) (v := .ref (r 23)) (C := RX2) (T := TX2) (N := 6) hx hb hts hinX2 hown hK hP 4 rfl rfl 1 (by decide) (hts (.fieldLink RX2 9 "OneNail$Orders" "row" "[I") (by decide +kernel)) (fun _ h9 => h9) rfl dX2_swap_8 ?_
  refine lv_iload_n hx hb dX2_swap_11 rfl (lv_at hl 2 rfl) ?_
  refine lv_aload_n hx hb dX2_swap_12 rfl (lv_at hl 1 rfl) ?_
  refine va_get (D := D) (ci := 2) (v := .ref (r 23)) (C := RX2) (T := TX2) (N := 6) hx hb hts hinX2 hown hK hP 4 rfl rfl 1 (by decide) (hts (.fieldLink RX2 9 "OneNail$Orders" "row" "[I") (by decide +kernel)) (fun _ h9 => h9) rfl dX2_swap_13 ?_
  refine lv_iload_n hx hb dX2_swap_16 rfl (lv_at hl 3 rfl) ?_
  refine ra_iald hx hb hK hP 23 0 (n := 6) (f := (a 23)) (j := j) (v := ((a 23) j)) rfl rfl (by omega) (by decide) (rfl) dX2_swap_17 ?_
  refine ra_iast hx hb hK hP hD hS 23 0 (n := 6) (f := (a 23)) (j := i) (x := ((a 23) j)) rfl rfl (by omega) (by decide) dX2_swap_18 (fun H locs hP hD hS => ?_)
  have hP : va_P D vwCl (xN cA r (u, (va_up a 23 (upd (a 23) i ((a 23) j))), th, LP, tf)) H := hP
  have hD : va_D A (xN cA r (u, (va_up a 23 (upd (a 23) i ((a 23) j))), th, LP, tf)) := hD
  refine lv_aload_n hx hb dX2_swap_19 rfl (lv_at hl 1 rfl) ?_
  refine va_get (D := D) (ci := 2) (v := .ref (r 23)) (C := RX2) (T := TX2) (N := 6) hx hb hts hinX2 hown hK hP 4 rfl rfl 1 (by decide) (hts (.fieldLink RX2 9 "OneNail$Orders" "row" "[I") (by decide +kernel)) (fun _ h9 => h9) rfl dX2_swap_20 ?_
  refine lv_iload_n hx hb dX2_swap_23 rfl (lv_at hl 3 rfl) ?_
  refine lv_iload_n hx hb dX2_swap_24 rfl (lv_at hl 0 rfl) ?_
  refine ra_iast hx hb hK hP hD hS 23 0 (n := 6) (f := (upd (a 23) i ((a 23) j))) (j := j) (x := ((a 23) i)) rfl rfl (by omega) (by decide) dX2_swap_25 (fun H locs hP hD hS => ?_)
  have hP : va_P D vwCl (xN cA r (u, (va_up a 23 (upd (upd (a 23) i ((a 23) j)) j ((a 23) i))), th, LP, tf)) H := hP
  have hD : va_D A (xN cA r (u, (va_up a 23 (upd (upd (a 23) i ((a 23) j)) j ((a 23) i))), th, LP, tf)) := hD
  exact wVret hx hb hr hlocks (u, (va_up a 23 (upd (upd (a 23) i ((a 23) j)) j ((a 23) i))), th, LP, tf) (rfl) hK hP hD hS dX2_swap_26

set_option maxHeartbeats 4000000 in
set_option maxRecDepth 100000 in
theorem kX2_keep (l : Launch) (D : va_G) (cA : Nat → ClassId) (r : Nat → Nat) (sz : Nat) (u : Nat → Int32) (a : Nat → Nat → Int32) (th : Nat → Option Nat) (LP : List Nat) (tf : Nat → va_E) (tO : Nat) (ro : Nat → Nat) (L : Nat) (hL : u 11 = nI L) (hL6 : L ≤ 6) (hro : ∀ k, k < L → a 23 k = nI (ro k)) : Met l yX2_keep wsX2_keep ({ frames := 0, cells := 0, slots := 0, locals := 0 } : Room) (va_Pc [.ref (r 4)] (wA D vwCl (tyA cA) (eO tO) (xN cA r) (u, a, th, LP, tf) sz)) (va_Qv (fun (z : sN) => (∀ j, j < L → z.2.1 25 j = nI (ro j)) ∧ (∀ i, z.1 i = u i) ∧ (∀ i, i ≠ 25 → z.2.1 i = a i) ∧ z.2.2 = (th, LP, tf)) (wB D vwCl (tyA cA) (xN cA r) (va_A (xN cA r (u, a, th, LP, tf)) sz)) (va_A (xN cA r (u, a, th, LP, tf)) sz)) 0 0 (va_A (xN cA r (u, a, th, LP, tf)) sz) := by
  refine Met.ofW (cc := cX2_keep) (maxL := 2) (ret := none) (by decide) rfl ?_
  intro p e s m args below meth c s₁ B hml hv
  obtain ⟨rfl, hsz, hP, hK, hD0, hE⟩ := hv
  have hx := B.exec
  have hb := B.bytes
  have hr := B.returns
  have hts := atoms_spec (ws := wsX2_keep) B.pre
  have hown : s.vm.findClass RX2 = some m.cls := findClass_of_methodNamed B.named
  have hlocks := B.notSynchronized
  subst hsz
  have hD := hD0.self (sz := s.heap.size)
  generalize hAe : va_A (xN cA r (u, a, th, LP, tf)) s.heap.size = A at hD hE ⊢
  have hA : ∀ q : Nat, s.heap.size ≤ q → A q := fun q h => by rw [← hAe]; exact Or.inr h
  have hS : va_S A s.heap s.heap [] := va_S.rf
  have hinX2 : ∀ w ∈ u_ws RX2 TX2 6, w ∈ wsX2_keep := by decide +kernel
  have hl := lv_entry ([.ref (r 4)]) (n := 2) (Nat.le_of_ble_eq_true rfl)
  rw [lg_entry_eq]
  generalize (lg_sl ([.ref (r 4)]) ++ List.replicate (2 - (lg_sl ([.ref (r 4)])).length) Slot.unset).toArray = ls at hl ⊢
  have hl : lv_has ls 2 [(0, .ref (r 4))] := hl
  refine lv_iconst (v := (nI 0)) hx hb dX2_keep_0 rfl ?_
  refine lv_istore_n (lv' := [(1, .int (nI 0)), (0, .ref (r 4))]) hx hb dX2_keep_1 rfl hl (by decide) rfl (fun ls hl => ?_)
  refine wLoop (τ := Nat × (Nat → Nat → Int32)) (fun z H locs ls => (fun (i : Nat) (a1002 : (Nat → Nat → Int32)) => (i ≤ L) ∧ (∀ j, j < i → a1002 25 j = nI (ro j)) ∧ (∀ i : Nat, i ≠ 25 → a1002 i = a i) ∧ (va_P D vwCl (xN cA r (u, a1002, th, LP, tf)) H) ∧ (va_D A (xN cA r (u, a1002, th, LP, tf))) ∧ (va_S A s.heap H locs) ∧ (lv_has ls 2 [(1, .int (nI i)), (0, .ref (r 4))])) z.1 z.2) (fun z => (fun (i : Nat) (a1002 : (Nat → Nat → Int32)) => L - i) z.1 z.2) (0, a) ⟨(show 0 ≤ L from Nat.zero_le _), (show ∀ j, j < 0 → a 25 j = nI (ro j) from (fun j h => absurd h (Nat.not_lt_zero j))), (fun i h25 => rfl), hP, hD, hS, lv_sub hl [0, 1] rfl⟩ ?_
  rintro ⟨i, a1002⟩ H locs ls ⟨hi, h25, hfa2, hP, hD, hS, hl⟩ ih2
  have hi : i ≤ L := hi
  have h25 : ∀ j, j < i → a1002 25 j = nI (ro j) := h25
  have hfa2 : ∀ i : Nat, i ≠ 25 → a1002 i = a i := hfa2
  have hP : va_P D vwCl (xN cA r (u, a1002, th, LP, tf)) H := hP
  have hD : va_D A (xN cA r (u, a1002, th, LP, tf)) := hD
  have hl : lv_has ls 2 [(1, .int (nI i)), (0, .ref (r 4))] := hl
  refine lv_iload_n hx hb dX2_keep_2 rfl (lv_at hl 0 rfl) ?_
  refine lv_aload_n hx hb dX2_keep_3 rfl (lv_at hl 1 rfl) ?_
  refine va_get (D := D) (ci := 2) (v := .int (nI L)) (C := RX2) (T := TX2) (N := 6) hx hb hts hinX2 hown hK hP 4 rfl rfl 2 (by decide) (hts (.fieldLink RX2 15 "OneNail$Orders" "length" "I") (by decide +kernel)) (fun _ h9 => h9) (congrArg (fun z => some (Value.int z)) (hL)) dX2_keep_4 ?_
  refine rn_ge (x := i) (y := L) (tgt := 28) hx hb (by omega) (by omega) dX2_keep_7 (by decide) (fun c_1 => ?_) (fun c_1 => ?_)
  · have hie : i = L := by omega
    exact wVret hx hb hr hlocks (u, a1002, th, LP, tf) (⟨by rw [← hie]; exact h25, (fun i => rfl), (fun i h25 => hfa2 i h25), rfl⟩) hK hP hD hS dX2_keep_28
  · refine lv_aload_n hx hb dX2_keep_10 rfl (lv_at hl 1 rfl) ?_
    refine va_get (D := D) (ci := 2) (v := .ref (r 25)) (C := RX2) (T := TX2) (N := 6) hx hb hts hinX2 hown hK hP 4 rfl rfl 5 (by decide) (hts (.fieldLink RX2 25 "OneNail$Orders" "kept" "[I") (by decide +kernel)) (fun _ h9 => h9) rfl dX2_keep_11 ?_
    refine lv_iload_n hx hb dX2_keep_14 rfl (lv_at hl 0 rfl) ?_
    refine lv_aload_n hx hb dX2_keep_15 rfl (lv_at hl 1 rfl) ?_
    refine va_get (D := D) (ci := 2) (v := .ref (r 23)) (C := RX2) (T := TX2) (N := 6) hx hb hts hinX2 hown hK hP 4 rfl rfl 1 (by decide) (hts (.fieldLink RX2 9 "OneNail$Orders" "row" "[I") (by decide +kernel)) (fun _ h9 => h9) rfl dX2_keep_16 ?_
    refine lv_iload_n hx hb dX2_keep_19 rfl (lv_at hl 0 rfl) ?_
    refine ra_iald hx hb hK hP 23 0 (n := 6) (f := (a1002 23)) (j := i) (v := (nI (ro i))) rfl rfl (by omega) (by decide) ((congrFun (hfa2 23 (by decide)) (i)).trans (hro (i) (by omega))) dX2_keep_20 ?_
    refine ra_iast hx hb hK hP hD hS 25 0 (n := 6) (f := (a1002 25)) (j := i) (x := (nI (ro i))) rfl rfl (by omega) (by decide) dX2_keep_21 (fun H locs hP hD hS => ?_)
    have hP : va_P D vwCl (xN cA r (u, (va_up a1002 25 (upd (a1002 25) i (nI (ro i)))), th, LP, tf)) H := hP
    have hD : va_D A (xN cA r (u, (va_up a1002 25 (upd (a1002 25) i (nI (ro i)))), th, LP, tf)) := hD
    refine rn_iinc (x := i) (d := 1) (lv' := [(1, .int (nI (i + 1))), (0, .ref (r 4))]) hx hb rfl dX2_keep_22 hl (k := 0) rfl (by decide) rfl (fun ls hl => ?_)
    refine lv_goto (tgt := 2) hx hb dX2_keep_25 (by decide) ?_
    exact ih2 ((i + 1), (va_up a1002 25 (upd (a1002 25) i (nI (ro i))))) _ _ _ (show L - (i + 1) < L - i from by omega) ⟨(show (i + 1) ≤ L from by omega), (show ∀ j, j < (i + 1) → (va_up a1002 25 (upd (a1002 25) i (nI (ro i)))) 25 j = nI (ro j) from (show ∀ j, j < i + 1 → (upd (a1002 25) i (nI (ro i))) j = nI (ro j) from arr_push (F := fun j => nI (ro j)) h25 rfl)), (fun i h25 => Eq.trans (vup_ne h25) (hfa2 i h25)), hP, hD, hS, lv_sub hl [0, 1] rfl⟩

set_option maxHeartbeats 4000000 in
set_option maxRecDepth 100000 in
theorem kX2_begin (l : Launch) (D : va_G) (cA : Nat → ClassId) (r : Nat → Nat) (sz : Nat) (u : Nat → Int32) (a : Nat → Nat → Int32) (th : Nat → Option Nat) (LP : List Nat) (tf : Nat → va_E) (tO : Nat) (g : Nat → Nat) (T : Nat → Nat → Nat) (S : Nat) (hM : NT u a g T) (hB : TB g T) (hS64 : S < 64) : Met l yX2_begin wsX2_begin ({ frames := 0, cells := 0, slots := 0, locals := 0 } : Room) (va_Pc [.ref (r 4), .int (nI S)] (wA D vwCl (tyA cA) (eO tO) (xN cA r) (u, a, th, LP, tf) sz)) (va_Qi (fun (v : Int32) (z : sN) => v = nI (fct (ol S (g 0))) ∧ z.1 11 = nI (ol S (g 0)) ∧ (∀ k, k < ol S (g 0) → z.2.1 23 k = nI (of1 S (g 0) k)) ∧ (∀ i, i ≠ 11 → z.1 i = u i) ∧ (∀ i, i ≠ 23 → z.2.1 i = a i) ∧ z.2.2 = (th, LP, tf)) (wB D vwCl (tyA cA) (xN cA r) (va_A (xN cA r (u, a, th, LP, tf)) sz)) (va_A (xN cA r (u, a, th, LP, tf)) sz)) 0 0 (va_A (xN cA r (u, a, th, LP, tf)) sz) := by
  refine Met.ofW (cc := cX2_begin) (maxL := 3) (ret := (some .int)) (by decide) rfl ?_
  intro p e s m args below meth c s₁ B hml hv
  obtain ⟨rfl, hsz, hP, hK, hD0, hE⟩ := hv
  have hx := B.exec
  have hb := B.bytes
  have hr := B.returns
  have hts := atoms_spec (ws := wsX2_begin) B.pre
  have hown : s.vm.findClass RX2 = some m.cls := findClass_of_methodNamed B.named
  have hlocks := B.notSynchronized
  subst hsz
  have hD := hD0.self (sz := s.heap.size)
  generalize hAe : va_A (xN cA r (u, a, th, LP, tf)) s.heap.size = A at hD hE ⊢
  have hA : ∀ q : Nat, s.heap.size ≤ q → A q := fun q h => by rw [← hAe]; exact Or.inr h
  have hS : va_S A s.heap s.heap [] := va_S.rf
  have hinX2 : ∀ w ∈ u_ws RX2 TX2 6, w ∈ wsX2_begin := by decide +kernel
  have hinX5 : ∀ w ∈ u_ws RX5 TX5 8, w ∈ wsX2_begin := by decide +kernel
  have hl := lv_entry ([.ref (r 4), .int (nI S)]) (n := 3) (Nat.le_of_ble_eq_true rfl)
  rw [lg_entry_eq]
  generalize (lg_sl ([.ref (r 4), .int (nI S)]) ++ List.replicate (3 - (lg_sl ([.ref (r 4), .int (nI S)])).length) Slot.unset).toArray = ls at hl ⊢
  have hl : lv_has ls 3 [(0, .ref (r 4)), (1, .int (nI S))] := hl
  have hg6 := hB.1
  refine lv_aload_n hx hb dX2_begin_0 rfl (lv_at hl 0 rfl) ?_
  refine lv_iconst (v := (nI 0)) hx hb dX2_begin_1 rfl ?_
  refine va_put (D := D) (ci := 2) (v := .int (nI 0)) (ty := .int) (C := RX2) (T := TX2) (N := 6) hx hb hts hinX2 tyX2 tyX2_ok nmX2 hown hK hP hD hS 4 rfl rfl 2 (by decide) (hts (.fieldLink RX2 15 "OneNail$Orders" "length" "I") (by decide +kernel)) (fun _ h9 => h9) rfl (by decide +kernel) rfl rfl (Nat.le_of_ble_eq_true rfl) dX2_begin_2 (fun H locs hP hD hS => ?_)
  have hP : va_P D vwCl (xN cA r ((upd u 11 (nI 0)), a, th, LP, tf)) H := hP
  have hD : va_D A (xN cA r ((upd u 11 (nI 0)), a, th, LP, tf)) := hD
  refine lv_iconst (v := (nI 0)) hx hb dX2_begin_5 rfl ?_
  refine lv_istore_n (lv' := [(2, .int (nI 0)), (0, .ref (r 4)), (1, .int (nI S))]) hx hb dX2_begin_6 rfl hl (by decide) rfl (fun ls hl => ?_)
  refine wLoop (τ := Nat × (Nat → Int32) × (Nat → Nat → Int32)) (fun z H locs ls => (fun (x : Nat) (u1007 : (Nat → Int32)) (a1007 : (Nat → Nat → Int32)) => (x ≤ g 0) ∧ (u1007 11 = nI (ol S x)) ∧ (∀ k, k < ol S x → a1007 23 k = nI (of1 S x k)) ∧ (∀ i : Nat, i ≠ 11 → u1007 i = u i) ∧ (∀ i : Nat, i ≠ 23 → a1007 i = a i) ∧ (va_P D vwCl (xN cA r (u1007, a1007, th, LP, tf)) H) ∧ (va_D A (xN cA r (u1007, a1007, th, LP, tf))) ∧ (va_S A s.heap H locs) ∧ (lv_has ls 3 [(2, .int (nI x)), (0, .ref (r 4)), (1, .int (nI S))])) z.1 z.2.1 z.2.2) (fun z => (fun (x : Nat) (u1007 : (Nat → Int32)) (a1007 : (Nat → Nat → Int32)) => g 0 - x) z.1 z.2.1 z.2.2) (0, (upd u 11 (nI 0)), a) ⟨(show 0 ≤ g 0 from Nat.zero_le _), (show (upd u 11 (nI 0)) 11 = nI (ol S 0) from rfl), (show ∀ k, k < ol S 0 → a 23 k = nI (of1 S 0 k) from (fun k h => absurd h (Nat.not_lt_zero k))), (fun i h11 => up_ne h11), (fun i h23 => rfl), hP, hD, hS, lv_sub hl [0, 1, 2] rfl⟩ ?_
  rintro ⟨x, u1007, a1007⟩ H locs ls ⟨hx1, hu11, hrow, hfu7, hfa7, hP, hD, hS, hl⟩ ih7
  have hx1 : x ≤ g 0 := hx1
  have hu11 : u1007 11 = nI (ol S x) := hu11
  have hrow : ∀ k, k < ol S x → a1007 23 k = nI (of1 S x k) := hrow
  have hfu7 : ∀ i : Nat, i ≠ 11 → u1007 i = u i := hfu7
  have hfa7 : ∀ i : Nat, i ≠ 23 → a1007 i = a i := hfa7
  have hP : va_P D vwCl (xN cA r (u1007, a1007, th, LP, tf)) H := hP
  have hD : va_D A (xN cA r (u1007, a1007, th, LP, tf)) := hD
  have hl : lv_has ls 3 [(2, .int (nI x)), (0, .ref (r 4)), (1, .int (nI S))] := hl
  refine lv_iload_n hx hb dX2_begin_7 rfl (lv_at hl 0 rfl) ?_
  refine lv_aload_n hx hb dX2_begin_8 rfl (lv_at hl 1 rfl) ?_
  refine va_get (D := D) (ci := 2) (v := .ref (r 1)) (C := RX2) (T := TX2) (N := 6) hx hb hts hinX2 hown hK hP 4 rfl rfl 0 (by decide) (hts (.fieldLink RX2 28 "OneNail$Orders" "town" "LOneNail$Street;") (by decide +kernel)) (fun _ h9 => h9) rfl dX2_begin_9 ?_
  refine va_get (D := D) (ci := 5) (v := .int (nI (g 0))) (C := RX5) (T := TX5) (N := 8) hx hb hts hinX5 hown hK hP 1 rfl rfl 0 (by decide) (hts (.fieldLink RX2 64 "OneNail$Street" "count" "I") (by decide +kernel)) (fun _ h9 => h9) (congrArg (fun z => some (Value.int z)) ((hfu7 1 (by decide)).trans (hM.1))) dX2_begin_12 ?_
  refine rn_ge (x := x) (y := g 0) (tgt := 53) hx hb (by omega) (by omega) dX2_begin_15 (by decide) (fun c_1 => ?_) (fun c_1 => ?_)
  · have hxe : x = g 0 := by omega
    have holx := ol_le S x
    refine va_gets (v := .ref tO) hx hb hE.1 hS hown (hts (.fieldLink RX2 67 "OneNail$Orders" "ORDERS_OF" "[I") (by decide +kernel)) (fun _ h9 => h9) dX2_begin_53 ?_
    refine lv_aload_n hx hb dX2_begin_56 rfl (lv_at hl 1 rfl) ?_
    refine va_get (D := D) (ci := 2) (v := .int (nI (ol S x))) (C := RX2) (T := TX2) (N := 6) hx hb hts hinX2 hown hK hP 4 rfl rfl 2 (by decide) (hts (.fieldLink RX2 15 "OneNail$Orders" "length" "I") (by decide +kernel)) (fun _ h9 => h9) (congrArg (fun z => some (Value.int z)) (hu11)) dX2_begin_57 ?_
    refine va_ti hx hb hE.2 hS (vp_in_nI (by omega) (by decide)) (v := .int (nI (fct (ol S x)))) (by rw [nI_clamp (by omega)]; rfl) dX2_begin_60 ?_
    exact wIret hx hb hr hlocks (v := (nI (fct (ol S x)))) (u1007, a1007, th, LP, tf) (⟨by rw [hxe], by rw [← hxe]; exact hu11, by rw [← hxe]; exact hrow, (fun i h11 => hfu7 i h11), (fun i h23 => hfa7 i h23), rfl⟩) hK hP hD hS dX2_begin_61
  · have hbx := bi_lt S x
    have holx := ol_le S x
    refine lv_iload_n hx hb dX2_begin_18 rfl (lv_at hl 2 rfl) ?_
    refine lv_iload_n hx hb dX2_begin_19 rfl (lv_at hl 0 rfl) ?_
    refine lv_ishr hx hb dX2_begin_20 ?_
    refine lv_iconst (v := (nI 1)) hx hb dX2_begin_21 rfl ?_
    refine lv_iand hx hb dX2_begin_22 ?_
    refine lv_topi (fun y_2 ey_2 => ?_)
    obtain rfl : y_2 = (nI (bi S x)) := ey_2.trans (bi_row S hS64 x (by omega))
    refine lv_iconst (v := (nI 1)) hx hb dX2_begin_23 rfl ?_
    refine rn_ne (x := bi S x) (y := 1) (tgt := 47) hx hb (by omega) (by omega) dX2_begin_24 (by decide) (fun c_3 => ?_) (fun c_3 => ?_)
    · refine rn_iinc (x := x) (d := 1) (lv' := [(2, .int (nI (x + 1))), (0, .ref (r 4)), (1, .int (nI S))]) hx hb rfl dX2_begin_47 hl (k := 0) rfl (by decide) rfl (fun ls hl => ?_)
      refine lv_goto (tgt := 7) hx hb dX2_begin_50 (by decide) ?_
      exact ih7 ((x + 1), u1007, a1007) _ _ _ (show g 0 - (x + 1) < g 0 - x from by omega) ⟨(show (x + 1) ≤ g 0 from by omega), (show u1007 11 = nI (ol S (x + 1)) from (hu11.trans (congrArg nI (by rw [ol, if_neg (by omega)])))), (show ∀ k, k < ol S (x + 1) → a1007 23 k = nI (of1 S (x + 1) k) from (of_keep hrow (by omega))), (fun i h11 => hfu7 i h11), (fun i h23 => hfa7 i h23), hP, hD, hS, lv_sub hl [0, 1, 2] rfl⟩
    · refine lv_aload_n hx hb dX2_begin_27 rfl (lv_at hl 1 rfl) ?_
      refine va_get (D := D) (ci := 2) (v := .ref (r 23)) (C := RX2) (T := TX2) (N := 6) hx hb hts hinX2 hown hK hP 4 rfl rfl 1 (by decide) (hts (.fieldLink RX2 9 "OneNail$Orders" "row" "[I") (by decide +kernel)) (fun _ h9 => h9) rfl dX2_begin_28 ?_
      refine lv_aload_n hx hb dX2_begin_31 rfl (lv_at hl 1 rfl) ?_
      refine va_get (D := D) (ci := 2) (v := .int (nI (ol S x))) (C := RX2) (T := TX2) (N := 6) hx hb hts hinX2 hown hK hP 4 rfl rfl 2 (by decide) (hts (.fieldLink RX2 15 "OneNail$Orders" "length" "I") (by decide +kernel)) (fun _ h9 => h9) (congrArg (fun z => some (Value.int z)) (hu11)) dX2_begin_32 ?_
      refine lv_iload_n hx hb dX2_begin_35 rfl (lv_at hl 0 rfl) ?_
      refine ra_iast hx hb hK hP hD hS 23 0 (n := 6) (f := (a1007 23)) (j := ol S x) (x := (nI x)) rfl rfl (by omega) (by decide) dX2_begin_36 (fun H locs hP hD hS => ?_)
      have hP : va_P D vwCl (xN cA r (u1007, (va_up a1007 23 (upd (a1007 23) (ol S x) (nI x))), th, LP, tf)) H := hP
      have hD : va_D A (xN cA r (u1007, (va_up a1007 23 (upd (a1007 23) (ol S x) (nI x))), th, LP, tf)) := hD
      refine lv_aload_n hx hb dX2_begin_37 rfl (lv_at hl 1 rfl) ?_
      refine lv_dup hx hb dX2_begin_38 rfl ?_
      refine va_get (D := D) (ci := 2) (v := .int (nI (ol S x))) (C := RX2) (T := TX2) (N := 6) hx hb hts hinX2 hown hK hP 4 rfl rfl 2 (by decide) (hts (.fieldLink RX2 15 "OneNail$Orders" "length" "I") (by decide +kernel)) (fun _ h9 => h9) (congrArg (fun z => some (Value.int z)) (hu11)) dX2_begin_39 ?_
      refine lv_iconst (v := (nI 1)) hx hb dX2_begin_42 rfl ?_
      refine rn_iadd (x := ol S x) (y := 1) hx hb dX2_begin_43 ?_
      refine va_put (D := D) (ci := 2) (v := .int (nI ((ol S x) + 1))) (ty := .int) (C := RX2) (T := TX2) (N := 6) hx hb hts hinX2 tyX2 tyX2_ok nmX2 hown hK hP hD hS 4 rfl rfl 2 (by decide) (hts (.fieldLink RX2 15 "OneNail$Orders" "length" "I") (by decide +kernel)) (fun _ h9 => h9) rfl (by decide +kernel) rfl rfl (Nat.le_of_ble_eq_true rfl) dX2_begin_44 (fun H locs hP hD hS => ?_)
      have hP : va_P D vwCl (xN cA r ((upd u1007 11 (nI ((ol S x) + 1))), (va_up a1007 23 (upd (a1007 23) (ol S x) (nI x))), th, LP, tf)) H := hP
      have hD : va_D A (xN cA r ((upd u1007 11 (nI ((ol S x) + 1))), (va_up a1007 23 (upd (a1007 23) (ol S x) (nI x))), th, LP, tf)) := hD
      refine rn_iinc (x := x) (d := 1) (lv' := [(2, .int (nI (x + 1))), (0, .ref (r 4)), (1, .int (nI S))]) hx hb rfl dX2_begin_47 hl (k := 0) rfl (by decide) rfl (fun ls hl => ?_)
      refine lv_goto (tgt := 7) hx hb dX2_begin_50 (by decide) ?_
      exact ih7 ((x + 1), (upd u1007 11 (nI ((ol S x) + 1))), (va_up a1007 23 (upd (a1007 23) (ol S x) (nI x)))) _ _ _ (show g 0 - (x + 1) < g 0 - x from by omega) ⟨(show (x + 1) ≤ g 0 from by omega), (show (upd u1007 11 (nI ((ol S x) + 1))) 11 = nI (ol S (x + 1)) from (congrArg nI (by rw [ol, if_pos (by omega)]))), (show ∀ k, k < ol S (x + 1) → (va_up a1007 23 (upd (a1007 23) (ol S x) (nI x))) 23 k = nI (of1 S (x + 1) k) from (show ∀ k, k < ol S (x + 1) → (upd (a1007 23) (ol S x) (nI x)) k = nI (of1 S (x + 1) k) from of_push hrow (by omega))), (fun i h11 => Eq.trans (up_ne h11) (hfu7 i h11)), (fun i h23 => Eq.trans (vup_ne h23) (hfa7 i h23)), hP, hD, hS, lv_sub hl [0, 1, 2] rfl⟩
