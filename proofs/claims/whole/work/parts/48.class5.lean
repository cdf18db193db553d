theorem mk_up {f : Nat → Int32} {fm : Nat → Nat} {w x : Nat} (h : ∀ q, q < 300 → f q = nI (fm q)) : ∀ q, q < 300 → upd f w (nI (fm w ||| 2 ^ x)) q = nI (if q = w then fm q ||| 2 ^ x else fm q) := fun q hq => by
  by_cases e : q = w
  · rw [if_pos e, e, up_eq]
  · rw [if_neg e, up_ne e]; exact h q hq
set_option maxHeartbeats 4000000 in
set_option maxRecDepth 100000 in
theorem kX8_begin (l : Launch) (D : va_G) (cA : Nat → ClassId) (r : Nat → Nat) (sz : Nat) (u : Nat → Int32) (a : Nat → Nat → Int32) (th : Nat → Option Nat) (LP : List Nat) (tf : Nat → va_E) (tO : Nat) (g : Nat → Nat) (T : Nat → Nat → Nat) (hM : NT u a g T) (hB : TB g T) (hsm : u 2 = nI (g 1)) : Met l yX8_begin wsX8_begin ({ frames := 0, cells := 0, slots := 0, locals := 0 } : Room) (va_Pc [.ref (r 3)] (wA D vwCl (tyA cA) (eO tO) (xN cA r) (u, a, th, LP, tf) sz)) (va_Qv (fun (z : sN) => z.1 6 = nI 0 ∧ z.1 7 = nI (g 1) ∧ z.1 8 = nI 0 ∧ (∀ x, x < g 0 → z.2.1 21 x = nI (hd g T x)) ∧ (∀ i, i ≠ 6 → i ≠ 7 → i ≠ 8 → z.1 i = u i) ∧ (∀ i, i ≠ 21 → z.2.1 i = a i) ∧ z.2.2 = (th, LP, tf)) (wB D vwCl (tyA cA) (xN cA r) (va_A (xN cA r (u, a, th, LP, tf)) sz)) (va_A (xN cA r (u, a, th, LP, tf)) sz)) 0 0 (va_A (xN cA r (u, a, th, LP, tf)) sz) := by
  refine Met.ofW (cc := cX8_begin) (maxL := 2) (ret := none) (by decide) rfl ?_
  intro p e s m args below meth c s₁ B hml hv
  obtain ⟨rfl, hsz, hP, hK, hD0, hE⟩ := hv
  have hx := B.exec
  have hb := B.bytes
  have hr := B.returns
  have hts := atoms_spec (ws := wsX8_begin) B.pre
  have hown : s.vm.findClass RX8 = some m.cls := findClass_of_methodNamed B.named
  have hlocks := B.notSynchronized
  subst hsz
  have hD := hD0.self (sz := s.heap.size)
  generalize hAe : va_A (xN cA r (u, a, th, LP, tf)) s.heap.size = A at hD hE ⊢
  have hA : ∀ q : Nat, s.heap.size ≤ q → A q := fun q h => by rw [← hAe]; exact Or.inr h
  have hS : va_S A s.heap s.heap [] := va_S.rf
  have hinX5 : ∀ w ∈ u_ws RX5 TX5 8, w ∈ wsX8_begin := by decide +kernel
  have hinX8 : ∀ w ∈ u_ws RX8 TX8 10, w ∈ wsX8_begin := by decide +kernel
  have hl := lv_entry ([.ref (r 3)]) (n := 2) (Nat.le_of_ble_eq_true rfl)
  rw [lg_entry_eq]
  generalize (lg_sl ([.ref (r 3)]) ++ List.replicate (2 - (lg_sl ([.ref (r 3)])).length) Slot.unset).toArray = ls at hl ⊢
  have hl : lv_has ls 2 [(0, .ref (r 3))] := hl
  have hg6 := hB.1
  refine lv_aload_n hx hb dX8_begin_0 rfl (lv_at hl 0 rfl) ?_
  refine lv_iconst (v := (nI 0)) hx hb dX8_begin_1 rfl ?_
  refine va_put (D := D) (ci := 8) (v := .int (nI 0)) (ty := .int) (C := RX8) (T := TX8) (N := 10) hx hb hts hinX8 tyX8 tyX8_ok nmX8 hown hK hP hD hS 3 rfl rfl 5 (by decide) (hts (.fieldLink RX8 25 "OneNail$Walk" "spot" "I") (by decide +kernel)) (fun _ h9 => h9) rfl (by decide +kernel) rfl rfl (Nat.le_of_ble_eq_true rfl) dX8_begin_2 (fun H locs hP hD hS => ?_)
  have hP : va_P D vwCl (xN cA r ((upd u 6 (nI 0)), a, th, LP, tf)) H := hP
  have hD : va_D A (xN cA r ((upd u 6 (nI 0)), a, th, LP, tf)) := hD
  refine lv_aload_n hx hb dX8_begin_5 rfl (lv_at hl 0 rfl) ?_
  refine lv_aload_n hx hb dX8_begin_6 rfl (lv_at hl 0 rfl) ?_
  refine va_get (D := D) (ci := 8) (v := .ref (r 1)) (C := RX8) (T := TX8) (N := 10) hx hb hts hinX8 hown hK hP 3 rfl rfl 0 (by decide) (hts (.fieldLink RX8 40 "OneNail$Walk" "town" "LOneNail$Street;") (by decide +kernel)) (fun _ h9 => h9) rfl dX8_begin_7 ?_
  refine va_get (D := D) (ci := 5) (v := .int (nI (g 1))) (C := RX5) (T := TX5) (N := 8) hx hb hts hinX5 hown hK hP 1 rfl rfl 1 (by decide) (hts (.fieldLink RX8 56 "OneNail$Street" "smithyPlace" "I") (by decide +kernel)) (fun _ h9 => h9) (congrArg (fun z => some (Value.int z)) (hsm)) dX8_begin_10 ?_
  refine va_put (D := D) (ci := 8) (v := .int (nI (g 1))) (ty := .int) (C := RX8) (T := TX8) (N := 10) hx hb hts hinX8 tyX8 tyX8_ok nmX8 hown hK hP hD hS 3 rfl rfl 6 (by decide) (hts (.fieldLink RX8 28 "OneNail$Walk" "from" "I") (by decide +kernel)) (fun _ h9 => h9) rfl (by decide +kernel) rfl rfl (Nat.le_of_ble_eq_true rfl) dX8_begin_13 (fun H locs hP hD hS => ?_)
  have hP : va_P D vwCl (xN cA r ((upd (upd u 6 (nI 0)) 7 (nI (g 1))), a, th, LP, tf)) H := hP
  have hD : va_D A (xN cA r ((upd (upd u 6 (nI 0)) 7 (nI (g 1))), a, th, LP, tf)) := hD
  refine lv_aload_n hx hb dX8_begin_16 rfl (lv_at hl 0 rfl) ?_
  refine lv_iconst (v := (nI 0)) hx hb dX8_begin_17 rfl ?_
  refine va_put (D := D) (ci := 8) (v := .int (nI 0)) (ty := .int) (C := RX8) (T := TX8) (N := 10) hx hb hts hinX8 tyX8 tyX8_ok nmX8 hown hK hP hD hS 3 rfl rfl 7 (by decide) (hts (.fieldLink RX8 31 "OneNail$Walk" "leaves" "I") (by decide +kernel)) (fun _ h9 => h9) rfl (by decide +kernel) rfl rfl (Nat.le_of_ble_eq_true rfl) dX8_begin_18 (fun H locs hP hD hS => ?_)
  have hP : va_P D vwCl (xN cA r ((upd (upd (upd u 6 (nI 0)) 7 (nI (g 1))) 8 (nI 0)), a, th, LP, tf)) H := hP
  have hD : va_D A (xN cA r ((upd (upd (upd u 6 (nI 0)) 7 (nI (g 1))) 8 (nI 0)), a, th, LP, tf)) := hD
  refine lv_iconst (v := (nI 0)) hx hb dX8_begin_21 rfl ?_
  refine lv_istore_n (lv' := [(1, .int (nI 0)), (0, .ref (r 3))]) hx hb dX8_begin_22 rfl hl (by decide) rfl (fun ls hl => ?_)
  refine wLoop (τ := Nat × (Nat → Nat → Int32)) (fun z H locs ls => (fun (x : Nat) (a1023 : (Nat → Nat → Int32)) => (x ≤ g 0) ∧ (∀ j, j < x → a1023 21 j = nI (hd g T j)) ∧ (∀ i : Nat, i ≠ 21 → a1023 i = a i) ∧ (va_P D vwCl (xN cA r ((upd (upd (upd u 6 (nI 0)) 7 (nI (g 1))) 8 (nI 0)), a1023, th, LP, tf)) H) ∧ (va_D A (xN cA r ((upd (upd (upd u 6 (nI 0)) 7 (nI (g 1))) 8 (nI 0)), a1023, th, LP, tf))) ∧ (va_S A s.heap H locs) ∧ (lv_has ls 2 [(1, .int (nI x)), (0, .ref (r 3))])) z.1 z.2) (fun z => (fun (x : Nat) (a1023 : (Nat → Nat → Int32)) => g 0 - x) z.1 z.2) (0, a) ⟨(show 0 ≤ g 0 from Nat.zero_le _), (show ∀ j, j < 0 → a 21 j = nI (hd g T j) from (fun j h => absurd h (Nat.not_lt_zero j))), (fun i h21 => rfl), hP, hD, hS, lv_sub hl [0, 1] rfl⟩ ?_
  rintro ⟨x, a1023⟩ H locs ls ⟨hx1, hun, hfa23, hP, hD, hS, hl⟩ ih23
  have hx1 : x ≤ g 0 := hx1
  have hun : ∀ j, j < x → a1023 21 j = nI (hd g T j) := hun
  have hfa23 : ∀ i : Nat, i ≠ 21 → a1023 i = a i := hfa23
  have hP : va_P D vwCl (xN cA r ((upd (upd (upd u 6 (nI 0)) 7 (nI (g 1))) 8 (nI 0)), a1023, th, LP, tf)) H := hP
  have hD : va_D A (xN cA r ((upd (upd (upd u 6 (nI 0)) 7 (nI (g 1))) 8 (nI 0)), a1023, th, LP, tf)) := hD
  have hl : lv_has ls 2 [(1, .int (nI x)), (0, .ref (r 3))] := hl
  refine lv_iload_n hx hb dX8_begin_23 rfl (lv_at hl 0 rfl) ?_
  refine lv_aload_n hx hb dX8_begin_24 rfl (lv_at hl 1 rfl) ?_
  refine va_get (D := D) (ci := 8) (v := .ref (r 1)) (C := RX8) (T := TX8) (N := 10) hx hb hts hinX8 hown hK hP 3 rfl rfl 0 (by decide) (hts (.fieldLink RX8 40 "OneNail$Walk" "town" "LOneNail$Street;") (by decide +kernel)) (fun _ h9 => h9) rfl dX8_begin_25 ?_
  refine va_get (D := D) (ci := 5) (v := .int (nI (g 0))) (C := RX5) (T := TX5) (N := 8) hx hb hts hinX5 hown hK hP 1 rfl rfl 0 (by decide) (hts (.fieldLink RX8 61 "OneNail$Street" "count" "I") (by decide +kernel)) (fun _ h9 => h9) (congrArg (fun z => some (Value.int z)) (hM.1)) dX8_begin_28 ?_
  refine rn_ge (x := x) (y := g 0) (tgt := 55) hx hb (by omega) (by omega) dX8_begin_31 (by decide) (fun c_1 => ?_) (fun c_1 => ?_)
  · exact wVret hx hb hr hlocks ((upd (upd (upd u 6 (nI 0)) 7 (nI (g 1))) 8 (nI 0)), a1023, th, LP, tf) (⟨rfl, rfl, rfl, fun y hy => hun y (by omega), (fun i h6 h7 h8 => Eq.trans (up_ne h8) (Eq.trans (up_ne h7) (up_ne h6))), (fun i h21 => hfa23 i h21), rfl⟩) hK hP hD hS dX8_begin_55
  · have hdx := hd_le hB (show x < g 0 by omega)
    refine lv_aload_n hx hb dX8_begin_34 rfl (lv_at hl 1 rfl) ?_
    refine va_get (D := D) (ci := 8) (v := .ref (r 21)) (C := RX8) (T := TX8) (N := 10) hx hb hts hinX8 hown hK hP 3 rfl rfl 3 (by decide) (hts (.fieldLink RX8 19 "OneNail$Walk" "until" "[I") (by decide +kernel)) (fun _ h9 => h9) rfl dX8_begin_35 ?_
    refine lv_iload_n hx hb dX8_begin_38 rfl (lv_at hl 0 rfl) ?_
    refine lv_aload_n hx hb dX8_begin_39 rfl (lv_at hl 1 rfl) ?_
    refine va_get (D := D) (ci := 8) (v := .ref (r 1)) (C := RX8) (T := TX8) (N := 10) hx hb hts hinX8 hown hK hP 3 rfl rfl 0 (by decide) (hts (.fieldLink RX8 40 "OneNail$Walk" "town" "LOneNail$Street;") (by decide +kernel)) (fun _ h9 => h9) rfl dX8_begin_40 ?_
    refine va_get (D := D) (ci := 5) (v := .ref (r 16)) (C := RX5) (T := TX5) (N := 8) hx hb hts hinX5 hown hK hP 1 rfl rfl 7 (by decide) (hts (.fieldLink RX8 64 "OneNail$Street" "holds" "[I") (by decide +kernel)) (fun _ h9 => h9) rfl dX8_begin_43 ?_
    refine lv_iload_n hx hb dX8_begin_46 rfl (lv_at hl 0 rfl) ?_
    refine ra_iald hx hb hK hP 16 0 (n := 6) (f := (a1023 16)) (j := x) (v := (nI (hd g T x))) rfl rfl (by omega) (by decide) ((congrFun (hfa23 16 (by decide)) (x)).trans ((hM.2 (x) (by omega)).2.2.2)) dX8_begin_47 ?_
    refine ra_iast hx hb hK hP hD hS 21 0 (n := 6) (f := (a1023 21)) (j := x) (x := (nI (hd g T x))) rfl rfl (by omega) (by decide) dX8_begin_48 (fun H locs hP hD hS => ?_)
    have hP : va_P D vwCl (xN cA r ((upd (upd (upd u 6 (nI 0)) 7 (nI (g 1))) 8 (nI 0)), (va_up a1023 21 (upd (a1023 21) x (nI (hd g T x)))), th, LP, tf)) H := hP
    have hD : va_D A (xN cA r ((upd (upd (upd u 6 (nI 0)) 7 (nI (g 1))) 8 (nI 0)), (va_up a1023 21 (upd (a1023 21) x (nI (hd g T x)))), th, LP, tf)) := hD
    refine rn_iinc (x := x) (d := 1) (lv' := [(1, .int (nI (x + 1))), (0, .ref (r 3))]) hx hb rfl dX8_begin_49 hl (k := 0) rfl (by decide) rfl (fun ls hl => ?_)
    refine lv_goto (tgt := 23) hx hb dX8_begin_52 (by decide) ?_
    exact ih23 ((x + 1), (va_up a1023 21 (upd (a1023 21) x (nI (hd g T x))))) _ _ _ (show g 0 - (x + 1) < g 0 - x from by omega) ⟨(show (x + 1) ≤ g 0 from by omega), (show ∀ j, j < (x + 1) → (va_up a1023 21 (upd (a1023 21) x (nI (hd g T x)))) 21 j = nI (hd g T j) from (show ∀ j, j < x + 1 → (upd (a1023 21) x (nI (hd g T x))) j = nI (hd g T j) from arr_push (F := fun j => nI (hd g T j)) hun rfl)), (fun i h21 => Eq.trans (vup_ne h21) (hfa23 i h21)), hP, hD, hS, lv_sub hl [0, 1] rfl⟩

set_option maxHeartbeats 4000000 in
set_option maxRecDepth 100000 in
theorem kX8_goOn (l : Launch) (D : va_G) (cA : Nat → ClassId) (r : Nat → Nat) (sz : Nat) (u : Nat → Int32) (a : Nat → Nat → Int32) (th : Nat → Option Nat) (LP : List Nat) (tf : Nat → va_E) (tO : Nat) (g : Nat → Nat) (T : Nat → Nat → Nat) (ro : Nat → Nat) (L k fr lv : Nat) (hM : NT u a g T) (hB : TB g T) (hL0 : 0 < L) (hL8 : L ≤ 8) (hLw : u 5 = nI L) (hrow : ∀ j, j < L → a 20 j = nI (ro j)) (hrg : ∀ j, j < L → ro j < g 0) (hk4 : k ≤ 400) (h6 : u 6 = nI (k % L)) (h7 : u 7 = nI fr) (h8 : u 8 = nI lv) (hwi : wI g T ro L k fr lv) : Met l yX8_goOn wsX8_goOn ({ frames := 1, cells := 0, slots := 0, locals := 25 } : Room) (va_Pc [.ref (r 3)] (wA D vwCl (tyA cA) (eO tO) (xN cA r) (u, a, th, LP, tf) sz)) (va_Qv (fun (z : sN) => z.1 9 = nI (ro (k % L)) ∧ z.1 10 = nI (ct g T ro L k) ∧ z.1 6 = nI ((k + 1) % L) ∧ z.1 7 = nI (T 1 (ro (k % L))) ∧ z.1 8 = nI (ct g T ro L k + T 2 (ro (k % L))) ∧ (∀ i, i ≠ 6 → i ≠ 7 → i ≠ 8 → i ≠ 9 → i ≠ 10 → z.1 i = u i) ∧ (∀ i, z.2.1 i = a i) ∧ z.2.2 = (th, LP, tf)) (wB D vwCl (tyA cA) (xN cA r) (va_A (xN cA r (u, a, th, LP, tf)) sz)) (va_A (xN cA r (u, a, th, LP, tf)) sz)) 0 0 (va_A (xN cA r (u, a, th, LP, tf)) sz) := by
  refine Met.ofW (cc := cX8_goOn) (maxL := 1) (ret := none) (by decide) rfl ?_
  intro p e s m args below meth c s₁ B hml hv
  obtain ⟨rfl, hsz, hP, hK, hD0, hE⟩ := hv
  have hx := B.exec
  have hb := B.bytes
  have hr := B.returns
  have hts := atoms_spec (ws := wsX8_goOn) B.pre
  have hown : s.vm.findClass RX8 = some m.cls := findClass_of_methodNamed B.named
  have hlocks := B.notSynchronized
  subst hsz
  have hD := hD0.self (sz := s.heap.size)
  generalize hAe : va_A (xN cA r (u, a, th, LP, tf)) s.heap.size = A at hD hE ⊢
  have hA : ∀ q : Nat, s.heap.size ≤ q → A q := fun q h => by rw [← hAe]; exact Or.inr h
  have hS : va_S A s.heap s.heap [] := va_S.rf
  have hinX5 : ∀ w ∈ u_ws RX5 TX5 8, w ∈ wsX8_goOn := by decide +kernel
  have hinX8 : ∀ w ∈ u_ws RX8 TX8 10, w ∈ wsX8_goOn := by decide +kernel
  have hl := lv_entry ([.ref (r 3)]) (n := 1) (Nat.le_of_ble_eq_true rfl)
  rw [lg_entry_eq]
  generalize (lg_sl ([.ref (r 3)]) ++ List.replicate (1 - (lg_sl ([.ref (r 3)])).length) Slot.unset).toArray = ls at hl ⊢
  have hl : lv_has ls 1 [(0, .ref (r 3))] := hl
  have hg6 := hB.1
  have hkm := Nat.mod_lt k hL0
  have hrk := hrg _ hkm
  have hTk := hB.2.2.2 _ hrk
  have hwb := wI_b hB hL0 hrg hwi
  have hwc := wI_ct hL0 hwi
  have hcl := ct_le hB hL0 hrg k
  have hmd := md_le hwb.1 hTk.2.1
  refine lv_aload_n hx hb dX8_goOn_0 rfl (lv_at hl 0 rfl) ?_
  refine lv_aload_n hx hb dX8_goOn_1 rfl (lv_at hl 0 rfl) ?_
  refine va_get (D := D) (ci := 8) (v := .ref (r 20)) (C := RX8) (T := TX8) (N := 10) hx hb hts hinX8 hown hK hP 3 rfl rfl 1 (by decide) (hts (.fieldLink RX8 9 "OneNail$Walk" "round" "[I") (by decide +kernel)) (fun _ h9 => h9) rfl dX8_goOn_2 ?_
  refine lv_aload_n hx hb dX8_goOn_5 rfl (lv_at hl 0 rfl) ?_
  refine va_get (D := D) (ci := 8) (v := .int (nI (k % L))) (C := RX8) (T := TX8) (N := 10) hx hb hts hinX8 hown hK hP 3 rfl rfl 5 (by decide) (hts (.fieldLink RX8 25 "OneNail$Walk" "spot" "I") (by decide +kernel)) (fun _ h9 => h9) (congrArg (fun z => some (Value.int z)) (h6)) dX8_goOn_6 ?_
  refine ra_iald hx hb hK hP 20 0 (n := 8) (f := (a 20)) (j := k % L) (v := (nI (ro (k % L)))) rfl rfl (by omega) (by decide) (hrow (k % L) (by omega)) dX8_goOn_9 ?_
  refine va_put (D := D) (ci := 8) (v := .int (nI (ro (k % L)))) (ty := .int) (C := RX8) (T := TX8) (N := 10) hx hb hts hinX8 tyX8 tyX8_ok nmX8 hown hK hP hD hS 3 rfl rfl 8 (by decide) (hts (.fieldLink RX8 34 "OneNail$Walk" "thing" "I") (by decide +kernel)) (fun _ h9 => h9) rfl (by decide +kernel) rfl rfl (Nat.le_of_ble_eq_true rfl) dX8_goOn_10 (fun H locs hP hD hS => ?_)
  have hP : va_P D vwCl (xN cA r ((upd u 9 (nI (ro (k % L)))), a, th, LP, tf)) H := hP
  have hD : va_D A (xN cA r ((upd u 9 (nI (ro (k % L)))), a, th, LP, tf)) := hD
  refine lv_aload_n hx hb dX8_goOn_13 rfl (lv_at hl 0 rfl) ?_
  refine lv_aload_n hx hb dX8_goOn_14 rfl (lv_at hl 0 rfl) ?_
  refine va_get (D := D) (ci := 8) (v := .int (nI lv)) (C := RX8) (T := TX8) (N := 10) hx hb hts hinX8 hown hK hP 3 rfl rfl 7 (by decide) (hts (.fieldLink RX8 31 "OneNail$Walk" "leaves" "I") (by decide +kernel)) (fun _ h9 => h9) (congrArg (fun z => some (Value.int z)) (h8)) dX8_goOn_15 ?_
  refine lv_aload_n hx hb dX8_goOn_18 rfl (lv_at hl 0 rfl) ?_
  refine va_get (D := D) (ci := 8) (v := .ref (r 1)) (C := RX8) (T := TX8) (N := 10) hx hb hts hinX8 hown hK hP 3 rfl rfl 0 (by decide) (hts (.fieldLink RX8 40 "OneNail$Walk" "town" "LOneNail$Street;") (by decide +kernel)) (fun _ h9 => h9) rfl dX8_goOn_19 ?_
  refine va_get (D := D) (ci := 5) (v := .ref (r 13)) (C := RX5) (T := TX5) (N := 8) hx hb hts hinX5 hown hK hP 1 rfl rfl 4 (by decide) (hts (.fieldLink RX8 67 "OneNail$Street" "places" "[I") (by decide +kernel)) (fun _ h9 => h9) rfl dX8_goOn_22 ?_
  refine lv_aload_n hx hb dX8_goOn_25 rfl (lv_at hl 0 rfl) ?_
  refine va_get (D := D) (ci := 8) (v := .int (nI (ro (k % L)))) (C := RX8) (T := TX8) (N := 10) hx hb hts hinX8 hown hK hP 3 rfl rfl 8 (by decide) (hts (.fieldLink RX8 34 "OneNail$Walk" "thing" "I") (by decide +kernel)) (fun _ h9 => h9) rfl dX8_goOn_26 ?_
  refine ra_iald hx hb hK hP 13 0 (n := 6) (f := (a 13)) (j := ro (k % L)) (v := (nI (T 1 (ro (k % L))))) rfl rfl (by omega) (by decide) ((hM.2 (ro (k % L)) (by omega)).1) dX8_goOn_29 ?_
  refine lv_aload_n hx hb dX8_goOn_30 rfl (lv_at hl 0 rfl) ?_
  refine va_get (D := D) (ci := 8) (v := .int (nI fr)) (C := RX8) (T := TX8) (N := 10) hx hb hts hinX8 hown hK hP 3 rfl rfl 6 (by decide) (hts (.fieldLink RX8 28 "OneNail$Walk" "from" "I") (by decide +kernel)) (fun _ h9 => h9) (congrArg (fun z => some (Value.int z)) (h7)) dX8_goOn_31 ?_
  refine lv_isub hx hb dX8_goOn_34 ?_
  refine va_mabs hx hb (hml.trans hl.1.symm) hown (hts (.methodLink RX8 70 Lib.Math.abs.name) (by decide +kernel)) (hts (.static Lib.Math.abs.name) (by decide +kernel)) (hts (.initialized "java/lang/Math") (by decide +kernel)) (hts (.code Lib.Math.abs.name Lib.Math.abs.code 1 (some .int)) (by decide +kernel)) (Nat.le_of_ble_eq_true rfl) (Nat.le_of_ble_eq_true rfl) (Nat.zero_le _) (Nat.zero_le _) dX8_goOn_35 ?_
  refine lv_topi (fun y_1 ey_1 => ?_)
  obtain rfl : y_1 = (nI (md fr (T 1 (ro (k % L))))) := ey_1.trans (abs_row _ (by omega) _ (by omega))
  refine rn_iadd (x := lv) (y := md fr (T 1 (ro (k % L)))) hx hb dX8_goOn_38 ?_
  refine lv_topi (fun y_2 ey_2 => ?_)
  obtain rfl : y_2 = (nI (ct g T ro L k)) := ey_2.trans (congrArg nI hwc)
  refine va_put (D := D) (ci := 8) (v := .int (nI (ct g T ro L k))) (ty := .int) (C := RX8) (T := TX8) (N := 10) hx hb hts hinX8 tyX8 tyX8_ok nmX8 hown hK hP hD hS 3 rfl rfl 9 (by decide) (hts (.fieldLink RX8 37 "OneNail$Walk" "comes" "I") (by decide +kernel)) (fun _ h9 => h9) rfl (by decide +kernel) rfl rfl (Nat.le_of_ble_eq_true rfl) dX8_goOn_39 (fun H locs hP hD hS => ?_)
  have hP : va_P D vwCl (xN cA r ((upd (upd u 9 (nI (ro (k % L)))) 10 (nI (ct g T ro L k))), a, th, LP, tf)) H := hP
  have hD : va_D A (xN cA r ((upd (upd u 9 (nI (ro (k % L)))) 10 (nI (ct g T ro L k))), a, th, LP, tf)) := hD
  refine lv_aload_n hx hb dX8_goOn_42 rfl (lv_at hl 0 rfl) ?_
  refine lv_aload_n hx hb dX8_goOn_43 rfl (lv_at hl 0 rfl) ?_
  refine va_get (D := D) (ci := 8) (v := .ref (r 1)) (C := RX8) (T := TX8) (N := 10) hx hb hts hinX8 hown hK hP 3 rfl rfl 0 (by decide) (hts (.fieldLink RX8 40 "OneNail$Walk" "town" "LOneNail$Street;") (by decide +kernel)) (fun _ h9 => h9) rfl dX8_goOn_44 ?_
  refine va_get (D := D) (ci := 5) (v := .ref (r 13)) (C := RX5) (T := TX5) (N := 8) hx hb hts hinX5 hown hK hP 1 rfl rfl 4 (by decide) (hts (.fieldLink RX8 67 "OneNail$Street" "places" "[I") (by decide +kernel)) (fun _ h9 => h9) rfl dX8_goOn_47 ?_
  refine lv_aload_n hx hb dX8_goOn_50 rfl (lv_at hl 0 rfl) ?_
  refine va_get (D := D) (ci := 8) (v := .int (nI (ro (k % L)))) (C := RX8) (T := TX8) (N := 10) hx hb hts hinX8 hown hK hP 3 rfl rfl 8 (by decide) (hts (.fieldLink RX8 34 "OneNail$Walk" "thing" "I") (by decide +kernel)) (fun _ h9 => h9) rfl dX8_goOn_51 ?_
  refine ra_iald hx hb hK hP 13 0 (n := 6) (f := (a 13)) (j := ro (k % L)) (v := (nI (T 1 (ro (k % L))))) rfl rfl (by omega) (by decide) ((hM.2 (ro (k % L)) (by omega)).1) dX8_goOn_54 ?_
  refine va_put (D := D) (ci := 8) (v := .int (nI (T 1 (ro (k % L))))) (ty := .int) (C := RX8) (T := TX8) (N := 10) hx hb hts hinX8 tyX8 tyX8_ok nmX8 hown hK hP hD hS 3 rfl rfl 6 (by decide) (hts (.fieldLink RX8 28 "OneNail$Walk" "from" "I") (by decide +kernel)) (fun _ h9 => h9) rfl (by decide +kernel) rfl rfl (Nat.le_of_ble_eq_true rfl) dX8_goOn_55 (fun H locs hP hD hS => ?_)
  have hP : va_P D vwCl (xN cA r ((upd (upd (upd u 9 (nI (ro (k % L)))) 10 (nI (ct g T ro L k))) 7 (nI (T 1 (ro (k % L))))), a, th, LP, tf)) H := hP
  have hD : va_D A (xN cA r ((upd (upd (upd u 9 (nI (ro (k % L)))) 10 (nI (ct g T ro L k))) 7 (nI (T 1 (ro (k % L))))), a, th, LP, tf)) := hD
  refine lv_aload_n hx hb dX8_goOn_58 rfl (lv_at hl 0 rfl) ?_
  refine lv_aload_n hx hb dX8_goOn_59 rfl (lv_at hl 0 rfl) ?_
  refine va_get (D := D) (ci := 8) (v := .int (nI (ct g T ro L k))) (C := RX8) (T := TX8) (N := 10) hx hb hts hinX8 hown hK hP 3 rfl rfl 9 (by decide) (hts (.fieldLink RX8 37 "OneNail$Walk" "comes" "I") (by decide +kernel)) (fun _ h9 => h9) rfl dX8_goOn_60 ?_
  refine lv_aload_n hx hb dX8_goOn_63 rfl (lv_at hl 0 rfl) ?_
  refine va_get (D := D) (ci := 8) (v := .ref (r 1)) (C := RX8) (T := TX8) (N := 10) hx hb hts hinX8 hown hK hP 3 rfl rfl 0 (by decide) (hts (.fieldLink RX8 40 "OneNail$Walk" "town" "LOneNail$Street;") (by decide +kernel)) (fun _ h9 => h9) rfl dX8_goOn_64 ?_
  refine va_get (D := D) (ci := 5) (v := .ref (r 14)) (C := RX5) (T := TX5) (N := 8) hx hb hts hinX5 hown hK hP 1 rfl rfl 5 (by decide) (hts (.fieldLink RX8 73 "OneNail$Street" "stays" "[I") (by decide +kernel)) (fun _ h9 => h9) rfl dX8_goOn_67 ?_
  refine lv_aload_n hx hb dX8_goOn_70 rfl (lv_at hl 0 rfl) ?_
  refine va_get (D := D) (ci := 8) (v := .int (nI (ro (k % L)))) (C := RX8) (T := TX8) (N := 10) hx hb hts hinX8 hown hK hP 3 rfl rfl 8 (by decide) (hts (.fieldLink RX8 34 "OneNail$Walk" "thing" "I") (by decide +kernel)) (fun _ h9 => h9) rfl dX8_goOn_71 ?_
  refine ra_iald hx hb hK hP 14 0 (n := 6) (f := (a 14)) (j := ro (k % L)) (v := (nI (T 2 (ro (k % L))))) rfl rfl (by omega) (by decide) ((hM.2 (ro (k % L)) (by omega)).2.1) dX8_goOn_74 ?_
  refine rn_iadd (x := ct g T ro L k) (y := T 2 (ro (k % L))) hx hb dX8_goOn_75 ?_
  refine va_put (D := D) (ci := 8) (v := .int (nI ((ct g T ro L k) + (T 2 (ro (k % L)))))) (ty := .int) (C := RX8) (T := TX8) (N := 10) hx hb hts hinX8 tyX8 tyX8_ok nmX8 hown hK hP hD hS 3 rfl rfl 7 (by decide) (hts (.fieldLink RX8 31 "OneNail$Walk" "leaves" "I") (by decide +kernel)) (fun _ h9 => h9) rfl (by decide +kernel) rfl rfl (Nat.le_of_ble_eq_true rfl) dX8_goOn_76 (fun H locs hP hD hS => ?_)
  have hP : va_P D vwCl (xN cA r ((upd (upd (upd (upd u 9 (nI (ro (k % L)))) 10 (nI (ct g T ro L k))) 7 (nI (T 1 (ro (k % L))))) 8 (nI ((ct g T ro L k) + (T 2 (ro (k % L)))))), a, th, LP, tf)) H := hP
  have hD : va_D A (xN cA r ((upd (upd (upd (upd u 9 (nI (ro (k % L)))) 10 (nI (ct g T ro L k))) 7 (nI (T 1 (ro (k % L))))) 8 (nI ((ct g T ro L k) + (T 2 (ro (k % L)))))), a, th, LP, tf)) := hD
  refine lv_aload_n hx hb dX8_goOn_79 rfl (lv_at hl 0 rfl) ?_
  refine lv_aload_n hx hb dX8_goOn_80 rfl (lv_at hl 0 rfl) ?_
  refine va_get (D := D) (ci := 8) (v := .int (nI (k % L))) (C := RX8) (T := TX8) (N := 10) hx hb hts hinX8 hown hK hP 3 rfl rfl 5 (by decide) (hts (.fieldLink RX8 25 "OneNail$Walk" "spot" "I") (by decide +kernel)) (fun _ h9 => h9) (congrArg (fun z => some (Value.int z)) (h6)) dX8_goOn_81 ?_
  refine lv_iconst (v := (nI 1)) hx hb dX8_goOn_84 rfl ?_
  refine rn_iadd (x := k % L) (y := 1) hx hb dX8_goOn_85 ?_
  refine lv_aload_n hx hb dX8_goOn_86 rfl (lv_at hl 0 rfl) ?_
  refine va_get (D := D) (ci := 8) (v := .int (nI L)) (C := RX8) (T := TX8) (N := 10) hx hb hts hinX8 hown hK hP 3 rfl rfl 2 (by decide) (hts (.fieldLink RX8 15 "OneNail$Walk" "length" "I") (by decide +kernel)) (fun _ h9 => h9) (congrArg (fun z => some (Value.int z)) (hLw)) dX8_goOn_87 ?_
  refine rn_ge (x := (k % L) + 1) (y := L) (tgt := 102) hx hb (by omega) (by omega) dX8_goOn_90 (by decide) (fun c_3 => ?_) (fun c_3 => ?_)
  · refine lv_iconst (v := (nI 0)) hx hb dX8_goOn_102 rfl ?_
    refine lv_topi (fun y_4 ey_4 => ?_)
    obtain rfl : y_4 = (nI ((k + 1) % L)) := ey_4.trans (congrArg nI (md_s (by omega)))
    refine va_put (D := D) (ci := 8) (v := .int (nI ((k + 1) % L))) (ty := .int) (C := RX8) (T := TX8) (N := 10) hx hb hts hinX8 tyX8 tyX8_ok nmX8 hown hK hP hD hS 3 rfl rfl 5 (by decide) (hts (.fieldLink RX8 25 "OneNail$Walk" "spot" "I") (by decide +kernel)) (fun _ h9 => h9) rfl (by decide +kernel) rfl rfl (Nat.le_of_ble_eq_true rfl) dX8_goOn_103 (fun H locs hP hD hS => ?_)
    have hP : va_P D vwCl (xN cA r ((upd (upd (upd (upd (upd u 9 (nI (ro (k % L)))) 10 (nI (ct g T ro L k))) 7 (nI (T 1 (ro (k % L))))) 8 (nI ((ct g T ro L k) + (T 2 (ro (k % L)))))) 6 (nI ((k + 1) % L))), a, th, LP, tf)) H := hP
    have hD : va_D A (xN cA r ((upd (upd (upd (upd (upd u 9 (nI (ro (k % L)))) 10 (nI (ct g T ro L k))) 7 (nI (T 1 (ro (k % L))))) 8 (nI ((ct g T ro L k) + (T 2 (ro (k % L)))))) 6 (nI ((k + 1) % L))), a, th, LP, tf)) := hD
    exact wVret hx hb hr hlocks ((upd (upd (upd (upd (upd u 9 (nI (ro (k % L)))) 10 (nI (ct g T ro L k))) 7 (nI (T 1 (ro (k % L))))) 8 (nI ((ct g T ro L k) + (T 2 (ro (k % L)))))) 6 (nI ((k + 1) % L))), a, th, LP, tf) (⟨rfl, rfl, rfl, rfl, rfl, (fun i h6 h7 h8 h9 h10 => Eq.trans (up_ne h6) (Eq.trans (up_ne h8) (Eq.trans (up_ne h7) (Eq.trans (up_ne h10) (up_ne h9))))), (fun i => rfl), rfl⟩) hK hP hD hS dX8_goOn_106
  · refine lv_aload_n hx hb dX8_goOn_93 rfl (lv_at hl 0 rfl) ?_
    refine va_get (D := D) (ci := 8) (v := .int (nI (k % L))) (C := RX8) (T := TX8) (N := 10) hx hb hts hinX8 hown hK hP 3 rfl rfl 5 (by decide) (hts (.fieldLink RX8 25 "OneNail$Walk" "spot" "I") (by decide +kernel)) (fun _ h9 => h9) (congrArg (fun z => some (Value.int z)) (h6)) dX8_goOn_94 ?_
    refine lv_iconst (v := (nI 1)) hx hb dX8_goOn_97 rfl ?_
    refine rn_iadd (x := k % L) (y := 1) hx hb dX8_goOn_98 ?_
    refine lv_goto (tgt := 103) hx hb dX8_goOn_99 (by decide) ?_
    refine lv_topi (fun y_5 ey_5 => ?_)
    obtain rfl : y_5 = (nI ((k + 1) % L)) := ey_5.trans (congrArg nI (md_n hL0 (by omega)))
    refine va_put (D := D) (ci := 8) (v := .int (nI ((k + 1) % L))) (ty := .int) (C := RX8) (T := TX8) (N := 10) hx hb hts hinX8 tyX8 tyX8_ok nmX8 hown hK hP hD hS 3 rfl rfl 5 (by decide) (hts (.fieldLink RX8 25 "OneNail$Walk" "spot" "I") (by decide +kernel)) (fun _ h9 => h9) rfl (by decide +kernel) rfl rfl (Nat.le_of_ble_eq_true rfl) dX8_goOn_103 (fun H locs hP hD hS => ?_)
    have hP : va_P D vwCl (xN cA r ((upd (upd (upd (upd (upd u 9 (nI (ro (k % L)))) 10 (nI (ct g T ro L k))) 7 (nI (T 1 (ro (k % L))))) 8 (nI ((ct g T ro L k) + (T 2 (ro (k % L)))))) 6 (nI ((k + 1) % L))), a, th, LP, tf)) H := hP
    have hD : va_D A (xN cA r ((upd (upd (upd (upd (upd u 9 (nI (ro (k % L)))) 10 (nI (ct g T ro L k))) 7 (nI (T 1 (ro (k % L))))) 8 (nI ((ct g T ro L k) + (T 2 (ro (k % L)))))) 6 (nI ((k + 1) % L))), a, th, LP, tf)) := hD
    exact wVret hx hb hr hlocks ((upd (upd (upd (upd (upd u 9 (nI (ro (k % L)))) 10 (nI (ct g T ro L k))) 7 (nI (T 1 (ro (k % L))))) 8 (nI ((ct g T ro L k) + (T 2 (ro (k % L)))))) 6 (nI ((k + 1) % L))), a, th, LP, tf) (⟨rfl, rfl, rfl, rfl, rfl, (fun i h6 h7 h8 h9 h10 => Eq.trans (up_ne h6) (Eq.trans (up_ne h8) (Eq.trans (up_ne h7) (Eq.trans (up_ne h10) (up_ne h9))))), (fun i => rfl), rfl⟩) hK hP hD hS dX8_goOn_106

set_option maxHeartbeats 4000000 in
set_option maxRecDepth 100000 in
theorem kX8_nailed (l : Launch) (D : va_G) (cA : Nat → ClassId) (r : Nat → Nat) (sz : Nat) (u : Nat → Int32) (a : Nat → Nat → Int32) (th : Nat → Option Nat) (LP : List Nat) (tf : Nat → va_E) (tO : Nat) (g : Nat → Nat) (T : Nat → Nat → Nat) (x lv : Nat) (hM : NT u a g T) (hB : TB g T) (h9 : u 9 = nI x) (h8 : u 8 = nI lv) (hx0 : x < g 0) : Met l yX8_nailed wsX8_nailed ({ frames := 0, cells := 0, slots := 0, locals := 0 } : Room) (va_Pc [.ref (r 3)] (wA D vwCl (tyA cA) (eO tO) (xN cA r) (u, a, th, LP, tf) sz)) (va_Qv (fun (z : sN) => z = (u, va_up a 21 (upd (a 21) x (nI (lv + hd g T x))), th, LP, tf)) (wB D vwCl (tyA cA) (xN cA r) (va_A (xN cA r (u, a, th, LP, tf)) sz)) (va_A (xN cA r (u, a, th, LP, tf)) sz)) 0 0 (va_A (xN cA r (u, a, th, LP, tf)) sz) := by
  refine Met.ofW (cc := cX8_nailed) (maxL := 1) (ret := none) (by decide) rfl ?_
  intro p e s m args below meth c s₁ B hml hv
  obtain ⟨rfl, hsz, hP, hK, hD0, hE⟩ := hv
  have hx := B.exec
  have hb := B.bytes
  have hr := B.returns
  have hts := atoms_spec (ws := wsX8_nailed) B.pre
  have hown : s.vm.findClass RX8 = some m.cls := findClass_of_methodNamed B.named
  have hlocks := B.notSynchronized
  subst hsz
  have hD := hD0.self (sz := s.heap.size)
  generalize hAe : va_A (xN cA r (u, a, th, LP, tf)) s.heap.size = A at hD hE ⊢
  have hA : ∀ q : Nat, s.heap.size ≤ q → A q := fun q h => by rw [← hAe]; exact Or.inr h
  have hS : va_S A s.heap s.heap [] := va_S.rf
  have hinX5 : ∀ w ∈ u_ws RX5 TX5 8, w ∈ wsX8_nailed := by decide +kernel
  have hinX8 : ∀ w ∈ u_ws RX8 TX8 10, w ∈ wsX8_nailed := by decide +kernel
  have hl := lv_entry ([.ref (r 3)]) (n := 1) (Nat.le_of_ble_eq_true rfl)
  rw [lg_entry_eq]
  generalize (lg_sl ([.ref (r 3)]) ++ List.replicate (1 - (lg_sl ([.ref (r 3)])).length) Slot.unset).toArray = ls at hl ⊢
  have hl : lv_has ls 1 [(0, .ref (r 3))] := hl
  have hg6 := hB.1
  refine lv_aload_n hx hb dX8_nailed_0 rfl (lv_at hl 0 rfl) ?_
  refine va_get (D := D) (ci := 8) (v := .ref (r 21)) (C := RX8) (T := TX8) (N := 10) hx hb hts hinX8 hown hK hP 3 rfl rfl 3 (by decide) (hts (.fieldLink RX8 19 "OneNail$Walk" "until" "[I") (by decide +kernel)) (fun _ h9 => h9) rfl dX8_nailed_1 ?_
  refine lv_aload_n hx hb dX8_nailed_4 rfl (lv_at hl 0 rfl) ?_
  refine va_get (D := D) (ci := 8) (v := .int (nI x)) (C := RX8) (T := TX8) (N := 10) hx hb hts hinX8 hown hK hP 3 rfl rfl 8 (by decide) (hts (.fieldLink RX8 34 "OneNail$Walk" "thing" "I") (by decide +kernel)) (fun _ h9 => h9) (congrArg (fun z => some (Value.int z)) (h9)) dX8_nailed_5 ?_
  refine lv_aload_n hx hb dX8_nailed_8 rfl (lv_at hl 0 rfl) ?_
  refine va_get (D := D) (ci := 8) (v := .int (nI lv)) (C := RX8) (T := TX8) (N := 10) hx hb hts hinX8 hown hK hP 3 rfl rfl 7 (by decide) (hts (.fieldLink RX8 31 "OneNail$Walk" "leaves" "I") (by decide +kernel)) (fun _ h9 => h9) (congrArg (fun z => some (Value.int z)) (h8)) dX8_nailed_9 ?_
  refine lv_aload_n hx hb dX8_nailed_12 rfl (lv_at hl 0 rfl) ?_
  refine va_get (D := D) (ci := 8) (v := .ref (r 1)) (C := RX8) (T := TX8) (N := 10) hx hb hts hinX8 hown hK hP 3 rfl rfl 0 (by decide) (hts (.fieldLink RX8 40 "OneNail$Walk" "town" "LOneNail$Street;") (by decide +kernel)) (fun _ h9 => h9) rfl dX8_nailed_13 ?_
  refine va_get (D := D) (ci := 5) (v := .ref (r 16)) (C := RX5) (T := TX5) (N := 8) hx hb hts hinX5 hown hK hP 1 rfl rfl 7 (by decide) (hts (.fieldLink RX8 64 "OneNail$Street" "holds" "[I") (by decide +kernel)) (fun _ h9 => h9) rfl dX8_nailed_16 ?_
  refine lv_aload_n hx hb dX8_nailed_19 rfl (lv_at hl 0 rfl) ?_
  refine va_get (D := D) (ci := 8) (v := .int (nI x)) (C := RX8) (T := TX8) (N := 10) hx hb hts hinX8 hown hK hP 3 rfl rfl 8 (by decide) (hts (.fieldLink RX8 34 "OneNail$Walk" "thing" "I") (by decide +kernel)) (fun _ h9 => h9) (congrArg (fun z => some (Value.int z)) (h9)) dX8_nailed_20 ?_
  refine ra_iald hx hb hK hP 16 0 (n := 6) (f := (a 16)) (j := x) (v := (nI (hd g T x))) rfl rfl (by omega) (by decide) ((hM.2 (x) (by omega)).2.2.2) dX8_nailed_23 ?_
  refine rn_iadd (x := lv) (y := hd g T x) hx hb dX8_nailed_24 ?_
  refine ra_iast hx hb hK hP hD hS 21 0 (n := 6) (f := (a 21)) (j := x) (x := (nI (lv + (hd g T x)))) rfl rfl (by omega) (by decide) dX8_nailed_25 (fun H locs hP hD hS => ?_)
  have hP : va_P D vwCl (xN cA r (u, (va_up a 21 (upd (a 21) x (nI (lv + (hd g T x))))), th, LP, tf)) H := hP
  have hD : va_D A (xN cA r (u, (va_up a 21 (upd (a 21) x (nI (lv + (hd g T x))))), th, LP, tf)) := hD
  exact wVret hx hb hr hlocks (u, (va_up a 21 (upd (a 21) x (nI (lv + (hd g T x))))), th, LP, tf) (rfl) hK hP hD hS dX8_nailed_26

set_option maxHeartbeats 4000000 in
set_option maxRecDepth 100000 in
theorem kX8_markFall (l : Launch) (D : va_G) (cA : Nat → ClassId) (r : Nat → Nat) (sz : Nat) (u : Nat → Int32) (a : Nat → Nat → Int32) (th : Nat → Option Nat) (LP : List Nat) (tf : Nat → va_E) (tO : Nat) (x w : Nat) (fm : Nat → Nat) (hx6 : x < 6) (hw : a 21 x = nI w) (hwb : w ≤ 20000) (hfm : ∀ q, q < 300 → a 22 q = nI (fm q)) (hf6 : ∀ q, q < 300 → fm q < 64) : Met l yX8_markFall wsX8_markFall ({ frames := 0, cells := 0, slots := 0, locals := 0 } : Room) (va_Pc [.ref (r 3), .int (nI x)] (wA D vwCl (tyA cA) (eO tO) (xN cA r) (u, a, th, LP, tf) sz)) (va_Qv (fun (z : sN) => (∀ q, q < 300 → z.2.1 22 q = nI (if q = w then fm q ||| 2 ^ x else fm q)) ∧ (∀ i, z.1 i = u i) ∧ (∀ i, i ≠ 22 → z.2.1 i = a i) ∧ z.2.2 = (th, LP, tf)) (wB D vwCl (tyA cA) (xN cA r) (va_A (xN cA r (u, a, th, LP, tf)) sz)) (va_A (xN cA r (u, a, th, LP, tf)) sz)) 0 0 (va_A (xN cA r (u, a, th, LP, tf)) sz) := by
  refine Met.ofW (cc := cX8_markFall) (maxL := 3) (ret := none) (by decide) rfl ?_
  intro p e s m args below meth c s₁ B hml hv
  obtain ⟨rfl, hsz, hP, hK, hD0, hE⟩ := hv
  have hx := B.exec
  have hb := B.bytes
  have hr := B.returns
  have hts := atoms_spec (ws := wsX8_markFall) B.pre
  have hown : s.vm.findClass RX8 = some m.cls := findClass_of_methodNamed B.named
  have hlocks := B.notSynchronized
  subst hsz
  have hD := hD0.self (sz := s.heap.size)
  generalize hAe : va_A (xN cA r (u, a, th, LP, tf)) s.heap.size = A at hD hE ⊢
  have hA : ∀ q : Nat, s.heap.size ≤ q → A q := fun q h => by rw [← hAe]; exact Or.inr h
  have hS : va_S A s.heap s.heap [] := va_S.rf
  have hinX8 : ∀ w ∈ u_ws RX8 TX8 10, w ∈ wsX8_markFall := by decide +kernel
  have hl := lv_entry ([.ref (r 3), .int (nI x)]) (n := 3) (Nat.le_of_ble_eq_true rfl)
  rw [lg_entry_eq]
  generalize (lg_sl ([.ref (r 3), .int (nI x)]) ++ List.replicate (3 - (lg_sl ([.ref (r 3), .int (nI x)])).length) Slot.unset).toArray = ls at hl ⊢
  have hl : lv_has ls 3 [(0, .ref (r 3)), (1, .int (nI x))] := hl
  refine lv_aload_n hx hb dX8_markFall_0 rfl (lv_at hl 0 rfl) ?_
  refine va_get (D := D) (ci := 8) (v := .ref (r 21)) (C := RX8) (T := TX8) (N := 10) hx hb hts hinX8 hown hK hP 3 rfl rfl 3 (by decide) (hts (.fieldLink RX8 19 "OneNail$Walk" "until" "[I") (by decide +kernel)) (fun _ h9 => h9) rfl dX8_markFall_1 ?_
  refine lv_iload_n hx hb dX8_markFall_4 rfl (lv_at hl 1 rfl) ?_
  refine ra_iald hx hb hK hP 21 0 (n := 6) (f := (a 21)) (j := x) (v := (nI w)) rfl rfl (by omega) (by decide) (hw) dX8_markFall_5 ?_
  refine lv_istore_n (lv' := [(2, .int (nI w)), (0, .ref (r 3)), (1, .int (nI x))]) hx hb dX8_markFall_6 rfl hl (by decide) rfl (fun ls hl => ?_)
  refine lv_iload_n hx hb dX8_markFall_7 rfl (lv_at hl 0 rfl) ?_
  refine rz_lt (x := w) (tgt := 30) hx hb (by omega) dX8_markFall_8 (by decide) ?_
  refine lv_iload_n hx hb dX8_markFall_11 rfl (lv_at hl 0 rfl) ?_
  refine lv_sipush (v := (nI 300)) hx hb dX8_markFall_12 rfl ?_
  refine rn_ge (x := w) (y := 300) (tgt := 30) hx hb (by omega) (by omega) dX8_markFall_15 (by decide) (fun c_2 => ?_) (fun c_2 => ?_)
  · exact wVret hx hb hr hlocks (u, a, th, LP, tf) (⟨fun q hq => by rw [if_neg (by omega)]; exact hfm q hq, (fun i => rfl), (fun i h22 => rfl), rfl⟩) hK hP hD hS dX8_markFall_30
  · refine lv_aload_n hx hb dX8_markFall_18 rfl (lv_at hl 1 rfl) ?_
    refine va_get (D := D) (ci := 8) (v := .ref (r 22)) (C := RX8) (T := TX8) (N := 10) hx hb hts hinX8 hown hK hP 3 rfl rfl 4 (by decide) (hts (.fieldLink RX8 22 "OneNail$Walk" "fallen" "[I") (by decide +kernel)) (fun _ h9 => h9) rfl dX8_markFall_19 ?_
    refine lv_iload_n hx hb dX8_markFall_22 rfl (lv_at hl 0 rfl) ?_
    refine lv_dup2_11 hx hb dX8_markFall_23 rfl rfl ?_
    refine ra_iald hx hb hK hP 22 0 (n := 300) (f := (a 22)) (j := w) (v := (nI (fm w))) rfl rfl (by omega) (by decide) (hfm w (by omega)) dX8_markFall_24 ?_
    refine lv_iconst (v := (nI 1)) hx hb dX8_markFall_25 rfl ?_
    refine lv_iload_n hx hb dX8_markFall_26 rfl (lv_at hl 2 rfl) ?_
    refine lv_ishl hx hb dX8_markFall_27 ?_
    refine lv_ior hx hb dX8_markFall_28 ?_
    refine lv_topi (fun y_3 ey_3 => ?_)
    obtain rfl : y_3 = (nI (fm w ||| 2 ^ x)) := ey_3.trans (or_row _ (hf6 w (by omega)) x hx6)
    refine ra_iast hx hb hK hP hD hS 22 0 (n := 300) (f := (a 22)) (j := w) (x := (nI (fm w ||| 2 ^ x))) rfl rfl (by omega) (by decide) dX8_markFall_29 (fun H locs hP hD hS => ?_)
    have hP : va_P D vwCl (xN cA r (u, (va_up a 22 (upd (a 22) w (nI (fm w ||| 2 ^ x)))), th, LP, tf)) H := hP
    have hD : va_D A (xN cA r (u, (va_up a 22 (upd (a 22) w (nI (fm w ||| 2 ^ x)))), th, LP, tf)) := hD
    exact wVret hx hb hr hlocks (u, (va_up a 22 (upd (a 22) w (nI (fm w ||| 2 ^ x)))), th, LP, tf) (⟨mk_up hfm, (fun i => rfl), (fun i h22 => vup_ne h22), rfl⟩) hK hP hD hS dX8_markFall_30
