theorem asg_0 {s : State} {C : String} {cC : ClassId} (h : ClassAt s C cC) : ∀ comp c0 : ClassId, s.vm.findClass C = some comp → s.vm.findClass C = some c0 → s.vm.assignable c0 comp = true := fun comp c0 h1 h2 => by
  have e : c0 = cC := Option.some.inj (h2.symm.trans h.1)
  have e2 : comp = cC := Option.some.inj (h1.symm.trans h.1)
  rw [e, e2]; exact va_assign h
def wsX5_addThing2 : List Cond := wsX5_addThing ++ [.superclass RX0 RX1, .superclass RX1 RX6, .instantiable RX6 5]
theorem ggX9_takeText_X5_addThing2 : GoodIn wsX9_takeText wsX5_addThing2 := goodIn_app ggX9_takeText_X5_addThing (goodIn_of _ (by decide +kernel))
theorem gX9_takeText_X5_addThing2 : GoodIn wsX9_takeText (wsV RX9 258 RX5 yX5_addThing wsX5_addThing2) := goodIn_app (goodIn_of _ (by decide +kernel)) ggX9_takeText_X5_addThing2
set_option maxHeartbeats 4000000 in
set_option maxRecDepth 100000 in
theorem kX5_empty (l : Launch) (D : va_G) (cA : Nat → ClassId) (r : Nat → Nat) (sz : Nat) (u : Nat → Int32) (a : Nat → Nat → Int32) (th : Nat → Option Nat) (LP : List Nat) (tf : Nat → va_E) (tO : Nat) (x : Int32)  : Met l yX5_empty wsX5_empty ({ frames := 0, cells := 0, slots := 0, locals := 0 } : Room) (va_Pc [.ref (r 1), .int x] (wA D vwCl (tyA cA) (eO tO) (xN cA r) (u, a, th, LP, tf) sz)) (va_Qv (fun (z : sN) => z = (upd (upd u 1 (nI 0)) 2 x, a, th, LP, tf)) (wB D vwCl (tyA cA) (xN cA r) (va_A (xN cA r (u, a, th, LP, tf)) sz)) (va_A (xN cA r (u, a, th, LP, tf)) sz)) 0 0 (va_A (xN cA r (u, a, th, LP, tf)) sz) := by
  refine Met.ofW (cc := cX5_empty) (maxL := 2) (ret := none) (by decide) rfl ?_
  intro p e s m args below meth c s₁ B hml hv
  obtain ⟨rfl, hsz, hP, hK, hD0, hE⟩ := hv
  have hx := B.exec
  have hb := B.bytes
  have hr := B.returns
  have hts := atoms_spec (ws := wsX5_empty) B.pre
  have hown : s.vm.findClass RX5 = some m.cls := findClass_of_methodNamed B.named
  have hlocks := B.notSynchronized
  subst hsz
  have hD := hD0.self (sz := s.heap.size)
  generalize hAe : va_A (xN cA r (u, a, th, LP, tf)) s.heap.size = A at hD hE ⊢
  have hA : ∀ q : Nat, s.heap.size ≤ q → A q := fun q h => by rw [← hAe]; exact Or.inr h
  have hS : va_S A s.heap s.heap [] := va_S.rf
  have hinX5 : ∀ w ∈ u_ws RX5 TX5 8, w ∈ wsX5_empty := by decide +kernel
  have hl := lv_entry ([.ref (r 1), .int x]) (n := 2) (Nat.le_of_ble_eq_true rfl)
  rw [lg_entry_eq]
  generalize (lg_sl ([.ref (r 1), .int x]) ++ List.replicate (2 - (lg_sl ([.ref (r 1), .int x])).length) Slot.unset).toArray = ls at hl ⊢
  have hl : lv_has ls 2 [(0, .ref (r 1)), (1, .int x)] := hl
  refine lv_aload_n hx hb dX5_empty_0 rfl (lv_at hl 0 rfl) ?_
  refine lv_iconst (v := (nI 0)) hx hb dX5_empty_1 rfl ?_
  refine va_put (D := D) (ci := 5) (v := .int (nI 0)) (ty := .int) (C := RX5) (T := TX5) (N := 8) hx hb hts hinX5 tyX5 tyX5_ok nmX5 hown hK hP hD hS 1 rfl rfl 0 (by decide) (hts (.fieldLink RX5 9 "OneNail$Street" "count" "I") (by decide +kernel)) (fun _ h9 => h9) rfl (by decide +kernel) rfl rfl (Nat.le_of_ble_eq_true rfl) dX5_empty_2 (fun H locs hP hD hS => ?_)
  have hP : va_P D vwCl (xN cA r ((upd u 1 (nI 0)), a, th, LP, tf)) H := hP
  have hD : va_D A (xN cA r ((upd u 1 (nI 0)), a, th, LP, tf)) := hD
  refine lv_aload_n hx hb dX5_empty_5 rfl (lv_at hl 0 rfl) ?_
  refine lv_iload_n hx hb dX5_empty_6 rfl (lv_at hl 1 rfl) ?_
  refine va_put (D := D) (ci := 5) (v := .int x) (ty := .int) (C := RX5) (T := TX5) (N := 8) hx hb hts hinX5 tyX5 tyX5_ok nmX5 hown hK hP hD hS 1 rfl rfl 1 (by decide) (hts (.fieldLink RX5 15 "OneNail$Street" "smithyPlace" "I") (by decide +kernel)) (fun _ h9 => h9) rfl (by decide +kernel) rfl rfl (Nat.le_of_ble_eq_true rfl) dX5_empty_7 (fun H locs hP hD hS => ?_)
  have hP : va_P D vwCl (xN cA r ((upd (upd u 1 (nI 0)) 2 x), a, th, LP, tf)) H := hP
  have hD : va_D A (xN cA r ((upd (upd u 1 (nI 0)) 2 x), a, th, LP, tf)) := hD
  exact wVret hx hb hr hlocks ((upd (upd u 1 (nI 0)) 2 x), a, th, LP, tf) (rfl) hK hP hD hS dX5_empty_10

set_option maxHeartbeats 4000000 in
set_option maxRecDepth 100000 in
theorem kX5_addThing_t6 (l : Launch) (D : va_G) (cA : Nat → ClassId) (r : Nat → Nat) (sz : Nat) (u : Nat → Int32) (a : Nat → Nat → Int32) (th : Nat → Option Nat) (LP : List Nat) (tf : Nat → va_E) (tO : Nat) (q nb p1 s1 h1 m1 n3 : Nat) (hq : q ∈ LP) (htf : tf q = .inr (6, [.int (nI nb), .int (nI p1), .int (nI s1), .int (nI h1), .int (nI m1)])) (hc1 : u 1 = nI n3) (hn6 : n3 < 6) : Met l yX5_addThing wsX5_addThing2 ({ frames := 0, cells := 0, slots := 0, locals := 0 } : Room) (va_Pc [.ref (r 1), .ref (q)] (wA D vwCl (tyA cA) (eO tO) (xN cA r) (u, a, th, LP, tf) sz)) (va_Qv (fun (z : sN) => z = (upd u 1 (nI (n3 + 1)), va_up (va_up (va_up a 13 (upd (a 13) n3 (nI p1))) 14 (upd (a 14) n3 (nI s1))) 15 (upd (a 15) n3 (nI m1)), va_up th n3 (some q), LP, tf)) (wB D vwCl (tyA cA) (xN cA r) (va_A (xN cA r (u, a, th, LP, tf)) sz)) (va_A (xN cA r (u, a, th, LP, tf)) sz)) 0 0 (va_A (xN cA r (u, a, th, LP, tf)) sz) := by
  refine Met.ofW (cc := cX5_addThing) (maxL := 2) (ret := none) (by decide) rfl ?_
  intro p e s m args below meth c s₁ B hml hv
  obtain ⟨rfl, hsz, hP, hK, hD0, hE⟩ := hv
  have hx := B.exec
  have hb := B.bytes
  have hr := B.returns
  have hts := atoms_spec (ws := wsX5_addThing2) B.pre
  have hown : s.vm.findClass RX5 = some m.cls := findClass_of_methodNamed B.named
  have hlocks := B.notSynchronized
  subst hsz
  have hD := hD0.self (sz := s.heap.size)
  generalize hAe : va_A (xN cA r (u, a, th, LP, tf)) s.heap.size = A at hD hE ⊢
  have hA : ∀ q : Nat, s.heap.size ≤ q → A q := fun q h => by rw [← hAe]; exact Or.inr h
  have hS : va_S A s.heap s.heap [] := va_S.rf
  have hinX5 : ∀ w ∈ u_ws RX5 TX5 8, w ∈ wsX5_addThing2 := by decide +kernel
  have hinX6 : ∀ w ∈ u_ws RX6 TX6 5, w ∈ wsX5_addThing2 := by decide +kernel
  have hl := lv_entry ([.ref (r 1), .ref (q)]) (n := 2) (Nat.le_of_ble_eq_true rfl)
  rw [lg_entry_eq]
  generalize (lg_sl ([.ref (r 1), .ref (q)]) ++ List.replicate (2 - (lg_sl ([.ref (r 1), .ref (q)])).length) Slot.unset).toArray = ls at hl ⊢
  have hl : lv_has ls 2 [(0, .ref (r 1)), (1, .ref (q))] := hl
  refine lv_aload_n hx hb dX5_addThing_0 rfl (lv_at hl 0 rfl) ?_
  refine va_get (D := D) (ci := 5) (v := .int (nI n3)) (C := RX5) (T := TX5) (N := 8) hx hb hts hinX5 hown hK hP 1 rfl rfl 0 (by decide) (hts (.fieldLink RX5 9 "OneNail$Street" "count" "I") (by decide +kernel)) (fun _ h9 => h9) (congrArg (fun z => some (Value.int z)) (hc1)) dX5_addThing_1 ?_
  refine lv_bipush (v := (nI 6)) hx hb dX5_addThing_4 rfl ?_
  refine rn_lt (x := n3) (y := 6) (tgt := 10) hx hb (by omega) (by omega) dX5_addThing_6 (by decide) (fun c_1 => ?_) (fun c_1 => absurd c_1 (by omega))
  refine lv_aload_n hx hb dX5_addThing_10 rfl (lv_at hl 0 rfl) ?_
  refine va_get (D := D) (ci := 5) (v := .ref (r 12)) (C := RX5) (T := TX5) (N := 8) hx hb hts hinX5 hown hK hP 1 rfl rfl 3 (by decide) (hts (.fieldLink RX5 23 "OneNail$Street" "things" "[LOneNail$Thing;") (by decide +kernel)) (fun _ h9 => h9) rfl dX5_addThing_11 ?_
  refine lv_aload_n hx hb dX5_addThing_14 rfl (lv_at hl 0 rfl) ?_
  refine va_get (D := D) (ci := 5) (v := .int (nI n3)) (C := RX5) (T := TX5) (N := 8) hx hb hts hinX5 hown hK hP 1 rfl rfl 0 (by decide) (hts (.fieldLink RX5 9 "OneNail$Street" "count" "I") (by decide +kernel)) (fun _ h9 => h9) (congrArg (fun z => some (Value.int z)) (hc1)) dX5_addThing_15 ?_
  refine lv_aload_n hx hb dX5_addThing_18 rfl (lv_at hl 1 rfl) ?_
  obtain ⟨kp2, hkp2⟩ := va_pl_get (X := WN cA r u a th) (f := tf) hq
  rw [htf] at hkp2
  refine wAstT hx hb hK hP hD hS (va_recv hK hP (ci := 6) (q0 := kp2) rfl hkp2) (asg_0 (hK.1 6 _ rfl).2) (j := n3) hn6 dX5_addThing_19 (fun H locs hP hD hS => ?_)
  have hP : va_P D vwCl (xN cA r (u, a, (va_up th n3 (some q)), LP, tf)) H := hP
  have hD : va_D A (xN cA r (u, a, (va_up th n3 (some q)), LP, tf)) := hD
  refine lv_aload_n hx hb dX5_addThing_20 rfl (lv_at hl 0 rfl) ?_
  refine va_get (D := D) (ci := 5) (v := .ref (r 13)) (C := RX5) (T := TX5) (N := 8) hx hb hts hinX5 hown hK hP 1 rfl rfl 4 (by decide) (hts (.fieldLink RX5 27 "OneNail$Street" "places" "[I") (by decide +kernel)) (fun _ h9 => h9) rfl dX5_addThing_21 ?_
  refine lv_aload_n hx hb dX5_addThing_24 rfl (lv_at hl 0 rfl) ?_
  refine va_get (D := D) (ci := 5) (v := .int (nI n3)) (C := RX5) (T := TX5) (N := 8) hx hb hts hinX5 hown hK hP 1 rfl rfl 0 (by decide) (hts (.fieldLink RX5 9 "OneNail$Street" "count" "I") (by decide +kernel)) (fun _ h9 => h9) (congrArg (fun z => some (Value.int z)) (hc1)) dX5_addThing_25 ?_
  refine lv_aload_n hx hb dX5_addThing_28 rfl (lv_at hl 1 rfl) ?_
  obtain ⟨kp3, hkp3⟩ := va_pl_get (X := WN cA r u a (va_up th n3 (some q))) (f := tf) hq
  rw [htf] at hkp3
  refine va_get (D := D) (ci := 6) (v := .int (nI p1)) (C := RX6) (T := TX6) (N := 5) hx hb hts hinX6 hown hK hP kp3 hkp3 rfl 1 (by decide) (hts (.fieldLink RX5 40 "OneNail$Thing" "place" "I") (by decide +kernel)) (fun _ h9 => h9) rfl dX5_addThing_29 ?_
  refine ra_iast hx hb hK hP hD hS 13 0 (n := 6) (f := (a 13)) (j := n3) (x := (nI p1)) rfl rfl (by omega) (by decide) dX5_addThing_32 (fun H locs hP hD hS => ?_)
  have hP : va_P D vwCl (xN cA r (u, (va_up a 13 (upd (a 13) n3 (nI p1))), (va_up th n3 (some q)), LP, tf)) H := hP
  have hD : va_D A (xN cA r (u, (va_up a 13 (upd (a 13) n3 (nI p1))), (va_up th n3 (some q)), LP, tf)) := hD
  refine lv_aload_n hx hb dX5_addThing_33 rfl (lv_at hl 0 rfl) ?_
  refine va_get (D := D) (ci := 5) (v := .ref (r 14)) (C := RX5) (T := TX5) (N := 8) hx hb hts hinX5 hown hK hP 1 rfl rfl 5 (by decide) (hts (.fieldLink RX5 31 "OneNail$Street" "stays" "[I") (by decide +kernel)) (fun _ h9 => h9) rfl dX5_addThing_34 ?_
  refine lv_aload_n hx hb dX5_addThing_37 rfl (lv_at hl 0 rfl) ?_
  refine va_get (D := D) (ci := 5) (v := .int (nI n3)) (C := RX5) (T := TX5) (N := 8) hx hb hts hinX5 hown hK hP 1 rfl rfl 0 (by decide) (hts (.fieldLink RX5 9 "OneNail$Street" "count" "I") (by decide +kernel)) (fun _ h9 => h9) (congrArg (fun z => some (Value.int z)) (hc1)) dX5_addThing_38 ?_
  refine lv_aload_n hx hb dX5_addThing_41 rfl (lv_at hl 1 rfl) ?_
  obtain ⟨kp4, hkp4⟩ := va_pl_get (X := WN cA r u (va_up a 13 (upd (a 13) n3 (nI p1))) (va_up th n3 (some q))) (f := tf) hq
  rw [htf] at hkp4
  refine va_get (D := D) (ci := 6) (v := .int (nI s1)) (C := RX6) (T := TX6) (N := 5) hx hb hts hinX6 hown hK hP kp4 hkp4 rfl 2 (by decide) (hts (.fieldLink RX5 43 "OneNail$Thing" "stay" "I") (by decide +kernel)) (fun _ h9 => h9) rfl dX5_addThing_42 ?_
  refine ra_iast hx hb hK hP hD hS 14 0 (n := 6) (f := (a 14)) (j := n3) (x := (nI s1)) rfl rfl (by omega) (by decide) dX5_addThing_45 (fun H locs hP hD hS => ?_)
  have hP : va_P D vwCl (xN cA r (u, (va_up (va_up a 13 (upd (a 13) n3 (nI p1))) 14 (upd (a 14) n3 (nI s1))), (va_up th n3 (some q)), LP, tf)) H := hP
  have hD : va_D A (xN cA r (u, (va_up (va_up a 13 (upd (a 13) n3 (nI p1))) 14 (upd (a 14) n3 (nI s1))), (va_up th n3 (some q)), LP, tf)) := hD
  refine lv_aload_n hx hb dX5_addThing_46 rfl (lv_at hl 0 rfl) ?_
  refine va_get (D := D) (ci := 5) (v := .ref (r 15)) (C := RX5) (T := TX5) (N := 8) hx hb hts hinX5 hown hK hP 1 rfl rfl 6 (by decide) (hts (.fieldLink RX5 34 "OneNail$Street" "harms" "[I") (by decide +kernel)) (fun _ h9 => h9) rfl dX5_addThing_47 ?_
  refine lv_aload_n hx hb dX5_addThing_50 rfl (lv_at hl 0 rfl) ?_
  refine va_get (D := D) (ci := 5) (v := .int (nI n3)) (C := RX5) (T := TX5) (N := 8) hx hb hts hinX5 hown hK hP 1 rfl rfl 0 (by decide) (hts (.fieldLink RX5 9 "OneNail$Street" "count" "I") (by decide +kernel)) (fun _ h9 => h9) (congrArg (fun z => some (Value.int z)) (hc1)) dX5_addThing_51 ?_
  refine lv_aload_n hx hb dX5_addThing_54 rfl (lv_at hl 1 rfl) ?_
  obtain ⟨kp5, hkp5⟩ := va_pl_get (X := WN cA r u (va_up (va_up a 13 (upd (a 13) n3 (nI p1))) 14 (upd (a 14) n3 (nI s1))) (va_up th n3 (some q))) (f := tf) hq
  rw [htf] at hkp5
  refine va_get (D := D) (ci := 6) (v := .int (nI m1)) (C := RX6) (T := TX6) (N := 5) hx hb hts hinX6 hown hK hP kp5 hkp5 rfl 4 (by decide) (hts (.fieldLink RX5 46 "OneNail$Thing" "harmDone" "I") (by decide +kernel)) (fun _ h9 => h9) rfl dX5_addThing_55 ?_
  refine ra_iast hx hb hK hP hD hS 15 0 (n := 6) (f := (a 15)) (j := n3) (x := (nI m1)) rfl rfl (by omega) (by decide) dX5_addThing_58 (fun H locs hP hD hS => ?_)
  have hP : va_P D vwCl (xN cA r (u, (va_up (va_up (va_up a 13 (upd (a 13) n3 (nI p1))) 14 (upd (a 14) n3 (nI s1))) 15 (upd (a 15) n3 (nI m1))), (va_up th n3 (some q)), LP, tf)) H := hP
  have hD : va_D A (xN cA r (u, (va_up (va_up (va_up a 13 (upd (a 13) n3 (nI p1))) 14 (upd (a 14) n3 (nI s1))) 15 (upd (a 15) n3 (nI m1))), (va_up th n3 (some q)), LP, tf)) := hD
  refine lv_aload_n hx hb dX5_addThing_59 rfl (lv_at hl 0 rfl) ?_
  refine lv_dup hx hb dX5_addThing_60 rfl ?_
  refine va_get (D := D) (ci := 5) (v := .int (nI n3)) (C := RX5) (T := TX5) (N := 8) hx hb hts hinX5 hown hK hP 1 rfl rfl 0 (by decide) (hts (.fieldLink RX5 9 "OneNail$Street" "count" "I") (by decide +kernel)) (fun _ h9 => h9) (congrArg (fun z => some (Value.int z)) (hc1)) dX5_addThing_61 ?_
  refine lv_iconst (v := (nI 1)) hx hb dX5_addThing_64 rfl ?_
  refine rn_iadd (x := n3) (y := 1) hx hb dX5_addThing_65 ?_
  refine va_put (D := D) (ci := 5) (v := .int (nI (n3 + 1))) (ty := .int) (C := RX5) (T := TX5) (N := 8) hx hb hts hinX5 tyX5 tyX5_ok nmX5 hown hK hP hD hS 1 rfl rfl 0 (by decide) (hts (.fieldLink RX5 9 "OneNail$Street" "count" "I") (by decide +kernel)) (fun _ h9 => h9) rfl (by decide +kernel) rfl rfl (Nat.le_of_ble_eq_true rfl) dX5_addThing_66 (fun H locs hP hD hS => ?_)
  have hP : va_P D vwCl (xN cA r ((upd u 1 (nI (n3 + 1))), (va_up (va_up (va_up a 13 (upd (a 13) n3 (nI p1))) 14 (upd (a 14) n3 (nI s1))) 15 (upd (a 15) n3 (nI m1))), (va_up th n3 (some q)), LP, tf)) H := hP
  have hD : va_D A (xN cA r ((upd u 1 (nI (n3 + 1))), (va_up (va_up (va_up a 13 (upd (a 13) n3 (nI p1))) 14 (upd (a 14) n3 (nI s1))) 15 (upd (a 15) n3 (nI m1))), (va_up th n3 (some q)), LP, tf)) := hD
  exact wVret hx hb hr hlocks ((upd u 1 (nI (n3 + 1))), (va_up (va_up (va_up a 13 (upd (a 13) n3 (nI p1))) 14 (upd (a 14) n3 (nI s1))) 15 (upd (a 15) n3 (nI m1))), (va_up th n3 (some q)), LP, tf) (rfl) hK hP hD hS dX5_addThing_69

set_option maxHeartbeats 4000000 in
set_option maxRecDepth 100000 in
theorem kX5_addThing_t1 (l : Launch) (D : va_G) (cA : Nat → ClassId) (r : Nat → Nat) (sz : Nat) (u : Nat → Int32) (a : Nat → Nat → Int32) (th : Nat → Option Nat) (LP : List Nat) (tf : Nat → va_E) (tO : Nat) (q nb p1 s1 h1 m1 n3 : Nat) (hq : q ∈ LP) (htf : tf q = .inr (1, [.int (nI nb), .int (nI p1), .int (nI s1), .int (nI h1), .int (nI m1)])) (hc1 : u 1 = nI n3) (hn6 : n3 < 6) : Met l yX5_addThing wsX5_addThing2 ({ frames := 0, cells := 0, slots := 0, locals := 0 } : Room) (va_Pc [.ref (r 1), .ref (q)] (wA D vwCl (tyA cA) (eO tO) (xN cA r) (u, a, th, LP, tf) sz)) (va_Qv (fun (z : sN) => z = (upd u 1 (nI (n3 + 1)), va_up (va_up (va_up a 13 (upd (a 13) n3 (nI p1))) 14 (upd (a 14) n3 (nI s1))) 15 (upd (a 15) n3 (nI m1)), va_up th n3 (some q), LP, tf)) (wB D vwCl (tyA cA) (xN cA r) (va_A (xN cA r (u, a, th, LP, tf)) sz)) (va_A (xN cA r (u, a, th, LP, tf)) sz)) 0 0 (va_A (xN cA r (u, a, th, LP, tf)) sz) := by
  refine Met.ofW (cc := cX5_addThing) (maxL := 2) (ret := none) (by decide) rfl ?_
  intro p e s m args below meth c s₁ B hml hv
  obtain ⟨rfl, hsz, hP, hK, hD0, hE⟩ := hv
  have hx := B.exec
  have hb := B.bytes
  have hr := B.returns
  have hts := atoms_spec (ws := wsX5_addThing2) B.pre
  have hown : s.vm.findClass RX5 = some m.cls := findClass_of_methodNamed B.named
  have hlocks := B.notSynchronized
  subst hsz
  have hD := hD0.self (sz := s.heap.size)
  generalize hAe : va_A (xN cA r (u, a, th, LP, tf)) s.heap.size = A at hD hE ⊢
  have hA : ∀ q : Nat, s.heap.size ≤ q → A q := fun q h => by rw [← hAe]; exact Or.inr h
  have hS : va_S A s.heap s.heap [] := va_S.rf
  have hinX1 : ∀ w ∈ u_ws RX1 TX1 5, w ∈ wsX5_addThing2 := by decide +kernel
  have hinX5 : ∀ w ∈ u_ws RX5 TX5 8, w ∈ wsX5_addThing2 := by decide +kernel
  have hl := lv_entry ([.ref (r 1), .ref (q)]) (n := 2) (Nat.le_of_ble_eq_true rfl)
  rw [lg_entry_eq]
  generalize (lg_sl ([.ref (r 1), .ref (q)]) ++ List.replicate (2 - (lg_sl ([.ref (r 1), .ref (q)])).length) Slot.unset).toArray = ls at hl ⊢
  have hl : lv_has ls 2 [(0, .ref (r 1)), (1, .ref (q))] := hl
  refine lv_aload_n hx hb dX5_addThing_0 rfl (lv_at hl 0 rfl) ?_
  refine va_get (D := D) (ci := 5) (v := .int (nI n3)) (C := RX5) (T := TX5) (N := 8) hx hb hts hinX5 hown hK hP 1 rfl rfl 0 (by decide) (hts (.fieldLink RX5 9 "OneNail$Street" "count" "I") (by decide +kernel)) (fun _ h9 => h9) (congrArg (fun z => some (Value.int z)) (hc1)) dX5_addThing_1 ?_
  refine lv_bipush (v := (nI 6)) hx hb dX5_addThing_4 rfl ?_
  refine rn_lt (x := n3) (y := 6) (tgt := 10) hx hb (by omega) (by omega) dX5_addThing_6 (by decide) (fun c_1 => ?_) (fun c_1 => absurd c_1 (by omega))
  refine lv_aload_n hx hb dX5_addThing_10 rfl (lv_at hl 0 rfl) ?_
  refine va_get (D := D) (ci := 5) (v := .ref (r 12)) (C := RX5) (T := TX5) (N := 8) hx hb hts hinX5 hown hK hP 1 rfl rfl 3 (by decide) (hts (.fieldLink RX5 23 "OneNail$Street" "things" "[LOneNail$Thing;") (by decide +kernel)) (fun _ h9 => h9) rfl dX5_addThing_11 ?_
  refine lv_aload_n hx hb dX5_addThing_14 rfl (lv_at hl 0 rfl) ?_
  refine va_get (D := D) (ci := 5) (v := .int (nI n3)) (C := RX5) (T := TX5) (N := 8) hx hb hts hinX5 hown hK hP 1 rfl rfl 0 (by decide) (hts (.fieldLink RX5 9 "OneNail$Street" "count" "I") (by decide +kernel)) (fun _ h9 => h9) (congrArg (fun z => some (Value.int z)) (hc1)) dX5_addThing_15 ?_
  refine lv_aload_n hx hb dX5_addThing_18 rfl (lv_at hl 1 rfl) ?_
  obtain ⟨kp2, hkp2⟩ := va_pl_get (X := WN cA r u a th) (f := tf) hq
  rw [htf] at hkp2
  refine wAstT hx hb hK hP hD hS (va_recv hK hP (ci := 1) (q0 := kp2) rfl hkp2) (asg_1 (hts (.superclass RX1 RX6) (by decide +kernel)) (hts (.instantiable RX6 5) (by decide +kernel))) (j := n3) hn6 dX5_addThing_19 (fun H locs hP hD hS => ?_)
  have hP : va_P D vwCl (xN cA r (u, a, (va_up th n3 (some q)), LP, tf)) H := hP
  have hD : va_D A (xN cA r (u, a, (va_up th n3 (some q)), LP, tf)) := hD
  refine lv_aload_n hx hb dX5_addThing_20 rfl (lv_at hl 0 rfl) ?_
  refine va_get (D := D) (ci := 5) (v := .ref (r 13)) (C := RX5) (T := TX5) (N := 8) hx hb hts hinX5 hown hK hP 1 rfl rfl 4 (by decide) (hts (.fieldLink RX5 27 "OneNail$Street" "places" "[I") (by decide +kernel)) (fun _ h9 => h9) rfl dX5_addThing_21 ?_
  refine lv_aload_n hx hb dX5_addThing_24 rfl (lv_at hl 0 rfl) ?_
  refine va_get (D := D) (ci := 5) (v := .int (nI n3)) (C := RX5) (T := TX5) (N := 8) hx hb hts hinX5 hown hK hP 1 rfl rfl 0 (by decide) (hts (.fieldLink RX5 9 "OneNail$Street" "count" "I") (by decide +kernel)) (fun _ h9 => h9) (congrArg (fun z => some (Value.int z)) (hc1)) dX5_addThing_25 ?_
  refine lv_aload_n hx hb dX5_addThing_28 rfl (lv_at hl 1 rfl) ?_
  obtain ⟨kp3, hkp3⟩ := va_pl_get (X := WN cA r u a (va_up th n3 (some q))) (f := tf) hq
  rw [htf] at hkp3
  refine va_get (D := D) (ci := 1) (v := .int (nI p1)) (C := RX1) (T := TX1) (N := 5) hx hb hts hinX1 hown hK hP kp3 hkp3 rfl 1 (by decide) (hts (.fieldLink RX5 40 "OneNail$Thing" "place" "I") (by decide +kernel)) (fun _ h9 => h9) rfl dX5_addThing_29 ?_
  refine ra_iast hx hb hK hP hD hS 13 0 (n := 6) (f := (a 13)) (j := n3) (x := (nI p1)) rfl rfl (by omega) (by decide) dX5_addThing_32 (fun H locs hP hD hS => ?_)
  have hP : va_P D vwCl (xN cA r (u, (va_up a 13 (upd (a 13) n3 (nI p1))), (va_up th n3 (some q)), LP, tf)) H := hP
  have hD : va_D A (xN cA r (u, (va_up a 13 (upd (a 13) n3 (nI p1))), (va_up th n3 (some q)), LP, tf)) := hD
  refine lv_aload_n hx hb dX5_addThing_33 rfl (lv_at hl 0 rfl) ?_
  refine va_get (D := D) (ci := 5) (v := .ref (r 14)) (C := RX5) (T := TX5) (N := 8) hx hb hts hinX5 hown hK hP 1 rfl rfl 5 (by decide) (hts (.fieldLink RX5 31 "OneNail$Street" "stays" "[I") (by decide +kernel)) (fun _ h9 => h9) rfl dX5_addThing_34 ?_
  refine lv_aload_n hx hb dX5_addThing_37 rfl (lv_at hl 0 rfl) ?_
  refine va_get (D := D) (ci := 5) (v := .int (nI n3)) (C := RX5) (T := TX5) (N := 8) hx hb hts hinX5 hown hK hP 1 rfl rfl 0 (by decide) (hts (.fieldLink RX5 9 "OneNail$Street" "count" "I") (by decide +kernel)) (fun _ h9 => h9) (congrArg (fun z => some (Value.int z)) (hc1)) dX5_addThing_38 ?_
  refine lv_aload_n hx hb dX5_addThing_41 rfl (lv_at hl 1 rfl) ?_
  obtain ⟨kp4, hkp4⟩ := va_pl_get (X := WN cA r u (va_up a 13 (upd (a 13) n3 (nI p1))) (va_up th n3 (some q))) (f := tf) hq
  rw [htf] at hkp4
  refine va_get (D := D) (ci := 1) (v := .int (nI s1)) (C := RX1) (T := TX1) (N := 5) hx hb hts hinX1 hown hK hP kp4 hkp4 rfl 2 (by decide) (hts (.fieldLink RX5 43 "OneNail$Thing" "stay" "I") (by decide +kernel)) (fun _ h9 => h9) rfl dX5_addThing_42 ?_
  refine ra_iast hx hb hK hP hD hS 14 0 (n := 6) (f := (a 14)) (j := n3) (x := (nI s1)) rfl rfl (by omega) (by decide) dX5_addThing_45 (fun H locs hP hD hS => ?_)
  have hP : va_P D vwCl (xN cA r (u, (va_up (va_up a 13 (upd (a 13) n3 (nI p1))) 14 (upd (a 14) n3 (nI s1))), (va_up th n3 (some q)), LP, tf)) H := hP
  have hD : va_D A (xN cA r (u, (va_up (va_up a 13 (upd (a 13) n3 (nI p1))) 14 (upd (a 14) n3 (nI s1))), (va_up th n3 (some q)), LP, tf)) := hD
  refine lv_aload_n hx hb dX5_addThing_46 rfl (lv_at hl 0 rfl) ?_
  refine va_get (D := D) (ci := 5) (v := .ref (r 15)) (C := RX5) (T := TX5) (N := 8) hx hb hts hinX5 hown hK hP 1 rfl rfl 6 (by decide) (hts (.fieldLink RX5 34 "OneNail$Street" "harms" "[I") (by decide +kernel)) (fun _ h9 => h9) rfl dX5_addThing_47 ?_
  refine lv_aload_n hx hb dX5_addThing_50 rfl (lv_at hl 0 rfl) ?_
  refine va_get (D := D) (ci := 5) (v := .int (nI n3)) (C := RX5) (T := TX5) (N := 8) hx hb hts hinX5 hown hK hP 1 rfl rfl 0 (by decide) (hts (.fieldLink RX5 9 "OneNail$Street" "count" "I") (by decide +kernel)) (fun _ h9 => h9) (congrArg (fun z => some (Value.int z)) (hc1)) dX5_addThing_51 ?_
  refine lv_aload_n hx hb dX5_addThing_54 rfl (lv_at hl 1 rfl) ?_
  obtain ⟨kp5, hkp5⟩ := va_pl_get (X := WN cA r u (va_up (va_up a 13 (upd (a 13) n3 (nI p1))) 14 (upd (a 14) n3 (nI s1))) (va_up th n3 (some q))) (f := tf) hq
  rw [htf] at hkp5
  refine va_get (D := D) (ci := 1) (v := .int (nI m1)) (C := RX1) (T := TX1) (N := 5) hx hb hts hinX1 hown hK hP kp5 hkp5 rfl 4 (by decide) (hts (.fieldLink RX5 46 "OneNail$Thing" "harmDone" "I") (by decide +kernel)) (fun _ h9 => h9) rfl dX5_addThing_55 ?_
  refine ra_iast hx hb hK hP hD hS 15 0 (n := 6) (f := (a 15)) (j := n3) (x := (nI m1)) rfl rfl (by omega) (by decide) dX5_addThing_58 (fun H locs hP hD hS => ?_)
  have hP : va_P D vwCl (xN cA r (u, (va_up (va_up (va_up a 13 (upd (a 13) n3 (nI p1))) 14 (upd (a 14) n3 (nI s1))) 15 (upd (a 15) n3 (nI m1))), (va_up th n3 (some q)), LP, tf)) H := hP
  have hD : va_D A (xN cA r (u, (va_up (va_up (va_up a 13 (upd (a 13) n3 (nI p1))) 14 (upd (a 14) n3 (nI s1))) 15 (upd (a 15) n3 (nI m1))), (va_up th n3 (some q)), LP, tf)) := hD
  refine lv_aload_n hx hb dX5_addThing_59 rfl (lv_at hl 0 rfl) ?_
  refine lv_dup hx hb dX5_addThing_60 rfl ?_
  refine va_get (D := D) (ci := 5) (v := .int (nI n3)) (C := RX5) (T := TX5) (N := 8) hx hb hts hinX5 hown hK hP 1 rfl rfl 0 (by decide) (hts (.fieldLink RX5 9 "OneNail$Street" "count" "I") (by decide +kernel)) (fun _ h9 => h9) (congrArg (fun z => some (Value.int z)) (hc1)) dX5_addThing_61 ?_
  refine lv_iconst (v := (nI 1)) hx hb dX5_addThing_64 rfl ?_
  refine rn_iadd (x := n3) (y := 1) hx hb dX5_addThing_65 ?_
  refine va_put (D := D) (ci := 5) (v := .int (nI (n3 + 1))) (ty := .int) (C := RX5) (T := TX5) (N := 8) hx hb hts hinX5 tyX5 tyX5_ok nmX5 hown hK hP hD hS 1 rfl rfl 0 (by decide) (hts (.fieldLink RX5 9 "OneNail$Street" "count" "I") (by decide +kernel)) (fun _ h9 => h9) rfl (by decide +kernel) rfl rfl (Nat.le_of_ble_eq_true rfl) dX5_addThing_66 (fun H locs hP hD hS => ?_)
  have hP : va_P D vwCl (xN cA r ((upd u 1 (nI (n3 + 1))), (va_up (va_up (va_up a 13 (upd (a 13) n3 (nI p1))) 14 (upd (a 14) n3 (nI s1))) 15 (upd (a 15) n3 (nI m1))), (va_up th n3 (some q)), LP, tf)) H := hP
  have hD : va_D A (xN cA r ((upd u 1 (nI (n3 + 1))), (va_up (va_up (va_up a 13 (upd (a 13) n3 (nI p1))) 14 (upd (a 14) n3 (nI s1))) 15 (upd (a 15) n3 (nI m1))), (va_up th n3 (some q)), LP, tf)) := hD
  exact wVret hx hb hr hlocks ((upd u 1 (nI (n3 + 1))), (va_up (va_up (va_up a 13 (upd (a 13) n3 (nI p1))) 14 (upd (a 14) n3 (nI s1))) 15 (upd (a 15) n3 (nI m1))), (va_up th n3 (some q)), LP, tf) (rfl) hK hP hD hS dX5_addThing_69

set_option maxHeartbeats 4000000 in
set_option maxRecDepth 100000 in
theorem kX5_addThing_t0 (l : Launch) (D : va_G) (cA : Nat → ClassId) (r : Nat → Nat) (sz : Nat) (u : Nat → Int32) (a : Nat → Nat → Int32) (th : Nat → Option Nat) (LP : List Nat) (tf : Nat → va_E) (tO : Nat) (q nb p1 s1 h1 m1 n3 : Nat) (hq : q ∈ LP) (htf : tf q = .inr (0, [.int (nI nb), .int (nI p1), .int (nI s1), .int (nI h1), .int (nI m1)])) (hc1 : u 1 = nI n3) (hn6 : n3 < 6) : Met l yX5_addThing wsX5_addThing2 ({ frames := 0, cells := 0, slots := 0, locals := 0 } : Room) (va_Pc [.ref (r 1), .ref (q)] (wA D vwCl (tyA cA) (eO tO) (xN cA r) (u, a, th, LP, tf) sz)) (va_Qv (fun (z : sN) => z = (upd u 1 (nI (n3 + 1)), va_up (va_up (va_up a 13 (upd (a 13) n3 (nI p1))) 14 (upd (a 14) n3 (nI s1))) 15 (upd (a 15) n3 (nI m1)), va_up th n3 (some q), LP, tf)) (wB D vwCl (tyA cA) (xN cA r) (va_A (xN cA r (u, a, th, LP, tf)) sz)) (va_A (xN cA r (u, a, th, LP, tf)) sz)) 0 0 (va_A (xN cA r (u, a, th, LP, tf)) sz) := by
  refine Met.ofW (cc := cX5_addThing) (maxL := 2) (ret := none) (by decide) rfl ?_
  intro p e s m args below meth c s₁ B hml hv
  obtain ⟨rfl, hsz, hP, hK, hD0, hE⟩ := hv
  have hx := B.exec
  have hb := B.bytes
  have hr := B.returns
  have hts := atoms_spec (ws := wsX5_addThing2) B.pre
  have hown : s.vm.findClass RX5 = some m.cls := findClass_of_methodNamed B.named
  have hlocks := B.notSynchronized
  subst hsz
  have hD := hD0.self (sz := s.heap.size)
  generalize hAe : va_A (xN cA r (u, a, th, LP, tf)) s.heap.size = A at hD hE ⊢
  have hA : ∀ q : Nat, s.heap.size ≤ q → A q := fun q h => by rw [← hAe]; exact Or.inr h
  have hS : va_S A s.heap s.heap [] := va_S.rf
  have hinX0 : ∀ w ∈ u_ws RX0 TX0 5, w ∈ wsX5_addThing2 := by decide +kernel
  have hinX5 : ∀ w ∈ u_ws RX5 TX5 8, w ∈ wsX5_addThing2 := by decide +kernel
  have hl := lv_entry ([.ref (r 1), .ref (q)]) (n := 2) (Nat.le_of_ble_eq_true rfl)
  rw [lg_entry_eq]
  generalize (lg_sl ([.ref (r 1), .ref (q)]) ++ List.replicate (2 - (lg_sl ([.ref (r 1), .ref (q)])).length) Slot.unset).toArray = ls at hl ⊢
  have hl : lv_has ls 2 [(0, .ref (r 1)), (1, .ref (q))] := hl
  refine lv_aload_n hx hb dX5_addThing_0 rfl (lv_at hl 0 rfl) ?_
  refine va_get (D := D) (ci := 5) (v := .int (nI n3)) (C := RX5) (T := TX5) (N := 8) hx hb hts hinX5 hown hK hP 1 rfl rfl 0 (by decide) (hts (.fieldLink RX5 9 "OneNail$Street" "count" "I") (by decide +kernel)) (fun _ h9 => h9) (congrArg (fun z => some (Value.int z)) (hc1)) dX5_addThing_1 ?_
  refine lv_bipush (v := (nI 6)) hx hb dX5_addThing_4 rfl ?_
  refine rn_lt (x := n3) (y := 6) (tgt := 10) hx hb (by omega) (by omega) dX5_addThing_6 (by decide) (fun c_1 => ?_) (fun c_1 => absurd c_1 (by omega))
  refine lv_aload_n hx hb dX5_addThing_10 rfl (lv_at hl 0 rfl) ?_
  refine va_get (D := D) (ci := 5) (v := .ref (r 12)) (C := RX5) (T := TX5) (N := 8) hx hb hts hinX5 hown hK hP 1 rfl rfl 3 (by decide) (hts (.fieldLink RX5 23 "OneNail$Street" "things" "[LOneNail$Thing;") (by decide +kernel)) (fun _ h9 => h9) rfl dX5_addThing_11 ?_
  refine lv_aload_n hx hb dX5_addThing_14 rfl (lv_at hl 0 rfl) ?_
  refine va_get (D := D) (ci := 5) (v := .int (nI n3)) (C := RX5) (T := TX5) (N := 8) hx hb hts hinX5 hown hK hP 1 rfl rfl 0 (by decide) (hts (.fieldLink RX5 9 "OneNail$Street" "count" "I") (by decide +kernel)) (fun _ h9 => h9) (congrArg (fun z => some (Value.int z)) (hc1)) dX5_addThing_15 ?_
  refine lv_aload_n hx hb dX5_addThing_18 rfl (lv_at hl 1 rfl) ?_
  obtain ⟨kp2, hkp2⟩ := va_pl_get (X := WN cA r u a th) (f := tf) hq
  rw [htf] at hkp2
  refine wAstT hx hb hK hP hD hS (va_recv hK hP (ci := 0) (q0 := kp2) rfl hkp2) (asg_2 (hts (.superclass RX0 RX1) (by decide +kernel)) (hts (.superclass RX1 RX6) (by decide +kernel)) (hts (.instantiable RX6 5) (by decide +kernel))) (j := n3) hn6 dX5_addThing_19 (fun H locs hP hD hS => ?_)
  have hP : va_P D vwCl (xN cA r (u, a, (va_up th n3 (some q)), LP, tf)) H := hP
  have hD : va_D A (xN cA r (u, a, (va_up th n3 (some q)), LP, tf)) := hD
  refine lv_aload_n hx hb dX5_addThing_20 rfl (lv_at hl 0 rfl) ?_
  refine va_get (D := D) (ci := 5) (v := .ref (r 13)) (C := RX5) (T := TX5) (N := 8) hx hb hts hinX5 hown hK hP 1 rfl rfl 4 (by decide) (hts (.fieldLink RX5 27 "OneNail$Street" "places" "[I") (by decide +kernel)) (fun _ h9 => h9) rfl dX5_addThing_21 ?_
  refine lv_aload_n hx hb dX5_addThing_24 rfl (lv_at hl 0 rfl) ?_
  refine va_get (D := D) (ci := 5) (v := .int (nI n3)) (C := RX5) (T := TX5) (N := 8) hx hb hts hinX5 hown hK hP 1 rfl rfl 0 (by decide) (hts (.fieldLink RX5 9 "OneNail$Street" "count" "I") (by decide +kernel)) (fun _ h9 => h9) (congrArg (fun z => some (Value.int z)) (hc1)) dX5_addThing_25 ?_
  refine lv_aload_n hx hb dX5_addThing_28 rfl (lv_at hl 1 rfl) ?_
  obtain ⟨kp3, hkp3⟩ := va_pl_get (X := WN cA r u a (va_up th n3 (some q))) (f := tf) hq
  rw [htf] at hkp3
  refine va_get (D := D) (ci := 0) (v := .int (nI p1)) (C := RX0) (T := TX0) (N := 5) hx hb hts hinX0 hown hK hP kp3 hkp3 rfl 1 (by decide) (hts (.fieldLink RX5 40 "OneNail$Thing" "place" "I") (by decide +kernel)) (fun _ h9 => h9) rfl dX5_addThing_29 ?_
  refine ra_iast hx hb hK hP hD hS 13 0 (n := 6) (f := (a 13)) (j := n3) (x := (nI p1)) rfl rfl (by omega) (by decide) dX5_addThing_32 (fun H locs hP hD hS => ?_)
  have hP : va_P D vwCl (xN cA r (u, (va_up a 13 (upd (a 13) n3 (nI p1))), (va_up th n3 (some q)), LP, tf)) H := hP
  have hD : va_D A (xN cA r (u, (va_up a 13 (upd (a 13) n3 (nI p1))), (va_up th n3 (some q)), LP, tf)) := hD
  refine lv_aload_n hx hb dX5_addThing_33 rfl (lv_at hl 0 rfl) ?_
  refine va_get (D := D) (ci := 5) (v := .ref (r 14)) (C := RX5) (T := TX5) (N := 8) hx hb hts hinX5 hown hK hP 1 rfl rfl 5 (by decide) (hts (.fieldLink RX5 31 "OneNail$Street" "stays" "[I") (by decide +kernel)) (fun _ h9 => h9) rfl dX5_addThing_34 ?_
  refine lv_aload_n hx hb dX5_addThing_37 rfl (lv_at hl 0 rfl) ?_
  refine va_get (D := D) (ci := 5) (v := .int (nI n3)) (C := RX5) (T := TX5) (N := 8) hx hb hts hinX5 hown hK hP 1 rfl rfl 0 (by decide) (hts (.fieldLink RX5 9 "OneNail$Street" "count" "I") (by decide +kernel)) (fun _ h9 => h9) (congrArg (fun z => some (Value.int z)) (hc1)) dX5_addThing_38 ?_
  refine lv_aload_n hx hb dX5_addThing_41 rfl (lv_at hl 1 rfl) ?_
  obtain ⟨kp4, hkp4⟩ := va_pl_get (X := WN cA r u (va_up a 13 (upd (a 13) n3 (nI p1))) (va_up th n3 (some q))) (f := tf) hq
  rw [htf] at hkp4
  refine va_get (D := D) (ci := 0) (v := .int (nI s1)) (C := RX0) (T := TX0) (N := 5) hx hb hts hinX0 hown hK hP kp4 hkp4 rfl 2 (by decide) (hts (.fieldLink RX5 43 "OneNail$Thing" "stay" "I") (by decide +kernel)) (fun _ h9 => h9) rfl dX5_addThing_42 ?_
  refine ra_iast hx hb hK hP hD hS 14 0 (n := 6) (f := (a 14)) (j := n3) (x := (nI s1)) rfl rfl (by omega) (by decide) dX5_addThing_45 (fun H locs hP hD hS => ?_)
  have hP : va_P D vwCl (xN cA r (u, (va_up (va_up a 13 (upd (a 13) n3 (nI p1))) 14 (upd (a 14) n3 (nI s1))), (va_up th n3 (some q)), LP, tf)) H := hP
  have hD : va_D A (xN cA r (u, (va_up (va_up a 13 (upd (a 13) n3 (nI p1))) 14 (upd (a 14) n3 (nI s1))), (va_up th n3 (some q)), LP, tf)) := hD
  refine lv_aload_n hx hb dX5_addThing_46 rfl (lv_at hl 0 rfl) ?_
  refine va_get (D := D) (ci := 5) (v := .ref (r 15)) (C := RX5) (T := TX5) (N := 8) hx hb hts hinX5 hown hK hP 1 rfl rfl 6 (by decide) (hts (.fieldLink RX5 34 "OneNail$Street" "harms" "[I") (by decide +kernel)) (fun _ h9 => h9) rfl dX5_addThing_47 ?_
  refine lv_aload_n hx hb dX5_addThing_50 rfl (lv_at hl 0 rfl) ?_
  refine va_get (D := D) (ci := 5) (v := .int (nI n3)) (C := RX5) (T := TX5) (N := 8) hx hb hts hinX5 hown hK hP 1 rfl rfl 0 (by decide) (hts (.fieldLink RX5 9 "OneNail$Street" "count" "I") (by decide +kernel)) (fun _ h9 => h9) (congrArg (fun z => some (Value.int z)) (hc1)) dX5_addThing_51 ?_
  refine lv_aload_n hx hb dX5_addThing_54 rfl (lv_at hl 1 rfl) ?_
  obtain ⟨kp5, hkp5⟩ := va_pl_get (X := WN cA r u (va_up (va_up a 13 (upd (a 13) n3 (nI p1))) 14 (upd (a 14) n3 (nI s1))) (va_up th n3 (some q))) (f := tf) hq
  rw [htf] at hkp5
  refine va_get (D := D) (ci := 0) (v := .int (nI m1)) (C := RX0) (T := TX0) (N := 5) hx hb hts hinX0 hown hK hP kp5 hkp5 rfl 4 (by decide) (hts (.fieldLink RX5 46 "OneNail$Thing" "harmDone" "I") (by decide +kernel)) (fun _ h9 => h9) rfl dX5_addThing_55 ?_
  refine ra_iast hx hb hK hP hD hS 15 0 (n := 6) (f := (a 15)) (j := n3) (x := (nI m1)) rfl rfl (by omega) (by decide) dX5_addThing_58 (fun H locs hP hD hS => ?_)
  have hP : va_P D vwCl (xN cA r (u, (va_up (va_up (va_up a 13 (upd (a 13) n3 (nI p1))) 14 (upd (a 14) n3 (nI s1))) 15 (upd (a 15) n3 (nI m1))), (va_up th n3 (some q)), LP, tf)) H := hP
  have hD : va_D A (xN cA r (u, (va_up (va_up (va_up a 13 (upd (a 13) n3 (nI p1))) 14 (upd (a 14) n3 (nI s1))) 15 (upd (a 15) n3 (nI m1))), (va_up th n3 (some q)), LP, tf)) := hD
  refine lv_aload_n hx hb dX5_addThing_59 rfl (lv_at hl 0 rfl) ?_
  refine lv_dup hx hb dX5_addThing_60 rfl ?_
  refine va_get (D := D) (ci := 5) (v := .int (nI n3)) (C := RX5) (T := TX5) (N := 8) hx hb hts hinX5 hown hK hP 1 rfl rfl 0 (by decide) (hts (.fieldLink RX5 9 "OneNail$Street" "count" "I") (by decide +kernel)) (fun _ h9 => h9) (congrArg (fun z => some (Value.int z)) (hc1)) dX5_addThing_61 ?_
  refine lv_iconst (v := (nI 1)) hx hb dX5_addThing_64 rfl ?_
  refine rn_iadd (x := n3) (y := 1) hx hb dX5_addThing_65 ?_
  refine va_put (D := D) (ci := 5) (v := .int (nI (n3 + 1))) (ty := .int) (C := RX5) (T := TX5) (N := 8) hx hb hts hinX5 tyX5 tyX5_ok nmX5 hown hK hP hD hS 1 rfl rfl 0 (by decide) (hts (.fieldLink RX5 9 "OneNail$Street" "count" "I") (by decide +kernel)) (fun _ h9 => h9) rfl (by decide +kernel) rfl rfl (Nat.le_of_ble_eq_true rfl) dX5_addThing_66 (fun H locs hP hD hS => ?_)
  have hP : va_P D vwCl (xN cA r ((upd u 1 (nI (n3 + 1))), (va_up (va_up (va_up a 13 (upd (a 13) n3 (nI p1))) 14 (upd (a 14) n3 (nI s1))) 15 (upd (a 15) n3 (nI m1))), (va_up th n3 (some q)), LP, tf)) H := hP
  have hD : va_D A (xN cA r ((upd u 1 (nI (n3 + 1))), (va_up (va_up (va_up a 13 (upd (a 13) n3 (nI p1))) 14 (upd (a 14) n3 (nI s1))) 15 (upd (a 15) n3 (nI m1))), (va_up th n3 (some q)), LP, tf)) := hD
  exact wVret hx hb hr hlocks ((upd u 1 (nI (n3 + 1))), (va_up (va_up (va_up a 13 (upd (a 13) n3 (nI p1))) 14 (upd (a 14) n3 (nI s1))) 15 (upd (a 15) n3 (nI m1))), (va_up th n3 (some q)), LP, tf) (rfl) hK hP hD hS dX5_addThing_69

set_option maxHeartbeats 4000000 in
set_option maxRecDepth 100000 in
theorem kX9_readThing (l : Launch) (D : va_G) (cA : Nat → ClassId) (r : Nat → Nat) (sz : Nat) (u : Nat → Int32) (a : Nat → Nat → Int32) (th : Nat → Option Nat) (LP : List Nat) (tf : Nat → va_E) (tO : Nat) (k9 Ln at0 nb d1 d2 d3 d4 d5 : Nat) (cL : Int32) (hk9 : k9 < 4) (hln : u (18 + k9) = nI Ln) (hl60 : Ln ≤ 60) (hat : at0 + 6 < Ln) (hc1 : a (26 + k9) (at0 + 1) = cL) (hcL : cL = nI 116 ∨ cL = nI 100 ∨ cL = nI 99) (hc2 : a (26 + k9) (at0 + 2) = nI (48 + d1)) (hc3 : a (26 + k9) (at0 + 3) = nI (48 + d2)) (hc4 : a (26 + k9) (at0 + 4) = nI (48 + d3)) (hc5 : a (26 + k9) (at0 + 5) = nI (48 + d4)) (hc6 : a (26 + k9) (at0 + 6) = nI (48 + d5)) (hd19 : d1 ≤ 9) (hd29 : d2 ≤ 9) (hd39 : d3 ≤ 9) (hd49 : d4 ≤ 9) (hd59 : d5 ≤ 9) : Met l yX9_readThing wsX9_readThing ({ frames := 4, cells := 1, slots := 5, locals := 98 } : Room) (va_Pc [.ref (r (6 + k9)), .int (nI at0), .int (nI nb)] (wA D vwCl (tyA cA) (eO tO) (xN cA r) (u, a, th, LP, tf) sz)) (va_Qq (fun (v : Option Nat) (z : sN) => ∃ q : Nat, v = some q ∧ q ∉ LP ∧ z = (u, a, th, LP ++ [q], va_up tf q (.inr (kc (kdn cL), [.int (nI nb), .int (nI d1), .int (nI d2), .int (nI (10 * d3 + d4)), .int (nI d5)])))) (wB D vwCl (tyA cA) (xN cA r) (va_A (xN cA r (u, a, th, LP, tf)) sz)) (va_A (xN cA r (u, a, th, LP, tf)) sz)) 1 5 (va_A (xN cA r (u, a, th, LP, tf)) sz) := by
  refine Met.ofW (cc := cX9_readThing) (maxL := 8) (ret := (some (.object "OneNail$Thing"))) (by decide) rfl ?_
  intro p e s m args below meth c s₁ B hml hv
  obtain ⟨rfl, hsz, hP, hK, hD0, hE⟩ := hv
  have hx := B.exec
  have hb := B.bytes
  have hr := B.returns
  have hts := atoms_spec (ws := wsX9_readThing) B.pre
  have hown : s.vm.findClass RX9 = some m.cls := findClass_of_methodNamed B.named
  have hlocks := B.notSynchronized
  subst hsz
  have hD := hD0.self (sz := s.heap.size)
  generalize hAe : va_A (xN cA r (u, a, th, LP, tf)) s.heap.size = A at hD hE ⊢
  have hA : ∀ q : Nat, s.heap.size ≤ q → A q := fun q h => by rw [← hAe]; exact Or.inr h
  have hS : va_S A s.heap s.heap [] := va_S.rf
  have hinX0 : ∀ w ∈ u_ws RX0 TX0 5, w ∈ wsX9_readThing := by decide +kernel
  have hinX1 : ∀ w ∈ u_ws RX1 TX1 5, w ∈ wsX9_readThing := by decide +kernel
  have hinX6 : ∀ w ∈ u_ws RX6 TX6 5, w ∈ wsX9_readThing := by decide +kernel
  have hl := lv_entry ([.ref (r (6 + k9)), .int (nI at0), .int (nI nb)]) (n := 8) (Nat.le_of_ble_eq_true rfl)
  rw [lg_entry_eq]
  generalize (lg_sl ([.ref (r (6 + k9)), .int (nI at0), .int (nI nb)]) ++ List.replicate (8 - (lg_sl ([.ref (r (6 + k9)), .int (nI at0), .int (nI nb)])).length) Slot.unset).toArray = ls at hl ⊢
  have hl : lv_has ls 8 [(0, .ref (r (6 + k9))), (1, .int (nI at0)), (2, .int (nI nb))] := hl
  refine lv_aload_n hx hb dX9_readThing_0 rfl (lv_at hl 0 rfl) ?_
  refine lv_iload_n hx hb dX9_readThing_1 rfl (lv_at hl 1 rfl) ?_
  refine lv_iconst (v := (nI 1)) hx hb dX9_readThing_2 rfl ?_
  refine rn_iadd (x := at0) (y := 1) hx hb dX9_readThing_3 ?_
  refine wVi (eO_S tO) (As := [.int (nI (at0 + 1))]) (rest := []) ⟨hx, hb, hml, hown, hts⟩ (kX4_read l D cA r _ u a th LP tf tO k9 Ln (at0 + 1) hk9 hln hl60 (by omega)) (cwV 1 hts gX9_readThing_X4_read rfl rfl rfl (by decide +kernel) ⟨Nat.le_of_ble_eq_true rfl, Nat.le_of_ble_eq_true rfl⟩) (va_recv hK hP (ci := 4) (q0 := (6 + k9)) rfl (WN_o hk9)) hK hP hD hS hA hE rfl hl.1 rfl (Nat.le_of_ble_eq_true rfl) dX9_readThing_4 ⟨Nat.zero_le _, Nat.zero_le _⟩ (fun rv_1 z_3 H locs hw_2 hP hD hS => ?_)
  obtain ⟨rfl, rfl⟩ := hw_2
  have hP : va_P D vwCl (xN cA r (u, a, th, LP, tf)) H := hP
  have hD : va_D A (xN cA r (u, a, th, LP, tf)) := hD
  refine lv_istore_n (lv' := [(3, .int (a (26 + k9) (at0 + 1))), (0, .ref (r (6 + k9))), (1, .int (nI at0)), (2, .int (nI nb))]) hx hb dX9_readThing_7 rfl hl (by decide) rfl (fun ls hl => ?_)
  refine lv_aload_n hx hb dX9_readThing_8 rfl (lv_at hl 1 rfl) ?_
  refine lv_iload_n hx hb dX9_readThing_9 rfl (lv_at hl 2 rfl) ?_
  refine lv_iconst (v := (nI 2)) hx hb dX9_readThing_10 rfl ?_
  refine rn_iadd (x := at0) (y := 2) hx hb dX9_readThing_11 ?_
  refine wVi (eO_S tO) (As := [.int (nI (at0 + 2))]) (rest := []) ⟨hx, hb, hml, hown, hts⟩ (kX4_read l D cA r _ u a th LP tf tO k9 Ln (at0 + 2) hk9 hln hl60 (by omega)) (cwV 1 hts gX9_readThing_X4_read rfl rfl rfl (by decide +kernel) ⟨Nat.le_of_ble_eq_true rfl, Nat.le_of_ble_eq_true rfl⟩) (va_recv hK hP (ci := 4) (q0 := (6 + k9)) rfl (WN_o hk9)) hK hP hD hS hA hE rfl hl.1 rfl (Nat.le_of_ble_eq_true rfl) dX9_readThing_12 ⟨Nat.zero_le _, Nat.zero_le _⟩ (fun rv_4 z_6 H locs hw_5 hP hD hS => ?_)
  obtain ⟨rfl, rfl⟩ := hw_5
  have hP : va_P D vwCl (xN cA r (u, a, th, LP, tf)) H := hP
  have hD : va_D A (xN cA r (u, a, th, LP, tf)) := hD
  refine lv_topi (fun y_7 ey_7 => ?_)
  obtain rfl : y_7 = (nI (48 + d1)) := ey_7.trans (hc2)
  refine lv_bipush (v := (nI 48)) hx hb dX9_readThing_15 rfl ?_
  refine rn_isub (x := 48 + d1) (y := 48) hx hb (by omega) dX9_readThing_17 ?_
  refine lv_topi (fun y_8 ey_8 => ?_)
  obtain rfl : y_8 = (nI d1) := ey_8.trans (congrArg nI (by omega))
  refine lv_istore (lv' := [(4, .int (nI d1)), (3, .int (a (26 + k9) (at0 + 1))), (0, .ref (r (6 + k9))), (1, .int (nI at0)), (2, .int (nI nb))]) hx hb dX9_readThing_18 hl (by decide) rfl (fun ls hl => ?_)
  refine lv_aload_n hx hb dX9_readThing_20 rfl (lv_at hl 2 rfl) ?_
  refine lv_iload_n hx hb dX9_readThing_21 rfl (lv_at hl 3 rfl) ?_
  refine lv_iconst (v := (nI 3)) hx hb dX9_readThing_22 rfl ?_
  refine rn_iadd (x := at0) (y := 3) hx hb dX9_readThing_23 ?_
  refine wVi (eO_S tO) (As := [.int (nI (at0 + 3))]) (rest := []) ⟨hx, hb, hml, hown, hts⟩ (kX4_read l D cA r _ u a th LP tf tO k9 Ln (at0 + 3) hk9 hln hl60 (by omega)) (cwV 1 hts gX9_readThing_X4_read rfl rfl rfl (by decide +kernel) ⟨Nat.le_of_ble_eq_true rfl, Nat.le_of_ble_eq_true rfl⟩) (va_recv hK hP (ci := 4) (q0 := (6 + k9)) rfl (WN_o hk9)) hK hP hD hS hA hE rfl hl.1 rfl (Nat.le_of_ble_eq_true rfl) dX9_readThing_24 ⟨Nat.zero_le _, Nat.zero_le _⟩ (fun rv_9 z_11 H locs hw_10 hP hD hS => ?_)
  obtain ⟨rfl, rfl⟩ := hw_10
  have hP : va_P D vwCl (xN cA r (u, a, th, LP, tf)) H := hP
  have hD : va_D A (xN cA r (u, a, th, LP, tf)) := hD
  refine lv_topi (fun y_12 ey_12 => ?_)
  obtain rfl : y_12 = (nI (48 + d2)) := ey_12.trans (hc3)
  refine lv_bipush (v := (nI 48)) hx hb dX9_readThing_27 rfl ?_
  refine rn_isub (x := 48 + d2) (y := 48) hx hb (by omega) dX9_readThing_29 ?_
  refine lv_topi (fun y_13 ey_13 => ?_)
  obtain rfl : y_13 = (nI d2) := ey_13.trans (congrArg nI (by omega))
  refine lv_istore (lv' := [(5, .int (nI d2)), (4, .int (nI d1)), (3, .int (a (26 + k9) (at0 + 1))), (0, .ref (r (6 + k9))), (1, .int (nI at0)), (2, .int (nI nb))]) hx hb dX9_readThing_30 hl (by decide) rfl (fun ls hl => ?_)
  refine lv_bipush (v := (nI 10)) hx hb dX9_readThing_32 rfl ?_
  refine lv_aload_n hx hb dX9_readThing_34 rfl (lv_at hl 3 rfl) ?_
  refine lv_iload_n hx hb dX9_readThing_35 rfl (lv_at hl 4 rfl) ?_
  refine lv_iconst (v := (nI 4)) hx hb dX9_readThing_36 rfl ?_
  refine rn_iadd (x := at0) (y := 4) hx hb dX9_readThing_37 ?_
  refine wVi (eO_S tO) (As := [.int (nI (at0 + 4))]) (rest := [.int (nI 10)]) ⟨hx, hb, hml, hown, hts⟩ (kX4_read l D cA r _ u a th LP tf tO k9 Ln (at0 + 4) hk9 hln hl60 (by omega)) (cwV 1 hts gX9_readThing_X4_read rfl rfl rfl (by decide +kernel) ⟨Nat.le_of_ble_eq_true rfl, Nat.le_of_ble_eq_true rfl⟩) (va_recv hK hP (ci := 4) (q0 := (6 + k9)) rfl (WN_o hk9)) hK hP hD hS hA hE rfl hl.1 rfl (Nat.le_of_ble_eq_true rfl) dX9_readThing_38 ⟨Nat.zero_le _, Nat.zero_le _⟩ (fun rv_14 z_16 H locs hw_15 hP hD hS => ?_)
  obtain ⟨rfl, rfl⟩ := hw_15
  have hP : va_P D vwCl (xN cA r (u, a, th, LP, tf)) H := hP
  have hD : va_D A (xN cA r (u, a, th, LP, tf)) := hD
  refine lv_topi (fun y_17 ey_17 => ?_)
  obtain rfl : y_17 = (nI (48 + d3)) := ey_17.trans (hc4)
  refine lv_bipush (v := (nI 48)) hx hb dX9_readThing_41 rfl ?_
  refine rn_isub (x := 48 + d3) (y := 48) hx hb (by omega) dX9_readThing_43 ?_
  refine lv_topi (fun y_18 ey_18 => ?_)
  obtain rfl : y_18 = (nI d3) := ey_18.trans (congrArg nI (by omega))
  refine rn_imul (x := 10) (y := d3) hx hb dX9_readThing_44 ?_
  refine lv_aload_n hx hb dX9_readThing_45 rfl (lv_at hl 3 rfl) ?_
  refine lv_iload_n hx hb dX9_readThing_46 rfl (lv_at hl 4 rfl) ?_
  refine lv_iconst (v := (nI 5)) hx hb dX9_readThing_47 rfl ?_
  refine rn_iadd (x := at0) (y := 5) hx hb dX9_readThing_48 ?_
  refine wVi (eO_S tO) (As := [.int (nI (at0 + 5))]) (rest := [.int (nI (10 * d3))]) ⟨hx, hb, hml, hown, hts⟩ (kX4_read l D cA r _ u a th LP tf tO k9 Ln (at0 + 5) hk9 hln hl60 (by omega)) (cwV 1 hts gX9_readThing_X4_read rfl rfl rfl (by decide +kernel) ⟨Nat.le_of_ble_eq_true rfl, Nat.le_of_ble_eq_true rfl⟩) (va_recv hK hP (ci := 4) (q0 := (6 + k9)) rfl (WN_o hk9)) hK hP hD hS hA hE rfl hl.1 rfl (Nat.le_of_ble_eq_true rfl) dX9_readThing_49 ⟨Nat.zero_le _, Nat.zero_le _⟩ (fun rv_19 z_21 H locs hw_20 hP hD hS => ?_)
  obtain ⟨rfl, rfl⟩ := hw_20
  have hP : va_P D vwCl (xN cA r (u, a, th, LP, tf)) H := hP
  have hD : va_D A (xN cA r (u, a, th, LP, tf)) := hD
  refine lv_topi (fun y_22 ey_22 => ?_)
  obtain rfl : y_22 = (nI (48 + d4)) := ey_22.trans (hc5)
  refine rn_iadd (x := 10 * d3) (y := 48 + d4) hx hb dX9_readThing_52 ?_
  refine lv_bipush (v := (nI 48)) hx hb dX9_readThing_53 rfl ?_
  refine rn_isub (x := (10 * d3) + (48 + d4)) (y := 48) hx hb (by omega) dX9_readThing_55 ?_
  refine lv_topi (fun y_23 ey_23 => ?_)
  obtain rfl : y_23 = (nI (10 * d3 + d4)) := ey_23.trans (congrArg nI (by omega))
  refine lv_istore (lv' := [(6, .int (nI (10 * d3 + d4))), (5, .int (nI d2)), (4, .int (nI d1)), (3, .int (a (26 + k9) (at0 + 1))), (0, .ref (r (6 + k9))), (1, .int (nI at0)), (2, .int (nI nb))]) hx hb dX9_readThing_56 hl (by decide) rfl (fun ls hl => ?_)
  refine lv_aload_n hx hb dX9_readThing_58 rfl (lv_at hl 4 rfl) ?_
  refine lv_iload_n hx hb dX9_readThing_59 rfl (lv_at hl 5 rfl) ?_
  refine lv_bipush (v := (nI 6)) hx hb dX9_readThing_60 rfl ?_
  refine rn_iadd (x := at0) (y := 6) hx hb dX9_readThing_62 ?_
  refine wVi (eO_S tO) (As := [.int (nI (at0 + 6))]) (rest := []) ⟨hx, hb, hml, hown, hts⟩ (kX4_read l D cA r _ u a th LP tf tO k9 Ln (at0 + 6) hk9 hln hl60 (by omega)) (cwV 1 hts gX9_readThing_X4_read rfl rfl rfl (by decide +kernel) ⟨Nat.le_of_ble_eq_true rfl, Nat.le_of_ble_eq_true rfl⟩) (va_recv hK hP (ci := 4) (q0 := (6 + k9)) rfl (WN_o hk9)) hK hP hD hS hA hE rfl hl.1 rfl (Nat.le_of_ble_eq_true rfl) dX9_readThing_63 ⟨Nat.zero_le _, Nat.zero_le _⟩ (fun rv_24 z_26 H locs hw_25 hP hD hS => ?_)
  obtain ⟨rfl, rfl⟩ := hw_25
  have hP : va_P D vwCl (xN cA r (u, a, th, LP, tf)) H := hP
  have hD : va_D A (xN cA r (u, a, th, LP, tf)) := hD
  refine lv_topi (fun y_27 ey_27 => ?_)
  obtain rfl : y_27 = (nI (48 + d5)) := ey_27.trans (hc6)
  refine lv_bipush (v := (nI 48)) hx hb dX9_readThing_66 rfl ?_
  refine rn_isub (x := 48 + d5) (y := 48) hx hb (by omega) dX9_readThing_68 ?_
  refine lv_topi (fun y_28 ey_28 => ?_)
  obtain rfl : y_28 = (nI d5) := ey_28.trans (congrArg nI (by omega))
  refine lv_istore (lv' := [(7, .int (nI d5)), (6, .int (nI (10 * d3 + d4))), (5, .int (nI d2)), (4, .int (nI d1)), (3, .int (a (26 + k9) (at0 + 1))), (0, .ref (r (6 + k9))), (1, .int (nI at0)), (2, .int (nI nb))]) hx hb dX9_readThing_69 hl (by decide) rfl (fun ls hl => ?_)
  refine lv_iload_n hx hb dX9_readThing_71 rfl (lv_at hl 4 rfl) ?_
  refine lv_bipush (v := (nI 99)) hx hb dX9_readThing_72 rfl ?_
  refine lv_icmp_ne (tgt := 94) hx hb dX9_readThing_74 (by decide) (fun c_29 => ?_) (fun c_29 => ?_)
  · refine lv_iload_n hx hb dX9_readThing_94 rfl (lv_at hl 4 rfl) ?_
    refine lv_bipush (v := (nI 100)) hx hb dX9_readThing_95 rfl ?_
    refine lv_icmp_ne (tgt := 117) hx hb dX9_readThing_97 (by decide) (fun c_30 => ?_) (fun c_30 => ?_)
    · refine va_new (ci := 6) (fs := [.int 0, .int 0, .int 0, .int 0, .int 0]) (C := RX6) (T := TX6) (N := 5) hx hb hts hinX6 tyX6 tyX6_ok hown (hts (.classLink RX9 91 RX6) (by decide +kernel)) (hts (.instantiable RX6 5) (by decide +kernel)) (hts (.initialized RX6) (by decide +kernel)) hK hP hD hS hA rfl (fun j hj => by rcases (show j = 0 ∨ j = 1 ∨ j = 2 ∨ j = 3 ∨ j = 4 by omega) with rfl | rfl | rfl | rfl | rfl <;> rfl) (Nat.le_of_ble_eq_true rfl) (Nat.le_of_ble_eq_true rfl) dX9_readThing_117 (fun qN H hP hD hS => ?_)
      refine lv_dup hx hb dX9_readThing_120 rfl ?_
      refine lv_iload_n hx hb dX9_readThing_121 rfl (lv_at hl 7 rfl) ?_
      refine lv_iload hx hb dX9_readThing_122 (lv_at hl 3 rfl) ?_
      refine lv_iload hx hb dX9_readThing_124 (lv_at hl 2 rfl) ?_
      refine lv_iload hx hb dX9_readThing_126 (lv_at hl 1 rfl) ?_
      refine lv_iload hx hb dX9_readThing_128 (lv_at hl 0 rfl) ?_
      have hP : va_P D vwCl ((wdX6_init_t6 cA (xN cA r (u, a, th, LP, tf)) qN (nI nb) (nI d1) (nI d2) (nI (10 * d3 + d4)) (nI d5)) none) _ := hP
      have hD : va_D A ((wdX6_init_t6 cA (xN cA r (u, a, th, LP, tf)) qN (nI nb) (nI d1) (nI d2) (nI (10 * d3 + d4)) (nI d5)) none) := hD
      refine wIv e0_S (As := [.int (nI nb), .int (nI d1), .int (nI d2), .int (nI (10 * d3 + d4)), .int (nI d5)]) (rest := [.ref (qN)]) ⟨hx, hb, hml, hown, hts⟩ (kX6_init_t6 l D cA (xN cA r (u, a, th, LP, tf)) qN _ (nI nb) (nI d1) (nI d2) (nI (10 * d3 + d4)) (nI d5)) (cwI 5 hts gX9_readThing_X6_init rfl rfl rfl (hts (.initialized RX6) (by decide +kernel)) (hts (.methodLink RX9 270 yX6_init) (by decide +kernel)) (hts (.instanceMethod yX6_init) (by decide +kernel)) rfl (by decide +kernel) ⟨Nat.le_of_ble_eq_true rfl, Nat.le_of_ble_eq_true rfl⟩) hK hP hD hS hA trivial rfl hl.1 rfl (Nat.le_of_ble_eq_true rfl) dX9_readThing_130 ⟨Nat.le_of_ble_eq_true rfl, Nat.le_of_ble_eq_true rfl⟩ (fun z9 H locs hw9 hP hD hS => ?_)
      obtain ⟨ro9, rfl⟩ := hw9
      have hP : va_P D vwCl ((xN cA r (u, a, th, LP, tf)) ++ [(qN, (.inr (6, [.int (nI nb), .int (nI d1), .int (nI d2), .int (nI (10 * d3 + d4)), .int (nI d5)])))]) H := hP
      have hD : va_D A ((xN cA r (u, a, th, LP, tf)) ++ [(qN, (.inr (6, [.int (nI nb), .int (nI d1), .int (nI d2), .int (nI (10 * d3 + d4)), .int (nI d5)])))]) := hD
      have hqn := xN_fresh hD
      rw [xN_push hqn] at hP hD
      refine W.widen (k := 1) (n := 5) (Nat.le_of_ble_eq_true rfl) (Nat.le_of_ble_eq_true rfl) ?_
      exact wQret hx hb hr hlocks (v := some (qN)) (u, a, th, (LP ++ [qN]), (va_up tf qN (.inr (6, [.int (nI nb), .int (nI d1), .int (nI d2), .int (nI (10 * d3 + d4)), .int (nI d5)])))) (⟨qN, rfl, hqn, by rw [show kc (kdn cL) = 6 from (by rw [show cL = nI 116 from hcL.elim id (fun q => q.elim (fun q => absurd (hc1.trans q) c_30) (fun q => absurd (hc1.trans q) c_29))]; decide)]⟩) hK hP hD hS dX9_readThing_133
    · refine va_new (ci := 1) (fs := [.int 0, .int 0, .int 0, .int 0, .int 0]) (C := RX1) (T := TX1) (N := 5) hx hb hts hinX1 tyX1 tyX1_ok hown (hts (.classLink RX9 267 RX1) (by decide +kernel)) (hts (.instantiable RX1 5) (by decide +kernel)) (hts (.initialized RX1) (by decide +kernel)) hK hP hD hS hA rfl (fun j hj => by rcases (show j = 0 ∨ j = 1 ∨ j = 2 ∨ j = 3 ∨ j = 4 by omega) with rfl | rfl | rfl | rfl | rfl <;> rfl) (Nat.le_of_ble_eq_true rfl) (Nat.le_of_ble_eq_true rfl) dX9_readThing_100 (fun qN H hP hD hS => ?_)
      refine lv_dup hx hb dX9_readThing_103 rfl ?_
      refine lv_iload_n hx hb dX9_readThing_104 rfl (lv_at hl 7 rfl) ?_
      refine lv_iload hx hb dX9_readThing_105 (lv_at hl 3 rfl) ?_
      refine lv_iload hx hb dX9_readThing_107 (lv_at hl 2 rfl) ?_
      refine lv_iload hx hb dX9_readThing_109 (lv_at hl 1 rfl) ?_
      refine lv_iload hx hb dX9_readThing_111 (lv_at hl 0 rfl) ?_
      have hP : va_P D vwCl ((wdX1_init_t1 cA (xN cA r (u, a, th, LP, tf)) qN (nI nb) (nI d1) (nI d2) (nI (10 * d3 + d4)) (nI d5)) none) _ := hP
      have hD : va_D A ((wdX1_init_t1 cA (xN cA r (u, a, th, LP, tf)) qN (nI nb) (nI d1) (nI d2) (nI (10 * d3 + d4)) (nI d5)) none) := hD
      refine wIv e0_S (As := [.int (nI nb), .int (nI d1), .int (nI d2), .int (nI (10 * d3 + d4)), .int (nI d5)]) (rest := [.ref (qN)]) ⟨hx, hb, hml, hown, hts⟩ (kX1_init_t1 l D cA (xN cA r (u, a, th, LP, tf)) qN _ (nI nb) (nI d1) (nI d2) (nI (10 * d3 + d4)) (nI d5)) (cwI 5 hts gX9_readThing_X1_init rfl rfl rfl (hts (.initialized RX1) (by decide +kernel)) (hts (.methodLink RX9 269 yX1_init) (by decide +kernel)) (hts (.instanceMethod yX1_init) (by decide +kernel)) rfl (by decide +kernel) ⟨Nat.le_of_ble_eq_true rfl, Nat.le_of_ble_eq_true rfl⟩) hK hP hD hS hA trivial rfl hl.1 rfl (Nat.le_of_ble_eq_true rfl) dX9_readThing_113 ⟨Nat.le_of_ble_eq_true rfl, Nat.le_of_ble_eq_true rfl⟩ (fun z9 H locs hw9 hP hD hS => ?_)
      obtain ⟨ro9, rfl⟩ := hw9
      have hP : va_P D vwCl ((xN cA r (u, a, th, LP, tf)) ++ [(qN, (.inr (1, [.int (nI nb), .int (nI d1), .int (nI d2), .int (nI (10 * d3 + d4)), .int (nI d5)])))]) H := hP
      have hD : va_D A ((xN cA r (u, a, th, LP, tf)) ++ [(qN, (.inr (1, [.int (nI nb), .int (nI d1), .int (nI d2), .int (nI (10 * d3 + d4)), .int (nI d5)])))]) := hD
      have hqn := xN_fresh hD
      rw [xN_push hqn] at hP hD
      refine W.widen (k := 1) (n := 5) (Nat.le_of_ble_eq_true rfl) (Nat.le_of_ble_eq_true rfl) ?_
      exact wQret hx hb hr hlocks (v := some (qN)) (u, a, th, (LP ++ [qN]), (va_up tf qN (.inr (1, [.int (nI nb), .int (nI d1), .int (nI d2), .int (nI (10 * d3 + d4)), .int (nI d5)])))) (⟨qN, rfl, hqn, by rw [show kc (kdn cL) = 1 from (by rw [← hc1, c_30]; decide)]⟩) hK hP hD hS dX9_readThing_116
  · refine va_new (ci := 0) (fs := [.int 0, .int 0, .int 0, .int 0, .int 0]) (C := RX0) (T := TX0) (N := 5) hx hb hts hinX0 tyX0 tyX0_ok hown (hts (.classLink RX9 262 RX0) (by decide +kernel)) (hts (.instantiable RX0 5) (by decide +kernel)) (hts (.initialized RX0) (by decide +kernel)) hK hP hD hS hA rfl (fun j hj => by rcases (show j = 0 ∨ j = 1 ∨ j = 2 ∨ j = 3 ∨ j = 4 by omega) with rfl | rfl | rfl | rfl | rfl <;> rfl) (Nat.le_of_ble_eq_true rfl) (Nat.le_of_ble_eq_true rfl) dX9_readThing_77 (fun qN H hP hD hS => ?_)
    refine lv_dup hx hb dX9_readThing_80 rfl ?_
    refine lv_iload_n hx hb dX9_readThing_81 rfl (lv_at hl 7 rfl) ?_
    refine lv_iload hx hb dX9_readThing_82 (lv_at hl 3 rfl) ?_
    refine lv_iload hx hb dX9_readThing_84 (lv_at hl 2 rfl) ?_
    refine lv_iload hx hb dX9_readThing_86 (lv_at hl 1 rfl) ?_
    refine lv_iload hx hb dX9_readThing_88 (lv_at hl 0 rfl) ?_
    have hP : va_P D vwCl ((wdX0_init_t0 cA (xN cA r (u, a, th, LP, tf)) qN (nI nb) (nI d1) (nI d2) (nI (10 * d3 + d4)) (nI d5)) none) _ := hP
    have hD : va_D A ((wdX0_init_t0 cA (xN cA r (u, a, th, LP, tf)) qN (nI nb) (nI d1) (nI d2) (nI (10 * d3 + d4)) (nI d5)) none) := hD
    refine wIv e0_S (As := [.int (nI nb), .int (nI d1), .int (nI d2), .int (nI (10 * d3 + d4)), .int (nI d5)]) (rest := [.ref (qN)]) ⟨hx, hb, hml, hown, hts⟩ (kX0_init_t0 l D cA (xN cA r (u, a, th, LP, tf)) qN _ (nI nb) (nI d1) (nI d2) (nI (10 * d3 + d4)) (nI d5)) (cwI 5 hts gX9_readThing_X0_init rfl rfl rfl (hts (.initialized RX0) (by decide +kernel)) (hts (.methodLink RX9 264 yX0_init) (by decide +kernel)) (hts (.instanceMethod yX0_init) (by decide +kernel)) rfl (by decide +kernel) ⟨Nat.le_of_ble_eq_true rfl, Nat.le_of_ble_eq_true rfl⟩) hK hP hD hS hA trivial rfl hl.1 rfl (Nat.le_of_ble_eq_true rfl) dX9_readThing_90 ⟨Nat.le_of_ble_eq_true rfl, Nat.le_of_ble_eq_true rfl⟩ (fun z9 H locs hw9 hP hD hS => ?_)
    obtain ⟨ro9, rfl⟩ := hw9
    have hP : va_P D vwCl ((xN cA r (u, a, th, LP, tf)) ++ [(qN, (.inr (0, [.int (nI nb), .int (nI d1), .int (nI d2), .int (nI (10 * d3 + d4)), .int (nI d5)])))]) H := hP
    have hD : va_D A ((xN cA r (u, a, th, LP, tf)) ++ [(qN, (.inr (0, [.int (nI nb), .int (nI d1), .int (nI d2), .int (nI (10 * d3 + d4)), .int (nI d5)])))]) := hD
    have hqn := xN_fresh hD
    rw [xN_push hqn] at hP hD
    refine W.widen (k := 1) (n := 5) (Nat.le_of_ble_eq_true rfl) (Nat.le_of_ble_eq_true rfl) ?_
    exact wQret hx hb hr hlocks (v := some (qN)) (u, a, th, (LP ++ [qN]), (va_up tf qN (.inr (0, [.int (nI nb), .int (nI d1), .int (nI d2), .int (nI (10 * d3 + d4)), .int (nI d5)])))) (⟨qN, rfl, hqn, by rw [show kc (kdn cL) = 0 from (by rw [← hc1, c_29]; decide)]⟩) hK hP hD hS dX9_readThing_93
