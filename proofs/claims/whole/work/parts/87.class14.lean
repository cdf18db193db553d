def hb6 (h v : Nat) : Nat := if v < h then h - v else 1
theorem hb_row : ∀ h, h < 100 → ∀ v, v < 51 → (if nI 1 < (nI h - nI v) then (nI h - nI v) else nI 1) = nI (hb6 h v) := by decide +kernel
theorem hb6_le (h v : Nat) : hb6 h v ≤ h + 1 := by unfold hb6; split <;> omega
theorem hd_0 {g : Nat → Nat} {T : Nat → Nat → Nat} {x : Nat} (h : T 0 x = 0) : hd g T x = hb6 (T 3 x) (g 2) := by
  unfold hd hb6; rw [h]; (repeat' split) <;> omega
theorem hd_1 {g : Nat → Nat} {T : Nat → Nat → Nat} {x : Nat} (h : T 0 x = 1) : hd g T x = hb6 (T 3 x) (g 2) + hb6 (T 3 x) (g 2) / 2 := by
  unfold hd hb6; rw [h]; (repeat' split) <;> omega
theorem hd_2 {g : Nat → Nat} {T : Nat → Nat → Nat} {x : Nat} (h : T 0 x = 2) : hd g T x = hb6 (T 3 x) (g 2) + hb6 (T 3 x) (g 2) / 2 + 10 := by
  unfold hd hb6; rw [h]; (repeat' split) <;> omega
theorem NT_rust {u u' : Nat → Int32} {a a' : Nat → Nat → Int32} {g : Nat → Nat} {T : Nat → Nat → Nat} {v : Nat} (h : NT u a g T) (h1 : u' 1 = u 1) (a13 : a' 13 = a 13) (a14 : a' 14 = a 14) (a15 : a' 15 = a 15) (h16 : ∀ x, x < g 0 → a' 16 x = nI (hd (gu g 2 v) T x)) : NT u' a' (gu g 2 v) T := by
  refine ⟨h1.trans h.1, fun x hx => ?_⟩
  rw [a13, a14, a15]
  exact ⟨(h.2 x hx).1, (h.2 x hx).2.1, (h.2 x hx).2.2.1, h16 x hx⟩
set_option maxHeartbeats 4000000 in
set_option maxRecDepth 100000 in
theorem kX6_kindNumber_t6 (l : Launch) (D : va_G) (cA : Nat → ClassId) (r : Nat → Nat) (sz : Nat) (u : Nat → Int32) (a : Nat → Nat → Int32) (th : Nat → Option Nat) (LP : List Nat) (tf : Nat → va_E) (tO : Nat) (q nb p1 s1 h1 m1 : Nat)  (hq : q ∈ LP) (htf : tf q = .inr (6, [.int (nI nb), .int (nI p1), .int (nI s1), .int (nI h1), .int (nI m1)]))  : Met l yX6_kindNumber wsX6_kindNumber ({ frames := 0, cells := 0, slots := 0, locals := 0 } : Room) (va_Pc [.ref (q)] (wA D vwCl (tyA cA) (eO tO) (xN cA r) (u, a, th, LP, tf) sz)) (va_Qi (fun (v : Int32) (z : sN) => v = nI 0 ∧ z = (u, a, th, LP, tf)) (wB D vwCl (tyA cA) (xN cA r) (va_A (xN cA r (u, a, th, LP, tf)) sz)) (va_A (xN cA r (u, a, th, LP, tf)) sz)) 0 0 (va_A (xN cA r (u, a, th, LP, tf)) sz) := by
  refine Met.ofW (cc := cX6_kindNumber) (maxL := 1) (ret := (some .int)) (by decide) rfl ?_
  intro p e s m args below meth c s₁ B hml hv
  obtain ⟨rfl, hsz, hP, hK, hD0, hE⟩ := hv
  have hx := B.exec
  have hb := B.bytes
  have hr := B.returns
  have hts := atoms_spec (ws := wsX6_kindNumber) B.pre
  have hown : s.vm.findClass RX6 = some m.cls := findClass_of_methodNamed B.named
  have hlocks := B.notSynchronized
  subst hsz
  have hD := hD0.self (sz := s.heap.size)
  generalize hAe : va_A (xN cA r (u, a, th, LP, tf)) s.heap.size = A at hD hE ⊢
  have hA : ∀ q : Nat, s.heap.size ≤ q → A q := fun q h => by rw [← hAe]; exact Or.inr h
  have hS : va_S A s.heap s.heap [] := va_S.rf
  have hl := lv_entry ([.ref (q)]) (n := 1) (Nat.le_of_ble_eq_true rfl)
  rw [lg_entry_eq]
  generalize (lg_sl ([.ref (q)]) ++ List.replicate (1 - (lg_sl ([.ref (q)])).length) Slot.unset).toArray = ls at hl ⊢
  have hl : lv_has ls 1 [(0, .ref (q))] := hl
  refine lv_iconst (v := (nI 0)) hx hb dX6_kindNumber_0 rfl ?_
  exact wIret hx hb hr hlocks (v := (nI 0)) (u, a, th, LP, tf) (⟨rfl, rfl⟩) hK hP hD hS dX6_kindNumber_1

set_option maxHeartbeats 4000000 in
set_option maxRecDepth 100000 in
theorem kX1_kindNumber_t1 (l : Launch) (D : va_G) (cA : Nat → ClassId) (r : Nat → Nat) (sz : Nat) (u : Nat → Int32) (a : Nat → Nat → Int32) (th : Nat → Option Nat) (LP : List Nat) (tf : Nat → va_E) (tO : Nat) (q nb p1 s1 h1 m1 : Nat)  (hq : q ∈ LP) (htf : tf q = .inr (1, [.int (nI nb), .int (nI p1), .int (nI s1), .int (nI h1), .int (nI m1)]))  : Met l yX1_kindNumber wsX1_kindNumber ({ frames := 0, cells := 0, slots := 0, locals := 0 } : Room) (va_Pc [.ref (q)] (wA D vwCl (tyA cA) (eO tO) (xN cA r) (u, a, th, LP, tf) sz)) (va_Qi (fun (v : Int32) (z : sN) => v = nI 1 ∧ z = (u, a, th, LP, tf)) (wB D vwCl (tyA cA) (xN cA r) (va_A (xN cA r (u, a, th, LP, tf)) sz)) (va_A (xN cA r (u, a, th, LP, tf)) sz)) 0 0 (va_A (xN cA r (u, a, th, LP, tf)) sz) := by
  refine Met.ofW (cc := cX1_kindNumber) (maxL := 1) (ret := (some .int)) (by decide) rfl ?_
  intro p e s m args below meth c s₁ B hml hv
  obtain ⟨rfl, hsz, hP, hK, hD0, hE⟩ := hv
  have hx := B.exec
  have hb := B.bytes
  have hr := B.returns
  have hts := atoms_spec (ws := wsX1_kindNumber) B.pre
  have hown : s.vm.findClass RX1 = some m.cls := findClass_of_methodNamed B.named
  have hlocks := B.notSynchronized
  subst hsz
  have hD := hD0.self (sz := s.heap.size)
  generalize hAe : va_A (xN cA r (u, a, th, LP, tf)) s.heap.size = A at hD hE ⊢
  have hA : ∀ q : Nat, s.heap.size ≤ q → A q := fun q h => by rw [← hAe]; exact Or.inr h
  have hS : va_S A s.heap s.heap [] := va_S.rf
  have hl := lv_entry ([.ref (q)]) (n := 1) (Nat.le_of_ble_eq_true rfl)
  rw [lg_entry_eq]
  generalize (lg_sl ([.ref (q)]) ++ List.replicate (1 - (lg_sl ([.ref (q)])).length) Slot.unset).toArray = ls at hl ⊢
  have hl : lv_has ls 1 [(0, .ref (q))] := hl
  refine lv_iconst (v := (nI 1)) hx hb dX1_kindNumber_0 rfl ?_
  exact wIret hx hb hr hlocks (v := (nI 1)) (u, a, th, LP, tf) (⟨rfl, rfl⟩) hK hP hD hS dX1_kindNumber_1

set_option maxHeartbeats 4000000 in
set_option maxRecDepth 100000 in
theorem kX0_kindNumber_t0 (l : Launch) (D : va_G) (cA : Nat → ClassId) (r : Nat → Nat) (sz : Nat) (u : Nat → Int32) (a : Nat → Nat → Int32) (th : Nat → Option Nat) (LP : List Nat) (tf : Nat → va_E) (tO : Nat) (q nb p1 s1 h1 m1 : Nat)  (hq : q ∈ LP) (htf : tf q = .inr (0, [.int (nI nb), .int (nI p1), .int (nI s1), .int (nI h1), .int (nI m1)]))  : Met l yX0_kindNumber wsX0_kindNumber ({ frames := 0, cells := 0, slots := 0, locals := 0 } : Room) (va_Pc [.ref (q)] (wA D vwCl (tyA cA) (eO tO) (xN cA r) (u, a, th, LP, tf) sz)) (va_Qi (fun (v : Int32) (z : sN) => v = nI 2 ∧ z = (u, a, th, LP, tf)) (wB D vwCl (tyA cA) (xN cA r) (va_A (xN cA r (u, a, th, LP, tf)) sz)) (va_A (xN cA r (u, a, th, LP, tf)) sz)) 0 0 (va_A (xN cA r (u, a, th, LP, tf)) sz) := by
  refine Met.ofW (cc := cX0_kindNumber) (maxL := 1) (ret := (some .int)) (by decide) rfl ?_
  intro p e s m args below meth c s₁ B hml hv
  obtain ⟨rfl, hsz, hP, hK, hD0, hE⟩ := hv
  have hx := B.exec
  have hb := B.bytes
  have hr := B.returns
  have hts := atoms_spec (ws := wsX0_kindNumber) B.pre
  have hown : s.vm.findClass RX0 = some m.cls := findClass_of_methodNamed B.named
  have hlocks := B.notSynchronized
  subst hsz
  have hD := hD0.self (sz := s.heap.size)
  generalize hAe : va_A (xN cA r (u, a, th, LP, tf)) s.heap.size = A at hD hE ⊢
  have hA : ∀ q : Nat, s.heap.size ≤ q → A q := fun q h => by rw [← hAe]; exact Or.inr h
  have hS : va_S A s.heap s.heap [] := va_S.rf
  have hl := lv_entry ([.ref (q)]) (n := 1) (Nat.le_of_ble_eq_true rfl)
  rw [lg_entry_eq]
  generalize (lg_sl ([.ref (q)]) ++ List.replicate (1 - (lg_sl ([.ref (q)])).length) Slot.unset).toArray = ls at hl ⊢
  have hl : lv_has ls 1 [(0, .ref (q))] := hl
  refine lv_iconst (v := (nI 2)) hx hb dX0_kindNumber_0 rfl ?_
  exact wIret hx hb hr hlocks (v := (nI 2)) (u, a, th, LP, tf) (⟨rfl, rfl⟩) hK hP hD hS dX0_kindNumber_1

set_option maxHeartbeats 4000000 in
set_option maxRecDepth 100000 in
theorem kX6_holdsBy_t6 (l : Launch) (D : va_G) (cA : Nat → ClassId) (r : Nat → Nat) (sz : Nat) (u : Nat → Int32) (a : Nat → Nat → Int32) (th : Nat → Option Nat) (LP : List Nat) (tf : Nat → va_E) (tO : Nat) (q nb p1 s1 h1 m1 : Nat) (v1 : Nat) (hq : q ∈ LP) (htf : tf q = .inr (6, [.int (nI nb), .int (nI p1), .int (nI s1), .int (nI h1), .int (nI m1)])) (hh1 : h1 ≤ 99) (hv1 : v1 ≤ 50) : Met l yX6_holdsBy wsX6_holdsBy ({ frames := 1, cells := 0, slots := 0, locals := 25 } : Room) (va_Pc [.ref (q), .int (nI v1)] (wA D vwCl (tyA cA) (eO tO) (xN cA r) (u, a, th, LP, tf) sz)) (va_Qi (fun (v : Int32) (z : sN) => v = nI (hb6 h1 v1) ∧ z = (u, a, th, LP, tf)) (wB D vwCl (tyA cA) (xN cA r) (va_A (xN cA r (u, a, th, LP, tf)) sz)) (va_A (xN cA r (u, a, th, LP, tf)) sz)) 0 0 (va_A (xN cA r (u, a, th, LP, tf)) sz) := by
  refine Met.ofW (cc := cX6_holdsBy) (maxL := 2) (ret := (some .int)) (by decide) rfl ?_
  intro p e s m args below meth c s₁ B hml hv
  obtain ⟨rfl, hsz, hP, hK, hD0, hE⟩ := hv
  have hx := B.exec
  have hb := B.bytes
  have hr := B.returns
  have hts := atoms_spec (ws := wsX6_holdsBy) B.pre
  have hown : s.vm.findClass RX6 = some m.cls := findClass_of_methodNamed B.named
  have hlocks := B.notSynchronized
  subst hsz
  have hD := hD0.self (sz := s.heap.size)
  generalize hAe : va_A (xN cA r (u, a, th, LP, tf)) s.heap.size = A at hD hE ⊢
  have hA : ∀ q : Nat, s.heap.size ≤ q → A q := fun q h => by rw [← hAe]; exact Or.inr h
  have hS : va_S A s.heap s.heap [] := va_S.rf
  have hinX6 : ∀ w ∈ u_ws RX6 TX6 5, w ∈ wsX6_holdsBy := by decide +kernel
  have hl := lv_entry ([.ref (q), .int (nI v1)]) (n := 2) (Nat.le_of_ble_eq_true rfl)
  rw [lg_entry_eq]
  generalize (lg_sl ([.ref (q), .int (nI v1)]) ++ List.replicate (2 - (lg_sl ([.ref (q), .int (nI v1)])).length) Slot.unset).toArray = ls at hl ⊢
  have hl : lv_has ls 2 [(0, .ref (q)), (1, .int (nI v1))] := hl
  refine lv_iconst (v := (nI 1)) hx hb dX6_holdsBy_0 rfl ?_
  refine lv_aload_n hx hb dX6_holdsBy_1 rfl (lv_at hl 0 rfl) ?_
  obtain ⟨kp1, hkp1⟩ := va_pl_get (X := WN cA r u a th) (f := tf) hq
  rw [htf] at hkp1
  refine va_get (D := D) (ci := 6) (v := .int (nI h1)) (C := RX6) (T := TX6) (N := 5) hx hb hts hinX6 hown hK hP kp1 hkp1 rfl 3 (by decide) (hts (.fieldLink RX6 19 "OneNail$Thing" "hold" "I") (by decide +kernel)) (fun _ h9 => h9) rfl dX6_holdsBy_2 ?_
  refine lv_iload_n hx hb dX6_holdsBy_5 rfl (lv_at hl 1 rfl) ?_
  refine lv_isub hx hb dX6_holdsBy_6 ?_
  refine va_mmax hx hb (hml.trans hl.1.symm) hown (hts (.methodLink RX6 25 Lib.Math.max.name) (by decide +kernel)) (hts (.static Lib.Math.max.name) (by decide +kernel)) (hts (.initialized "java/lang/Math") (by decide +kernel)) (hts (.code Lib.Math.max.name Lib.Math.max.code 2 (some .int)) (by decide +kernel)) (Nat.le_of_ble_eq_true rfl) (Nat.le_of_ble_eq_true rfl) (Nat.zero_le _) (Nat.zero_le _) dX6_holdsBy_7 ?_
  refine lv_topi (fun y_2 ey_2 => ?_)
  obtain rfl : y_2 = (nI (hb6 h1 v1)) := ey_2.trans (hb_row h1 (by omega) v1 (by omega))
  exact wIret hx hb hr hlocks (v := (nI (hb6 h1 v1))) (u, a, th, LP, tf) (⟨rfl, rfl⟩) hK hP hD hS dX6_holdsBy_10

set_option maxHeartbeats 4000000 in
set_option maxRecDepth 100000 in
theorem kX6_holdsBy_t1 (l : Launch) (D : va_G) (cA : Nat → ClassId) (r : Nat → Nat) (sz : Nat) (u : Nat → Int32) (a : Nat → Nat → Int32) (th : Nat → Option Nat) (LP : List Nat) (tf : Nat → va_E) (tO : Nat) (q nb p1 s1 h1 m1 : Nat) (v1 : Nat) (hq : q ∈ LP) (htf : tf q = .inr (1, [.int (nI nb), .int (nI p1), .int (nI s1), .int (nI h1), .int (nI m1)])) (hh1 : h1 ≤ 99) (hv1 : v1 ≤ 50) : Met l yX6_holdsBy wsX6_holdsBy ({ frames := 1, cells := 0, slots := 0, locals := 25 } : Room) (va_Pc [.ref (q), .int (nI v1)] (wA D vwCl (tyA cA) (eO tO) (xN cA r) (u, a, th, LP, tf) sz)) (va_Qi (fun (v : Int32) (z : sN) => v = nI (hb6 h1 v1) ∧ z = (u, a, th, LP, tf)) (wB D vwCl (tyA cA) (xN cA r) (va_A (xN cA r (u, a, th, LP, tf)) sz)) (va_A (xN cA r (u, a, th, LP, tf)) sz)) 0 0 (va_A (xN cA r (u, a, th, LP, tf)) sz) := by
  refine Met.ofW (cc := cX6_holdsBy) (maxL := 2) (ret := (some .int)) (by decide) rfl ?_
  intro p e s m args below meth c s₁ B hml hv
  obtain ⟨rfl, hsz, hP, hK, hD0, hE⟩ := hv
  have hx := B.exec
  have hb := B.bytes
  have hr := B.returns
  have hts := atoms_spec (ws := wsX6_holdsBy) B.pre
  have hown : s.vm.findClass RX6 = some m.cls := findClass_of_methodNamed B.named
  have hlocks := B.notSynchronized
  subst hsz
  have hD := hD0.self (sz := s.heap.size)
  generalize hAe : va_A (xN cA r (u, a, th, LP, tf)) s.heap.size = A at hD hE ⊢
  have hA : ∀ q : Nat, s.heap.size ≤ q → A q := fun q h => by rw [← hAe]; exact Or.inr h
  have hS : va_S A s.heap s.heap [] := va_S.rf
  have hinX1 : ∀ w ∈ u_ws RX1 TX1 5, w ∈ wsX6_holdsBy := by decide +kernel
  have hl := lv_entry ([.ref (q), .int (nI v1)]) (n := 2) (Nat.le_of_ble_eq_true rfl)
  rw [lg_entry_eq]
  generalize (lg_sl ([.ref (q), .int (nI v1)]) ++ List.replicate (2 - (lg_sl ([.ref (q), .int (nI v1)])).length) Slot.unset).toArray = ls at hl ⊢
  have hl : lv_has ls 2 [(0, .ref (q)), (1, .int (nI v1))] := hl
  refine lv_iconst (v := (nI 1)) hx hb dX6_holdsBy_0 rfl ?_
  refine lv_aload_n hx hb dX6_holdsBy_1 rfl (lv_at hl 0 rfl) ?_
  obtain ⟨kp1, hkp1⟩ := va_pl_get (X := WN cA r u a th) (f := tf) hq
  rw [htf] at hkp1
  refine va_get (D := D) (ci := 1) (v := .int (nI h1)) (C := RX1) (T := TX1) (N := 5) hx hb hts hinX1 hown hK hP kp1 hkp1 rfl 3 (by decide) (hts (.fieldLink RX6 19 "OneNail$Thing" "hold" "I") (by decide +kernel)) (fun _ h9 => h9) rfl dX6_holdsBy_2 ?_
  refine lv_iload_n hx hb dX6_holdsBy_5 rfl (lv_at hl 1 rfl) ?_
  refine lv_isub hx hb dX6_holdsBy_6 ?_
  refine va_mmax hx hb (hml.trans hl.1.symm) hown (hts (.methodLink RX6 25 Lib.Math.max.name) (by decide +kernel)) (hts (.static Lib.Math.max.name) (by decide +kernel)) (hts (.initialized "java/lang/Math") (by decide +kernel)) (hts (.code Lib.Math.max.name Lib.Math.max.code 2 (some .int)) (by decide +kernel)) (Nat.le_of_ble_eq_true rfl) (Nat.le_of_ble_eq_true rfl) (Nat.zero_le _) (Nat.zero_le _) dX6_holdsBy_7 ?_
  refine lv_topi (fun y_2 ey_2 => ?_)
  obtain rfl : y_2 = (nI (hb6 h1 v1)) := ey_2.trans (hb_row h1 (by omega) v1 (by omega))
  exact wIret hx hb hr hlocks (v := (nI (hb6 h1 v1))) (u, a, th, LP, tf) (⟨rfl, rfl⟩) hK hP hD hS dX6_holdsBy_10

set_option maxHeartbeats 4000000 in
set_option maxRecDepth 100000 in
theorem kX6_holdsBy_t0 (l : Launch) (D : va_G) (cA : Nat → ClassId) (r : Nat → Nat) (sz : Nat) (u : Nat → Int32) (a : Nat → Nat → Int32) (th : Nat → Option Nat) (LP : List Nat) (tf : Nat → va_E) (tO : Nat) (q nb p1 s1 h1 m1 : Nat) (v1 : Nat) (hq : q ∈ LP) (htf : tf q = .inr (0, [.int (nI nb), .int (nI p1), .int (nI s1), .int (nI h1), .int (nI m1)])) (hh1 : h1 ≤ 99) (hv1 : v1 ≤ 50) : Met l yX6_holdsBy wsX6_holdsBy ({ frames := 1, cells := 0, slots := 0, locals := 25 } : Room) (va_Pc [.ref (q), .int (nI v1)] (wA D vwCl (tyA cA) (eO tO) (xN cA r) (u, a, th, LP, tf) sz)) (va_Qi (fun (v : Int32) (z : sN) => v = nI (hb6 h1 v1) ∧ z = (u, a, th, LP, tf)) (wB D vwCl (tyA cA) (xN cA r) (va_A (xN cA r (u, a, th, LP, tf)) sz)) (va_A (xN cA r (u, a, th, LP, tf)) sz)) 0 0 (va_A (xN cA r (u, a, th, LP, tf)) sz) := by
  refine Met.ofW (cc := cX6_holdsBy) (maxL := 2) (ret := (some .int)) (by decide) rfl ?_
  intro p e s m args below meth c s₁ B hml hv
  obtain ⟨rfl, hsz, hP, hK, hD0, hE⟩ := hv
  have hx := B.exec
  have hb := B.bytes
  have hr := B.returns
  have hts := atoms_spec (ws := wsX6_holdsBy) B.pre
  have hown : s.vm.findClass RX6 = some m.cls := findClass_of_methodNamed B.named
  have hlocks := B.notSynchronized
  subst hsz
  have hD := hD0.self (sz := s.heap.size)
  generalize hAe : va_A (xN cA r (u, a, th, LP, tf)) s.heap.size = A at hD hE ⊢
  have hA : ∀ q : Nat, s.heap.size ≤ q → A q := fun q h => by rw [← hAe]; exact Or.inr h
  have hS : va_S A s.heap s.heap [] := va_S.rf
  have hinX0 : ∀ w ∈ u_ws RX0 TX0 5, w ∈ wsX6_holdsBy := by decide +kernel
  have hl := lv_entry ([.ref (q), .int (nI v1)]) (n := 2) (Nat.le_of_ble_eq_true rfl)
  rw [lg_entry_eq]
  generalize (lg_sl ([.ref (q), .int (nI v1)]) ++ List.replicate (2 - (lg_sl ([.ref (q), .int (nI v1)])).length) Slot.unset).toArray = ls at hl ⊢
  have hl : lv_has ls 2 [(0, .ref (q)), (1, .int (nI v1))] := hl
  refine lv_iconst (v := (nI 1)) hx hb dX6_holdsBy_0 rfl ?_
  refine lv_aload_n hx hb dX6_holdsBy_1 rfl (lv_at hl 0 rfl) ?_
  obtain ⟨kp1, hkp1⟩ := va_pl_get (X := WN cA r u a th) (f := tf) hq
  rw [htf] at hkp1
  refine va_get (D := D) (ci := 0) (v := .int (nI h1)) (C := RX0) (T := TX0) (N := 5) hx hb hts hinX0 hown hK hP kp1 hkp1 rfl 3 (by decide) (hts (.fieldLink RX6 19 "OneNail$Thing" "hold" "I") (by decide +kernel)) (fun _ h9 => h9) rfl dX6_holdsBy_2 ?_
  refine lv_iload_n hx hb dX6_holdsBy_5 rfl (lv_at hl 1 rfl) ?_
  refine lv_isub hx hb dX6_holdsBy_6 ?_
  refine va_mmax hx hb (hml.trans hl.1.symm) hown (hts (.methodLink RX6 25 Lib.Math.max.name) (by decide +kernel)) (hts (.static Lib.Math.max.name) (by decide +kernel)) (hts (.initialized "java/lang/Math") (by decide +kernel)) (hts (.code Lib.Math.max.name Lib.Math.max.code 2 (some .int)) (by decide +kernel)) (Nat.le_of_ble_eq_true rfl) (Nat.le_of_ble_eq_true rfl) (Nat.zero_le _) (Nat.zero_le _) dX6_holdsBy_7 ?_
  refine lv_topi (fun y_2 ey_2 => ?_)
  obtain rfl : y_2 = (nI (hb6 h1 v1)) := ey_2.trans (hb_row h1 (by omega) v1 (by omega))
  exact wIret hx hb hr hlocks (v := (nI (hb6 h1 v1))) (u, a, th, LP, tf) (⟨rfl, rfl⟩) hK hP hD hS dX6_holdsBy_10

set_option maxHeartbeats 4000000 in
set_option maxRecDepth 100000 in
theorem kX1_holdsBy_t1 (l : Launch) (D : va_G) (cA : Nat → ClassId) (r : Nat → Nat) (sz : Nat) (u : Nat → Int32) (a : Nat → Nat → Int32) (th : Nat → Option Nat) (LP : List Nat) (tf : Nat → va_E) (tO : Nat) (q nb p1 s1 h1 m1 : Nat) (v1 : Nat) (hq : q ∈ LP) (htf : tf q = .inr (1, [.int (nI nb), .int (nI p1), .int (nI s1), .int (nI h1), .int (nI m1)])) (hh1 : h1 ≤ 99) (hv1 : v1 ≤ 50) : Met l yX1_holdsBy wsX1_holdsBy ({ frames := 2, cells := 0, slots := 0, locals := 46 } : Room) (va_Pc [.ref (q), .int (nI v1)] (wA D vwCl (tyA cA) (eO tO) (xN cA r) (u, a, th, LP, tf) sz)) (va_Qi (fun (v : Int32) (z : sN) => v = nI (hb6 h1 v1 + hb6 h1 v1 / 2) ∧ z = (u, a, th, LP, tf)) (wB D vwCl (tyA cA) (xN cA r) (va_A (xN cA r (u, a, th, LP, tf)) sz)) (va_A (xN cA r (u, a, th, LP, tf)) sz)) 0 0 (va_A (xN cA r (u, a, th, LP, tf)) sz) := by
  refine Met.ofW (cc := cX1_holdsBy) (maxL := 3) (ret := (some .int)) (by decide) rfl ?_
  intro p e s m args below meth c s₁ B hml hv
  obtain ⟨rfl, hsz, hP, hK, hD0, hE⟩ := hv
  have hx := B.exec
  have hb := B.bytes
  have hr := B.returns
  have hts := atoms_spec (ws := wsX1_holdsBy) B.pre
  have hown : s.vm.findClass RX1 = some m.cls := findClass_of_methodNamed B.named
  have hlocks := B.notSynchronized
  subst hsz
  have hD := hD0.self (sz := s.heap.size)
  generalize hAe : va_A (xN cA r (u, a, th, LP, tf)) s.heap.size = A at hD hE ⊢
  have hA : ∀ q : Nat, s.heap.size ≤ q → A q := fun q h => by rw [← hAe]; exact Or.inr h
  have hS : va_S A s.heap s.heap [] := va_S.rf
  have hl := lv_entry ([.ref (q), .int (nI v1)]) (n := 3) (Nat.le_of_ble_eq_true rfl)
  rw [lg_entry_eq]
  generalize (lg_sl ([.ref (q), .int (nI v1)]) ++ List.replicate (3 - (lg_sl ([.ref (q), .int (nI v1)])).length) Slot.unset).toArray = ls at hl ⊢
  have hl : lv_has ls 3 [(0, .ref (q)), (1, .int (nI v1))] := hl
  refine lv_aload_n hx hb dX1_holdsBy_0 rfl (lv_at hl 0 rfl) ?_
  refine lv_iload_n hx hb dX1_holdsBy_1 rfl (lv_at hl 1 rfl) ?_
  obtain ⟨kp1, hkp1⟩ := va_pl_get (X := WN cA r u a th) (f := tf) hq
  rw [htf] at hkp1
  refine wSUi (hK.1 1 _ rfl).2 (eO_S tO) (As := [.int (nI v1)]) (rest := []) ⟨hx, hb, hml, hown, hts⟩ (kX6_holdsBy_t1 l D cA r _ u a th LP tf tO q nb p1 s1 h1 m1 v1 hq htf (by omega) (by omega)) (va_cwSU 1 hts gX1_holdsBy_X6_holdsBy_s7 rfl rfl rfl (by decide +kernel) ⟨Nat.le_of_ble_eq_true rfl, Nat.le_of_ble_eq_true rfl⟩) (va_recv hK hP (ci := 1) (q0 := kp1) rfl hkp1) hK hP hD hS hA hE rfl hl.1 rfl (Nat.le_of_ble_eq_true rfl) dX1_holdsBy_2 ⟨Nat.zero_le _, Nat.zero_le _⟩ (fun rv_2 z_4 H locs hw_3 hP hD hS => ?_)
  obtain ⟨rfl, rfl⟩ := hw_3
  have hP : va_P D vwCl (xN cA r (u, a, th, LP, tf)) H := hP
  have hD : va_D A (xN cA r (u, a, th, LP, tf)) := hD
  have hhb := hb6_le h1 v1
  refine lv_istore_n (lv' := [(2, .int (nI (hb6 h1 v1))), (0, .ref (q)), (1, .int (nI v1))]) hx hb dX1_holdsBy_5 rfl hl (by decide) rfl (fun ls hl => ?_)
  refine lv_iload_n hx hb dX1_holdsBy_6 rfl (lv_at hl 0 rfl) ?_
  refine lv_iload_n hx hb dX1_holdsBy_7 rfl (lv_at hl 0 rfl) ?_
  refine lv_iconst (v := (nI 2)) hx hb dX1_holdsBy_8 rfl ?_
  refine rn_idiv (x := hb6 h1 v1) (y := 2) hx hb (by omega) (by omega) (by omega) dX1_holdsBy_9 ?_
  refine rn_iadd (x := hb6 h1 v1) (y := (hb6 h1 v1) / 2) hx hb dX1_holdsBy_10 ?_
  exact wIret hx hb hr hlocks (v := (nI ((hb6 h1 v1) + ((hb6 h1 v1) / 2)))) (u, a, th, LP, tf) (⟨rfl, rfl⟩) hK hP hD hS dX1_holdsBy_11

set_option maxHeartbeats 4000000 in
set_option maxRecDepth 100000 in
theorem kX1_holdsBy_t0 (l : Launch) (D : va_G) (cA : Nat → ClassId) (r : Nat → Nat) (sz : Nat) (u : Nat → Int32) (a : Nat → Nat → Int32) (th : Nat → Option Nat) (LP : List Nat) (tf : Nat → va_E) (tO : Nat) (q nb p1 s1 h1 m1 : Nat) (v1 : Nat) (hq : q ∈ LP) (htf : tf q = .inr (0, [.int (nI nb), .int (nI p1), .int (nI s1), .int (nI h1), .int (nI m1)])) (hh1 : h1 ≤ 99) (hv1 : v1 ≤ 50) : Met l yX1_holdsBy wsX1_holdsBy ({ frames := 2, cells := 0, slots := 0, locals := 46 } : Room) (va_Pc [.ref (q), .int (nI v1)] (wA D vwCl (tyA cA) (eO tO) (xN cA r) (u, a, th, LP, tf) sz)) (va_Qi (fun (v : Int32) (z : sN) => v = nI (hb6 h1 v1 + hb6 h1 v1 / 2) ∧ z = (u, a, th, LP, tf)) (wB D vwCl (tyA cA) (xN cA r) (va_A (xN cA r (u, a, th, LP, tf)) sz)) (va_A (xN cA r (u, a, th, LP, tf)) sz)) 0 0 (va_A (xN cA r (u, a, th, LP, tf)) sz) := by
  refine Met.ofW (cc := cX1_holdsBy) (maxL := 3) (ret := (some .int)) (by decide) rfl ?_
  intro p e s m args below meth c s₁ B hml hv
  obtain ⟨rfl, hsz, hP, hK, hD0, hE⟩ := hv
  have hx := B.exec
  have hb := B.bytes
  have hr := B.returns
  have hts := atoms_spec (ws := wsX1_holdsBy) B.pre
  have hown : s.vm.findClass RX1 = some m.cls := findClass_of_methodNamed B.named
  have hlocks := B.notSynchronized
  subst hsz
  have hD := hD0.self (sz := s.heap.size)
  generalize hAe : va_A (xN cA r (u, a, th, LP, tf)) s.heap.size = A at hD hE ⊢
  have hA : ∀ q : Nat, s.heap.size ≤ q → A q := fun q h => by rw [← hAe]; exact Or.inr h
  have hS : va_S A s.heap s.heap [] := va_S.rf
  have hl := lv_entry ([.ref (q), .int (nI v1)]) (n := 3) (Nat.le_of_ble_eq_true rfl)
  rw [lg_entry_eq]
  generalize (lg_sl ([.ref (q), .int (nI v1)]) ++ List.replicate (3 - (lg_sl ([.ref (q), .int (nI v1)])).length) Slot.unset).toArray = ls at hl ⊢
  have hl : lv_has ls 3 [(0, .ref (q)), (1, .int (nI v1))] := hl
  refine lv_aload_n hx hb dX1_holdsBy_0 rfl (lv_at hl 0 rfl) ?_
  refine lv_iload_n hx hb dX1_holdsBy_1 rfl (lv_at hl 1 rfl) ?_
  obtain ⟨kp1, hkp1⟩ := va_pl_get (X := WN cA r u a th) (f := tf) hq
  rw [htf] at hkp1
  refine wSUi (hK.1 0 _ rfl).2 (eO_S tO) (As := [.int (nI v1)]) (rest := []) ⟨hx, hb, hml, hown, hts⟩ (kX6_holdsBy_t0 l D cA r _ u a th LP tf tO q nb p1 s1 h1 m1 v1 hq htf (by omega) (by omega)) (va_cwSU 1 hts gX1_holdsBy_X6_holdsBy_s7 rfl rfl rfl (by decide +kernel) ⟨Nat.le_of_ble_eq_true rfl, Nat.le_of_ble_eq_true rfl⟩) (va_recv hK hP (ci := 0) (q0 := kp1) rfl hkp1) hK hP hD hS hA hE rfl hl.1 rfl (Nat.le_of_ble_eq_true rfl) dX1_holdsBy_2 ⟨Nat.zero_le _, Nat.zero_le _⟩ (fun rv_2 z_4 H locs hw_3 hP hD hS => ?_)
  obtain ⟨rfl, rfl⟩ := hw_3
  have hP : va_P D vwCl (xN cA r (u, a, th, LP, tf)) H := hP
  have hD : va_D A (xN cA r (u, a, th, LP, tf)) := hD
  have hhb := hb6_le h1 v1
  refine lv_istore_n (lv' := [(2, .int (nI (hb6 h1 v1))), (0, .ref (q)), (1, .int (nI v1))]) hx hb dX1_holdsBy_5 rfl hl (by decide) rfl (fun ls hl => ?_)
  refine lv_iload_n hx hb dX1_holdsBy_6 rfl (lv_at hl 0 rfl) ?_
  refine lv_iload_n hx hb dX1_holdsBy_7 rfl (lv_at hl 0 rfl) ?_
  refine lv_iconst (v := (nI 2)) hx hb dX1_holdsBy_8 rfl ?_
  refine rn_idiv (x := hb6 h1 v1) (y := 2) hx hb (by omega) (by omega) (by omega) dX1_holdsBy_9 ?_
  refine rn_iadd (x := hb6 h1 v1) (y := (hb6 h1 v1) / 2) hx hb dX1_holdsBy_10 ?_
  exact wIret hx hb hr hlocks (v := (nI ((hb6 h1 v1) + ((hb6 h1 v1) / 2)))) (u, a, th, LP, tf) (⟨rfl, rfl⟩) hK hP hD hS dX1_holdsBy_11

set_option maxHeartbeats 4000000 in
set_option maxRecDepth 100000 in
theorem kX0_holdsBy_t0 (l : Launch) (D : va_G) (cA : Nat → ClassId) (r : Nat → Nat) (sz : Nat) (u : Nat → Int32) (a : Nat → Nat → Int32) (th : Nat → Option Nat) (LP : List Nat) (tf : Nat → va_E) (tO : Nat) (q nb p1 s1 h1 m1 : Nat) (v1 : Nat) (hq : q ∈ LP) (htf : tf q = .inr (0, [.int (nI nb), .int (nI p1), .int (nI s1), .int (nI h1), .int (nI m1)])) (hh1 : h1 ≤ 99) (hv1 : v1 ≤ 50) : Met l yX0_holdsBy wsX0_holdsBy ({ frames := 3, cells := 0, slots := 0, locals := 68 } : Room) (va_Pc [.ref (q), .int (nI v1)] (wA D vwCl (tyA cA) (eO tO) (xN cA r) (u, a, th, LP, tf) sz)) (va_Qi (fun (v : Int32) (z : sN) => v = nI (hb6 h1 v1 + hb6 h1 v1 / 2 + 10) ∧ z = (u, a, th, LP, tf)) (wB D vwCl (tyA cA) (xN cA r) (va_A (xN cA r (u, a, th, LP, tf)) sz)) (va_A (xN cA r (u, a, th, LP, tf)) sz)) 0 0 (va_A (xN cA r (u, a, th, LP, tf)) sz) := by
  refine Met.ofW (cc := cX0_holdsBy) (maxL := 2) (ret := (some .int)) (by decide) rfl ?_
  intro p e s m args below meth c s₁ B hml hv
  obtain ⟨rfl, hsz, hP, hK, hD0, hE⟩ := hv
  have hx := B.exec
  have hb := B.bytes
  have hr := B.returns
  have hts := atoms_spec (ws := wsX0_holdsBy) B.pre
  have hown : s.vm.findClass RX0 = some m.cls := findClass_of_methodNamed B.named
  have hlocks := B.notSynchronized
  subst hsz
  have hD := hD0.self (sz := s.heap.size)
  generalize hAe : va_A (xN cA r (u, a, th, LP, tf)) s.heap.size = A at hD hE ⊢
  have hA : ∀ q : Nat, s.heap.size ≤ q → A q := fun q h => by rw [← hAe]; exact Or.inr h
  have hS : va_S A s.heap s.heap [] := va_S.rf
  have hl := lv_entry ([.ref (q), .int (nI v1)]) (n := 2) (Nat.le_of_ble_eq_true rfl)
  rw [lg_entry_eq]
  generalize (lg_sl ([.ref (q), .int (nI v1)]) ++ List.replicate (2 - (lg_sl ([.ref (q), .int (nI v1)])).length) Slot.unset).toArray = ls at hl ⊢
  have hl : lv_has ls 2 [(0, .ref (q)), (1, .int (nI v1))] := hl
  refine lv_aload_n hx hb dX0_holdsBy_0 rfl (lv_at hl 0 rfl) ?_
  refine lv_iload_n hx hb dX0_holdsBy_1 rfl (lv_at hl 1 rfl) ?_
  obtain ⟨kp1, hkp1⟩ := va_pl_get (X := WN cA r u a th) (f := tf) hq
  rw [htf] at hkp1
  refine wSUi (hK.1 0 _ rfl).2 (eO_S tO) (As := [.int (nI v1)]) (rest := []) ⟨hx, hb, hml, hown, hts⟩ (kX1_holdsBy_t0 l D cA r _ u a th LP tf tO q nb p1 s1 h1 m1 v1 hq htf (by omega) (by omega)) (va_cwSU 1 hts gX0_holdsBy_X1_holdsBy_s7 rfl rfl rfl (by decide +kernel) ⟨Nat.le_of_ble_eq_true rfl, Nat.le_of_ble_eq_true rfl⟩) (va_recv hK hP (ci := 0) (q0 := kp1) rfl hkp1) hK hP hD hS hA hE rfl hl.1 rfl (Nat.le_of_ble_eq_true rfl) dX0_holdsBy_2 ⟨Nat.zero_le _, Nat.zero_le _⟩ (fun rv_2 z_4 H locs hw_3 hP hD hS => ?_)
  obtain ⟨rfl, rfl⟩ := hw_3
  have hP : va_P D vwCl (xN cA r (u, a, th, LP, tf)) H := hP
  have hD : va_D A (xN cA r (u, a, th, LP, tf)) := hD
  refine lv_bipush (v := (nI 10)) hx hb dX0_holdsBy_5 rfl ?_
  refine rn_iadd (x := hb6 h1 v1 + hb6 h1 v1 / 2) (y := 10) hx hb dX0_holdsBy_7 ?_
  exact wIret hx hb hr hlocks (v := (nI ((hb6 h1 v1 + hb6 h1 v1 / 2) + 10))) (u, a, th, LP, tf) (⟨rfl, rfl⟩) hK hP hD hS dX0_holdsBy_8

set_option maxHeartbeats 4000000 in
set_option maxRecDepth 100000 in
theorem kX7_leave (l : Launch) (D : va_G) (cA : Nat → ClassId) (r : Nat → Nat) (sz : Nat) (u : Nat → Int32) (a : Nat → Nat → Int32) (th : Nat → Option Nat) (LP : List Nat) (tf : Nat → va_E) (tO : Nat) (n : Nat)  : Met l yX7_leave wsX7_leave ({ frames := 0, cells := 0, slots := 0, locals := 0 } : Room) (va_Pc [.ref (r 5), .int (nI n)] (wA D vwCl (tyA cA) (eO tO) (xN cA r) (u, a, th, LP, tf) sz)) (va_Qv (fun (z : sN) => z = (upd u 13 (bg (u 13) n), a, th, LP, tf)) (wB D vwCl (tyA cA) (xN cA r) (va_A (xN cA r (u, a, th, LP, tf)) sz)) (va_A (xN cA r (u, a, th, LP, tf)) sz)) 0 0 (va_A (xN cA r (u, a, th, LP, tf)) sz) := by
  refine Met.ofW (cc := cX7_leave) (maxL := 2) (ret := none) (by decide) rfl ?_
  intro p e s m args below meth c s₁ B hml hv
  obtain ⟨rfl, hsz, hP, hK, hD0, hE⟩ := hv
  have hx := B.exec
  have hb := B.bytes
  have hr := B.returns
  have hts := atoms_spec (ws := wsX7_leave) B.pre
  have hown : s.vm.findClass RX7 = some m.cls := findClass_of_methodNamed B.named
  have hlocks := B.notSynchronized
  subst hsz
  have hD := hD0.self (sz := s.heap.size)
  generalize hAe : va_A (xN cA r (u, a, th, LP, tf)) s.heap.size = A at hD hE ⊢
  have hA : ∀ q : Nat, s.heap.size ≤ q → A q := fun q h => by rw [← hAe]; exact Or.inr h
  have hS : va_S A s.heap s.heap [] := va_S.rf
  have hinX7 : ∀ w ∈ u_ws RX7 TX7 1, w ∈ wsX7_leave := by decide +kernel
  have hl := lv_entry ([.ref (r 5), .int (nI n)]) (n := 2) (Nat.le_of_ble_eq_true rfl)
  rw [lg_entry_eq]
  generalize (lg_sl ([.ref (r 5), .int (nI n)]) ++ List.replicate (2 - (lg_sl ([.ref (r 5), .int (nI n)])).length) Slot.unset).toArray = ls at hl ⊢
  have hl : lv_has ls 2 [(0, .ref (r 5)), (1, .int (nI n))] := hl
  refine lv_aload_n hx hb dX7_leave_0 rfl (lv_at hl 0 rfl) ?_
  refine lv_bipush (v := (nI 31)) hx hb dX7_leave_1 rfl ?_
  refine lv_aload_n hx hb dX7_leave_3 rfl (lv_at hl 0 rfl) ?_
  refine va_get (D := D) (ci := 7) (v := .int (u 13)) (C := RX7) (T := TX7) (N := 1) hx hb hts hinX7 hown hK hP 5 rfl rfl 0 (by decide) (hts (.fieldLink RX7 7 "OneNail$Trace" "value" "I") (by decide +kernel)) (fun _ h9 => h9) rfl dX7_leave_4 ?_
  refine lv_imul hx hb dX7_leave_7 ?_
  refine lv_iload_n hx hb dX7_leave_8 rfl (lv_at hl 1 rfl) ?_
  refine lv_iadd hx hb dX7_leave_9 ?_
  refine va_put (D := D) (ci := 7) (v := .int (((nI 31) * (u 13)) + (nI n))) (ty := .int) (C := RX7) (T := TX7) (N := 1) hx hb hts hinX7 tyX7 tyX7_ok nmX7 hown hK hP hD hS 5 rfl rfl 0 (by decide) (hts (.fieldLink RX7 7 "OneNail$Trace" "value" "I") (by decide +kernel)) (fun _ h9 => h9) rfl (by decide +kernel) rfl rfl (Nat.le_of_ble_eq_true rfl) dX7_leave_10 (fun H locs hP hD hS => ?_)
  have hP : va_P D vwCl (xN cA r ((upd u 13 (((nI 31) * (u 13)) + (nI n))), a, th, LP, tf)) H := hP
  have hD : va_D A (xN cA r ((upd u 13 (((nI 31) * (u 13)) + (nI n))), a, th, LP, tf)) := hD
  exact wVret hx hb hr hlocks ((upd u 13 (((nI 31) * (u 13)) + (nI n))), a, th, LP, tf) (rfl) hK hP hD hS dX7_leave_13

set_option maxHeartbeats 4000000 in
set_option maxRecDepth 100000 in
theorem kX6_plainTelling_t6 (l : Launch) (D : va_G) (cA : Nat → ClassId) (r : Nat → Nat) (sz : Nat) (u : Nat → Int32) (a : Nat → Nat → Int32) (th : Nat → Option Nat) (LP : List Nat) (tf : Nat → va_E) (tO : Nat) (q nb p1 s1 h1 m1 : Nat)  (hq : q ∈ LP) (htf : tf q = .inr (6, [.int (nI nb), .int (nI p1), .int (nI s1), .int (nI h1), .int (nI m1)]))  : Met l yX6_plainTelling wsX6_plainTelling ({ frames := 1, cells := 0, slots := 0, locals := 21 } : Room) (va_Pc [.ref (q), .ref (r 5)] (wA D vwCl (tyA cA) (eO tO) (xN cA r) (u, a, th, LP, tf) sz)) (va_Qi (fun (v : Int32) (z : sN) => v = nI h1 ∧ z = (upd u 13 (bg (u 13) 1), a, th, LP, tf)) (wB D vwCl (tyA cA) (xN cA r) (va_A (xN cA r (u, a, th, LP, tf)) sz)) (va_A (xN cA r (u, a, th, LP, tf)) sz)) 0 0 (va_A (xN cA r (u, a, th, LP, tf)) sz) := by
  refine Met.ofW (cc := cX6_plainTelling) (maxL := 2) (ret := (some .int)) (by decide) rfl ?_
  intro p e s m args below meth c s₁ B hml hv
  obtain ⟨rfl, hsz, hP, hK, hD0, hE⟩ := hv
  have hx := B.exec
  have hb := B.bytes
  have hr := B.returns
  have hts := atoms_spec (ws := wsX6_plainTelling) B.pre
  have hown : s.vm.findClass RX6 = some m.cls := findClass_of_methodNamed B.named
  have hlocks := B.notSynchronized
  subst hsz
  have hD := hD0.self (sz := s.heap.size)
  generalize hAe : va_A (xN cA r (u, a, th, LP, tf)) s.heap.size = A at hD hE ⊢
  have hA : ∀ q : Nat, s.heap.size ≤ q → A q := fun q h => by rw [← hAe]; exact Or.inr h
  have hS : va_S A s.heap s.heap [] := va_S.rf
  have hinX6 : ∀ w ∈ u_ws RX6 TX6 5, w ∈ wsX6_plainTelling := by decide +kernel
  have hl := lv_entry ([.ref (q), .ref (r 5)]) (n := 2) (Nat.le_of_ble_eq_true rfl)
  rw [lg_entry_eq]
  generalize (lg_sl ([.ref (q), .ref (r 5)]) ++ List.replicate (2 - (lg_sl ([.ref (q), .ref (r 5)])).length) Slot.unset).toArray = ls at hl ⊢
  have hl : lv_has ls 2 [(0, .ref (q)), (1, .ref (r 5))] := hl
  refine lv_aload_n hx hb dX6_plainTelling_0 rfl (lv_at hl 1 rfl) ?_
  refine lv_iconst (v := (nI 1)) hx hb dX6_plainTelling_1 rfl ?_
  refine wVv (eO_S tO) (As := [.int (nI 1)]) (rest := []) ⟨hx, hb, hml, hown, hts⟩ (kX7_leave l D cA r _ u a th LP tf tO 1) (cwV 1 hts gX6_plainTelling_X7_leave rfl rfl rfl (by decide +kernel) ⟨Nat.le_of_ble_eq_true rfl, Nat.le_of_ble_eq_true rfl⟩) (va_recv hK hP (ci := 7) (q0 := 5) rfl rfl) hK hP hD hS hA hE rfl hl.1 rfl (Nat.le_of_ble_eq_true rfl) dX6_plainTelling_2 ⟨Nat.zero_le _, Nat.zero_le _⟩ (fun z_3 H locs hw_2 hP hD hS => ?_)
  obtain rfl := hw_2
  have hP : va_P D vwCl (xN cA r ((upd u 13 (bg (u 13) 1)), a, th, LP, tf)) H := hP
  have hD : va_D A (xN cA r ((upd u 13 (bg (u 13) 1)), a, th, LP, tf)) := hD
  refine lv_aload_n hx hb dX6_plainTelling_5 rfl (lv_at hl 0 rfl) ?_
  obtain ⟨kp4, hkp4⟩ := va_pl_get (X := WN cA r (upd u 13 (bg (u 13) 1)) a th) (f := tf) hq
  rw [htf] at hkp4
  refine va_get (D := D) (ci := 6) (v := .int (nI h1)) (C := RX6) (T := TX6) (N := 5) hx hb hts hinX6 hown hK hP kp4 hkp4 rfl 3 (by decide) (hts (.fieldLink RX6 19 "OneNail$Thing" "hold" "I") (by decide +kernel)) (fun _ h9 => h9) rfl dX6_plainTelling_6 ?_
  exact wIret hx hb hr hlocks (v := (nI h1)) ((upd u 13 (bg (u 13) 1)), a, th, LP, tf) (⟨rfl, rfl⟩) hK hP hD hS dX6_plainTelling_9

set_option maxHeartbeats 4000000 in
set_option maxRecDepth 100000 in
theorem kX6_plainTelling_t1 (l : Launch) (D : va_G) (cA : Nat → ClassId) (r : Nat → Nat) (sz : Nat) (u : Nat → Int32) (a : Nat → Nat → Int32) (th : Nat → Option Nat) (LP : List Nat) (tf : Nat → va_E) (tO : Nat) (q nb p1 s1 h1 m1 : Nat)  (hq : q ∈ LP) (htf : tf q = .inr (1, [.int (nI nb), .int (nI p1), .int (nI s1), .int (nI h1), .int (nI m1)]))  : Met l yX6_plainTelling wsX6_plainTelling ({ frames := 1, cells := 0, slots := 0, locals := 21 } : Room) (va_Pc [.ref (q), .ref (r 5)] (wA D vwCl (tyA cA) (eO tO) (xN cA r) (u, a, th, LP, tf) sz)) (va_Qi (fun (v : Int32) (z : sN) => v = nI h1 ∧ z = (upd u 13 (bg (u 13) 1), a, th, LP, tf)) (wB D vwCl (tyA cA) (xN cA r) (va_A (xN cA r (u, a, th, LP, tf)) sz)) (va_A (xN cA r (u, a, th, LP, tf)) sz)) 0 0 (va_A (xN cA r (u, a, th, LP, tf)) sz) := by
  refine Met.ofW (cc := cX6_plainTelling) (maxL := 2) (ret := (some .int)) (by decide) rfl ?_
  intro p e s m args below meth c s₁ B hml hv
  obtain ⟨rfl, hsz, hP, hK, hD0, hE⟩ := hv
  have hx := B.exec
  have hb := B.bytes
  have hr := B.returns
  have hts := atoms_spec (ws := wsX6_plainTelling) B.pre
  have hown : s.vm.findClass RX6 = some m.cls := findClass_of_methodNamed B.named
  have hlocks := B.notSynchronized
  subst hsz
  have hD := hD0.self (sz := s.heap.size)
  generalize hAe : va_A (xN cA r (u, a, th, LP, tf)) s.heap.size = A at hD hE ⊢
  have hA : ∀ q : Nat, s.heap.size ≤ q → A q := fun q h => by rw [← hAe]; exact Or.inr h
  have hS : va_S A s.heap s.heap [] := va_S.rf
  have hinX1 : ∀ w ∈ u_ws RX1 TX1 5, w ∈ wsX6_plainTelling := by decide +kernel
  have hl := lv_entry ([.ref (q), .ref (r 5)]) (n := 2) (Nat.le_of_ble_eq_true rfl)
  rw [lg_entry_eq]
  generalize (lg_sl ([.ref (q), .ref (r 5)]) ++ List.replicate (2 - (lg_sl ([.ref (q), .ref (r 5)])).length) Slot.unset).toArray = ls at hl ⊢
  have hl : lv_has ls 2 [(0, .ref (q)), (1, .ref (r 5))] := hl
  refine lv_aload_n hx hb dX6_plainTelling_0 rfl (lv_at hl 1 rfl) ?_
  refine lv_iconst (v := (nI 1)) hx hb dX6_plainTelling_1 rfl ?_
  refine wVv (eO_S tO) (As := [.int (nI 1)]) (rest := []) ⟨hx, hb, hml, hown, hts⟩ (kX7_leave l D cA r _ u a th LP tf tO 1) (cwV 1 hts gX6_plainTelling_X7_leave rfl rfl rfl (by decide +kernel) ⟨Nat.le_of_ble_eq_true rfl, Nat.le_of_ble_eq_true rfl⟩) (va_recv hK hP (ci := 7) (q0 := 5) rfl rfl) hK hP hD hS hA hE rfl hl.1 rfl (Nat.le_of_ble_eq_true rfl) dX6_plainTelling_2 ⟨Nat.zero_le _, Nat.zero_le _⟩ (fun z_3 H locs hw_2 hP hD hS => ?_)
  obtain rfl := hw_2
  have hP : va_P D vwCl (xN cA r ((upd u 13 (bg (u 13) 1)), a, th, LP, tf)) H := hP
  have hD : va_D A (xN cA r ((upd u 13 (bg (u 13) 1)), a, th, LP, tf)) := hD
  refine lv_aload_n hx hb dX6_plainTelling_5 rfl (lv_at hl 0 rfl) ?_
  obtain ⟨kp4, hkp4⟩ := va_pl_get (X := WN cA r (upd u 13 (bg (u 13) 1)) a th) (f := tf) hq
  rw [htf] at hkp4
  refine va_get (D := D) (ci := 1) (v := .int (nI h1)) (C := RX1) (T := TX1) (N := 5) hx hb hts hinX1 hown hK hP kp4 hkp4 rfl 3 (by decide) (hts (.fieldLink RX6 19 "OneNail$Thing" "hold" "I") (by decide +kernel)) (fun _ h9 => h9) rfl dX6_plainTelling_6 ?_
  exact wIret hx hb hr hlocks (v := (nI h1)) ((upd u 13 (bg (u 13) 1)), a, th, LP, tf) (⟨rfl, rfl⟩) hK hP hD hS dX6_plainTelling_9

set_option maxHeartbeats 4000000 in
set_option maxRecDepth 100000 in
theorem kX6_plainTelling_t0 (l : Launch) (D : va_G) (cA : Nat → ClassId) (r : Nat → Nat) (sz : Nat) (u : Nat → Int32) (a : Nat → Nat → Int32) (th : Nat → Option Nat) (LP : List Nat) (tf : Nat → va_E) (tO : Nat) (q nb p1 s1 h1 m1 : Nat)  (hq : q ∈ LP) (htf : tf q = .inr (0, [.int (nI nb), .int (nI p1), .int (nI s1), .int (nI h1), .int (nI m1)]))  : Met l yX6_plainTelling wsX6_plainTelling ({ frames := 1, cells := 0, slots := 0, locals := 21 } : Room) (va_Pc [.ref (q), .ref (r 5)] (wA D vwCl (tyA cA) (eO tO) (xN cA r) (u, a, th, LP, tf) sz)) (va_Qi (fun (v : Int32) (z : sN) => v = nI h1 ∧ z = (upd u 13 (bg (u 13) 1), a, th, LP, tf)) (wB D vwCl (tyA cA) (xN cA r) (va_A (xN cA r (u, a, th, LP, tf)) sz)) (va_A (xN cA r (u, a, th, LP, tf)) sz)) 0 0 (va_A (xN cA r (u, a, th, LP, tf)) sz) := by
  refine Met.ofW (cc := cX6_plainTelling) (maxL := 2) (ret := (some .int)) (by decide) rfl ?_
  intro p e s m args below meth c s₁ B hml hv
  obtain ⟨rfl, hsz, hP, hK, hD0, hE⟩ := hv
  have hx := B.exec
  have hb := B.bytes
  have hr := B.returns
  have hts := atoms_spec (ws := wsX6_plainTelling) B.pre
  have hown : s.vm.findClass RX6 = some m.cls := findClass_of_methodNamed B.named
  have hlocks := B.notSynchronized
  subst hsz
  have hD := hD0.self (sz := s.heap.size)
  generalize hAe : va_A (xN cA r (u, a, th, LP, tf)) s.heap.size = A at hD hE ⊢
  have hA : ∀ q : Nat, s.heap.size ≤ q → A q := fun q h => by rw [← hAe]; exact Or.inr h
  have hS : va_S A s.heap s.heap [] := va_S.rf
  have hinX0 : ∀ w ∈ u_ws RX0 TX0 5, w ∈ wsX6_plainTelling := by decide +kernel
  have hl := lv_entry ([.ref (q), .ref (r 5)]) (n := 2) (Nat.le_of_ble_eq_true rfl)
  rw [lg_entry_eq]
  generalize (lg_sl ([.ref (q), .ref (r 5)]) ++ List.replicate (2 - (lg_sl ([.ref (q), .ref (r 5)])).length) Slot.unset).toArray = ls at hl ⊢
  have hl : lv_has ls 2 [(0, .ref (q)), (1, .ref (r 5))] := hl
  refine lv_aload_n hx hb dX6_plainTelling_0 rfl (lv_at hl 1 rfl) ?_
  refine lv_iconst (v := (nI 1)) hx hb dX6_plainTelling_1 rfl ?_
  refine wVv (eO_S tO) (As := [.int (nI 1)]) (rest := []) ⟨hx, hb, hml, hown, hts⟩ (kX7_leave l D cA r _ u a th LP tf tO 1) (cwV 1 hts gX6_plainTelling_X7_leave rfl rfl rfl (by decide +kernel) ⟨Nat.le_of_ble_eq_true rfl, Nat.le_of_ble_eq_true rfl⟩) (va_recv hK hP (ci := 7) (q0 := 5) rfl rfl) hK hP hD hS hA hE rfl hl.1 rfl (Nat.le_of_ble_eq_true rfl) dX6_plainTelling_2 ⟨Nat.zero_le _, Nat.zero_le _⟩ (fun z_3 H locs hw_2 hP hD hS => ?_)
  obtain rfl := hw_2
  have hP : va_P D vwCl (xN cA r ((upd u 13 (bg (u 13) 1)), a, th, LP, tf)) H := hP
  have hD : va_D A (xN cA r ((upd u 13 (bg (u 13) 1)), a, th, LP, tf)) := hD
  refine lv_aload_n hx hb dX6_plainTelling_5 rfl (lv_at hl 0 rfl) ?_
  obtain ⟨kp4, hkp4⟩ := va_pl_get (X := WN cA r (upd u 13 (bg (u 13) 1)) a th) (f := tf) hq
  rw [htf] at hkp4
  refine va_get (D := D) (ci := 0) (v := .int (nI h1)) (C := RX0) (T := TX0) (N := 5) hx hb hts hinX0 hown hK hP kp4 hkp4 rfl 3 (by decide) (hts (.fieldLink RX6 19 "OneNail$Thing" "hold" "I") (by decide +kernel)) (fun _ h9 => h9) rfl dX6_plainTelling_6 ?_
  exact wIret hx hb hr hlocks (v := (nI h1)) ((upd u 13 (bg (u 13) 1)), a, th, LP, tf) (⟨rfl, rfl⟩) hK hP hD hS dX6_plainTelling_9

set_option maxHeartbeats 4000000 in
set_option maxRecDepth 100000 in
theorem kX6_telling_t6 (l : Launch) (D : va_G) (cA : Nat → ClassId) (r : Nat → Nat) (sz : Nat) (u : Nat → Int32) (a : Nat → Nat → Int32) (th : Nat → Option Nat) (LP : List Nat) (tf : Nat → va_E) (tO : Nat) (q nb p1 s1 h1 m1 : Nat)  (hq : q ∈ LP) (htf : tf q = .inr (6, [.int (nI nb), .int (nI p1), .int (nI s1), .int (nI h1), .int (nI m1)]))  : Met l yX6_telling wsX6_telling ({ frames := 2, cells := 0, slots := 0, locals := 42 } : Room) (va_Pc [.ref (q), .ref (r 5)] (wA D vwCl (tyA cA) (eO tO) (xN cA r) (u, a, th, LP, tf) sz)) (va_Qi (fun (v : Int32) (z : sN) => v = nI h1 ∧ z = (upd u 13 (bg (u 13) 1), a, th, LP, tf)) (wB D vwCl (tyA cA) (xN cA r) (va_A (xN cA r (u, a, th, LP, tf)) sz)) (va_A (xN cA r (u, a, th, LP, tf)) sz)) 0 0 (va_A (xN cA r (u, a, th, LP, tf)) sz) := by
  refine Met.ofW (cc := cX6_telling) (maxL := 2) (ret := (some .int)) (by decide) rfl ?_
  intro p e s m args below meth c s₁ B hml hv
  obtain ⟨rfl, hsz, hP, hK, hD0, hE⟩ := hv
  have hx := B.exec
  have hb := B.bytes
  have hr := B.returns
  have hts := atoms_spec (ws := wsX6_telling) B.pre
  have hown : s.vm.findClass RX6 = some m.cls := findClass_of_methodNamed B.named
  have hlocks := B.notSynchronized
  subst hsz
  have hD := hD0.self (sz := s.heap.size)
  generalize hAe : va_A (xN cA r (u, a, th, LP, tf)) s.heap.size = A at hD hE ⊢
  have hA : ∀ q : Nat, s.heap.size ≤ q → A q := fun q h => by rw [← hAe]; exact Or.inr h
  have hS : va_S A s.heap s.heap [] := va_S.rf
  have hl := lv_entry ([.ref (q), .ref (r 5)]) (n := 2) (Nat.le_of_ble_eq_true rfl)
  rw [lg_entry_eq]
  generalize (lg_sl ([.ref (q), .ref (r 5)]) ++ List.replicate (2 - (lg_sl ([.ref (q), .ref (r 5)])).length) Slot.unset).toArray = ls at hl ⊢
  have hl : lv_has ls 2 [(0, .ref (q)), (1, .ref (r 5))] := hl
  refine lv_aload_n hx hb dX6_telling_0 rfl (lv_at hl 0 rfl) ?_
  refine lv_aload_n hx hb dX6_telling_1 rfl (lv_at hl 1 rfl) ?_
  obtain ⟨kp1, hkp1⟩ := va_pl_get (X := WN cA r u a th) (f := tf) hq
  rw [htf] at hkp1
  refine wVi (eO_S tO) (As := [.ref (r 5)]) (rest := []) ⟨hx, hb, hml, hown, hts⟩ (kX6_plainTelling_t6 l D cA r _ u a th LP tf tO q nb p1 s1 h1 m1  hq htf ) (cwV 1 hts gX6_telling_X6_plainTelling rfl rfl rfl (by decide +kernel) ⟨Nat.le_of_ble_eq_true rfl, Nat.le_of_ble_eq_true rfl⟩) (va_recv hK hP (ci := 6) (q0 := kp1) rfl hkp1) hK hP hD hS hA hE rfl hl.1 rfl (Nat.le_of_ble_eq_true rfl) dX6_telling_2 ⟨Nat.zero_le _, Nat.zero_le _⟩ (fun rv_2 z_4 H locs hw_3 hP hD hS => ?_)
  obtain ⟨rfl, rfl⟩ := hw_3
  have hP : va_P D vwCl (xN cA r ((upd u 13 (bg (u 13) 1)), a, th, LP, tf)) H := hP
  have hD : va_D A (xN cA r ((upd u 13 (bg (u 13) 1)), a, th, LP, tf)) := hD
  exact wIret hx hb hr hlocks (v := (nI h1)) ((upd u 13 (bg (u 13) 1)), a, th, LP, tf) (⟨rfl, rfl⟩) hK hP hD hS dX6_telling_5

set_option maxHeartbeats 4000000 in
set_option maxRecDepth 100000 in
theorem kX6_telling_t1 (l : Launch) (D : va_G) (cA : Nat → ClassId) (r : Nat → Nat) (sz : Nat) (u : Nat → Int32) (a : Nat → Nat → Int32) (th : Nat → Option Nat) (LP : List Nat) (tf : Nat → va_E) (tO : Nat) (q nb p1 s1 h1 m1 : Nat)  (hq : q ∈ LP) (htf : tf q = .inr (1, [.int (nI nb), .int (nI p1), .int (nI s1), .int (nI h1), .int (nI m1)]))  : Met l yX6_telling wsX6_telling ({ frames := 2, cells := 0, slots := 0, locals := 42 } : Room) (va_Pc [.ref (q), .ref (r 5)] (wA D vwCl (tyA cA) (eO tO) (xN cA r) (u, a, th, LP, tf) sz)) (va_Qi (fun (v : Int32) (z : sN) => v = nI h1 ∧ z = (upd u 13 (bg (u 13) 1), a, th, LP, tf)) (wB D vwCl (tyA cA) (xN cA r) (va_A (xN cA r (u, a, th, LP, tf)) sz)) (va_A (xN cA r (u, a, th, LP, tf)) sz)) 0 0 (va_A (xN cA r (u, a, th, LP, tf)) sz) := by
  refine Met.ofW (cc := cX6_telling) (maxL := 2) (ret := (some .int)) (by decide) rfl ?_
  intro p e s m args below meth c s₁ B hml hv
  obtain ⟨rfl, hsz, hP, hK, hD0, hE⟩ := hv
  have hx := B.exec
  have hb := B.bytes
  have hr := B.returns
  have hts := atoms_spec (ws := wsX6_telling) B.pre
  have hown : s.vm.findClass RX6 = some m.cls := findClass_of_methodNamed B.named
  have hlocks := B.notSynchronized
  subst hsz
  have hD := hD0.self (sz := s.heap.size)
  generalize hAe : va_A (xN cA r (u, a, th, LP, tf)) s.heap.size = A at hD hE ⊢
  have hA : ∀ q : Nat, s.heap.size ≤ q → A q := fun q h => by rw [← hAe]; exact Or.inr h
  have hS : va_S A s.heap s.heap [] := va_S.rf
  have hl := lv_entry ([.ref (q), .ref (r 5)]) (n := 2) (Nat.le_of_ble_eq_true rfl)
  rw [lg_entry_eq]
  generalize (lg_sl ([.ref (q), .ref (r 5)]) ++ List.replicate (2 - (lg_sl ([.ref (q), .ref (r 5)])).length) Slot.unset).toArray = ls at hl ⊢
  have hl : lv_has ls 2 [(0, .ref (q)), (1, .ref (r 5))] := hl
  refine lv_aload_n hx hb dX6_telling_0 rfl (lv_at hl 0 rfl) ?_
  refine lv_aload_n hx hb dX6_telling_1 rfl (lv_at hl 1 rfl) ?_
  obtain ⟨kp1, hkp1⟩ := va_pl_get (X := WN cA r u a th) (f := tf) hq
  rw [htf] at hkp1
  refine wUi (eO_S tO) (As := [.ref (r 5)]) (rest := []) ⟨hx, hb, hml, hown, hts⟩ (kX6_plainTelling_t1 l D cA r _ u a th LP tf tO q nb p1 s1 h1 m1  hq htf ) (va_cwU 1 hts gX6_telling_X6_plainTelling_u31X1 rfl rfl rfl rfl (by decide +kernel) ⟨Nat.le_of_ble_eq_true rfl, Nat.le_of_ble_eq_true rfl⟩) (va_recv hK hP (ci := 1) (q0 := kp1) rfl hkp1) hK hP hD hS hA hE rfl hl.1 rfl (Nat.le_of_ble_eq_true rfl) dX6_telling_2 ⟨Nat.zero_le _, Nat.zero_le _⟩ (fun rv_2 z_4 H locs hw_3 hP hD hS => ?_)
  obtain ⟨rfl, rfl⟩ := hw_3
  have hP : va_P D vwCl (xN cA r ((upd u 13 (bg (u 13) 1)), a, th, LP, tf)) H := hP
  have hD : va_D A (xN cA r ((upd u 13 (bg (u 13) 1)), a, th, LP, tf)) := hD
  exact wIret hx hb hr hlocks (v := (nI h1)) ((upd u 13 (bg (u 13) 1)), a, th, LP, tf) (⟨rfl, rfl⟩) hK hP hD hS dX6_telling_5

set_option maxHeartbeats 4000000 in
set_option maxRecDepth 100000 in
theorem kX6_telling_t0 (l : Launch) (D : va_G) (cA : Nat → ClassId) (r : Nat → Nat) (sz : Nat) (u : Nat → Int32) (a : Nat → Nat → Int32) (th : Nat → Option Nat) (LP : List Nat) (tf : Nat → va_E) (tO : Nat) (q nb p1 s1 h1 m1 : Nat)  (hq : q ∈ LP) (htf : tf q = .inr (0, [.int (nI nb), .int (nI p1), .int (nI s1), .int (nI h1), .int (nI m1)]))  : Met l yX6_telling wsX6_telling ({ frames := 2, cells := 0, slots := 0, locals := 42 } : Room) (va_Pc [.ref (q), .ref (r 5)] (wA D vwCl (tyA cA) (eO tO) (xN cA r) (u, a, th, LP, tf) sz)) (va_Qi (fun (v : Int32) (z : sN) => v = nI h1 ∧ z = (upd u 13 (bg (u 13) 1), a, th, LP, tf)) (wB D vwCl (tyA cA) (xN cA r) (va_A (xN cA r (u, a, th, LP, tf)) sz)) (va_A (xN cA r (u, a, th, LP, tf)) sz)) 0 0 (va_A (xN cA r (u, a, th, LP, tf)) sz) := by
  refine Met.ofW (cc := cX6_telling) (maxL := 2) (ret := (some .int)) (by decide) rfl ?_
  intro p e s m args below meth c s₁ B hml hv
  obtain ⟨rfl, hsz, hP, hK, hD0, hE⟩ := hv
  have hx := B.exec
  have hb := B.bytes
  have hr := B.returns
  have hts := atoms_spec (ws := wsX6_telling) B.pre
  have hown : s.vm.findClass RX6 = some m.cls := findClass_of_methodNamed B.named
  have hlocks := B.notSynchronized
  subst hsz
  have hD := hD0.self (sz := s.heap.size)
  generalize hAe : va_A (xN cA r (u, a, th, LP, tf)) s.heap.size = A at hD hE ⊢
  have hA : ∀ q : Nat, s.heap.size ≤ q → A q := fun q h => by rw [← hAe]; exact Or.inr h
  have hS : va_S A s.heap s.heap [] := va_S.rf
  have hl := lv_entry ([.ref (q), .ref (r 5)]) (n := 2) (Nat.le_of_ble_eq_true rfl)
  rw [lg_entry_eq]
  generalize (lg_sl ([.ref (q), .ref (r 5)]) ++ List.replicate (2 - (lg_sl ([.ref (q), .ref (r 5)])).length) Slot.unset).toArray = ls at hl ⊢
  have hl : lv_has ls 2 [(0, .ref (q)), (1, .ref (r 5))] := hl
  refine lv_aload_n hx hb dX6_telling_0 rfl (lv_at hl 0 rfl) ?_
  refine lv_aload_n hx hb dX6_telling_1 rfl (lv_at hl 1 rfl) ?_
  obtain ⟨kp1, hkp1⟩ := va_pl_get (X := WN cA r u a th) (f := tf) hq
  rw [htf] at hkp1
  refine wUi (eO_S tO) (As := [.ref (r 5)]) (rest := []) ⟨hx, hb, hml, hown, hts⟩ (kX6_plainTelling_t0 l D cA r _ u a th LP tf tO q nb p1 s1 h1 m1  hq htf ) (va_cwU 1 hts gX6_telling_X6_plainTelling_u31X0 rfl rfl rfl rfl (by decide +kernel) ⟨Nat.le_of_ble_eq_true rfl, Nat.le_of_ble_eq_true rfl⟩) (va_recv hK hP (ci := 0) (q0 := kp1) rfl hkp1) hK hP hD hS hA hE rfl hl.1 rfl (Nat.le_of_ble_eq_true rfl) dX6_telling_2 ⟨Nat.zero_le _, Nat.zero_le _⟩ (fun rv_2 z_4 H locs hw_3 hP hD hS => ?_)
  obtain ⟨rfl, rfl⟩ := hw_3
  have hP : va_P D vwCl (xN cA r ((upd u 13 (bg (u 13) 1)), a, th, LP, tf)) H := hP
  have hD : va_D A (xN cA r ((upd u 13 (bg (u 13) 1)), a, th, LP, tf)) := hD
  exact wIret hx hb hr hlocks (v := (nI h1)) ((upd u 13 (bg (u 13) 1)), a, th, LP, tf) (⟨rfl, rfl⟩) hK hP hD hS dX6_telling_5

set_option maxHeartbeats 4000000 in
set_option maxRecDepth 100000 in
theorem kX1_telling_t1 (l : Launch) (D : va_G) (cA : Nat → ClassId) (r : Nat → Nat) (sz : Nat) (u : Nat → Int32) (a : Nat → Nat → Int32) (th : Nat → Option Nat) (LP : List Nat) (tf : Nat → va_E) (tO : Nat) (q nb p1 s1 h1 m1 : Nat)  (hq : q ∈ LP) (htf : tf q = .inr (1, [.int (nI nb), .int (nI p1), .int (nI s1), .int (nI h1), .int (nI m1)]))  : Met l yX1_telling wsX1_telling ({ frames := 3, cells := 0, slots := 0, locals := 63 } : Room) (va_Pc [.ref (q), .ref (r 5)] (wA D vwCl (tyA cA) (eO tO) (xN cA r) (u, a, th, LP, tf) sz)) (va_Qi (fun (v : Int32) (z : sN) => v = nI (h1 + 100) ∧ z = (upd u 13 (bg (bg (u 13) 2) 1), a, th, LP, tf)) (wB D vwCl (tyA cA) (xN cA r) (va_A (xN cA r (u, a, th, LP, tf)) sz)) (va_A (xN cA r (u, a, th, LP, tf)) sz)) 0 0 (va_A (xN cA r (u, a, th, LP, tf)) sz) := by
  refine Met.ofW (cc := cX1_telling) (maxL := 2) (ret := (some .int)) (by decide) rfl ?_
  intro p e s m args below meth c s₁ B hml hv
  obtain ⟨rfl, hsz, hP, hK, hD0, hE⟩ := hv
  have hx := B.exec
  have hb := B.bytes
  have hr := B.returns
  have hts := atoms_spec (ws := wsX1_telling) B.pre
  have hown : s.vm.findClass RX1 = some m.cls := findClass_of_methodNamed B.named
  have hlocks := B.notSynchronized
  subst hsz
  have hD := hD0.self (sz := s.heap.size)
  generalize hAe : va_A (xN cA r (u, a, th, LP, tf)) s.heap.size = A at hD hE ⊢
  have hA : ∀ q : Nat, s.heap.size ≤ q → A q := fun q h => by rw [← hAe]; exact Or.inr h
  have hS : va_S A s.heap s.heap [] := va_S.rf
  have hl := lv_entry ([.ref (q), .ref (r 5)]) (n := 2) (Nat.le_of_ble_eq_true rfl)
  rw [lg_entry_eq]
  generalize (lg_sl ([.ref (q), .ref (r 5)]) ++ List.replicate (2 - (lg_sl ([.ref (q), .ref (r 5)])).length) Slot.unset).toArray = ls at hl ⊢
  have hl : lv_has ls 2 [(0, .ref (q)), (1, .ref (r 5))] := hl
  refine lv_aload_n hx hb dX1_telling_0 rfl (lv_at hl 1 rfl) ?_
  refine lv_iconst (v := (nI 2)) hx hb dX1_telling_1 rfl ?_
  refine wVv (eO_S tO) (As := [.int (nI 2)]) (rest := []) ⟨hx, hb, hml, hown, hts⟩ (kX7_leave l D cA r _ u a th LP tf tO 2) (cwV 1 hts gX1_telling_X7_leave rfl rfl rfl (by decide +kernel) ⟨Nat.le_of_ble_eq_true rfl, Nat.le_of_ble_eq_true rfl⟩) (va_recv hK hP (ci := 7) (q0 := 5) rfl rfl) hK hP hD hS hA hE rfl hl.1 rfl (Nat.le_of_ble_eq_true rfl) dX1_telling_2 ⟨Nat.zero_le _, Nat.zero_le _⟩ (fun z_3 H locs hw_2 hP hD hS => ?_)
  obtain rfl := hw_2
  have hP : va_P D vwCl (xN cA r ((upd u 13 (bg (u 13) 2)), a, th, LP, tf)) H := hP
  have hD : va_D A (xN cA r ((upd u 13 (bg (u 13) 2)), a, th, LP, tf)) := hD
  refine lv_aload_n hx hb dX1_telling_5 rfl (lv_at hl 0 rfl) ?_
  refine lv_aload_n hx hb dX1_telling_6 rfl (lv_at hl 1 rfl) ?_
  obtain ⟨kp4, hkp4⟩ := va_pl_get (X := WN cA r (upd u 13 (bg (u 13) 2)) a th) (f := tf) hq
  rw [htf] at hkp4
  refine wSUi (hK.1 1 _ rfl).2 (eO_S tO) (As := [.ref (r 5)]) (rest := []) ⟨hx, hb, hml, hown, hts⟩ (kX6_telling_t1 l D cA r _ (upd u 13 (bg (u 13) 2)) a th LP tf tO q nb p1 s1 h1 m1  hq htf ) (va_cwSU 1 hts gX1_telling_X6_telling_s17 rfl rfl rfl (by decide +kernel) ⟨Nat.le_of_ble_eq_true rfl, Nat.le_of_ble_eq_true rfl⟩) (va_recv hK hP (ci := 1) (q0 := kp4) rfl hkp4) hK hP hD hS hA hE rfl hl.1 rfl (Nat.le_of_ble_eq_true rfl) dX1_telling_7 ⟨Nat.zero_le _, Nat.zero_le _⟩ (fun rv_5 z_7 H locs hw_6 hP hD hS => ?_)
  obtain ⟨rfl, rfl⟩ := hw_6
  have hP : va_P D vwCl (xN cA r ((upd u 13 (bg (bg (u 13) 2) 1)), a, th, LP, tf)) H := hP
  have hD : va_D A (xN cA r ((upd u 13 (bg (bg (u 13) 2) 1)), a, th, LP, tf)) := hD
  refine lv_bipush (v := (nI 100)) hx hb dX1_telling_10 rfl ?_
  refine rn_iadd (x := h1) (y := 100) hx hb dX1_telling_12 ?_
  exact wIret hx hb hr hlocks (v := (nI (h1 + 100))) ((upd u 13 (bg (bg (u 13) 2) 1)), a, th, LP, tf) (⟨rfl, rfl⟩) hK hP hD hS dX1_telling_13

set_option maxHeartbeats 4000000 in
set_option maxRecDepth 100000 in
theorem kX1_telling_t0 (l : Launch) (D : va_G) (cA : Nat → ClassId) (r : Nat → Nat) (sz : Nat) (u : Nat → Int32) (a : Nat → Nat → Int32) (th : Nat → Option Nat) (LP : List Nat) (tf : Nat → va_E) (tO : Nat) (q nb p1 s1 h1 m1 : Nat)  (hq : q ∈ LP) (htf : tf q = .inr (0, [.int (nI nb), .int (nI p1), .int (nI s1), .int (nI h1), .int (nI m1)]))  : Met l yX1_telling wsX1_telling ({ frames := 3, cells := 0, slots := 0, locals := 63 } : Room) (va_Pc [.ref (q), .ref (r 5)] (wA D vwCl (tyA cA) (eO tO) (xN cA r) (u, a, th, LP, tf) sz)) (va_Qi (fun (v : Int32) (z : sN) => v = nI (h1 + 100) ∧ z = (upd u 13 (bg (bg (u 13) 2) 1), a, th, LP, tf)) (wB D vwCl (tyA cA) (xN cA r) (va_A (xN cA r (u, a, th, LP, tf)) sz)) (va_A (xN cA r (u, a, th, LP, tf)) sz)) 0 0 (va_A (xN cA r (u, a, th, LP, tf)) sz) := by
  refine Met.ofW (cc := cX1_telling) (maxL := 2) (ret := (some .int)) (by decide) rfl ?_
  intro p e s m args below meth c s₁ B hml hv
  obtain ⟨rfl, hsz, hP, hK, hD0, hE⟩ := hv
  have hx := B.exec
  have hb := B.bytes
  have hr := B.returns
  have hts := atoms_spec (ws := wsX1_telling) B.pre
  have hown : s.vm.findClass RX1 = some m.cls := findClass_of_methodNamed B.named
  have hlocks := B.notSynchronized
  subst hsz
  have hD := hD0.self (sz := s.heap.size)
  generalize hAe : va_A (xN cA r (u, a, th, LP, tf)) s.heap.size = A at hD hE ⊢
  have hA : ∀ q : Nat, s.heap.size ≤ q → A q := fun q h => by rw [← hAe]; exact Or.inr h
  have hS : va_S A s.heap s.heap [] := va_S.rf
  have hl := lv_entry ([.ref (q), .ref (r 5)]) (n := 2) (Nat.le_of_ble_eq_true rfl)
  rw [lg_entry_eq]
  generalize (lg_sl ([.ref (q), .ref (r 5)]) ++ List.replicate (2 - (lg_sl ([.ref (q), .ref (r 5)])).length) Slot.unset).toArray = ls at hl ⊢
  have hl : lv_has ls 2 [(0, .ref (q)), (1, .ref (r 5))] := hl
  refine lv_aload_n hx hb dX1_telling_0 rfl (lv_at hl 1 rfl) ?_
  refine lv_iconst (v := (nI 2)) hx hb dX1_telling_1 rfl ?_
  refine wVv (eO_S tO) (As := [.int (nI 2)]) (rest := []) ⟨hx, hb, hml, hown, hts⟩ (kX7_leave l D cA r _ u a th LP tf tO 2) (cwV 1 hts gX1_telling_X7_leave rfl rfl rfl (by decide +kernel) ⟨Nat.le_of_ble_eq_true rfl, Nat.le_of_ble_eq_true rfl⟩) (va_recv hK hP (ci := 7) (q0 := 5) rfl rfl) hK hP hD hS hA hE rfl hl.1 rfl (Nat.le_of_ble_eq_true rfl) dX1_telling_2 ⟨Nat.zero_le _, Nat.zero_le _⟩ (fun z_3 H locs hw_2 hP hD hS => ?_)
  obtain rfl := hw_2
  have hP : va_P D vwCl (xN cA r ((upd u 13 (bg (u 13) 2)), a, th, LP, tf)) H := hP
  have hD : va_D A (xN cA r ((upd u 13 (bg (u 13) 2)), a, th, LP, tf)) := hD
  refine lv_aload_n hx hb dX1_telling_5 rfl (lv_at hl 0 rfl) ?_
  refine lv_aload_n hx hb dX1_telling_6 rfl (lv_at hl 1 rfl) ?_
  obtain ⟨kp4, hkp4⟩ := va_pl_get (X := WN cA r (upd u 13 (bg (u 13) 2)) a th) (f := tf) hq
  rw [htf] at hkp4
  refine wSUi (hK.1 0 _ rfl).2 (eO_S tO) (As := [.ref (r 5)]) (rest := []) ⟨hx, hb, hml, hown, hts⟩ (kX6_telling_t0 l D cA r _ (upd u 13 (bg (u 13) 2)) a th LP tf tO q nb p1 s1 h1 m1  hq htf ) (va_cwSU 1 hts gX1_telling_X6_telling_s17 rfl rfl rfl (by decide +kernel) ⟨Nat.le_of_ble_eq_true rfl, Nat.le_of_ble_eq_true rfl⟩) (va_recv hK hP (ci := 0) (q0 := kp4) rfl hkp4) hK hP hD hS hA hE rfl hl.1 rfl (Nat.le_of_ble_eq_true rfl) dX1_telling_7 ⟨Nat.zero_le _, Nat.zero_le _⟩ (fun rv_5 z_7 H locs hw_6 hP hD hS => ?_)
  obtain ⟨rfl, rfl⟩ := hw_6
  have hP : va_P D vwCl (xN cA r ((upd u 13 (bg (bg (u 13) 2) 1)), a, th, LP, tf)) H := hP
  have hD : va_D A (xN cA r ((upd u 13 (bg (bg (u 13) 2) 1)), a, th, LP, tf)) := hD
  refine lv_bipush (v := (nI 100)) hx hb dX1_telling_10 rfl ?_
  refine rn_iadd (x := h1) (y := 100) hx hb dX1_telling_12 ?_
  exact wIret hx hb hr hlocks (v := (nI (h1 + 100))) ((upd u 13 (bg (bg (u 13) 2) 1)), a, th, LP, tf) (⟨rfl, rfl⟩) hK hP hD hS dX1_telling_13

set_option maxHeartbeats 4000000 in
set_option maxRecDepth 100000 in
theorem kX0_telling_t0 (l : Launch) (D : va_G) (cA : Nat → ClassId) (r : Nat → Nat) (sz : Nat) (u : Nat → Int32) (a : Nat → Nat → Int32) (th : Nat → Option Nat) (LP : List Nat) (tf : Nat → va_E) (tO : Nat) (q nb p1 s1 h1 m1 : Nat)  (hq : q ∈ LP) (htf : tf q = .inr (0, [.int (nI nb), .int (nI p1), .int (nI s1), .int (nI h1), .int (nI m1)]))  : Met l yX0_telling wsX0_telling ({ frames := 4, cells := 0, slots := 0, locals := 84 } : Room) (va_Pc [.ref (q), .ref (r 5)] (wA D vwCl (tyA cA) (eO tO) (xN cA r) (u, a, th, LP, tf) sz)) (va_Qi (fun (v : Int32) (z : sN) => v = nI (2 * h1 + 100) ∧ z = (upd u 13 (bg (bg (bg (bg (u 13) 3) 2) 1) 1), a, th, LP, tf)) (wB D vwCl (tyA cA) (xN cA r) (va_A (xN cA r (u, a, th, LP, tf)) sz)) (va_A (xN cA r (u, a, th, LP, tf)) sz)) 0 0 (va_A (xN cA r (u, a, th, LP, tf)) sz) := by
  refine Met.ofW (cc := cX0_telling) (maxL := 3) (ret := (some .int)) (by decide) rfl ?_
  intro p e s m args below meth c s₁ B hml hv
  obtain ⟨rfl, hsz, hP, hK, hD0, hE⟩ := hv
  have hx := B.exec
  have hb := B.bytes
  have hr := B.returns
  have hts := atoms_spec (ws := wsX0_telling) B.pre
  have hown : s.vm.findClass RX0 = some m.cls := findClass_of_methodNamed B.named
  have hlocks := B.notSynchronized
  subst hsz
  have hD := hD0.self (sz := s.heap.size)
  generalize hAe : va_A (xN cA r (u, a, th, LP, tf)) s.heap.size = A at hD hE ⊢
  have hA : ∀ q : Nat, s.heap.size ≤ q → A q := fun q h => by rw [← hAe]; exact Or.inr h
  have hS : va_S A s.heap s.heap [] := va_S.rf
  have hl := lv_entry ([.ref (q), .ref (r 5)]) (n := 3) (Nat.le_of_ble_eq_true rfl)
  rw [lg_entry_eq]
  generalize (lg_sl ([.ref (q), .ref (r 5)]) ++ List.replicate (3 - (lg_sl ([.ref (q), .ref (r 5)])).length) Slot.unset).toArray = ls at hl ⊢
  have hl : lv_has ls 3 [(0, .ref (q)), (1, .ref (r 5))] := hl
  refine lv_aload_n hx hb dX0_telling_0 rfl (lv_at hl 1 rfl) ?_
  refine lv_iconst (v := (nI 3)) hx hb dX0_telling_1 rfl ?_
  refine wVv (eO_S tO) (As := [.int (nI 3)]) (rest := []) ⟨hx, hb, hml, hown, hts⟩ (kX7_leave l D cA r _ u a th LP tf tO 3) (cwV 1 hts gX0_telling_X7_leave rfl rfl rfl (by decide +kernel) ⟨Nat.le_of_ble_eq_true rfl, Nat.le_of_ble_eq_true rfl⟩) (va_recv hK hP (ci := 7) (q0 := 5) rfl rfl) hK hP hD hS hA hE rfl hl.1 rfl (Nat.le_of_ble_eq_true rfl) dX0_telling_2 ⟨Nat.zero_le _, Nat.zero_le _⟩ (fun z_3 H locs hw_2 hP hD hS => ?_)
  obtain rfl := hw_2
  have hP : va_P D vwCl (xN cA r ((upd u 13 (bg (u 13) 3)), a, th, LP, tf)) H := hP
  have hD : va_D A (xN cA r ((upd u 13 (bg (u 13) 3)), a, th, LP, tf)) := hD
  refine lv_aload_n hx hb dX0_telling_5 rfl (lv_at hl 0 rfl) ?_
  refine lv_aload_n hx hb dX0_telling_6 rfl (lv_at hl 1 rfl) ?_
  obtain ⟨kp4, hkp4⟩ := va_pl_get (X := WN cA r (upd u 13 (bg (u 13) 3)) a th) (f := tf) hq
  rw [htf] at hkp4
  refine wSUi (hK.1 0 _ rfl).2 (eO_S tO) (As := [.ref (r 5)]) (rest := []) ⟨hx, hb, hml, hown, hts⟩ (kX1_telling_t0 l D cA r _ (upd u 13 (bg (u 13) 3)) a th LP tf tO q nb p1 s1 h1 m1  hq htf ) (va_cwSU 1 hts gX0_telling_X1_telling_s17 rfl rfl rfl (by decide +kernel) ⟨Nat.le_of_ble_eq_true rfl, Nat.le_of_ble_eq_true rfl⟩) (va_recv hK hP (ci := 0) (q0 := kp4) rfl hkp4) hK hP hD hS hA hE rfl hl.1 rfl (Nat.le_of_ble_eq_true rfl) dX0_telling_7 ⟨Nat.zero_le _, Nat.zero_le _⟩ (fun rv_5 z_7 H locs hw_6 hP hD hS => ?_)
  obtain ⟨rfl, rfl⟩ := hw_6
  have hP : va_P D vwCl (xN cA r ((upd u 13 (bg (bg (bg (u 13) 3) 2) 1)), a, th, LP, tf)) H := hP
  have hD : va_D A (xN cA r ((upd u 13 (bg (bg (bg (u 13) 3) 2) 1)), a, th, LP, tf)) := hD
  refine lv_istore_n (lv' := [(2, .int (nI (h1 + 100))), (0, .ref (q)), (1, .ref (r 5))]) hx hb dX0_telling_10 rfl hl (by decide) rfl (fun ls hl => ?_)
  refine lv_iload_n hx hb dX0_telling_11 rfl (lv_at hl 0 rfl) ?_
  refine lv_aload_n hx hb dX0_telling_12 rfl (lv_at hl 1 rfl) ?_
  refine lv_aload_n hx hb dX0_telling_13 rfl (lv_at hl 2 rfl) ?_
  obtain ⟨kp8, hkp8⟩ := va_pl_get (X := WN cA r (upd u 13 (bg (bg (bg (u 13) 3) 2) 1)) a th) (f := tf) hq
  rw [htf] at hkp8
  refine wUi (eO_S tO) (As := [.ref (r 5)]) (rest := [.int (nI (h1 + 100))]) ⟨hx, hb, hml, hown, hts⟩ (kX6_plainTelling_t0 l D cA r _ (upd u 13 (bg (bg (bg (u 13) 3) 2) 1)) a th LP tf tO q nb p1 s1 h1 m1  hq htf ) (va_cwU 1 hts gX0_telling_X6_plainTelling_u21X0 rfl rfl rfl rfl (by decide +kernel) ⟨Nat.le_of_ble_eq_true rfl, Nat.le_of_ble_eq_true rfl⟩) (va_recv hK hP (ci := 0) (q0 := kp8) rfl hkp8) hK hP hD hS hA hE rfl hl.1 rfl (Nat.le_of_ble_eq_true rfl) dX0_telling_14 ⟨Nat.zero_le _, Nat.zero_le _⟩ (fun rv_9 z_11 H locs hw_10 hP hD hS => ?_)
  obtain ⟨rfl, rfl⟩ := hw_10
  have hP : va_P D vwCl (xN cA r ((upd u 13 (bg (bg (bg (bg (u 13) 3) 2) 1) 1)), a, th, LP, tf)) H := hP
  have hD : va_D A (xN cA r ((upd u 13 (bg (bg (bg (bg (u 13) 3) 2) 1) 1)), a, th, LP, tf)) := hD
  refine rn_iadd (x := h1 + 100) (y := h1) hx hb dX0_telling_17 ?_
  exact wIret hx hb hr hlocks (v := (nI ((h1 + 100) + h1))) ((upd u 13 (bg (bg (bg (bg (u 13) 3) 2) 1) 1)), a, th, LP, tf) (⟨congrArg nI (by omega), rfl⟩) hK hP hD hS dX0_telling_18

set_option maxHeartbeats 4000000 in
set_option maxRecDepth 100000 in
theorem kX6_struck_t6 (l : Launch) (D : va_G) (cA : Nat → ClassId) (r : Nat → Nat) (sz : Nat) (u : Nat → Int32) (a : Nat → Nat → Int32) (th : Nat → Option Nat) (LP : List Nat) (tf : Nat → va_E) (tO : Nat) (q nb p1 s1 h1 m1 : Nat)  (hq : q ∈ LP) (htf : tf q = .inr (6, [.int (nI nb), .int (nI p1), .int (nI s1), .int (nI h1), .int (nI m1)]))  : Met l yX6_struck wsX6_struck ({ frames := 1, cells := 0, slots := 0, locals := 21 } : Room) (va_Pc [.ref (q), .ref (r 5)] (wA D vwCl (tyA cA) (eO tO) (xN cA r) (u, a, th, LP, tf) sz)) (va_Qi (fun (v : Int32) (z : sN) => v = nI nb ∧ z = (upd u 13 (bg (u 13) 4), a, th, LP, tf)) (wB D vwCl (tyA cA) (xN cA r) (va_A (xN cA r (u, a, th, LP, tf)) sz)) (va_A (xN cA r (u, a, th, LP, tf)) sz)) 0 0 (va_A (xN cA r (u, a, th, LP, tf)) sz) := by
  refine Met.ofW (cc := cX6_struck) (maxL := 2) (ret := (some .int)) (by decide) rfl ?_
  intro p e s m args below meth c s₁ B hml hv
  obtain ⟨rfl, hsz, hP, hK, hD0, hE⟩ := hv
  have hx := B.exec
  have hb := B.bytes
  have hr := B.returns
  have hts := atoms_spec (ws := wsX6_struck) B.pre
  have hown : s.vm.findClass RX6 = some m.cls := findClass_of_methodNamed B.named
  have hlocks := B.notSynchronized
  subst hsz
  have hD := hD0.self (sz := s.heap.size)
  generalize hAe : va_A (xN cA r (u, a, th, LP, tf)) s.heap.size = A at hD hE ⊢
  have hA : ∀ q : Nat, s.heap.size ≤ q → A q := fun q h => by rw [← hAe]; exact Or.inr h
  have hS : va_S A s.heap s.heap [] := va_S.rf
  have hinX6 : ∀ w ∈ u_ws RX6 TX6 5, w ∈ wsX6_struck := by decide +kernel
  have hl := lv_entry ([.ref (q), .ref (r 5)]) (n := 2) (Nat.le_of_ble_eq_true rfl)
  rw [lg_entry_eq]
  generalize (lg_sl ([.ref (q), .ref (r 5)]) ++ List.replicate (2 - (lg_sl ([.ref (q), .ref (r 5)])).length) Slot.unset).toArray = ls at hl ⊢
  have hl : lv_has ls 2 [(0, .ref (q)), (1, .ref (r 5))] := hl
  refine lv_aload_n hx hb dX6_struck_0 rfl (lv_at hl 1 rfl) ?_
  refine lv_iconst (v := (nI 4)) hx hb dX6_struck_1 rfl ?_
  refine wVv (eO_S tO) (As := [.int (nI 4)]) (rest := []) ⟨hx, hb, hml, hown, hts⟩ (kX7_leave l D cA r _ u a th LP tf tO 4) (cwV 1 hts gX6_struck_X7_leave rfl rfl rfl (by decide +kernel) ⟨Nat.le_of_ble_eq_true rfl, Nat.le_of_ble_eq_true rfl⟩) (va_recv hK hP (ci := 7) (q0 := 5) rfl rfl) hK hP hD hS hA hE rfl hl.1 rfl (Nat.le_of_ble_eq_true rfl) dX6_struck_2 ⟨Nat.zero_le _, Nat.zero_le _⟩ (fun z_3 H locs hw_2 hP hD hS => ?_)
  obtain rfl := hw_2
  have hP : va_P D vwCl (xN cA r ((upd u 13 (bg (u 13) 4)), a, th, LP, tf)) H := hP
  have hD : va_D A (xN cA r ((upd u 13 (bg (u 13) 4)), a, th, LP, tf)) := hD
  refine lv_aload_n hx hb dX6_struck_5 rfl (lv_at hl 0 rfl) ?_
  obtain ⟨kp4, hkp4⟩ := va_pl_get (X := WN cA r (upd u 13 (bg (u 13) 4)) a th) (f := tf) hq
  rw [htf] at hkp4
  refine va_get (D := D) (ci := 6) (v := .int (nI nb)) (C := RX6) (T := TX6) (N := 5) hx hb hts hinX6 hown hK hP kp4 hkp4 rfl 0 (by decide) (hts (.fieldLink RX6 7 "OneNail$Thing" "number" "I") (by decide +kernel)) (fun _ h9 => h9) rfl dX6_struck_6 ?_
  exact wIret hx hb hr hlocks (v := (nI nb)) ((upd u 13 (bg (u 13) 4)), a, th, LP, tf) (⟨rfl, rfl⟩) hK hP hD hS dX6_struck_9

set_option maxHeartbeats 4000000 in
set_option maxRecDepth 100000 in
theorem kX6_struck_t1 (l : Launch) (D : va_G) (cA : Nat → ClassId) (r : Nat → Nat) (sz : Nat) (u : Nat → Int32) (a : Nat → Nat → Int32) (th : Nat → Option Nat) (LP : List Nat) (tf : Nat → va_E) (tO : Nat) (q nb p1 s1 h1 m1 : Nat)  (hq : q ∈ LP) (htf : tf q = .inr (1, [.int (nI nb), .int (nI p1), .int (nI s1), .int (nI h1), .int (nI m1)]))  : Met l yX6_struck wsX6_struck ({ frames := 1, cells := 0, slots := 0, locals := 21 } : Room) (va_Pc [.ref (q), .ref (r 5)] (wA D vwCl (tyA cA) (eO tO) (xN cA r) (u, a, th, LP, tf) sz)) (va_Qi (fun (v : Int32) (z : sN) => v = nI nb ∧ z = (upd u 13 (bg (u 13) 4), a, th, LP, tf)) (wB D vwCl (tyA cA) (xN cA r) (va_A (xN cA r (u, a, th, LP, tf)) sz)) (va_A (xN cA r (u, a, th, LP, tf)) sz)) 0 0 (va_A (xN cA r (u, a, th, LP, tf)) sz) := by
  refine Met.ofW (cc := cX6_struck) (maxL := 2) (ret := (some .int)) (by decide) rfl ?_
  intro p e s m args below meth c s₁ B hml hv
  obtain ⟨rfl, hsz, hP, hK, hD0, hE⟩ := hv
  have hx := B.exec
  have hb := B.bytes
  have hr := B.returns
  have hts := atoms_spec (ws := wsX6_struck) B.pre
  have hown : s.vm.findClass RX6 = some m.cls := findClass_of_methodNamed B.named
  have hlocks := B.notSynchronized
  subst hsz
  have hD := hD0.self (sz := s.heap.size)
  generalize hAe : va_A (xN cA r (u, a, th, LP, tf)) s.heap.size = A at hD hE ⊢
  have hA : ∀ q : Nat, s.heap.size ≤ q → A q := fun q h => by rw [← hAe]; exact Or.inr h
  have hS : va_S A s.heap s.heap [] := va_S.rf
  have hinX1 : ∀ w ∈ u_ws RX1 TX1 5, w ∈ wsX6_struck := by decide +kernel
  have hl := lv_entry ([.ref (q), .ref (r 5)]) (n := 2) (Nat.le_of_ble_eq_true rfl)
  rw [lg_entry_eq]
  generalize (lg_sl ([.ref (q), .ref (r 5)]) ++ List.replicate (2 - (lg_sl ([.ref (q), .ref (r 5)])).length) Slot.unset).toArray = ls at hl ⊢
  have hl : lv_has ls 2 [(0, .ref (q)), (1, .ref (r 5))] := hl
  refine lv_aload_n hx hb dX6_struck_0 rfl (lv_at hl 1 rfl) ?_
  refine lv_iconst (v := (nI 4)) hx hb dX6_struck_1 rfl ?_
  refine wVv (eO_S tO) (As := [.int (nI 4)]) (rest := []) ⟨hx, hb, hml, hown, hts⟩ (kX7_leave l D cA r _ u a th LP tf tO 4) (cwV 1 hts gX6_struck_X7_leave rfl rfl rfl (by decide +kernel) ⟨Nat.le_of_ble_eq_true rfl, Nat.le_of_ble_eq_true rfl⟩) (va_recv hK hP (ci := 7) (q0 := 5) rfl rfl) hK hP hD hS hA hE rfl hl.1 rfl (Nat.le_of_ble_eq_true rfl) dX6_struck_2 ⟨Nat.zero_le _, Nat.zero_le _⟩ (fun z_3 H locs hw_2 hP hD hS => ?_)
  obtain rfl := hw_2
  have hP : va_P D vwCl (xN cA r ((upd u 13 (bg (u 13) 4)), a, th, LP, tf)) H := hP
  have hD : va_D A (xN cA r ((upd u 13 (bg (u 13) 4)), a, th, LP, tf)) := hD
  refine lv_aload_n hx hb dX6_struck_5 rfl (lv_at hl 0 rfl) ?_
  obtain ⟨kp4, hkp4⟩ := va_pl_get (X := WN cA r (upd u 13 (bg (u 13) 4)) a th) (f := tf) hq
  rw [htf] at hkp4
  refine va_get (D := D) (ci := 1) (v := .int (nI nb)) (C := RX1) (T := TX1) (N := 5) hx hb hts hinX1 hown hK hP kp4 hkp4 rfl 0 (by decide) (hts (.fieldLink RX6 7 "OneNail$Thing" "number" "I") (by decide +kernel)) (fun _ h9 => h9) rfl dX6_struck_6 ?_
  exact wIret hx hb hr hlocks (v := (nI nb)) ((upd u 13 (bg (u 13) 4)), a, th, LP, tf) (⟨rfl, rfl⟩) hK hP hD hS dX6_struck_9

set_option maxHeartbeats 4000000 in
set_option maxRecDepth 100000 in
theorem kX0_struck_t0 (l : Launch) (D : va_G) (cA : Nat → ClassId) (r : Nat → Nat) (sz : Nat) (u : Nat → Int32) (a : Nat → Nat → Int32) (th : Nat → Option Nat) (LP : List Nat) (tf : Nat → va_E) (tO : Nat) (q nb p1 s1 h1 m1 : Nat)  (hq : q ∈ LP) (htf : tf q = .inr (0, [.int (nI nb), .int (nI p1), .int (nI s1), .int (nI h1), .int (nI m1)]))  : Met l yX0_struck wsX0_struck ({ frames := 1, cells := 0, slots := 0, locals := 21 } : Room) (va_Pc [.ref (q), .ref (r 5)] (wA D vwCl (tyA cA) (eO tO) (xN cA r) (u, a, th, LP, tf) sz)) (va_Qi (fun (v : Int32) (z : sN) => v = nI 30 ∧ z = (upd u 13 (bg (u 13) 5), a, th, LP, tf)) (wB D vwCl (tyA cA) (xN cA r) (va_A (xN cA r (u, a, th, LP, tf)) sz)) (va_A (xN cA r (u, a, th, LP, tf)) sz)) 0 0 (va_A (xN cA r (u, a, th, LP, tf)) sz) := by
  refine Met.ofW (cc := cX0_struck) (maxL := 2) (ret := (some .int)) (by decide) rfl ?_
  intro p e s m args below meth c s₁ B hml hv
  obtain ⟨rfl, hsz, hP, hK, hD0, hE⟩ := hv
  have hx := B.exec
  have hb := B.bytes
  have hr := B.returns
  have hts := atoms_spec (ws := wsX0_struck) B.pre
  have hown : s.vm.findClass RX0 = some m.cls := findClass_of_methodNamed B.named
  have hlocks := B.notSynchronized
  subst hsz
  have hD := hD0.self (sz := s.heap.size)
  generalize hAe : va_A (xN cA r (u, a, th, LP, tf)) s.heap.size = A at hD hE ⊢
  have hA : ∀ q : Nat, s.heap.size ≤ q → A q := fun q h => by rw [← hAe]; exact Or.inr h
  have hS : va_S A s.heap s.heap [] := va_S.rf
  have hl := lv_entry ([.ref (q), .ref (r 5)]) (n := 2) (Nat.le_of_ble_eq_true rfl)
  rw [lg_entry_eq]
  generalize (lg_sl ([.ref (q), .ref (r 5)]) ++ List.replicate (2 - (lg_sl ([.ref (q), .ref (r 5)])).length) Slot.unset).toArray = ls at hl ⊢
  have hl : lv_has ls 2 [(0, .ref (q)), (1, .ref (r 5))] := hl
  refine lv_aload_n hx hb dX0_struck_0 rfl (lv_at hl 1 rfl) ?_
  refine lv_iconst (v := (nI 5)) hx hb dX0_struck_1 rfl ?_
  refine wVv (eO_S tO) (As := [.int (nI 5)]) (rest := []) ⟨hx, hb, hml, hown, hts⟩ (kX7_leave l D cA r _ u a th LP tf tO 5) (cwV 1 hts gX0_struck_X7_leave rfl rfl rfl (by decide +kernel) ⟨Nat.le_of_ble_eq_true rfl, Nat.le_of_ble_eq_true rfl⟩) (va_recv hK hP (ci := 7) (q0 := 5) rfl rfl) hK hP hD hS hA hE rfl hl.1 rfl (Nat.le_of_ble_eq_true rfl) dX0_struck_2 ⟨Nat.zero_le _, Nat.zero_le _⟩ (fun z_3 H locs hw_2 hP hD hS => ?_)
  obtain rfl := hw_2
  have hP : va_P D vwCl (xN cA r ((upd u 13 (bg (u 13) 5)), a, th, LP, tf)) H := hP
  have hD : va_D A (xN cA r ((upd u 13 (bg (u 13) 5)), a, th, LP, tf)) := hD
  refine lv_bipush (v := (nI 30)) hx hb dX0_struck_5 rfl ?_
  exact wIret hx hb hr hlocks (v := (nI 30)) ((upd u 13 (bg (u 13) 5)), a, th, LP, tf) (⟨rfl, rfl⟩) hK hP hD hS dX0_struck_7

set_option maxHeartbeats 4000000 in
set_option maxRecDepth 100000 in
theorem kX5_thingAt (l : Launch) (D : va_G) (cA : Nat → ClassId) (r : Nat → Nat) (sz : Nat) (u : Nat → Int32) (a : Nat → Nat → Int32) (th : Nat → Option Nat) (LP : List Nat) (tf : Nat → va_E) (tO : Nat) (g : Nat → Nat) (T : Nat → Nat → Nat) (x : Int32) (hM : NT u a g T) (hB : TB g T) (hPo : PoN th LP tf g T) : Met l yX5_thingAt wsX5_thingAt ({ frames := 1, cells := 0, slots := 0, locals := 21 } : Room) (va_Pc [.ref (r 1), .int x] (wA D vwCl (tyA cA) (eO tO) (xN cA r) (u, a, th, LP, tf) sz)) (va_Qq (fun (v : Option Nat) (z : sN) => z = (u, a, th, LP, tf) ∧ ((∃ j q : Nat, j < g 0 ∧ x = nI j ∧ v = some q ∧ q ∈ LP ∧ tf q = thE T j) ∨ (¬ isT (g 0) x ∧ v = none))) (wB D vwCl (tyA cA) (xN cA r) (va_A (xN cA r (u, a, th, LP, tf)) sz)) (va_A (xN cA r (u, a, th, LP, tf)) sz)) 0 0 (va_A (xN cA r (u, a, th, LP, tf)) sz) := by
  refine Met.ofW (cc := cX5_thingAt) (maxL := 2) (ret := (some (.object "OneNail$Thing"))) (by decide) rfl ?_
  intro p e s m args below meth c s₁ B hml hv
  obtain ⟨rfl, hsz, hP, hK, hD0, hE⟩ := hv
  have hx := B.exec
  have hb := B.bytes
  have hr := B.returns
  have hts := atoms_spec (ws := wsX5_thingAt) B.pre
  have hown : s.vm.findClass RX5 = some m.cls := findClass_of_methodNamed B.named
  have hlocks := B.notSynchronized
  subst hsz
  have hD := hD0.self (sz := s.heap.size)
  generalize hAe : va_A (xN cA r (u, a, th, LP, tf)) s.heap.size = A at hD hE ⊢
  have hA : ∀ q : Nat, s.heap.size ≤ q → A q := fun q h => by rw [← hAe]; exact Or.inr h
  have hS : va_S A s.heap s.heap [] := va_S.rf
  have hinX5 : ∀ w ∈ u_ws RX5 TX5 8, w ∈ wsX5_thingAt := by decide +kernel
  have hl := lv_entry ([.ref (r 1), .int x]) (n := 2) (Nat.le_of_ble_eq_true rfl)
  rw [lg_entry_eq]
  generalize (lg_sl ([.ref (r 1), .int x]) ++ List.replicate (2 - (lg_sl ([.ref (r 1), .int x])).length) Slot.unset).toArray = ls at hl ⊢
  have hl : lv_has ls 2 [(0, .ref (r 1)), (1, .int x)] := hl
  have hg6 := hB.1
  refine lv_aload_n hx hb dX5_thingAt_0 rfl (lv_at hl 0 rfl) ?_
  refine lv_iload_n hx hb dX5_thingAt_1 rfl (lv_at hl 1 rfl) ?_
  refine wVi (eO_S tO) (As := [.int x]) (rest := []) ⟨hx, hb, hml, hown, hts⟩ (kX5_has l D cA r _ u a th LP tf tO g T x hM hB) (cwV 1 hts gX5_thingAt_X5_has rfl rfl rfl (by decide +kernel) ⟨Nat.le_of_ble_eq_true rfl, Nat.le_of_ble_eq_true rfl⟩) (va_recv hK hP (ci := 5) (q0 := 1) rfl rfl) hK hP hD hS hA hE rfl hl.1 rfl (Nat.le_of_ble_eq_true rfl) dX5_thingAt_2 ⟨Nat.zero_le _, Nat.zero_le _⟩ (fun rv_1 z_3 H locs hw_2 hP hD hS => ?_)
  obtain ⟨hz_4, hw_2⟩ := hw_2
  subst hz_4
  have hP : va_P D vwCl (xN cA r (u, a, th, LP, tf)) H := hP
  have hD : va_D A (xN cA r (u, a, th, LP, tf)) := hD
  rcases hw_2 with ⟨rfl, b_5⟩ | ⟨rfl, b_5⟩
  · obtain ⟨j, hj, hxj⟩ := b_5
    obtain ⟨qT, hq1, hq2, hq3⟩ := hPo j hj
    have hl : lv_has ls 2 [(0, .ref (r 1)), (1, .int (nI j))] := lv_re hl 1 ⟨rfl, rfl⟩ (hxj)
    refine lv_if_eq (tgt := 17) hx hb dX5_thingAt_5 (by decide) (fun c_6 => absurd c_6 (by decide)) (fun _ => ?_)
    refine lv_aload_n hx hb dX5_thingAt_8 rfl (lv_at hl 0 rfl) ?_
    refine va_get (D := D) (ci := 5) (v := .ref (r 12)) (C := RX5) (T := TX5) (N := 8) hx hb hts hinX5 hown hK hP 1 rfl rfl 3 (by decide) (hts (.fieldLink RX5 23 "OneNail$Street" "things" "[LOneNail$Thing;") (by decide +kernel)) (fun _ h9 => h9) rfl dX5_thingAt_9 ?_
    refine lv_iload_n hx hb dX5_thingAt_12 rfl (lv_at hl 1 rfl) ?_
    refine wAld hx hb hK hP 11 3 (n := 6) (y := qT) rfl rfl (j := j) (by omega) (by decide) (hq1) dX5_thingAt_13 ?_
    refine lv_goto (tgt := 18) hx hb dX5_thingAt_14 (by decide) ?_
    exact wQret hx hb hr hlocks (v := some (qT)) (u, a, th, LP, tf) (⟨rfl, Or.inl ⟨j, qT, hj, hxj, rfl, hq2, hq3⟩⟩) hK hP hD hS dX5_thingAt_18
  · refine lv_if_eq (tgt := 17) hx hb dX5_thingAt_5 (by decide) (fun _ => ?_) (fun c_7 => absurd c_7 (by decide))
    refine lv_null hx hb dX5_thingAt_17 ?_
    exact wQret hx hb hr hlocks (v := none) (u, a, th, LP, tf) (⟨rfl, Or.inr ⟨b_5, rfl⟩⟩) hK hP hD hS dX5_thingAt_18

set_option maxHeartbeats 4000000 in
set_option maxRecDepth 100000 in
theorem kX5_becomeRusty (l : Launch) (D : va_G) (cA : Nat → ClassId) (r : Nat → Nat) (sz : Nat) (u : Nat → Int32) (a : Nat → Nat → Int32) (th : Nat → Option Nat) (LP : List Nat) (tf : Nat → va_E) (tO : Nat) (g : Nat → Nat) (T : Nat → Nat → Nat) (v1 : Nat) (h1 : u 1 = nI (g 0)) (hB : TB g T) (hPo : PoN th LP tf g T) (hv1 : v1 ≤ 50) : Met l yX5_becomeRusty wsX5_becomeRusty ({ frames := 4, cells := 0, slots := 0, locals := 90 } : Room) (va_Pc [.ref (r 1), .int (nI v1)] (wA D vwCl (tyA cA) (eO tO) (xN cA r) (u, a, th, LP, tf) sz)) (va_Qv (fun (z : sN) => z.1 3 = nI v1 ∧ (∀ x, x < g 0 → z.2.1 16 x = nI (hd (gu g 2 v1) T x)) ∧ (∀ i, i ≠ 3 → z.1 i = u i) ∧ (∀ i, i ≠ 16 → z.2.1 i = a i) ∧ z.2.2 = (th, LP, tf)) (wB D vwCl (tyA cA) (xN cA r) (va_A (xN cA r (u, a, th, LP, tf)) sz)) (va_A (xN cA r (u, a, th, LP, tf)) sz)) 0 0 (va_A (xN cA r (u, a, th, LP, tf)) sz) := by
  refine Met.ofW (cc := cX5_becomeRusty) (maxL := 4) (ret := none) (by decide) rfl ?_
  intro p e s m args below meth c s₁ B hml hv
  obtain ⟨rfl, hsz, hP, hK, hD0, hE⟩ := hv
  have hx := B.exec
  have hb := B.bytes
  have hr := B.returns
  have hts := atoms_spec (ws := wsX5_becomeRusty) B.pre
  have hown : s.vm.findClass RX5 = some m.cls := findClass_of_methodNamed B.named
  have hlocks := B.notSynchronized
  subst hsz
  have hD := hD0.self (sz := s.heap.size)
  generalize hAe : va_A (xN cA r (u, a, th, LP, tf)) s.heap.size = A at hD hE ⊢
  have hA : ∀ q : Nat, s.heap.size ≤ q → A q := fun q h => by rw [← hAe]; exact Or.inr h
  have hS : va_S A s.heap s.heap [] := va_S.rf
  have hinX5 : ∀ w ∈ u_ws RX5 TX5 8, w ∈ wsX5_becomeRusty := by decide +kernel
  have hl := lv_entry ([.ref (r 1), .int (nI v1)]) (n := 4) (Nat.le_of_ble_eq_true rfl)
  rw [lg_entry_eq]
  generalize (lg_sl ([.ref (r 1), .int (nI v1)]) ++ List.replicate (4 - (lg_sl ([.ref (r 1), .int (nI v1)])).length) Slot.unset).toArray = ls at hl ⊢
  have hl : lv_has ls 4 [(0, .ref (r 1)), (1, .int (nI v1))] := hl
  have hg6 := hB.1
  refine lv_aload_n hx hb dX5_becomeRusty_0 rfl (lv_at hl 0 rfl) ?_
  refine lv_iload_n hx hb dX5_becomeRusty_1 rfl (lv_at hl 1 rfl) ?_
  refine va_put (D := D) (ci := 5) (v := .int (nI v1)) (ty := .int) (C := RX5) (T := TX5) (N := 8) hx hb hts hinX5 tyX5 tyX5_ok nmX5 hown hK hP hD hS 1 rfl rfl 2 (by decide) (hts (.fieldLink RX5 18 "OneNail$Street" "rusted" "I") (by decide +kernel)) (fun _ h9 => h9) rfl (by decide +kernel) rfl rfl (Nat.le_of_ble_eq_true rfl) dX5_becomeRusty_2 (fun H locs hP hD hS => ?_)
  have hP : va_P D vwCl (xN cA r ((upd u 3 (nI v1)), a, th, LP, tf)) H := hP
  have hD : va_D A (xN cA r ((upd u 3 (nI v1)), a, th, LP, tf)) := hD
  refine lv_iconst (v := (nI 0)) hx hb dX5_becomeRusty_5 rfl ?_
  refine lv_istore_n (lv' := [(2, .int (nI 0)), (0, .ref (r 1)), (1, .int (nI v1))]) hx hb dX5_becomeRusty_6 rfl hl (by decide) rfl (fun ls hl => ?_)
  refine wLoop (τ := Nat × (Nat → Nat → Int32)) (fun z H locs ls => (fun (x : Nat) (a1007 : (Nat → Nat → Int32)) => (x ≤ g 0) ∧ (∀ j9, j9 < x → a1007 16 j9 = nI (hd (gu g 2 v1) T j9)) ∧ (∀ i : Nat, i ≠ 16 → a1007 i = a i) ∧ (va_P D vwCl (xN cA r ((upd u 3 (nI v1)), a1007, th, LP, tf)) H) ∧ (va_D A (xN cA r ((upd u 3 (nI v1)), a1007, th, LP, tf))) ∧ (va_S A s.heap H locs) ∧ (lv_has ls 4 [(2, .int (nI x)), (0, .ref (r 1)), (1, .int (nI v1))])) z.1 z.2) (fun z => (fun (x : Nat) (a1007 : (Nat → Nat → Int32)) => g 0 - x) z.1 z.2) (0, a) ⟨(show 0 ≤ g 0 from Nat.zero_le _), (show ∀ j9, j9 < 0 → a 16 j9 = nI (hd (gu g 2 v1) T j9) from (fun j h => absurd h (Nat.not_lt_zero j))), (fun i h16 => rfl), hP, hD, hS, lv_sub hl [0, 1, 2] rfl⟩ ?_
  rintro ⟨x, a1007⟩ H locs ls ⟨hx1, hho, hfa7, hP, hD, hS, hl⟩ ih7
  have hx1 : x ≤ g 0 := hx1
  have hho : ∀ j9, j9 < x → a1007 16 j9 = nI (hd (gu g 2 v1) T j9) := hho
  have hfa7 : ∀ i : Nat, i ≠ 16 → a1007 i = a i := hfa7
  have hP : va_P D vwCl (xN cA r ((upd u 3 (nI v1)), a1007, th, LP, tf)) H := hP
  have hD : va_D A (xN cA r ((upd u 3 (nI v1)), a1007, th, LP, tf)) := hD
  have hl : lv_has ls 4 [(2, .int (nI x)), (0, .ref (r 1)), (1, .int (nI v1))] := hl
  refine lv_iload_n hx hb dX5_becomeRusty_7 rfl (lv_at hl 0 rfl) ?_
  refine lv_aload_n hx hb dX5_becomeRusty_8 rfl (lv_at hl 1 rfl) ?_
  refine va_get (D := D) (ci := 5) (v := .int (nI (g 0))) (C := RX5) (T := TX5) (N := 8) hx hb hts hinX5 hown hK hP 1 rfl rfl 0 (by decide) (hts (.fieldLink RX5 9 "OneNail$Street" "count" "I") (by decide +kernel)) (fun _ h9 => h9) (congrArg (fun z => some (Value.int z)) (h1)) dX5_becomeRusty_9 ?_
  refine rn_ge (x := x) (y := g 0) (tgt := 43) hx hb (by omega) (by omega) dX5_becomeRusty_12 (by decide) (fun c_1 => ?_) (fun c_1 => ?_)
  · exact wVret hx hb hr hlocks ((upd u 3 (nI v1)), a1007, th, LP, tf) (⟨rfl, fun y hy => hho y (by omega), (fun i h3 => up_ne h3), (fun i h16 => hfa7 i h16), rfl⟩) hK hP hD hS dX5_becomeRusty_43
  · refine lv_aload_n hx hb dX5_becomeRusty_15 rfl (lv_at hl 1 rfl) ?_
    refine va_get (D := D) (ci := 5) (v := .ref (r 12)) (C := RX5) (T := TX5) (N := 8) hx hb hts hinX5 hown hK hP 1 rfl rfl 3 (by decide) (hts (.fieldLink RX5 23 "OneNail$Street" "things" "[LOneNail$Thing;") (by decide +kernel)) (fun _ h9 => h9) rfl dX5_becomeRusty_16 ?_
    refine lv_iload_n hx hb dX5_becomeRusty_19 rfl (lv_at hl 0 rfl) ?_
    obtain ⟨qT, hq1, hq2, hq3⟩ := hPo x (by omega)
    have hTx := hB.2.2.2 x (by omega)
    refine wAld hx hb hK hP 11 3 (n := 6) (y := qT) rfl rfl (j := x) (by omega) (by decide) (hq1) dX5_becomeRusty_20 ?_
    rcases (show T 0 x = 0 ∨ T 0 x = 1 ∨ T 0 x = 2 by omega) with hkd2 | hkd2 | hkd2
    · have htf3 : tf qT = .inr (6, [.int (nI x), .int (nI (T 1 x)), .int (nI (T 2 x)), .int (nI (T 3 x)), .int (nI (T 4 x))]) := by rw [hq3]; unfold thE kc; rw [hkd2]; rfl
      refine lv_astore_n (lv' := [(3, .ref (qT)), (2, .int (nI x)), (0, .ref (r 1)), (1, .int (nI v1))]) hx hb dX5_becomeRusty_21 rfl hl (by decide) rfl (fun ls hl => ?_)
      refine lv_aload_n hx hb dX5_becomeRusty_22 rfl (lv_at hl 0 rfl) ?_
      refine lv_ifnull hx hb dX5_becomeRusty_23 ?_
      refine lv_aload_n hx hb dX5_becomeRusty_26 rfl (lv_at hl 2 rfl) ?_
      refine va_get (D := D) (ci := 5) (v := .ref (r 16)) (C := RX5) (T := TX5) (N := 8) hx hb hts hinX5 hown hK hP 1 rfl rfl 7 (by decide) (hts (.fieldLink RX5 37 "OneNail$Street" "holds" "[I") (by decide +kernel)) (fun _ h9 => h9) rfl dX5_becomeRusty_27 ?_
      refine lv_iload_n hx hb dX5_becomeRusty_30 rfl (lv_at hl 1 rfl) ?_
      refine lv_aload_n hx hb dX5_becomeRusty_31 rfl (lv_at hl 0 rfl) ?_
      refine lv_iload_n hx hb dX5_becomeRusty_32 rfl (lv_at hl 3 rfl) ?_
      obtain ⟨kp4, hkp4⟩ := va_pl_get (X := WN cA r (upd u 3 (nI v1)) a1007 th) (f := tf) hq2
      rw [htf3] at hkp4
      refine wVi (eO_S tO) (As := [.int (nI v1)]) (rest := [.int (nI x), .ref (r 16)]) ⟨hx, hb, hml, hown, hts⟩ (kX6_holdsBy_t6 l D cA r _ (upd u 3 (nI v1)) a1007 th LP tf tO qT x (T 1 x) (T 2 x) (T 3 x) (T 4 x) v1 hq2 htf3 (by omega) (by omega)) (cwV 1 hts gX5_becomeRusty_X6_holdsBy rfl rfl rfl (by decide +kernel) ⟨Nat.le_of_ble_eq_true rfl, Nat.le_of_ble_eq_true rfl⟩) (va_recv hK hP (ci := 6) (q0 := kp4) rfl hkp4) hK hP hD hS hA hE rfl hl.1 rfl (Nat.le_of_ble_eq_true rfl) dX5_becomeRusty_33 ⟨Nat.zero_le _, Nat.zero_le _⟩ (fun rv_5 z_7 H locs hw_6 hP hD hS => ?_)
      obtain ⟨rfl, rfl⟩ := hw_6
      have hP : va_P D vwCl (xN cA r ((upd u 3 (nI v1)), a1007, th, LP, tf)) H := hP
      have hD : va_D A (xN cA r ((upd u 3 (nI v1)), a1007, th, LP, tf)) := hD
      refine ra_iast hx hb hK hP hD hS 16 0 (n := 6) (f := (a1007 16)) (j := x) (x := (nI (hb6 (T 3 x) v1))) rfl rfl (by omega) (by decide) dX5_becomeRusty_36 (fun H locs hP hD hS => ?_)
      have hP : va_P D vwCl (xN cA r ((upd u 3 (nI v1)), (va_up a1007 16 (upd (a1007 16) x (nI (hb6 (T 3 x) v1)))), th, LP, tf)) H := hP
      have hD : va_D A (xN cA r ((upd u 3 (nI v1)), (va_up a1007 16 (upd (a1007 16) x (nI (hb6 (T 3 x) v1)))), th, LP, tf)) := hD
      refine rn_iinc (x := x) (d := 1) (lv' := [(2, .int (nI (x + 1))), (3, .ref (qT)), (0, .ref (r 1)), (1, .int (nI v1))]) hx hb rfl dX5_becomeRusty_37 hl (k := 1) rfl (by decide) rfl (fun ls hl => ?_)
      refine lv_goto (tgt := 7) hx hb dX5_becomeRusty_40 (by decide) ?_
      exact ih7 ((x + 1), (va_up a1007 16 (upd (a1007 16) x (nI (hb6 (T 3 x) v1))))) _ _ _ (show g 0 - (x + 1) < g 0 - x from by omega) ⟨(show (x + 1) ≤ g 0 from by omega), (show ∀ j9, j9 < (x + 1) → (va_up a1007 16 (upd (a1007 16) x (nI (hb6 (T 3 x) v1)))) 16 j9 = nI (hd (gu g 2 v1) T j9) from (show ∀ j, j < x + 1 → (upd (a1007 16) x (nI (hb6 (T 3 x) v1))) j = nI (hd (gu g 2 v1) T j) from arr_push (F := fun j => nI (hd (gu g 2 v1) T j)) hho (congrArg nI (hd_0 (g := gu g 2 v1) hkd2).symm))), (fun i h16 => Eq.trans (vup_ne h16) (hfa7 i h16)), hP, hD, hS, lv_sub hl [0, 2, 3] rfl⟩
    · have htf8 : tf qT = .inr (1, [.int (nI x), .int (nI (T 1 x)), .int (nI (T 2 x)), .int (nI (T 3 x)), .int (nI (T 4 x))]) := by rw [hq3]; unfold thE kc; rw [hkd2]; rfl
      refine lv_astore_n (lv' := [(3, .ref (qT)), (2, .int (nI x)), (0, .ref (r 1)), (1, .int (nI v1))]) hx hb dX5_becomeRusty_21 rfl hl (by decide) rfl (fun ls hl => ?_)
      refine lv_aload_n hx hb dX5_becomeRusty_22 rfl (lv_at hl 0 rfl) ?_
      refine lv_ifnull hx hb dX5_becomeRusty_23 ?_
      refine lv_aload_n hx hb dX5_becomeRusty_26 rfl (lv_at hl 2 rfl) ?_
      refine va_get (D := D) (ci := 5) (v := .ref (r 16)) (C := RX5) (T := TX5) (N := 8) hx hb hts hinX5 hown hK hP 1 rfl rfl 7 (by decide) (hts (.fieldLink RX5 37 "OneNail$Street" "holds" "[I") (by decide +kernel)) (fun _ h9 => h9) rfl dX5_becomeRusty_27 ?_
      refine lv_iload_n hx hb dX5_becomeRusty_30 rfl (lv_at hl 1 rfl) ?_
      refine lv_aload_n hx hb dX5_becomeRusty_31 rfl (lv_at hl 0 rfl) ?_
      refine lv_iload_n hx hb dX5_becomeRusty_32 rfl (lv_at hl 3 rfl) ?_
      obtain ⟨kp9, hkp9⟩ := va_pl_get (X := WN cA r (upd u 3 (nI v1)) a1007 th) (f := tf) hq2
      rw [htf8] at hkp9
      refine wUi (eO_S tO) (As := [.int (nI v1)]) (rest := [.int (nI x), .ref (r 16)]) ⟨hx, hb, hml, hown, hts⟩ (kX1_holdsBy_t1 l D cA r _ (upd u 3 (nI v1)) a1007 th LP tf tO qT x (T 1 x) (T 2 x) (T 3 x) (T 4 x) v1 hq2 htf8 (by omega) (by omega)) (va_cwO 1 hts gX5_becomeRusty_X1_holdsBy_u49X1 rfl rfl rfl (show Cond.code yX6_holdsBy cX6_holdsBy 2 (some .int) ∈ wsX5_becomeRusty by decide +kernel) (by decide +kernel) ⟨Nat.le_of_ble_eq_true rfl, Nat.le_of_ble_eq_true rfl⟩) (va_recv hK hP (ci := 1) (q0 := kp9) rfl hkp9) hK hP hD hS hA hE rfl hl.1 rfl (Nat.le_of_ble_eq_true rfl) dX5_becomeRusty_33 ⟨Nat.zero_le _, Nat.zero_le _⟩ (fun rv_10 z_12 H locs hw_11 hP hD hS => ?_)
      obtain ⟨rfl, rfl⟩ := hw_11
      have hP : va_P D vwCl (xN cA r ((upd u 3 (nI v1)), a1007, th, LP, tf)) H := hP
      have hD : va_D A (xN cA r ((upd u 3 (nI v1)), a1007, th, LP, tf)) := hD
      refine ra_iast hx hb hK hP hD hS 16 0 (n := 6) (f := (a1007 16)) (j := x) (x := (nI (hb6 (T 3 x) v1 + hb6 (T 3 x) v1 / 2))) rfl rfl (by omega) (by decide) dX5_becomeRusty_36 (fun H locs hP hD hS => ?_)
      have hP : va_P D vwCl (xN cA r ((upd u 3 (nI v1)), (va_up a1007 16 (upd (a1007 16) x (nI (hb6 (T 3 x) v1 + hb6 (T 3 x) v1 / 2)))), th, LP, tf)) H := hP
      have hD : va_D A (xN cA r ((upd u 3 (nI v1)), (va_up a1007 16 (upd (a1007 16) x (nI (hb6 (T 3 x) v1 + hb6 (T 3 x) v1 / 2)))), th, LP, tf)) := hD
      refine rn_iinc (x := x) (d := 1) (lv' := [(2, .int (nI (x + 1))), (3, .ref (qT)), (0, .ref (r 1)), (1, .int (nI v1))]) hx hb rfl dX5_becomeRusty_37 hl (k := 1) rfl (by decide) rfl (fun ls hl => ?_)
      refine lv_goto (tgt := 7) hx hb dX5_becomeRusty_40 (by decide) ?_
      exact ih7 ((x + 1), (va_up a1007 16 (upd (a1007 16) x (nI (hb6 (T 3 x) v1 + hb6 (T 3 x) v1 / 2))))) _ _ _ (show g 0 - (x + 1) < g 0 - x from by omega) ⟨(show (x + 1) ≤ g 0 from by omega), (show ∀ j9, j9 < (x + 1) → (va_up a1007 16 (upd (a1007 16) x (nI (hb6 (T 3 x) v1 + hb6 (T 3 x) v1 / 2)))) 16 j9 = nI (hd (gu g 2 v1) T j9) from (show ∀ j, j < x + 1 → (upd (a1007 16) x (nI (hb6 (T 3 x) v1 + hb6 (T 3 x) v1 / 2))) j = nI (hd (gu g 2 v1) T j) from arr_push (F := fun j => nI (hd (gu g 2 v1) T j)) hho (congrArg nI (hd_1 (g := gu g 2 v1) hkd2).symm))), (fun i h16 => Eq.trans (vup_ne h16) (hfa7 i h16)), hP, hD, hS, lv_sub hl [0, 2, 3] rfl⟩
    · have htf13 : tf qT = .inr (0, [.int (nI x), .int (nI (T 1 x)), .int (nI (T 2 x)), .int (nI (T 3 x)), .int (nI (T 4 x))]) := by rw [hq3]; unfold thE kc; rw [hkd2]; rfl
      refine lv_astore_n (lv' := [(3, .ref (qT)), (2, .int (nI x)), (0, .ref (r 1)), (1, .int (nI v1))]) hx hb dX5_becomeRusty_21 rfl hl (by decide) rfl (fun ls hl => ?_)
      refine lv_aload_n hx hb dX5_becomeRusty_22 rfl (lv_at hl 0 rfl) ?_
      refine lv_ifnull hx hb dX5_becomeRusty_23 ?_
      refine lv_aload_n hx hb dX5_becomeRusty_26 rfl (lv_at hl 2 rfl) ?_
      refine va_get (D := D) (ci := 5) (v := .ref (r 16)) (C := RX5) (T := TX5) (N := 8) hx hb hts hinX5 hown hK hP 1 rfl rfl 7 (by decide) (hts (.fieldLink RX5 37 "OneNail$Street" "holds" "[I") (by decide +kernel)) (fun _ h9 => h9) rfl dX5_becomeRusty_27 ?_
      refine lv_iload_n hx hb dX5_becomeRusty_30 rfl (lv_at hl 1 rfl) ?_
      refine lv_aload_n hx hb dX5_becomeRusty_31 rfl (lv_at hl 0 rfl) ?_
      refine lv_iload_n hx hb dX5_becomeRusty_32 rfl (lv_at hl 3 rfl) ?_
      obtain ⟨kp14, hkp14⟩ := va_pl_get (X := WN cA r (upd u 3 (nI v1)) a1007 th) (f := tf) hq2
      rw [htf13] at hkp14
      refine wUi (eO_S tO) (As := [.int (nI v1)]) (rest := [.int (nI x), .ref (r 16)]) ⟨hx, hb, hml, hown, hts⟩ (kX0_holdsBy_t0 l D cA r _ (upd u 3 (nI v1)) a1007 th LP tf tO qT x (T 1 x) (T 2 x) (T 3 x) (T 4 x) v1 hq2 htf13 (by omega) (by omega)) (va_cwO 1 hts gX5_becomeRusty_X0_holdsBy_u49X0 rfl rfl rfl (show Cond.code yX6_holdsBy cX6_holdsBy 2 (some .int) ∈ wsX5_becomeRusty by decide +kernel) (by decide +kernel) ⟨Nat.le_of_ble_eq_true rfl, Nat.le_of_ble_eq_true rfl⟩) (va_recv hK hP (ci := 0) (q0 := kp14) rfl hkp14) hK hP hD hS hA hE rfl hl.1 rfl (Nat.le_of_ble_eq_true rfl) dX5_becomeRusty_33 ⟨Nat.zero_le _, Nat.zero_le _⟩ (fun rv_15 z_17 H locs hw_16 hP hD hS => ?_)
      obtain ⟨rfl, rfl⟩ := hw_16
      have hP : va_P D vwCl (xN cA r ((upd u 3 (nI v1)), a1007, th, LP, tf)) H := hP
      have hD : va_D A (xN cA r ((upd u 3 (nI v1)), a1007, th, LP, tf)) := hD
      refine ra_iast hx hb hK hP hD hS 16 0 (n := 6) (f := (a1007 16)) (j := x) (x := (nI (hb6 (T 3 x) v1 + hb6 (T 3 x) v1 / 2 + 10))) rfl rfl (by omega) (by decide) dX5_becomeRusty_36 (fun H locs hP hD hS => ?_)
      have hP : va_P D vwCl (xN cA r ((upd u 3 (nI v1)), (va_up a1007 16 (upd (a1007 16) x (nI (hb6 (T 3 x) v1 + hb6 (T 3 x) v1 / 2 + 10)))), th, LP, tf)) H := hP
      have hD : va_D A (xN cA r ((upd u 3 (nI v1)), (va_up a1007 16 (upd (a1007 16) x (nI (hb6 (T 3 x) v1 + hb6 (T 3 x) v1 / 2 + 10)))), th, LP, tf)) := hD
      refine rn_iinc (x := x) (d := 1) (lv' := [(2, .int (nI (x + 1))), (3, .ref (qT)), (0, .ref (r 1)), (1, .int (nI v1))]) hx hb rfl dX5_becomeRusty_37 hl (k := 1) rfl (by decide) rfl (fun ls hl => ?_)
      refine lv_goto (tgt := 7) hx hb dX5_becomeRusty_40 (by decide) ?_
      exact ih7 ((x + 1), (va_up a1007 16 (upd (a1007 16) x (nI (hb6 (T 3 x) v1 + hb6 (T 3 x) v1 / 2 + 10))))) _ _ _ (show g 0 - (x + 1) < g 0 - x from by omega) ⟨(show (x + 1) ≤ g 0 from by omega), (show ∀ j9, j9 < (x + 1) → (va_up a1007 16 (upd (a1007 16) x (nI (hb6 (T 3 x) v1 + hb6 (T 3 x) v1 / 2 + 10)))) 16 j9 = nI (hd (gu g 2 v1) T j9) from (show ∀ j, j < x + 1 → (upd (a1007 16) x (nI (hb6 (T 3 x) v1 + hb6 (T 3 x) v1 / 2 + 10))) j = nI (hd (gu g 2 v1) T j) from arr_push (F := fun j => nI (hd (gu g 2 v1) T j)) hho (congrArg nI (hd_2 (g := gu g 2 v1) hkd2).symm))), (fun i h16 => Eq.trans (vup_ne h16) (hfa7 i h16)), hP, hD, hS, lv_sub hl [0, 2, 3] rfl⟩

set_option maxHeartbeats 4000000 in
set_option maxRecDepth 100000 in
theorem kX9_ofThing (l : Launch) (D : va_G) (cA : Nat → ClassId) (r : Nat → Nat) (sz : Nat) (u : Nat → Int32) (a : Nat → Nat → Int32) (th : Nat → Option Nat) (LP : List Nat) (tf : Nat → va_E) (tO : Nat) (g : Nat → Nat) (T : Nat → Nat → Nat) (R : Nat → Nat → Nat) (so : Nat → Int32) (ln : Nat → Nat) (ce : Nat → Nat → Int32) (f tr : Int32) (x w : Int32) (hI : CI u a th LP tf g T R so ln ce f tr) : Met l yX9_ofThing wsX9_ofThing ({ frames := 4, cells := 0, slots := 0, locals := 90 } : Room) (va_Pc [.ref (r 0), .int x, .int w] (wA D vwCl (tyA cA) (eO tO) (xN cA r) (u, a, th, LP, tf) sz)) (va_Qi (fun (v : Int32) (z : sN) => v = aOf g T x w ∧ CI z.1 z.2.1 z.2.2.1 z.2.2.2.1 z.2.2.2.2 g T R so ln ce f tr) (wB D vwCl (tyA cA) (xN cA r) (va_A (xN cA r (u, a, th, LP, tf)) sz)) (va_A (xN cA r (u, a, th, LP, tf)) sz)) 0 0 (va_A (xN cA r (u, a, th, LP, tf)) sz) := by
  refine Met.ofW (cc := cX9_ofThing) (maxL := 4) (ret := (some .int)) (by decide) rfl ?_
  intro p e s m args below meth c s₁ B hml hv
  obtain ⟨rfl, hsz, hP, hK, hD0, hE⟩ := hv
  have hx := B.exec
  have hb := B.bytes
  have hr := B.returns
  have hts := atoms_spec (ws := wsX9_ofThing) B.pre
  have hown : s.vm.findClass RX9 = some m.cls := findClass_of_methodNamed B.named
  have hlocks := B.notSynchronized
  subst hsz
  have hD := hD0.self (sz := s.heap.size)
  generalize hAe : va_A (xN cA r (u, a, th, LP, tf)) s.heap.size = A at hD hE ⊢
  have hA : ∀ q : Nat, s.heap.size ≤ q → A q := fun q h => by rw [← hAe]; exact Or.inr h
  have hS : va_S A s.heap s.heap [] := va_S.rf
  have hinX0 : ∀ w ∈ u_ws RX0 TX0 5, w ∈ wsX9_ofThing := by decide +kernel
  have hinX1 : ∀ w ∈ u_ws RX1 TX1 5, w ∈ wsX9_ofThing := by decide +kernel
  have hinX5 : ∀ w ∈ u_ws RX5 TX5 8, w ∈ wsX9_ofThing := by decide +kernel
  have hinX6 : ∀ w ∈ u_ws RX6 TX6 5, w ∈ wsX9_ofThing := by decide +kernel
  have hinX9 : ∀ w ∈ u_ws RX9 TX9 8, w ∈ wsX9_ofThing := by decide +kernel
  have hl := lv_entry ([.ref (r 0), .int x, .int w]) (n := 4) (Nat.le_of_ble_eq_true rfl)
  rw [lg_entry_eq]
  generalize (lg_sl ([.ref (r 0), .int x, .int w]) ++ List.replicate (4 - (lg_sl ([.ref (r 0), .int x, .int w])).length) Slot.unset).toArray = ls at hl ⊢
  have hl : lv_has ls 4 [(0, .ref (r 0)), (1, .int x), (2, .int w)] := hl
  have hM := hI.1
  have hB := hI.2.1
  have hg6 := hB.1
  have hsm := hI.2.2.1
  have hrs := hI.2.2.2.1
  have hRd := hI.2.2.2.2.1
  have hSh := hI.2.2.2.2.2.1
  have hf0 := hI.2.2.2.2.2.2.1
  have htr := hI.2.2.2.2.2.2.2.1
  have hPo := hI.2.2.2.2.2.2.2.2
  have hg2 := hB.2.2.1
  refine lv_aload_n hx hb dX9_ofThing_0 rfl (lv_at hl 0 rfl) ?_
  refine va_get (D := D) (ci := 9) (v := .ref (r 1)) (C := RX9) (T := TX9) (N := 8) hx hb hts hinX9 hown hK hP 0 rfl rfl 0 (by decide) (hts (.fieldLink RX9 12 "OneNail" "town" "LOneNail$Street;") (by decide +kernel)) (fun _ h9 => h9) rfl dX9_ofThing_1 ?_
  refine lv_iload_n hx hb dX9_ofThing_4 rfl (lv_at hl 1 rfl) ?_
  refine wVq (eO_S tO) (As := [.int x]) (rest := []) ⟨hx, hb, hml, hown, hts⟩ (kX5_thingAt l D cA r _ u a th LP tf tO g T x hM hB hPo) (cwV 1 hts gX9_ofThing_X5_thingAt rfl rfl rfl (by decide +kernel) ⟨Nat.le_of_ble_eq_true rfl, Nat.le_of_ble_eq_true rfl⟩) (va_recv hK hP (ci := 5) (q0 := 1) rfl rfl) hK hP hD hS hA hE rfl hl.1 rfl (Nat.le_of_ble_eq_true rfl) dX9_ofThing_5 ⟨Nat.zero_le _, Nat.zero_le _⟩ (fun rv_1 z_3 H locs hw_2 hP hD hS => ?_)
  obtain ⟨hz_4, hw_2⟩ := hw_2
  subst hz_4
  have hP : va_P D vwCl (xN cA r (u, a, th, LP, tf)) H := hP
  have hD : va_D A (xN cA r (u, a, th, LP, tf)) := hD
  rcases hw_2 with ⟨j, qT, hj, hxj, rfl, hqT, htT⟩ | ⟨hno, rfl⟩
  · have hjc : x.toNatClampNeg = j := by rw [hxj]; exact nI_clamp (by omega)
    have hTj := hB.2.2.2 j hj
    have hyes : isT (g 0) x := ⟨j, hj, hxj⟩
    rcases (show T 0 j = 0 ∨ T 0 j = 1 ∨ T 0 j = 2 by omega) with hkd5 | hkd5 | hkd5
    · have htf6 : tf qT = .inr (6, [.int (nI j), .int (nI (T 1 j)), .int (nI (T 2 j)), .int (nI (T 3 j)), .int (nI (T 4 j))]) := by rw [htT]; unfold thE kc; rw [hkd5]; rfl
      refine lv_astore_n (lv' := [(3, .ref (qT)), (0, .ref (r 0)), (1, .int x), (2, .int w)]) hx hb dX9_ofThing_8 rfl hl (by decide) rfl (fun ls hl => ?_)
      refine lv_aload_n hx hb dX9_ofThing_9 rfl (lv_at hl 0 rfl) ?_
      refine lv_ifnonnull (tgt := 15) hx hb dX9_ofThing_10 (by decide) ?_
      refine lv_iload_n hx hb dX9_ofThing_15 rfl (lv_at hl 3 rfl) ?_
      by_cases hw0 : w = nI 0
      · refine lv_topi (fun y_7 ey_7 => ?_)
        obtain rfl : y_7 = (nI 0) := ey_7.trans (hw0)
        refine lv_tableIn (off := 40) (tgt := 56) hx hb dX9_ofThing_16 (by decide) (by decide) (by decide) (by decide) ?_
        refine lv_aload_n hx hb dX9_ofThing_56 rfl (lv_at hl 0 rfl) ?_
        obtain ⟨kp8, hkp8⟩ := va_pl_get (X := WN cA r u a th) (f := tf) hqT
        rw [htf6] at hkp8
        refine wVi (eO_S tO) (As := []) (rest := []) ⟨hx, hb, hml, hown, hts⟩ (kX6_kindNumber_t6 l D cA r _ u a th LP tf tO qT j (T 1 j) (T 2 j) (T 3 j) (T 4 j)  hqT htf6 ) (cwV 0 hts gX9_ofThing_X6_kindNumber rfl rfl rfl (by decide +kernel) ⟨Nat.le_of_ble_eq_true rfl, Nat.le_of_ble_eq_true rfl⟩) (va_recv hK hP (ci := 6) (q0 := kp8) rfl hkp8) hK hP hD hS hA hE rfl hl.1 rfl (Nat.le_of_ble_eq_true rfl) dX9_ofThing_57 ⟨Nat.zero_le _, Nat.zero_le _⟩ (fun rv_9 z_11 H locs hw_10 hP hD hS => ?_)
        obtain ⟨rfl, rfl⟩ := hw_10
        have hP : va_P D vwCl (xN cA r (u, a, th, LP, tf)) H := hP
        have hD : va_D A (xN cA r (u, a, th, LP, tf)) := hD
        exact wIret hx hb hr hlocks (v := (nI 0)) (u, a, th, LP, tf) (⟨by unfold aOf; rw [cif_pos hyes, hjc, cif_pos hw0, hkd5], hI⟩) hK hP hD hS dX9_ofThing_60
      by_cases hw1 : w = nI 1
      · refine lv_topi (fun y_12 ey_12 => ?_)
        obtain rfl : y_12 = (nI 1) := ey_12.trans (hw1)
        refine lv_tableIn (off := 45) (tgt := 61) hx hb dX9_ofThing_16 (by decide) (by decide) (by decide) (by decide) ?_
        refine lv_aload_n hx hb dX9_ofThing_61 rfl (lv_at hl 0 rfl) ?_
        obtain ⟨kp13, hkp13⟩ := va_pl_get (X := WN cA r u a th) (f := tf) hqT
        rw [htf6] at hkp13
        refine va_get (D := D) (ci := 6) (v := .int (nI (T 1 j))) (C := RX6) (T := TX6) (N := 5) hx hb hts hinX6 hown hK hP kp13 hkp13 rfl 1 (by decide) (hts (.fieldLink RX9 96 "OneNail$Thing" "place" "I") (by decide +kernel)) (fun _ h9 => h9) rfl dX9_ofThing_62 ?_
        exact wIret hx hb hr hlocks (v := (nI (T 1 j))) (u, a, th, LP, tf) (⟨by unfold aOf; rw [cif_pos hyes, hjc, cif_neg hw0, cif_pos hw1], hI⟩) hK hP hD hS dX9_ofThing_65
      by_cases hw2 : w = nI 2
      · refine lv_topi (fun y_14 ey_14 => ?_)
        obtain rfl : y_14 = (nI 2) := ey_14.trans (hw2)
        refine lv_tableIn (off := 50) (tgt := 66) hx hb dX9_ofThing_16 (by decide) (by decide) (by decide) (by decide) ?_
        refine lv_aload_n hx hb dX9_ofThing_66 rfl (lv_at hl 0 rfl) ?_
        obtain ⟨kp15, hkp15⟩ := va_pl_get (X := WN cA r u a th) (f := tf) hqT
        rw [htf6] at hkp15
        refine va_get (D := D) (ci := 6) (v := .int (nI (T 2 j))) (C := RX6) (T := TX6) (N := 5) hx hb hts hinX6 hown hK hP kp15 hkp15 rfl 2 (by decide) (hts (.fieldLink RX9 99 "OneNail$Thing" "stay" "I") (by decide +kernel)) (fun _ h9 => h9) rfl dX9_ofThing_67 ?_
        exact wIret hx hb hr hlocks (v := (nI (T 2 j))) (u, a, th, LP, tf) (⟨by unfold aOf; rw [cif_pos hyes, hjc, cif_neg hw0, cif_neg hw1, cif_pos hw2], hI⟩) hK hP hD hS dX9_ofThing_70
      by_cases hw3 : w = nI 3
      · refine lv_topi (fun y_16 ey_16 => ?_)
        obtain rfl : y_16 = (nI 3) := ey_16.trans (hw3)
        refine lv_tableIn (off := 55) (tgt := 71) hx hb dX9_ofThing_16 (by decide) (by decide) (by decide) (by decide) ?_
        refine lv_aload_n hx hb dX9_ofThing_71 rfl (lv_at hl 0 rfl) ?_
        obtain ⟨kp17, hkp17⟩ := va_pl_get (X := WN cA r u a th) (f := tf) hqT
        rw [htf6] at hkp17
        refine va_get (D := D) (ci := 6) (v := .int (nI (T 3 j))) (C := RX6) (T := TX6) (N := 5) hx hb hts hinX6 hown hK hP kp17 hkp17 rfl 3 (by decide) (hts (.fieldLink RX9 102 "OneNail$Thing" "hold" "I") (by decide +kernel)) (fun _ h9 => h9) rfl dX9_ofThing_72 ?_
        exact wIret hx hb hr hlocks (v := (nI (T 3 j))) (u, a, th, LP, tf) (⟨by unfold aOf; rw [cif_pos hyes, hjc, cif_neg hw0, cif_neg hw1, cif_neg hw2, cif_pos hw3], hI⟩) hK hP hD hS dX9_ofThing_75
      by_cases hw4 : w = nI 4
      · refine lv_topi (fun y_18 ey_18 => ?_)
        obtain rfl : y_18 = (nI 4) := ey_18.trans (hw4)
        refine lv_tableIn (off := 60) (tgt := 76) hx hb dX9_ofThing_16 (by decide) (by decide) (by decide) (by decide) ?_
        refine lv_aload_n hx hb dX9_ofThing_76 rfl (lv_at hl 0 rfl) ?_
        obtain ⟨kp19, hkp19⟩ := va_pl_get (X := WN cA r u a th) (f := tf) hqT
        rw [htf6] at hkp19
        refine va_get (D := D) (ci := 6) (v := .int (nI (T 4 j))) (C := RX6) (T := TX6) (N := 5) hx hb hts hinX6 hown hK hP kp19 hkp19 rfl 4 (by decide) (hts (.fieldLink RX9 105 "OneNail$Thing" "harmDone" "I") (by decide +kernel)) (fun _ h9 => h9) rfl dX9_ofThing_77 ?_
        exact wIret hx hb hr hlocks (v := (nI (T 4 j))) (u, a, th, LP, tf) (⟨by unfold aOf; rw [cif_pos hyes, hjc, cif_neg hw0, cif_neg hw1, cif_neg hw2, cif_neg hw3, cif_pos hw4], hI⟩) hK hP hD hS dX9_ofThing_80
      by_cases hw5 : w = nI 5
      · refine lv_topi (fun y_20 ey_20 => ?_)
        obtain rfl : y_20 = (nI 5) := ey_20.trans (hw5)
        refine lv_tableIn (off := 65) (tgt := 81) hx hb dX9_ofThing_16 (by decide) (by decide) (by decide) (by decide) ?_
        refine lv_aload_n hx hb dX9_ofThing_81 rfl (lv_at hl 0 rfl) ?_
        refine lv_aload_n hx hb dX9_ofThing_82 rfl (lv_at hl 1 rfl) ?_
        refine va_get (D := D) (ci := 9) (v := .ref (r 1)) (C := RX9) (T := TX9) (N := 8) hx hb hts hinX9 hown hK hP 0 rfl rfl 0 (by decide) (hts (.fieldLink RX9 12 "OneNail" "town" "LOneNail$Street;") (by decide +kernel)) (fun _ h9 => h9) rfl dX9_ofThing_83 ?_
        refine va_get (D := D) (ci := 5) (v := .int (nI (g 2))) (C := RX5) (T := TX5) (N := 8) hx hb hts hinX5 hown hK hP 1 rfl rfl 2 (by decide) (hts (.fieldLink RX9 108 "OneNail$Street" "rusted" "I") (by decide +kernel)) (fun _ h9 => h9) (congrArg (fun z => some (Value.int z)) (hrs)) dX9_ofThing_86 ?_
        obtain ⟨kp21, hkp21⟩ := va_pl_get (X := WN cA r u a th) (f := tf) hqT
        rw [htf6] at hkp21
        refine wVi (eO_S tO) (As := [.int (nI (g 2))]) (rest := []) ⟨hx, hb, hml, hown, hts⟩ (kX6_holdsBy_t6 l D cA r _ u a th LP tf tO qT j (T 1 j) (T 2 j) (T 3 j) (T 4 j) (g 2) hqT htf6 (by omega) (by omega)) (cwV 1 hts gX9_ofThing_X6_holdsBy rfl rfl rfl (by decide +kernel) ⟨Nat.le_of_ble_eq_true rfl, Nat.le_of_ble_eq_true rfl⟩) (va_recv hK hP (ci := 6) (q0 := kp21) rfl hkp21) hK hP hD hS hA hE rfl hl.1 rfl (Nat.le_of_ble_eq_true rfl) dX9_ofThing_89 ⟨Nat.zero_le _, Nat.zero_le _⟩ (fun rv_22 z_24 H locs hw_23 hP hD hS => ?_)
        obtain ⟨rfl, rfl⟩ := hw_23
        have hP : va_P D vwCl (xN cA r (u, a, th, LP, tf)) H := hP
        have hD : va_D A (xN cA r (u, a, th, LP, tf)) := hD
        exact wIret hx hb hr hlocks (v := (nI (hb6 (T 3 j) (g 2)))) (u, a, th, LP, tf) (⟨by unfold aOf; rw [cif_pos hyes, hjc, cif_neg hw0, cif_neg hw1, cif_neg hw2, cif_neg hw3, cif_neg hw4, cif_pos hw5, hd_0 hkd5], hI⟩) hK hP hD hS dX9_ofThing_92
      refine lv_tableOut (tgt := 93) hx hb dX9_ofThing_16 (sw_out hw0 hw1 hw2 hw3 hw4 hw5) (by decide) ?_
      refine lv_bipush (v := (-2)) hx hb dX9_ofThing_93 (by decide) ?_
      exact wIret hx hb hr hlocks (v := (-2)) (u, a, th, LP, tf) (⟨by unfold aOf; rw [cif_pos hyes, hjc, cif_neg hw0, cif_neg hw1, cif_neg hw2, cif_neg hw3, cif_neg hw4, cif_neg hw5], hI⟩) hK hP hD hS dX9_ofThing_95
    · have htf25 : tf qT = .inr (1, [.int (nI j), .int (nI (T 1 j)), .int (nI (T 2 j)), .int (nI (T 3 j)), .int (nI (T 4 j))]) := by rw [htT]; unfold thE kc; rw [hkd5]; rfl
      refine lv_astore_n (lv' := [(3, .ref (qT)), (0, .ref (r 0)), (1, .int x), (2, .int w)]) hx hb dX9_ofThing_8 rfl hl (by decide) rfl (fun ls hl => ?_)
      refine lv_aload_n hx hb dX9_ofThing_9 rfl (lv_at hl 0 rfl) ?_
      refine lv_ifnonnull (tgt := 15) hx hb dX9_ofThing_10 (by decide) ?_
      refine lv_iload_n hx hb dX9_ofThing_15 rfl (lv_at hl 3 rfl) ?_
      by_cases hw0 : w = nI 0
      · refine lv_topi (fun y_26 ey_26 => ?_)
        obtain rfl : y_26 = (nI 0) := ey_26.trans (hw0)
        refine lv_tableIn (off := 40) (tgt := 56) hx hb dX9_ofThing_16 (by decide) (by decide) (by decide) (by decide) ?_
        refine lv_aload_n hx hb dX9_ofThing_56 rfl (lv_at hl 0 rfl) ?_
        obtain ⟨kp27, hkp27⟩ := va_pl_get (X := WN cA r u a th) (f := tf) hqT
        rw [htf25] at hkp27
        refine wUi (eO_S tO) (As := []) (rest := []) ⟨hx, hb, hml, hown, hts⟩ (kX1_kindNumber_t1 l D cA r _ u a th LP tf tO qT j (T 1 j) (T 2 j) (T 3 j) (T 4 j)  hqT htf25 ) (va_cwO 0 hts gX9_ofThing_X1_kindNumber_u90X1 rfl rfl rfl (show Cond.code yX6_kindNumber cX6_kindNumber 1 (some .int) ∈ wsX9_ofThing by decide +kernel) (by decide +kernel) ⟨Nat.le_of_ble_eq_true rfl, Nat.le_of_ble_eq_true rfl⟩) (va_recv hK hP (ci := 1) (q0 := kp27) rfl hkp27) hK hP hD hS hA hE rfl hl.1 rfl (Nat.le_of_ble_eq_true rfl) dX9_ofThing_57 ⟨Nat.zero_le _, Nat.zero_le _⟩ (fun rv_28 z_30 H locs hw_29 hP hD hS => ?_)
        obtain ⟨rfl, rfl⟩ := hw_29
        have hP : va_P D vwCl (xN cA r (u, a, th, LP, tf)) H := hP
        have hD : va_D A (xN cA r (u, a, th, LP, tf)) := hD
        exact wIret hx hb hr hlocks (v := (nI 1)) (u, a, th, LP, tf) (⟨by unfold aOf; rw [cif_pos hyes, hjc, cif_pos hw0, hkd5], hI⟩) hK hP hD hS dX9_ofThing_60
      by_cases hw1 : w = nI 1
      · refine lv_topi (fun y_31 ey_31 => ?_)
        obtain rfl : y_31 = (nI 1) := ey_31.trans (hw1)
        refine lv_tableIn (off := 45) (tgt := 61) hx hb dX9_ofThing_16 (by decide) (by decide) (by decide) (by decide) ?_
        refine lv_aload_n hx hb dX9_ofThing_61 rfl (lv_at hl 0 rfl) ?_
        obtain ⟨kp32, hkp32⟩ := va_pl_get (X := WN cA r u a th) (f := tf) hqT
        rw [htf25] at hkp32
        refine va_get (D := D) (ci := 1) (v := .int (nI (T 1 j))) (C := RX1) (T := TX1) (N := 5) hx hb hts hinX1 hown hK hP kp32 hkp32 rfl 1 (by decide) (hts (.fieldLink RX9 96 "OneNail$Thing" "place" "I") (by decide +kernel)) (fun _ h9 => h9) rfl dX9_ofThing_62 ?_
        exact wIret hx hb hr hlocks (v := (nI (T 1 j))) (u, a, th, LP, tf) (⟨by unfold aOf; rw [cif_pos hyes, hjc, cif_neg hw0, cif_pos hw1], hI⟩) hK hP hD hS dX9_ofThing_65
      by_cases hw2 : w = nI 2
      · refine lv_topi (fun y_33 ey_33 => ?_)
        obtain rfl : y_33 = (nI 2) := ey_33.trans (hw2)
        refine lv_tableIn (off := 50) (tgt := 66) hx hb dX9_ofThing_16 (by decide) (by decide) (by decide) (by decide) ?_
        refine lv_aload_n hx hb dX9_ofThing_66 rfl (lv_at hl 0 rfl) ?_
        obtain ⟨kp34, hkp34⟩ := va_pl_get (X := WN cA r u a th) (f := tf) hqT
        rw [htf25] at hkp34
        refine va_get (D := D) (ci := 1) (v := .int (nI (T 2 j))) (C := RX1) (T := TX1) (N := 5) hx hb hts hinX1 hown hK hP kp34 hkp34 rfl 2 (by decide) (hts (.fieldLink RX9 99 "OneNail$Thing" "stay" "I") (by decide +kernel)) (fun _ h9 => h9) rfl dX9_ofThing_67 ?_
        exact wIret hx hb hr hlocks (v := (nI (T 2 j))) (u, a, th, LP, tf) (⟨by unfold aOf; rw [cif_pos hyes, hjc, cif_neg hw0, cif_neg hw1, cif_pos hw2], hI⟩) hK hP hD hS dX9_ofThing_70
      by_cases hw3 : w = nI 3
      · refine lv_topi (fun y_35 ey_35 => ?_)
        obtain rfl : y_35 = (nI 3) := ey_35.trans (hw3)
        refine lv_tableIn (off := 55) (tgt := 71) hx hb dX9_ofThing_16 (by decide) (by decide) (by decide) (by decide) ?_
        refine lv_aload_n hx hb dX9_ofThing_71 rfl (lv_at hl 0 rfl) ?_
        obtain ⟨kp36, hkp36⟩ := va_pl_get (X := WN cA r u a th) (f := tf) hqT
        rw [htf25] at hkp36
        refine va_get (D := D) (ci := 1) (v := .int (nI (T 3 j))) (C := RX1) (T := TX1) (N := 5) hx hb hts hinX1 hown hK hP kp36 hkp36 rfl 3 (by decide) (hts (.fieldLink RX9 102 "OneNail$Thing" "hold" "I") (by decide +kernel)) (fun _ h9 => h9) rfl dX9_ofThing_72 ?_
        exact wIret hx hb hr hlocks (v := (nI (T 3 j))) (u, a, th, LP, tf) (⟨by unfold aOf; rw [cif_pos hyes, hjc, cif_neg hw0, cif_neg hw1, cif_neg hw2, cif_pos hw3], hI⟩) hK hP hD hS dX9_ofThing_75
      by_cases hw4 : w = nI 4
      · refine lv_topi (fun y_37 ey_37 => ?_)
        obtain rfl : y_37 = (nI 4) := ey_37.trans (hw4)
        refine lv_tableIn (off := 60) (tgt := 76) hx hb dX9_ofThing_16 (by decide) (by decide) (by decide) (by decide) ?_
        refine lv_aload_n hx hb dX9_ofThing_76 rfl (lv_at hl 0 rfl) ?_
        obtain ⟨kp38, hkp38⟩ := va_pl_get (X := WN cA r u a th) (f := tf) hqT
        rw [htf25] at hkp38
        refine va_get (D := D) (ci := 1) (v := .int (nI (T 4 j))) (C := RX1) (T := TX1) (N := 5) hx hb hts hinX1 hown hK hP kp38 hkp38 rfl 4 (by decide) (hts (.fieldLink RX9 105 "OneNail$Thing" "harmDone" "I") (by decide +kernel)) (fun _ h9 => h9) rfl dX9_ofThing_77 ?_
        exact wIret hx hb hr hlocks (v := (nI (T 4 j))) (u, a, th, LP, tf) (⟨by unfold aOf; rw [cif_pos hyes, hjc, cif_neg hw0, cif_neg hw1, cif_neg hw2, cif_neg hw3, cif_pos hw4], hI⟩) hK hP hD hS dX9_ofThing_80
      by_cases hw5 : w = nI 5
      · refine lv_topi (fun y_39 ey_39 => ?_)
        obtain rfl : y_39 = (nI 5) := ey_39.trans (hw5)
        refine lv_tableIn (off := 65) (tgt := 81) hx hb dX9_ofThing_16 (by decide) (by decide) (by decide) (by decide) ?_
        refine lv_aload_n hx hb dX9_ofThing_81 rfl (lv_at hl 0 rfl) ?_
        refine lv_aload_n hx hb dX9_ofThing_82 rfl (lv_at hl 1 rfl) ?_
        refine va_get (D := D) (ci := 9) (v := .ref (r 1)) (C := RX9) (T := TX9) (N := 8) hx hb hts hinX9 hown hK hP 0 rfl rfl 0 (by decide) (hts (.fieldLink RX9 12 "OneNail" "town" "LOneNail$Street;") (by decide +kernel)) (fun _ h9 => h9) rfl dX9_ofThing_83 ?_
        refine va_get (D := D) (ci := 5) (v := .int (nI (g 2))) (C := RX5) (T := TX5) (N := 8) hx hb hts hinX5 hown hK hP 1 rfl rfl 2 (by decide) (hts (.fieldLink RX9 108 "OneNail$Street" "rusted" "I") (by decide +kernel)) (fun _ h9 => h9) (congrArg (fun z => some (Value.int z)) (hrs)) dX9_ofThing_86 ?_
        obtain ⟨kp40, hkp40⟩ := va_pl_get (X := WN cA r u a th) (f := tf) hqT
        rw [htf25] at hkp40
        refine wUi (eO_S tO) (As := [.int (nI (g 2))]) (rest := []) ⟨hx, hb, hml, hown, hts⟩ (kX1_holdsBy_t1 l D cA r _ u a th LP tf tO qT j (T 1 j) (T 2 j) (T 3 j) (T 4 j) (g 2) hqT htf25 (by omega) (by omega)) (va_cwO 1 hts gX9_ofThing_X1_holdsBy_u111X1 rfl rfl rfl (show Cond.code yX6_holdsBy cX6_holdsBy 2 (some .int) ∈ wsX9_ofThing by decide +kernel) (by decide +kernel) ⟨Nat.le_of_ble_eq_true rfl, Nat.le_of_ble_eq_true rfl⟩) (va_recv hK hP (ci := 1) (q0 := kp40) rfl hkp40) hK hP hD hS hA hE rfl hl.1 rfl (Nat.le_of_ble_eq_true rfl) dX9_ofThing_89 ⟨Nat.zero_le _, Nat.zero_le _⟩ (fun rv_41 z_43 H locs hw_42 hP hD hS => ?_)
        obtain ⟨rfl, rfl⟩ := hw_42
        have hP : va_P D vwCl (xN cA r (u, a, th, LP, tf)) H := hP
        have hD : va_D A (xN cA r (u, a, th, LP, tf)) := hD
        exact wIret hx hb hr hlocks (v := (nI (hb6 (T 3 j) (g 2) + hb6 (T 3 j) (g 2) / 2))) (u, a, th, LP, tf) (⟨by unfold aOf; rw [cif_pos hyes, hjc, cif_neg hw0, cif_neg hw1, cif_neg hw2, cif_neg hw3, cif_neg hw4, cif_pos hw5, hd_1 hkd5], hI⟩) hK hP hD hS dX9_ofThing_92
      refine lv_tableOut (tgt := 93) hx hb dX9_ofThing_16 (sw_out hw0 hw1 hw2 hw3 hw4 hw5) (by decide) ?_
      refine lv_bipush (v := (-2)) hx hb dX9_ofThing_93 (by decide) ?_
      exact wIret hx hb hr hlocks (v := (-2)) (u, a, th, LP, tf) (⟨by unfold aOf; rw [cif_pos hyes, hjc, cif_neg hw0, cif_neg hw1, cif_neg hw2, cif_neg hw3, cif_neg hw4, cif_neg hw5], hI⟩) hK hP hD hS dX9_ofThing_95
    · have htf44 : tf qT = .inr (0, [.int (nI j), .int (nI (T 1 j)), .int (nI (T 2 j)), .int (nI (T 3 j)), .int (nI (T 4 j))]) := by rw [htT]; unfold thE kc; rw [hkd5]; rfl
      refine lv_astore_n (lv' := [(3, .ref (qT)), (0, .ref (r 0)), (1, .int x), (2, .int w)]) hx hb dX9_ofThing_8 rfl hl (by decide) rfl (fun ls hl => ?_)
      refine lv_aload_n hx hb dX9_ofThing_9 rfl (lv_at hl 0 rfl) ?_
      refine lv_ifnonnull (tgt := 15) hx hb dX9_ofThing_10 (by decide) ?_
      refine lv_iload_n hx hb dX9_ofThing_15 rfl (lv_at hl 3 rfl) ?_
      by_cases hw0 : w = nI 0
      · refine lv_topi (fun y_45 ey_45 => ?_)
        obtain rfl : y_45 = (nI 0) := ey_45.trans (hw0)
        refine lv_tableIn (off := 40) (tgt := 56) hx hb dX9_ofThing_16 (by decide) (by decide) (by decide) (by decide) ?_
        refine lv_aload_n hx hb dX9_ofThing_56 rfl (lv_at hl 0 rfl) ?_
        obtain ⟨kp46, hkp46⟩ := va_pl_get (X := WN cA r u a th) (f := tf) hqT
        rw [htf44] at hkp46
        refine wUi (eO_S tO) (As := []) (rest := []) ⟨hx, hb, hml, hown, hts⟩ (kX0_kindNumber_t0 l D cA r _ u a th LP tf tO qT j (T 1 j) (T 2 j) (T 3 j) (T 4 j)  hqT htf44 ) (va_cwO 0 hts gX9_ofThing_X0_kindNumber_u90X0 rfl rfl rfl (show Cond.code yX6_kindNumber cX6_kindNumber 1 (some .int) ∈ wsX9_ofThing by decide +kernel) (by decide +kernel) ⟨Nat.le_of_ble_eq_true rfl, Nat.le_of_ble_eq_true rfl⟩) (va_recv hK hP (ci := 0) (q0 := kp46) rfl hkp46) hK hP hD hS hA hE rfl hl.1 rfl (Nat.le_of_ble_eq_true rfl) dX9_ofThing_57 ⟨Nat.zero_le _, Nat.zero_le _⟩ (fun rv_47 z_49 H locs hw_48 hP hD hS => ?_)
        obtain ⟨rfl, rfl⟩ := hw_48
        have hP : va_P D vwCl (xN cA r (u, a, th, LP, tf)) H := hP
        have hD : va_D A (xN cA r (u, a, th, LP, tf)) := hD
        exact wIret hx hb hr hlocks (v := (nI 2)) (u, a, th, LP, tf) (⟨by unfold aOf; rw [cif_pos hyes, hjc, cif_pos hw0, hkd5], hI⟩) hK hP hD hS dX9_ofThing_60
      by_cases hw1 : w = nI 1
      · refine lv_topi (fun y_50 ey_50 => ?_)
        obtain rfl : y_50 = (nI 1) := ey_50.trans (hw1)
        refine lv_tableIn (off := 45) (tgt := 61) hx hb dX9_ofThing_16 (by decide) (by decide) (by decide) (by decide) ?_
        refine lv_aload_n hx hb dX9_ofThing_61 rfl (lv_at hl 0 rfl) ?_
        obtain ⟨kp51, hkp51⟩ := va_pl_get (X := WN cA r u a th) (f := tf) hqT
        rw [htf44] at hkp51
        refine va_get (D := D) (ci := 0) (v := .int (nI (T 1 j))) (C := RX0) (T := TX0) (N := 5) hx hb hts hinX0 hown hK hP kp51 hkp51 rfl 1 (by decide) (hts (.fieldLink RX9 96 "OneNail$Thing" "place" "I") (by decide +kernel)) (fun _ h9 => h9) rfl dX9_ofThing_62 ?_
        exact wIret hx hb hr hlocks (v := (nI (T 1 j))) (u, a, th, LP, tf) (⟨by unfold aOf; rw [cif_pos hyes, hjc, cif_neg hw0, cif_pos hw1], hI⟩) hK hP hD hS dX9_ofThing_65
      by_cases hw2 : w = nI 2
      · refine lv_topi (fun y_52 ey_52 => ?_)
        obtain rfl : y_52 = (nI 2) := ey_52.trans (hw2)
        refine lv_tableIn (off := 50) (tgt := 66) hx hb dX9_ofThing_16 (by decide) (by decide) (by decide) (by decide) ?_
        refine lv_aload_n hx hb dX9_ofThing_66 rfl (lv_at hl 0 rfl) ?_
        obtain ⟨kp53, hkp53⟩ := va_pl_get (X := WN cA r u a th) (f := tf) hqT
        rw [htf44] at hkp53
        refine va_get (D := D) (ci := 0) (v := .int (nI (T 2 j))) (C := RX0) (T := TX0) (N := 5) hx hb hts hinX0 hown hK hP kp53 hkp53 rfl 2 (by decide) (hts (.fieldLink RX9 99 "OneNail$Thing" "stay" "I") (by decide +kernel)) (fun _ h9 => h9) rfl dX9_ofThing_67 ?_
        exact wIret hx hb hr hlocks (v := (nI (T 2 j))) (u, a, th, LP, tf) (⟨by unfold aOf; rw [cif_pos hyes, hjc, cif_neg hw0, cif_neg hw1, cif_pos hw2], hI⟩) hK hP hD hS dX9_ofThing_70
      by_cases hw3 : w = nI 3
      · refine lv_topi (fun y_54 ey_54 => ?_)
        obtain rfl : y_54 = (nI 3) := ey_54.trans (hw3)
        refine lv_tableIn (off := 55) (tgt := 71) hx hb dX9_ofThing_16 (by decide) (by decide) (by decide) (by decide) ?_
        refine lv_aload_n hx hb dX9_ofThing_71 rfl (lv_at hl 0 rfl) ?_
        obtain ⟨kp55, hkp55⟩ := va_pl_get (X := WN cA r u a th) (f := tf) hqT
        rw [htf44] at hkp55
        refine va_get (D := D) (ci := 0) (v := .int (nI (T 3 j))) (C := RX0) (T := TX0) (N := 5) hx hb hts hinX0 hown hK hP kp55 hkp55 rfl 3 (by decide) (hts (.fieldLink RX9 102 "OneNail$Thing" "hold" "I") (by decide +kernel)) (fun _ h9 => h9) rfl dX9_ofThing_72 ?_
        exact wIret hx hb hr hlocks (v := (nI (T 3 j))) (u, a, th, LP, tf) (⟨by unfold aOf; rw [cif_pos hyes, hjc, cif_neg hw0, cif_neg hw1, cif_neg hw2, cif_pos hw3], hI⟩) hK hP hD hS dX9_ofThing_75
      by_cases hw4 : w = nI 4
      · refine lv_topi (fun y_56 ey_56 => ?_)
        obtain rfl : y_56 = (nI 4) := ey_56.trans (hw4)
        refine lv_tableIn (off := 60) (tgt := 76) hx hb dX9_ofThing_16 (by decide) (by decide) (by decide) (by decide) ?_
        refine lv_aload_n hx hb dX9_ofThing_76 rfl (lv_at hl 0 rfl) ?_
        obtain ⟨kp57, hkp57⟩ := va_pl_get (X := WN cA r u a th) (f := tf) hqT
        rw [htf44] at hkp57
        refine va_get (D := D) (ci := 0) (v := .int (nI (T 4 j))) (C := RX0) (T := TX0) (N := 5) hx hb hts hinX0 hown hK hP kp57 hkp57 rfl 4 (by decide) (hts (.fieldLink RX9 105 "OneNail$Thing" "harmDone" "I") (by decide +kernel)) (fun _ h9 => h9) rfl dX9_ofThing_77 ?_
        exact wIret hx hb hr hlocks (v := (nI (T 4 j))) (u, a, th, LP, tf) (⟨by unfold aOf; rw [cif_pos hyes, hjc, cif_neg hw0, cif_neg hw1, cif_neg hw2, cif_neg hw3, cif_pos hw4], hI⟩) hK hP hD hS dX9_ofThing_80
      by_cases hw5 : w = nI 5
      · refine lv_topi (fun y_58 ey_58 => ?_)
        obtain rfl : y_58 = (nI 5) := ey_58.trans (hw5)
        refine lv_tableIn (off := 65) (tgt := 81) hx hb dX9_ofThing_16 (by decide) (by decide) (by decide) (by decide) ?_
        refine lv_aload_n hx hb dX9_ofThing_81 rfl (lv_at hl 0 rfl) ?_
        refine lv_aload_n hx hb dX9_ofThing_82 rfl (lv_at hl 1 rfl) ?_
        refine va_get (D := D) (ci := 9) (v := .ref (r 1)) (C := RX9) (T := TX9) (N := 8) hx hb hts hinX9 hown hK hP 0 rfl rfl 0 (by decide) (hts (.fieldLink RX9 12 "OneNail" "town" "LOneNail$Street;") (by decide +kernel)) (fun _ h9 => h9) rfl dX9_ofThing_83 ?_
        refine va_get (D := D) (ci := 5) (v := .int (nI (g 2))) (C := RX5) (T := TX5) (N := 8) hx hb hts hinX5 hown hK hP 1 rfl rfl 2 (by decide) (hts (.fieldLink RX9 108 "OneNail$Street" "rusted" "I") (by decide +kernel)) (fun _ h9 => h9) (congrArg (fun z => some (Value.int z)) (hrs)) dX9_ofThing_86 ?_
        obtain ⟨kp59, hkp59⟩ := va_pl_get (X := WN cA r u a th) (f := tf) hqT
        rw [htf44] at hkp59
        refine wUi (eO_S tO) (As := [.int (nI (g 2))]) (rest := []) ⟨hx, hb, hml, hown, hts⟩ (kX0_holdsBy_t0 l D cA r _ u a th LP tf tO qT j (T 1 j) (T 2 j) (T 3 j) (T 4 j) (g 2) hqT htf44 (by omega) (by omega)) (va_cwO 1 hts gX9_ofThing_X0_holdsBy_u111X0 rfl rfl rfl (show Cond.code yX6_holdsBy cX6_holdsBy 2 (some .int) ∈ wsX9_ofThing by decide +kernel) (by decide +kernel) ⟨Nat.le_of_ble_eq_true rfl, Nat.le_of_ble_eq_true rfl⟩) (va_recv hK hP (ci := 0) (q0 := kp59) rfl hkp59) hK hP hD hS hA hE rfl hl.1 rfl (Nat.le_of_ble_eq_true rfl) dX9_ofThing_89 ⟨Nat.zero_le _, Nat.zero_le _⟩ (fun rv_60 z_62 H locs hw_61 hP hD hS => ?_)
        obtain ⟨rfl, rfl⟩ := hw_61
        have hP : va_P D vwCl (xN cA r (u, a, th, LP, tf)) H := hP
        have hD : va_D A (xN cA r (u, a, th, LP, tf)) := hD
        exact wIret hx hb hr hlocks (v := (nI (hb6 (T 3 j) (g 2) + hb6 (T 3 j) (g 2) / 2 + 10))) (u, a, th, LP, tf) (⟨by unfold aOf; rw [cif_pos hyes, hjc, cif_neg hw0, cif_neg hw1, cif_neg hw2, cif_neg hw3, cif_neg hw4, cif_pos hw5, hd_2 hkd5], hI⟩) hK hP hD hS dX9_ofThing_92
      refine lv_tableOut (tgt := 93) hx hb dX9_ofThing_16 (sw_out hw0 hw1 hw2 hw3 hw4 hw5) (by decide) ?_
      refine lv_bipush (v := (-2)) hx hb dX9_ofThing_93 (by decide) ?_
      exact wIret hx hb hr hlocks (v := (-2)) (u, a, th, LP, tf) (⟨by unfold aOf; rw [cif_pos hyes, hjc, cif_neg hw0, cif_neg hw1, cif_neg hw2, cif_neg hw3, cif_neg hw4, cif_neg hw5], hI⟩) hK hP hD hS dX9_ofThing_95
  · have hno := hno
    refine lv_astore_nN (lv' := [(3, .null), (0, .ref (r 0)), (1, .int x), (2, .int w)]) hx hb dX9_ofThing_8 rfl hl (by decide) rfl (fun ls hl => ?_)
    refine lv_aload_nN hx hb dX9_ofThing_9 rfl (lv_at hl 0 rfl) ?_
    refine lv_ifnonnullN hx hb dX9_ofThing_10 ?_
    refine lv_iconst (v := (-1)) hx hb dX9_ofThing_13 (by decide) ?_
    exact wIret hx hb hr hlocks (v := (-1)) (u, a, th, LP, tf) (⟨by unfold aOf; rw [cif_neg hno], hI⟩) hK hP hD hS dX9_ofThing_14

set_option maxHeartbeats 4000000 in
set_option maxRecDepth 100000 in
theorem kX9_tell (l : Launch) (D : va_G) (cA : Nat → ClassId) (r : Nat → Nat) (sz : Nat) (u : Nat → Int32) (a : Nat → Nat → Int32) (th : Nat → Option Nat) (LP : List Nat) (tf : Nat → va_E) (tO : Nat) (g : Nat → Nat) (T : Nat → Nat → Nat) (R : Nat → Nat → Nat) (so : Nat → Int32) (ln : Nat → Nat) (ce : Nat → Nat → Int32) (f tr : Int32) (x : Int32) (hI : CI u a th LP tf g T R so ln ce f tr) : Met l yX9_tell wsX9_tell ({ frames := 5, cells := 0, slots := 0, locals := 106 } : Room) (va_Pc [.ref (r 0), .int x] (wA D vwCl (tyA cA) (eO tO) (xN cA r) (u, a, th, LP, tf) sz)) (va_Qi (fun (v : Int32) (z : sN) => v = aTell g T x ∧ CI z.1 z.2.1 z.2.2.1 z.2.2.2.1 z.2.2.2.2 g T R so ln ce f (tTell g T tr x)) (wB D vwCl (tyA cA) (xN cA r) (va_A (xN cA r (u, a, th, LP, tf)) sz)) (va_A (xN cA r (u, a, th, LP, tf)) sz)) 0 0 (va_A (xN cA r (u, a, th, LP, tf)) sz) := by
  refine Met.ofW (cc := cX9_tell) (maxL := 3) (ret := (some .int)) (by decide) rfl ?_
  intro p e s m args below meth c s₁ B hml hv
  obtain ⟨rfl, hsz, hP, hK, hD0, hE⟩ := hv
  have hx := B.exec
  have hb := B.bytes
  have hr := B.returns
  have hts := atoms_spec (ws := wsX9_tell) B.pre
  have hown : s.vm.findClass RX9 = some m.cls := findClass_of_methodNamed B.named
  have hlocks := B.notSynchronized
  subst hsz
  have hD := hD0.self (sz := s.heap.size)
  generalize hAe : va_A (xN cA r (u, a, th, LP, tf)) s.heap.size = A at hD hE ⊢
  have hA : ∀ q : Nat, s.heap.size ≤ q → A q := fun q h => by rw [← hAe]; exact Or.inr h
  have hS : va_S A s.heap s.heap [] := va_S.rf
  have hinX9 : ∀ w ∈ u_ws RX9 TX9 8, w ∈ wsX9_tell := by decide +kernel
  have hl := lv_entry ([.ref (r 0), .int x]) (n := 3) (Nat.le_of_ble_eq_true rfl)
  rw [lg_entry_eq]
  generalize (lg_sl ([.ref (r 0), .int x]) ++ List.replicate (3 - (lg_sl ([.ref (r 0), .int x])).length) Slot.unset).toArray = ls at hl ⊢
  have hl : lv_has ls 3 [(0, .ref (r 0)), (1, .int x)] := hl
  have hM := hI.1
  have hB := hI.2.1
  have hg6 := hB.1
  have hsm := hI.2.2.1
  have hrs := hI.2.2.2.1
  have hRd := hI.2.2.2.2.1
  have hSh := hI.2.2.2.2.2.1
  have hf0 := hI.2.2.2.2.2.2.1
  have htr := hI.2.2.2.2.2.2.2.1
  have hPo := hI.2.2.2.2.2.2.2.2
  refine lv_aload_n hx hb dX9_tell_0 rfl (lv_at hl 0 rfl) ?_
  refine va_get (D := D) (ci := 9) (v := .ref (r 1)) (C := RX9) (T := TX9) (N := 8) hx hb hts hinX9 hown hK hP 0 rfl rfl 0 (by decide) (hts (.fieldLink RX9 12 "OneNail" "town" "LOneNail$Street;") (by decide +kernel)) (fun _ h9 => h9) rfl dX9_tell_1 ?_
  refine lv_iload_n hx hb dX9_tell_4 rfl (lv_at hl 1 rfl) ?_
  refine wVq (eO_S tO) (As := [.int x]) (rest := []) ⟨hx, hb, hml, hown, hts⟩ (kX5_thingAt l D cA r _ u a th LP tf tO g T x hM hB hPo) (cwV 1 hts gX9_tell_X5_thingAt rfl rfl rfl (by decide +kernel) ⟨Nat.le_of_ble_eq_true rfl, Nat.le_of_ble_eq_true rfl⟩) (va_recv hK hP (ci := 5) (q0 := 1) rfl rfl) hK hP hD hS hA hE rfl hl.1 rfl (Nat.le_of_ble_eq_true rfl) dX9_tell_5 ⟨Nat.zero_le _, Nat.zero_le _⟩ (fun rv_1 z_3 H locs hw_2 hP hD hS => ?_)
  obtain ⟨hz_4, hw_2⟩ := hw_2
  subst hz_4
  have hP : va_P D vwCl (xN cA r (u, a, th, LP, tf)) H := hP
  have hD : va_D A (xN cA r (u, a, th, LP, tf)) := hD
  rcases hw_2 with ⟨j, qT, hj, hxj, rfl, hqT, htT⟩ | ⟨hno, rfl⟩
  · have hjc : x.toNatClampNeg = j := by rw [hxj]; exact nI_clamp (by omega)
    have hTj := hB.2.2.2 j hj
    have hyes : isT (g 0) x := ⟨j, hj, hxj⟩
    rcases (show T 0 j = 0 ∨ T 0 j = 1 ∨ T 0 j = 2 by omega) with hkd5 | hkd5 | hkd5
    · have htf6 : tf qT = .inr (6, [.int (nI j), .int (nI (T 1 j)), .int (nI (T 2 j)), .int (nI (T 3 j)), .int (nI (T 4 j))]) := by rw [htT]; unfold thE kc; rw [hkd5]; rfl
      refine lv_astore_n (lv' := [(2, .ref (qT)), (0, .ref (r 0)), (1, .int x)]) hx hb dX9_tell_8 rfl hl (by decide) rfl (fun ls hl => ?_)
      refine lv_aload_n hx hb dX9_tell_9 rfl (lv_at hl 0 rfl) ?_
      refine lv_ifnonnull (tgt := 17) hx hb dX9_tell_10 (by decide) ?_
      refine lv_aload_n hx hb dX9_tell_17 rfl (lv_at hl 0 rfl) ?_
      refine lv_aload_n hx hb dX9_tell_18 rfl (lv_at hl 1 rfl) ?_
      refine va_get (D := D) (ci := 9) (v := .ref (r 5)) (C := RX9) (T := TX9) (N := 8) hx hb hts hinX9 hown hK hP 0 rfl rfl 6 (by decide) (hts (.fieldLink RX9 54 "OneNail" "traced" "LOneNail$Trace;") (by decide +kernel)) (fun _ h9 => h9) rfl dX9_tell_19 ?_
      obtain ⟨kp7, hkp7⟩ := va_pl_get (X := WN cA r u a th) (f := tf) hqT
      rw [htf6] at hkp7
      refine wVi (eO_S tO) (As := [.ref (r 5)]) (rest := []) ⟨hx, hb, hml, hown, hts⟩ (kX6_telling_t6 l D cA r _ u a th LP tf tO qT j (T 1 j) (T 2 j) (T 3 j) (T 4 j)  hqT htf6 ) (cwV 1 hts gX9_tell_X6_telling rfl rfl rfl (by decide +kernel) ⟨Nat.le_of_ble_eq_true rfl, Nat.le_of_ble_eq_true rfl⟩) (va_recv hK hP (ci := 6) (q0 := kp7) rfl hkp7) hK hP hD hS hA hE rfl hl.1 rfl (Nat.le_of_ble_eq_true rfl) dX9_tell_22 ⟨Nat.zero_le _, Nat.zero_le _⟩ (fun rv_8 z_10 H locs hw_9 hP hD hS => ?_)
      obtain ⟨rfl, rfl⟩ := hw_9
      have hP : va_P D vwCl (xN cA r ((upd u 13 (bg (u 13) 1)), a, th, LP, tf)) H := hP
      have hD : va_D A (xN cA r ((upd u 13 (bg (u 13) 1)), a, th, LP, tf)) := hD
      exact wIret hx hb hr hlocks (v := (nI (T 3 j))) ((upd u 13 (bg (u 13) 1)), a, th, LP, tf) (⟨by unfold aTell; rw [cif_pos hyes, hjc, cif_neg (by omega), cif_neg (by omega)], by unfold tTell; rw [cif_pos hyes, hjc, cif_neg (by omega), cif_neg (by omega)]; exact (CI.keep hI hf0 (congrArg (fun z => bg z 1) htr) (fun i hi9 => up_ne (by omega)) (fun i hi9 => rfl))⟩) hK hP hD hS dX9_tell_25
    · have htf11 : tf qT = .inr (1, [.int (nI j), .int (nI (T 1 j)), .int (nI (T 2 j)), .int (nI (T 3 j)), .int (nI (T 4 j))]) := by rw [htT]; unfold thE kc; rw [hkd5]; rfl
      refine lv_astore_n (lv' := [(2, .ref (qT)), (0, .ref (r 0)), (1, .int x)]) hx hb dX9_tell_8 rfl hl (by decide) rfl (fun ls hl => ?_)
      refine lv_aload_n hx hb dX9_tell_9 rfl (lv_at hl 0 rfl) ?_
      refine lv_ifnonnull (tgt := 17) hx hb dX9_tell_10 (by decide) ?_
      refine lv_aload_n hx hb dX9_tell_17 rfl (lv_at hl 0 rfl) ?_
      refine lv_aload_n hx hb dX9_tell_18 rfl (lv_at hl 1 rfl) ?_
      refine va_get (D := D) (ci := 9) (v := .ref (r 5)) (C := RX9) (T := TX9) (N := 8) hx hb hts hinX9 hown hK hP 0 rfl rfl 6 (by decide) (hts (.fieldLink RX9 54 "OneNail" "traced" "LOneNail$Trace;") (by decide +kernel)) (fun _ h9 => h9) rfl dX9_tell_19 ?_
      obtain ⟨kp12, hkp12⟩ := va_pl_get (X := WN cA r u a th) (f := tf) hqT
      rw [htf11] at hkp12
      refine wUi (eO_S tO) (As := [.ref (r 5)]) (rest := []) ⟨hx, hb, hml, hown, hts⟩ (kX1_telling_t1 l D cA r _ u a th LP tf tO qT j (T 1 j) (T 2 j) (T 3 j) (T 4 j)  hqT htf11 ) (va_cwO 1 hts gX9_tell_X1_telling_u232X1 rfl rfl rfl (show Cond.code yX6_telling cX6_telling 2 (some .int) ∈ wsX9_tell by decide +kernel) (by decide +kernel) ⟨Nat.le_of_ble_eq_true rfl, Nat.le_of_ble_eq_true rfl⟩) (va_recv hK hP (ci := 1) (q0 := kp12) rfl hkp12) hK hP hD hS hA hE rfl hl.1 rfl (Nat.le_of_ble_eq_true rfl) dX9_tell_22 ⟨Nat.zero_le _, Nat.zero_le _⟩ (fun rv_13 z_15 H locs hw_14 hP hD hS => ?_)
      obtain ⟨rfl, rfl⟩ := hw_14
      have hP : va_P D vwCl (xN cA r ((upd u 13 (bg (bg (u 13) 2) 1)), a, th, LP, tf)) H := hP
      have hD : va_D A (xN cA r ((upd u 13 (bg (bg (u 13) 2) 1)), a, th, LP, tf)) := hD
      exact wIret hx hb hr hlocks (v := (nI (T 3 j + 100))) ((upd u 13 (bg (bg (u 13) 2) 1)), a, th, LP, tf) (⟨by unfold aTell; rw [cif_pos hyes, hjc, cif_pos hkd5], by unfold tTell; rw [cif_pos hyes, hjc, cif_pos hkd5]; exact (CI.keep hI hf0 (congrArg (fun z => bg (bg z 2) 1) htr) (fun i hi9 => up_ne (by omega)) (fun i hi9 => rfl))⟩) hK hP hD hS dX9_tell_25
    · have htf16 : tf qT = .inr (0, [.int (nI j), .int (nI (T 1 j)), .int (nI (T 2 j)), .int (nI (T 3 j)), .int (nI (T 4 j))]) := by rw [htT]; unfold thE kc; rw [hkd5]; rfl
      refine lv_astore_n (lv' := [(2, .ref (qT)), (0, .ref (r 0)), (1, .int x)]) hx hb dX9_tell_8 rfl hl (by decide) rfl (fun ls hl => ?_)
      refine lv_aload_n hx hb dX9_tell_9 rfl (lv_at hl 0 rfl) ?_
      refine lv_ifnonnull (tgt := 17) hx hb dX9_tell_10 (by decide) ?_
      refine lv_aload_n hx hb dX9_tell_17 rfl (lv_at hl 0 rfl) ?_
      refine lv_aload_n hx hb dX9_tell_18 rfl (lv_at hl 1 rfl) ?_
      refine va_get (D := D) (ci := 9) (v := .ref (r 5)) (C := RX9) (T := TX9) (N := 8) hx hb hts hinX9 hown hK hP 0 rfl rfl 6 (by decide) (hts (.fieldLink RX9 54 "OneNail" "traced" "LOneNail$Trace;") (by decide +kernel)) (fun _ h9 => h9) rfl dX9_tell_19 ?_
      obtain ⟨kp17, hkp17⟩ := va_pl_get (X := WN cA r u a th) (f := tf) hqT
      rw [htf16] at hkp17
      refine wUi (eO_S tO) (As := [.ref (r 5)]) (rest := []) ⟨hx, hb, hml, hown, hts⟩ (kX0_telling_t0 l D cA r _ u a th LP tf tO qT j (T 1 j) (T 2 j) (T 3 j) (T 4 j)  hqT htf16 ) (va_cwO 1 hts gX9_tell_X0_telling_u232X0 rfl rfl rfl (show Cond.code yX6_telling cX6_telling 2 (some .int) ∈ wsX9_tell by decide +kernel) (by decide +kernel) ⟨Nat.le_of_ble_eq_true rfl, Nat.le_of_ble_eq_true rfl⟩) (va_recv hK hP (ci := 0) (q0 := kp17) rfl hkp17) hK hP hD hS hA hE rfl hl.1 rfl (Nat.le_of_ble_eq_true rfl) dX9_tell_22 ⟨Nat.zero_le _, Nat.zero_le _⟩ (fun rv_18 z_20 H locs hw_19 hP hD hS => ?_)
      obtain ⟨rfl, rfl⟩ := hw_19
      have hP : va_P D vwCl (xN cA r ((upd u 13 (bg (bg (bg (bg (u 13) 3) 2) 1) 1)), a, th, LP, tf)) H := hP
      have hD : va_D A (xN cA r ((upd u 13 (bg (bg (bg (bg (u 13) 3) 2) 1) 1)), a, th, LP, tf)) := hD
      exact wIret hx hb hr hlocks (v := (nI (2 * T 3 j + 100))) ((upd u 13 (bg (bg (bg (bg (u 13) 3) 2) 1) 1)), a, th, LP, tf) (⟨by unfold aTell; rw [cif_pos hyes, hjc, cif_neg (by omega), cif_pos hkd5], by unfold tTell; rw [cif_pos hyes, hjc, cif_neg (by omega), cif_pos hkd5]; exact (CI.keep hI hf0 (congrArg (fun z => bg (bg (bg (bg z 3) 2) 1) 1) htr) (fun i hi9 => up_ne (by omega)) (fun i hi9 => rfl))⟩) hK hP hD hS dX9_tell_25
  · have hno := hno
    refine lv_astore_nN (lv' := [(2, .null), (0, .ref (r 0)), (1, .int x)]) hx hb dX9_tell_8 rfl hl (by decide) rfl (fun ls hl => ?_)
    refine lv_aload_nN hx hb dX9_tell_9 rfl (lv_at hl 0 rfl) ?_
    refine lv_ifnonnullN hx hb dX9_tell_10 ?_
    refine lv_iconst (v := (-1)) hx hb dX9_tell_13 (by decide) ?_
    refine lv_goto (tgt := 25) hx hb dX9_tell_14 (by decide) ?_
    exact wIret hx hb hr hlocks (v := (-1)) (u, a, th, LP, tf) (⟨by unfold aTell; rw [cif_neg hno], by unfold tTell; rw [cif_neg hno]; exact hI⟩) hK hP hD hS dX9_tell_25

set_option maxHeartbeats 4000000 in
set_option maxRecDepth 100000 in
theorem kX9_strike (l : Launch) (D : va_G) (cA : Nat → ClassId) (r : Nat → Nat) (sz : Nat) (u : Nat → Int32) (a : Nat → Nat → Int32) (th : Nat → Option Nat) (LP : List Nat) (tf : Nat → va_E) (tO : Nat) (g : Nat → Nat) (T : Nat → Nat → Nat) (R : Nat → Nat → Nat) (so : Nat → Int32) (ln : Nat → Nat) (ce : Nat → Nat → Int32) (f tr : Int32) (x : Int32) (hI : CI u a th LP tf g T R so ln ce f tr) : Met l yX9_strike wsX9_strike ({ frames := 2, cells := 0, slots := 0, locals := 42 } : Room) (va_Pc [.ref (r 0), .int x] (wA D vwCl (tyA cA) (eO tO) (xN cA r) (u, a, th, LP, tf) sz)) (va_Qi (fun (v : Int32) (z : sN) => v = aStrike g T x ∧ CI z.1 z.2.1 z.2.2.1 z.2.2.2.1 z.2.2.2.2 g T R so ln ce f (tStrike g T tr x)) (wB D vwCl (tyA cA) (xN cA r) (va_A (xN cA r (u, a, th, LP, tf)) sz)) (va_A (xN cA r (u, a, th, LP, tf)) sz)) 0 0 (va_A (xN cA r (u, a, th, LP, tf)) sz) := by
  refine Met.ofW (cc := cX9_strike) (maxL := 3) (ret := (some .int)) (by decide) rfl ?_
  intro p e s m args below meth c s₁ B hml hv
  obtain ⟨rfl, hsz, hP, hK, hD0, hE⟩ := hv
  have hx := B.exec
  have hb := B.bytes
  have hr := B.returns
  have hts := atoms_spec (ws := wsX9_strike) B.pre
  have hown : s.vm.findClass RX9 = some m.cls := findClass_of_methodNamed B.named
  have hlocks := B.notSynchronized
  subst hsz
  have hD := hD0.self (sz := s.heap.size)
  generalize hAe : va_A (xN cA r (u, a, th, LP, tf)) s.heap.size = A at hD hE ⊢
  have hA : ∀ q : Nat, s.heap.size ≤ q → A q := fun q h => by rw [← hAe]; exact Or.inr h
  have hS : va_S A s.heap s.heap [] := va_S.rf
  have hinX9 : ∀ w ∈ u_ws RX9 TX9 8, w ∈ wsX9_strike := by decide +kernel
  have hl := lv_entry ([.ref (r 0), .int x]) (n := 3) (Nat.le_of_ble_eq_true rfl)
  rw [lg_entry_eq]
  generalize (lg_sl ([.ref (r 0), .int x]) ++ List.replicate (3 - (lg_sl ([.ref (r 0), .int x])).length) Slot.unset).toArray = ls at hl ⊢
  have hl : lv_has ls 3 [(0, .ref (r 0)), (1, .int x)] := hl
  have hM := hI.1
  have hB := hI.2.1
  have hg6 := hB.1
  have hsm := hI.2.2.1
  have hrs := hI.2.2.2.1
  have hRd := hI.2.2.2.2.1
  have hSh := hI.2.2.2.2.2.1
  have hf0 := hI.2.2.2.2.2.2.1
  have htr := hI.2.2.2.2.2.2.2.1
  have hPo := hI.2.2.2.2.2.2.2.2
  refine lv_aload_n hx hb dX9_strike_0 rfl (lv_at hl 0 rfl) ?_
  refine va_get (D := D) (ci := 9) (v := .ref (r 1)) (C := RX9) (T := TX9) (N := 8) hx hb hts hinX9 hown hK hP 0 rfl rfl 0 (by decide) (hts (.fieldLink RX9 12 "OneNail" "town" "LOneNail$Street;") (by decide +kernel)) (fun _ h9 => h9) rfl dX9_strike_1 ?_
  refine lv_iload_n hx hb dX9_strike_4 rfl (lv_at hl 1 rfl) ?_
  refine wVq (eO_S tO) (As := [.int x]) (rest := []) ⟨hx, hb, hml, hown, hts⟩ (kX5_thingAt l D cA r _ u a th LP tf tO g T x hM hB hPo) (cwV 1 hts gX9_strike_X5_thingAt rfl rfl rfl (by decide +kernel) ⟨Nat.le_of_ble_eq_true rfl, Nat.le_of_ble_eq_true rfl⟩) (va_recv hK hP (ci := 5) (q0 := 1) rfl rfl) hK hP hD hS hA hE rfl hl.1 rfl (Nat.le_of_ble_eq_true rfl) dX9_strike_5 ⟨Nat.zero_le _, Nat.zero_le _⟩ (fun rv_1 z_3 H locs hw_2 hP hD hS => ?_)
  obtain ⟨hz_4, hw_2⟩ := hw_2
  subst hz_4
  have hP : va_P D vwCl (xN cA r (u, a, th, LP, tf)) H := hP
  have hD : va_D A (xN cA r (u, a, th, LP, tf)) := hD
  rcases hw_2 with ⟨j, qT, hj, hxj, rfl, hqT, htT⟩ | ⟨hno, rfl⟩
  · have hjc : x.toNatClampNeg = j := by rw [hxj]; exact nI_clamp (by omega)
    have hTj := hB.2.2.2 j hj
    have hyes : isT (g 0) x := ⟨j, hj, hxj⟩
    rcases (show T 0 j = 0 ∨ T 0 j = 1 ∨ T 0 j = 2 by omega) with hkd5 | hkd5 | hkd5
    · have htf6 : tf qT = .inr (6, [.int (nI j), .int (nI (T 1 j)), .int (nI (T 2 j)), .int (nI (T 3 j)), .int (nI (T 4 j))]) := by rw [htT]; unfold thE kc; rw [hkd5]; rfl
      refine lv_astore_n (lv' := [(2, .ref (qT)), (0, .ref (r 0)), (1, .int x)]) hx hb dX9_strike_8 rfl hl (by decide) rfl (fun ls hl => ?_)
      refine lv_aload_n hx hb dX9_strike_9 rfl (lv_at hl 0 rfl) ?_
      refine lv_ifnonnull (tgt := 17) hx hb dX9_strike_10 (by decide) ?_
      refine lv_aload_n hx hb dX9_strike_17 rfl (lv_at hl 0 rfl) ?_
      refine lv_aload_n hx hb dX9_strike_18 rfl (lv_at hl 1 rfl) ?_
      refine va_get (D := D) (ci := 9) (v := .ref (r 5)) (C := RX9) (T := TX9) (N := 8) hx hb hts hinX9 hown hK hP 0 rfl rfl 6 (by decide) (hts (.fieldLink RX9 54 "OneNail" "traced" "LOneNail$Trace;") (by decide +kernel)) (fun _ h9 => h9) rfl dX9_strike_19 ?_
      obtain ⟨kp7, hkp7⟩ := va_pl_get (X := WN cA r u a th) (f := tf) hqT
      rw [htf6] at hkp7
      refine wVi (eO_S tO) (As := [.ref (r 5)]) (rest := []) ⟨hx, hb, hml, hown, hts⟩ (kX6_struck_t6 l D cA r _ u a th LP tf tO qT j (T 1 j) (T 2 j) (T 3 j) (T 4 j)  hqT htf6 ) (cwV 1 hts gX9_strike_X6_struck rfl rfl rfl (by decide +kernel) ⟨Nat.le_of_ble_eq_true rfl, Nat.le_of_ble_eq_true rfl⟩) (va_recv hK hP (ci := 6) (q0 := kp7) rfl hkp7) hK hP hD hS hA hE rfl hl.1 rfl (Nat.le_of_ble_eq_true rfl) dX9_strike_22 ⟨Nat.zero_le _, Nat.zero_le _⟩ (fun rv_8 z_10 H locs hw_9 hP hD hS => ?_)
      obtain ⟨rfl, rfl⟩ := hw_9
      have hP : va_P D vwCl (xN cA r ((upd u 13 (bg (u 13) 4)), a, th, LP, tf)) H := hP
      have hD : va_D A (xN cA r ((upd u 13 (bg (u 13) 4)), a, th, LP, tf)) := hD
      exact wIret hx hb hr hlocks (v := (nI j)) ((upd u 13 (bg (u 13) 4)), a, th, LP, tf) (⟨by unfold aStrike; rw [cif_pos hyes, hjc, cif_neg (by omega)]; exact hxj.symm, by unfold tStrike; rw [cif_pos hyes, hjc, cif_neg (by omega)]; exact (CI.keep hI hf0 (congrArg (fun z => bg z 4) htr) (fun i hi9 => up_ne (by omega)) (fun i hi9 => rfl))⟩) hK hP hD hS dX9_strike_25
    · have htf11 : tf qT = .inr (1, [.int (nI j), .int (nI (T 1 j)), .int (nI (T 2 j)), .int (nI (T 3 j)), .int (nI (T 4 j))]) := by rw [htT]; unfold thE kc; rw [hkd5]; rfl
      refine lv_astore_n (lv' := [(2, .ref (qT)), (0, .ref (r 0)), (1, .int x)]) hx hb dX9_strike_8 rfl hl (by decide) rfl (fun ls hl => ?_)
      refine lv_aload_n hx hb dX9_strike_9 rfl (lv_at hl 0 rfl) ?_
      refine lv_ifnonnull (tgt := 17) hx hb dX9_strike_10 (by decide) ?_
      refine lv_aload_n hx hb dX9_strike_17 rfl (lv_at hl 0 rfl) ?_
      refine lv_aload_n hx hb dX9_strike_18 rfl (lv_at hl 1 rfl) ?_
      refine va_get (D := D) (ci := 9) (v := .ref (r 5)) (C := RX9) (T := TX9) (N := 8) hx hb hts hinX9 hown hK hP 0 rfl rfl 6 (by decide) (hts (.fieldLink RX9 54 "OneNail" "traced" "LOneNail$Trace;") (by decide +kernel)) (fun _ h9 => h9) rfl dX9_strike_19 ?_
      obtain ⟨kp12, hkp12⟩ := va_pl_get (X := WN cA r u a th) (f := tf) hqT
      rw [htf11] at hkp12
      refine wUi (eO_S tO) (As := [.ref (r 5)]) (rest := []) ⟨hx, hb, hml, hown, hts⟩ (kX6_struck_t1 l D cA r _ u a th LP tf tO qT j (T 1 j) (T 2 j) (T 3 j) (T 4 j)  hqT htf11 ) (va_cwU 1 hts gX9_strike_X6_struck_u236X1 rfl rfl rfl rfl (by decide +kernel) ⟨Nat.le_of_ble_eq_true rfl, Nat.le_of_ble_eq_true rfl⟩) (va_recv hK hP (ci := 1) (q0 := kp12) rfl hkp12) hK hP hD hS hA hE rfl hl.1 rfl (Nat.le_of_ble_eq_true rfl) dX9_strike_22 ⟨Nat.zero_le _, Nat.zero_le _⟩ (fun rv_13 z_15 H locs hw_14 hP hD hS => ?_)
      obtain ⟨rfl, rfl⟩ := hw_14
      have hP : va_P D vwCl (xN cA r ((upd u 13 (bg (u 13) 4)), a, th, LP, tf)) H := hP
      have hD : va_D A (xN cA r ((upd u 13 (bg (u 13) 4)), a, th, LP, tf)) := hD
      exact wIret hx hb hr hlocks (v := (nI j)) ((upd u 13 (bg (u 13) 4)), a, th, LP, tf) (⟨by unfold aStrike; rw [cif_pos hyes, hjc, cif_neg (by omega)]; exact hxj.symm, by unfold tStrike; rw [cif_pos hyes, hjc, cif_neg (by omega)]; exact (CI.keep hI hf0 (congrArg (fun z => bg z 4) htr) (fun i hi9 => up_ne (by omega)) (fun i hi9 => rfl))⟩) hK hP hD hS dX9_strike_25
    · have htf16 : tf qT = .inr (0, [.int (nI j), .int (nI (T 1 j)), .int (nI (T 2 j)), .int (nI (T 3 j)), .int (nI (T 4 j))]) := by rw [htT]; unfold thE kc; rw [hkd5]; rfl
      refine lv_astore_n (lv' := [(2, .ref (qT)), (0, .ref (r 0)), (1, .int x)]) hx hb dX9_strike_8 rfl hl (by decide) rfl (fun ls hl => ?_)
      refine lv_aload_n hx hb dX9_strike_9 rfl (lv_at hl 0 rfl) ?_
      refine lv_ifnonnull (tgt := 17) hx hb dX9_strike_10 (by decide) ?_
      refine lv_aload_n hx hb dX9_strike_17 rfl (lv_at hl 0 rfl) ?_
      refine lv_aload_n hx hb dX9_strike_18 rfl (lv_at hl 1 rfl) ?_
      refine va_get (D := D) (ci := 9) (v := .ref (r 5)) (C := RX9) (T := TX9) (N := 8) hx hb hts hinX9 hown hK hP 0 rfl rfl 6 (by decide) (hts (.fieldLink RX9 54 "OneNail" "traced" "LOneNail$Trace;") (by decide +kernel)) (fun _ h9 => h9) rfl dX9_strike_19 ?_
      obtain ⟨kp17, hkp17⟩ := va_pl_get (X := WN cA r u a th) (f := tf) hqT
      rw [htf16] at hkp17
      refine wUi (eO_S tO) (As := [.ref (r 5)]) (rest := []) ⟨hx, hb, hml, hown, hts⟩ (kX0_struck_t0 l D cA r _ u a th LP tf tO qT j (T 1 j) (T 2 j) (T 3 j) (T 4 j)  hqT htf16 ) (va_cwO 1 hts gX9_strike_X0_struck_u236X0 rfl rfl rfl (show Cond.code yX6_struck cX6_struck 2 (some .int) ∈ wsX9_strike by decide +kernel) (by decide +kernel) ⟨Nat.le_of_ble_eq_true rfl, Nat.le_of_ble_eq_true rfl⟩) (va_recv hK hP (ci := 0) (q0 := kp17) rfl hkp17) hK hP hD hS hA hE rfl hl.1 rfl (Nat.le_of_ble_eq_true rfl) dX9_strike_22 ⟨Nat.zero_le _, Nat.zero_le _⟩ (fun rv_18 z_20 H locs hw_19 hP hD hS => ?_)
      obtain ⟨rfl, rfl⟩ := hw_19
      have hP : va_P D vwCl (xN cA r ((upd u 13 (bg (u 13) 5)), a, th, LP, tf)) H := hP
      have hD : va_D A (xN cA r ((upd u 13 (bg (u 13) 5)), a, th, LP, tf)) := hD
      exact wIret hx hb hr hlocks (v := (nI 30)) ((upd u 13 (bg (u 13) 5)), a, th, LP, tf) (⟨by unfold aStrike; rw [cif_pos hyes, hjc, cif_pos hkd5], by unfold tStrike; rw [cif_pos hyes, hjc, cif_pos hkd5]; exact (CI.keep hI hf0 (congrArg (fun z => bg z 5) htr) (fun i hi9 => up_ne (by omega)) (fun i hi9 => rfl))⟩) hK hP hD hS dX9_strike_25
  · have hno := hno
    refine lv_astore_nN (lv' := [(2, .null), (0, .ref (r 0)), (1, .int x)]) hx hb dX9_strike_8 rfl hl (by decide) rfl (fun ls hl => ?_)
    refine lv_aload_nN hx hb dX9_strike_9 rfl (lv_at hl 0 rfl) ?_
    refine lv_ifnonnullN hx hb dX9_strike_10 ?_
    refine lv_iconst (v := (-1)) hx hb dX9_strike_13 (by decide) ?_
    refine lv_goto (tgt := 25) hx hb dX9_strike_14 (by decide) ?_
    exact wIret hx hb hr hlocks (v := (-1)) (u, a, th, LP, tf) (⟨by unfold aStrike; rw [cif_neg hno], by unfold tStrike; rw [cif_neg hno]; exact hI⟩) hK hP hD hS dX9_strike_25

set_option maxHeartbeats 4000000 in
set_option maxRecDepth 100000 in
theorem kX9_as (l : Launch) (D : va_G) (cA : Nat → ClassId) (r : Nat → Nat) (sz : Nat) (u : Nat → Int32) (a : Nat → Nat → Int32) (th : Nat → Option Nat) (LP : List Nat) (tf : Nat → va_E) (tO : Nat) (g : Nat → Nat) (T : Nat → Nat → Nat) (R : Nat → Nat → Nat) (so : Nat → Int32) (ln : Nat → Nat) (ce : Nat → Nat → Int32) (f tr : Int32) (x w : Int32) (hI : CI u a th LP tf g T R so ln ce f tr) : Met l yX9_as wsX9_as ({ frames := 2, cells := 0, slots := 0, locals := 42 } : Room) (va_Pc [.ref (r 0), .int x, .int w] (wA D vwCl (tyA cA) (eO tO) (xN cA r) (u, a, th, LP, tf) sz)) (va_Qi (fun (v : Int32) (z : sN) => v = aAs g T x w ∧ CI z.1 z.2.1 z.2.2.1 z.2.2.2.1 z.2.2.2.2 g T R so ln ce (fAs g T x w) tr) (wB D vwCl (tyA cA) (xN cA r) (va_A (xN cA r (u, a, th, LP, tf)) sz)) (va_A (xN cA r (u, a, th, LP, tf)) sz)) 0 0 (va_A (xN cA r (u, a, th, LP, tf)) sz) := by
  refine Met.ofW (cc := cX9_as) (maxL := 4) (ret := (some .int)) (by decide) rfl ?_
  intro p e s m args below meth c s₁ B hml hv
  obtain ⟨rfl, hsz, hP, hK, hD0, hE⟩ := hv
  have hx := B.exec
  have hb := B.bytes
  have hr := B.returns
  have hts := atoms_spec (ws := wsX9_as) B.pre
  have hown : s.vm.findClass RX9 = some m.cls := findClass_of_methodNamed B.named
  have hlocks := B.notSynchronized
  subst hsz
  have hD := hD0.self (sz := s.heap.size)
  generalize hAe : va_A (xN cA r (u, a, th, LP, tf)) s.heap.size = A at hD hE ⊢
  have hA : ∀ q : Nat, s.heap.size ≤ q → A q := fun q h => by rw [← hAe]; exact Or.inr h
  have hS : va_S A s.heap s.heap [] := va_S.rf
  have hinX9 : ∀ w ∈ u_ws RX9 TX9 8, w ∈ wsX9_as := by decide +kernel
  have hl := lv_entry ([.ref (r 0), .int x, .int w]) (n := 4) (Nat.le_of_ble_eq_true rfl)
  rw [lg_entry_eq]
  generalize (lg_sl ([.ref (r 0), .int x, .int w]) ++ List.replicate (4 - (lg_sl ([.ref (r 0), .int x, .int w])).length) Slot.unset).toArray = ls at hl ⊢
  have hl : lv_has ls 4 [(0, .ref (r 0)), (1, .int x), (2, .int w)] := hl
  have hM := hI.1
  have hB := hI.2.1
  have hg6 := hB.1
  have hsm := hI.2.2.1
  have hrs := hI.2.2.2.1
  have hRd := hI.2.2.2.2.1
  have hSh := hI.2.2.2.2.2.1
  have hf0 := hI.2.2.2.2.2.2.1
  have htr := hI.2.2.2.2.2.2.2.1
  have hPo := hI.2.2.2.2.2.2.2.2
  refine lv_aload_n hx hb dX9_as_0 rfl (lv_at hl 0 rfl) ?_
  refine lv_iconst (v := (nI 0)) hx hb dX9_as_1 rfl ?_
  refine va_put (D := D) (ci := 9) (v := .int (nI 0)) (ty := .int) (C := RX9) (T := TX9) (N := 8) hx hb hts hinX9 tyX9 tyX9_ok nmX9 hown hK hP hD hS 0 rfl rfl 7 (by decide) (hts (.fieldLink RX9 58 "OneNail" "lastFault" "I") (by decide +kernel)) (fun _ h9 => h9) rfl (by decide +kernel) rfl rfl (Nat.le_of_ble_eq_true rfl) dX9_as_2 (fun H locs hP hD hS => ?_)
  have hP : va_P D vwCl (xN cA r ((upd u 0 (nI 0)), a, th, LP, tf)) H := hP
  have hD : va_D A (xN cA r ((upd u 0 (nI 0)), a, th, LP, tf)) := hD
  refine lv_aload_n hx hb dX9_as_5 rfl (lv_at hl 0 rfl) ?_
  refine va_get (D := D) (ci := 9) (v := .ref (r 1)) (C := RX9) (T := TX9) (N := 8) hx hb hts hinX9 hown hK hP 0 rfl rfl 0 (by decide) (hts (.fieldLink RX9 12 "OneNail" "town" "LOneNail$Street;") (by decide +kernel)) (fun _ h9 => h9) rfl dX9_as_6 ?_
  refine lv_iload_n hx hb dX9_as_9 rfl (lv_at hl 1 rfl) ?_
  refine wVq (eO_S tO) (As := [.int x]) (rest := []) ⟨hx, hb, hml, hown, hts⟩ (kX5_thingAt l D cA r _ (upd u 0 (nI 0)) a th LP tf tO g T x (NT.keep hM rfl rfl rfl rfl rfl) hB hPo) (cwV 1 hts gX9_as_X5_thingAt rfl rfl rfl (by decide +kernel) ⟨Nat.le_of_ble_eq_true rfl, Nat.le_of_ble_eq_true rfl⟩) (va_recv hK hP (ci := 5) (q0 := 1) rfl rfl) hK hP hD hS hA hE rfl hl.1 rfl (Nat.le_of_ble_eq_true rfl) dX9_as_10 ⟨Nat.zero_le _, Nat.zero_le _⟩ (fun rv_1 z_3 H locs hw_2 hP hD hS => ?_)
  obtain ⟨hz_4, hw_2⟩ := hw_2
  subst hz_4
  have hP : va_P D vwCl (xN cA r ((upd u 0 (nI 0)), a, th, LP, tf)) H := hP
  have hD : va_D A (xN cA r ((upd u 0 (nI 0)), a, th, LP, tf)) := hD
  rcases hw_2 with ⟨j, qT, hj, hxj, rfl, hqT, htT⟩ | ⟨hno, rfl⟩
  · have hjc : x.toNatClampNeg = j := by rw [hxj]; exact nI_clamp (by omega)
    have hTj := hB.2.2.2 j hj
    have hyes : isT (g 0) x := ⟨j, hj, hxj⟩
    rcases (show T 0 j = 0 ∨ T 0 j = 1 ∨ T 0 j = 2 by omega) with hkd5 | hkd5 | hkd5
    · have htf6 : tf qT = .inr (6, [.int (nI j), .int (nI (T 1 j)), .int (nI (T 2 j)), .int (nI (T 3 j)), .int (nI (T 4 j))]) := by rw [htT]; unfold thE kc; rw [hkd5]; rfl
      refine lv_astore_n (lv' := [(3, .ref (qT)), (0, .ref (r 0)), (1, .int x), (2, .int w)]) hx hb dX9_as_13 rfl hl (by decide) rfl (fun ls hl => ?_)
      refine lv_aload_n hx hb dX9_as_14 rfl (lv_at hl 0 rfl) ?_
      refine lv_ifnonnull (tgt := 20) hx hb dX9_as_15 (by decide) ?_
      refine lv_iload_n hx hb dX9_as_20 rfl (lv_at hl 3 rfl) ?_
      refine lv_if_lt (tgt := 29) hx hb dX9_as_21 (by decide) (fun c_7 => ?_) (fun c_7 => ?_)
      · refine lv_bipush (v := (-2)) hx hb dX9_as_29 (by decide) ?_
        exact wIret hx hb hr hlocks (v := (-2)) ((upd u 0 (nI 0)), a, th, LP, tf) (⟨by unfold aAs; rw [cif_pos hyes, cif_neg (ir_lo (lo := 0) c_7)], by unfold fAs; rw [cif_pos hyes, cif_neg (ir_lo (lo := 0) c_7)]; exact (CI.keep hI rfl htr (fun i hi9 => up_ne (by omega)) (fun i hi9 => rfl))⟩) hK hP hD hS dX9_as_31
      · refine lv_iload_n hx hb dX9_as_24 rfl (lv_at hl 3 rfl) ?_
        refine lv_iconst (v := (nI 3)) hx hb dX9_as_25 rfl ?_
        refine lv_icmp_lt (tgt := 32) hx hb dX9_as_26 (by decide) (fun c_8 => ?_) (fun c_8 => ?_)
        · have hin : inR w 0 2 := ir_in (hi := 2) (lo := 0) c_7 (Int32.not_le.mpr c_8) (by decide) (by decide)
          obtain ⟨w0, hw1, hw2, hw3, hwc⟩ := inR_of hin (by decide) (by decide)
          have hl : lv_has ls 4 [(3, .ref (qT)), (0, .ref (r 0)), (1, .int x), (2, .int (nI w0))] := lv_re hl 3 ⟨rfl, rfl⟩ (hw1)
          refine lv_aload_n hx hb dX9_as_32 rfl (lv_at hl 0 rfl) ?_
          obtain ⟨kp9, hkp9⟩ := va_pl_get (X := WN cA r (upd u 0 (nI 0)) a th) (f := tf) hqT
          rw [htf6] at hkp9
          refine wVi (eO_S tO) (As := []) (rest := []) ⟨hx, hb, hml, hown, hts⟩ (kX6_kindNumber_t6 l D cA r _ (upd u 0 (nI 0)) a th LP tf tO qT j (T 1 j) (T 2 j) (T 3 j) (T 4 j)  hqT htf6 ) (cwV 0 hts gX9_as_X6_kindNumber rfl rfl rfl (by decide +kernel) ⟨Nat.le_of_ble_eq_true rfl, Nat.le_of_ble_eq_true rfl⟩) (va_recv hK hP (ci := 6) (q0 := kp9) rfl hkp9) hK hP hD hS hA hE rfl hl.1 rfl (Nat.le_of_ble_eq_true rfl) dX9_as_33 ⟨Nat.zero_le _, Nat.zero_le _⟩ (fun rv_10 z_12 H locs hw_11 hP hD hS => ?_)
          obtain ⟨rfl, rfl⟩ := hw_11
          have hP : va_P D vwCl (xN cA r ((upd u 0 (nI 0)), a, th, LP, tf)) H := hP
          have hD : va_D A (xN cA r ((upd u 0 (nI 0)), a, th, LP, tf)) := hD
          refine lv_iload_n hx hb dX9_as_36 rfl (lv_at hl 3 rfl) ?_
          refine rn_ge (x := 0) (y := w0) (tgt := 48) hx hb (by omega) (by omega) dX9_as_37 (by decide) (fun c_13 => ?_) (fun c_13 => ?_)
          · refine lv_iconst (v := (nI 1)) hx hb dX9_as_48 rfl ?_
            exact wIret hx hb hr hlocks (v := (nI 1)) ((upd u 0 (nI 0)), a, th, LP, tf) (⟨by unfold aAs; rw [cif_pos hyes, cif_pos hin, hjc, hwc, cif_pos (by omega)], by unfold fAs; rw [cif_pos hyes, cif_pos hin, hjc, hwc, cif_pos (by omega)]; exact (CI.keep hI rfl htr (fun i hi9 => up_ne (by omega)) (fun i hi9 => rfl))⟩) hK hP hD hS dX9_as_49
          · refine lv_aload_n hx hb dX9_as_40 rfl (lv_at hl 1 rfl) ?_
            refine lv_iconst (v := (nI 2)) hx hb dX9_as_41 rfl ?_
            refine wVi (eO_S tO) (As := [.int (nI 2)]) (rest := []) ⟨hx, hb, hml, hown, hts⟩ (kX9_failBy l D cA r _ (upd u 0 (nI 0)) a th LP tf tO (nI 2)) (cwV 1 hts gX9_as_X9_failBy rfl rfl rfl (by decide +kernel) ⟨Nat.le_of_ble_eq_true rfl, Nat.le_of_ble_eq_true rfl⟩) (va_recv hK hP (ci := 9) (q0 := 0) rfl rfl) hK hP hD hS hA hE rfl hl.1 rfl (Nat.le_of_ble_eq_true rfl) dX9_as_42 ⟨Nat.zero_le _, Nat.zero_le _⟩ (fun rv_14 z_16 H locs hw_15 hP hD hS => ?_)
            obtain ⟨rfl, rfl⟩ := hw_15
            have hP : va_P D vwCl (xN cA r ((upd u 0 (nI 2)), a, th, LP, tf)) H := hP
            have hD : va_D A (xN cA r ((upd u 0 (nI 2)), a, th, LP, tf)) := hD
            refine lv_goto (tgt := 49) hx hb dX9_as_45 (by decide) ?_
            exact wIret hx hb hr hlocks (v := ((-10) - (nI 2))) ((upd u 0 (nI 2)), a, th, LP, tf) (⟨by unfold aAs; rw [cif_pos hyes, cif_pos hin, hjc, hwc, cif_neg (by omega)]; decide, by unfold fAs; rw [cif_pos hyes, cif_pos hin, hjc, hwc, cif_neg (by omega)]; exact (CI.keep hI rfl htr (fun i hi9 => up_ne (by omega)) (fun i hi9 => rfl))⟩) hK hP hD hS dX9_as_49
        · refine lv_bipush (v := (-2)) hx hb dX9_as_29 (by decide) ?_
          exact wIret hx hb hr hlocks (v := (-2)) ((upd u 0 (nI 0)), a, th, LP, tf) (⟨by unfold aAs; rw [cif_pos hyes, cif_neg (ir_hi (hi := 2) (Int32.not_lt.mp c_8) (by decide))], by unfold fAs; rw [cif_pos hyes, cif_neg (ir_hi (hi := 2) (Int32.not_lt.mp c_8) (by decide))]; exact (CI.keep hI rfl htr (fun i hi9 => up_ne (by omega)) (fun i hi9 => rfl))⟩) hK hP hD hS dX9_as_31
    · have htf17 : tf qT = .inr (1, [.int (nI j), .int (nI (T 1 j)), .int (nI (T 2 j)), .int (nI (T 3 j)), .int (nI (T 4 j))]) := by rw [htT]; unfold thE kc; rw [hkd5]; rfl
      refine lv_astore_n (lv' := [(3, .ref (qT)), (0, .ref (r 0)), (1, .int x), (2, .int w)]) hx hb dX9_as_13 rfl hl (by decide) rfl (fun ls hl => ?_)
      refine lv_aload_n hx hb dX9_as_14 rfl (lv_at hl 0 rfl) ?_
      refine lv_ifnonnull (tgt := 20) hx hb dX9_as_15 (by decide) ?_
      refine lv_iload_n hx hb dX9_as_20 rfl (lv_at hl 3 rfl) ?_
      refine lv_if_lt (tgt := 29) hx hb dX9_as_21 (by decide) (fun c_18 => ?_) (fun c_18 => ?_)
      · refine lv_bipush (v := (-2)) hx hb dX9_as_29 (by decide) ?_
        exact wIret hx hb hr hlocks (v := (-2)) ((upd u 0 (nI 0)), a, th, LP, tf) (⟨by unfold aAs; rw [cif_pos hyes, cif_neg (ir_lo (lo := 0) c_18)], by unfold fAs; rw [cif_pos hyes, cif_neg (ir_lo (lo := 0) c_18)]; exact (CI.keep hI rfl htr (fun i hi9 => up_ne (by omega)) (fun i hi9 => rfl))⟩) hK hP hD hS dX9_as_31
      · refine lv_iload_n hx hb dX9_as_24 rfl (lv_at hl 3 rfl) ?_
        refine lv_iconst (v := (nI 3)) hx hb dX9_as_25 rfl ?_
        refine lv_icmp_lt (tgt := 32) hx hb dX9_as_26 (by decide) (fun c_19 => ?_) (fun c_19 => ?_)
        · have hin : inR w 0 2 := ir_in (hi := 2) (lo := 0) c_18 (Int32.not_le.mpr c_19) (by decide) (by decide)
          obtain ⟨w0, hw1, hw2, hw3, hwc⟩ := inR_of hin (by decide) (by decide)
          have hl : lv_has ls 4 [(3, .ref (qT)), (0, .ref (r 0)), (1, .int x), (2, .int (nI w0))] := lv_re hl 3 ⟨rfl, rfl⟩ (hw1)
          refine lv_aload_n hx hb dX9_as_32 rfl (lv_at hl 0 rfl) ?_
          obtain ⟨kp20, hkp20⟩ := va_pl_get (X := WN cA r (upd u 0 (nI 0)) a th) (f := tf) hqT
          rw [htf17] at hkp20
          refine wUi (eO_S tO) (As := []) (rest := []) ⟨hx, hb, hml, hown, hts⟩ (kX1_kindNumber_t1 l D cA r _ (upd u 0 (nI 0)) a th LP tf tO qT j (T 1 j) (T 2 j) (T 3 j) (T 4 j)  hqT htf17 ) (va_cwO 0 hts gX9_as_X1_kindNumber_u90X1 rfl rfl rfl (show Cond.code yX6_kindNumber cX6_kindNumber 1 (some .int) ∈ wsX9_as by decide +kernel) (by decide +kernel) ⟨Nat.le_of_ble_eq_true rfl, Nat.le_of_ble_eq_true rfl⟩) (va_recv hK hP (ci := 1) (q0 := kp20) rfl hkp20) hK hP hD hS hA hE rfl hl.1 rfl (Nat.le_of_ble_eq_true rfl) dX9_as_33 ⟨Nat.zero_le _, Nat.zero_le _⟩ (fun rv_21 z_23 H locs hw_22 hP hD hS => ?_)
          obtain ⟨rfl, rfl⟩ := hw_22
          have hP : va_P D vwCl (xN cA r ((upd u 0 (nI 0)), a, th, LP, tf)) H := hP
          have hD : va_D A (xN cA r ((upd u 0 (nI 0)), a, th, LP, tf)) := hD
          refine lv_iload_n hx hb dX9_as_36 rfl (lv_at hl 3 rfl) ?_
          refine rn_ge (x := 1) (y := w0) (tgt := 48) hx hb (by omega) (by omega) dX9_as_37 (by decide) (fun c_24 => ?_) (fun c_24 => ?_)
          · refine lv_iconst (v := (nI 1)) hx hb dX9_as_48 rfl ?_
            exact wIret hx hb hr hlocks (v := (nI 1)) ((upd u 0 (nI 0)), a, th, LP, tf) (⟨by unfold aAs; rw [cif_pos hyes, cif_pos hin, hjc, hwc, cif_pos (by omega)], by unfold fAs; rw [cif_pos hyes, cif_pos hin, hjc, hwc, cif_pos (by omega)]; exact (CI.keep hI rfl htr (fun i hi9 => up_ne (by omega)) (fun i hi9 => rfl))⟩) hK hP hD hS dX9_as_49
          · refine lv_aload_n hx hb dX9_as_40 rfl (lv_at hl 1 rfl) ?_
            refine lv_iconst (v := (nI 2)) hx hb dX9_as_41 rfl ?_
            refine wVi (eO_S tO) (As := [.int (nI 2)]) (rest := []) ⟨hx, hb, hml, hown, hts⟩ (kX9_failBy l D cA r _ (upd u 0 (nI 0)) a th LP tf tO (nI 2)) (cwV 1 hts gX9_as_X9_failBy rfl rfl rfl (by decide +kernel) ⟨Nat.le_of_ble_eq_true rfl, Nat.le_of_ble_eq_true rfl⟩) (va_recv hK hP (ci := 9) (q0 := 0) rfl rfl) hK hP hD hS hA hE rfl hl.1 rfl (Nat.le_of_ble_eq_true rfl) dX9_as_42 ⟨Nat.zero_le _, Nat.zero_le _⟩ (fun rv_25 z_27 H locs hw_26 hP hD hS => ?_)
            obtain ⟨rfl, rfl⟩ := hw_26
            have hP : va_P D vwCl (xN cA r ((upd u 0 (nI 2)), a, th, LP, tf)) H := hP
            have hD : va_D A (xN cA r ((upd u 0 (nI 2)), a, th, LP, tf)) := hD
            refine lv_goto (tgt := 49) hx hb dX9_as_45 (by decide) ?_
            exact wIret hx hb hr hlocks (v := ((-10) - (nI 2))) ((upd u 0 (nI 2)), a, th, LP, tf) (⟨by unfold aAs; rw [cif_pos hyes, cif_pos hin, hjc, hwc, cif_neg (by omega)]; decide, by unfold fAs; rw [cif_pos hyes, cif_pos hin, hjc, hwc, cif_neg (by omega)]; exact (CI.keep hI rfl htr (fun i hi9 => up_ne (by omega)) (fun i hi9 => rfl))⟩) hK hP hD hS dX9_as_49
        · refine lv_bipush (v := (-2)) hx hb dX9_as_29 (by decide) ?_
          exact wIret hx hb hr hlocks (v := (-2)) ((upd u 0 (nI 0)), a, th, LP, tf) (⟨by unfold aAs; rw [cif_pos hyes, cif_neg (ir_hi (hi := 2) (Int32.not_lt.mp c_19) (by decide))], by unfold fAs; rw [cif_pos hyes, cif_neg (ir_hi (hi := 2) (Int32.not_lt.mp c_19) (by decide))]; exact (CI.keep hI rfl htr (fun i hi9 => up_ne (by omega)) (fun i hi9 => rfl))⟩) hK hP hD hS dX9_as_31
    · have htf28 : tf qT = .inr (0, [.int (nI j), .int (nI (T 1 j)), .int (nI (T 2 j)), .int (nI (T 3 j)), .int (nI (T 4 j))]) := by rw [htT]; unfold thE kc; rw [hkd5]; rfl
      refine lv_astore_n (lv' := [(3, .ref (qT)), (0, .ref (r 0)), (1, .int x), (2, .int w)]) hx hb dX9_as_13 rfl hl (by decide) rfl (fun ls hl => ?_)
      refine lv_aload_n hx hb dX9_as_14 rfl (lv_at hl 0 rfl) ?_
      refine lv_ifnonnull (tgt := 20) hx hb dX9_as_15 (by decide) ?_
      refine lv_iload_n hx hb dX9_as_20 rfl (lv_at hl 3 rfl) ?_
      refine lv_if_lt (tgt := 29) hx hb dX9_as_21 (by decide) (fun c_29 => ?_) (fun c_29 => ?_)
      · refine lv_bipush (v := (-2)) hx hb dX9_as_29 (by decide) ?_
        exact wIret hx hb hr hlocks (v := (-2)) ((upd u 0 (nI 0)), a, th, LP, tf) (⟨by unfold aAs; rw [cif_pos hyes, cif_neg (ir_lo (lo := 0) c_29)], by unfold fAs; rw [cif_pos hyes, cif_neg (ir_lo (lo := 0) c_29)]; exact (CI.keep hI rfl htr (fun i hi9 => up_ne (by omega)) (fun i hi9 => rfl))⟩) hK hP hD hS dX9_as_31
      · refine lv_iload_n hx hb dX9_as_24 rfl (lv_at hl 3 rfl) ?_
        refine lv_iconst (v := (nI 3)) hx hb dX9_as_25 rfl ?_
        refine lv_icmp_lt (tgt := 32) hx hb dX9_as_26 (by decide) (fun c_30 => ?_) (fun c_30 => ?_)
        · have hin : inR w 0 2 := ir_in (hi := 2) (lo := 0) c_29 (Int32.not_le.mpr c_30) (by decide) (by decide)
          obtain ⟨w0, hw1, hw2, hw3, hwc⟩ := inR_of hin (by decide) (by decide)
          have hl : lv_has ls 4 [(3, .ref (qT)), (0, .ref (r 0)), (1, .int x), (2, .int (nI w0))] := lv_re hl 3 ⟨rfl, rfl⟩ (hw1)
          refine lv_aload_n hx hb dX9_as_32 rfl (lv_at hl 0 rfl) ?_
          obtain ⟨kp31, hkp31⟩ := va_pl_get (X := WN cA r (upd u 0 (nI 0)) a th) (f := tf) hqT
          rw [htf28] at hkp31
          refine wUi (eO_S tO) (As := []) (rest := []) ⟨hx, hb, hml, hown, hts⟩ (kX0_kindNumber_t0 l D cA r _ (upd u 0 (nI 0)) a th LP tf tO qT j (T 1 j) (T 2 j) (T 3 j) (T 4 j)  hqT htf28 ) (va_cwO 0 hts gX9_as_X0_kindNumber_u90X0 rfl rfl rfl (show Cond.code yX6_kindNumber cX6_kindNumber 1 (some .int) ∈ wsX9_as by decide +kernel) (by decide +kernel) ⟨Nat.le_of_ble_eq_true rfl, Nat.le_of_ble_eq_true rfl⟩) (va_recv hK hP (ci := 0) (q0 := kp31) rfl hkp31) hK hP hD hS hA hE rfl hl.1 rfl (Nat.le_of_ble_eq_true rfl) dX9_as_33 ⟨Nat.zero_le _, Nat.zero_le _⟩ (fun rv_32 z_34 H locs hw_33 hP hD hS => ?_)
          obtain ⟨rfl, rfl⟩ := hw_33
          have hP : va_P D vwCl (xN cA r ((upd u 0 (nI 0)), a, th, LP, tf)) H := hP
          have hD : va_D A (xN cA r ((upd u 0 (nI 0)), a, th, LP, tf)) := hD
          refine lv_iload_n hx hb dX9_as_36 rfl (lv_at hl 3 rfl) ?_
          refine rn_ge (x := 2) (y := w0) (tgt := 48) hx hb (by omega) (by omega) dX9_as_37 (by decide) (fun c_35 => ?_) (fun c_35 => ?_)
          · refine lv_iconst (v := (nI 1)) hx hb dX9_as_48 rfl ?_
            exact wIret hx hb hr hlocks (v := (nI 1)) ((upd u 0 (nI 0)), a, th, LP, tf) (⟨by unfold aAs; rw [cif_pos hyes, cif_pos hin, hjc, hwc, cif_pos (by omega)], by unfold fAs; rw [cif_pos hyes, cif_pos hin, hjc, hwc, cif_pos (by omega)]; exact (CI.keep hI rfl htr (fun i hi9 => up_ne (by omega)) (fun i hi9 => rfl))⟩) hK hP hD hS dX9_as_49
          · refine lv_aload_n hx hb dX9_as_40 rfl (lv_at hl 1 rfl) ?_
            refine lv_iconst (v := (nI 2)) hx hb dX9_as_41 rfl ?_
            refine wVi (eO_S tO) (As := [.int (nI 2)]) (rest := []) ⟨hx, hb, hml, hown, hts⟩ (kX9_failBy l D cA r _ (upd u 0 (nI 0)) a th LP tf tO (nI 2)) (cwV 1 hts gX9_as_X9_failBy rfl rfl rfl (by decide +kernel) ⟨Nat.le_of_ble_eq_true rfl, Nat.le_of_ble_eq_true rfl⟩) (va_recv hK hP (ci := 9) (q0 := 0) rfl rfl) hK hP hD hS hA hE rfl hl.1 rfl (Nat.le_of_ble_eq_true rfl) dX9_as_42 ⟨Nat.zero_le _, Nat.zero_le _⟩ (fun rv_36 z_38 H locs hw_37 hP hD hS => ?_)
            obtain ⟨rfl, rfl⟩ := hw_37
            have hP : va_P D vwCl (xN cA r ((upd u 0 (nI 2)), a, th, LP, tf)) H := hP
            have hD : va_D A (xN cA r ((upd u 0 (nI 2)), a, th, LP, tf)) := hD
            refine lv_goto (tgt := 49) hx hb dX9_as_45 (by decide) ?_
            exact wIret hx hb hr hlocks (v := ((-10) - (nI 2))) ((upd u 0 (nI 2)), a, th, LP, tf) (⟨by unfold aAs; rw [cif_pos hyes, cif_pos hin, hjc, hwc, cif_neg (by omega)]; decide, by unfold fAs; rw [cif_pos hyes, cif_pos hin, hjc, hwc, cif_neg (by omega)]; exact (CI.keep hI rfl htr (fun i hi9 => up_ne (by omega)) (fun i hi9 => rfl))⟩) hK hP hD hS dX9_as_49
        · refine lv_bipush (v := (-2)) hx hb dX9_as_29 (by decide) ?_
          exact wIret hx hb hr hlocks (v := (-2)) ((upd u 0 (nI 0)), a, th, LP, tf) (⟨by unfold aAs; rw [cif_pos hyes, cif_neg (ir_hi (hi := 2) (Int32.not_lt.mp c_30) (by decide))], by unfold fAs; rw [cif_pos hyes, cif_neg (ir_hi (hi := 2) (Int32.not_lt.mp c_30) (by decide))]; exact (CI.keep hI rfl htr (fun i hi9 => up_ne (by omega)) (fun i hi9 => rfl))⟩) hK hP hD hS dX9_as_31
  · have hno := hno
    refine lv_astore_nN (lv' := [(3, .null), (0, .ref (r 0)), (1, .int x), (2, .int w)]) hx hb dX9_as_13 rfl hl (by decide) rfl (fun ls hl => ?_)
    refine lv_aload_nN hx hb dX9_as_14 rfl (lv_at hl 0 rfl) ?_
    refine lv_ifnonnullN hx hb dX9_as_15 ?_
    refine lv_iconst (v := (-1)) hx hb dX9_as_18 (by decide) ?_
    exact wIret hx hb hr hlocks (v := (-1)) ((upd u 0 (nI 0)), a, th, LP, tf) (⟨by unfold aAs; rw [cif_neg hno], by unfold fAs; rw [cif_neg hno]; exact (CI.keep hI rfl htr (fun i hi9 => up_ne (by omega)) (fun i hi9 => rfl))⟩) hK hP hD hS dX9_as_19

set_option maxHeartbeats 4000000 in
set_option maxRecDepth 100000 in
theorem kX9_rust (l : Launch) (D : va_G) (cA : Nat → ClassId) (r : Nat → Nat) (sz : Nat) (u : Nat → Int32) (a : Nat → Nat → Int32) (th : Nat → Option Nat) (LP : List Nat) (tf : Nat → va_E) (tO : Nat) (g : Nat → Nat) (T : Nat → Nat → Nat) (R : Nat → Nat → Nat) (so : Nat → Int32) (ln : Nat → Nat) (ce : Nat → Nat → Int32) (f tr : Int32) (x : Int32) (hI : CI u a th LP tf g T R so ln ce f tr) : Met l yX9_rust wsX9_rust ({ frames := 5, cells := 0, slots := 0, locals := 113 } : Room) (va_Pc [.ref (r 0), .int x] (wA D vwCl (tyA cA) (eO tO) (xN cA r) (u, a, th, LP, tf) sz)) (va_Qi (fun (v : Int32) (z : sN) => v = aRust g x ∧ CI z.1 z.2.1 z.2.2.1 z.2.2.2.1 z.2.2.2.2 (gRust g x) T R so ln ce f tr) (wB D vwCl (tyA cA) (xN cA r) (va_A (xN cA r (u, a, th, LP, tf)) sz)) (va_A (xN cA r (u, a, th, LP, tf)) sz)) 0 0 (va_A (xN cA r (u, a, th, LP, tf)) sz) := by
  refine Met.ofW (cc := cX9_rust) (maxL := 3) (ret := (some .int)) (by decide) rfl ?_
  intro p e s m args below meth c s₁ B hml hv
  obtain ⟨rfl, hsz, hP, hK, hD0, hE⟩ := hv
  have hx := B.exec
  have hb := B.bytes
  have hr := B.returns
  have hts := atoms_spec (ws := wsX9_rust) B.pre
  have hown : s.vm.findClass RX9 = some m.cls := findClass_of_methodNamed B.named
  have hlocks := B.notSynchronized
  subst hsz
  have hD := hD0.self (sz := s.heap.size)
  generalize hAe : va_A (xN cA r (u, a, th, LP, tf)) s.heap.size = A at hD hE ⊢
  have hA : ∀ q : Nat, s.heap.size ≤ q → A q := fun q h => by rw [← hAe]; exact Or.inr h
  have hS : va_S A s.heap s.heap [] := va_S.rf
  have hinX5 : ∀ w ∈ u_ws RX5 TX5 8, w ∈ wsX9_rust := by decide +kernel
  have hinX9 : ∀ w ∈ u_ws RX9 TX9 8, w ∈ wsX9_rust := by decide +kernel
  have hl := lv_entry ([.ref (r 0), .int x]) (n := 3) (Nat.le_of_ble_eq_true rfl)
  rw [lg_entry_eq]
  generalize (lg_sl ([.ref (r 0), .int x]) ++ List.replicate (3 - (lg_sl ([.ref (r 0), .int x])).length) Slot.unset).toArray = ls at hl ⊢
  have hl : lv_has ls 3 [(0, .ref (r 0)), (1, .int x)] := hl
  have hM := hI.1
  have hB := hI.2.1
  have hg6 := hB.1
  have hsm := hI.2.2.1
  have hrs := hI.2.2.2.1
  have hRd := hI.2.2.2.2.1
  have hSh := hI.2.2.2.2.2.1
  have hf0 := hI.2.2.2.2.2.2.1
  have htr := hI.2.2.2.2.2.2.2.1
  have hPo := hI.2.2.2.2.2.2.2.2
  refine lv_iload_n hx hb dX9_rust_0 rfl (lv_at hl 1 rfl) ?_
  refine lv_if_lt (tgt := 10) hx hb dX9_rust_1 (by decide) (fun c_1 => ?_) (fun c_1 => ?_)
  · refine lv_bipush (v := (-2)) hx hb dX9_rust_10 (by decide) ?_
    exact wIret hx hb hr hlocks (v := (-2)) (u, a, th, LP, tf) (⟨by unfold aRust; rw [cif_neg (ir_lo (lo := 0) c_1)], by unfold gRust; rw [cif_neg (ir_lo (lo := 0) c_1)]; exact hI⟩) hK hP hD hS dX9_rust_12
  · refine lv_iload_n hx hb dX9_rust_4 rfl (lv_at hl 1 rfl) ?_
    refine lv_bipush (v := (nI 50)) hx hb dX9_rust_5 rfl ?_
    refine lv_icmp_le (tgt := 13) hx hb dX9_rust_7 (by decide) (fun c_2 => ?_) (fun c_2 => ?_)
    · have hin : inR x 0 50 := ⟨Int32.not_lt.mp c_1, c_2⟩
      obtain ⟨j, hj1, hj2, hj3, hj4⟩ := inR_of hin (by decide) (by decide)
      have hl : lv_has ls 3 [(0, .ref (r 0)), (1, .int (nI j))] := lv_re hl 1 ⟨rfl, rfl⟩ (hj1)
      refine lv_aload_n hx hb dX9_rust_13 rfl (lv_at hl 0 rfl) ?_
      refine va_get (D := D) (ci := 9) (v := .ref (r 1)) (C := RX9) (T := TX9) (N := 8) hx hb hts hinX9 hown hK hP 0 rfl rfl 0 (by decide) (hts (.fieldLink RX9 12 "OneNail" "town" "LOneNail$Street;") (by decide +kernel)) (fun _ h9 => h9) rfl dX9_rust_14 ?_
      refine va_get (D := D) (ci := 5) (v := .int (nI (g 0))) (C := RX5) (T := TX5) (N := 8) hx hb hts hinX5 hown hK hP 1 rfl rfl 0 (by decide) (hts (.fieldLink RX9 83 "OneNail$Street" "count" "I") (by decide +kernel)) (fun _ h9 => h9) (congrArg (fun z => some (Value.int z)) (hM.1)) dX9_rust_17 ?_
      refine rz_ne (x := g 0) (tgt := 26) hx hb (by omega) dX9_rust_20 (by decide) (fun c_3 => ?_) (fun c_3 => ?_)
      · refine lv_aload_n hx hb dX9_rust_26 rfl (lv_at hl 0 rfl) ?_
        refine va_get (D := D) (ci := 9) (v := .ref (r 1)) (C := RX9) (T := TX9) (N := 8) hx hb hts hinX9 hown hK hP 0 rfl rfl 0 (by decide) (hts (.fieldLink RX9 12 "OneNail" "town" "LOneNail$Street;") (by decide +kernel)) (fun _ h9 => h9) rfl dX9_rust_27 ?_
        refine va_get (D := D) (ci := 5) (v := .int (nI (g 2))) (C := RX5) (T := TX5) (N := 8) hx hb hts hinX5 hown hK hP 1 rfl rfl 2 (by decide) (hts (.fieldLink RX9 108 "OneNail$Street" "rusted" "I") (by decide +kernel)) (fun _ h9 => h9) (congrArg (fun z => some (Value.int z)) (hrs)) dX9_rust_30 ?_
        refine lv_istore_n (lv' := [(2, .int (nI (g 2))), (0, .ref (r 0)), (1, .int (nI j))]) hx hb dX9_rust_33 rfl hl (by decide) rfl (fun ls hl => ?_)
        refine lv_aload_n hx hb dX9_rust_34 rfl (lv_at hl 1 rfl) ?_
        refine va_get (D := D) (ci := 9) (v := .ref (r 1)) (C := RX9) (T := TX9) (N := 8) hx hb hts hinX9 hown hK hP 0 rfl rfl 0 (by decide) (hts (.fieldLink RX9 12 "OneNail" "town" "LOneNail$Street;") (by decide +kernel)) (fun _ h9 => h9) rfl dX9_rust_35 ?_
        refine lv_iload_n hx hb dX9_rust_38 rfl (lv_at hl 2 rfl) ?_
        refine wVv (eO_S tO) (As := [.int (nI j)]) (rest := []) ⟨hx, hb, hml, hown, hts⟩ (kX5_becomeRusty l D cA r _ u a th LP tf tO g T j (hM.1) hB hPo (by omega)) (cwV 1 hts gX9_rust_X5_becomeRusty rfl rfl rfl (by decide +kernel) ⟨Nat.le_of_ble_eq_true rfl, Nat.le_of_ble_eq_true rfl⟩) (va_recv hK hP (ci := 5) (q0 := 1) rfl rfl) hK hP hD hS hA hE rfl hl.1 rfl (Nat.le_of_ble_eq_true rfl) dX9_rust_39 ⟨Nat.zero_le _, Nat.zero_le _⟩ (fun z_6 H locs hw_5 hP hD hS => ?_)
        obtain ⟨zu7, za8, zq9⟩ := z_6
        obtain ⟨h3_zu7, hho_zu7, hfu_zu7, hfa_zu7, hzq_zu7⟩ := hw_5
        have hzq_zu7 : zq9 = (th, LP, tf) := hzq_zu7
        subst hzq_zu7
        have h3_zu7 : zu7 3 = nI j := h3_zu7
        have hho_zu7 : ∀ x, x < g 0 → za8 16 x = nI (hd (gu g 2 j) T x) := hho_zu7
        have hfu_zu7 : ∀ i, i ≠ 3 → zu7 i = u i := hfu_zu7
        have hfa_zu7 : ∀ i, i ≠ 16 → za8 i = a i := hfa_zu7
        have hP : va_P D vwCl (xN cA r (zu7, za8, th, LP, tf)) H := hP
        have hD : va_D A (xN cA r (zu7, za8, th, LP, tf)) := hD
        refine lv_iload_n hx hb dX9_rust_42 rfl (lv_at hl 0 rfl) ?_
        exact wIret hx hb hr hlocks (v := (nI (g 2))) (zu7, za8, th, LP, tf) (⟨by unfold aRust; rw [cif_pos hin, cif_neg (by omega)], by unfold gRust; rw [cif_pos hin, cif_neg (by omega), hj4]; exact ⟨NT_rust hM (hfu_zu7 1 (by decide)) (hfa_zu7 13 (by decide)) (hfa_zu7 14 (by decide)) (hfa_zu7 15 (by decide)) hho_zu7, TB_gu2 hB (by omega), (hfu_zu7 2 (by decide)).trans hsm, h3_zu7, RdN.keep hRd (hfu_zu7 4 (by decide)) (hfa_zu7 17 (by decide)) (hfa_zu7 18 (by decide)) (hfa_zu7 19 (by decide)), ShN.keep hSh (fun i hi => hfu_zu7 i (by omega)) (fun i hi => hfa_zu7 i (by omega)), (hfu_zu7 0 (by decide)).trans hf0, (hfu_zu7 13 (by decide)).trans htr, hPo⟩⟩) hK hP hD hS dX9_rust_43
      · refine lv_bipush (v := (-3)) hx hb dX9_rust_23 (by decide) ?_
        exact wIret hx hb hr hlocks (v := (-3)) (u, a, th, LP, tf) (⟨by unfold aRust; rw [cif_pos hin, cif_pos (by omega)], by unfold gRust; rw [cif_pos hin, cif_pos (by omega)]; exact hI⟩) hK hP hD hS dX9_rust_25
    · refine lv_bipush (v := (-2)) hx hb dX9_rust_10 (by decide) ?_
      exact wIret hx hb hr hlocks (v := (-2)) (u, a, th, LP, tf) (⟨by unfold aRust; rw [cif_neg (fun q => c_2 q.2)], by unfold gRust; rw [cif_neg (fun q => c_2 q.2)]; exact hI⟩) hK hP hD hS dX9_rust_12
