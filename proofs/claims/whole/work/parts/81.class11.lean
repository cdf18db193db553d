theorem mm_row : ∀ n, n ≤ 60 → (if nI 0 < (if nI 60 < nI n then nI 60 else nI n) then (if nI 60 < nI n then nI 60 else nI n) else nI 0) = nI n := by decide +kernel
theorem mi_row : ∀ n, n ≤ 8 → (if nI 8 < nI n then nI 8 else nI n) = nI n := by decide +kernel
def SP (Ln : Nat) (i n : Int32) : Prop := ¬ n < 0 ∧ ¬ i < 0 ∧ ¬ nI Ln < i ∧ ¬ nI Ln - i < n
theorem sl_no {s x : Int32} (h : s = -9 ∨ isL s) (e : x = if s = -9 then -1 else s) : x = -1 ↔ s = -9 := by
  rw [e]
  rcases h with rfl | rfl | rfl | rfl <;> decide
theorem ag_1 {s l la i n : Int32} (h : s = -9) : ag s l la i n = nI 1 := by unfold ag; rw [if_neg (fun q => q.1 h), if_pos h]
theorem ag_2 {s l la i n : Int32} (h : ¬ s = -9) (h2 : ¬ s = la) : ag s l la i n = nI 2 := by unfold ag; rw [if_pos ⟨h, h2⟩]
theorem ag_4 {s l la i n : Int32} (h : ¬ s = -9) (h2 : s = la) (h3 : n < 0) : ag s l la i n = nI 4 := by unfold ag; rw [if_neg (fun q => q.2 h2), if_neg h, if_pos h3]
theorem ag_3 {s l la i n : Int32} (h : ¬ s = -9) (h2 : s = la) (h3 : ¬ n < 0) (h4 : i < 0 ∨ l < i ∨ l - i < n) : ag s l la i n = nI 3 := by unfold ag; rw [if_neg (fun q => q.2 h2), if_neg h, if_neg h3, if_pos h4]
theorem ag_0 {s l la i n : Int32} (h : ¬ s = -9) (h2 : s = la) (h3 : ¬ n < 0) (h4 : ¬ (i < 0 ∨ l < i ∨ l - i < n)) : ag s l la i n = nI 0 := by unfold ag; rw [if_neg (fun q => q.2 h2), if_neg h, if_neg h3, if_neg h4]
theorem sp_yes {Ln : Nat} {i n : Int32} (h : SP Ln i n) : ¬ (i < 0 ∨ nI Ln < i ∨ nI Ln - i < n) := fun q => q.elim h.2.1 (fun q => q.elim h.2.2.1 h.2.2.2)
theorem sp_no {Ln : Nat} {i n : Int32} (h0 : ¬ n < 0) (h : ¬ SP Ln i n) : i < 0 ∨ nI Ln < i ∨ nI Ln - i < n := by
  by_cases q1 : i < 0
  · exact Or.inl q1
  · by_cases q2 : nI Ln < i
    · exact Or.inr (Or.inl q2)
    · by_cases q3 : nI Ln - i < n
      · exact Or.inr (Or.inr q3)
      · exact absurd ⟨h0, q1, q2, q3⟩ h
noncomputable def rcA (x : Int32) : Int32 := cif (x = 0) (nI 0) ((-10) - x)
theorem rcA_0 : nI 0 = rcA (nI 0) := by unfold rcA; rw [cif_pos (by decide)]
theorem rcA_1 : (-10) - nI 1 = rcA (nI 1) := by unfold rcA; rw [cif_neg (by decide)]
theorem rcA_2 : (-10) - nI 2 = rcA (nI 2) := by unfold rcA; rw [cif_neg (by decide)]
theorem rcA_3 : (-10) - nI 3 = rcA (nI 3) := by unfold rcA; rw [cif_neg (by decide)]
theorem rcA_4 : (-10) - nI 4 = rcA (nI 4) := by unfold rcA; rw [cif_neg (by decide)]
set_option maxHeartbeats 4000000 in
set_option maxRecDepth 100000 in
theorem kX4_isNothing_q0 (l : Launch) (D : va_G) (cA : Nat → ClassId) (r : Nat → Nat) (sz : Nat) (u : Nat → Int32) (a : Nat → Nat → Int32) (th : Nat → Option Nat) (LP : List Nat) (tf : Nat → va_E) (tO : Nat)   : Met l yX4_isNothing wsX4_isNothing ({ frames := 0, cells := 0, slots := 0, locals := 0 } : Room) (va_Pc [.ref (r 6)] (wA D vwCl (tyA cA) (eO tO) (xN cA r) (u, a, th, LP, tf) sz)) (va_Qi (fun (v : Int32) (z : sN) => z = (u, a, th, LP, tf) ∧ ((v = nI 1 ∧ u 14 = (-1)) ∨ (v = nI 0 ∧ ¬ u 14 = (-1)))) (wB D vwCl (tyA cA) (xN cA r) (va_A (xN cA r (u, a, th, LP, tf)) sz)) (va_A (xN cA r (u, a, th, LP, tf)) sz)) 0 0 (va_A (xN cA r (u, a, th, LP, tf)) sz) := by
  refine Met.ofW (cc := cX4_isNothing) (maxL := 1) (ret := (some .boolean)) (by decide) rfl ?_
  intro p e s m args below meth c s₁ B hml hv
  obtain ⟨rfl, hsz, hP, hK, hD0, hE⟩ := hv
  have hx := B.exec
  have hb := B.bytes
  have hr := B.returns
  have hts := atoms_spec (ws := wsX4_isNothing) B.pre
  have hown : s.vm.findClass RX4 = some m.cls := findClass_of_methodNamed B.named
  have hlocks := B.notSynchronized
  subst hsz
  have hD := hD0.self (sz := s.heap.size)
  generalize hAe : va_A (xN cA r (u, a, th, LP, tf)) s.heap.size = A at hD hE ⊢
  have hA : ∀ q : Nat, s.heap.size ≤ q → A q := fun q h => by rw [← hAe]; exact Or.inr h
  have hS : va_S A s.heap s.heap [] := va_S.rf
  have hinX4 : ∀ w ∈ u_ws RX4 TX4 3, w ∈ wsX4_isNothing := by decide +kernel
  have hl := lv_entry ([.ref (r 6)]) (n := 1) (Nat.le_of_ble_eq_true rfl)
  rw [lg_entry_eq]
  generalize (lg_sl ([.ref (r 6)]) ++ List.replicate (1 - (lg_sl ([.ref (r 6)])).length) Slot.unset).toArray = ls at hl ⊢
  have hl : lv_has ls 1 [(0, .ref (r 6))] := hl
  refine lv_aload_n hx hb dX4_isNothing_0 rfl (lv_at hl 0 rfl) ?_
  refine va_get (D := D) (ci := 4) (v := .int (u 14)) (C := RX4) (T := TX4) (N := 3) hx hb hts hinX4 hown hK hP 6 rfl rfl 0 (by decide) (hts (.fieldLink RX4 11 "OneNail$Sheet" "lane" "I") (by decide +kernel)) (fun _ h9 => h9) rfl dX4_isNothing_1 ?_
  refine lv_iconst (v := (-1)) hx hb dX4_isNothing_4 (by decide) ?_
  refine lv_icmp_ne (tgt := 12) hx hb dX4_isNothing_5 (by decide) (fun c_1 => ?_) (fun c_1 => ?_)
  · refine lv_iconst (v := (nI 0)) hx hb dX4_isNothing_12 rfl ?_
    exact wZret hx hb hr hlocks (v := (nI 0)) (by first | exact Or.inl rfl | exact Or.inr rfl) (u, a, th, LP, tf) (⟨rfl, by first | exact Or.inl ⟨rfl, by assumption⟩ | exact Or.inr ⟨rfl, by assumption⟩⟩) hK hP hD hS dX4_isNothing_13
  · refine lv_iconst (v := (nI 1)) hx hb dX4_isNothing_8 rfl ?_
    refine lv_goto (tgt := 13) hx hb dX4_isNothing_9 (by decide) ?_
    exact wZret hx hb hr hlocks (v := (nI 1)) (by first | exact Or.inl rfl | exact Or.inr rfl) (u, a, th, LP, tf) (⟨rfl, by first | exact Or.inl ⟨rfl, by assumption⟩ | exact Or.inr ⟨rfl, by assumption⟩⟩) hK hP hD hS dX4_isNothing_13

set_option maxHeartbeats 4000000 in
set_option maxRecDepth 100000 in
theorem kX4_isNothing_q1 (l : Launch) (D : va_G) (cA : Nat → ClassId) (r : Nat → Nat) (sz : Nat) (u : Nat → Int32) (a : Nat → Nat → Int32) (th : Nat → Option Nat) (LP : List Nat) (tf : Nat → va_E) (tO : Nat)   : Met l yX4_isNothing wsX4_isNothing ({ frames := 0, cells := 0, slots := 0, locals := 0 } : Room) (va_Pc [.ref (r 7)] (wA D vwCl (tyA cA) (eO tO) (xN cA r) (u, a, th, LP, tf) sz)) (va_Qi (fun (v : Int32) (z : sN) => z = (u, a, th, LP, tf) ∧ ((v = nI 1 ∧ u 15 = (-1)) ∨ (v = nI 0 ∧ ¬ u 15 = (-1)))) (wB D vwCl (tyA cA) (xN cA r) (va_A (xN cA r (u, a, th, LP, tf)) sz)) (va_A (xN cA r (u, a, th, LP, tf)) sz)) 0 0 (va_A (xN cA r (u, a, th, LP, tf)) sz) := by
  refine Met.ofW (cc := cX4_isNothing) (maxL := 1) (ret := (some .boolean)) (by decide) rfl ?_
  intro p e s m args below meth c s₁ B hml hv
  obtain ⟨rfl, hsz, hP, hK, hD0, hE⟩ := hv
  have hx := B.exec
  have hb := B.bytes
  have hr := B.returns
  have hts := atoms_spec (ws := wsX4_isNothing) B.pre
  have hown : s.vm.findClass RX4 = some m.cls := findClass_of_methodNamed B.named
  have hlocks := B.notSynchronized
  subst hsz
  have hD := hD0.self (sz := s.heap.size)
  generalize hAe : va_A (xN cA r (u, a, th, LP, tf)) s.heap.size = A at hD hE ⊢
  have hA : ∀ q : Nat, s.heap.size ≤ q → A q := fun q h => by rw [← hAe]; exact Or.inr h
  have hS : va_S A s.heap s.heap [] := va_S.rf
  have hinX4 : ∀ w ∈ u_ws RX4 TX4 3, w ∈ wsX4_isNothing := by decide +kernel
  have hl := lv_entry ([.ref (r 7)]) (n := 1) (Nat.le_of_ble_eq_true rfl)
  rw [lg_entry_eq]
  generalize (lg_sl ([.ref (r 7)]) ++ List.replicate (1 - (lg_sl ([.ref (r 7)])).length) Slot.unset).toArray = ls at hl ⊢
  have hl : lv_has ls 1 [(0, .ref (r 7))] := hl
  refine lv_aload_n hx hb dX4_isNothing_0 rfl (lv_at hl 0 rfl) ?_
  refine va_get (D := D) (ci := 4) (v := .int (u 15)) (C := RX4) (T := TX4) (N := 3) hx hb hts hinX4 hown hK hP 7 rfl rfl 0 (by decide) (hts (.fieldLink RX4 11 "OneNail$Sheet" "lane" "I") (by decide +kernel)) (fun _ h9 => h9) rfl dX4_isNothing_1 ?_
  refine lv_iconst (v := (-1)) hx hb dX4_isNothing_4 (by decide) ?_
  refine lv_icmp_ne (tgt := 12) hx hb dX4_isNothing_5 (by decide) (fun c_1 => ?_) (fun c_1 => ?_)
  · refine lv_iconst (v := (nI 0)) hx hb dX4_isNothing_12 rfl ?_
    exact wZret hx hb hr hlocks (v := (nI 0)) (by first | exact Or.inl rfl | exact Or.inr rfl) (u, a, th, LP, tf) (⟨rfl, by first | exact Or.inl ⟨rfl, by assumption⟩ | exact Or.inr ⟨rfl, by assumption⟩⟩) hK hP hD hS dX4_isNothing_13
  · refine lv_iconst (v := (nI 1)) hx hb dX4_isNothing_8 rfl ?_
    refine lv_goto (tgt := 13) hx hb dX4_isNothing_9 (by decide) ?_
    exact wZret hx hb hr hlocks (v := (nI 1)) (by first | exact Or.inl rfl | exact Or.inr rfl) (u, a, th, LP, tf) (⟨rfl, by first | exact Or.inl ⟨rfl, by assumption⟩ | exact Or.inr ⟨rfl, by assumption⟩⟩) hK hP hD hS dX4_isNothing_13

set_option maxHeartbeats 4000000 in
set_option maxRecDepth 100000 in
theorem kX4_isNothing_q2 (l : Launch) (D : va_G) (cA : Nat → ClassId) (r : Nat → Nat) (sz : Nat) (u : Nat → Int32) (a : Nat → Nat → Int32) (th : Nat → Option Nat) (LP : List Nat) (tf : Nat → va_E) (tO : Nat)   : Met l yX4_isNothing wsX4_isNothing ({ frames := 0, cells := 0, slots := 0, locals := 0 } : Room) (va_Pc [.ref (r 8)] (wA D vwCl (tyA cA) (eO tO) (xN cA r) (u, a, th, LP, tf) sz)) (va_Qi (fun (v : Int32) (z : sN) => z = (u, a, th, LP, tf) ∧ ((v = nI 1 ∧ u 16 = (-1)) ∨ (v = nI 0 ∧ ¬ u 16 = (-1)))) (wB D vwCl (tyA cA) (xN cA r) (va_A (xN cA r (u, a, th, LP, tf)) sz)) (va_A (xN cA r (u, a, th, LP, tf)) sz)) 0 0 (va_A (xN cA r (u, a, th, LP, tf)) sz) := by
  refine Met.ofW (cc := cX4_isNothing) (maxL := 1) (ret := (some .boolean)) (by decide) rfl ?_
  intro p e s m args below meth c s₁ B hml hv
  obtain ⟨rfl, hsz, hP, hK, hD0, hE⟩ := hv
  have hx := B.exec
  have hb := B.bytes
  have hr := B.returns
  have hts := atoms_spec (ws := wsX4_isNothing) B.pre
  have hown : s.vm.findClass RX4 = some m.cls := findClass_of_methodNamed B.named
  have hlocks := B.notSynchronized
  subst hsz
  have hD := hD0.self (sz := s.heap.size)
  generalize hAe : va_A (xN cA r (u, a, th, LP, tf)) s.heap.size = A at hD hE ⊢
  have hA : ∀ q : Nat, s.heap.size ≤ q → A q := fun q h => by rw [← hAe]; exact Or.inr h
  have hS : va_S A s.heap s.heap [] := va_S.rf
  have hinX4 : ∀ w ∈ u_ws RX4 TX4 3, w ∈ wsX4_isNothing := by decide +kernel
  have hl := lv_entry ([.ref (r 8)]) (n := 1) (Nat.le_of_ble_eq_true rfl)
  rw [lg_entry_eq]
  generalize (lg_sl ([.ref (r 8)]) ++ List.replicate (1 - (lg_sl ([.ref (r 8)])).length) Slot.unset).toArray = ls at hl ⊢
  have hl : lv_has ls 1 [(0, .ref (r 8))] := hl
  refine lv_aload_n hx hb dX4_isNothing_0 rfl (lv_at hl 0 rfl) ?_
  refine va_get (D := D) (ci := 4) (v := .int (u 16)) (C := RX4) (T := TX4) (N := 3) hx hb hts hinX4 hown hK hP 8 rfl rfl 0 (by decide) (hts (.fieldLink RX4 11 "OneNail$Sheet" "lane" "I") (by decide +kernel)) (fun _ h9 => h9) rfl dX4_isNothing_1 ?_
  refine lv_iconst (v := (-1)) hx hb dX4_isNothing_4 (by decide) ?_
  refine lv_icmp_ne (tgt := 12) hx hb dX4_isNothing_5 (by decide) (fun c_1 => ?_) (fun c_1 => ?_)
  · refine lv_iconst (v := (nI 0)) hx hb dX4_isNothing_12 rfl ?_
    exact wZret hx hb hr hlocks (v := (nI 0)) (by first | exact Or.inl rfl | exact Or.inr rfl) (u, a, th, LP, tf) (⟨rfl, by first | exact Or.inl ⟨rfl, by assumption⟩ | exact Or.inr ⟨rfl, by assumption⟩⟩) hK hP hD hS dX4_isNothing_13
  · refine lv_iconst (v := (nI 1)) hx hb dX4_isNothing_8 rfl ?_
    refine lv_goto (tgt := 13) hx hb dX4_isNothing_9 (by decide) ?_
    exact wZret hx hb hr hlocks (v := (nI 1)) (by first | exact Or.inl rfl | exact Or.inr rfl) (u, a, th, LP, tf) (⟨rfl, by first | exact Or.inl ⟨rfl, by assumption⟩ | exact Or.inr ⟨rfl, by assumption⟩⟩) hK hP hD hS dX4_isNothing_13

set_option maxHeartbeats 4000000 in
set_option maxRecDepth 100000 in
theorem kX4_isNothing_q3 (l : Launch) (D : va_G) (cA : Nat → ClassId) (r : Nat → Nat) (sz : Nat) (u : Nat → Int32) (a : Nat → Nat → Int32) (th : Nat → Option Nat) (LP : List Nat) (tf : Nat → va_E) (tO : Nat)   : Met l yX4_isNothing wsX4_isNothing ({ frames := 0, cells := 0, slots := 0, locals := 0 } : Room) (va_Pc [.ref (r 9)] (wA D vwCl (tyA cA) (eO tO) (xN cA r) (u, a, th, LP, tf) sz)) (va_Qi (fun (v : Int32) (z : sN) => z = (u, a, th, LP, tf) ∧ ((v = nI 1 ∧ u 17 = (-1)) ∨ (v = nI 0 ∧ ¬ u 17 = (-1)))) (wB D vwCl (tyA cA) (xN cA r) (va_A (xN cA r (u, a, th, LP, tf)) sz)) (va_A (xN cA r (u, a, th, LP, tf)) sz)) 0 0 (va_A (xN cA r (u, a, th, LP, tf)) sz) := by
  refine Met.ofW (cc := cX4_isNothing) (maxL := 1) (ret := (some .boolean)) (by decide) rfl ?_
  intro p e s m args below meth c s₁ B hml hv
  obtain ⟨rfl, hsz, hP, hK, hD0, hE⟩ := hv
  have hx := B.exec
  have hb := B.bytes
  have hr := B.returns
  have hts := atoms_spec (ws := wsX4_isNothing) B.pre
  have hown : s.vm.findClass RX4 = some m.cls := findClass_of_methodNamed B.named
  have hlocks := B.notSynchronized
  subst hsz
  have hD := hD0.self (sz := s.heap.size)
  generalize hAe : va_A (xN cA r (u, a, th, LP, tf)) s.heap.size = A at hD hE ⊢
  have hA : ∀ q : Nat, s.heap.size ≤ q → A q := fun q h => by rw [← hAe]; exact Or.inr h
  have hS : va_S A s.heap s.heap [] := va_S.rf
  have hinX4 : ∀ w ∈ u_ws RX4 TX4 3, w ∈ wsX4_isNothing := by decide +kernel
  have hl := lv_entry ([.ref (r 9)]) (n := 1) (Nat.le_of_ble_eq_true rfl)
  rw [lg_entry_eq]
  generalize (lg_sl ([.ref (r 9)]) ++ List.replicate (1 - (lg_sl ([.ref (r 9)])).length) Slot.unset).toArray = ls at hl ⊢
  have hl : lv_has ls 1 [(0, .ref (r 9))] := hl
  refine lv_aload_n hx hb dX4_isNothing_0 rfl (lv_at hl 0 rfl) ?_
  refine va_get (D := D) (ci := 4) (v := .int (u 17)) (C := RX4) (T := TX4) (N := 3) hx hb hts hinX4 hown hK hP 9 rfl rfl 0 (by decide) (hts (.fieldLink RX4 11 "OneNail$Sheet" "lane" "I") (by decide +kernel)) (fun _ h9 => h9) rfl dX4_isNothing_1 ?_
  refine lv_iconst (v := (-1)) hx hb dX4_isNothing_4 (by decide) ?_
  refine lv_icmp_ne (tgt := 12) hx hb dX4_isNothing_5 (by decide) (fun c_1 => ?_) (fun c_1 => ?_)
  · refine lv_iconst (v := (nI 0)) hx hb dX4_isNothing_12 rfl ?_
    exact wZret hx hb hr hlocks (v := (nI 0)) (by first | exact Or.inl rfl | exact Or.inr rfl) (u, a, th, LP, tf) (⟨rfl, by first | exact Or.inl ⟨rfl, by assumption⟩ | exact Or.inr ⟨rfl, by assumption⟩⟩) hK hP hD hS dX4_isNothing_13
  · refine lv_iconst (v := (nI 1)) hx hb dX4_isNothing_8 rfl ?_
    refine lv_goto (tgt := 13) hx hb dX4_isNothing_9 (by decide) ?_
    exact wZret hx hb hr hlocks (v := (nI 1)) (by first | exact Or.inl rfl | exact Or.inr rfl) (u, a, th, LP, tf) (⟨rfl, by first | exact Or.inl ⟨rfl, by assumption⟩ | exact Or.inr ⟨rfl, by assumption⟩⟩) hK hP hD hS dX4_isNothing_13

set_option maxHeartbeats 4000000 in
set_option maxRecDepth 100000 in
theorem kX4_isNothing (l : Launch) (D : va_G) (cA : Nat → ClassId) (r : Nat → Nat) (sz : Nat) (u : Nat → Int32) (a : Nat → Nat → Int32) (th : Nat → Option Nat) (LP : List Nat) (tf : Nat → va_E) (tO : Nat) (k9 : Nat)  (hk9 : k9 < 4)  : Met l yX4_isNothing wsX4_isNothing ({ frames := 0, cells := 0, slots := 0, locals := 0 } : Room) (va_Pc [.ref (r (6 + k9))] (wA D vwCl (tyA cA) (eO tO) (xN cA r) (u, a, th, LP, tf) sz)) (va_Qi (fun (v : Int32) (z : sN) => z = (u, a, th, LP, tf) ∧ ((v = nI 1 ∧ u (14 + k9) = (-1)) ∨ (v = nI 0 ∧ ¬ u (14 + k9) = (-1)))) (wB D vwCl (tyA cA) (xN cA r) (va_A (xN cA r (u, a, th, LP, tf)) sz)) (va_A (xN cA r (u, a, th, LP, tf)) sz)) 0 0 (va_A (xN cA r (u, a, th, LP, tf)) sz) := by
  rcases (show k9 = 0 ∨ k9 = 1 ∨ k9 = 2 ∨ k9 = 3 by omega) with rfl | rfl | rfl | rfl
  · exact kX4_isNothing_q0 l D cA r sz u a th LP tf tO 
  · exact kX4_isNothing_q1 l D cA r sz u a th LP tf tO 
  · exact kX4_isNothing_q2 l D cA r sz u a th LP tf tO 
  · exact kX4_isNothing_q3 l D cA r sz u a th LP tf tO 

set_option maxHeartbeats 4000000 in
set_option maxRecDepth 100000 in
theorem kX4_hasCell_q0 (l : Launch) (D : va_G) (cA : Nat → ClassId) (r : Nat → Nat) (sz : Nat) (u : Nat → Int32) (a : Nat → Nat → Int32) (th : Nat → Option Nat) (LP : List Nat) (tf : Nat → va_E) (tO : Nat) (Ln : Nat) (x : Int32) (hln : u 18 = nI Ln) (hl60 : Ln ≤ 60) : Met l yX4_hasCell wsX4_hasCell ({ frames := 0, cells := 0, slots := 0, locals := 0 } : Room) (va_Pc [.ref (r 6), .int x] (wA D vwCl (tyA cA) (eO tO) (xN cA r) (u, a, th, LP, tf) sz)) (va_Qi (fun (v : Int32) (z : sN) => z = (u, a, th, LP, tf) ∧ ((v = nI 1 ∧ isT Ln x) ∨ (v = nI 0 ∧ ¬ isT Ln x))) (wB D vwCl (tyA cA) (xN cA r) (va_A (xN cA r (u, a, th, LP, tf)) sz)) (va_A (xN cA r (u, a, th, LP, tf)) sz)) 0 0 (va_A (xN cA r (u, a, th, LP, tf)) sz) := by
  refine Met.ofW (cc := cX4_hasCell) (maxL := 2) (ret := (some .boolean)) (by decide) rfl ?_
  intro p e s m args below meth c s₁ B hml hv
  obtain ⟨rfl, hsz, hP, hK, hD0, hE⟩ := hv
  have hx := B.exec
  have hb := B.bytes
  have hr := B.returns
  have hts := atoms_spec (ws := wsX4_hasCell) B.pre
  have hown : s.vm.findClass RX4 = some m.cls := findClass_of_methodNamed B.named
  have hlocks := B.notSynchronized
  subst hsz
  have hD := hD0.self (sz := s.heap.size)
  generalize hAe : va_A (xN cA r (u, a, th, LP, tf)) s.heap.size = A at hD hE ⊢
  have hA : ∀ q : Nat, s.heap.size ≤ q → A q := fun q h => by rw [← hAe]; exact Or.inr h
  have hS : va_S A s.heap s.heap [] := va_S.rf
  have hinX4 : ∀ w ∈ u_ws RX4 TX4 3, w ∈ wsX4_hasCell := by decide +kernel
  have hl := lv_entry ([.ref (r 6), .int x]) (n := 2) (Nat.le_of_ble_eq_true rfl)
  rw [lg_entry_eq]
  generalize (lg_sl ([.ref (r 6), .int x]) ++ List.replicate (2 - (lg_sl ([.ref (r 6), .int x])).length) Slot.unset).toArray = ls at hl ⊢
  have hl : lv_has ls 2 [(0, .ref (r 6)), (1, .int x)] := hl
  refine lv_iload_n hx hb dX4_hasCell_0 rfl (lv_at hl 1 rfl) ?_
  refine lv_if_lt (tgt := 16) hx hb dX4_hasCell_1 (by decide) (fun c_1 => ?_) (fun c_1 => ?_)
  · refine lv_iconst (v := (nI 0)) hx hb dX4_hasCell_16 rfl ?_
    exact wZret hx hb hr hlocks (v := (nI 0)) (by first | exact Or.inl rfl | exact Or.inr rfl) (u, a, th, LP, tf) (⟨rfl, by first | exact Or.inl ⟨rfl, th_in (by omega) (by assumption) (by assumption)⟩ | exact Or.inr ⟨rfl, th_out1 (by omega) (by assumption)⟩ | exact Or.inr ⟨rfl, th_out2 (by omega) (by assumption)⟩⟩) hK hP hD hS dX4_hasCell_17
  · refine lv_iload_n hx hb dX4_hasCell_4 rfl (lv_at hl 1 rfl) ?_
    refine lv_aload_n hx hb dX4_hasCell_5 rfl (lv_at hl 0 rfl) ?_
    refine va_get (D := D) (ci := 4) (v := .int (nI Ln)) (C := RX4) (T := TX4) (N := 3) hx hb hts hinX4 hown hK hP 6 rfl rfl 1 (by decide) (hts (.fieldLink RX4 15 "OneNail$Sheet" "length" "I") (by decide +kernel)) (fun _ h9 => h9) (congrArg (fun z => some (Value.int z)) (hln)) dX4_hasCell_6 ?_
    refine lv_icmp_ge (tgt := 16) hx hb dX4_hasCell_9 (by decide) (fun c_2 => ?_) (fun c_2 => ?_)
    · refine lv_iconst (v := (nI 0)) hx hb dX4_hasCell_16 rfl ?_
      exact wZret hx hb hr hlocks (v := (nI 0)) (by first | exact Or.inl rfl | exact Or.inr rfl) (u, a, th, LP, tf) (⟨rfl, by first | exact Or.inl ⟨rfl, th_in (by omega) (by assumption) (by assumption)⟩ | exact Or.inr ⟨rfl, th_out1 (by omega) (by assumption)⟩ | exact Or.inr ⟨rfl, th_out2 (by omega) (by assumption)⟩⟩) hK hP hD hS dX4_hasCell_17
    · refine lv_iconst (v := (nI 1)) hx hb dX4_hasCell_12 rfl ?_
      refine lv_goto (tgt := 17) hx hb dX4_hasCell_13 (by decide) ?_
      exact wZret hx hb hr hlocks (v := (nI 1)) (by first | exact Or.inl rfl | exact Or.inr rfl) (u, a, th, LP, tf) (⟨rfl, by first | exact Or.inl ⟨rfl, th_in (by omega) (by assumption) (by assumption)⟩ | exact Or.inr ⟨rfl, th_out1 (by omega) (by assumption)⟩ | exact Or.inr ⟨rfl, th_out2 (by omega) (by assumption)⟩⟩) hK hP hD hS dX4_hasCell_17

set_option maxHeartbeats 4000000 in
set_option maxRecDepth 100000 in
theorem kX4_hasCell_q1 (l : Launch) (D : va_G) (cA : Nat → ClassId) (r : Nat → Nat) (sz : Nat) (u : Nat → Int32) (a : Nat → Nat → Int32) (th : Nat → Option Nat) (LP : List Nat) (tf : Nat → va_E) (tO : Nat) (Ln : Nat) (x : Int32) (hln : u 19 = nI Ln) (hl60 : Ln ≤ 60) : Met l yX4_hasCell wsX4_hasCell ({ frames := 0, cells := 0, slots := 0, locals := 0 } : Room) (va_Pc [.ref (r 7), .int x] (wA D vwCl (tyA cA) (eO tO) (xN cA r) (u, a, th, LP, tf) sz)) (va_Qi (fun (v : Int32) (z : sN) => z = (u, a, th, LP, tf) ∧ ((v = nI 1 ∧ isT Ln x) ∨ (v = nI 0 ∧ ¬ isT Ln x))) (wB D vwCl (tyA cA) (xN cA r) (va_A (xN cA r (u, a, th, LP, tf)) sz)) (va_A (xN cA r (u, a, th, LP, tf)) sz)) 0 0 (va_A (xN cA r (u, a, th, LP, tf)) sz) := by
  refine Met.ofW (cc := cX4_hasCell) (maxL := 2) (ret := (some .boolean)) (by decide) rfl ?_
  intro p e s m args below meth c s₁ B hml hv
  obtain ⟨rfl, hsz, hP, hK, hD0, hE⟩ := hv
  have hx := B.exec
  have hb := B.bytes
  have hr := B.returns
  have hts := atoms_spec (ws := wsX4_hasCell) B.pre
  have hown : s.vm.findClass RX4 = some m.cls := findClass_of_methodNamed B.named
  have hlocks := B.notSynchronized
  subst hsz
  have hD := hD0.self (sz := s.heap.size)
  generalize hAe : va_A (xN cA r (u, a, th, LP, tf)) s.heap.size = A at hD hE ⊢
  have hA : ∀ q : Nat, s.heap.size ≤ q → A q := fun q h => by rw [← hAe]; exact Or.inr h
  have hS : va_S A s.heap s.heap [] := va_S.rf
  have hinX4 : ∀ w ∈ u_ws RX4 TX4 3, w ∈ wsX4_hasCell := by decide +kernel
  have hl := lv_entry ([.ref (r 7), .int x]) (n := 2) (Nat.le_of_ble_eq_true rfl)
  rw [lg_entry_eq]
  generalize (lg_sl ([.ref (r 7), .int x]) ++ List.replicate (2 - (lg_sl ([.ref (r 7), .int x])).length) Slot.unset).toArray = ls at hl ⊢
  have hl : lv_has ls 2 [(0, .ref (r 7)), (1, .int x)] := hl
  refine lv_iload_n hx hb dX4_hasCell_0 rfl (lv_at hl 1 rfl) ?_
  refine lv_if_lt (tgt := 16) hx hb dX4_hasCell_1 (by decide) (fun c_1 => ?_) (fun c_1 => ?_)
  · refine lv_iconst (v := (nI 0)) hx hb dX4_hasCell_16 rfl ?_
    exact wZret hx hb hr hlocks (v := (nI 0)) (by first | exact Or.inl rfl | exact Or.inr rfl) (u, a, th, LP, tf) (⟨rfl, by first | exact Or.inl ⟨rfl, th_in (by omega) (by assumption) (by assumption)⟩ | exact Or.inr ⟨rfl, th_out1 (by omega) (by assumption)⟩ | exact Or.inr ⟨rfl, th_out2 (by omega) (by assumption)⟩⟩) hK hP hD hS dX4_hasCell_17
  · refine lv_iload_n hx hb dX4_hasCell_4 rfl (lv_at hl 1 rfl) ?_
    refine lv_aload_n hx hb dX4_hasCell_5 rfl (lv_at hl 0 rfl) ?_
    refine va_get (D := D) (ci := 4) (v := .int (nI Ln)) (C := RX4) (T := TX4) (N := 3) hx hb hts hinX4 hown hK hP 7 rfl rfl 1 (by decide) (hts (.fieldLink RX4 15 "OneNail$Sheet" "length" "I") (by decide +kernel)) (fun _ h9 => h9) (congrArg (fun z => some (Value.int z)) (hln)) dX4_hasCell_6 ?_
    refine lv_icmp_ge (tgt := 16) hx hb dX4_hasCell_9 (by decide) (fun c_2 => ?_) (fun c_2 => ?_)
    · refine lv_iconst (v := (nI 0)) hx hb dX4_hasCell_16 rfl ?_
      exact wZret hx hb hr hlocks (v := (nI 0)) (by first | exact Or.inl rfl | exact Or.inr rfl) (u, a, th, LP, tf) (⟨rfl, by first | exact Or.inl ⟨rfl, th_in (by omega) (by assumption) (by assumption)⟩ | exact Or.inr ⟨rfl, th_out1 (by omega) (by assumption)⟩ | exact Or.inr ⟨rfl, th_out2 (by omega) (by assumption)⟩⟩) hK hP hD hS dX4_hasCell_17
    · refine lv_iconst (v := (nI 1)) hx hb dX4_hasCell_12 rfl ?_
      refine lv_goto (tgt := 17) hx hb dX4_hasCell_13 (by decide) ?_
      exact wZret hx hb hr hlocks (v := (nI 1)) (by first | exact Or.inl rfl | exact Or.inr rfl) (u, a, th, LP, tf) (⟨rfl, by first | exact Or.inl ⟨rfl, th_in (by omega) (by assumption) (by assumption)⟩ | exact Or.inr ⟨rfl, th_out1 (by omega) (by assumption)⟩ | exact Or.inr ⟨rfl, th_out2 (by omega) (by assumption)⟩⟩) hK hP hD hS dX4_hasCell_17

set_option maxHeartbeats 4000000 in
set_option maxRecDepth 100000 in
theorem kX4_hasCell_q2 (l : Launch) (D : va_G) (cA : Nat → ClassId) (r : Nat → Nat) (sz : Nat) (u : Nat → Int32) (a : Nat → Nat → Int32) (th : Nat → Option Nat) (LP : List Nat) (tf : Nat → va_E) (tO : Nat) (Ln : Nat) (x : Int32) (hln : u 20 = nI Ln) (hl60 : Ln ≤ 60) : Met l yX4_hasCell wsX4_hasCell ({ frames := 0, cells := 0, slots := 0, locals := 0 } : Room) (va_Pc [.ref (r 8), .int x] (wA D vwCl (tyA cA) (eO tO) (xN cA r) (u, a, th, LP, tf) sz)) (va_Qi (fun (v : Int32) (z : sN) => z = (u, a, th, LP, tf) ∧ ((v = nI 1 ∧ isT Ln x) ∨ (v = nI 0 ∧ ¬ isT Ln x))) (wB D vwCl (tyA cA) (xN cA r) (va_A (xN cA r (u, a, th, LP, tf)) sz)) (va_A (xN cA r (u, a, th, LP, tf)) sz)) 0 0 (va_A (xN cA r (u, a, th, LP, tf)) sz) := by
  refine Met.ofW (cc := cX4_hasCell) (maxL := 2) (ret := (some .boolean)) (by decide) rfl ?_
  intro p e s m args below meth c s₁ B hml hv
  obtain ⟨rfl, hsz, hP, hK, hD0, hE⟩ := hv
  have hx := B.exec
  have hb := B.bytes
  have hr := B.returns
  have hts := atoms_spec (ws := wsX4_hasCell) B.pre
  have hown : s.vm.findClass RX4 = some m.cls := findClass_of_methodNamed B.named
  have hlocks := B.notSynchronized
  subst hsz
  have hD := hD0.self (sz := s.heap.size)
  generalize hAe : va_A (xN cA r (u, a, th, LP, tf)) s.heap.size = A at hD hE ⊢
  have hA : ∀ q : Nat, s.heap.size ≤ q → A q := fun q h => by rw [← hAe]; exact Or.inr h
  have hS : va_S A s.heap s.heap [] := va_S.rf
  have hinX4 : ∀ w ∈ u_ws RX4 TX4 3, w ∈ wsX4_hasCell := by decide +kernel
  have hl := lv_entry ([.ref (r 8), .int x]) (n := 2) (Nat.le_of_ble_eq_true rfl)
  rw [lg_entry_eq]
  generalize (lg_sl ([.ref (r 8), .int x]) ++ List.replicate (2 - (lg_sl ([.ref (r 8), .int x])).length) Slot.unset).toArray = ls at hl ⊢
  have hl : lv_has ls 2 [(0, .ref (r 8)), (1, .int x)] := hl
  refine lv_iload_n hx hb dX4_hasCell_0 rfl (lv_at hl 1 rfl) ?_
  refine lv_if_lt (tgt := 16) hx hb dX4_hasCell_1 (by decide) (fun c_1 => ?_) (fun c_1 => ?_)
  · refine lv_iconst (v := (nI 0)) hx hb dX4_hasCell_16 rfl ?_
    exact wZret hx hb hr hlocks (v := (nI 0)) (by first | exact Or.inl rfl | exact Or.inr rfl) (u, a, th, LP, tf) (⟨rfl, by first | exact Or.inl ⟨rfl, th_in (by omega) (by assumption) (by assumption)⟩ | exact Or.inr ⟨rfl, th_out1 (by omega) (by assumption)⟩ | exact Or.inr ⟨rfl, th_out2 (by omega) (by assumption)⟩⟩) hK hP hD hS dX4_hasCell_17
  · refine lv_iload_n hx hb dX4_hasCell_4 rfl (lv_at hl 1 rfl) ?_
    refine lv_aload_n hx hb dX4_hasCell_5 rfl (lv_at hl 0 rfl) ?_
    refine va_get (D := D) (ci := 4) (v := .int (nI Ln)) (C := RX4) (T := TX4) (N := 3) hx hb hts hinX4 hown hK hP 8 rfl rfl 1 (by decide) (hts (.fieldLink RX4 15 "OneNail$Sheet" "length" "I") (by decide +kernel)) (fun _ h9 => h9) (congrArg (fun z => some (Value.int z)) (hln)) dX4_hasCell_6 ?_
    refine lv_icmp_ge (tgt := 16) hx hb dX4_hasCell_9 (by decide) (fun c_2 => ?_) (fun c_2 => ?_)
    · refine lv_iconst (v := (nI 0)) hx hb dX4_hasCell_16 rfl ?_
      exact wZret hx hb hr hlocks (v := (nI 0)) (by first | exact Or.inl rfl | exact Or.inr rfl) (u, a, th, LP, tf) (⟨rfl, by first | exact Or.inl ⟨rfl, th_in (by omega) (by assumption) (by assumption)⟩ | exact Or.inr ⟨rfl, th_out1 (by omega) (by assumption)⟩ | exact Or.inr ⟨rfl, th_out2 (by omega) (by assumption)⟩⟩) hK hP hD hS dX4_hasCell_17
    · refine lv_iconst (v := (nI 1)) hx hb dX4_hasCell_12 rfl ?_
      refine lv_goto (tgt := 17) hx hb dX4_hasCell_13 (by decide) ?_
      exact wZret hx hb hr hlocks (v := (nI 1)) (by first | exact Or.inl rfl | exact Or.inr rfl) (u, a, th, LP, tf) (⟨rfl, by first | exact Or.inl ⟨rfl, th_in (by omega) (by assumption) (by assumption)⟩ | exact Or.inr ⟨rfl, th_out1 (by omega) (by assumption)⟩ | exact Or.inr ⟨rfl, th_out2 (by omega) (by assumption)⟩⟩) hK hP hD hS dX4_hasCell_17

set_option maxHeartbeats 4000000 in
set_option maxRecDepth 100000 in
theorem kX4_hasCell_q3 (l : Launch) (D : va_G) (cA : Nat → ClassId) (r : Nat → Nat) (sz : Nat) (u : Nat → Int32) (a : Nat → Nat → Int32) (th : Nat → Option Nat) (LP : List Nat) (tf : Nat → va_E) (tO : Nat) (Ln : Nat) (x : Int32) (hln : u 21 = nI Ln) (hl60 : Ln ≤ 60) : Met l yX4_hasCell wsX4_hasCell ({ frames := 0, cells := 0, slots := 0, locals := 0 } : Room) (va_Pc [.ref (r 9), .int x] (wA D vwCl (tyA cA) (eO tO) (xN cA r) (u, a, th, LP, tf) sz)) (va_Qi (fun (v : Int32) (z : sN) => z = (u, a, th, LP, tf) ∧ ((v = nI 1 ∧ isT Ln x) ∨ (v = nI 0 ∧ ¬ isT Ln x))) (wB D vwCl (tyA cA) (xN cA r) (va_A (xN cA r (u, a, th, LP, tf)) sz)) (va_A (xN cA r (u, a, th, LP, tf)) sz)) 0 0 (va_A (xN cA r (u, a, th, LP, tf)) sz) := by
  refine Met.ofW (cc := cX4_hasCell) (maxL := 2) (ret := (some .boolean)) (by decide) rfl ?_
  intro p e s m args below meth c s₁ B hml hv
  obtain ⟨rfl, hsz, hP, hK, hD0, hE⟩ := hv
  have hx := B.exec
  have hb := B.bytes
  have hr := B.returns
  have hts := atoms_spec (ws := wsX4_hasCell) B.pre
  have hown : s.vm.findClass RX4 = some m.cls := findClass_of_methodNamed B.named
  have hlocks := B.notSynchronized
  subst hsz
  have hD := hD0.self (sz := s.heap.size)
  generalize hAe : va_A (xN cA r (u, a, th, LP, tf)) s.heap.size = A at hD hE ⊢
  have hA : ∀ q : Nat, s.heap.size ≤ q → A q := fun q h => by rw [← hAe]; exact Or.inr h
  have hS : va_S A s.heap s.heap [] := va_S.rf
  have hinX4 : ∀ w ∈ u_ws RX4 TX4 3, w ∈ wsX4_hasCell := by decide +kernel
  have hl := lv_entry ([.ref (r 9), .int x]) (n := 2) (Nat.le_of_ble_eq_true rfl)
  rw [lg_entry_eq]
  generalize (lg_sl ([.ref (r 9), .int x]) ++ List.replicate (2 - (lg_sl ([.ref (r 9), .int x])).length) Slot.unset).toArray = ls at hl ⊢
  have hl : lv_has ls 2 [(0, .ref (r 9)), (1, .int x)] := hl
  refine lv_iload_n hx hb dX4_hasCell_0 rfl (lv_at hl 1 rfl) ?_
  refine lv_if_lt (tgt := 16) hx hb dX4_hasCell_1 (by decide) (fun c_1 => ?_) (fun c_1 => ?_)
  · refine lv_iconst (v := (nI 0)) hx hb dX4_hasCell_16 rfl ?_
    exact wZret hx hb hr hlocks (v := (nI 0)) (by first | exact Or.inl rfl | exact Or.inr rfl) (u, a, th, LP, tf) (⟨rfl, by first | exact Or.inl ⟨rfl, th_in (by omega) (by assumption) (by assumption)⟩ | exact Or.inr ⟨rfl, th_out1 (by omega) (by assumption)⟩ | exact Or.inr ⟨rfl, th_out2 (by omega) (by assumption)⟩⟩) hK hP hD hS dX4_hasCell_17
  · refine lv_iload_n hx hb dX4_hasCell_4 rfl (lv_at hl 1 rfl) ?_
    refine lv_aload_n hx hb dX4_hasCell_5 rfl (lv_at hl 0 rfl) ?_
    refine va_get (D := D) (ci := 4) (v := .int (nI Ln)) (C := RX4) (T := TX4) (N := 3) hx hb hts hinX4 hown hK hP 9 rfl rfl 1 (by decide) (hts (.fieldLink RX4 15 "OneNail$Sheet" "length" "I") (by decide +kernel)) (fun _ h9 => h9) (congrArg (fun z => some (Value.int z)) (hln)) dX4_hasCell_6 ?_
    refine lv_icmp_ge (tgt := 16) hx hb dX4_hasCell_9 (by decide) (fun c_2 => ?_) (fun c_2 => ?_)
    · refine lv_iconst (v := (nI 0)) hx hb dX4_hasCell_16 rfl ?_
      exact wZret hx hb hr hlocks (v := (nI 0)) (by first | exact Or.inl rfl | exact Or.inr rfl) (u, a, th, LP, tf) (⟨rfl, by first | exact Or.inl ⟨rfl, th_in (by omega) (by assumption) (by assumption)⟩ | exact Or.inr ⟨rfl, th_out1 (by omega) (by assumption)⟩ | exact Or.inr ⟨rfl, th_out2 (by omega) (by assumption)⟩⟩) hK hP hD hS dX4_hasCell_17
    · refine lv_iconst (v := (nI 1)) hx hb dX4_hasCell_12 rfl ?_
      refine lv_goto (tgt := 17) hx hb dX4_hasCell_13 (by decide) ?_
      exact wZret hx hb hr hlocks (v := (nI 1)) (by first | exact Or.inl rfl | exact Or.inr rfl) (u, a, th, LP, tf) (⟨rfl, by first | exact Or.inl ⟨rfl, th_in (by omega) (by assumption) (by assumption)⟩ | exact Or.inr ⟨rfl, th_out1 (by omega) (by assumption)⟩ | exact Or.inr ⟨rfl, th_out2 (by omega) (by assumption)⟩⟩) hK hP hD hS dX4_hasCell_17

set_option maxHeartbeats 4000000 in
set_option maxRecDepth 100000 in
theorem kX4_hasCell (l : Launch) (D : va_G) (cA : Nat → ClassId) (r : Nat → Nat) (sz : Nat) (u : Nat → Int32) (a : Nat → Nat → Int32) (th : Nat → Option Nat) (LP : List Nat) (tf : Nat → va_E) (tO : Nat) (k9 : Nat) (Ln : Nat) (x : Int32) (hk9 : k9 < 4) (hln : u (18 + k9) = nI Ln) (hl60 : Ln ≤ 60) : Met l yX4_hasCell wsX4_hasCell ({ frames := 0, cells := 0, slots := 0, locals := 0 } : Room) (va_Pc [.ref (r (6 + k9)), .int x] (wA D vwCl (tyA cA) (eO tO) (xN cA r) (u, a, th, LP, tf) sz)) (va_Qi (fun (v : Int32) (z : sN) => z = (u, a, th, LP, tf) ∧ ((v = nI 1 ∧ isT Ln x) ∨ (v = nI 0 ∧ ¬ isT Ln x))) (wB D vwCl (tyA cA) (xN cA r) (va_A (xN cA r (u, a, th, LP, tf)) sz)) (va_A (xN cA r (u, a, th, LP, tf)) sz)) 0 0 (va_A (xN cA r (u, a, th, LP, tf)) sz) := by
  rcases (show k9 = 0 ∨ k9 = 1 ∨ k9 = 2 ∨ k9 = 3 by omega) with rfl | rfl | rfl | rfl
  · exact kX4_hasCell_q0 l D cA r sz u a th LP tf tO Ln x hln hl60
  · exact kX4_hasCell_q1 l D cA r sz u a th LP tf tO Ln x hln hl60
  · exact kX4_hasCell_q2 l D cA r sz u a th LP tf tO Ln x hln hl60
  · exact kX4_hasCell_q3 l D cA r sz u a th LP tf tO Ln x hln hl60

set_option maxHeartbeats 4000000 in
set_option maxRecDepth 100000 in
theorem kX4_spans_q0 (l : Launch) (D : va_G) (cA : Nat → ClassId) (r : Nat → Nat) (sz : Nat) (u : Nat → Int32) (a : Nat → Nat → Int32) (th : Nat → Option Nat) (LP : List Nat) (tf : Nat → va_E) (tO : Nat) (Ln : Nat) (i n : Int32) (hln : u 18 = nI Ln) (hl60 : Ln ≤ 60) : Met l yX4_spans wsX4_spans ({ frames := 0, cells := 0, slots := 0, locals := 0 } : Room) (va_Pc [.ref (r 6), .int i, .int n] (wA D vwCl (tyA cA) (eO tO) (xN cA r) (u, a, th, LP, tf) sz)) (va_Qi (fun (v : Int32) (z : sN) => z = (u, a, th, LP, tf) ∧ ((v = nI 1 ∧ SP Ln i n) ∨ (v = nI 0 ∧ ¬ SP Ln i n))) (wB D vwCl (tyA cA) (xN cA r) (va_A (xN cA r (u, a, th, LP, tf)) sz)) (va_A (xN cA r (u, a, th, LP, tf)) sz)) 0 0 (va_A (xN cA r (u, a, th, LP, tf)) sz) := by
  refine Met.ofW (cc := cX4_spans) (maxL := 3) (ret := (some .boolean)) (by decide) rfl ?_
  intro p e s m args below meth c s₁ B hml hv
  obtain ⟨rfl, hsz, hP, hK, hD0, hE⟩ := hv
  have hx := B.exec
  have hb := B.bytes
  have hr := B.returns
  have hts := atoms_spec (ws := wsX4_spans) B.pre
  have hown : s.vm.findClass RX4 = some m.cls := findClass_of_methodNamed B.named
  have hlocks := B.notSynchronized
  subst hsz
  have hD := hD0.self (sz := s.heap.size)
  generalize hAe : va_A (xN cA r (u, a, th, LP, tf)) s.heap.size = A at hD hE ⊢
  have hA : ∀ q : Nat, s.heap.size ≤ q → A q := fun q h => by rw [← hAe]; exact Or.inr h
  have hS : va_S A s.heap s.heap [] := va_S.rf
  have hinX4 : ∀ w ∈ u_ws RX4 TX4 3, w ∈ wsX4_spans := by decide +kernel
  have hl := lv_entry ([.ref (r 6), .int i, .int n]) (n := 3) (Nat.le_of_ble_eq_true rfl)
  rw [lg_entry_eq]
  generalize (lg_sl ([.ref (r 6), .int i, .int n]) ++ List.replicate (3 - (lg_sl ([.ref (r 6), .int i, .int n])).length) Slot.unset).toArray = ls at hl ⊢
  have hl : lv_has ls 3 [(0, .ref (r 6)), (1, .int i), (2, .int n)] := hl
  refine lv_iload_n hx hb dX4_spans_0 rfl (lv_at hl 2 rfl) ?_
  refine lv_if_lt (tgt := 30) hx hb dX4_spans_1 (by decide) (fun c_1 => ?_) (fun c_1 => ?_)
  · refine lv_iconst (v := (nI 0)) hx hb dX4_spans_30 rfl ?_
    exact wZret hx hb hr hlocks (v := (nI 0)) (by first | exact Or.inl rfl | exact Or.inr rfl) (u, a, th, LP, tf) (⟨rfl, by first | exact Or.inl ⟨rfl, by assumption, by assumption, by assumption, by assumption⟩ | exact Or.inr ⟨rfl, fun q => q.1 (by assumption)⟩ | exact Or.inr ⟨rfl, fun q => q.2.1 (by assumption)⟩ | exact Or.inr ⟨rfl, fun q => q.2.2.1 (by assumption)⟩ | exact Or.inr ⟨rfl, fun q => q.2.2.2 (by assumption)⟩⟩) hK hP hD hS dX4_spans_31
  · refine lv_iload_n hx hb dX4_spans_4 rfl (lv_at hl 1 rfl) ?_
    refine lv_if_lt (tgt := 30) hx hb dX4_spans_5 (by decide) (fun c_2 => ?_) (fun c_2 => ?_)
    · refine lv_iconst (v := (nI 0)) hx hb dX4_spans_30 rfl ?_
      exact wZret hx hb hr hlocks (v := (nI 0)) (by first | exact Or.inl rfl | exact Or.inr rfl) (u, a, th, LP, tf) (⟨rfl, by first | exact Or.inl ⟨rfl, by assumption, by assumption, by assumption, by assumption⟩ | exact Or.inr ⟨rfl, fun q => q.1 (by assumption)⟩ | exact Or.inr ⟨rfl, fun q => q.2.1 (by assumption)⟩ | exact Or.inr ⟨rfl, fun q => q.2.2.1 (by assumption)⟩ | exact Or.inr ⟨rfl, fun q => q.2.2.2 (by assumption)⟩⟩) hK hP hD hS dX4_spans_31
    · refine lv_iload_n hx hb dX4_spans_8 rfl (lv_at hl 1 rfl) ?_
      refine lv_aload_n hx hb dX4_spans_9 rfl (lv_at hl 0 rfl) ?_
      refine va_get (D := D) (ci := 4) (v := .int (nI Ln)) (C := RX4) (T := TX4) (N := 3) hx hb hts hinX4 hown hK hP 6 rfl rfl 1 (by decide) (hts (.fieldLink RX4 15 "OneNail$Sheet" "length" "I") (by decide +kernel)) (fun _ h9 => h9) (congrArg (fun z => some (Value.int z)) (hln)) dX4_spans_10 ?_
      refine lv_icmp_gt (tgt := 30) hx hb dX4_spans_13 (by decide) (fun c_3 => ?_) (fun c_3 => ?_)
      · refine lv_iconst (v := (nI 0)) hx hb dX4_spans_30 rfl ?_
        exact wZret hx hb hr hlocks (v := (nI 0)) (by first | exact Or.inl rfl | exact Or.inr rfl) (u, a, th, LP, tf) (⟨rfl, by first | exact Or.inl ⟨rfl, by assumption, by assumption, by assumption, by assumption⟩ | exact Or.inr ⟨rfl, fun q => q.1 (by assumption)⟩ | exact Or.inr ⟨rfl, fun q => q.2.1 (by assumption)⟩ | exact Or.inr ⟨rfl, fun q => q.2.2.1 (by assumption)⟩ | exact Or.inr ⟨rfl, fun q => q.2.2.2 (by assumption)⟩⟩) hK hP hD hS dX4_spans_31
      · refine lv_iload_n hx hb dX4_spans_16 rfl (lv_at hl 2 rfl) ?_
        refine lv_aload_n hx hb dX4_spans_17 rfl (lv_at hl 0 rfl) ?_
        refine va_get (D := D) (ci := 4) (v := .int (nI Ln)) (C := RX4) (T := TX4) (N := 3) hx hb hts hinX4 hown hK hP 6 rfl rfl 1 (by decide) (hts (.fieldLink RX4 15 "OneNail$Sheet" "length" "I") (by decide +kernel)) (fun _ h9 => h9) (congrArg (fun z => some (Value.int z)) (hln)) dX4_spans_18 ?_
        refine lv_iload_n hx hb dX4_spans_21 rfl (lv_at hl 1 rfl) ?_
        refine lv_isub hx hb dX4_spans_22 ?_
        refine lv_icmp_gt (tgt := 30) hx hb dX4_spans_23 (by decide) (fun c_4 => ?_) (fun c_4 => ?_)
        · refine lv_iconst (v := (nI 0)) hx hb dX4_spans_30 rfl ?_
          exact wZret hx hb hr hlocks (v := (nI 0)) (by first | exact Or.inl rfl | exact Or.inr rfl) (u, a, th, LP, tf) (⟨rfl, by first | exact Or.inl ⟨rfl, by assumption, by assumption, by assumption, by assumption⟩ | exact Or.inr ⟨rfl, fun q => q.1 (by assumption)⟩ | exact Or.inr ⟨rfl, fun q => q.2.1 (by assumption)⟩ | exact Or.inr ⟨rfl, fun q => q.2.2.1 (by assumption)⟩ | exact Or.inr ⟨rfl, fun q => q.2.2.2 (by assumption)⟩⟩) hK hP hD hS dX4_spans_31
        · refine lv_iconst (v := (nI 1)) hx hb dX4_spans_26 rfl ?_
          refine lv_goto (tgt := 31) hx hb dX4_spans_27 (by decide) ?_
          exact wZret hx hb hr hlocks (v := (nI 1)) (by first | exact Or.inl rfl | exact Or.inr rfl) (u, a, th, LP, tf) (⟨rfl, by first | exact Or.inl ⟨rfl, by assumption, by assumption, by assumption, by assumption⟩ | exact Or.inr ⟨rfl, fun q => q.1 (by assumption)⟩ | exact Or.inr ⟨rfl, fun q => q.2.1 (by assumption)⟩ | exact Or.inr ⟨rfl, fun q => q.2.2.1 (by assumption)⟩ | exact Or.inr ⟨rfl, fun q => q.2.2.2 (by assumption)⟩⟩) hK hP hD hS dX4_spans_31

set_option maxHeartbeats 4000000 in
set_option maxRecDepth 100000 in
theorem kX4_spans_q1 (l : Launch) (D : va_G) (cA : Nat → ClassId) (r : Nat → Nat) (sz : Nat) (u : Nat → Int32) (a : Nat → Nat → Int32) (th : Nat → Option Nat) (LP : List Nat) (tf : Nat → va_E) (tO : Nat) (Ln : Nat) (i n : Int32) (hln : u 19 = nI Ln) (hl60 : Ln ≤ 60) : Met l yX4_spans wsX4_spans ({ frames := 0, cells := 0, slots := 0, locals := 0 } : Room) (va_Pc [.ref (r 7), .int i, .int n] (wA D vwCl (tyA cA) (eO tO) (xN cA r) (u, a, th, LP, tf) sz)) (va_Qi (fun (v : Int32) (z : sN) => z = (u, a, th, LP, tf) ∧ ((v = nI 1 ∧ SP Ln i n) ∨ (v = nI 0 ∧ ¬ SP Ln i n))) (wB D vwCl (tyA cA) (xN cA r) (va_A (xN cA r (u, a, th, LP, tf)) sz)) (va_A (xN cA r (u, a, th, LP, tf)) sz)) 0 0 (va_A (xN cA r (u, a, th, LP, tf)) sz) := by
  refine Met.ofW (cc := cX4_spans) (maxL := 3) (ret := (some .boolean)) (by decide) rfl ?_
  intro p e s m args below meth c s₁ B hml hv
  obtain ⟨rfl, hsz, hP, hK, hD0, hE⟩ := hv
  have hx := B.exec
  have hb := B.bytes
  have hr := B.returns
  have hts := atoms_spec (ws := wsX4_spans) B.pre
  have hown : s.vm.findClass RX4 = some m.cls := findClass_of_methodNamed B.named
  have hlocks := B.notSynchronized
  subst hsz
  have hD := hD0.self (sz := s.heap.size)
  generalize hAe : va_A (xN cA r (u, a, th, LP, tf)) s.heap.size = A at hD hE ⊢
  have hA : ∀ q : Nat, s.heap.size ≤ q → A q := fun q h => by rw [← hAe]; exact Or.inr h
  have hS : va_S A s.heap s.heap [] := va_S.rf
  have hinX4 : ∀ w ∈ u_ws RX4 TX4 3, w ∈ wsX4_spans := by decide +kernel
  have hl := lv_entry ([.ref (r 7), .int i, .int n]) (n := 3) (Nat.le_of_ble_eq_true rfl)
  rw [lg_entry_eq]
  generalize (lg_sl ([.ref (r 7), .int i, .int n]) ++ List.replicate (3 - (lg_sl ([.ref (r 7), .int i, .int n])).length) Slot.unset).toArray = ls at hl ⊢
  have hl : lv_has ls 3 [(0, .ref (r 7)), (1, .int i), (2, .int n)] := hl
  refine lv_iload_n hx hb dX4_spans_0 rfl (lv_at hl 2 rfl) ?_
  refine lv_if_lt (tgt := 30) hx hb dX4_spans_1 (by decide) (fun c_1 => ?_) (fun c_1 => ?_)
  · refine lv_iconst (v := (nI 0)) hx hb dX4_spans_30 rfl ?_
    exact wZret hx hb hr hlocks (v := (nI 0)) (by first | exact Or.inl rfl | exact Or.inr rfl) (u, a, th, LP, tf) (⟨rfl, by first | exact Or.inl ⟨rfl, by assumption, by assumption, by assumption, by assumption⟩ | exact Or.inr ⟨rfl, fun q => q.1 (by assumption)⟩ | exact Or.inr ⟨rfl, fun q => q.2.1 (by assumption)⟩ | exact Or.inr ⟨rfl, fun q => q.2.2.1 (by assumption)⟩ | exact Or.inr ⟨rfl, fun q => q.2.2.2 (by assumption)⟩⟩) hK hP hD hS dX4_spans_31
  · refine lv_iload_n hx hb dX4_spans_4 rfl (lv_at hl 1 rfl) ?_
    refine lv_if_lt (tgt := 30) hx hb dX4_spans_5 (by decide) (fun c_2 => ?_) (fun c_2 => ?_)
    · refine lv_iconst (v := (nI 0)) hx hb dX4_spans_30 rfl ?_
      exact wZret hx hb hr hlocks (v := (nI 0)) (by first | exact Or.inl rfl | exact Or.inr rfl) (u, a, th, LP, tf) (⟨rfl, by first | exact Or.inl ⟨rfl, by assumption, by assumption, by assumption, by assumption⟩ | exact Or.inr ⟨rfl, fun q => q.1 (by assumption)⟩ | exact Or.inr ⟨rfl, fun q => q.2.1 (by assumption)⟩ | exact Or.inr ⟨rfl, fun q => q.2.2.1 (by assumption)⟩ | exact Or.inr ⟨rfl, fun q => q.2.2.2 (by assumption)⟩⟩) hK hP hD hS dX4_spans_31
    · refine lv_iload_n hx hb dX4_spans_8 rfl (lv_at hl 1 rfl) ?_
      refine lv_aload_n hx hb dX4_spans_9 rfl (lv_at hl 0 rfl) ?_
      refine va_get (D := D) (ci := 4) (v := .int (nI Ln)) (C := RX4) (T := TX4) (N := 3) hx hb hts hinX4 hown hK hP 7 rfl rfl 1 (by decide) (hts (.fieldLink RX4 15 "OneNail$Sheet" "length" "I") (by decide +kernel)) (fun _ h9 => h9) (congrArg (fun z => some (Value.int z)) (hln)) dX4_spans_10 ?_
      refine lv_icmp_gt (tgt := 30) hx hb dX4_spans_13 (by decide) (fun c_3 => ?_) (fun c_3 => ?_)
      · refine lv_iconst (v := (nI 0)) hx hb dX4_spans_30 rfl ?_
        exact wZret hx hb hr hlocks (v := (nI 0)) (by first | exact Or.inl rfl | exact Or.inr rfl) (u, a, th, LP, tf) (⟨rfl, by first | exact Or.inl ⟨rfl, by assumption, by assumption, by assumption, by assumption⟩ | exact Or.inr ⟨rfl, fun q => q.1 (by assumption)⟩ | exact Or.inr ⟨rfl, fun q => q.2.1 (by assumption)⟩ | exact Or.inr ⟨rfl, fun q => q.2.2.1 (by assumption)⟩ | exact Or.inr ⟨rfl, fun q => q.2.2.2 (by assumption)⟩⟩) hK hP hD hS dX4_spans_31
      · refine lv_iload_n hx hb dX4_spans_16 rfl (lv_at hl 2 rfl) ?_
        refine lv_aload_n hx hb dX4_spans_17 rfl (lv_at hl 0 rfl) ?_
        refine va_get (D := D) (ci := 4) (v := .int (nI Ln)) (C := RX4) (T := TX4) (N := 3) hx hb hts hinX4 hown hK hP 7 rfl rfl 1 (by decide) (hts (.fieldLink RX4 15 "OneNail$Sheet" "length" "I") (by decide +kernel)) (fun _ h9 => h9) (congrArg (fun z => some (Value.int z)) (hln)) dX4_spans_18 ?_
        refine lv_iload_n hx hb dX4_spans_21 rfl (lv_at hl 1 rfl) ?_
        refine lv_isub hx hb dX4_spans_22 ?_
        refine lv_icmp_gt (tgt := 30) hx hb dX4_spans_23 (by decide) (fun c_4 => ?_) (fun c_4 => ?_)
        · refine lv_iconst (v := (nI 0)) hx hb dX4_spans_30 rfl ?_
          exact wZret hx hb hr hlocks (v := (nI 0)) (by first | exact Or.inl rfl | exact Or.inr rfl) (u, a, th, LP, tf) (⟨rfl, by first | exact Or.inl ⟨rfl, by assumption, by assumption, by assumption, by assumption⟩ | exact Or.inr ⟨rfl, fun q => q.1 (by assumption)⟩ | exact Or.inr ⟨rfl, fun q => q.2.1 (by assumption)⟩ | exact Or.inr ⟨rfl, fun q => q.2.2.1 (by assumption)⟩ | exact Or.inr ⟨rfl, fun q => q.2.2.2 (by assumption)⟩⟩) hK hP hD hS dX4_spans_31
        · refine lv_iconst (v := (nI 1)) hx hb dX4_spans_26 rfl ?_
          refine lv_goto (tgt := 31) hx hb dX4_spans_27 (by decide) ?_
          exact wZret hx hb hr hlocks (v := (nI 1)) (by first | exact Or.inl rfl | exact Or.inr rfl) (u, a, th, LP, tf) (⟨rfl, by first | exact Or.inl ⟨rfl, by assumption, by assumption, by assumption, by assumption⟩ | exact Or.inr ⟨rfl, fun q => q.1 (by assumption)⟩ | exact Or.inr ⟨rfl, fun q => q.2.1 (by assumption)⟩ | exact Or.inr ⟨rfl, fun q => q.2.2.1 (by assumption)⟩ | exact Or.inr ⟨rfl, fun q => q.2.2.2 (by assumption)⟩⟩) hK hP hD hS dX4_spans_31

set_option maxHeartbeats 4000000 in
set_option maxRecDepth 100000 in
theorem kX4_spans_q2 (l : Launch) (D : va_G) (cA : Nat → ClassId) (r : Nat → Nat) (sz : Nat) (u : Nat → Int32) (a : Nat → Nat → Int32) (th : Nat → Option Nat) (LP : List Nat) (tf : Nat → va_E) (tO : Nat) (Ln : Nat) (i n : Int32) (hln : u 20 = nI Ln) (hl60 : Ln ≤ 60) : Met l yX4_spans wsX4_spans ({ frames := 0, cells := 0, slots := 0, locals := 0 } : Room) (va_Pc [.ref (r 8), .int i, .int n] (wA D vwCl (tyA cA) (eO tO) (xN cA r) (u, a, th, LP, tf) sz)) (va_Qi (fun (v : Int32) (z : sN) => z = (u, a, th, LP, tf) ∧ ((v = nI 1 ∧ SP Ln i n) ∨ (v = nI 0 ∧ ¬ SP Ln i n))) (wB D vwCl (tyA cA) (xN cA r) (va_A (xN cA r (u, a, th, LP, tf)) sz)) (va_A (xN cA r (u, a, th, LP, tf)) sz)) 0 0 (va_A (xN cA r (u, a, th, LP, tf)) sz) := by
  refine Met.ofW (cc := cX4_spans) (maxL := 3) (ret := (some .boolean)) (by decide) rfl ?_
  intro p e s m args below meth c s₁ B hml hv
  obtain ⟨rfl, hsz, hP, hK, hD0, hE⟩ := hv
  have hx := B.exec
  have hb := B.bytes
  have hr := B.returns
  have hts := atoms_spec (ws := wsX4_spans) B.pre
  have hown : s.vm.findClass RX4 = some m.cls := findClass_of_methodNamed B.named
  have hlocks := B.notSynchronized
  subst hsz
  have hD := hD0.self (sz := s.heap.size)
  generalize hAe : va_A (xN cA r (u, a, th, LP, tf)) s.heap.size = A at hD hE ⊢
  have hA : ∀ q : Nat, s.heap.size ≤ q → A q := fun q h => by rw [← hAe]; exact Or.inr h
  have hS : va_S A s.heap s.heap [] := va_S.rf
  have hinX4 : ∀ w ∈ u_ws RX4 TX4 3, w ∈ wsX4_spans := by decide +kernel
  have hl := lv_entry ([.ref (r 8), .int i, .int n]) (n := 3) (Nat.le_of_ble_eq_true rfl)
  rw [lg_entry_eq]
  generalize (lg_sl ([.ref (r 8), .int i, .int n]) ++ List.replicate (3 - (lg_sl ([.ref (r 8), .int i, .int n])).length) Slot.unset).toArray = ls at hl ⊢
  have hl : lv_has ls 3 [(0, .ref (r 8)), (1, .int i), (2, .int n)] := hl
  refine lv_iload_n hx hb dX4_spans_0 rfl (lv_at hl 2 rfl) ?_
  refine lv_if_lt (tgt := 30) hx hb dX4_spans_1 (by decide) (fun c_1 => ?_) (fun c_1 => ?_)
  · refine lv_iconst (v := (nI 0)) hx hb dX4_spans_30 rfl ?_
    exact wZret hx hb hr hlocks (v := (nI 0)) (by first | exact Or.inl rfl | exact Or.inr rfl) (u, a, th, LP, tf) (⟨rfl, by first | exact Or.inl ⟨rfl, by assumption, by assumption, by assumption, by assumption⟩ | exact Or.inr ⟨rfl, fun q => q.1 (by assumption)⟩ | exact Or.inr ⟨rfl, fun q => q.2.1 (by assumption)⟩ | exact Or.inr ⟨rfl, fun q => q.2.2.1 (by assumption)⟩ | exact Or.inr ⟨rfl, fun q => q.2.2.2 (by assumption)⟩⟩) hK hP hD hS dX4_spans_31
  · refine lv_iload_n hx hb dX4_spans_4 rfl (lv_at hl 1 rfl) ?_
    refine lv_if_lt (tgt := 30) hx hb dX4_spans_5 (by decide) (fun c_2 => ?_) (fun c_2 => ?_)
    · refine lv_iconst (v := (nI 0)) hx hb dX4_spans_30 rfl ?_
      exact wZret hx hb hr hlocks (v := (nI 0)) (by first | exact Or.inl rfl | exact Or.inr rfl) (u, a, th, LP, tf) (⟨rfl, by first | exact Or.inl ⟨rfl, by assumption, by assumption, by assumption, by assumption⟩ | exact Or.inr ⟨rfl, fun q => q.1 (by assumption)⟩ | exact Or.inr ⟨rfl, fun q => q.2.1 (by assumption)⟩ | exact Or.inr ⟨rfl, fun q => q.2.2.1 (by assumption)⟩ | exact Or.inr ⟨rfl, fun q => q.2.2.2 (by assumption)⟩⟩) hK hP hD hS dX4_spans_31
    · refine lv_iload_n hx hb dX4_spans_8 rfl (lv_at hl 1 rfl) ?_
      refine lv_aload_n hx hb dX4_spans_9 rfl (lv_at hl 0 rfl) ?_
      refine va_get (D := D) (ci := 4) (v := .int (nI Ln)) (C := RX4) (T := TX4) (N := 3) hx hb hts hinX4 hown hK hP 8 rfl rfl 1 (by decide) (hts (.fieldLink RX4 15 "OneNail$Sheet" "length" "I") (by decide +kernel)) (fun _ h9 => h9) (congrArg (fun z => some (Value.int z)) (hln)) dX4_spans_10 ?_
      refine lv_icmp_gt (tgt := 30) hx hb dX4_spans_13 (by decide) (fun c_3 => ?_) (fun c_3 => ?_)
      · refine lv_iconst (v := (nI 0)) hx hb dX4_spans_30 rfl ?_
        exact wZret hx hb hr hlocks (v := (nI 0)) (by first | exact Or.inl rfl | exact Or.inr rfl) (u, a, th, LP, tf) (⟨rfl, by first | exact Or.inl ⟨rfl, by assumption, by assumption, by assumption, by assumption⟩ | exact Or.inr ⟨rfl, fun q => q.1 (by assumption)⟩ | exact Or.inr ⟨rfl, fun q => q.2.1 (by assumption)⟩ | exact Or.inr ⟨rfl, fun q => q.2.2.1 (by assumption)⟩ | exact Or.inr ⟨rfl, fun q => q.2.2.2 (by assumption)⟩⟩) hK hP hD hS dX4_spans_31
      · refine lv_iload_n hx hb dX4_spans_16 rfl (lv_at hl 2 rfl) ?_
        refine lv_aload_n hx hb dX4_spans_17 rfl (lv_at hl 0 rfl) ?_
        refine va_get (D := D) (ci := 4) (v := .int (nI Ln)) (C := RX4) (T := TX4) (N := 3) hx hb hts hinX4 hown hK hP 8 rfl rfl 1 (by decide) (hts (.fieldLink RX4 15 "OneNail$Sheet" "length" "I") (by decide +kernel)) (fun _ h9 => h9) (congrArg (fun z => some (Value.int z)) (hln)) dX4_spans_18 ?_
        refine lv_iload_n hx hb dX4_spans_21 rfl (lv_at hl 1 rfl) ?_
        refine lv_isub hx hb dX4_spans_22 ?_
        refine lv_icmp_gt (tgt := 30) hx hb dX4_spans_23 (by decide) (fun c_4 => ?_) (fun c_4 => ?_)
        · refine lv_iconst (v := (nI 0)) hx hb dX4_spans_30 rfl ?_
          exact wZret hx hb hr hlocks (v := (nI 0)) (by first | exact Or.inl rfl | exact Or.inr rfl) (u, a, th, LP, tf) (⟨rfl, by first | exact Or.inl ⟨rfl, by assumption, by assumption, by assumption, by assumption⟩ | exact Or.inr ⟨rfl, fun q => q.1 (by assumption)⟩ | exact Or.inr ⟨rfl, fun q => q.2.1 (by assumption)⟩ | exact Or.inr ⟨rfl, fun q => q.2.2.1 (by assumption)⟩ | exact Or.inr ⟨rfl, fun q => q.2.2.2 (by assumption)⟩⟩) hK hP hD hS dX4_spans_31
        · refine lv_iconst (v := (nI 1)) hx hb dX4_spans_26 rfl ?_
          refine lv_goto (tgt := 31) hx hb dX4_spans_27 (by decide) ?_
          exact wZret hx hb hr hlocks (v := (nI 1)) (by first | exact Or.inl rfl | exact Or.inr rfl) (u, a, th, LP, tf) (⟨rfl, by first | exact Or.inl ⟨rfl, by assumption, by assumption, by assumption, by assumption⟩ | exact Or.inr ⟨rfl, fun q => q.1 (by assumption)⟩ | exact Or.inr ⟨rfl, fun q => q.2.1 (by assumption)⟩ | exact Or.inr ⟨rfl, fun q => q.2.2.1 (by assumption)⟩ | exact Or.inr ⟨rfl, fun q => q.2.2.2 (by assumption)⟩⟩) hK hP hD hS dX4_spans_31

set_option maxHeartbeats 4000000 in
set_option maxRecDepth 100000 in
theorem kX4_spans_q3 (l : Launch) (D : va_G) (cA : Nat → ClassId) (r : Nat → Nat) (sz : Nat) (u : Nat → Int32) (a : Nat → Nat → Int32) (th : Nat → Option Nat) (LP : List Nat) (tf : Nat → va_E) (tO : Nat) (Ln : Nat) (i n : Int32) (hln : u 21 = nI Ln) (hl60 : Ln ≤ 60) : Met l yX4_spans wsX4_spans ({ frames := 0, cells := 0, slots := 0, locals := 0 } : Room) (va_Pc [.ref (r 9), .int i, .int n] (wA D vwCl (tyA cA) (eO tO) (xN cA r) (u, a, th, LP, tf) sz)) (va_Qi (fun (v : Int32) (z : sN) => z = (u, a, th, LP, tf) ∧ ((v = nI 1 ∧ SP Ln i n) ∨ (v = nI 0 ∧ ¬ SP Ln i n))) (wB D vwCl (tyA cA) (xN cA r) (va_A (xN cA r (u, a, th, LP, tf)) sz)) (va_A (xN cA r (u, a, th, LP, tf)) sz)) 0 0 (va_A (xN cA r (u, a, th, LP, tf)) sz) := by
  refine Met.ofW (cc := cX4_spans) (maxL := 3) (ret := (some .boolean)) (by decide) rfl ?_
  intro p e s m args below meth c s₁ B hml hv
  obtain ⟨rfl, hsz, hP, hK, hD0, hE⟩ := hv
  have hx := B.exec
  have hb := B.bytes
  have hr := B.returns
  have hts := atoms_spec (ws := wsX4_spans) B.pre
  have hown : s.vm.findClass RX4 = some m.cls := findClass_of_methodNamed B.named
  have hlocks := B.notSynchronized
  subst hsz
  have hD := hD0.self (sz := s.heap.size)
  generalize hAe : va_A (xN cA r (u, a, th, LP, tf)) s.heap.size = A at hD hE ⊢
  have hA : ∀ q : Nat, s.heap.size ≤ q → A q := fun q h => by rw [← hAe]; exact Or.inr h
  have hS : va_S A s.heap s.heap [] := va_S.rf
  have hinX4 : ∀ w ∈ u_ws RX4 TX4 3, w ∈ wsX4_spans := by decide +kernel
  have hl := lv_entry ([.ref (r 9), .int i, .int n]) (n := 3) (Nat.le_of_ble_eq_true rfl)
  rw [lg_entry_eq]
  generalize (lg_sl ([.ref (r 9), .int i, .int n]) ++ List.replicate (3 - (lg_sl ([.ref (r 9), .int i, .int n])).length) Slot.unset).toArray = ls at hl ⊢
  have hl : lv_has ls 3 [(0, .ref (r 9)), (1, .int i), (2, .int n)] := hl
  refine lv_iload_n hx hb dX4_spans_0 rfl (lv_at hl 2 rfl) ?_
  refine lv_if_lt (tgt := 30) hx hb dX4_spans_1 (by decide) (fun c_1 => ?_) (fun c_1 => ?_)
  · refine lv_iconst (v := (nI 0)) hx hb dX4_spans_30 rfl ?_
    exact wZret hx hb hr hlocks (v := (nI 0)) (by first | exact Or.inl rfl | exact Or.inr rfl) (u, a, th, LP, tf) (⟨rfl, by first | exact Or.inl ⟨rfl, by assumption, by assumption, by assumption, by assumption⟩ | exact Or.inr ⟨rfl, fun q => q.1 (by assumption)⟩ | exact Or.inr ⟨rfl, fun q => q.2.1 (by assumption)⟩ | exact Or.inr ⟨rfl, fun q => q.2.2.1 (by assumption)⟩ | exact Or.inr ⟨rfl, fun q => q.2.2.2 (by assumption)⟩⟩) hK hP hD hS dX4_spans_31
  · refine lv_iload_n hx hb dX4_spans_4 rfl (lv_at hl 1 rfl) ?_
    refine lv_if_lt (tgt := 30) hx hb dX4_spans_5 (by decide) (fun c_2 => ?_) (fun c_2 => ?_)
    · refine lv_iconst (v := (nI 0)) hx hb dX4_spans_30 rfl ?_
      exact wZret hx hb hr hlocks (v := (nI 0)) (by first | exact Or.inl rfl | exact Or.inr rfl) (u, a, th, LP, tf) (⟨rfl, by first | exact Or.inl ⟨rfl, by assumption, by assumption, by assumption, by assumption⟩ | exact Or.inr ⟨rfl, fun q => q.1 (by assumption)⟩ | exact Or.inr ⟨rfl, fun q => q.2.1 (by assumption)⟩ | exact Or.inr ⟨rfl, fun q => q.2.2.1 (by assumption)⟩ | exact Or.inr ⟨rfl, fun q => q.2.2.2 (by assumption)⟩⟩) hK hP hD hS dX4_spans_31
    · refine lv_iload_n hx hb dX4_spans_8 rfl (lv_at hl 1 rfl) ?_
      refine lv_aload_n hx hb dX4_spans_9 rfl (lv_at hl 0 rfl) ?_
      refine va_get (D := D) (ci := 4) (v := .int (nI Ln)) (C := RX4) (T := TX4) (N := 3) hx hb hts hinX4 hown hK hP 9 rfl rfl 1 (by decide) (hts (.fieldLink RX4 15 "OneNail$Sheet" "length" "I") (by decide +kernel)) (fun _ h9 => h9) (congrArg (fun z => some (Value.int z)) (hln)) dX4_spans_10 ?_
      refine lv_icmp_gt (tgt := 30) hx hb dX4_spans_13 (by decide) (fun c_3 => ?_) (fun c_3 => ?_)
      · refine lv_iconst (v := (nI 0)) hx hb dX4_spans_30 rfl ?_
        exact wZret hx hb hr hlocks (v := (nI 0)) (by first | exact Or.inl rfl | exact Or.inr rfl) (u, a, th, LP, tf) (⟨rfl, by first | exact Or.inl ⟨rfl, by assumption, by assumption, by assumption, by assumption⟩ | exact Or.inr ⟨rfl, fun q => q.1 (by assumption)⟩ | exact Or.inr ⟨rfl, fun q => q.2.1 (by assumption)⟩ | exact Or.inr ⟨rfl, fun q => q.2.2.1 (by assumption)⟩ | exact Or.inr ⟨rfl, fun q => q.2.2.2 (by assumption)⟩⟩) hK hP hD hS dX4_spans_31
      · refine lv_iload_n hx hb dX4_spans_16 rfl (lv_at hl 2 rfl) ?_
        refine lv_aload_n hx hb dX4_spans_17 rfl (lv_at hl 0 rfl) ?_
        refine va_get (D := D) (ci := 4) (v := .int (nI Ln)) (C := RX4) (T := TX4) (N := 3) hx hb hts hinX4 hown hK hP 9 rfl rfl 1 (by decide) (hts (.fieldLink RX4 15 "OneNail$Sheet" "length" "I") (by decide +kernel)) (fun _ h9 => h9) (congrArg (fun z => some (Value.int z)) (hln)) dX4_spans_18 ?_
        refine lv_iload_n hx hb dX4_spans_21 rfl (lv_at hl 1 rfl) ?_
        refine lv_isub hx hb dX4_spans_22 ?_
        refine lv_icmp_gt (tgt := 30) hx hb dX4_spans_23 (by decide) (fun c_4 => ?_) (fun c_4 => ?_)
        · refine lv_iconst (v := (nI 0)) hx hb dX4_spans_30 rfl ?_
          exact wZret hx hb hr hlocks (v := (nI 0)) (by first | exact Or.inl rfl | exact Or.inr rfl) (u, a, th, LP, tf) (⟨rfl, by first | exact Or.inl ⟨rfl, by assumption, by assumption, by assumption, by assumption⟩ | exact Or.inr ⟨rfl, fun q => q.1 (by assumption)⟩ | exact Or.inr ⟨rfl, fun q => q.2.1 (by assumption)⟩ | exact Or.inr ⟨rfl, fun q => q.2.2.1 (by assumption)⟩ | exact Or.inr ⟨rfl, fun q => q.2.2.2 (by assumption)⟩⟩) hK hP hD hS dX4_spans_31
        · refine lv_iconst (v := (nI 1)) hx hb dX4_spans_26 rfl ?_
          refine lv_goto (tgt := 31) hx hb dX4_spans_27 (by decide) ?_
          exact wZret hx hb hr hlocks (v := (nI 1)) (by first | exact Or.inl rfl | exact Or.inr rfl) (u, a, th, LP, tf) (⟨rfl, by first | exact Or.inl ⟨rfl, by assumption, by assumption, by assumption, by assumption⟩ | exact Or.inr ⟨rfl, fun q => q.1 (by assumption)⟩ | exact Or.inr ⟨rfl, fun q => q.2.1 (by assumption)⟩ | exact Or.inr ⟨rfl, fun q => q.2.2.1 (by assumption)⟩ | exact Or.inr ⟨rfl, fun q => q.2.2.2 (by assumption)⟩⟩) hK hP hD hS dX4_spans_31

set_option maxHeartbeats 4000000 in
set_option maxRecDepth 100000 in
theorem kX4_spans (l : Launch) (D : va_G) (cA : Nat → ClassId) (r : Nat → Nat) (sz : Nat) (u : Nat → Int32) (a : Nat → Nat → Int32) (th : Nat → Option Nat) (LP : List Nat) (tf : Nat → va_E) (tO : Nat) (k9 : Nat) (Ln : Nat) (i n : Int32) (hk9 : k9 < 4) (hln : u (18 + k9) = nI Ln) (hl60 : Ln ≤ 60) : Met l yX4_spans wsX4_spans ({ frames := 0, cells := 0, slots := 0, locals := 0 } : Room) (va_Pc [.ref (r (6 + k9)), .int i, .int n] (wA D vwCl (tyA cA) (eO tO) (xN cA r) (u, a, th, LP, tf) sz)) (va_Qi (fun (v : Int32) (z : sN) => z = (u, a, th, LP, tf) ∧ ((v = nI 1 ∧ SP Ln i n) ∨ (v = nI 0 ∧ ¬ SP Ln i n))) (wB D vwCl (tyA cA) (xN cA r) (va_A (xN cA r (u, a, th, LP, tf)) sz)) (va_A (xN cA r (u, a, th, LP, tf)) sz)) 0 0 (va_A (xN cA r (u, a, th, LP, tf)) sz) := by
  rcases (show k9 = 0 ∨ k9 = 1 ∨ k9 = 2 ∨ k9 = 3 by omega) with rfl | rfl | rfl | rfl
  · exact kX4_spans_q0 l D cA r sz u a th LP tf tO Ln i n hln hl60
  · exact kX4_spans_q1 l D cA r sz u a th LP tf tO Ln i n hln hl60
  · exact kX4_spans_q2 l D cA r sz u a th LP tf tO Ln i n hln hl60
  · exact kX4_spans_q3 l D cA r sz u a th LP tf tO Ln i n hln hl60

set_option maxHeartbeats 4000000 in
set_option maxRecDepth 100000 in
theorem kX4_read_q0 (l : Launch) (D : va_G) (cA : Nat → ClassId) (r : Nat → Nat) (sz : Nat) (u : Nat → Int32) (a : Nat → Nat → Int32) (th : Nat → Option Nat) (LP : List Nat) (tf : Nat → va_E) (tO : Nat) (Ln j : Nat) (hln : u 18 = nI Ln) (hl60 : Ln ≤ 60) (hj : j < Ln) : Met l yX4_read wsX4_read ({ frames := 1, cells := 0, slots := 0, locals := 21 } : Room) (va_Pc [.ref (r 6), .int (nI j)] (wA D vwCl (tyA cA) (eO tO) (xN cA r) (u, a, th, LP, tf) sz)) (va_Qi (fun (v : Int32) (z : sN) => v = a 26 j ∧ z = (u, a, th, LP, tf)) (wB D vwCl (tyA cA) (xN cA r) (va_A (xN cA r (u, a, th, LP, tf)) sz)) (va_A (xN cA r (u, a, th, LP, tf)) sz)) 0 0 (va_A (xN cA r (u, a, th, LP, tf)) sz) := by
  refine Met.ofW (cc := cX4_read) (maxL := 2) (ret := (some .int)) (by decide) rfl ?_
  intro p e s m args below meth c s₁ B hml hv
  obtain ⟨rfl, hsz, hP, hK, hD0, hE⟩ := hv
  have hx := B.exec
  have hb := B.bytes
  have hr := B.returns
  have hts := atoms_spec (ws := wsX4_read) B.pre
  have hown : s.vm.findClass RX4 = some m.cls := findClass_of_methodNamed B.named
  have hlocks := B.notSynchronized
  subst hsz
  have hD := hD0.self (sz := s.heap.size)
  generalize hAe : va_A (xN cA r (u, a, th, LP, tf)) s.heap.size = A at hD hE ⊢
  have hA : ∀ q : Nat, s.heap.size ≤ q → A q := fun q h => by rw [← hAe]; exact Or.inr h
  have hS : va_S A s.heap s.heap [] := va_S.rf
  have hinX4 : ∀ w ∈ u_ws RX4 TX4 3, w ∈ wsX4_read := by decide +kernel
  have hl := lv_entry ([.ref (r 6), .int (nI j)]) (n := 2) (Nat.le_of_ble_eq_true rfl)
  rw [lg_entry_eq]
  generalize (lg_sl ([.ref (r 6), .int (nI j)]) ++ List.replicate (2 - (lg_sl ([.ref (r 6), .int (nI j)])).length) Slot.unset).toArray = ls at hl ⊢
  have hl : lv_has ls 2 [(0, .ref (r 6)), (1, .int (nI j))] := hl
  refine lv_aload_n hx hb dX4_read_0 rfl (lv_at hl 0 rfl) ?_
  refine lv_iload_n hx hb dX4_read_1 rfl (lv_at hl 1 rfl) ?_
  refine wVi (eO_S tO) (As := [.int (nI j)]) (rest := []) ⟨hx, hb, hml, hown, hts⟩ (kX4_hasCell l D cA r _ u a th LP tf tO 0 Ln (nI j) (by decide) hln hl60) (cwV 1 hts gX4_read_X4_hasCell rfl rfl rfl (by decide +kernel) ⟨Nat.le_of_ble_eq_true rfl, Nat.le_of_ble_eq_true rfl⟩) (va_recv hK hP (ci := 4) (q0 := 6) rfl rfl) hK hP hD hS hA hE rfl hl.1 rfl (Nat.le_of_ble_eq_true rfl) dX4_read_2 ⟨Nat.zero_le _, Nat.zero_le _⟩ (fun rv_1 z_3 H locs hw_2 hP hD hS => ?_)
  obtain ⟨hz_4, hw_2⟩ := hw_2
  subst hz_4
  have hP : va_P D vwCl (xN cA r (u, a, th, LP, tf)) H := hP
  have hD : va_D A (xN cA r (u, a, th, LP, tf)) := hD
  rcases hw_2 with ⟨rfl, b_5⟩ | ⟨rfl, b_5⟩
  · refine lv_if_eq (tgt := 17) hx hb dX4_read_5 (by decide) (fun c_6 => absurd c_6 (by decide)) (fun _ => ?_)
    refine lv_aload_n hx hb dX4_read_8 rfl (lv_at hl 0 rfl) ?_
    refine va_get (D := D) (ci := 4) (v := .ref (r 26)) (C := RX4) (T := TX4) (N := 3) hx hb hts hinX4 hown hK hP 6 rfl rfl 2 (by decide) (hts (.fieldLink RX4 18 "OneNail$Sheet" "cells" "[I") (by decide +kernel)) (fun _ h9 => h9) rfl dX4_read_9 ?_
    refine lv_iload_n hx hb dX4_read_12 rfl (lv_at hl 1 rfl) ?_
    refine ra_iald hx hb hK hP 26 0 (n := 60) (f := (a 26)) (j := j) (v := ((a 26) j)) rfl rfl (by omega) (by decide) (rfl) dX4_read_13 ?_
    refine lv_goto (tgt := 18) hx hb dX4_read_14 (by decide) ?_
    exact wIret hx hb hr hlocks (v := ((a 26) j)) (u, a, th, LP, tf) (⟨rfl, rfl⟩) hK hP hD hS dX4_read_18
  · refine lv_if_eq (tgt := 17) hx hb dX4_read_5 (by decide) (fun _ => ?_) (fun c_7 => absurd c_7 (by decide))
    refine lv_iconst (v := (nI 0)) hx hb dX4_read_17 rfl ?_
    exact wIret hx hb hr hlocks (v := (nI 0)) (u, a, th, LP, tf) (False.elim (b_5 ⟨j, hj, rfl⟩)) hK hP hD hS dX4_read_18

set_option maxHeartbeats 4000000 in
set_option maxRecDepth 100000 in
theorem kX4_read_q1 (l : Launch) (D : va_G) (cA : Nat → ClassId) (r : Nat → Nat) (sz : Nat) (u : Nat → Int32) (a : Nat → Nat → Int32) (th : Nat → Option Nat) (LP : List Nat) (tf : Nat → va_E) (tO : Nat) (Ln j : Nat) (hln : u 19 = nI Ln) (hl60 : Ln ≤ 60) (hj : j < Ln) : Met l yX4_read wsX4_read ({ frames := 1, cells := 0, slots := 0, locals := 21 } : Room) (va_Pc [.ref (r 7), .int (nI j)] (wA D vwCl (tyA cA) (eO tO) (xN cA r) (u, a, th, LP, tf) sz)) (va_Qi (fun (v : Int32) (z : sN) => v = a 27 j ∧ z = (u, a, th, LP, tf)) (wB D vwCl (tyA cA) (xN cA r) (va_A (xN cA r (u, a, th, LP, tf)) sz)) (va_A (xN cA r (u, a, th, LP, tf)) sz)) 0 0 (va_A (xN cA r (u, a, th, LP, tf)) sz) := by
  refine Met.ofW (cc := cX4_read) (maxL := 2) (ret := (some .int)) (by decide) rfl ?_
  intro p e s m args below meth c s₁ B hml hv
  obtain ⟨rfl, hsz, hP, hK, hD0, hE⟩ := hv
  have hx := B.exec
  have hb := B.bytes
  have hr := B.returns
  have hts := atoms_spec (ws := wsX4_read) B.pre
  have hown : s.vm.findClass RX4 = some m.cls := findClass_of_methodNamed B.named
  have hlocks := B.notSynchronized
  subst hsz
  have hD := hD0.self (sz := s.heap.size)
  generalize hAe : va_A (xN cA r (u, a, th, LP, tf)) s.heap.size = A at hD hE ⊢
  have hA : ∀ q : Nat, s.heap.size ≤ q → A q := fun q h => by rw [← hAe]; exact Or.inr h
  have hS : va_S A s.heap s.heap [] := va_S.rf
  have hinX4 : ∀ w ∈ u_ws RX4 TX4 3, w ∈ wsX4_read := by decide +kernel
  have hl := lv_entry ([.ref (r 7), .int (nI j)]) (n := 2) (Nat.le_of_ble_eq_true rfl)
  rw [lg_entry_eq]
  generalize (lg_sl ([.ref (r 7), .int (nI j)]) ++ List.replicate (2 - (lg_sl ([.ref (r 7), .int (nI j)])).length) Slot.unset).toArray = ls at hl ⊢
  have hl : lv_has ls 2 [(0, .ref (r 7)), (1, .int (nI j))] := hl
  refine lv_aload_n hx hb dX4_read_0 rfl (lv_at hl 0 rfl) ?_
  refine lv_iload_n hx hb dX4_read_1 rfl (lv_at hl 1 rfl) ?_
  refine wVi (eO_S tO) (As := [.int (nI j)]) (rest := []) ⟨hx, hb, hml, hown, hts⟩ (kX4_hasCell l D cA r _ u a th LP tf tO 1 Ln (nI j) (by decide) hln hl60) (cwV 1 hts gX4_read_X4_hasCell rfl rfl rfl (by decide +kernel) ⟨Nat.le_of_ble_eq_true rfl, Nat.le_of_ble_eq_true rfl⟩) (va_recv hK hP (ci := 4) (q0 := 7) rfl rfl) hK hP hD hS hA hE rfl hl.1 rfl (Nat.le_of_ble_eq_true rfl) dX4_read_2 ⟨Nat.zero_le _, Nat.zero_le _⟩ (fun rv_1 z_3 H locs hw_2 hP hD hS => ?_)
  obtain ⟨hz_4, hw_2⟩ := hw_2
  subst hz_4
  have hP : va_P D vwCl (xN cA r (u, a, th, LP, tf)) H := hP
  have hD : va_D A (xN cA r (u, a, th, LP, tf)) := hD
  rcases hw_2 with ⟨rfl, b_5⟩ | ⟨rfl, b_5⟩
  · refine lv_if_eq (tgt := 17) hx hb dX4_read_5 (by decide) (fun c_6 => absurd c_6 (by decide)) (fun _ => ?_)
    refine lv_aload_n hx hb dX4_read_8 rfl (lv_at hl 0 rfl) ?_
    refine va_get (D := D) (ci := 4) (v := .ref (r 27)) (C := RX4) (T := TX4) (N := 3) hx hb hts hinX4 hown hK hP 7 rfl rfl 2 (by decide) (hts (.fieldLink RX4 18 "OneNail$Sheet" "cells" "[I") (by decide +kernel)) (fun _ h9 => h9) rfl dX4_read_9 ?_
    refine lv_iload_n hx hb dX4_read_12 rfl (lv_at hl 1 rfl) ?_
    refine ra_iald hx hb hK hP 27 0 (n := 60) (f := (a 27)) (j := j) (v := ((a 27) j)) rfl rfl (by omega) (by decide) (rfl) dX4_read_13 ?_
    refine lv_goto (tgt := 18) hx hb dX4_read_14 (by decide) ?_
    exact wIret hx hb hr hlocks (v := ((a 27) j)) (u, a, th, LP, tf) (⟨rfl, rfl⟩) hK hP hD hS dX4_read_18
  · refine lv_if_eq (tgt := 17) hx hb dX4_read_5 (by decide) (fun _ => ?_) (fun c_7 => absurd c_7 (by decide))
    refine lv_iconst (v := (nI 0)) hx hb dX4_read_17 rfl ?_
    exact wIret hx hb hr hlocks (v := (nI 0)) (u, a, th, LP, tf) (False.elim (b_5 ⟨j, hj, rfl⟩)) hK hP hD hS dX4_read_18

set_option maxHeartbeats 4000000 in
set_option maxRecDepth 100000 in
theorem kX4_read_q2 (l : Launch) (D : va_G) (cA : Nat → ClassId) (r : Nat → Nat) (sz : Nat) (u : Nat → Int32) (a : Nat → Nat → Int32) (th : Nat → Option Nat) (LP : List Nat) (tf : Nat → va_E) (tO : Nat) (Ln j : Nat) (hln : u 20 = nI Ln) (hl60 : Ln ≤ 60) (hj : j < Ln) : Met l yX4_read wsX4_read ({ frames := 1, cells := 0, slots := 0, locals := 21 } : Room) (va_Pc [.ref (r 8), .int (nI j)] (wA D vwCl (tyA cA) (eO tO) (xN cA r) (u, a, th, LP, tf) sz)) (va_Qi (fun (v : Int32) (z : sN) => v = a 28 j ∧ z = (u, a, th, LP, tf)) (wB D vwCl (tyA cA) (xN cA r) (va_A (xN cA r (u, a, th, LP, tf)) sz)) (va_A (xN cA r (u, a, th, LP, tf)) sz)) 0 0 (va_A (xN cA r (u, a, th, LP, tf)) sz) := by
  refine Met.ofW (cc := cX4_read) (maxL := 2) (ret := (some .int)) (by decide) rfl ?_
  intro p e s m args below meth c s₁ B hml hv
  obtain ⟨rfl, hsz, hP, hK, hD0, hE⟩ := hv
  have hx := B.exec
  have hb := B.bytes
  have hr := B.returns
  have hts := atoms_spec (ws := wsX4_read) B.pre
  have hown : s.vm.findClass RX4 = some m.cls := findClass_of_methodNamed B.named
  have hlocks := B.notSynchronized
  subst hsz
  have hD := hD0.self (sz := s.heap.size)
  generalize hAe : va_A (xN cA r (u, a, th, LP, tf)) s.heap.size = A at hD hE ⊢
  have hA : ∀ q : Nat, s.heap.size ≤ q → A q := fun q h => by rw [← hAe]; exact Or.inr h
  have hS : va_S A s.heap s.heap [] := va_S.rf
  have hinX4 : ∀ w ∈ u_ws RX4 TX4 3, w ∈ wsX4_read := by decide +kernel
  have hl := lv_entry ([.ref (r 8), .int (nI j)]) (n := 2) (Nat.le_of_ble_eq_true rfl)
  rw [lg_entry_eq]
  generalize (lg_sl ([.ref (r 8), .int (nI j)]) ++ List.replicate (2 - (lg_sl ([.ref (r 8), .int (nI j)])).length) Slot.unset).toArray = ls at hl ⊢
  have hl : lv_has ls 2 [(0, .ref (r 8)), (1, .int (nI j))] := hl
  refine lv_aload_n hx hb dX4_read_0 rfl (lv_at hl 0 rfl) ?_
  refine lv_iload_n hx hb dX4_read_1 rfl (lv_at hl 1 rfl) ?_
  refine wVi (eO_S tO) (As := [.int (nI j)]) (rest := []) ⟨hx, hb, hml, hown, hts⟩ (kX4_hasCell l D cA r _ u a th LP tf tO 2 Ln (nI j) (by decide) hln hl60) (cwV 1 hts gX4_read_X4_hasCell rfl rfl rfl (by decide +kernel) ⟨Nat.le_of_ble_eq_true rfl, Nat.le_of_ble_eq_true rfl⟩) (va_recv hK hP (ci := 4) (q0 := 8) rfl rfl) hK hP hD hS hA hE rfl hl.1 rfl (Nat.le_of_ble_eq_true rfl) dX4_read_2 ⟨Nat.zero_le _, Nat.zero_le _⟩ (fun rv_1 z_3 H locs hw_2 hP hD hS => ?_)
  obtain ⟨hz_4, hw_2⟩ := hw_2
  subst hz_4
  have hP : va_P D vwCl (xN cA r (u, a, th, LP, tf)) H := hP
  have hD : va_D A (xN cA r (u, a, th, LP, tf)) := hD
  rcases hw_2 with ⟨rfl, b_5⟩ | ⟨rfl, b_5⟩
  · refine lv_if_eq (tgt := 17) hx hb dX4_read_5 (by decide) (fun c_6 => absurd c_6 (by decide)) (fun _ => ?_)
    refine lv_aload_n hx hb dX4_read_8 rfl (lv_at hl 0 rfl) ?_
    refine va_get (D := D) (ci := 4) (v := .ref (r 28)) (C := RX4) (T := TX4) (N := 3) hx hb hts hinX4 hown hK hP 8 rfl rfl 2 (by decide) (hts (.fieldLink RX4 18 "OneNail$Sheet" "cells" "[I") (by decide +kernel)) (fun _ h9 => h9) rfl dX4_read_9 ?_
    refine lv_iload_n hx hb dX4_read_12 rfl (lv_at hl 1 rfl) ?_
    refine ra_iald hx hb hK hP 28 0 (n := 60) (f := (a 28)) (j := j) (v := ((a 28) j)) rfl rfl (by omega) (by decide) (rfl) dX4_read_13 ?_
    refine lv_goto (tgt := 18) hx hb dX4_read_14 (by decide) ?_
    exact wIret hx hb hr hlocks (v := ((a 28) j)) (u, a, th, LP, tf) (⟨rfl, rfl⟩) hK hP hD hS dX4_read_18
  · refine lv_if_eq (tgt := 17) hx hb dX4_read_5 (by decide) (fun _ => ?_) (fun c_7 => absurd c_7 (by decide))
    refine lv_iconst (v := (nI 0)) hx hb dX4_read_17 rfl ?_
    exact wIret hx hb hr hlocks (v := (nI 0)) (u, a, th, LP, tf) (False.elim (b_5 ⟨j, hj, rfl⟩)) hK hP hD hS dX4_read_18

set_option maxHeartbeats 4000000 in
set_option maxRecDepth 100000 in
theorem kX4_read_q3 (l : Launch) (D : va_G) (cA : Nat → ClassId) (r : Nat → Nat) (sz : Nat) (u : Nat → Int32) (a : Nat → Nat → Int32) (th : Nat → Option Nat) (LP : List Nat) (tf : Nat → va_E) (tO : Nat) (Ln j : Nat) (hln : u 21 = nI Ln) (hl60 : Ln ≤ 60) (hj : j < Ln) : Met l yX4_read wsX4_read ({ frames := 1, cells := 0, slots := 0, locals := 21 } : Room) (va_Pc [.ref (r 9), .int (nI j)] (wA D vwCl (tyA cA) (eO tO) (xN cA r) (u, a, th, LP, tf) sz)) (va_Qi (fun (v : Int32) (z : sN) => v = a 29 j ∧ z = (u, a, th, LP, tf)) (wB D vwCl (tyA cA) (xN cA r) (va_A (xN cA r (u, a, th, LP, tf)) sz)) (va_A (xN cA r (u, a, th, LP, tf)) sz)) 0 0 (va_A (xN cA r (u, a, th, LP, tf)) sz) := by
  refine Met.ofW (cc := cX4_read) (maxL := 2) (ret := (some .int)) (by decide) rfl ?_
  intro p e s m args below meth c s₁ B hml hv
  obtain ⟨rfl, hsz, hP, hK, hD0, hE⟩ := hv
  have hx := B.exec
  have hb := B.bytes
  have hr := B.returns
  have hts := atoms_spec (ws := wsX4_read) B.pre
  have hown : s.vm.findClass RX4 = some m.cls := findClass_of_methodNamed B.named
  have hlocks := B.notSynchronized
  subst hsz
  have hD := hD0.self (sz := s.heap.size)
  generalize hAe : va_A (xN cA r (u, a, th, LP, tf)) s.heap.size = A at hD hE ⊢
  have hA : ∀ q : Nat, s.heap.size ≤ q → A q := fun q h => by rw [← hAe]; exact Or.inr h
  have hS : va_S A s.heap s.heap [] := va_S.rf
  have hinX4 : ∀ w ∈ u_ws RX4 TX4 3, w ∈ wsX4_read := by decide +kernel
  have hl := lv_entry ([.ref (r 9), .int (nI j)]) (n := 2) (Nat.le_of_ble_eq_true rfl)
  rw [lg_entry_eq]
  generalize (lg_sl ([.ref (r 9), .int (nI j)]) ++ List.replicate (2 - (lg_sl ([.ref (r 9), .int (nI j)])).length) Slot.unset).toArray = ls at hl ⊢
  have hl : lv_has ls 2 [(0, .ref (r 9)), (1, .int (nI j))] := hl
  refine lv_aload_n hx hb dX4_read_0 rfl (lv_at hl 0 rfl) ?_
  refine lv_iload_n hx hb dX4_read_1 rfl (lv_at hl 1 rfl) ?_
  refine wVi (eO_S tO) (As := [.int (nI j)]) (rest := []) ⟨hx, hb, hml, hown, hts⟩ (kX4_hasCell l D cA r _ u a th LP tf tO 3 Ln (nI j) (by decide) hln hl60) (cwV 1 hts gX4_read_X4_hasCell rfl rfl rfl (by decide +kernel) ⟨Nat.le_of_ble_eq_true rfl, Nat.le_of_ble_eq_true rfl⟩) (va_recv hK hP (ci := 4) (q0 := 9) rfl rfl) hK hP hD hS hA hE rfl hl.1 rfl (Nat.le_of_ble_eq_true rfl) dX4_read_2 ⟨Nat.zero_le _, Nat.zero_le _⟩ (fun rv_1 z_3 H locs hw_2 hP hD hS => ?_)
  obtain ⟨hz_4, hw_2⟩ := hw_2
  subst hz_4
  have hP : va_P D vwCl (xN cA r (u, a, th, LP, tf)) H := hP
  have hD : va_D A (xN cA r (u, a, th, LP, tf)) := hD
  rcases hw_2 with ⟨rfl, b_5⟩ | ⟨rfl, b_5⟩
  · refine lv_if_eq (tgt := 17) hx hb dX4_read_5 (by decide) (fun c_6 => absurd c_6 (by decide)) (fun _ => ?_)
    refine lv_aload_n hx hb dX4_read_8 rfl (lv_at hl 0 rfl) ?_
    refine va_get (D := D) (ci := 4) (v := .ref (r 29)) (C := RX4) (T := TX4) (N := 3) hx hb hts hinX4 hown hK hP 9 rfl rfl 2 (by decide) (hts (.fieldLink RX4 18 "OneNail$Sheet" "cells" "[I") (by decide +kernel)) (fun _ h9 => h9) rfl dX4_read_9 ?_
    refine lv_iload_n hx hb dX4_read_12 rfl (lv_at hl 1 rfl) ?_
    refine ra_iald hx hb hK hP 29 0 (n := 60) (f := (a 29)) (j := j) (v := ((a 29) j)) rfl rfl (by omega) (by decide) (rfl) dX4_read_13 ?_
    refine lv_goto (tgt := 18) hx hb dX4_read_14 (by decide) ?_
    exact wIret hx hb hr hlocks (v := ((a 29) j)) (u, a, th, LP, tf) (⟨rfl, rfl⟩) hK hP hD hS dX4_read_18
  · refine lv_if_eq (tgt := 17) hx hb dX4_read_5 (by decide) (fun _ => ?_) (fun c_7 => absurd c_7 (by decide))
    refine lv_iconst (v := (nI 0)) hx hb dX4_read_17 rfl ?_
    exact wIret hx hb hr hlocks (v := (nI 0)) (u, a, th, LP, tf) (False.elim (b_5 ⟨j, hj, rfl⟩)) hK hP hD hS dX4_read_18

set_option maxHeartbeats 4000000 in
set_option maxRecDepth 100000 in
theorem kX4_read (l : Launch) (D : va_G) (cA : Nat → ClassId) (r : Nat → Nat) (sz : Nat) (u : Nat → Int32) (a : Nat → Nat → Int32) (th : Nat → Option Nat) (LP : List Nat) (tf : Nat → va_E) (tO : Nat) (k9 : Nat) (Ln j : Nat) (hk9 : k9 < 4) (hln : u (18 + k9) = nI Ln) (hl60 : Ln ≤ 60) (hj : j < Ln) : Met l yX4_read wsX4_read ({ frames := 1, cells := 0, slots := 0, locals := 21 } : Room) (va_Pc [.ref (r (6 + k9)), .int (nI j)] (wA D vwCl (tyA cA) (eO tO) (xN cA r) (u, a, th, LP, tf) sz)) (va_Qi (fun (v : Int32) (z : sN) => v = a (26 + k9) j ∧ z = (u, a, th, LP, tf)) (wB D vwCl (tyA cA) (xN cA r) (va_A (xN cA r (u, a, th, LP, tf)) sz)) (va_A (xN cA r (u, a, th, LP, tf)) sz)) 0 0 (va_A (xN cA r (u, a, th, LP, tf)) sz) := by
  rcases (show k9 = 0 ∨ k9 = 1 ∨ k9 = 2 ∨ k9 = 3 by omega) with rfl | rfl | rfl | rfl
  · exact kX4_read_q0 l D cA r sz u a th LP tf tO Ln j hln hl60 hj
  · exact kX4_read_q1 l D cA r sz u a th LP tf tO Ln j hln hl60 hj
  · exact kX4_read_q2 l D cA r sz u a th LP tf tO Ln j hln hl60 hj
  · exact kX4_read_q3 l D cA r sz u a th LP tf tO Ln j hln hl60 hj

set_option maxHeartbeats 4000000 in
set_option maxRecDepth 100000 in
theorem kX4_write_q0 (l : Launch) (D : va_G) (cA : Nat → ClassId) (r : Nat → Nat) (sz : Nat) (u : Nat → Int32) (a : Nat → Nat → Int32) (th : Nat → Option Nat) (LP : List Nat) (tf : Nat → va_E) (tO : Nat) (Ln j : Nat) (w : Int32) (hln : u 18 = nI Ln) (hl60 : Ln ≤ 60) (hj : j < Ln) : Met l yX4_write wsX4_write ({ frames := 1, cells := 0, slots := 0, locals := 21 } : Room) (va_Pc [.ref (r 6), .int (nI j), .int w] (wA D vwCl (tyA cA) (eO tO) (xN cA r) (u, a, th, LP, tf) sz)) (va_Qv (fun (z : sN) => z = (u, va_up a 26 (upd (a 26) j (cut (u 14) w)), th, LP, tf)) (wB D vwCl (tyA cA) (xN cA r) (va_A (xN cA r (u, a, th, LP, tf)) sz)) (va_A (xN cA r (u, a, th, LP, tf)) sz)) 0 0 (va_A (xN cA r (u, a, th, LP, tf)) sz) := by
  refine Met.ofW (cc := cX4_write) (maxL := 3) (ret := none) (by decide) rfl ?_
  intro p e s m args below meth c s₁ B hml hv
  obtain ⟨rfl, hsz, hP, hK, hD0, hE⟩ := hv
  have hx := B.exec
  have hb := B.bytes
  have hr := B.returns
  have hts := atoms_spec (ws := wsX4_write) B.pre
  have hown : s.vm.findClass RX4 = some m.cls := findClass_of_methodNamed B.named
  have hlocks := B.notSynchronized
  subst hsz
  have hD := hD0.self (sz := s.heap.size)
  generalize hAe : va_A (xN cA r (u, a, th, LP, tf)) s.heap.size = A at hD hE ⊢
  have hA : ∀ q : Nat, s.heap.size ≤ q → A q := fun q h => by rw [← hAe]; exact Or.inr h
  have hS : va_S A s.heap s.heap [] := va_S.rf
  have hinX4 : ∀ w ∈ u_ws RX4 TX4 3, w ∈ wsX4_write := by decide +kernel
  have hl := lv_entry ([.ref (r 6), .int (nI j), .int w]) (n := 3) (Nat.le_of_ble_eq_true rfl)
  rw [lg_entry_eq]
  generalize (lg_sl ([.ref (r 6), .int (nI j), .int w]) ++ List.replicate (3 - (lg_sl ([.ref (r 6), .int (nI j), .int w])).length) Slot.unset).toArray = ls at hl ⊢
  have hl : lv_has ls 3 [(0, .ref (r 6)), (1, .int (nI j)), (2, .int w)] := hl
  refine lv_aload_n hx hb dX4_write_0 rfl (lv_at hl 0 rfl) ?_
  refine lv_iload_n hx hb dX4_write_1 rfl (lv_at hl 1 rfl) ?_
  refine wVi (eO_S tO) (As := [.int (nI j)]) (rest := []) ⟨hx, hb, hml, hown, hts⟩ (kX4_hasCell l D cA r _ u a th LP tf tO 0 Ln (nI j) (by decide) hln hl60) (cwV 1 hts gX4_write_X4_hasCell rfl rfl rfl (by decide +kernel) ⟨Nat.le_of_ble_eq_true rfl, Nat.le_of_ble_eq_true rfl⟩) (va_recv hK hP (ci := 4) (q0 := 6) rfl rfl) hK hP hD hS hA hE rfl hl.1 rfl (Nat.le_of_ble_eq_true rfl) dX4_write_2 ⟨Nat.zero_le _, Nat.zero_le _⟩ (fun rv_1 z_3 H locs hw_2 hP hD hS => ?_)
  obtain ⟨hz_4, hw_2⟩ := hw_2
  subst hz_4
  have hP : va_P D vwCl (xN cA r (u, a, th, LP, tf)) H := hP
  have hD : va_D A (xN cA r (u, a, th, LP, tf)) := hD
  rcases hw_2 with ⟨rfl, b_5⟩ | ⟨rfl, b_5⟩
  · refine lv_if_ne (tgt := 9) hx hb dX4_write_5 (by decide) (fun _ => ?_) (fun c_6 => absurd c_6 (by decide))
    refine lv_aload_n hx hb dX4_write_9 rfl (lv_at hl 0 rfl) ?_
    refine va_get (D := D) (ci := 4) (v := .int (u 14)) (C := RX4) (T := TX4) (N := 3) hx hb hts hinX4 hown hK hP 6 rfl rfl 0 (by decide) (hts (.fieldLink RX4 11 "OneNail$Sheet" "lane" "I") (by decide +kernel)) (fun _ h9 => h9) rfl dX4_write_10 ?_
    refine lv_if_ne (tgt := 27) hx hb dX4_write_13 (by decide) (fun c_7 => ?_) (fun c_7 => ?_)
    · refine lv_aload_n hx hb dX4_write_27 rfl (lv_at hl 0 rfl) ?_
      refine va_get (D := D) (ci := 4) (v := .int (u 14)) (C := RX4) (T := TX4) (N := 3) hx hb hts hinX4 hown hK hP 6 rfl rfl 0 (by decide) (hts (.fieldLink RX4 11 "OneNail$Sheet" "lane" "I") (by decide +kernel)) (fun _ h9 => h9) rfl dX4_write_28 ?_
      refine lv_iconst (v := (nI 1)) hx hb dX4_write_31 rfl ?_
      refine lv_icmp_ne (tgt := 46) hx hb dX4_write_32 (by decide) (fun c_8 => ?_) (fun c_8 => ?_)
      · refine lv_aload_n hx hb dX4_write_46 rfl (lv_at hl 0 rfl) ?_
        refine va_get (D := D) (ci := 4) (v := .ref (r 26)) (C := RX4) (T := TX4) (N := 3) hx hb hts hinX4 hown hK hP 6 rfl rfl 2 (by decide) (hts (.fieldLink RX4 18 "OneNail$Sheet" "cells" "[I") (by decide +kernel)) (fun _ h9 => h9) rfl dX4_write_47 ?_
        refine lv_iload_n hx hb dX4_write_50 rfl (lv_at hl 1 rfl) ?_
        refine lv_iload_n hx hb dX4_write_51 rfl (lv_at hl 2 rfl) ?_
        refine ra_iast hx hb hK hP hD hS 26 0 (n := 60) (f := (a 26)) (j := j) (x := w) rfl rfl (by omega) (by decide) dX4_write_52 (fun H locs hP hD hS => ?_)
        have hP : va_P D vwCl (xN cA r (u, (va_up a 26 (upd (a 26) j w)), th, LP, tf)) H := hP
        have hD : va_D A (xN cA r (u, (va_up a 26 (upd (a 26) j w)), th, LP, tf)) := hD
        exact wVret hx hb hr hlocks (u, (va_up a 26 (upd (a 26) j w)), th, LP, tf) (by unfold cut; rw [if_neg c_7, if_neg c_8]) hK hP hD hS dX4_write_53
      · refine lv_aload_n hx hb dX4_write_35 rfl (lv_at hl 0 rfl) ?_
        refine va_get (D := D) (ci := 4) (v := .ref (r 26)) (C := RX4) (T := TX4) (N := 3) hx hb hts hinX4 hown hK hP 6 rfl rfl 2 (by decide) (hts (.fieldLink RX4 18 "OneNail$Sheet" "cells" "[I") (by decide +kernel)) (fun _ h9 => h9) rfl dX4_write_36 ?_
        refine lv_iload_n hx hb dX4_write_39 rfl (lv_at hl 1 rfl) ?_
        refine lv_iload_n hx hb dX4_write_40 rfl (lv_at hl 2 rfl) ?_
        refine lv_i2s (v := (w.toInt16.toInt32)) hx hb dX4_write_41 rfl ?_
        refine ra_iast hx hb hK hP hD hS 26 0 (n := 60) (f := (a 26)) (j := j) (x := (w.toInt16.toInt32)) rfl rfl (by omega) (by decide) dX4_write_42 (fun H locs hP hD hS => ?_)
        have hP : va_P D vwCl (xN cA r (u, (va_up a 26 (upd (a 26) j (w.toInt16.toInt32))), th, LP, tf)) H := hP
        have hD : va_D A (xN cA r (u, (va_up a 26 (upd (a 26) j (w.toInt16.toInt32))), th, LP, tf)) := hD
        refine lv_goto (tgt := 53) hx hb dX4_write_43 (by decide) ?_
        exact wVret hx hb hr hlocks (u, (va_up a 26 (upd (a 26) j (w.toInt16.toInt32))), th, LP, tf) (by unfold cut; rw [if_neg c_7, if_pos c_8]) hK hP hD hS dX4_write_53
    · refine lv_aload_n hx hb dX4_write_16 rfl (lv_at hl 0 rfl) ?_
      refine va_get (D := D) (ci := 4) (v := .ref (r 26)) (C := RX4) (T := TX4) (N := 3) hx hb hts hinX4 hown hK hP 6 rfl rfl 2 (by decide) (hts (.fieldLink RX4 18 "OneNail$Sheet" "cells" "[I") (by decide +kernel)) (fun _ h9 => h9) rfl dX4_write_17 ?_
      refine lv_iload_n hx hb dX4_write_20 rfl (lv_at hl 1 rfl) ?_
      refine lv_iload_n hx hb dX4_write_21 rfl (lv_at hl 2 rfl) ?_
      refine lv_i2b (v := (w.toInt8.toInt32)) hx hb dX4_write_22 rfl ?_
      refine ra_iast hx hb hK hP hD hS 26 0 (n := 60) (f := (a 26)) (j := j) (x := (w.toInt8.toInt32)) rfl rfl (by omega) (by decide) dX4_write_23 (fun H locs hP hD hS => ?_)
      have hP : va_P D vwCl (xN cA r (u, (va_up a 26 (upd (a 26) j (w.toInt8.toInt32))), th, LP, tf)) H := hP
      have hD : va_D A (xN cA r (u, (va_up a 26 (upd (a 26) j (w.toInt8.toInt32))), th, LP, tf)) := hD
      refine lv_goto (tgt := 53) hx hb dX4_write_24 (by decide) ?_
      exact wVret hx hb hr hlocks (u, (va_up a 26 (upd (a 26) j (w.toInt8.toInt32))), th, LP, tf) (by unfold cut; rw [if_pos c_7]) hK hP hD hS dX4_write_53
  · refine lv_if_ne (tgt := 9) hx hb dX4_write_5 (by decide) (fun c_9 => absurd c_9 (by decide)) (fun _ => ?_)
    exact wVret hx hb hr hlocks (u, a, th, LP, tf) (False.elim (b_5 ⟨j, hj, rfl⟩)) hK hP hD hS dX4_write_8

set_option maxHeartbeats 4000000 in
set_option maxRecDepth 100000 in
theorem kX4_write_q1 (l : Launch) (D : va_G) (cA : Nat → ClassId) (r : Nat → Nat) (sz : Nat) (u : Nat → Int32) (a : Nat → Nat → Int32) (th : Nat → Option Nat) (LP : List Nat) (tf : Nat → va_E) (tO : Nat) (Ln j : Nat) (w : Int32) (hln : u 19 = nI Ln) (hl60 : Ln ≤ 60) (hj : j < Ln) : Met l yX4_write wsX4_write ({ frames := 1, cells := 0, slots := 0, locals := 21 } : Room) (va_Pc [.ref (r 7), .int (nI j), .int w] (wA D vwCl (tyA cA) (eO tO) (xN cA r) (u, a, th, LP, tf) sz)) (va_Qv (fun (z : sN) => z = (u, va_up a 27 (upd (a 27) j (cut (u 15) w)), th, LP, tf)) (wB D vwCl (tyA cA) (xN cA r) (va_A (xN cA r (u, a, th, LP, tf)) sz)) (va_A (xN cA r (u, a, th, LP, tf)) sz)) 0 0 (va_A (xN cA r (u, a, th, LP, tf)) sz) := by
  refine Met.ofW (cc := cX4_write) (maxL := 3) (ret := none) (by decide) rfl ?_
  intro p e s m args below meth c s₁ B hml hv
  obtain ⟨rfl, hsz, hP, hK, hD0, hE⟩ := hv
  have hx := B.exec
  have hb := B.bytes
  have hr := B.returns
  have hts := atoms_spec (ws := wsX4_write) B.pre
  have hown : s.vm.findClass RX4 = some m.cls := findClass_of_methodNamed B.named
  have hlocks := B.notSynchronized
  subst hsz
  have hD := hD0.self (sz := s.heap.size)
  generalize hAe : va_A (xN cA r (u, a, th, LP, tf)) s.heap.size = A at hD hE ⊢
  have hA : ∀ q : Nat, s.heap.size ≤ q → A q := fun q h => by rw [← hAe]; exact Or.inr h
  have hS : va_S A s.heap s.heap [] := va_S.rf
  have hinX4 : ∀ w ∈ u_ws RX4 TX4 3, w ∈ wsX4_write := by decide +kernel
  have hl := lv_entry ([.ref (r 7), .int (nI j), .int w]) (n := 3) (Nat.le_of_ble_eq_true rfl)
  rw [lg_entry_eq]
  generalize (lg_sl ([.ref (r 7), .int (nI j), .int w]) ++ List.replicate (3 - (lg_sl ([.ref (r 7), .int (nI j), .int w])).length) Slot.unset).toArray = ls at hl ⊢
  have hl : lv_has ls 3 [(0, .ref (r 7)), (1, .int (nI j)), (2, .int w)] := hl
  refine lv_aload_n hx hb dX4_write_0 rfl (lv_at hl 0 rfl) ?_
  refine lv_iload_n hx hb dX4_write_1 rfl (lv_at hl 1 rfl) ?_
  refine wVi (eO_S tO) (As := [.int (nI j)]) (rest := []) ⟨hx, hb, hml, hown, hts⟩ (kX4_hasCell l D cA r _ u a th LP tf tO 1 Ln (nI j) (by decide) hln hl60) (cwV 1 hts gX4_write_X4_hasCell rfl rfl rfl (by decide +kernel) ⟨Nat.le_of_ble_eq_true rfl, Nat.le_of_ble_eq_true rfl⟩) (va_recv hK hP (ci := 4) (q0 := 7) rfl rfl) hK hP hD hS hA hE rfl hl.1 rfl (Nat.le_of_ble_eq_true rfl) dX4_write_2 ⟨Nat.zero_le _, Nat.zero_le _⟩ (fun rv_1 z_3 H locs hw_2 hP hD hS => ?_)
  obtain ⟨hz_4, hw_2⟩ := hw_2
  subst hz_4
  have hP : va_P D vwCl (xN cA r (u, a, th, LP, tf)) H := hP
  have hD : va_D A (xN cA r (u, a, th, LP, tf)) := hD
  rcases hw_2 with ⟨rfl, b_5⟩ | ⟨rfl, b_5⟩
  · refine lv_if_ne (tgt := 9) hx hb dX4_write_5 (by decide) (fun _ => ?_) (fun c_6 => absurd c_6 (by decide))
    refine lv_aload_n hx hb dX4_write_9 rfl (lv_at hl 0 rfl) ?_
    refine va_get (D := D) (ci := 4) (v := .int (u 15)) (C := RX4) (T := TX4) (N := 3) hx hb hts hinX4 hown hK hP 7 rfl rfl 0 (by decide) (hts (.fieldLink RX4 11 "OneNail$Sheet" "lane" "I") (by decide +kernel)) (fun _ h9 => h9) rfl dX4_write_10 ?_
    refine lv_if_ne (tgt := 27) hx hb dX4_write_13 (by decide) (fun c_7 => ?_) (fun c_7 => ?_)
    · refine lv_aload_n hx hb dX4_write_27 rfl (lv_at hl 0 rfl) ?_
      refine va_get (D := D) (ci := 4) (v := .int (u 15)) (C := RX4) (T := TX4) (N := 3) hx hb hts hinX4 hown hK hP 7 rfl rfl 0 (by decide) (hts (.fieldLink RX4 11 "OneNail$Sheet" "lane" "I") (by decide +kernel)) (fun _ h9 => h9) rfl dX4_write_28 ?_
      refine lv_iconst (v := (nI 1)) hx hb dX4_write_31 rfl ?_
      refine lv_icmp_ne (tgt := 46) hx hb dX4_write_32 (by decide) (fun c_8 => ?_) (fun c_8 => ?_)
      · refine lv_aload_n hx hb dX4_write_46 rfl (lv_at hl 0 rfl) ?_
        refine va_get (D := D) (ci := 4) (v := .ref (r 27)) (C := RX4) (T := TX4) (N := 3) hx hb hts hinX4 hown hK hP 7 rfl rfl 2 (by decide) (hts (.fieldLink RX4 18 "OneNail$Sheet" "cells" "[I") (by decide +kernel)) (fun _ h9 => h9) rfl dX4_write_47 ?_
        refine lv_iload_n hx hb dX4_write_50 rfl (lv_at hl 1 rfl) ?_
        refine lv_iload_n hx hb dX4_write_51 rfl (lv_at hl 2 rfl) ?_
        refine ra_iast hx hb hK hP hD hS 27 0 (n := 60) (f := (a 27)) (j := j) (x := w) rfl rfl (by omega) (by decide) dX4_write_52 (fun H locs hP hD hS => ?_)
        have hP : va_P D vwCl (xN cA r (u, (va_up a 27 (upd (a 27) j w)), th, LP, tf)) H := hP
        have hD : va_D A (xN cA r (u, (va_up a 27 (upd (a 27) j w)), th, LP, tf)) := hD
        exact wVret hx hb hr hlocks (u, (va_up a 27 (upd (a 27) j w)), th, LP, tf) (by unfold cut; rw [if_neg c_7, if_neg c_8]) hK hP hD hS dX4_write_53
      · refine lv_aload_n hx hb dX4_write_35 rfl (lv_at hl 0 rfl) ?_
        refine va_get (D := D) (ci := 4) (v := .ref (r 27)) (C := RX4) (T := TX4) (N := 3) hx hb hts hinX4 hown hK hP 7 rfl rfl 2 (by decide) (hts (.fieldLink RX4 18 "OneNail$Sheet" "cells" "[I") (by decide +kernel)) (fun _ h9 => h9) rfl dX4_write_36 ?_
        refine lv_iload_n hx hb dX4_write_39 rfl (lv_at hl 1 rfl) ?_
        refine lv_iload_n hx hb dX4_write_40 rfl (lv_at hl 2 rfl) ?_
        refine lv_i2s (v := (w.toInt16.toInt32)) hx hb dX4_write_41 rfl ?_
        refine ra_iast hx hb hK hP hD hS 27 0 (n := 60) (f := (a 27)) (j := j) (x := (w.toInt16.toInt32)) rfl rfl (by omega) (by decide) dX4_write_42 (fun H locs hP hD hS => ?_)
        have hP : va_P D vwCl (xN cA r (u, (va_up a 27 (upd (a 27) j (w.toInt16.toInt32))), th, LP, tf)) H := hP
        have hD : va_D A (xN cA r (u, (va_up a 27 (upd (a 27) j (w.toInt16.toInt32))), th, LP, tf)) := hD
        refine lv_goto (tgt := 53) hx hb dX4_write_43 (by decide) ?_
        exact wVret hx hb hr hlocks (u, (va_up a 27 (upd (a 27) j (w.toInt16.toInt32))), th, LP, tf) (by unfold cut; rw [if_neg c_7, if_pos c_8]) hK hP hD hS dX4_write_53
    · refine lv_aload_n hx hb dX4_write_16 rfl (lv_at hl 0 rfl) ?_
      refine va_get (D := D) (ci := 4) (v := .ref (r 27)) (C := RX4) (T := TX4) (N := 3) hx hb hts hinX4 hown hK hP 7 rfl rfl 2 (by decide) (hts (.fieldLink RX4 18 "OneNail$Sheet" "cells" "[I") (by decide +kernel)) (fun _ h9 => h9) rfl dX4_write_17 ?_
      refine lv_iload_n hx hb dX4_write_20 rfl (lv_at hl 1 rfl) ?_
      refine lv_iload_n hx hb dX4_write_21 rfl (lv_at hl 2 rfl) ?_
      refine lv_i2b (v := (w.toInt8.toInt32)) hx hb dX4_write_22 rfl ?_
      refine ra_iast hx hb hK hP hD hS 27 0 (n := 60) (f := (a 27)) (j := j) (x := (w.toInt8.toInt32)) rfl rfl (by omega) (by decide) dX4_write_23 (fun H locs hP hD hS => ?_)
      have hP : va_P D vwCl (xN cA r (u, (va_up a 27 (upd (a 27) j (w.toInt8.toInt32))), th, LP, tf)) H := hP
      have hD : va_D A (xN cA r (u, (va_up a 27 (upd (a 27) j (w.toInt8.toInt32))), th, LP, tf)) := hD
      refine lv_goto (tgt := 53) hx hb dX4_write_24 (by decide) ?_
      exact wVret hx hb hr hlocks (u, (va_up a 27 (upd (a 27) j (w.toInt8.toInt32))), th, LP, tf) (by unfold cut; rw [if_pos c_7]) hK hP hD hS dX4_write_53
  · refine lv_if_ne (tgt := 9) hx hb dX4_write_5 (by decide) (fun c_9 => absurd c_9 (by decide)) (fun _ => ?_)
    exact wVret hx hb hr hlocks (u, a, th, LP, tf) (False.elim (b_5 ⟨j, hj, rfl⟩)) hK hP hD hS dX4_write_8

set_option maxHeartbeats 4000000 in
set_option maxRecDepth 100000 in
theorem kX4_write_q2 (l : Launch) (D : va_G) (cA : Nat → ClassId) (r : Nat → Nat) (sz : Nat) (u : Nat → Int32) (a : Nat → Nat → Int32) (th : Nat → Option Nat) (LP : List Nat) (tf : Nat → va_E) (tO : Nat) (Ln j : Nat) (w : Int32) (hln : u 20 = nI Ln) (hl60 : Ln ≤ 60) (hj : j < Ln) : Met l yX4_write wsX4_write ({ frames := 1, cells := 0, slots := 0, locals := 21 } : Room) (va_Pc [.ref (r 8), .int (nI j), .int w] (wA D vwCl (tyA cA) (eO tO) (xN cA r) (u, a, th, LP, tf) sz)) (va_Qv (fun (z : sN) => z = (u, va_up a 28 (upd (a 28) j (cut (u 16) w)), th, LP, tf)) (wB D vwCl (tyA cA) (xN cA r) (va_A (xN cA r (u, a, th, LP, tf)) sz)) (va_A (xN cA r (u, a, th, LP, tf)) sz)) 0 0 (va_A (xN cA r (u, a, th, LP, tf)) sz) := by
  refine Met.ofW (cc := cX4_write) (maxL := 3) (ret := none) (by decide) rfl ?_
  intro p e s m args below meth c s₁ B hml hv
  obtain ⟨rfl, hsz, hP, hK, hD0, hE⟩ := hv
  have hx := B.exec
  have hb := B.bytes
  have hr := B.returns
  have hts := atoms_spec (ws := wsX4_write) B.pre
  have hown : s.vm.findClass RX4 = some m.cls := findClass_of_methodNamed B.named
  have hlocks := B.notSynchronized
  subst hsz
  have hD := hD0.self (sz := s.heap.size)
  generalize hAe : va_A (xN cA r (u, a, th, LP, tf)) s.heap.size = A at hD hE ⊢
  have hA : ∀ q : Nat, s.heap.size ≤ q → A q := fun q h => by rw [← hAe]; exact Or.inr h
  have hS : va_S A s.heap s.heap [] := va_S.rf
  have hinX4 : ∀ w ∈ u_ws RX4 TX4 3, w ∈ wsX4_write := by decide +kernel
  have hl := lv_entry ([.ref (r 8), .int (nI j), .int w]) (n := 3) (Nat.le_of_ble_eq_true rfl)
  rw [lg_entry_eq]
  generalize (lg_sl ([.ref (r 8), .int (nI j), .int w]) ++ List.replicate (3 - (lg_sl ([.ref (r 8), .int (nI j), .int w])).length) Slot.unset).toArray = ls at hl ⊢
  have hl : lv_has ls 3 [(0, .ref (r 8)), (1, .int (nI j)), (2, .int w)] := hl
  refine lv_aload_n hx hb dX4_write_0 rfl (lv_at hl 0 rfl) ?_
  refine lv_iload_n hx hb dX4_write_1 rfl (lv_at hl 1 rfl) ?_
  refine wVi (eO_S tO) (As := [.int (nI j)]) (rest := []) ⟨hx, hb, hml, hown, hts⟩ (kX4_hasCell l D cA r _ u a th LP tf tO 2 Ln (nI j) (by decide) hln hl60) (cwV 1 hts gX4_write_X4_hasCell rfl rfl rfl (by decide +kernel) ⟨Nat.le_of_ble_eq_true rfl, Nat.le_of_ble_eq_true rfl⟩) (va_recv hK hP (ci := 4) (q0 := 8) rfl rfl) hK hP hD hS hA hE rfl hl.1 rfl (Nat.le_of_ble_eq_true rfl) dX4_write_2 ⟨Nat.zero_le _, Nat.zero_le _⟩ (fun rv_1 z_3 H locs hw_2 hP hD hS => ?_)
  obtain ⟨hz_4, hw_2⟩ := hw_2
  subst hz_4
  have hP : va_P D vwCl (xN cA r (u, a, th, LP, tf)) H := hP
  have hD : va_D A (xN cA r (u, a, th, LP, tf)) := hD
  rcases hw_2 with ⟨rfl, b_5⟩ | ⟨rfl, b_5⟩
  · refine lv_if_ne (tgt := 9) hx hb dX4_write_5 (by decide) (fun _ => ?_) (fun c_6 => absurd c_6 (by decide))
    refine lv_aload_n hx hb dX4_write_9 rfl (lv_at hl 0 rfl) ?_
    refine va_get (D := D) (ci := 4) (v := .int (u 16)) (C := RX4) (T := TX4) (N := 3) hx hb hts hinX4 hown hK hP 8 rfl rfl 0 (by decide) (hts (.fieldLink RX4 11 "OneNail$Sheet" "lane" "I") (by decide +kernel)) (fun _ h9 => h9) rfl dX4_write_10 ?_
    refine lv_if_ne (tgt := 27) hx hb dX4_write_13 (by decide) (fun c_7 => ?_) (fun c_7 => ?_)
    · refine lv_aload_n hx hb dX4_write_27 rfl (lv_at hl 0 rfl) ?_
      refine va_get (D := D) (ci := 4) (v := .int (u 16)) (C := RX4) (T := TX4) (N := 3) hx hb hts hinX4 hown hK hP 8 rfl rfl 0 (by decide) (hts (.fieldLink RX4 11 "OneNail$Sheet" "lane" "I") (by decide +kernel)) (fun _ h9 => h9) rfl dX4_write_28 ?_
      refine lv_iconst (v := (nI 1)) hx hb dX4_write_31 rfl ?_
      refine lv_icmp_ne (tgt := 46) hx hb dX4_write_32 (by decide) (fun c_8 => ?_) (fun c_8 => ?_)
      · refine lv_aload_n hx hb dX4_write_46 rfl (lv_at hl 0 rfl) ?_
        refine va_get (D := D) (ci := 4) (v := .ref (r 28)) (C := RX4) (T := TX4) (N := 3) hx hb hts hinX4 hown hK hP 8 rfl rfl 2 (by decide) (hts (.fieldLink RX4 18 "OneNail$Sheet" "cells" "[I") (by decide +kernel)) (fun _ h9 => h9) rfl dX4_write_47 ?_
        refine lv_iload_n hx hb dX4_write_50 rfl (lv_at hl 1 rfl) ?_
        refine lv_iload_n hx hb dX4_write_51 rfl (lv_at hl 2 rfl) ?_
        refine ra_iast hx hb hK hP hD hS 28 0 (n := 60) (f := (a 28)) (j := j) (x := w) rfl rfl (by omega) (by decide) dX4_write_52 (fun H locs hP hD hS => ?_)
        have hP : va_P D vwCl (xN cA r (u, (va_up a 28 (upd (a 28) j w)), th, LP, tf)) H := hP
        have hD : va_D A (xN cA r (u, (va_up a 28 (upd (a 28) j w)), th, LP, tf)) := hD
        exact wVret hx hb hr hlocks (u, (va_up a 28 (upd (a 28) j w)), th, LP, tf) (by unfold cut; rw [if_neg c_7, if_neg c_8]) hK hP hD hS dX4_write_53
      · refine lv_aload_n hx hb dX4_write_35 rfl (lv_at hl 0 rfl) ?_
        refine va_get (D := D) (ci := 4) (v := .ref (r 28)) (C := RX4) (T := TX4) (N := 3) hx hb hts hinX4 hown hK hP 8 rfl rfl 2 (by decide) (hts (.fieldLink RX4 18 "OneNail$Sheet" "cells" "[I") (by decide +kernel)) (fun _ h9 => h9) rfl dX4_write_36 ?_
        refine lv_iload_n hx hb dX4_write_39 rfl (lv_at hl 1 rfl) ?_
        refine lv_iload_n hx hb dX4_write_40 rfl (lv_at hl 2 rfl) ?_
        refine lv_i2s (v := (w.toInt16.toInt32)) hx hb dX4_write_41 rfl ?_
        refine ra_iast hx hb hK hP hD hS 28 0 (n := 60) (f := (a 28)) (j := j) (x := (w.toInt16.toInt32)) rfl rfl (by omega) (by decide) dX4_write_42 (fun H locs hP hD hS => ?_)
        have hP : va_P D vwCl (xN cA r (u, (va_up a 28 (upd (a 28) j (w.toInt16.toInt32))), th, LP, tf)) H := hP
        have hD : va_D A (xN cA r (u, (va_up a 28 (upd (a 28) j (w.toInt16.toInt32))), th, LP, tf)) := hD
        refine lv_goto (tgt := 53) hx hb dX4_write_43 (by decide) ?_
        exact wVret hx hb hr hlocks (u, (va_up a 28 (upd (a 28) j (w.toInt16.toInt32))), th, LP, tf) (by unfold cut; rw [if_neg c_7, if_pos c_8]) hK hP hD hS dX4_write_53
    · refine lv_aload_n hx hb dX4_write_16 rfl (lv_at hl 0 rfl) ?_
      refine va_get (D := D) (ci := 4) (v := .ref (r 28)) (C := RX4) (T := TX4) (N := 3) hx hb hts hinX4 hown hK hP 8 rfl rfl 2 (by decide) (hts (.fieldLink RX4 18 "OneNail$Sheet" "cells" "[I") (by decide +kernel)) (fun _ h9 => h9) rfl dX4_write_17 ?_
      refine lv_iload_n hx hb dX4_write_20 rfl (lv_at hl 1 rfl) ?_
      refine lv_iload_n hx hb dX4_write_21 rfl (lv_at hl 2 rfl) ?_
      refine lv_i2b (v := (w.toInt8.toInt32)) hx hb dX4_write_22 rfl ?_
      refine ra_iast hx hb hK hP hD hS 28 0 (n := 60) (f := (a 28)) (j := j) (x := (w.toInt8.toInt32)) rfl rfl (by omega) (by decide) dX4_write_23 (fun H locs hP hD hS => ?_)
      have hP : va_P D vwCl (xN cA r (u, (va_up a 28 (upd (a 28) j (w.toInt8.toInt32))), th, LP, tf)) H := hP
      have hD : va_D A (xN cA r (u, (va_up a 28 (upd (a 28) j (w.toInt8.toInt32))), th, LP, tf)) := hD
      refine lv_goto (tgt := 53) hx hb dX4_write_24 (by decide) ?_
      exact wVret hx hb hr hlocks (u, (va_up a 28 (upd (a 28) j (w.toInt8.toInt32))), th, LP, tf) (by unfold cut; rw [if_pos c_7]) hK hP hD hS dX4_write_53
  · refine lv_if_ne (tgt := 9) hx hb dX4_write_5 (by decide) (fun c_9 => absurd c_9 (by decide)) (fun _ => ?_)
    exact wVret hx hb hr hlocks (u, a, th, LP, tf) (False.elim (b_5 ⟨j, hj, rfl⟩)) hK hP hD hS dX4_write_8

set_option maxHeartbeats 4000000 in
set_option maxRecDepth 100000 in
theorem kX4_write_q3 (l : Launch) (D : va_G) (cA : Nat → ClassId) (r : Nat → Nat) (sz : Nat) (u : Nat → Int32) (a : Nat → Nat → Int32) (th : Nat → Option Nat) (LP : List Nat) (tf : Nat → va_E) (tO : Nat) (Ln j : Nat) (w : Int32) (hln : u 21 = nI Ln) (hl60 : Ln ≤ 60) (hj : j < Ln) : Met l yX4_write wsX4_write ({ frames := 1, cells := 0, slots := 0, locals := 21 } : Room) (va_Pc [.ref (r 9), .int (nI j), .int w] (wA D vwCl (tyA cA) (eO tO) (xN cA r) (u, a, th, LP, tf) sz)) (va_Qv (fun (z : sN) => z = (u, va_up a 29 (upd (a 29) j (cut (u 17) w)), th, LP, tf)) (wB D vwCl (tyA cA) (xN cA r) (va_A (xN cA r (u, a, th, LP, tf)) sz)) (va_A (xN cA r (u, a, th, LP, tf)) sz)) 0 0 (va_A (xN cA r (u, a, th, LP, tf)) sz) := by
  refine Met.ofW (cc := cX4_write) (maxL := 3) (ret := none) (by decide) rfl ?_
  intro p e s m args below meth c s₁ B hml hv
  obtain ⟨rfl, hsz, hP, hK, hD0, hE⟩ := hv
  have hx := B.exec
  have hb := B.bytes
  have hr := B.returns
  have hts := atoms_spec (ws := wsX4_write) B.pre
  have hown : s.vm.findClass RX4 = some m.cls := findClass_of_methodNamed B.named
  have hlocks := B.notSynchronized
  subst hsz
  have hD := hD0.self (sz := s.heap.size)
  generalize hAe : va_A (xN cA r (u, a, th, LP, tf)) s.heap.size = A at hD hE ⊢
  have hA : ∀ q : Nat, s.heap.size ≤ q → A q := fun q h => by rw [← hAe]; exact Or.inr h
  have hS : va_S A s.heap s.heap [] := va_S.rf
  have hinX4 : ∀ w ∈ u_ws RX4 TX4 3, w ∈ wsX4_write := by decide +kernel
  have hl := lv_entry ([.ref (r 9), .int (nI j), .int w]) (n := 3) (Nat.le_of_ble_eq_true rfl)
  rw [lg_entry_eq]
  generalize (lg_sl ([.ref (r 9), .int (nI j), .int w]) ++ List.replicate (3 - (lg_sl ([.ref (r 9), .int (nI j), .int w])).length) Slot.unset).toArray = ls at hl ⊢
  have hl : lv_has ls 3 [(0, .ref (r 9)), (1, .int (nI j)), (2, .int w)] := hl
  refine lv_aload_n hx hb dX4_write_0 rfl (lv_at hl 0 rfl) ?_
  refine lv_iload_n hx hb dX4_write_1 rfl (lv_at hl 1 rfl) ?_
  refine wVi (eO_S tO) (As := [.int (nI j)]) (rest := []) ⟨hx, hb, hml, hown, hts⟩ (kX4_hasCell l D cA r _ u a th LP tf tO 3 Ln (nI j) (by decide) hln hl60) (cwV 1 hts gX4_write_X4_hasCell rfl rfl rfl (by decide +kernel) ⟨Nat.le_of_ble_eq_true rfl, Nat.le_of_ble_eq_true rfl⟩) (va_recv hK hP (ci := 4) (q0 := 9) rfl rfl) hK hP hD hS hA hE rfl hl.1 rfl (Nat.le_of_ble_eq_true rfl) dX4_write_2 ⟨Nat.zero_le _, Nat.zero_le _⟩ (fun rv_1 z_3 H locs hw_2 hP hD hS => ?_)
  obtain ⟨hz_4, hw_2⟩ := hw_2
  subst hz_4
  have hP : va_P D vwCl (xN cA r (u, a, th, LP, tf)) H := hP
  have hD : va_D A (xN cA r (u, a, th, LP, tf)) := hD
  rcases hw_2 with ⟨rfl, b_5⟩ | ⟨rfl, b_5⟩
  · refine lv_if_ne (tgt := 9) hx hb dX4_write_5 (by decide) (fun _ => ?_) (fun c_6 => absurd c_6 (by decide))
    refine lv_aload_n hx hb dX4_write_9 rfl (lv_at hl 0 rfl) ?_
    refine va_get (D := D) (ci := 4) (v := .int (u 17)) (C := RX4) (T := TX4) (N := 3) hx hb hts hinX4 hown hK hP 9 rfl rfl 0 (by decide) (hts (.fieldLink RX4 11 "OneNail$Sheet" "lane" "I") (by decide +kernel)) (fun _ h9 => h9) rfl dX4_write_10 ?_
    refine lv_if_ne (tgt := 27) hx hb dX4_write_13 (by decide) (fun c_7 => ?_) (fun c_7 => ?_)
    · refine lv_aload_n hx hb dX4_write_27 rfl (lv_at hl 0 rfl) ?_
      refine va_get (D := D) (ci := 4) (v := .int (u 17)) (C := RX4) (T := TX4) (N := 3) hx hb hts hinX4 hown hK hP 9 rfl rfl 0 (by decide) (hts (.fieldLink RX4 11 "OneNail$Sheet" "lane" "I") (by decide +kernel)) (fun _ h9 => h9) rfl dX4_write_28 ?_
      refine lv_iconst (v := (nI 1)) hx hb dX4_write_31 rfl ?_
      refine lv_icmp_ne (tgt := 46) hx hb dX4_write_32 (by decide) (fun c_8 => ?_) (fun c_8 => ?_)
      · refine lv_aload_n hx hb dX4_write_46 rfl (lv_at hl 0 rfl) ?_
        refine va_get (D := D) (ci := 4) (v := .ref (r 29)) (C := RX4) (T := TX4) (N := 3) hx hb hts hinX4 hown hK hP 9 rfl rfl 2 (by decide) (hts (.fieldLink RX4 18 "OneNail$Sheet" "cells" "[I") (by decide +kernel)) (fun _ h9 => h9) rfl dX4_write_47 ?_
        refine lv_iload_n hx hb dX4_write_50 rfl (lv_at hl 1 rfl) ?_
        refine lv_iload_n hx hb dX4_write_51 rfl (lv_at hl 2 rfl) ?_
        refine ra_iast hx hb hK hP hD hS 29 0 (n := 60) (f := (a 29)) (j := j) (x := w) rfl rfl (by omega) (by decide) dX4_write_52 (fun H locs hP hD hS => ?_)
        have hP : va_P D vwCl (xN cA r (u, (va_up a 29 (upd (a 29) j w)), th, LP, tf)) H := hP
        have hD : va_D A (xN cA r (u, (va_up a 29 (upd (a 29) j w)), th, LP, tf)) := hD
        exact wVret hx hb hr hlocks (u, (va_up a 29 (upd (a 29) j w)), th, LP, tf) (by unfold cut; rw [if_neg c_7, if_neg c_8]) hK hP hD hS dX4_write_53
      · refine lv_aload_n hx hb dX4_write_35 rfl (lv_at hl 0 rfl) ?_
        refine va_get (D := D) (ci := 4) (v := .ref (r 29)) (C := RX4) (T := TX4) (N := 3) hx hb hts hinX4 hown hK hP 9 rfl rfl 2 (by decide) (hts (.fieldLink RX4 18 "OneNail$Sheet" "cells" "[I") (by decide +kernel)) (fun _ h9 => h9) rfl dX4_write_36 ?_
        refine lv_iload_n hx hb dX4_write_39 rfl (lv_at hl 1 rfl) ?_
        refine lv_iload_n hx hb dX4_write_40 rfl (lv_at hl 2 rfl) ?_
        refine lv_i2s (v := (w.toInt16.toInt32)) hx hb dX4_write_41 rfl ?_
        refine ra_iast hx hb hK hP hD hS 29 0 (n := 60) (f := (a 29)) (j := j) (x := (w.toInt16.toInt32)) rfl rfl (by omega) (by decide) dX4_write_42 (fun H locs hP hD hS => ?_)
        have hP : va_P D vwCl (xN cA r (u, (va_up a 29 (upd (a 29) j (w.toInt16.toInt32))), th, LP, tf)) H := hP
        have hD : va_D A (xN cA r (u, (va_up a 29 (upd (a 29) j (w.toInt16.toInt32))), th, LP, tf)) := hD
        refine lv_goto (tgt := 53) hx hb dX4_write_43 (by decide) ?_
        exact wVret hx hb hr hlocks (u, (va_up a 29 (upd (a 29) j (w.toInt16.toInt32))), th, LP, tf) (by unfold cut; rw [if_neg c_7, if_pos c_8]) hK hP hD hS dX4_write_53
    · refine lv_aload_n hx hb dX4_write_16 rfl (lv_at hl 0 rfl) ?_
      refine va_get (D := D) (ci := 4) (v := .ref (r 29)) (C := RX4) (T := TX4) (N := 3) hx hb hts hinX4 hown hK hP 9 rfl rfl 2 (by decide) (hts (.fieldLink RX4 18 "OneNail$Sheet" "cells" "[I") (by decide +kernel)) (fun _ h9 => h9) rfl dX4_write_17 ?_
      refine lv_iload_n hx hb dX4_write_20 rfl (lv_at hl 1 rfl) ?_
      refine lv_iload_n hx hb dX4_write_21 rfl (lv_at hl 2 rfl) ?_
      refine lv_i2b (v := (w.toInt8.toInt32)) hx hb dX4_write_22 rfl ?_
      refine ra_iast hx hb hK hP hD hS 29 0 (n := 60) (f := (a 29)) (j := j) (x := (w.toInt8.toInt32)) rfl rfl (by omega) (by decide) dX4_write_23 (fun H locs hP hD hS => ?_)
      have hP : va_P D vwCl (xN cA r (u, (va_up a 29 (upd (a 29) j (w.toInt8.toInt32))), th, LP, tf)) H := hP
      have hD : va_D A (xN cA r (u, (va_up a 29 (upd (a 29) j (w.toInt8.toInt32))), th, LP, tf)) := hD
      refine lv_goto (tgt := 53) hx hb dX4_write_24 (by decide) ?_
      exact wVret hx hb hr hlocks (u, (va_up a 29 (upd (a 29) j (w.toInt8.toInt32))), th, LP, tf) (by unfold cut; rw [if_pos c_7]) hK hP hD hS dX4_write_53
  · refine lv_if_ne (tgt := 9) hx hb dX4_write_5 (by decide) (fun c_9 => absurd c_9 (by decide)) (fun _ => ?_)
    exact wVret hx hb hr hlocks (u, a, th, LP, tf) (False.elim (b_5 ⟨j, hj, rfl⟩)) hK hP hD hS dX4_write_8

set_option maxHeartbeats 4000000 in
set_option maxRecDepth 100000 in
theorem kX4_write (l : Launch) (D : va_G) (cA : Nat → ClassId) (r : Nat → Nat) (sz : Nat) (u : Nat → Int32) (a : Nat → Nat → Int32) (th : Nat → Option Nat) (LP : List Nat) (tf : Nat → va_E) (tO : Nat) (k9 : Nat) (Ln j : Nat) (w : Int32) (hk9 : k9 < 4) (hln : u (18 + k9) = nI Ln) (hl60 : Ln ≤ 60) (hj : j < Ln) : Met l yX4_write wsX4_write ({ frames := 1, cells := 0, slots := 0, locals := 21 } : Room) (va_Pc [.ref (r (6 + k9)), .int (nI j), .int w] (wA D vwCl (tyA cA) (eO tO) (xN cA r) (u, a, th, LP, tf) sz)) (va_Qv (fun (z : sN) => z = (u, va_up a (26 + k9) (upd (a (26 + k9)) j (cut (u (14 + k9)) w)), th, LP, tf)) (wB D vwCl (tyA cA) (xN cA r) (va_A (xN cA r (u, a, th, LP, tf)) sz)) (va_A (xN cA r (u, a, th, LP, tf)) sz)) 0 0 (va_A (xN cA r (u, a, th, LP, tf)) sz) := by
  rcases (show k9 = 0 ∨ k9 = 1 ∨ k9 = 2 ∨ k9 = 3 by omega) with rfl | rfl | rfl | rfl
  · exact kX4_write_q0 l D cA r sz u a th LP tf tO Ln j w hln hl60 hj
  · exact kX4_write_q1 l D cA r sz u a th LP tf tO Ln j w hln hl60 hj
  · exact kX4_write_q2 l D cA r sz u a th LP tf tO Ln j w hln hl60 hj
  · exact kX4_write_q3 l D cA r sz u a th LP tf tO Ln j w hln hl60 hj

set_option maxHeartbeats 4000000 in
set_option maxRecDepth 100000 in
theorem kX4_makeNothing_q0 (l : Launch) (D : va_G) (cA : Nat → ClassId) (r : Nat → Nat) (sz : Nat) (u : Nat → Int32) (a : Nat → Nat → Int32) (th : Nat → Option Nat) (LP : List Nat) (tf : Nat → va_E) (tO : Nat)   : Met l yX4_makeNothing wsX4_makeNothing ({ frames := 0, cells := 0, slots := 0, locals := 0 } : Room) (va_Pc [.ref (r 6)] (wA D vwCl (tyA cA) (eO tO) (xN cA r) (u, a, th, LP, tf) sz)) (va_Qv (fun (z : sN) => z = (upd (upd u 14 (-1)) 18 (nI 0), a, th, LP, tf)) (wB D vwCl (tyA cA) (xN cA r) (va_A (xN cA r (u, a, th, LP, tf)) sz)) (va_A (xN cA r (u, a, th, LP, tf)) sz)) 0 0 (va_A (xN cA r (u, a, th, LP, tf)) sz) := by
  refine Met.ofW (cc := cX4_makeNothing) (maxL := 1) (ret := none) (by decide) rfl ?_
  intro p e s m args below meth c s₁ B hml hv
  obtain ⟨rfl, hsz, hP, hK, hD0, hE⟩ := hv
  have hx := B.exec
  have hb := B.bytes
  have hr := B.returns
  have hts := atoms_spec (ws := wsX4_makeNothing) B.pre
  have hown : s.vm.findClass RX4 = some m.cls := findClass_of_methodNamed B.named
  have hlocks := B.notSynchronized
  subst hsz
  have hD := hD0.self (sz := s.heap.size)
  generalize hAe : va_A (xN cA r (u, a, th, LP, tf)) s.heap.size = A at hD hE ⊢
  have hA : ∀ q : Nat, s.heap.size ≤ q → A q := fun q h => by rw [← hAe]; exact Or.inr h
  have hS : va_S A s.heap s.heap [] := va_S.rf
  have hinX4 : ∀ w ∈ u_ws RX4 TX4 3, w ∈ wsX4_makeNothing := by decide +kernel
  have hl := lv_entry ([.ref (r 6)]) (n := 1) (Nat.le_of_ble_eq_true rfl)
  rw [lg_entry_eq]
  generalize (lg_sl ([.ref (r 6)]) ++ List.replicate (1 - (lg_sl ([.ref (r 6)])).length) Slot.unset).toArray = ls at hl ⊢
  have hl : lv_has ls 1 [(0, .ref (r 6))] := hl
  refine lv_aload_n hx hb dX4_makeNothing_0 rfl (lv_at hl 0 rfl) ?_
  refine lv_iconst (v := (-1)) hx hb dX4_makeNothing_1 (by decide) ?_
  refine va_put (D := D) (ci := 4) (v := .int (-1)) (ty := .int) (C := RX4) (T := TX4) (N := 3) hx hb hts hinX4 tyX4 tyX4_ok nmX4 hown hK hP hD hS 6 rfl rfl 0 (by decide) (hts (.fieldLink RX4 11 "OneNail$Sheet" "lane" "I") (by decide +kernel)) (fun _ h9 => h9) rfl (by decide +kernel) rfl rfl (Nat.le_of_ble_eq_true rfl) dX4_makeNothing_2 (fun H locs hP hD hS => ?_)
  have hP : va_P D vwCl (xN cA r ((upd u 14 (-1)), a, th, LP, tf)) H := hP
  have hD : va_D A (xN cA r ((upd u 14 (-1)), a, th, LP, tf)) := hD
  refine lv_aload_n hx hb dX4_makeNothing_5 rfl (lv_at hl 0 rfl) ?_
  refine lv_iconst (v := (nI 0)) hx hb dX4_makeNothing_6 rfl ?_
  refine va_put (D := D) (ci := 4) (v := .int (nI 0)) (ty := .int) (C := RX4) (T := TX4) (N := 3) hx hb hts hinX4 tyX4 tyX4_ok nmX4 hown hK hP hD hS 6 rfl rfl 1 (by decide) (hts (.fieldLink RX4 15 "OneNail$Sheet" "length" "I") (by decide +kernel)) (fun _ h9 => h9) rfl (by decide +kernel) rfl rfl (Nat.le_of_ble_eq_true rfl) dX4_makeNothing_7 (fun H locs hP hD hS => ?_)
  have hP : va_P D vwCl (xN cA r ((upd (upd u 14 (-1)) 18 (nI 0)), a, th, LP, tf)) H := hP
  have hD : va_D A (xN cA r ((upd (upd u 14 (-1)) 18 (nI 0)), a, th, LP, tf)) := hD
  exact wVret hx hb hr hlocks ((upd (upd u 14 (-1)) 18 (nI 0)), a, th, LP, tf) (rfl) hK hP hD hS dX4_makeNothing_10

set_option maxHeartbeats 4000000 in
set_option maxRecDepth 100000 in
theorem kX4_makeNothing_q1 (l : Launch) (D : va_G) (cA : Nat → ClassId) (r : Nat → Nat) (sz : Nat) (u : Nat → Int32) (a : Nat → Nat → Int32) (th : Nat → Option Nat) (LP : List Nat) (tf : Nat → va_E) (tO : Nat)   : Met l yX4_makeNothing wsX4_makeNothing ({ frames := 0, cells := 0, slots := 0, locals := 0 } : Room) (va_Pc [.ref (r 7)] (wA D vwCl (tyA cA) (eO tO) (xN cA r) (u, a, th, LP, tf) sz)) (va_Qv (fun (z : sN) => z = (upd (upd u 15 (-1)) 19 (nI 0), a, th, LP, tf)) (wB D vwCl (tyA cA) (xN cA r) (va_A (xN cA r (u, a, th, LP, tf)) sz)) (va_A (xN cA r (u, a, th, LP, tf)) sz)) 0 0 (va_A (xN cA r (u, a, th, LP, tf)) sz) := by
  refine Met.ofW (cc := cX4_makeNothing) (maxL := 1) (ret := none) (by decide) rfl ?_
  intro p e s m args below meth c s₁ B hml hv
  obtain ⟨rfl, hsz, hP, hK, hD0, hE⟩ := hv
  have hx := B.exec
  have hb := B.bytes
  have hr := B.returns
  have hts := atoms_spec (ws := wsX4_makeNothing) B.pre
  have hown : s.vm.findClass RX4 = some m.cls := findClass_of_methodNamed B.named
  have hlocks := B.notSynchronized
  subst hsz
  have hD := hD0.self (sz := s.heap.size)
  generalize hAe : va_A (xN cA r (u, a, th, LP, tf)) s.heap.size = A at hD hE ⊢
  have hA : ∀ q : Nat, s.heap.size ≤ q → A q := fun q h => by rw [← hAe]; exact Or.inr h
  have hS : va_S A s.heap s.heap [] := va_S.rf
  have hinX4 : ∀ w ∈ u_ws RX4 TX4 3, w ∈ wsX4_makeNothing := by decide +kernel
  have hl := lv_entry ([.ref (r 7)]) (n := 1) (Nat.le_of_ble_eq_true rfl)
  rw [lg_entry_eq]
  generalize (lg_sl ([.ref (r 7)]) ++ List.replicate (1 - (lg_sl ([.ref (r 7)])).length) Slot.unset).toArray = ls at hl ⊢
  have hl : lv_has ls 1 [(0, .ref (r 7))] := hl
  refine lv_aload_n hx hb dX4_makeNothing_0 rfl (lv_at hl 0 rfl) ?_
  refine lv_iconst (v := (-1)) hx hb dX4_makeNothing_1 (by decide) ?_
  refine va_put (D := D) (ci := 4) (v := .int (-1)) (ty := .int) (C := RX4) (T := TX4) (N := 3) hx hb hts hinX4 tyX4 tyX4_ok nmX4 hown hK hP hD hS 7 rfl rfl 0 (by decide) (hts (.fieldLink RX4 11 "OneNail$Sheet" "lane" "I") (by decide +kernel)) (fun _ h9 => h9) rfl (by decide +kernel) rfl rfl (Nat.le_of_ble_eq_true rfl) dX4_makeNothing_2 (fun H locs hP hD hS => ?_)
  have hP : va_P D vwCl (xN cA r ((upd u 15 (-1)), a, th, LP, tf)) H := hP
  have hD : va_D A (xN cA r ((upd u 15 (-1)), a, th, LP, tf)) := hD
  refine lv_aload_n hx hb dX4_makeNothing_5 rfl (lv_at hl 0 rfl) ?_
  refine lv_iconst (v := (nI 0)) hx hb dX4_makeNothing_6 rfl ?_
  refine va_put (D := D) (ci := 4) (v := .int (nI 0)) (ty := .int) (C := RX4) (T := TX4) (N := 3) hx hb hts hinX4 tyX4 tyX4_ok nmX4 hown hK hP hD hS 7 rfl rfl 1 (by decide) (hts (.fieldLink RX4 15 "OneNail$Sheet" "length" "I") (by decide +kernel)) (fun _ h9 => h9) rfl (by decide +kernel) rfl rfl (Nat.le_of_ble_eq_true rfl) dX4_makeNothing_7 (fun H locs hP hD hS => ?_)
  have hP : va_P D vwCl (xN cA r ((upd (upd u 15 (-1)) 19 (nI 0)), a, th, LP, tf)) H := hP
  have hD : va_D A (xN cA r ((upd (upd u 15 (-1)) 19 (nI 0)), a, th, LP, tf)) := hD
  exact wVret hx hb hr hlocks ((upd (upd u 15 (-1)) 19 (nI 0)), a, th, LP, tf) (rfl) hK hP hD hS dX4_makeNothing_10

set_option maxHeartbeats 4000000 in
set_option maxRecDepth 100000 in
theorem kX4_makeNothing_q2 (l : Launch) (D : va_G) (cA : Nat → ClassId) (r : Nat → Nat) (sz : Nat) (u : Nat → Int32) (a : Nat → Nat → Int32) (th : Nat → Option Nat) (LP : List Nat) (tf : Nat → va_E) (tO : Nat)   : Met l yX4_makeNothing wsX4_makeNothing ({ frames := 0, cells := 0, slots := 0, locals := 0 } : Room) (va_Pc [.ref (r 8)] (wA D vwCl (tyA cA) (eO tO) (xN cA r) (u, a, th, LP, tf) sz)) (va_Qv (fun (z : sN) => z = (upd (upd u 16 (-1)) 20 (nI 0), a, th, LP, tf)) (wB D vwCl (tyA cA) (xN cA r) (va_A (xN cA r (u, a, th, LP, tf)) sz)) (va_A (xN cA r (u, a, th, LP, tf)) sz)) 0 0 (va_A (xN cA r (u, a, th, LP, tf)) sz) := by
  refine Met.ofW (cc := cX4_makeNothing) (maxL := 1) (ret := none) (by decide) rfl ?_
  intro p e s m args below meth c s₁ B hml hv
  obtain ⟨rfl, hsz, hP, hK, hD0, hE⟩ := hv
  have hx := B.exec
  have hb := B.bytes
  have hr := B.returns
  have hts := atoms_spec (ws := wsX4_makeNothing) B.pre
  have hown : s.vm.findClass RX4 = some m.cls := findClass_of_methodNamed B.named
  have hlocks := B.notSynchronized
  subst hsz
  have hD := hD0.self (sz := s.heap.size)
  generalize hAe : va_A (xN cA r (u, a, th, LP, tf)) s.heap.size = A at hD hE ⊢
  have hA : ∀ q : Nat, s.heap.size ≤ q → A q := fun q h => by rw [← hAe]; exact Or.inr h
  have hS : va_S A s.heap s.heap [] := va_S.rf
  have hinX4 : ∀ w ∈ u_ws RX4 TX4 3, w ∈ wsX4_makeNothing := by decide +kernel
  have hl := lv_entry ([.ref (r 8)]) (n := 1) (Nat.le_of_ble_eq_true rfl)
  rw [lg_entry_eq]
  generalize (lg_sl ([.ref (r 8)]) ++ List.replicate (1 - (lg_sl ([.ref (r 8)])).length) Slot.unset).toArray = ls at hl ⊢
  have hl : lv_has ls 1 [(0, .ref (r 8))] := hl
  refine lv_aload_n hx hb dX4_makeNothing_0 rfl (lv_at hl 0 rfl) ?_
  refine lv_iconst (v := (-1)) hx hb dX4_makeNothing_1 (by decide) ?_
  refine va_put (D := D) (ci := 4) (v := .int (-1)) (ty := .int) (C := RX4) (T := TX4) (N := 3) hx hb hts hinX4 tyX4 tyX4_ok nmX4 hown hK hP hD hS 8 rfl rfl 0 (by decide) (hts (.fieldLink RX4 11 "OneNail$Sheet" "lane" "I") (by decide +kernel)) (fun _ h9 => h9) rfl (by decide +kernel) rfl rfl (Nat.le_of_ble_eq_true rfl) dX4_makeNothing_2 (fun H locs hP hD hS => ?_)
  have hP : va_P D vwCl (xN cA r ((upd u 16 (-1)), a, th, LP, tf)) H := hP
  have hD : va_D A (xN cA r ((upd u 16 (-1)), a, th, LP, tf)) := hD
  refine lv_aload_n hx hb dX4_makeNothing_5 rfl (lv_at hl 0 rfl) ?_
  refine lv_iconst (v := (nI 0)) hx hb dX4_makeNothing_6 rfl ?_
  refine va_put (D := D) (ci := 4) (v := .int (nI 0)) (ty := .int) (C := RX4) (T := TX4) (N := 3) hx hb hts hinX4 tyX4 tyX4_ok nmX4 hown hK hP hD hS 8 rfl rfl 1 (by decide) (hts (.fieldLink RX4 15 "OneNail$Sheet" "length" "I") (by decide +kernel)) (fun _ h9 => h9) rfl (by decide +kernel) rfl rfl (Nat.le_of_ble_eq_true rfl) dX4_makeNothing_7 (fun H locs hP hD hS => ?_)
  have hP : va_P D vwCl (xN cA r ((upd (upd u 16 (-1)) 20 (nI 0)), a, th, LP, tf)) H := hP
  have hD : va_D A (xN cA r ((upd (upd u 16 (-1)) 20 (nI 0)), a, th, LP, tf)) := hD
  exact wVret hx hb hr hlocks ((upd (upd u 16 (-1)) 20 (nI 0)), a, th, LP, tf) (rfl) hK hP hD hS dX4_makeNothing_10

set_option maxHeartbeats 4000000 in
set_option maxRecDepth 100000 in
theorem kX4_makeNothing_q3 (l : Launch) (D : va_G) (cA : Nat → ClassId) (r : Nat → Nat) (sz : Nat) (u : Nat → Int32) (a : Nat → Nat → Int32) (th : Nat → Option Nat) (LP : List Nat) (tf : Nat → va_E) (tO : Nat)   : Met l yX4_makeNothing wsX4_makeNothing ({ frames := 0, cells := 0, slots := 0, locals := 0 } : Room) (va_Pc [.ref (r 9)] (wA D vwCl (tyA cA) (eO tO) (xN cA r) (u, a, th, LP, tf) sz)) (va_Qv (fun (z : sN) => z = (upd (upd u 17 (-1)) 21 (nI 0), a, th, LP, tf)) (wB D vwCl (tyA cA) (xN cA r) (va_A (xN cA r (u, a, th, LP, tf)) sz)) (va_A (xN cA r (u, a, th, LP, tf)) sz)) 0 0 (va_A (xN cA r (u, a, th, LP, tf)) sz) := by
  refine Met.ofW (cc := cX4_makeNothing) (maxL := 1) (ret := none) (by decide) rfl ?_
  intro p e s m args below meth c s₁ B hml hv
  obtain ⟨rfl, hsz, hP, hK, hD0, hE⟩ := hv
  have hx := B.exec
  have hb := B.bytes
  have hr := B.returns
  have hts := atoms_spec (ws := wsX4_makeNothing) B.pre
  have hown : s.vm.findClass RX4 = some m.cls := findClass_of_methodNamed B.named
  have hlocks := B.notSynchronized
  subst hsz
  have hD := hD0.self (sz := s.heap.size)
  generalize hAe : va_A (xN cA r (u, a, th, LP, tf)) s.heap.size = A at hD hE ⊢
  have hA : ∀ q : Nat, s.heap.size ≤ q → A q := fun q h => by rw [← hAe]; exact Or.inr h
  have hS : va_S A s.heap s.heap [] := va_S.rf
  have hinX4 : ∀ w ∈ u_ws RX4 TX4 3, w ∈ wsX4_makeNothing := by decide +kernel
  have hl := lv_entry ([.ref (r 9)]) (n := 1) (Nat.le_of_ble_eq_true rfl)
  rw [lg_entry_eq]
  generalize (lg_sl ([.ref (r 9)]) ++ List.replicate (1 - (lg_sl ([.ref (r 9)])).length) Slot.unset).toArray = ls at hl ⊢
  have hl : lv_has ls 1 [(0, .ref (r 9))] := hl
  refine lv_aload_n hx hb dX4_makeNothing_0 rfl (lv_at hl 0 rfl) ?_
  refine lv_iconst (v := (-1)) hx hb dX4_makeNothing_1 (by decide) ?_
  refine va_put (D := D) (ci := 4) (v := .int (-1)) (ty := .int) (C := RX4) (T := TX4) (N := 3) hx hb hts hinX4 tyX4 tyX4_ok nmX4 hown hK hP hD hS 9 rfl rfl 0 (by decide) (hts (.fieldLink RX4 11 "OneNail$Sheet" "lane" "I") (by decide +kernel)) (fun _ h9 => h9) rfl (by decide +kernel) rfl rfl (Nat.le_of_ble_eq_true rfl) dX4_makeNothing_2 (fun H locs hP hD hS => ?_)
  have hP : va_P D vwCl (xN cA r ((upd u 17 (-1)), a, th, LP, tf)) H := hP
  have hD : va_D A (xN cA r ((upd u 17 (-1)), a, th, LP, tf)) := hD
  refine lv_aload_n hx hb dX4_makeNothing_5 rfl (lv_at hl 0 rfl) ?_
  refine lv_iconst (v := (nI 0)) hx hb dX4_makeNothing_6 rfl ?_
  refine va_put (D := D) (ci := 4) (v := .int (nI 0)) (ty := .int) (C := RX4) (T := TX4) (N := 3) hx hb hts hinX4 tyX4 tyX4_ok nmX4 hown hK hP hD hS 9 rfl rfl 1 (by decide) (hts (.fieldLink RX4 15 "OneNail$Sheet" "length" "I") (by decide +kernel)) (fun _ h9 => h9) rfl (by decide +kernel) rfl rfl (Nat.le_of_ble_eq_true rfl) dX4_makeNothing_7 (fun H locs hP hD hS => ?_)
  have hP : va_P D vwCl (xN cA r ((upd (upd u 17 (-1)) 21 (nI 0)), a, th, LP, tf)) H := hP
  have hD : va_D A (xN cA r ((upd (upd u 17 (-1)) 21 (nI 0)), a, th, LP, tf)) := hD
  exact wVret hx hb hr hlocks ((upd (upd u 17 (-1)) 21 (nI 0)), a, th, LP, tf) (rfl) hK hP hD hS dX4_makeNothing_10

set_option maxHeartbeats 4000000 in
set_option maxRecDepth 100000 in
theorem kX4_makeNothing (l : Launch) (D : va_G) (cA : Nat → ClassId) (r : Nat → Nat) (sz : Nat) (u : Nat → Int32) (a : Nat → Nat → Int32) (th : Nat → Option Nat) (LP : List Nat) (tf : Nat → va_E) (tO : Nat) (k9 : Nat)  (hk9 : k9 < 4)  : Met l yX4_makeNothing wsX4_makeNothing ({ frames := 0, cells := 0, slots := 0, locals := 0 } : Room) (va_Pc [.ref (r (6 + k9))] (wA D vwCl (tyA cA) (eO tO) (xN cA r) (u, a, th, LP, tf) sz)) (va_Qv (fun (z : sN) => z = (upd (upd u (14 + k9) (-1)) (18 + k9) (nI 0), a, th, LP, tf)) (wB D vwCl (tyA cA) (xN cA r) (va_A (xN cA r (u, a, th, LP, tf)) sz)) (va_A (xN cA r (u, a, th, LP, tf)) sz)) 0 0 (va_A (xN cA r (u, a, th, LP, tf)) sz) := by
  rcases (show k9 = 0 ∨ k9 = 1 ∨ k9 = 2 ∨ k9 = 3 by omega) with rfl | rfl | rfl | rfl
  · exact kX4_makeNothing_q0 l D cA r sz u a th LP tf tO 
  · exact kX4_makeNothing_q1 l D cA r sz u a th LP tf tO 
  · exact kX4_makeNothing_q2 l D cA r sz u a th LP tf tO 
  · exact kX4_makeNothing_q3 l D cA r sz u a th LP tf tO 

set_option maxHeartbeats 4000000 in
set_option maxRecDepth 100000 in
theorem kX4_makeRow_q0 (l : Launch) (D : va_G) (cA : Nat → ClassId) (r : Nat → Nat) (sz : Nat) (u : Nat → Int32) (a : Nat → Nat → Int32) (th : Nat → Option Nat) (LP : List Nat) (tf : Nat → va_E) (tO : Nat) (n0 : Nat) (lane : Int32) (hn60 : n0 ≤ 60) : Met l yX4_makeRow wsX4_makeRow ({ frames := 1, cells := 0, slots := 0, locals := 25 } : Room) (va_Pc [.ref (r 6), .int lane, .int (nI n0)] (wA D vwCl (tyA cA) (eO tO) (xN cA r) (u, a, th, LP, tf) sz)) (va_Qv (fun (z : sN) => z.1 14 = lane ∧ z.1 18 = nI n0 ∧ (∀ i, i < n0 → z.2.1 26 i = 0) ∧ (∀ i, i ≠ 14 → i ≠ 18 → z.1 i = u i) ∧ (∀ i, i ≠ 26 → z.2.1 i = a i) ∧ z.2.2 = (th, LP, tf)) (wB D vwCl (tyA cA) (xN cA r) (va_A (xN cA r (u, a, th, LP, tf)) sz)) (va_A (xN cA r (u, a, th, LP, tf)) sz)) 0 0 (va_A (xN cA r (u, a, th, LP, tf)) sz) := by
  refine Met.ofW (cc := cX4_makeRow) (maxL := 4) (ret := none) (by decide) rfl ?_
  intro p e s m args below meth c s₁ B hml hv
  obtain ⟨rfl, hsz, hP, hK, hD0, hE⟩ := hv
  have hx := B.exec
  have hb := B.bytes
  have hr := B.returns
  have hts := atoms_spec (ws := wsX4_makeRow) B.pre
  have hown : s.vm.findClass RX4 = some m.cls := findClass_of_methodNamed B.named
  have hlocks := B.notSynchronized
  subst hsz
  have hD := hD0.self (sz := s.heap.size)
  generalize hAe : va_A (xN cA r (u, a, th, LP, tf)) s.heap.size = A at hD hE ⊢
  have hA : ∀ q : Nat, s.heap.size ≤ q → A q := fun q h => by rw [← hAe]; exact Or.inr h
  have hS : va_S A s.heap s.heap [] := va_S.rf
  have hinX4 : ∀ w ∈ u_ws RX4 TX4 3, w ∈ wsX4_makeRow := by decide +kernel
  have hl := lv_entry ([.ref (r 6), .int lane, .int (nI n0)]) (n := 4) (Nat.le_of_ble_eq_true rfl)
  rw [lg_entry_eq]
  generalize (lg_sl ([.ref (r 6), .int lane, .int (nI n0)]) ++ List.replicate (4 - (lg_sl ([.ref (r 6), .int lane, .int (nI n0)])).length) Slot.unset).toArray = ls at hl ⊢
  have hl : lv_has ls 4 [(0, .ref (r 6)), (1, .int lane), (2, .int (nI n0))] := hl
  refine lv_aload_n hx hb dX4_makeRow_0 rfl (lv_at hl 0 rfl) ?_
  refine lv_iload_n hx hb dX4_makeRow_1 rfl (lv_at hl 1 rfl) ?_
  refine va_put (D := D) (ci := 4) (v := .int lane) (ty := .int) (C := RX4) (T := TX4) (N := 3) hx hb hts hinX4 tyX4 tyX4_ok nmX4 hown hK hP hD hS 6 rfl rfl 0 (by decide) (hts (.fieldLink RX4 11 "OneNail$Sheet" "lane" "I") (by decide +kernel)) (fun _ h9 => h9) rfl (by decide +kernel) rfl rfl (Nat.le_of_ble_eq_true rfl) dX4_makeRow_2 (fun H locs hP hD hS => ?_)
  have hP : va_P D vwCl (xN cA r ((upd u 14 lane), a, th, LP, tf)) H := hP
  have hD : va_D A (xN cA r ((upd u 14 lane), a, th, LP, tf)) := hD
  refine lv_aload_n hx hb dX4_makeRow_5 rfl (lv_at hl 0 rfl) ?_
  refine lv_iconst (v := (nI 0)) hx hb dX4_makeRow_6 rfl ?_
  refine lv_iload_n hx hb dX4_makeRow_7 rfl (lv_at hl 2 rfl) ?_
  refine lv_bipush (v := (nI 60)) hx hb dX4_makeRow_8 rfl ?_
  refine va_mmin hx hb (hml.trans hl.1.symm) hown (hts (.methodLink RX4 22 Lib.Math.min.name) (by decide +kernel)) (hts (.static Lib.Math.min.name) (by decide +kernel)) (hts (.initialized "java/lang/Math") (by decide +kernel)) (hts (.code Lib.Math.min.name Lib.Math.min.code 2 (some .int)) (by decide +kernel)) (Nat.le_of_ble_eq_true rfl) (Nat.le_of_ble_eq_true rfl) (Nat.zero_le _) (Nat.zero_le _) dX4_makeRow_10 ?_
  refine va_mmax hx hb (hml.trans hl.1.symm) hown (hts (.methodLink RX4 28 Lib.Math.max.name) (by decide +kernel)) (hts (.static Lib.Math.max.name) (by decide +kernel)) (hts (.initialized "java/lang/Math") (by decide +kernel)) (hts (.code Lib.Math.max.name Lib.Math.max.code 2 (some .int)) (by decide +kernel)) (Nat.le_of_ble_eq_true rfl) (Nat.le_of_ble_eq_true rfl) (Nat.zero_le _) (Nat.zero_le _) dX4_makeRow_13 ?_
  refine lv_topi (fun y_1 ey_1 => ?_)
  obtain rfl : y_1 = (nI n0) := ey_1.trans (mm_row n0 hn60)
  refine va_put (D := D) (ci := 4) (v := .int (nI n0)) (ty := .int) (C := RX4) (T := TX4) (N := 3) hx hb hts hinX4 tyX4 tyX4_ok nmX4 hown hK hP hD hS 6 rfl rfl 1 (by decide) (hts (.fieldLink RX4 15 "OneNail$Sheet" "length" "I") (by decide +kernel)) (fun _ h9 => h9) rfl (by decide +kernel) rfl rfl (Nat.le_of_ble_eq_true rfl) dX4_makeRow_16 (fun H locs hP hD hS => ?_)
  have hP : va_P D vwCl (xN cA r ((upd (upd u 14 lane) 18 (nI n0)), a, th, LP, tf)) H := hP
  have hD : va_D A (xN cA r ((upd (upd u 14 lane) 18 (nI n0)), a, th, LP, tf)) := hD
  refine lv_iconst (v := (nI 0)) hx hb dX4_makeRow_19 rfl ?_
  refine lv_istore_n (lv' := [(3, .int (nI 0)), (0, .ref (r 6)), (1, .int lane), (2, .int (nI n0))]) hx hb dX4_makeRow_20 rfl hl (by decide) rfl (fun ls hl => ?_)
  refine wLoop (τ := Nat × (Nat → Nat → Int32)) (fun z H locs ls => (fun (q : Nat) (a1021 : (Nat → Nat → Int32)) => (q ≤ n0) ∧ (∀ i9, i9 < q → a1021 26 i9 = 0) ∧ (∀ i : Nat, i ≠ 26 → a1021 i = a i) ∧ (va_P D vwCl (xN cA r ((upd (upd u 14 lane) 18 (nI n0)), a1021, th, LP, tf)) H) ∧ (va_D A (xN cA r ((upd (upd u 14 lane) 18 (nI n0)), a1021, th, LP, tf))) ∧ (va_S A s.heap H locs) ∧ (lv_has ls 4 [(3, .int (nI q)), (0, .ref (r 6))])) z.1 z.2) (fun z => (fun (q : Nat) (a1021 : (Nat → Nat → Int32)) => n0 - q) z.1 z.2) (0, a) ⟨(show 0 ≤ n0 from Nat.zero_le _), (show ∀ i9, i9 < 0 → a 26 i9 = 0 from (fun i h => absurd h (Nat.not_lt_zero i))), (fun i h26 => rfl), hP, hD, hS, lv_sub hl [0, 1] rfl⟩ ?_
  rintro ⟨q, a1021⟩ H locs ls ⟨hq, hz, hfa21, hP, hD, hS, hl⟩ ih21
  have hq : q ≤ n0 := hq
  have hz : ∀ i9, i9 < q → a1021 26 i9 = 0 := hz
  have hfa21 : ∀ i : Nat, i ≠ 26 → a1021 i = a i := hfa21
  have hP : va_P D vwCl (xN cA r ((upd (upd u 14 lane) 18 (nI n0)), a1021, th, LP, tf)) H := hP
  have hD : va_D A (xN cA r ((upd (upd u 14 lane) 18 (nI n0)), a1021, th, LP, tf)) := hD
  have hl : lv_has ls 4 [(3, .int (nI q)), (0, .ref (r 6))] := hl
  refine lv_iload_n hx hb dX4_makeRow_21 rfl (lv_at hl 0 rfl) ?_
  refine lv_aload_n hx hb dX4_makeRow_22 rfl (lv_at hl 1 rfl) ?_
  refine va_get (D := D) (ci := 4) (v := .int (nI n0)) (C := RX4) (T := TX4) (N := 3) hx hb hts hinX4 hown hK hP 6 rfl rfl 1 (by decide) (hts (.fieldLink RX4 15 "OneNail$Sheet" "length" "I") (by decide +kernel)) (fun _ h9 => h9) rfl dX4_makeRow_23 ?_
  refine rn_ge (x := q) (y := n0) (tgt := 42) hx hb (by omega) (by omega) dX4_makeRow_26 (by decide) (fun c_2 => ?_) (fun c_2 => ?_)
  · exact wVret hx hb hr hlocks ((upd (upd u 14 lane) 18 (nI n0)), a1021, th, LP, tf) (⟨rfl, rfl, fun i hi => hz i (by omega), (fun i h14 h18 => Eq.trans (up_ne h18) (up_ne h14)), (fun i h26 => hfa21 i h26), rfl⟩) hK hP hD hS dX4_makeRow_42
  · refine lv_aload_n hx hb dX4_makeRow_29 rfl (lv_at hl 1 rfl) ?_
    refine va_get (D := D) (ci := 4) (v := .ref (r 26)) (C := RX4) (T := TX4) (N := 3) hx hb hts hinX4 hown hK hP 6 rfl rfl 2 (by decide) (hts (.fieldLink RX4 18 "OneNail$Sheet" "cells" "[I") (by decide +kernel)) (fun _ h9 => h9) rfl dX4_makeRow_30 ?_
    refine lv_iload_n hx hb dX4_makeRow_33 rfl (lv_at hl 0 rfl) ?_
    refine lv_iconst (v := (nI 0)) hx hb dX4_makeRow_34 rfl ?_
    refine ra_iast hx hb hK hP hD hS 26 0 (n := 60) (f := (a1021 26)) (j := q) (x := (nI 0)) rfl rfl (by omega) (by decide) dX4_makeRow_35 (fun H locs hP hD hS => ?_)
    have hP : va_P D vwCl (xN cA r ((upd (upd u 14 lane) 18 (nI n0)), (va_up a1021 26 (upd (a1021 26) q (nI 0))), th, LP, tf)) H := hP
    have hD : va_D A (xN cA r ((upd (upd u 14 lane) 18 (nI n0)), (va_up a1021 26 (upd (a1021 26) q (nI 0))), th, LP, tf)) := hD
    refine rn_iinc (x := q) (d := 1) (lv' := [(3, .int (nI (q + 1))), (0, .ref (r 6))]) hx hb rfl dX4_makeRow_36 hl (k := 0) rfl (by decide) rfl (fun ls hl => ?_)
    refine lv_goto (tgt := 21) hx hb dX4_makeRow_39 (by decide) ?_
    exact ih21 ((q + 1), (va_up a1021 26 (upd (a1021 26) q (nI 0)))) _ _ _ (show n0 - (q + 1) < n0 - q from by omega) ⟨(show (q + 1) ≤ n0 from by omega), (show ∀ i9, i9 < (q + 1) → (va_up a1021 26 (upd (a1021 26) q (nI 0))) 26 i9 = 0 from (show ∀ j, j < q + 1 → (upd (a1021 26) q (nI 0)) j = 0 from arr_push (F := fun _ => 0) hz rfl)), (fun i h26 => Eq.trans (vup_ne h26) (hfa21 i h26)), hP, hD, hS, lv_sub hl [0, 1] rfl⟩

set_option maxHeartbeats 4000000 in
set_option maxRecDepth 100000 in
theorem kX4_makeRow_q1 (l : Launch) (D : va_G) (cA : Nat → ClassId) (r : Nat → Nat) (sz : Nat) (u : Nat → Int32) (a : Nat → Nat → Int32) (th : Nat → Option Nat) (LP : List Nat) (tf : Nat → va_E) (tO : Nat) (n0 : Nat) (lane : Int32) (hn60 : n0 ≤ 60) : Met l yX4_makeRow wsX4_makeRow ({ frames := 1, cells := 0, slots := 0, locals := 25 } : Room) (va_Pc [.ref (r 7), .int lane, .int (nI n0)] (wA D vwCl (tyA cA) (eO tO) (xN cA r) (u, a, th, LP, tf) sz)) (va_Qv (fun (z : sN) => z.1 15 = lane ∧ z.1 19 = nI n0 ∧ (∀ i, i < n0 → z.2.1 27 i = 0) ∧ (∀ i, i ≠ 15 → i ≠ 19 → z.1 i = u i) ∧ (∀ i, i ≠ 27 → z.2.1 i = a i) ∧ z.2.2 = (th, LP, tf)) (wB D vwCl (tyA cA) (xN cA r) (va_A (xN cA r (u, a, th, LP, tf)) sz)) (va_A (xN cA r (u, a, th, LP, tf)) sz)) 0 0 (va_A (xN cA r (u, a, th, LP, tf)) sz) := by
  refine Met.ofW (cc := cX4_makeRow) (maxL := 4) (ret := none) (by decide) rfl ?_
  intro p e s m args below meth c s₁ B hml hv
  obtain ⟨rfl, hsz, hP, hK, hD0, hE⟩ := hv
  have hx := B.exec
  have hb := B.bytes
  have hr := B.returns
  have hts := atoms_spec (ws := wsX4_makeRow) B.pre
  have hown : s.vm.findClass RX4 = some m.cls := findClass_of_methodNamed B.named
  have hlocks := B.notSynchronized
  subst hsz
  have hD := hD0.self (sz := s.heap.size)
  generalize hAe : va_A (xN cA r (u, a, th, LP, tf)) s.heap.size = A at hD hE ⊢
  have hA : ∀ q : Nat, s.heap.size ≤ q → A q := fun q h => by rw [← hAe]; exact Or.inr h
  have hS : va_S A s.heap s.heap [] := va_S.rf
  have hinX4 : ∀ w ∈ u_ws RX4 TX4 3, w ∈ wsX4_makeRow := by decide +kernel
  have hl := lv_entry ([.ref (r 7), .int lane, .int (nI n0)]) (n := 4) (Nat.le_of_ble_eq_true rfl)
  rw [lg_entry_eq]
  generalize (lg_sl ([.ref (r 7), .int lane, .int (nI n0)]) ++ List.replicate (4 - (lg_sl ([.ref (r 7), .int lane, .int (nI n0)])).length) Slot.unset).toArray = ls at hl ⊢
  have hl : lv_has ls 4 [(0, .ref (r 7)), (1, .int lane), (2, .int (nI n0))] := hl
  refine lv_aload_n hx hb dX4_makeRow_0 rfl (lv_at hl 0 rfl) ?_
  refine lv_iload_n hx hb dX4_makeRow_1 rfl (lv_at hl 1 rfl) ?_
  refine va_put (D := D) (ci := 4) (v := .int lane) (ty := .int) (C := RX4) (T := TX4) (N := 3) hx hb hts hinX4 tyX4 tyX4_ok nmX4 hown hK hP hD hS 7 rfl rfl 0 (by decide) (hts (.fieldLink RX4 11 "OneNail$Sheet" "lane" "I") (by decide +kernel)) (fun _ h9 => h9) rfl (by decide +kernel) rfl rfl (Nat.le_of_ble_eq_true rfl) dX4_makeRow_2 (fun H locs hP hD hS => ?_)
  have hP : va_P D vwCl (xN cA r ((upd u 15 lane), a, th, LP, tf)) H := hP
  have hD : va_D A (xN cA r ((upd u 15 lane), a, th, LP, tf)) := hD
  refine lv_aload_n hx hb dX4_makeRow_5 rfl (lv_at hl 0 rfl) ?_
  refine lv_iconst (v := (nI 0)) hx hb dX4_makeRow_6 rfl ?_
  refine lv_iload_n hx hb dX4_makeRow_7 rfl (lv_at hl 2 rfl) ?_
  refine lv_bipush (v := (nI 60)) hx hb dX4_makeRow_8 rfl ?_
  refine va_mmin hx hb (hml.trans hl.1.symm) hown (hts (.methodLink RX4 22 Lib.Math.min.name) (by decide +kernel)) (hts (.static Lib.Math.min.name) (by decide +kernel)) (hts (.initialized "java/lang/Math") (by decide +kernel)) (hts (.code Lib.Math.min.name Lib.Math.min.code 2 (some .int)) (by decide +kernel)) (Nat.le_of_ble_eq_true rfl) (Nat.le_of_ble_eq_true rfl) (Nat.zero_le _) (Nat.zero_le _) dX4_makeRow_10 ?_
  refine va_mmax hx hb (hml.trans hl.1.symm) hown (hts (.methodLink RX4 28 Lib.Math.max.name) (by decide +kernel)) (hts (.static Lib.Math.max.name) (by decide +kernel)) (hts (.initialized "java/lang/Math") (by decide +kernel)) (hts (.code Lib.Math.max.name Lib.Math.max.code 2 (some .int)) (by decide +kernel)) (Nat.le_of_ble_eq_true rfl) (Nat.le_of_ble_eq_true rfl) (Nat.zero_le _) (Nat.zero_le _) dX4_makeRow_13 ?_
  refine lv_topi (fun y_1 ey_1 => ?_)
  obtain rfl : y_1 = (nI n0) := ey_1.trans (mm_row n0 hn60)
  refine va_put (D := D) (ci := 4) (v := .int (nI n0)) (ty := .int) (C := RX4) (T := TX4) (N := 3) hx hb hts hinX4 tyX4 tyX4_ok nmX4 hown hK hP hD hS 7 rfl rfl 1 (by decide) (hts (.fieldLink RX4 15 "OneNail$Sheet" "length" "I") (by decide +kernel)) (fun _ h9 => h9) rfl (by decide +kernel) rfl rfl (Nat.le_of_ble_eq_true rfl) dX4_makeRow_16 (fun H locs hP hD hS => ?_)
  have hP : va_P D vwCl (xN cA r ((upd (upd u 15 lane) 19 (nI n0)), a, th, LP, tf)) H := hP
  have hD : va_D A (xN cA r ((upd (upd u 15 lane) 19 (nI n0)), a, th, LP, tf)) := hD
  refine lv_iconst (v := (nI 0)) hx hb dX4_makeRow_19 rfl ?_
  refine lv_istore_n (lv' := [(3, .int (nI 0)), (0, .ref (r 7)), (1, .int lane), (2, .int (nI n0))]) hx hb dX4_makeRow_20 rfl hl (by decide) rfl (fun ls hl => ?_)
  refine wLoop (τ := Nat × (Nat → Nat → Int32)) (fun z H locs ls => (fun (q : Nat) (a1021 : (Nat → Nat → Int32)) => (q ≤ n0) ∧ (∀ i9, i9 < q → a1021 27 i9 = 0) ∧ (∀ i : Nat, i ≠ 27 → a1021 i = a i) ∧ (va_P D vwCl (xN cA r ((upd (upd u 15 lane) 19 (nI n0)), a1021, th, LP, tf)) H) ∧ (va_D A (xN cA r ((upd (upd u 15 lane) 19 (nI n0)), a1021, th, LP, tf))) ∧ (va_S A s.heap H locs) ∧ (lv_has ls 4 [(3, .int (nI q)), (0, .ref (r 7))])) z.1 z.2) (fun z => (fun (q : Nat) (a1021 : (Nat → Nat → Int32)) => n0 - q) z.1 z.2) (0, a) ⟨(show 0 ≤ n0 from Nat.zero_le _), (show ∀ i9, i9 < 0 → a 27 i9 = 0 from (fun i h => absurd h (Nat.not_lt_zero i))), (fun i h27 => rfl), hP, hD, hS, lv_sub hl [0, 1] rfl⟩ ?_
  rintro ⟨q, a1021⟩ H locs ls ⟨hq, hz, hfa21, hP, hD, hS, hl⟩ ih21
  have hq : q ≤ n0 := hq
  have hz : ∀ i9, i9 < q → a1021 27 i9 = 0 := hz
  have hfa21 : ∀ i : Nat, i ≠ 27 → a1021 i = a i := hfa21
  have hP : va_P D vwCl (xN cA r ((upd (upd u 15 lane) 19 (nI n0)), a1021, th, LP, tf)) H := hP
  have hD : va_D A (xN cA r ((upd (upd u 15 lane) 19 (nI n0)), a1021, th, LP, tf)) := hD
  have hl : lv_has ls 4 [(3, .int (nI q)), (0, .ref (r 7))] := hl
  refine lv_iload_n hx hb dX4_makeRow_21 rfl (lv_at hl 0 rfl) ?_
  refine lv_aload_n hx hb dX4_makeRow_22 rfl (lv_at hl 1 rfl) ?_
  refine va_get (D := D) (ci := 4) (v := .int (nI n0)) (C := RX4) (T := TX4) (N := 3) hx hb hts hinX4 hown hK hP 7 rfl rfl 1 (by decide) (hts (.fieldLink RX4 15 "OneNail$Sheet" "length" "I") (by decide +kernel)) (fun _ h9 => h9) rfl dX4_makeRow_23 ?_
  refine rn_ge (x := q) (y := n0) (tgt := 42) hx hb (by omega) (by omega) dX4_makeRow_26 (by decide) (fun c_2 => ?_) (fun c_2 => ?_)
  · exact wVret hx hb hr hlocks ((upd (upd u 15 lane) 19 (nI n0)), a1021, th, LP, tf) (⟨rfl, rfl, fun i hi => hz i (by omega), (fun i h15 h19 => Eq.trans (up_ne h19) (up_ne h15)), (fun i h27 => hfa21 i h27), rfl⟩) hK hP hD hS dX4_makeRow_42
  · refine lv_aload_n hx hb dX4_makeRow_29 rfl (lv_at hl 1 rfl) ?_
    refine va_get (D := D) (ci := 4) (v := .ref (r 27)) (C := RX4) (T := TX4) (N := 3) hx hb hts hinX4 hown hK hP 7 rfl rfl 2 (by decide) (hts (.fieldLink RX4 18 "OneNail$Sheet" "cells" "[I") (by decide +kernel)) (fun _ h9 => h9) rfl dX4_makeRow_30 ?_
    refine lv_iload_n hx hb dX4_makeRow_33 rfl (lv_at hl 0 rfl) ?_
    refine lv_iconst (v := (nI 0)) hx hb dX4_makeRow_34 rfl ?_
    refine ra_iast hx hb hK hP hD hS 27 0 (n := 60) (f := (a1021 27)) (j := q) (x := (nI 0)) rfl rfl (by omega) (by decide) dX4_makeRow_35 (fun H locs hP hD hS => ?_)
    have hP : va_P D vwCl (xN cA r ((upd (upd u 15 lane) 19 (nI n0)), (va_up a1021 27 (upd (a1021 27) q (nI 0))), th, LP, tf)) H := hP
    have hD : va_D A (xN cA r ((upd (upd u 15 lane) 19 (nI n0)), (va_up a1021 27 (upd (a1021 27) q (nI 0))), th, LP, tf)) := hD
    refine rn_iinc (x := q) (d := 1) (lv' := [(3, .int (nI (q + 1))), (0, .ref (r 7))]) hx hb rfl dX4_makeRow_36 hl (k := 0) rfl (by decide) rfl (fun ls hl => ?_)
    refine lv_goto (tgt := 21) hx hb dX4_makeRow_39 (by decide) ?_
    exact ih21 ((q + 1), (va_up a1021 27 (upd (a1021 27) q (nI 0)))) _ _ _ (show n0 - (q + 1) < n0 - q from by omega) ⟨(show (q + 1) ≤ n0 from by omega), (show ∀ i9, i9 < (q + 1) → (va_up a1021 27 (upd (a1021 27) q (nI 0))) 27 i9 = 0 from (show ∀ j, j < q + 1 → (upd (a1021 27) q (nI 0)) j = 0 from arr_push (F := fun _ => 0) hz rfl)), (fun i h27 => Eq.trans (vup_ne h27) (hfa21 i h27)), hP, hD, hS, lv_sub hl [0, 1] rfl⟩

set_option maxHeartbeats 4000000 in
set_option maxRecDepth 100000 in
theorem kX4_makeRow_q2 (l : Launch) (D : va_G) (cA : Nat → ClassId) (r : Nat → Nat) (sz : Nat) (u : Nat → Int32) (a : Nat → Nat → Int32) (th : Nat → Option Nat) (LP : List Nat) (tf : Nat → va_E) (tO : Nat) (n0 : Nat) (lane : Int32) (hn60 : n0 ≤ 60) : Met l yX4_makeRow wsX4_makeRow ({ frames := 1, cells := 0, slots := 0, locals := 25 } : Room) (va_Pc [.ref (r 8), .int lane, .int (nI n0)] (wA D vwCl (tyA cA) (eO tO) (xN cA r) (u, a, th, LP, tf) sz)) (va_Qv (fun (z : sN) => z.1 16 = lane ∧ z.1 20 = nI n0 ∧ (∀ i, i < n0 → z.2.1 28 i = 0) ∧ (∀ i, i ≠ 16 → i ≠ 20 → z.1 i = u i) ∧ (∀ i, i ≠ 28 → z.2.1 i = a i) ∧ z.2.2 = (th, LP, tf)) (wB D vwCl (tyA cA) (xN cA r) (va_A (xN cA r (u, a, th, LP, tf)) sz)) (va_A (xN cA r (u, a, th, LP, tf)) sz)) 0 0 (va_A (xN cA r (u, a, th, LP, tf)) sz) := by
  refine Met.ofW (cc := cX4_makeRow) (maxL := 4) (ret := none) (by decide) rfl ?_
  intro p e s m args below meth c s₁ B hml hv
  obtain ⟨rfl, hsz, hP, hK, hD0, hE⟩ := hv
  have hx := B.exec
  have hb := B.bytes
  have hr := B.returns
  have hts := atoms_spec (ws := wsX4_makeRow) B.pre
  have hown : s.vm.findClass RX4 = some m.cls := findClass_of_methodNamed B.named
  have hlocks := B.notSynchronized
  subst hsz
  have hD := hD0.self (sz := s.heap.size)
  generalize hAe : va_A (xN cA r (u, a, th, LP, tf)) s.heap.size = A at hD hE ⊢
  have hA : ∀ q : Nat, s.heap.size ≤ q → A q := fun q h => by rw [← hAe]; exact Or.inr h
  have hS : va_S A s.heap s.heap [] := va_S.rf
  have hinX4 : ∀ w ∈ u_ws RX4 TX4 3, w ∈ wsX4_makeRow := by decide +kernel
  have hl := lv_entry ([.ref (r 8), .int lane, .int (nI n0)]) (n := 4) (Nat.le_of_ble_eq_true rfl)
  rw [lg_entry_eq]
  generalize (lg_sl ([.ref (r 8), .int lane, .int (nI n0)]) ++ List.replicate (4 - (lg_sl ([.ref (r 8), .int lane, .int (nI n0)])).length) Slot.unset).toArray = ls at hl ⊢
  have hl : lv_has ls 4 [(0, .ref (r 8)), (1, .int lane), (2, .int (nI n0))] := hl
  refine lv_aload_n hx hb dX4_makeRow_0 rfl (lv_at hl 0 rfl) ?_
  refine lv_iload_n hx hb dX4_makeRow_1 rfl (lv_at hl 1 rfl) ?_
  refine va_put (D := D) (ci := 4) (v := .int lane) (ty := .int) (C := RX4) (T := TX4) (N := 3) hx hb hts hinX4 tyX4 tyX4_ok nmX4 hown hK hP hD hS 8 rfl rfl 0 (by decide) (hts (.fieldLink RX4 11 "OneNail$Sheet" "lane" "I") (by decide +kernel)) (fun _ h9 => h9) rfl (by decide +kernel) rfl rfl (Nat.le_of_ble_eq_true rfl) dX4_makeRow_2 (fun H locs hP hD hS => ?_)
  have hP : va_P D vwCl (xN cA r ((upd u 16 lane), a, th, LP, tf)) H := hP
  have hD : va_D A (xN cA r ((upd u 16 lane), a, th, LP, tf)) := hD
  refine lv_aload_n hx hb dX4_makeRow_5 rfl (lv_at hl 0 rfl) ?_
  refine lv_iconst (v := (nI 0)) hx hb dX4_makeRow_6 rfl ?_
  refine lv_iload_n hx hb dX4_makeRow_7 rfl (lv_at hl 2 rfl) ?_
  refine lv_bipush (v := (nI 60)) hx hb dX4_makeRow_8 rfl ?_
  refine va_mmin hx hb (hml.trans hl.1.symm) hown (hts (.methodLink RX4 22 Lib.Math.min.name) (by decide +kernel)) (hts (.static Lib.Math.min.name) (by decide +kernel)) (hts (.initialized "java/lang/Math") (by decide +kernel)) (hts (.code Lib.Math.min.name Lib.Math.min.code 2 (some .int)) (by decide +kernel)) (Nat.le_of_ble_eq_true rfl) (Nat.le_of_ble_eq_true rfl) (Nat.zero_le _) (Nat.zero_le _) dX4_makeRow_10 ?_
  refine va_mmax hx hb (hml.trans hl.1.symm) hown (hts (.methodLink RX4 28 Lib.Math.max.name) (by decide +kernel)) (hts (.static Lib.Math.max.name) (by decide +kernel)) (hts (.initialized "java/lang/Math") (by decide +kernel)) (hts (.code Lib.Math.max.name Lib.Math.max.code 2 (some .int)) (by decide +kernel)) (Nat.le_of_ble_eq_true rfl) (Nat.le_of_ble_eq_true rfl) (Nat.zero_le _) (Nat.zero_le _) dX4_makeRow_13 ?_
  refine lv_topi (fun y_1 ey_1 => ?_)
  obtain rfl : y_1 = (nI n0) := ey_1.trans (mm_row n0 hn60)
  refine va_put (D := D) (ci := 4) (v := .int (nI n0)) (ty := .int) (C := RX4) (T := TX4) (N := 3) hx hb hts hinX4 tyX4 tyX4_ok nmX4 hown hK hP hD hS 8 rfl rfl 1 (by decide) (hts (.fieldLink RX4 15 "OneNail$Sheet" "length" "I") (by decide +kernel)) (fun _ h9 => h9) rfl (by decide +kernel) rfl rfl (Nat.le_of_ble_eq_true rfl) dX4_makeRow_16 (fun H locs hP hD hS => ?_)
  have hP : va_P D vwCl (xN cA r ((upd (upd u 16 lane) 20 (nI n0)), a, th, LP, tf)) H := hP
  have hD : va_D A (xN cA r ((upd (upd u 16 lane) 20 (nI n0)), a, th, LP, tf)) := hD
  refine lv_iconst (v := (nI 0)) hx hb dX4_makeRow_19 rfl ?_
  refine lv_istore_n (lv' := [(3, .int (nI 0)), (0, .ref (r 8)), (1, .int lane), (2, .int (nI n0))]) hx hb dX4_makeRow_20 rfl hl (by decide) rfl (fun ls hl => ?_)
  refine wLoop (τ := Nat × (Nat → Nat → Int32)) (fun z H locs ls => (fun (q : Nat) (a1021 : (Nat → Nat → Int32)) => (q ≤ n0) ∧ (∀ i9, i9 < q → a1021 28 i9 = 0) ∧ (∀ i : Nat, i ≠ 28 → a1021 i = a i) ∧ (va_P D vwCl (xN cA r ((upd (upd u 16 lane) 20 (nI n0)), a1021, th, LP, tf)) H) ∧ (va_D A (xN cA r ((upd (upd u 16 lane) 20 (nI n0)), a1021, th, LP, tf))) ∧ (va_S A s.heap H locs) ∧ (lv_has ls 4 [(3, .int (nI q)), (0, .ref (r 8))])) z.1 z.2) (fun z => (fun (q : Nat) (a1021 : (Nat → Nat → Int32)) => n0 - q) z.1 z.2) (0, a) ⟨(show 0 ≤ n0 from Nat.zero_le _), (show ∀ i9, i9 < 0 → a 28 i9 = 0 from (fun i h => absurd h (Nat.not_lt_zero i))), (fun i h28 => rfl), hP, hD, hS, lv_sub hl [0, 1] rfl⟩ ?_
  rintro ⟨q, a1021⟩ H locs ls ⟨hq, hz, hfa21, hP, hD, hS, hl⟩ ih21
  have hq : q ≤ n0 := hq
  have hz : ∀ i9, i9 < q → a1021 28 i9 = 0 := hz
  have hfa21 : ∀ i : Nat, i ≠ 28 → a1021 i = a i := hfa21
  have hP : va_P D vwCl (xN cA r ((upd (upd u 16 lane) 20 (nI n0)), a1021, th, LP, tf)) H := hP
  have hD : va_D A (xN cA r ((upd (upd u 16 lane) 20 (nI n0)), a1021, th, LP, tf)) := hD
  have hl : lv_has ls 4 [(3, .int (nI q)), (0, .ref (r 8))] := hl
  refine lv_iload_n hx hb dX4_makeRow_21 rfl (lv_at hl 0 rfl) ?_
  refine lv_aload_n hx hb dX4_makeRow_22 rfl (lv_at hl 1 rfl) ?_
  refine va_get (D := D) (ci := 4) (v := .int (nI n0)) (C := RX4) (T := TX4) (N := 3) hx hb hts hinX4 hown hK hP 8 rfl rfl 1 (by decide) (hts (.fieldLink RX4 15 "OneNail$Sheet" "length" "I") (by decide +kernel)) (fun _ h9 => h9) rfl dX4_makeRow_23 ?_
  refine rn_ge (x := q) (y := n0) (tgt := 42) hx hb (by omega) (by omega) dX4_makeRow_26 (by decide) (fun c_2 => ?_) (fun c_2 => ?_)
  · exact wVret hx hb hr hlocks ((upd (upd u 16 lane) 20 (nI n0)), a1021, th, LP, tf) (⟨rfl, rfl, fun i hi => hz i (by omega), (fun i h16 h20 => Eq.trans (up_ne h20) (up_ne h16)), (fun i h28 => hfa21 i h28), rfl⟩) hK hP hD hS dX4_makeRow_42
  · refine lv_aload_n hx hb dX4_makeRow_29 rfl (lv_at hl 1 rfl) ?_
    refine va_get (D := D) (ci := 4) (v := .ref (r 28)) (C := RX4) (T := TX4) (N := 3) hx hb hts hinX4 hown hK hP 8 rfl rfl 2 (by decide) (hts (.fieldLink RX4 18 "OneNail$Sheet" "cells" "[I") (by decide +kernel)) (fun _ h9 => h9) rfl dX4_makeRow_30 ?_
    refine lv_iload_n hx hb dX4_makeRow_33 rfl (lv_at hl 0 rfl) ?_
    refine lv_iconst (v := (nI 0)) hx hb dX4_makeRow_34 rfl ?_
    refine ra_iast hx hb hK hP hD hS 28 0 (n := 60) (f := (a1021 28)) (j := q) (x := (nI 0)) rfl rfl (by omega) (by decide) dX4_makeRow_35 (fun H locs hP hD hS => ?_)
    have hP : va_P D vwCl (xN cA r ((upd (upd u 16 lane) 20 (nI n0)), (va_up a1021 28 (upd (a1021 28) q (nI 0))), th, LP, tf)) H := hP
    have hD : va_D A (xN cA r ((upd (upd u 16 lane) 20 (nI n0)), (va_up a1021 28 (upd (a1021 28) q (nI 0))), th, LP, tf)) := hD
    refine rn_iinc (x := q) (d := 1) (lv' := [(3, .int (nI (q + 1))), (0, .ref (r 8))]) hx hb rfl dX4_makeRow_36 hl (k := 0) rfl (by decide) rfl (fun ls hl => ?_)
    refine lv_goto (tgt := 21) hx hb dX4_makeRow_39 (by decide) ?_
    exact ih21 ((q + 1), (va_up a1021 28 (upd (a1021 28) q (nI 0)))) _ _ _ (show n0 - (q + 1) < n0 - q from by omega) ⟨(show (q + 1) ≤ n0 from by omega), (show ∀ i9, i9 < (q + 1) → (va_up a1021 28 (upd (a1021 28) q (nI 0))) 28 i9 = 0 from (show ∀ j, j < q + 1 → (upd (a1021 28) q (nI 0)) j = 0 from arr_push (F := fun _ => 0) hz rfl)), (fun i h28 => Eq.trans (vup_ne h28) (hfa21 i h28)), hP, hD, hS, lv_sub hl [0, 1] rfl⟩

set_option maxHeartbeats 4000000 in
set_option maxRecDepth 100000 in
theorem kX4_makeRow_q3 (l : Launch) (D : va_G) (cA : Nat → ClassId) (r : Nat → Nat) (sz : Nat) (u : Nat → Int32) (a : Nat → Nat → Int32) (th : Nat → Option Nat) (LP : List Nat) (tf : Nat → va_E) (tO : Nat) (n0 : Nat) (lane : Int32) (hn60 : n0 ≤ 60) : Met l yX4_makeRow wsX4_makeRow ({ frames := 1, cells := 0, slots := 0, locals := 25 } : Room) (va_Pc [.ref (r 9), .int lane, .int (nI n0)] (wA D vwCl (tyA cA) (eO tO) (xN cA r) (u, a, th, LP, tf) sz)) (va_Qv (fun (z : sN) => z.1 17 = lane ∧ z.1 21 = nI n0 ∧ (∀ i, i < n0 → z.2.1 29 i = 0) ∧ (∀ i, i ≠ 17 → i ≠ 21 → z.1 i = u i) ∧ (∀ i, i ≠ 29 → z.2.1 i = a i) ∧ z.2.2 = (th, LP, tf)) (wB D vwCl (tyA cA) (xN cA r) (va_A (xN cA r (u, a, th, LP, tf)) sz)) (va_A (xN cA r (u, a, th, LP, tf)) sz)) 0 0 (va_A (xN cA r (u, a, th, LP, tf)) sz) := by
  refine Met.ofW (cc := cX4_makeRow) (maxL := 4) (ret := none) (by decide) rfl ?_
  intro p e s m args below meth c s₁ B hml hv
  obtain ⟨rfl, hsz, hP, hK, hD0, hE⟩ := hv
  have hx := B.exec
  have hb := B.bytes
  have hr := B.returns
  have hts := atoms_spec (ws := wsX4_makeRow) B.pre
  have hown : s.vm.findClass RX4 = some m.cls := findClass_of_methodNamed B.named
  have hlocks := B.notSynchronized
  subst hsz
  have hD := hD0.self (sz := s.heap.size)
  generalize hAe : va_A (xN cA r (u, a, th, LP, tf)) s.heap.size = A at hD hE ⊢
  have hA : ∀ q : Nat, s.heap.size ≤ q → A q := fun q h => by rw [← hAe]; exact Or.inr h
  have hS : va_S A s.heap s.heap [] := va_S.rf
  have hinX4 : ∀ w ∈ u_ws RX4 TX4 3, w ∈ wsX4_makeRow := by decide +kernel
  have hl := lv_entry ([.ref (r 9), .int lane, .int (nI n0)]) (n := 4) (Nat.le_of_ble_eq_true rfl)
  rw [lg_entry_eq]
  generalize (lg_sl ([.ref (r 9), .int lane, .int (nI n0)]) ++ List.replicate (4 - (lg_sl ([.ref (r 9), .int lane, .int (nI n0)])).length) Slot.unset).toArray = ls at hl ⊢
  have hl : lv_has ls 4 [(0, .ref (r 9)), (1, .int lane), (2, .int (nI n0))] := hl
  refine lv_aload_n hx hb dX4_makeRow_0 rfl (lv_at hl 0 rfl) ?_
  refine lv_iload_n hx hb dX4_makeRow_1 rfl (lv_at hl 1 rfl) ?_
  refine va_put (D := D) (ci := 4) (v := .int lane) (ty := .int) (C := RX4) (T := TX4) (N := 3) hx hb hts hinX4 tyX4 tyX4_ok nmX4 hown hK hP hD hS 9 rfl rfl 0 (by decide) (hts (.fieldLink RX4 11 "OneNail$Sheet" "lane" "I") (by decide +kernel)) (fun _ h9 => h9) rfl (by decide +kernel) rfl rfl (Nat.le_of_ble_eq_true rfl) dX4_makeRow_2 (fun H locs hP hD hS => ?_)
  have hP : va_P D vwCl (xN cA r ((upd u 17 lane), a, th, LP, tf)) H := hP
  have hD : va_D A (xN cA r ((upd u 17 lane), a, th, LP, tf)) := hD
  refine lv_aload_n hx hb dX4_makeRow_5 rfl (lv_at hl 0 rfl) ?_
  refine lv_iconst (v := (nI 0)) hx hb dX4_makeRow_6 rfl ?_
  refine lv_iload_n hx hb dX4_makeRow_7 rfl (lv_at hl 2 rfl) ?_
  refine lv_bipush (v := (nI 60)) hx hb dX4_makeRow_8 rfl ?_
  refine va_mmin hx hb (hml.trans hl.1.symm) hown (hts (.methodLink RX4 22 Lib.Math.min.name) (by decide +kernel)) (hts (.static Lib.Math.min.name) (by decide +kernel)) (hts (.initialized "java/lang/Math") (by decide +kernel)) (hts (.code Lib.Math.min.name Lib.Math.min.code 2 (some .int)) (by decide +kernel)) (Nat.le_of_ble_eq_true rfl) (Nat.le_of_ble_eq_true rfl) (Nat.zero_le _) (Nat.zero_le _) dX4_makeRow_10 ?_
  refine va_mmax hx hb (hml.trans hl.1.symm) hown (hts (.methodLink RX4 28 Lib.Math.max.name) (by decide +kernel)) (hts (.static Lib.Math.max.name) (by decide +kernel)) (hts (.initialized "java/lang/Math") (by decide +kernel)) (hts (.code Lib.Math.max.name Lib.Math.max.code 2 (some .int)) (by decide +kernel)) (Nat.le_of_ble_eq_true rfl) (Nat.le_of_ble_eq_true rfl) (Nat.zero_le _) (Nat.zero_le _) dX4_makeRow_13 ?_
  refine lv_topi (fun y_1 ey_1 => ?_)
  obtain rfl : y_1 = (nI n0) := ey_1.trans (mm_row n0 hn60)
  refine va_put (D := D) (ci := 4) (v := .int (nI n0)) (ty := .int) (C := RX4) (T := TX4) (N := 3) hx hb hts hinX4 tyX4 tyX4_ok nmX4 hown hK hP hD hS 9 rfl rfl 1 (by decide) (hts (.fieldLink RX4 15 "OneNail$Sheet" "length" "I") (by decide +kernel)) (fun _ h9 => h9) rfl (by decide +kernel) rfl rfl (Nat.le_of_ble_eq_true rfl) dX4_makeRow_16 (fun H locs hP hD hS => ?_)
  have hP : va_P D vwCl (xN cA r ((upd (upd u 17 lane) 21 (nI n0)), a, th, LP, tf)) H := hP
  have hD : va_D A (xN cA r ((upd (upd u 17 lane) 21 (nI n0)), a, th, LP, tf)) := hD
  refine lv_iconst (v := (nI 0)) hx hb dX4_makeRow_19 rfl ?_
  refine lv_istore_n (lv' := [(3, .int (nI 0)), (0, .ref (r 9)), (1, .int lane), (2, .int (nI n0))]) hx hb dX4_makeRow_20 rfl hl (by decide) rfl (fun ls hl => ?_)
  refine wLoop (τ := Nat × (Nat → Nat → Int32)) (fun z H locs ls => (fun (q : Nat) (a1021 : (Nat → Nat → Int32)) => (q ≤ n0) ∧ (∀ i9, i9 < q → a1021 29 i9 = 0) ∧ (∀ i : Nat, i ≠ 29 → a1021 i = a i) ∧ (va_P D vwCl (xN cA r ((upd (upd u 17 lane) 21 (nI n0)), a1021, th, LP, tf)) H) ∧ (va_D A (xN cA r ((upd (upd u 17 lane) 21 (nI n0)), a1021, th, LP, tf))) ∧ (va_S A s.heap H locs) ∧ (lv_has ls 4 [(3, .int (nI q)), (0, .ref (r 9))])) z.1 z.2) (fun z => (fun (q : Nat) (a1021 : (Nat → Nat → Int32)) => n0 - q) z.1 z.2) (0, a) ⟨(show 0 ≤ n0 from Nat.zero_le _), (show ∀ i9, i9 < 0 → a 29 i9 = 0 from (fun i h => absurd h (Nat.not_lt_zero i))), (fun i h29 => rfl), hP, hD, hS, lv_sub hl [0, 1] rfl⟩ ?_
  rintro ⟨q, a1021⟩ H locs ls ⟨hq, hz, hfa21, hP, hD, hS, hl⟩ ih21
  have hq : q ≤ n0 := hq
  have hz : ∀ i9, i9 < q → a1021 29 i9 = 0 := hz
  have hfa21 : ∀ i : Nat, i ≠ 29 → a1021 i = a i := hfa21
  have hP : va_P D vwCl (xN cA r ((upd (upd u 17 lane) 21 (nI n0)), a1021, th, LP, tf)) H := hP
  have hD : va_D A (xN cA r ((upd (upd u 17 lane) 21 (nI n0)), a1021, th, LP, tf)) := hD
  have hl : lv_has ls 4 [(3, .int (nI q)), (0, .ref (r 9))] := hl
  refine lv_iload_n hx hb dX4_makeRow_21 rfl (lv_at hl 0 rfl) ?_
  refine lv_aload_n hx hb dX4_makeRow_22 rfl (lv_at hl 1 rfl) ?_
  refine va_get (D := D) (ci := 4) (v := .int (nI n0)) (C := RX4) (T := TX4) (N := 3) hx hb hts hinX4 hown hK hP 9 rfl rfl 1 (by decide) (hts (.fieldLink RX4 15 "OneNail$Sheet" "length" "I") (by decide +kernel)) (fun _ h9 => h9) rfl dX4_makeRow_23 ?_
  refine rn_ge (x := q) (y := n0) (tgt := 42) hx hb (by omega) (by omega) dX4_makeRow_26 (by decide) (fun c_2 => ?_) (fun c_2 => ?_)
  · exact wVret hx hb hr hlocks ((upd (upd u 17 lane) 21 (nI n0)), a1021, th, LP, tf) (⟨rfl, rfl, fun i hi => hz i (by omega), (fun i h17 h21 => Eq.trans (up_ne h21) (up_ne h17)), (fun i h29 => hfa21 i h29), rfl⟩) hK hP hD hS dX4_makeRow_42
  · refine lv_aload_n hx hb dX4_makeRow_29 rfl (lv_at hl 1 rfl) ?_
    refine va_get (D := D) (ci := 4) (v := .ref (r 29)) (C := RX4) (T := TX4) (N := 3) hx hb hts hinX4 hown hK hP 9 rfl rfl 2 (by decide) (hts (.fieldLink RX4 18 "OneNail$Sheet" "cells" "[I") (by decide +kernel)) (fun _ h9 => h9) rfl dX4_makeRow_30 ?_
    refine lv_iload_n hx hb dX4_makeRow_33 rfl (lv_at hl 0 rfl) ?_
    refine lv_iconst (v := (nI 0)) hx hb dX4_makeRow_34 rfl ?_
    refine ra_iast hx hb hK hP hD hS 29 0 (n := 60) (f := (a1021 29)) (j := q) (x := (nI 0)) rfl rfl (by omega) (by decide) dX4_makeRow_35 (fun H locs hP hD hS => ?_)
    have hP : va_P D vwCl (xN cA r ((upd (upd u 17 lane) 21 (nI n0)), (va_up a1021 29 (upd (a1021 29) q (nI 0))), th, LP, tf)) H := hP
    have hD : va_D A (xN cA r ((upd (upd u 17 lane) 21 (nI n0)), (va_up a1021 29 (upd (a1021 29) q (nI 0))), th, LP, tf)) := hD
    refine rn_iinc (x := q) (d := 1) (lv' := [(3, .int (nI (q + 1))), (0, .ref (r 9))]) hx hb rfl dX4_makeRow_36 hl (k := 0) rfl (by decide) rfl (fun ls hl => ?_)
    refine lv_goto (tgt := 21) hx hb dX4_makeRow_39 (by decide) ?_
    exact ih21 ((q + 1), (va_up a1021 29 (upd (a1021 29) q (nI 0)))) _ _ _ (show n0 - (q + 1) < n0 - q from by omega) ⟨(show (q + 1) ≤ n0 from by omega), (show ∀ i9, i9 < (q + 1) → (va_up a1021 29 (upd (a1021 29) q (nI 0))) 29 i9 = 0 from (show ∀ j, j < q + 1 → (upd (a1021 29) q (nI 0)) j = 0 from arr_push (F := fun _ => 0) hz rfl)), (fun i h29 => Eq.trans (vup_ne h29) (hfa21 i h29)), hP, hD, hS, lv_sub hl [0, 1] rfl⟩

set_option maxHeartbeats 4000000 in
set_option maxRecDepth 100000 in
theorem kX4_makeRow (l : Launch) (D : va_G) (cA : Nat → ClassId) (r : Nat → Nat) (sz : Nat) (u : Nat → Int32) (a : Nat → Nat → Int32) (th : Nat → Option Nat) (LP : List Nat) (tf : Nat → va_E) (tO : Nat) (k9 : Nat) (n0 : Nat) (lane : Int32) (hk9 : k9 < 4) (hn60 : n0 ≤ 60) : Met l yX4_makeRow wsX4_makeRow ({ frames := 1, cells := 0, slots := 0, locals := 25 } : Room) (va_Pc [.ref (r (6 + k9)), .int lane, .int (nI n0)] (wA D vwCl (tyA cA) (eO tO) (xN cA r) (u, a, th, LP, tf) sz)) (va_Qv (fun (z : sN) => z.1 (14 + k9) = lane ∧ z.1 (18 + k9) = nI n0 ∧ (∀ i, i < n0 → z.2.1 (26 + k9) i = 0) ∧ (∀ i, i ≠ (14 + k9) → i ≠ (18 + k9) → z.1 i = u i) ∧ (∀ i, i ≠ (26 + k9) → z.2.1 i = a i) ∧ z.2.2 = (th, LP, tf)) (wB D vwCl (tyA cA) (xN cA r) (va_A (xN cA r (u, a, th, LP, tf)) sz)) (va_A (xN cA r (u, a, th, LP, tf)) sz)) 0 0 (va_A (xN cA r (u, a, th, LP, tf)) sz) := by
  rcases (show k9 = 0 ∨ k9 = 1 ∨ k9 = 2 ∨ k9 = 3 by omega) with rfl | rfl | rfl | rfl
  · exact kX4_makeRow_q0 l D cA r sz u a th LP tf tO n0 lane hn60
  · exact kX4_makeRow_q1 l D cA r sz u a th LP tf tO n0 lane hn60
  · exact kX4_makeRow_q2 l D cA r sz u a th LP tf tO n0 lane hn60
  · exact kX4_makeRow_q3 l D cA r sz u a th LP tf tO n0 lane hn60

set_option maxHeartbeats 4000000 in
set_option maxRecDepth 100000 in
theorem kX9_sheetAt (l : Launch) (D : va_G) (cA : Nat → ClassId) (r : Nat → Nat) (sz : Nat) (u : Nat → Int32) (a : Nat → Nat → Int32) (th : Nat → Option Nat) (LP : List Nat) (tf : Nat → va_E) (tO : Nat) (x : Int32)  : Met l yX9_sheetAt wsX9_sheetAt ({ frames := 0, cells := 0, slots := 0, locals := 0 } : Room) (va_Pc [.ref (r 0), .int x] (wA D vwCl (tyA cA) (eO tO) (xN cA r) (u, a, th, LP, tf) sz)) (va_Qq (fun (v : Option Nat) (z : sN) => z = (u, a, th, LP, tf) ∧ ((∃ k9 : Nat, k9 < 4 ∧ x = nI k9 ∧ v = some (r (6 + k9))) ∨ (¬ inR x 0 3 ∧ v = none))) (wB D vwCl (tyA cA) (xN cA r) (va_A (xN cA r (u, a, th, LP, tf)) sz)) (va_A (xN cA r (u, a, th, LP, tf)) sz)) 0 0 (va_A (xN cA r (u, a, th, LP, tf)) sz) := by
  refine Met.ofW (cc := cX9_sheetAt) (maxL := 2) (ret := (some (.object "OneNail$Sheet"))) (by decide) rfl ?_
  intro p e s m args below meth c s₁ B hml hv
  obtain ⟨rfl, hsz, hP, hK, hD0, hE⟩ := hv
  have hx := B.exec
  have hb := B.bytes
  have hr := B.returns
  have hts := atoms_spec (ws := wsX9_sheetAt) B.pre
  have hown : s.vm.findClass RX9 = some m.cls := findClass_of_methodNamed B.named
  have hlocks := B.notSynchronized
  subst hsz
  have hD := hD0.self (sz := s.heap.size)
  generalize hAe : va_A (xN cA r (u, a, th, LP, tf)) s.heap.size = A at hD hE ⊢
  have hA : ∀ q : Nat, s.heap.size ≤ q → A q := fun q h => by rw [← hAe]; exact Or.inr h
  have hS : va_S A s.heap s.heap [] := va_S.rf
  have hinX9 : ∀ w ∈ u_ws RX9 TX9 8, w ∈ wsX9_sheetAt := by decide +kernel
  have hl := lv_entry ([.ref (r 0), .int x]) (n := 2) (Nat.le_of_ble_eq_true rfl)
  rw [lg_entry_eq]
  generalize (lg_sl ([.ref (r 0), .int x]) ++ List.replicate (2 - (lg_sl ([.ref (r 0), .int x])).length) Slot.unset).toArray = ls at hl ⊢
  have hl : lv_has ls 2 [(0, .ref (r 0)), (1, .int x)] := hl
  refine lv_iload_n hx hb dX9_sheetAt_0 rfl (lv_at hl 1 rfl) ?_
  refine lv_if_lt (tgt := 22) hx hb dX9_sheetAt_1 (by decide) (fun c_1 => ?_) (fun c_1 => ?_)
  · refine lv_null hx hb dX9_sheetAt_22 ?_
    exact wQret hx hb hr hlocks (v := none) (u, a, th, LP, tf) (⟨rfl, Or.inr ⟨ir_lo (lo := 0) c_1, rfl⟩⟩) hK hP hD hS dX9_sheetAt_23
  · refine lv_iload_n hx hb dX9_sheetAt_4 rfl (lv_at hl 1 rfl) ?_
    refine lv_aload_n hx hb dX9_sheetAt_5 rfl (lv_at hl 0 rfl) ?_
    refine va_get (D := D) (ci := 9) (v := .ref (r 10)) (C := RX9) (T := TX9) (N := 8) hx hb hts hinX9 hown hK hP 0 rfl rfl 4 (by decide) (hts (.fieldLink RX9 43 "OneNail" "sheets" "[LOneNail$Sheet;") (by decide +kernel)) (fun _ h9 => h9) rfl dX9_sheetAt_6 ?_
    refine va_alen hx hb hK hP 10 2 (v := nI 4) rfl rfl rfl dX9_sheetAt_9 ?_
    refine lv_icmp_ge (tgt := 22) hx hb dX9_sheetAt_10 (by decide) (fun c_2 => ?_) (fun c_2 => ?_)
    · refine lv_null hx hb dX9_sheetAt_22 ?_
      exact wQret hx hb hr hlocks (v := none) (u, a, th, LP, tf) (⟨rfl, Or.inr ⟨ir_hi (hi := 3) c_2 (by decide), rfl⟩⟩) hK hP hD hS dX9_sheetAt_23
    · obtain ⟨k9, hk9, hkx⟩ := th_in (n := 4) (by decide) c_1 c_2
      have hl : lv_has ls 2 [(0, .ref (r 0)), (1, .int (nI k9))] := lv_re hl 1 ⟨rfl, rfl⟩ (hkx)
      refine lv_aload_n hx hb dX9_sheetAt_13 rfl (lv_at hl 0 rfl) ?_
      refine va_get (D := D) (ci := 9) (v := .ref (r 10)) (C := RX9) (T := TX9) (N := 8) hx hb hts hinX9 hown hK hP 0 rfl rfl 4 (by decide) (hts (.fieldLink RX9 43 "OneNail" "sheets" "[LOneNail$Sheet;") (by decide +kernel)) (fun _ h9 => h9) rfl dX9_sheetAt_14 ?_
      refine lv_iload_n hx hb dX9_sheetAt_17 rfl (lv_at hl 1 rfl) ?_
      refine wAld hx hb hK hP 10 2 (n := 4) (y := r (6 + k9)) rfl rfl (j := k9) hk9 (by decide) (if_pos hk9) dX9_sheetAt_18 ?_
      refine lv_goto (tgt := 23) hx hb dX9_sheetAt_19 (by decide) ?_
      exact wQret hx hb hr hlocks (v := some (r (6 + k9))) (u, a, th, LP, tf) (⟨rfl, Or.inl ⟨k9, hk9, hkx, rfl⟩⟩) hK hP hD hS dX9_sheetAt_23

set_option maxHeartbeats 4000000 in
set_option maxRecDepth 100000 in
theorem kX9_failBy (l : Launch) (D : va_G) (cA : Nat → ClassId) (r : Nat → Nat) (sz : Nat) (u : Nat → Int32) (a : Nat → Nat → Int32) (th : Nat → Option Nat) (LP : List Nat) (tf : Nat → va_E) (tO : Nat) (x : Int32)  : Met l yX9_failBy wsX9_failBy ({ frames := 0, cells := 0, slots := 0, locals := 0 } : Room) (va_Pc [.ref (r 0), .int x] (wA D vwCl (tyA cA) (eO tO) (xN cA r) (u, a, th, LP, tf) sz)) (va_Qi (fun (v : Int32) (z : sN) => v = (-10) - x ∧ z = (upd u 0 x, a, th, LP, tf)) (wB D vwCl (tyA cA) (xN cA r) (va_A (xN cA r (u, a, th, LP, tf)) sz)) (va_A (xN cA r (u, a, th, LP, tf)) sz)) 0 0 (va_A (xN cA r (u, a, th, LP, tf)) sz) := by
  refine Met.ofW (cc := cX9_failBy) (maxL := 2) (ret := (some .int)) (by decide) rfl ?_
  intro p e s m args below meth c s₁ B hml hv
  obtain ⟨rfl, hsz, hP, hK, hD0, hE⟩ := hv
  have hx := B.exec
  have hb := B.bytes
  have hr := B.returns
  have hts := atoms_spec (ws := wsX9_failBy) B.pre
  have hown : s.vm.findClass RX9 = some m.cls := findClass_of_methodNamed B.named
  have hlocks := B.notSynchronized
  subst hsz
  have hD := hD0.self (sz := s.heap.size)
  generalize hAe : va_A (xN cA r (u, a, th, LP, tf)) s.heap.size = A at hD hE ⊢
  have hA : ∀ q : Nat, s.heap.size ≤ q → A q := fun q h => by rw [← hAe]; exact Or.inr h
  have hS : va_S A s.heap s.heap [] := va_S.rf
  have hinX9 : ∀ w ∈ u_ws RX9 TX9 8, w ∈ wsX9_failBy := by decide +kernel
  have hl := lv_entry ([.ref (r 0), .int x]) (n := 2) (Nat.le_of_ble_eq_true rfl)
  rw [lg_entry_eq]
  generalize (lg_sl ([.ref (r 0), .int x]) ++ List.replicate (2 - (lg_sl ([.ref (r 0), .int x])).length) Slot.unset).toArray = ls at hl ⊢
  have hl : lv_has ls 2 [(0, .ref (r 0)), (1, .int x)] := hl
  refine lv_aload_n hx hb dX9_failBy_0 rfl (lv_at hl 0 rfl) ?_
  refine lv_iload_n hx hb dX9_failBy_1 rfl (lv_at hl 1 rfl) ?_
  refine va_put (D := D) (ci := 9) (v := .int x) (ty := .int) (C := RX9) (T := TX9) (N := 8) hx hb hts hinX9 tyX9 tyX9_ok nmX9 hown hK hP hD hS 0 rfl rfl 7 (by decide) (hts (.fieldLink RX9 58 "OneNail" "lastFault" "I") (by decide +kernel)) (fun _ h9 => h9) rfl (by decide +kernel) rfl rfl (Nat.le_of_ble_eq_true rfl) dX9_failBy_2 (fun H locs hP hD hS => ?_)
  have hP : va_P D vwCl (xN cA r ((upd u 0 x), a, th, LP, tf)) H := hP
  have hD : va_D A (xN cA r ((upd u 0 x), a, th, LP, tf)) := hD
  refine lv_bipush (v := (-10)) hx hb dX9_failBy_5 (by decide) ?_
  refine lv_iload_n hx hb dX9_failBy_7 rfl (lv_at hl 1 rfl) ?_
  refine lv_isub hx hb dX9_failBy_8 ?_
  exact wIret hx hb hr hlocks (v := ((-10) - x)) ((upd u 0 x), a, th, LP, tf) (⟨rfl, rfl⟩) hK hP hD hS dX9_failBy_9

set_option maxHeartbeats 4000000 in
set_option maxRecDepth 100000 in
theorem kX9_refuseLane (l : Launch) (D : va_G) (cA : Nat → ClassId) (r : Nat → Nat) (sz : Nat) (u : Nat → Int32) (a : Nat → Nat → Int32) (th : Nat → Option Nat) (LP : List Nat) (tf : Nat → va_E) (tO : Nat) (k9 : Nat) (s9 lane : Int32) (hk9 : k9 < 4) (hs9 : s9 = -9 ∨ isL s9) (hl9 : u (14 + k9) = if s9 = -9 then -1 else s9) : Met l yX9_refuseLane wsX9_refuseLane ({ frames := 1, cells := 0, slots := 0, locals := 21 } : Room) (va_Pc [.ref (r 0), .ref (r (6 + k9)), .int lane] (wA D vwCl (tyA cA) (eO tO) (xN cA r) (u, a, th, LP, tf) sz)) (va_Qi (fun (v : Int32) (z : sN) => (s9 = -9 ∧ v = (-10) - nI 1 ∧ z = (upd u 0 (nI 1), a, th, LP, tf)) ∨ (¬ s9 = -9 ∧ ¬ s9 = lane ∧ v = (-10) - nI 2 ∧ z = (upd u 0 (nI 2), a, th, LP, tf)) ∨ (¬ s9 = -9 ∧ s9 = lane ∧ v = nI 0 ∧ z = (u, a, th, LP, tf))) (wB D vwCl (tyA cA) (xN cA r) (va_A (xN cA r (u, a, th, LP, tf)) sz)) (va_A (xN cA r (u, a, th, LP, tf)) sz)) 0 0 (va_A (xN cA r (u, a, th, LP, tf)) sz) := by
  refine Met.ofW (cc := cX9_refuseLane) (maxL := 3) (ret := (some .int)) (by decide) rfl ?_
  intro p e s m args below meth c s₁ B hml hv
  obtain ⟨rfl, hsz, hP, hK, hD0, hE⟩ := hv
  have hx := B.exec
  have hb := B.bytes
  have hr := B.returns
  have hts := atoms_spec (ws := wsX9_refuseLane) B.pre
  have hown : s.vm.findClass RX9 = some m.cls := findClass_of_methodNamed B.named
  have hlocks := B.notSynchronized
  subst hsz
  have hD := hD0.self (sz := s.heap.size)
  generalize hAe : va_A (xN cA r (u, a, th, LP, tf)) s.heap.size = A at hD hE ⊢
  have hA : ∀ q : Nat, s.heap.size ≤ q → A q := fun q h => by rw [← hAe]; exact Or.inr h
  have hS : va_S A s.heap s.heap [] := va_S.rf
  have hinX4 : ∀ w ∈ u_ws RX4 TX4 3, w ∈ wsX9_refuseLane := by decide +kernel
  have hl := lv_entry ([.ref (r 0), .ref (r (6 + k9)), .int lane]) (n := 3) (Nat.le_of_ble_eq_true rfl)
  rw [lg_entry_eq]
  generalize (lg_sl ([.ref (r 0), .ref (r (6 + k9)), .int lane]) ++ List.replicate (3 - (lg_sl ([.ref (r 0), .ref (r (6 + k9)), .int lane])).length) Slot.unset).toArray = ls at hl ⊢
  have hl : lv_has ls 3 [(0, .ref (r 0)), (1, .ref (r (6 + k9))), (2, .int lane)] := hl
  refine lv_aload_n hx hb dX9_refuseLane_0 rfl (lv_at hl 1 rfl) ?_
  refine wVi (eO_S tO) (As := []) (rest := []) ⟨hx, hb, hml, hown, hts⟩ (kX4_isNothing l D cA r _ u a th LP tf tO k9 hk9) (cwV 0 hts gX9_refuseLane_X4_isNothing rfl rfl rfl (by decide +kernel) ⟨Nat.le_of_ble_eq_true rfl, Nat.le_of_ble_eq_true rfl⟩) (va_recv hK hP (ci := 4) (q0 := (6 + k9)) rfl (WN_o hk9)) hK hP hD hS hA hE rfl hl.1 rfl (Nat.le_of_ble_eq_true rfl) dX9_refuseLane_1 ⟨Nat.zero_le _, Nat.zero_le _⟩ (fun rv_1 z_3 H locs hw_2 hP hD hS => ?_)
  obtain ⟨hz_4, hw_2⟩ := hw_2
  subst hz_4
  have hP : va_P D vwCl (xN cA r (u, a, th, LP, tf)) H := hP
  have hD : va_D A (xN cA r (u, a, th, LP, tf)) := hD
  rcases hw_2 with ⟨rfl, b_5⟩ | ⟨rfl, b_5⟩
  · have hn9 : s9 = -9 := (sl_no hs9 hl9).mp b_5
    refine lv_if_eq (tgt := 13) hx hb dX9_refuseLane_4 (by decide) (fun c_6 => absurd c_6 (by decide)) (fun _ => ?_)
    refine lv_aload_n hx hb dX9_refuseLane_7 rfl (lv_at hl 0 rfl) ?_
    refine lv_iconst (v := (nI 1)) hx hb dX9_refuseLane_8 rfl ?_
    refine wVi (eO_S tO) (As := [.int (nI 1)]) (rest := []) ⟨hx, hb, hml, hown, hts⟩ (kX9_failBy l D cA r _ u a th LP tf tO (nI 1)) (cwV 1 hts gX9_refuseLane_X9_failBy rfl rfl rfl (by decide +kernel) ⟨Nat.le_of_ble_eq_true rfl, Nat.le_of_ble_eq_true rfl⟩) (va_recv hK hP (ci := 9) (q0 := 0) rfl rfl) hK hP hD hS hA hE rfl hl.1 rfl (Nat.le_of_ble_eq_true rfl) dX9_refuseLane_9 ⟨Nat.zero_le _, Nat.zero_le _⟩ (fun rv_7 z_9 H locs hw_8 hP hD hS => ?_)
    obtain ⟨rfl, rfl⟩ := hw_8
    have hP : va_P D vwCl (xN cA r ((upd u 0 (nI 1)), a, th, LP, tf)) H := hP
    have hD : va_D A (xN cA r ((upd u 0 (nI 1)), a, th, LP, tf)) := hD
    exact wIret hx hb hr hlocks (v := ((-10) - (nI 1))) ((upd u 0 (nI 1)), a, th, LP, tf) (Or.inl ⟨hn9, rfl, rfl⟩) hK hP hD hS dX9_refuseLane_12
  · have hn9 : ¬ s9 = -9 := fun q => b_5 ((sl_no hs9 hl9).mpr q)
    refine lv_if_eq (tgt := 13) hx hb dX9_refuseLane_4 (by decide) (fun _ => ?_) (fun c_10 => absurd c_10 (by decide))
    refine lv_aload_n hx hb dX9_refuseLane_13 rfl (lv_at hl 1 rfl) ?_
    refine va_get (D := D) (ci := 4) (v := .int s9) (C := RX4) (T := TX4) (N := 3) hx hb hts hinX4 hown hK hP (6 + k9) (WN_o hk9) rfl 0 (by decide) (hts (.fieldLink RX9 216 "OneNail$Sheet" "lane" "I") (by decide +kernel)) (fun _ h9 => h9) (congrArg (fun z => some (Value.int z)) (hl9.trans (if_neg hn9))) dX9_refuseLane_14 ?_
    refine lv_iload_n hx hb dX9_refuseLane_17 rfl (lv_at hl 2 rfl) ?_
    refine lv_icmp_eq (tgt := 29) hx hb dX9_refuseLane_18 (by decide) (fun c_11 => ?_) (fun c_11 => ?_)
    · refine lv_iconst (v := (nI 0)) hx hb dX9_refuseLane_29 rfl ?_
      exact wIret hx hb hr hlocks (v := (nI 0)) (u, a, th, LP, tf) (Or.inr (Or.inr ⟨hn9, c_11, rfl, rfl⟩)) hK hP hD hS dX9_refuseLane_30
    · refine lv_aload_n hx hb dX9_refuseLane_21 rfl (lv_at hl 0 rfl) ?_
      refine lv_iconst (v := (nI 2)) hx hb dX9_refuseLane_22 rfl ?_
      refine wVi (eO_S tO) (As := [.int (nI 2)]) (rest := []) ⟨hx, hb, hml, hown, hts⟩ (kX9_failBy l D cA r _ u a th LP tf tO (nI 2)) (cwV 1 hts gX9_refuseLane_X9_failBy rfl rfl rfl (by decide +kernel) ⟨Nat.le_of_ble_eq_true rfl, Nat.le_of_ble_eq_true rfl⟩) (va_recv hK hP (ci := 9) (q0 := 0) rfl rfl) hK hP hD hS hA hE rfl hl.1 rfl (Nat.le_of_ble_eq_true rfl) dX9_refuseLane_23 ⟨Nat.zero_le _, Nat.zero_le _⟩ (fun rv_12 z_14 H locs hw_13 hP hD hS => ?_)
      obtain ⟨rfl, rfl⟩ := hw_13
      have hP : va_P D vwCl (xN cA r ((upd u 0 (nI 2)), a, th, LP, tf)) H := hP
      have hD : va_D A (xN cA r ((upd u 0 (nI 2)), a, th, LP, tf)) := hD
      refine lv_goto (tgt := 30) hx hb dX9_refuseLane_26 (by decide) ?_
      exact wIret hx hb hr hlocks (v := ((-10) - (nI 2))) ((upd u 0 (nI 2)), a, th, LP, tf) (Or.inr (Or.inl ⟨hn9, c_11, rfl, rfl⟩)) hK hP hD hS dX9_refuseLane_30

set_option maxHeartbeats 4000000 in
set_option maxRecDepth 100000 in
theorem kX9_refuseCells (l : Launch) (D : va_G) (cA : Nat → ClassId) (r : Nat → Nat) (sz : Nat) (u : Nat → Int32) (a : Nat → Nat → Int32) (th : Nat → Option Nat) (LP : List Nat) (tf : Nat → va_E) (tO : Nat) (g : Nat → Nat) (T : Nat → Nat → Nat) (R : Nat → Nat → Nat) (so : Nat → Int32) (ln : Nat → Nat) (ce : Nat → Nat → Int32) (f tr : Int32) (sh b lane i n : Int32) (C2 : Prop) (hI : CI u a th LP tf g T R so ln ce f tr) (hb2 : (b = nI 1 ∧ C2) ∨ (b = nI 0 ∧ ¬ C2)) : Met l yX9_refuseCells wsX9_refuseCells ({ frames := 2, cells := 0, slots := 0, locals := 43 } : Room) (va_Pc [.ref (r 0), .int sh, .int b, .int lane, .int i, .int n] (wA D vwCl (tyA cA) (eO tO) (xN cA r) (u, a, th, LP, tf) sz)) (va_Qi (fun (v : Int32) (z : sN) => v = cif (inR sh 0 3) (cif C2 (rcA (AG so ln sh lane i n)) (-2)) (-1) ∧ z = (upd u 0 (fRnd so ln (inR sh 0 3) C2 sh lane i n), a, th, LP, tf)) (wB D vwCl (tyA cA) (xN cA r) (va_A (xN cA r (u, a, th, LP, tf)) sz)) (va_A (xN cA r (u, a, th, LP, tf)) sz)) 0 0 (va_A (xN cA r (u, a, th, LP, tf)) sz) := by
  refine Met.ofW (cc := cX9_refuseCells) (maxL := 8) (ret := (some .int)) (by decide) rfl ?_
  intro p e s m args below meth c s₁ B hml hv
  obtain ⟨rfl, hsz, hP, hK, hD0, hE⟩ := hv
  have hx := B.exec
  have hb := B.bytes
  have hr := B.returns
  have hts := atoms_spec (ws := wsX9_refuseCells) B.pre
  have hown : s.vm.findClass RX9 = some m.cls := findClass_of_methodNamed B.named
  have hlocks := B.notSynchronized
  subst hsz
  have hD := hD0.self (sz := s.heap.size)
  generalize hAe : va_A (xN cA r (u, a, th, LP, tf)) s.heap.size = A at hD hE ⊢
  have hA : ∀ q : Nat, s.heap.size ≤ q → A q := fun q h => by rw [← hAe]; exact Or.inr h
  have hS : va_S A s.heap s.heap [] := va_S.rf
  have hinX9 : ∀ w ∈ u_ws RX9 TX9 8, w ∈ wsX9_refuseCells := by decide +kernel
  have hl := lv_entry ([.ref (r 0), .int sh, .int b, .int lane, .int i, .int n]) (n := 8) (Nat.le_of_ble_eq_true rfl)
  rw [lg_entry_eq]
  generalize (lg_sl ([.ref (r 0), .int sh, .int b, .int lane, .int i, .int n]) ++ List.replicate (8 - (lg_sl ([.ref (r 0), .int sh, .int b, .int lane, .int i, .int n])).length) Slot.unset).toArray = ls at hl ⊢
  have hl : lv_has ls 8 [(0, .ref (r 0)), (1, .int sh), (2, .int b), (3, .int lane), (4, .int i), (5, .int n)] := hl
  have hM := hI.1
  have hB := hI.2.1
  have hg6 := hB.1
  have hsm := hI.2.2.1
  have hrs := hI.2.2.2.1
  have hRd := hI.2.2.2.2.1
  have hSh := hI.2.2.2.2.2.1
  have hf0 := hI.2.2.2.2.2.2.1
  have htr := hI.2.2.2.2.2.2.2.1
  have hPo := hI.2.2.2.2.2.2.2.2
  refine lv_aload_n hx hb dX9_refuseCells_0 rfl (lv_at hl 0 rfl) ?_
  refine lv_iconst (v := (nI 0)) hx hb dX9_refuseCells_1 rfl ?_
  refine va_put (D := D) (ci := 9) (v := .int (nI 0)) (ty := .int) (C := RX9) (T := TX9) (N := 8) hx hb hts hinX9 tyX9 tyX9_ok nmX9 hown hK hP hD hS 0 rfl rfl 7 (by decide) (hts (.fieldLink RX9 58 "OneNail" "lastFault" "I") (by decide +kernel)) (fun _ h9 => h9) rfl (by decide +kernel) rfl rfl (Nat.le_of_ble_eq_true rfl) dX9_refuseCells_2 (fun H locs hP hD hS => ?_)
  have hP : va_P D vwCl (xN cA r ((upd u 0 (nI 0)), a, th, LP, tf)) H := hP
  have hD : va_D A (xN cA r ((upd u 0 (nI 0)), a, th, LP, tf)) := hD
  refine lv_aload_n hx hb dX9_refuseCells_5 rfl (lv_at hl 0 rfl) ?_
  refine lv_iload_n hx hb dX9_refuseCells_6 rfl (lv_at hl 1 rfl) ?_
  refine wVq (eO_S tO) (As := [.int sh]) (rest := []) ⟨hx, hb, hml, hown, hts⟩ (kX9_sheetAt l D cA r _ (upd u 0 (nI 0)) a th LP tf tO sh) (cwV 1 hts gX9_refuseCells_X9_sheetAt rfl rfl rfl (by decide +kernel) ⟨Nat.le_of_ble_eq_true rfl, Nat.le_of_ble_eq_true rfl⟩) (va_recv hK hP (ci := 9) (q0 := 0) rfl rfl) hK hP hD hS hA hE rfl hl.1 rfl (Nat.le_of_ble_eq_true rfl) dX9_refuseCells_7 ⟨Nat.zero_le _, Nat.zero_le _⟩ (fun rv_1 z_3 H locs hw_2 hP hD hS => ?_)
  obtain ⟨hz_4, hw_2⟩ := hw_2
  subst hz_4
  have hP : va_P D vwCl (xN cA r ((upd u 0 (nI 0)), a, th, LP, tf)) H := hP
  have hD : va_D A (xN cA r ((upd u 0 (nI 0)), a, th, LP, tf)) := hD
  rcases hw_2 with ⟨k5, hk6, hxk7, rfl⟩ | ⟨hxk7, rfl⟩
  · have hkc_k5 : sh.toNatClampNeg = k5 := by rw [hxk7]; exact nI_clamp (by omega)
    have hsk_k5 := hSh k5 hk6
    have hlk_k5 := hsk_k5.2.2.2.1
    have hll_k5 : (if so k5 = -9 then 0 else ln k5) ≤ 60 := by split <;> omega
    have hin_k5 : inR sh 0 3 := by rw [hxk7]; exact ⟨nI_pos' (by omega), (nI_leI (by omega) (by decide)).mpr (by omega)⟩
    refine lv_astore (lv' := [(6, .ref (r (6 + k5))), (0, .ref (r 0)), (1, .int sh), (2, .int b), (3, .int lane), (4, .int i), (5, .int n)]) hx hb dX9_refuseCells_10 hl (by decide) rfl (fun ls hl => ?_)
    refine lv_aload hx hb dX9_refuseCells_12 (lv_at hl 0 rfl) ?_
    refine lv_ifnonnull (tgt := 19) hx hb dX9_refuseCells_14 (by decide) ?_
    rcases hb2 with ⟨hb2, hC2⟩ | ⟨hb2, hC2⟩
    · have hl : lv_has ls 8 [(6, .ref (r (6 + k5))), (0, .ref (r 0)), (1, .int sh), (2, .int (nI 1)), (3, .int lane), (4, .int i), (5, .int n)] := lv_re hl 3 ⟨rfl, rfl⟩ (hb2)
      refine lv_iload_n hx hb dX9_refuseCells_19 rfl (lv_at hl 3 rfl) ?_
      refine lv_if_ne (tgt := 26) hx hb dX9_refuseCells_20 (by decide) (fun _ => ?_) (fun c_8 => absurd c_8 (by decide))
      refine lv_aload_n hx hb dX9_refuseCells_26 rfl (lv_at hl 1 rfl) ?_
      refine lv_aload hx hb dX9_refuseCells_27 (lv_at hl 0 rfl) ?_
      refine lv_iload_n hx hb dX9_refuseCells_29 rfl (lv_at hl 4 rfl) ?_
      refine wVi (eO_S tO) (As := [.ref (r (6 + k5)), .int lane]) (rest := []) ⟨hx, hb, hml, hown, hts⟩ (kX9_refuseLane l D cA r _ (upd u 0 (nI 0)) a th LP tf tO k5 (so k5) lane hk6 hsk_k5.1 (Eq.trans (up_ne (by omega)) (hsk_k5.2.1))) (cwV 2 hts gX9_refuseCells_X9_refuseLane rfl rfl rfl (by decide +kernel) ⟨Nat.le_of_ble_eq_true rfl, Nat.le_of_ble_eq_true rfl⟩) (va_recv hK hP (ci := 9) (q0 := 0) rfl rfl) hK hP hD hS hA hE rfl hl.1 rfl (Nat.le_of_ble_eq_true rfl) dX9_refuseCells_30 ⟨Nat.zero_le _, Nat.zero_le _⟩ (fun rv_9 z_11 H locs hw_10 hP hD hS => ?_)
      rcases hw_10 with ⟨hn12, rfl, rfl⟩ | ⟨hn12, hl13, rfl, rfl⟩ | ⟨hn12, hl13, rfl, rfl⟩
      · have hP : va_P D vwCl (xN cA r ((upd u 0 (nI 1)), a, th, LP, tf)) H := hP
        have hD : va_D A (xN cA r ((upd u 0 (nI 1)), a, th, LP, tf)) := hD
        refine lv_istore (lv' := [(7, .int ((-10) - (nI 1))), (6, .ref (r (6 + k5))), (0, .ref (r 0)), (1, .int sh), (2, .int (nI 1)), (3, .int lane), (4, .int i), (5, .int n)]) hx hb dX9_refuseCells_33 hl (by decide) rfl (fun ls hl => ?_)
        refine lv_iload hx hb dX9_refuseCells_35 (lv_at hl 0 rfl) ?_
        refine lv_if_eq (tgt := 43) hx hb dX9_refuseCells_37 (by decide) (fun c_14 => absurd c_14 (by decide)) (fun c_14 => ?_)
        refine lv_iload hx hb dX9_refuseCells_40 (lv_at hl 0 rfl) ?_
        exact wIret hx hb hr hlocks (v := ((-10) - (nI 1))) ((upd u 0 (nI 1)), a, th, LP, tf) (⟨by rw [cif_pos hin_k5, cif_pos hC2, show AG so ln sh lane i n = nI 1 by (unfold AG; rw [hkc_k5]; exact ag_1 hn12)]; exact rcA_1, by unfold fRnd; rw [cif_pos hin_k5, cif_pos hC2, show AG so ln sh lane i n = nI 1 by (unfold AG; rw [hkc_k5]; exact ag_1 hn12)]⟩) hK hP hD hS dX9_refuseCells_42
      · have hP : va_P D vwCl (xN cA r ((upd u 0 (nI 2)), a, th, LP, tf)) H := hP
        have hD : va_D A (xN cA r ((upd u 0 (nI 2)), a, th, LP, tf)) := hD
        refine lv_istore (lv' := [(7, .int ((-10) - (nI 2))), (6, .ref (r (6 + k5))), (0, .ref (r 0)), (1, .int sh), (2, .int (nI 1)), (3, .int lane), (4, .int i), (5, .int n)]) hx hb dX9_refuseCells_33 hl (by decide) rfl (fun ls hl => ?_)
        refine lv_iload hx hb dX9_refuseCells_35 (lv_at hl 0 rfl) ?_
        refine lv_if_eq (tgt := 43) hx hb dX9_refuseCells_37 (by decide) (fun c_15 => absurd c_15 (by decide)) (fun c_15 => ?_)
        refine lv_iload hx hb dX9_refuseCells_40 (lv_at hl 0 rfl) ?_
        exact wIret hx hb hr hlocks (v := ((-10) - (nI 2))) ((upd u 0 (nI 2)), a, th, LP, tf) (⟨by rw [cif_pos hin_k5, cif_pos hC2, show AG so ln sh lane i n = nI 2 by (unfold AG; rw [hkc_k5]; exact ag_2 hn12 hl13)]; exact rcA_2, by unfold fRnd; rw [cif_pos hin_k5, cif_pos hC2, show AG so ln sh lane i n = nI 2 by (unfold AG; rw [hkc_k5]; exact ag_2 hn12 hl13)]⟩) hK hP hD hS dX9_refuseCells_42
      · have hP : va_P D vwCl (xN cA r ((upd u 0 (nI 0)), a, th, LP, tf)) H := hP
        have hD : va_D A (xN cA r ((upd u 0 (nI 0)), a, th, LP, tf)) := hD
        refine lv_istore (lv' := [(7, .int (nI 0)), (6, .ref (r (6 + k5))), (0, .ref (r 0)), (1, .int sh), (2, .int (nI 1)), (3, .int lane), (4, .int i), (5, .int n)]) hx hb dX9_refuseCells_33 hl (by decide) rfl (fun ls hl => ?_)
        refine lv_iload hx hb dX9_refuseCells_35 (lv_at hl 0 rfl) ?_
        refine lv_if_eq (tgt := 43) hx hb dX9_refuseCells_37 (by decide) (fun _ => ?_) (fun c_16 => absurd c_16 (by decide))
        refine lv_iload hx hb dX9_refuseCells_43 (lv_at hl 7 rfl) ?_
        refine lv_if_ge (tgt := 54) hx hb dX9_refuseCells_45 (by decide) (fun c_17 => ?_) (fun c_17 => ?_)
        · refine lv_aload hx hb dX9_refuseCells_54 (lv_at hl 1 rfl) ?_
          refine lv_iload hx hb dX9_refuseCells_56 (lv_at hl 6 rfl) ?_
          refine lv_iload hx hb dX9_refuseCells_58 (lv_at hl 7 rfl) ?_
          refine wVi (eO_S tO) (As := [.int i, .int n]) (rest := []) ⟨hx, hb, hml, hown, hts⟩ (kX4_spans l D cA r _ (upd u 0 (nI 0)) a th LP tf tO k5 (ln k5) i n hk6 (Eq.trans (up_ne (by omega)) ((hsk_k5.2.2.1.trans (congrArg nI (if_neg hn12))))) hlk_k5) (cwV 2 hts gX9_refuseCells_X4_spans rfl rfl rfl (by decide +kernel) ⟨Nat.le_of_ble_eq_true rfl, Nat.le_of_ble_eq_true rfl⟩) (va_recv hK hP (ci := 4) (q0 := (6 + k5)) rfl (WN_o hk6)) hK hP hD hS hA hE rfl hl.1 rfl (Nat.le_of_ble_eq_true rfl) dX9_refuseCells_60 ⟨Nat.zero_le _, Nat.zero_le _⟩ (fun rv_18 z_20 H locs hw_19 hP hD hS => ?_)
          obtain ⟨hz_21, hw_19⟩ := hw_19
          subst hz_21
          have hP : va_P D vwCl (xN cA r ((upd u 0 (nI 0)), a, th, LP, tf)) H := hP
          have hD : va_D A (xN cA r ((upd u 0 (nI 0)), a, th, LP, tf)) := hD
          rcases hw_19 with ⟨rfl, b_22⟩ | ⟨rfl, b_22⟩
          · refine lv_if_eq (tgt := 70) hx hb dX9_refuseCells_63 (by decide) (fun c_23 => absurd c_23 (by decide)) (fun _ => ?_)
            refine lv_iconst (v := (nI 0)) hx hb dX9_refuseCells_66 rfl ?_
            refine lv_goto (tgt := 75) hx hb dX9_refuseCells_67 (by decide) ?_
            exact wIret hx hb hr hlocks (v := (nI 0)) ((upd u 0 (nI 0)), a, th, LP, tf) (⟨by rw [cif_pos hin_k5, cif_pos hC2, show AG so ln sh lane i n = nI 0 by (unfold AG; rw [hkc_k5]; exact ag_0 hn12 hl13 (Int32.not_lt.mpr c_17) (sp_yes b_22))]; exact rcA_0, by unfold fRnd; rw [cif_pos hin_k5, cif_pos hC2, show AG so ln sh lane i n = nI 0 by (unfold AG; rw [hkc_k5]; exact ag_0 hn12 hl13 (Int32.not_lt.mpr c_17) (sp_yes b_22))]⟩) hK hP hD hS dX9_refuseCells_75
          · refine lv_if_eq (tgt := 70) hx hb dX9_refuseCells_63 (by decide) (fun _ => ?_) (fun c_24 => absurd c_24 (by decide))
            refine lv_aload_n hx hb dX9_refuseCells_70 rfl (lv_at hl 2 rfl) ?_
            refine lv_iconst (v := (nI 3)) hx hb dX9_refuseCells_71 rfl ?_
            refine wVi (eO_S tO) (As := [.int (nI 3)]) (rest := []) ⟨hx, hb, hml, hown, hts⟩ (kX9_failBy l D cA r _ (upd u 0 (nI 0)) a th LP tf tO (nI 3)) (cwV 1 hts gX9_refuseCells_X9_failBy rfl rfl rfl (by decide +kernel) ⟨Nat.le_of_ble_eq_true rfl, Nat.le_of_ble_eq_true rfl⟩) (va_recv hK hP (ci := 9) (q0 := 0) rfl rfl) hK hP hD hS hA hE rfl hl.1 rfl (Nat.le_of_ble_eq_true rfl) dX9_refuseCells_72 ⟨Nat.zero_le _, Nat.zero_le _⟩ (fun rv_25 z_27 H locs hw_26 hP hD hS => ?_)
            obtain ⟨rfl, rfl⟩ := hw_26
            have hP : va_P D vwCl (xN cA r ((upd u 0 (nI 3)), a, th, LP, tf)) H := hP
            have hD : va_D A (xN cA r ((upd u 0 (nI 3)), a, th, LP, tf)) := hD
            exact wIret hx hb hr hlocks (v := ((-10) - (nI 3))) ((upd u 0 (nI 3)), a, th, LP, tf) (⟨by rw [cif_pos hin_k5, cif_pos hC2, show AG so ln sh lane i n = nI 3 by (unfold AG; rw [hkc_k5]; exact ag_3 hn12 hl13 (Int32.not_lt.mpr c_17) (sp_no (Int32.not_lt.mpr c_17) b_22))]; exact rcA_3, by unfold fRnd; rw [cif_pos hin_k5, cif_pos hC2, show AG so ln sh lane i n = nI 3 by (unfold AG; rw [hkc_k5]; exact ag_3 hn12 hl13 (Int32.not_lt.mpr c_17) (sp_no (Int32.not_lt.mpr c_17) b_22))]⟩) hK hP hD hS dX9_refuseCells_75
        · refine lv_aload_n hx hb dX9_refuseCells_48 rfl (lv_at hl 2 rfl) ?_
          refine lv_iconst (v := (nI 4)) hx hb dX9_refuseCells_49 rfl ?_
          refine wVi (eO_S tO) (As := [.int (nI 4)]) (rest := []) ⟨hx, hb, hml, hown, hts⟩ (kX9_failBy l D cA r _ (upd u 0 (nI 0)) a th LP tf tO (nI 4)) (cwV 1 hts gX9_refuseCells_X9_failBy rfl rfl rfl (by decide +kernel) ⟨Nat.le_of_ble_eq_true rfl, Nat.le_of_ble_eq_true rfl⟩) (va_recv hK hP (ci := 9) (q0 := 0) rfl rfl) hK hP hD hS hA hE rfl hl.1 rfl (Nat.le_of_ble_eq_true rfl) dX9_refuseCells_50 ⟨Nat.zero_le _, Nat.zero_le _⟩ (fun rv_28 z_30 H locs hw_29 hP hD hS => ?_)
          obtain ⟨rfl, rfl⟩ := hw_29
          have hP : va_P D vwCl (xN cA r ((upd u 0 (nI 4)), a, th, LP, tf)) H := hP
          have hD : va_D A (xN cA r ((upd u 0 (nI 4)), a, th, LP, tf)) := hD
          exact wIret hx hb hr hlocks (v := ((-10) - (nI 4))) ((upd u 0 (nI 4)), a, th, LP, tf) (⟨by rw [cif_pos hin_k5, cif_pos hC2, show AG so ln sh lane i n = nI 4 by (unfold AG; rw [hkc_k5]; exact ag_4 hn12 hl13 (Int32.not_le.mp c_17))]; exact rcA_4, by unfold fRnd; rw [cif_pos hin_k5, cif_pos hC2, show AG so ln sh lane i n = nI 4 by (unfold AG; rw [hkc_k5]; exact ag_4 hn12 hl13 (Int32.not_le.mp c_17))]⟩) hK hP hD hS dX9_refuseCells_53
    · have hl : lv_has ls 8 [(6, .ref (r (6 + k5))), (0, .ref (r 0)), (1, .int sh), (2, .int (nI 0)), (3, .int lane), (4, .int i), (5, .int n)] := lv_re hl 3 ⟨rfl, rfl⟩ (hb2)
      refine lv_iload_n hx hb dX9_refuseCells_19 rfl (lv_at hl 3 rfl) ?_
      refine lv_if_ne (tgt := 26) hx hb dX9_refuseCells_20 (by decide) (fun c_31 => absurd c_31 (by decide)) (fun _ => ?_)
      refine lv_bipush (v := (-2)) hx hb dX9_refuseCells_23 (by decide) ?_
      exact wIret hx hb hr hlocks (v := (-2)) ((upd u 0 (nI 0)), a, th, LP, tf) (⟨by rw [cif_pos hin_k5, cif_neg hC2], by unfold fRnd; rw [cif_pos hin_k5, cif_neg hC2]⟩) hK hP hD hS dX9_refuseCells_25
  · refine lv_astoreN (lv' := [(6, .null), (0, .ref (r 0)), (1, .int sh), (2, .int b), (3, .int lane), (4, .int i), (5, .int n)]) hx hb dX9_refuseCells_10 hl (by decide) rfl (fun ls hl => ?_)
    refine lv_aloadN hx hb dX9_refuseCells_12 (lv_at hl 0 rfl) ?_
    refine lv_ifnonnullN hx hb dX9_refuseCells_14 ?_
    refine lv_iconst (v := (-1)) hx hb dX9_refuseCells_17 (by decide) ?_
    exact wIret hx hb hr hlocks (v := (-1)) ((upd u 0 (nI 0)), a, th, LP, tf) (⟨by rw [cif_neg hxk7], by unfold fRnd; rw [cif_neg hxk7]⟩) hK hP hD hS dX9_refuseCells_18
