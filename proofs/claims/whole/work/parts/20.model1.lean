theorem th_in {x : Int32} {n : Nat} (hn : n < 2 ^ 31) (h0 : ¬ x < 0) (h : ¬ nI n ≤ x) : ∃ j : Nat, j < n ∧ x = nI j := by
  rcases pk_ix x hn with q | q | q
  · exact absurd q h0
  · exact absurd q h
  · exact q
theorem th_out1 {x : Int32} {n : Nat} (hn : n < 2 ^ 31) (h : x < 0) : ¬ ∃ j : Nat, j < n ∧ x = nI j := fun ⟨j, hj, e⟩ => absurd (e ▸ h) (nI_pos (Nat.lt_trans hj hn))
theorem th_out2 {x : Int32} {n : Nat} (hn : n < 2 ^ 31) (h : nI n ≤ x) : ¬ ∃ j : Nat, j < n ∧ x = nI j := fun ⟨j, hj, e⟩ => absurd (e ▸ h) (nI_ge hj hn)
set_option maxHeartbeats 4000000 in
set_option maxRecDepth 100000 in
theorem kX10_within (l : Launch) (x lo hi : Int32)  : Met l yX10_within wsX10_within ({ frames := 0, cells := 0, slots := 0, locals := 0 } : Room) (va_Pc [.int x, .int lo, .int hi] (fun _ => True)) (vp_Si (fun v => (v = nI 1 ∧ (lo ≤ x ∧ x ≤ hi)) ∨ (v = nI 0 ∧ ¬ (lo ≤ x ∧ x ≤ hi)))) 0 0 (fun _ => False) := by
  refine Met.ofW (cc := cX10_within) (maxL := 3) (ret := (some .boolean)) (by decide) rfl ?_
  intro p e s m args below meth c s₁ B hml hv
  obtain ⟨rfl, -⟩ := hv
  have hx := B.exec
  have hb := B.bytes
  have hr := B.returns
  have hts := atoms_spec (ws := wsX10_within) B.pre
  have hown : s.vm.findClass RX10 = some m.cls := findClass_of_methodNamed B.named
  have hlocks := B.notSynchronized
  have hl := lv_entry ([.int x, .int lo, .int hi]) (n := 3) (Nat.le_of_ble_eq_true rfl)
  rw [lg_entry_eq]
  generalize (lg_sl ([.int x, .int lo, .int hi]) ++ List.replicate (3 - (lg_sl ([.int x, .int lo, .int hi])).length) Slot.unset).toArray = ls at hl ⊢
  have hl : lv_has ls 3 [(0, .int x), (1, .int lo), (2, .int hi)] := hl
  refine lv_iload_n hx hb dX10_within_0 rfl (lv_at hl 0 rfl) ?_
  refine lv_iload_n hx hb dX10_within_1 rfl (lv_at hl 1 rfl) ?_
  refine lv_icmp_lt (tgt := 14) hx hb dX10_within_2 (by decide) (fun c_1 => ?_) (fun c_1 => ?_)
  · refine lv_iconst (v := (nI 0)) hx hb dX10_within_14 rfl ?_
    exact wSzret hx hb hr hlocks (v := (nI 0)) (by first | exact Or.inl rfl | exact Or.inr rfl) (by first | exact Or.inl ⟨rfl, Int32.not_lt.mp (by assumption), Int32.not_lt.mp (by assumption)⟩ | exact Or.inr ⟨rfl, fun q => Int32.not_le.mpr (by assumption) q.1⟩ | exact Or.inr ⟨rfl, fun q => Int32.not_le.mpr (by assumption) q.2⟩) dX10_within_15
  · refine lv_iload_n hx hb dX10_within_5 rfl (lv_at hl 0 rfl) ?_
    refine lv_iload_n hx hb dX10_within_6 rfl (lv_at hl 2 rfl) ?_
    refine lv_icmp_gt (tgt := 14) hx hb dX10_within_7 (by decide) (fun c_2 => ?_) (fun c_2 => ?_)
    · refine lv_iconst (v := (nI 0)) hx hb dX10_within_14 rfl ?_
      exact wSzret hx hb hr hlocks (v := (nI 0)) (by first | exact Or.inl rfl | exact Or.inr rfl) (by first | exact Or.inl ⟨rfl, Int32.not_lt.mp (by assumption), Int32.not_lt.mp (by assumption)⟩ | exact Or.inr ⟨rfl, fun q => Int32.not_le.mpr (by assumption) q.1⟩ | exact Or.inr ⟨rfl, fun q => Int32.not_le.mpr (by assumption) q.2⟩) dX10_within_15
    · refine lv_iconst (v := (nI 1)) hx hb dX10_within_10 rfl ?_
      refine lv_goto (tgt := 15) hx hb dX10_within_11 (by decide) ?_
      exact wSzret hx hb hr hlocks (v := (nI 1)) (by first | exact Or.inl rfl | exact Or.inr rfl) (by first | exact Or.inl ⟨rfl, Int32.not_lt.mp (by assumption), Int32.not_lt.mp (by assumption)⟩ | exact Or.inr ⟨rfl, fun q => Int32.not_le.mpr (by assumption) q.1⟩ | exact Or.inr ⟨rfl, fun q => Int32.not_le.mpr (by assumption) q.2⟩) dX10_within_15

set_option maxHeartbeats 4000000 in
set_option maxRecDepth 100000 in
theorem kX10_isSheet (l : Launch) (x : Int32)  : Met l yX10_isSheet wsX10_isSheet ({ frames := 1, cells := 0, slots := 0, locals := 22 } : Room) (va_Pc [.int x] (fun _ => True)) (vp_Si (fun v => (v = nI 1 ∧ (nI 0 ≤ x ∧ x ≤ nI 3)) ∨ (v = nI 0 ∧ ¬ (nI 0 ≤ x ∧ x ≤ nI 3)))) 0 0 (fun _ => False) := by
  refine Met.ofW (cc := cX10_isSheet) (maxL := 1) (ret := (some .boolean)) (by decide) rfl ?_
  intro p e s m args below meth c s₁ B hml hv
  obtain ⟨rfl, -⟩ := hv
  have hx := B.exec
  have hb := B.bytes
  have hr := B.returns
  have hts := atoms_spec (ws := wsX10_isSheet) B.pre
  have hown : s.vm.findClass RX10 = some m.cls := findClass_of_methodNamed B.named
  have hlocks := B.notSynchronized
  have hl := lv_entry ([.int x]) (n := 1) (Nat.le_of_ble_eq_true rfl)
  rw [lg_entry_eq]
  generalize (lg_sl ([.int x]) ++ List.replicate (1 - (lg_sl ([.int x])).length) Slot.unset).toArray = ls at hl ⊢
  have hl : lv_has ls 1 [(0, .int x)] := hl
  refine lv_iload_n hx hb dX10_isSheet_0 rfl (lv_at hl 0 rfl) ?_
  refine lv_iconst (v := (nI 0)) hx hb dX10_isSheet_1 rfl ?_
  refine lv_iconst (v := (nI 3)) hx hb dX10_isSheet_2 rfl ?_
  refine wSi (As := [.int x, .int (nI 0), .int (nI 3)]) (rest := []) ⟨hx, hb, hml, hown, hts⟩ (kX10_within l x (nI 0) (nI 3)) (va_cwS 3 hts gX10_isSheet_X10_within rfl rfl rfl (by decide +kernel) ⟨Nat.le_of_ble_eq_true rfl, Nat.le_of_ble_eq_true rfl⟩) rfl hl.1 rfl (Nat.le_of_ble_eq_true rfl) dX10_isSheet_3 ⟨Nat.zero_le _, Nat.zero_le _⟩ (fun rv_1 hw_2 => ?_)
  rcases hw_2 with ⟨rfl, b_3⟩ | ⟨rfl, b_3⟩
  · exact wSzret hx hb hr hlocks (v := (nI 1)) (by first | exact Or.inl rfl | exact Or.inr rfl) (by first | exact Or.inl ⟨rfl, b_3⟩ | exact Or.inr ⟨rfl, b_3⟩) dX10_isSheet_6
  · exact wSzret hx hb hr hlocks (v := (nI 0)) (by first | exact Or.inl rfl | exact Or.inr rfl) (by first | exact Or.inl ⟨rfl, b_3⟩ | exact Or.inr ⟨rfl, b_3⟩) dX10_isSheet_6

set_option maxHeartbeats 4000000 in
set_option maxRecDepth 100000 in
theorem kX10_isSort (l : Launch) (x : Int32)  : Met l yX10_isSort wsX10_isSort ({ frames := 1, cells := 0, slots := 0, locals := 22 } : Room) (va_Pc [.int x] (fun _ => True)) (vp_Si (fun v => (v = nI 1 ∧ (nI 0 ≤ x ∧ x ≤ nI 2)) ∨ (v = nI 0 ∧ ¬ (nI 0 ≤ x ∧ x ≤ nI 2)))) 0 0 (fun _ => False) := by
  refine Met.ofW (cc := cX10_isSort) (maxL := 1) (ret := (some .boolean)) (by decide) rfl ?_
  intro p e s m args below meth c s₁ B hml hv
  obtain ⟨rfl, -⟩ := hv
  have hx := B.exec
  have hb := B.bytes
  have hr := B.returns
  have hts := atoms_spec (ws := wsX10_isSort) B.pre
  have hown : s.vm.findClass RX10 = some m.cls := findClass_of_methodNamed B.named
  have hlocks := B.notSynchronized
  have hl := lv_entry ([.int x]) (n := 1) (Nat.le_of_ble_eq_true rfl)
  rw [lg_entry_eq]
  generalize (lg_sl ([.int x]) ++ List.replicate (1 - (lg_sl ([.int x])).length) Slot.unset).toArray = ls at hl ⊢
  have hl : lv_has ls 1 [(0, .int x)] := hl
  refine lv_iload_n hx hb dX10_isSort_0 rfl (lv_at hl 0 rfl) ?_
  refine lv_iconst (v := (nI 0)) hx hb dX10_isSort_1 rfl ?_
  refine lv_iconst (v := (nI 2)) hx hb dX10_isSort_2 rfl ?_
  refine wSi (As := [.int x, .int (nI 0), .int (nI 2)]) (rest := []) ⟨hx, hb, hml, hown, hts⟩ (kX10_within l x (nI 0) (nI 2)) (va_cwS 3 hts gX10_isSort_X10_within rfl rfl rfl (by decide +kernel) ⟨Nat.le_of_ble_eq_true rfl, Nat.le_of_ble_eq_true rfl⟩) rfl hl.1 rfl (Nat.le_of_ble_eq_true rfl) dX10_isSort_3 ⟨Nat.zero_le _, Nat.zero_le _⟩ (fun rv_1 hw_2 => ?_)
  rcases hw_2 with ⟨rfl, b_3⟩ | ⟨rfl, b_3⟩
  · exact wSzret hx hb hr hlocks (v := (nI 1)) (by first | exact Or.inl rfl | exact Or.inr rfl) (by first | exact Or.inl ⟨rfl, b_3⟩ | exact Or.inr ⟨rfl, b_3⟩) dX10_isSort_6
  · exact wSzret hx hb hr hlocks (v := (nI 0)) (by first | exact Or.inl rfl | exact Or.inr rfl) (by first | exact Or.inl ⟨rfl, b_3⟩ | exact Or.inr ⟨rfl, b_3⟩) dX10_isSort_6

set_option maxHeartbeats 4000000 in
set_option maxRecDepth 100000 in
theorem kX10_fails (l : Launch) (D : va_G) (cA : Nat → ClassId) (r : Nat → Nat) (sz : Nat) (u : Nat → Int32) (a : Nat → Nat → Int32) (x : Int32)  : Met l yX10_fails wsX10_fails ({ frames := 0, cells := 0, slots := 0, locals := 0 } : Room) (va_Pc [.ref (r 0), .int x] (wA D vwCl (tyA cA) e0 (xM cA r) (u, a) sz)) (va_Qi (fun (v : Int32) (z : sM) => v = (-10) - x ∧ z = (upd u 0 x, a)) (wB D vwCl (tyA cA) (xM cA r) (va_A (xM cA r (u, a)) sz)) (va_A (xM cA r (u, a)) sz)) 0 0 (va_A (xM cA r (u, a)) sz) := by
  refine Met.ofW (cc := cX10_fails) (maxL := 2) (ret := (some .int)) (by decide) rfl ?_
  intro p e s m args below meth c s₁ B hml hv
  obtain ⟨rfl, hsz, hP, hK, hD0, hE⟩ := hv
  have hx := B.exec
  have hb := B.bytes
  have hr := B.returns
  have hts := atoms_spec (ws := wsX10_fails) B.pre
  have hown : s.vm.findClass RX10 = some m.cls := findClass_of_methodNamed B.named
  have hlocks := B.notSynchronized
  subst hsz
  have hD := hD0.self (sz := s.heap.size)
  generalize hAe : va_A (xM cA r (u, a)) s.heap.size = A at hD hE ⊢
  have hA : ∀ q : Nat, s.heap.size ≤ q → A q := fun q h => by rw [← hAe]; exact Or.inr h
  have hS : va_S A s.heap s.heap [] := va_S.rf
  have hinX10 : ∀ w ∈ u_ws RX10 TX10 34, w ∈ wsX10_fails := by decide +kernel
  have hl := lv_entry ([.ref (r 0), .int x]) (n := 2) (Nat.le_of_ble_eq_true rfl)
  rw [lg_entry_eq]
  generalize (lg_sl ([.ref (r 0), .int x]) ++ List.replicate (2 - (lg_sl ([.ref (r 0), .int x])).length) Slot.unset).toArray = ls at hl ⊢
  have hl : lv_has ls 2 [(0, .ref (r 0)), (1, .int x)] := hl
  refine lv_aload_n hx hb dX10_fails_0 rfl (lv_at hl 0 rfl) ?_
  refine lv_iload_n hx hb dX10_fails_1 rfl (lv_at hl 1 rfl) ?_
  refine va_put (D := D) (ci := 10) (v := .int x) (ty := .int) (C := RX10) (T := TX10) (N := 34) hx hb hts hinX10 tyX10 tyX10_ok nmX10 hown hK hP hD hS 0 rfl rfl 0 (by decide) (hts (.fieldLink RX10 80 "OneNailModel" "fault" "I") (by decide +kernel)) (fun _ h9 => h9) rfl (by decide +kernel) rfl rfl (Nat.le_of_ble_eq_true rfl) dX10_fails_2 (fun H locs hP hD hS => ?_)
  have hP : va_P D vwCl (xM cA r ((upd u 0 x), a)) H := hP
  have hD : va_D A (xM cA r ((upd u 0 x), a)) := hD
  refine lv_bipush (v := (-10)) hx hb dX10_fails_5 (by decide) ?_
  refine lv_iload_n hx hb dX10_fails_7 rfl (lv_at hl 1 rfl) ?_
  refine lv_isub hx hb dX10_fails_8 ?_
  exact wIret hx hb hr hlocks (v := ((-10) - x)) ((upd u 0 x), a) (⟨rfl, rfl⟩) hK hP hD hS dX10_fails_9

set_option maxHeartbeats 4000000 in
set_option maxRecDepth 100000 in
theorem kX10_lost (l : Launch) (D : va_G) (cA : Nat → ClassId) (r : Nat → Nat) (sz : Nat) (u : Nat → Int32) (a : Nat → Nat → Int32) (x : Int32)  : Met l yX10_lost wsX10_lost ({ frames := 0, cells := 0, slots := 0, locals := 0 } : Room) (va_Pc [.ref (r 0), .int x] (wA D vwCl (tyA cA) e0 (xM cA r) (u, a) sz)) (va_Ql (fun (v : Int64) (z : sM) => v = (-9223372036854775808) ∧ z = (upd u 0 x, a)) (wB D vwCl (tyA cA) (xM cA r) (va_A (xM cA r (u, a)) sz)) (va_A (xM cA r (u, a)) sz)) 0 0 (va_A (xM cA r (u, a)) sz) := by
  refine Met.ofW (cc := cX10_lost) (maxL := 2) (ret := (some .long)) (by decide) rfl ?_
  intro p e s m args below meth c s₁ B hml hv
  obtain ⟨rfl, hsz, hP, hK, hD0, hE⟩ := hv
  have hx := B.exec
  have hb := B.bytes
  have hr := B.returns
  have hts := atoms_spec (ws := wsX10_lost) B.pre
  have hown : s.vm.findClass RX10 = some m.cls := findClass_of_methodNamed B.named
  have hlocks := B.notSynchronized
  subst hsz
  have hD := hD0.self (sz := s.heap.size)
  generalize hAe : va_A (xM cA r (u, a)) s.heap.size = A at hD hE ⊢
  have hA : ∀ q : Nat, s.heap.size ≤ q → A q := fun q h => by rw [← hAe]; exact Or.inr h
  have hS : va_S A s.heap s.heap [] := va_S.rf
  have hinX10 : ∀ w ∈ u_ws RX10 TX10 34, w ∈ wsX10_lost := by decide +kernel
  have hl := lv_entry ([.ref (r 0), .int x]) (n := 2) (Nat.le_of_ble_eq_true rfl)
  rw [lg_entry_eq]
  generalize (lg_sl ([.ref (r 0), .int x]) ++ List.replicate (2 - (lg_sl ([.ref (r 0), .int x])).length) Slot.unset).toArray = ls at hl ⊢
  have hl : lv_has ls 2 [(0, .ref (r 0)), (1, .int x)] := hl
  refine lv_aload_n hx hb dX10_lost_0 rfl (lv_at hl 0 rfl) ?_
  refine lv_iload_n hx hb dX10_lost_1 rfl (lv_at hl 1 rfl) ?_
  refine va_put (D := D) (ci := 10) (v := .int x) (ty := .int) (C := RX10) (T := TX10) (N := 34) hx hb hts hinX10 tyX10 tyX10_ok nmX10 hown hK hP hD hS 0 rfl rfl 0 (by decide) (hts (.fieldLink RX10 80 "OneNailModel" "fault" "I") (by decide +kernel)) (fun _ h9 => h9) rfl (by decide +kernel) rfl rfl (Nat.le_of_ble_eq_true rfl) dX10_lost_2 (fun H locs hP hD hS => ?_)
  have hP : va_P D vwCl (xM cA r ((upd u 0 x), a)) H := hP
  have hD : va_D A (xM cA r ((upd u 0 x), a)) := hD
  refine lv_ldc2 (v := (-9223372036854775808)) hx hb hown (hts (.constantLong RX10 84 (-9223372036854775808)) (by decide +kernel)) dX10_lost_5 ?_
  exact wLret hx hb hr hlocks (v := (-9223372036854775808)) ((upd u 0 x), a) (⟨rfl, rfl⟩) hK hP hD hS dX10_lost_8

set_option maxHeartbeats 4000000 in
set_option maxRecDepth 100000 in
theorem kX10_isThing (l : Launch) (D : va_G) (cA : Nat → ClassId) (r : Nat → Nat) (sz : Nat) (u : Nat → Int32) (a : Nat → Nat → Int32) (g : Nat → Nat) (T : Nat → Nat → Nat) (x : Int32) (hM : MT u a g T) (hB : TB g T) : Met l yX10_isThing wsX10_isThing ({ frames := 0, cells := 0, slots := 0, locals := 0 } : Room) (va_Pc [.ref (r 0), .int x] (wA D vwCl (tyA cA) e0 (xM cA r) (u, a) sz)) (va_Qi (fun (v : Int32) (z : sM) => z = (u, a) ∧ ((v = nI 1 ∧ ∃ j : Nat, j < g 0 ∧ x = nI j) ∨ (v = nI 0 ∧ ¬ ∃ j : Nat, j < g 0 ∧ x = nI j))) (wB D vwCl (tyA cA) (xM cA r) (va_A (xM cA r (u, a)) sz)) (va_A (xM cA r (u, a)) sz)) 0 0 (va_A (xM cA r (u, a)) sz) := by
  refine Met.ofW (cc := cX10_isThing) (maxL := 2) (ret := (some .boolean)) (by decide) rfl ?_
  intro p e s m args below meth c s₁ B hml hv
  obtain ⟨rfl, hsz, hP, hK, hD0, hE⟩ := hv
  have hx := B.exec
  have hb := B.bytes
  have hr := B.returns
  have hts := atoms_spec (ws := wsX10_isThing) B.pre
  have hown : s.vm.findClass RX10 = some m.cls := findClass_of_methodNamed B.named
  have hlocks := B.notSynchronized
  subst hsz
  have hD := hD0.self (sz := s.heap.size)
  generalize hAe : va_A (xM cA r (u, a)) s.heap.size = A at hD hE ⊢
  have hA : ∀ q : Nat, s.heap.size ≤ q → A q := fun q h => by rw [← hAe]; exact Or.inr h
  have hS : va_S A s.heap s.heap [] := va_S.rf
  have hinX10 : ∀ w ∈ u_ws RX10 TX10 34, w ∈ wsX10_isThing := by decide +kernel
  have hl := lv_entry ([.ref (r 0), .int x]) (n := 2) (Nat.le_of_ble_eq_true rfl)
  rw [lg_entry_eq]
  generalize (lg_sl ([.ref (r 0), .int x]) ++ List.replicate (2 - (lg_sl ([.ref (r 0), .int x])).length) Slot.unset).toArray = ls at hl ⊢
  have hl : lv_has ls 2 [(0, .ref (r 0)), (1, .int x)] := hl
  have hg6 := hB.1
  refine lv_iload_n hx hb dX10_isThing_0 rfl (lv_at hl 1 rfl) ?_
  refine lv_if_lt (tgt := 16) hx hb dX10_isThing_1 (by decide) (fun c_1 => ?_) (fun c_1 => ?_)
  · refine lv_iconst (v := (nI 0)) hx hb dX10_isThing_16 rfl ?_
    exact wZret hx hb hr hlocks (v := (nI 0)) (by first | exact Or.inl rfl | exact Or.inr rfl) (u, a) (⟨rfl, by first | exact Or.inl ⟨rfl, th_in (by omega) (by assumption) (by assumption)⟩ | exact Or.inr ⟨rfl, th_out1 (by omega) (by assumption)⟩ | exact Or.inr ⟨rfl, th_out2 (by omega) (by assumption)⟩⟩) hK hP hD hS dX10_isThing_17
  · refine lv_iload_n hx hb dX10_isThing_4 rfl (lv_at hl 1 rfl) ?_
    refine lv_aload_n hx hb dX10_isThing_5 rfl (lv_at hl 0 rfl) ?_
    refine va_get (D := D) (ci := 10) (v := .int (nI (g 0))) (C := RX10) (T := TX10) (N := 34) hx hb hts hinX10 hown hK hP 0 rfl rfl 5 (by decide) (hts (.fieldLink RX10 90 "OneNailModel" "things" "I") (by decide +kernel)) (fun _ h9 => h9) (congrArg (fun z => some (Value.int z)) (hM.1)) dX10_isThing_6 ?_
    refine lv_icmp_ge (tgt := 16) hx hb dX10_isThing_9 (by decide) (fun c_2 => ?_) (fun c_2 => ?_)
    · refine lv_iconst (v := (nI 0)) hx hb dX10_isThing_16 rfl ?_
      exact wZret hx hb hr hlocks (v := (nI 0)) (by first | exact Or.inl rfl | exact Or.inr rfl) (u, a) (⟨rfl, by first | exact Or.inl ⟨rfl, th_in (by omega) (by assumption) (by assumption)⟩ | exact Or.inr ⟨rfl, th_out1 (by omega) (by assumption)⟩ | exact Or.inr ⟨rfl, th_out2 (by omega) (by assumption)⟩⟩) hK hP hD hS dX10_isThing_17
    · refine lv_iconst (v := (nI 1)) hx hb dX10_isThing_12 rfl ?_
      refine lv_goto (tgt := 17) hx hb dX10_isThing_13 (by decide) ?_
      exact wZret hx hb hr hlocks (v := (nI 1)) (by first | exact Or.inl rfl | exact Or.inr rfl) (u, a) (⟨rfl, by first | exact Or.inl ⟨rfl, th_in (by omega) (by assumption) (by assumption)⟩ | exact Or.inr ⟨rfl, th_out1 (by omega) (by assumption)⟩ | exact Or.inr ⟨rfl, th_out2 (by omega) (by assumption)⟩⟩) hK hP hD hS dX10_isThing_17

set_option maxHeartbeats 4000000 in
set_option maxRecDepth 100000 in
theorem kX10_between (l : Launch) (x y : Nat) (hx9 : x ≤ 9) (hy9 : y ≤ 9) : Met l yX10_between wsX10_between ({ frames := 0, cells := 0, slots := 0, locals := 0 } : Room) (va_Pc [.int (nI x), .int (nI y)] (fun _ => True)) (vp_Si (fun v => v = nI (md x y))) 0 0 (fun _ => False) := by
  refine Met.ofW (cc := cX10_between) (maxL := 2) (ret := (some .int)) (by decide) rfl ?_
  intro p e s m args below meth c s₁ B hml hv
  obtain ⟨rfl, -⟩ := hv
  have hx := B.exec
  have hb := B.bytes
  have hr := B.returns
  have hts := atoms_spec (ws := wsX10_between) B.pre
  have hown : s.vm.findClass RX10 = some m.cls := findClass_of_methodNamed B.named
  have hlocks := B.notSynchronized
  have hl := lv_entry ([.int (nI x), .int (nI y)]) (n := 2) (Nat.le_of_ble_eq_true rfl)
  rw [lg_entry_eq]
  generalize (lg_sl ([.int (nI x), .int (nI y)]) ++ List.replicate (2 - (lg_sl ([.int (nI x), .int (nI y)])).length) Slot.unset).toArray = ls at hl ⊢
  have hl : lv_has ls 2 [(0, .int (nI x)), (1, .int (nI y))] := hl
  refine lv_iload_n hx hb dX10_between_0 rfl (lv_at hl 0 rfl) ?_
  refine lv_iload_n hx hb dX10_between_1 rfl (lv_at hl 1 rfl) ?_
  refine rn_ge (x := x) (y := y) (tgt := 11) hx hb (by omega) (by omega) dX10_between_2 (by decide) (fun c_1 => ?_) (fun c_1 => ?_)
  · refine lv_iload_n hx hb dX10_between_11 rfl (lv_at hl 0 rfl) ?_
    refine lv_iload_n hx hb dX10_between_12 rfl (lv_at hl 1 rfl) ?_
    refine rn_isub (x := x) (y := y) hx hb (by omega) dX10_between_13 ?_
    exact wSret hx hb hr hlocks (v := (nI (x - y))) (by unfold md; first | rw [if_pos (by omega)] | rw [if_neg (by omega)]) dX10_between_14
  · refine lv_iload_n hx hb dX10_between_5 rfl (lv_at hl 1 rfl) ?_
    refine lv_iload_n hx hb dX10_between_6 rfl (lv_at hl 0 rfl) ?_
    refine rn_isub (x := y) (y := x) hx hb (by omega) dX10_between_7 ?_
    refine lv_goto (tgt := 14) hx hb dX10_between_8 (by decide) ?_
    exact wSret hx hb hr hlocks (v := (nI (y - x))) (by unfold md; first | rw [if_pos (by omega)] | rw [if_neg (by omega)]) dX10_between_14

set_option maxHeartbeats 4000000 in
set_option maxRecDepth 100000 in
theorem kX10_holds (l : Launch) (D : va_G) (cA : Nat → ClassId) (r : Nat → Nat) (sz : Nat) (u : Nat → Int32) (a : Nat → Nat → Int32) (g : Nat → Nat) (T : Nat → Nat → Nat) (j : Nat) (hM : MT u a g T) (hB : TB g T) (hj : j < g 0) : Met l yX10_holds wsX10_holds ({ frames := 0, cells := 0, slots := 0, locals := 0 } : Room) (va_Pc [.ref (r 0), .int (nI j)] (wA D vwCl (tyA cA) e0 (xM cA r) (u, a) sz)) (va_Qi (fun (v : Int32) (z : sM) => v = nI (hd g T j) ∧ z = (u, a)) (wB D vwCl (tyA cA) (xM cA r) (va_A (xM cA r (u, a)) sz)) (va_A (xM cA r (u, a)) sz)) 0 0 (va_A (xM cA r (u, a)) sz) := by
  refine Met.ofW (cc := cX10_holds) (maxL := 3) (ret := (some .int)) (by decide) rfl ?_
  intro p e s m args below meth c s₁ B hml hv
  obtain ⟨rfl, hsz, hP, hK, hD0, hE⟩ := hv
  have hx := B.exec
  have hb := B.bytes
  have hr := B.returns
  have hts := atoms_spec (ws := wsX10_holds) B.pre
  have hown : s.vm.findClass RX10 = some m.cls := findClass_of_methodNamed B.named
  have hlocks := B.notSynchronized
  subst hsz
  have hD := hD0.self (sz := s.heap.size)
  generalize hAe : va_A (xM cA r (u, a)) s.heap.size = A at hD hE ⊢
  have hA : ∀ q : Nat, s.heap.size ≤ q → A q := fun q h => by rw [← hAe]; exact Or.inr h
  have hS : va_S A s.heap s.heap [] := va_S.rf
  have hinX10 : ∀ w ∈ u_ws RX10 TX10 34, w ∈ wsX10_holds := by decide +kernel
  have hl := lv_entry ([.ref (r 0), .int (nI j)]) (n := 3) (Nat.le_of_ble_eq_true rfl)
  rw [lg_entry_eq]
  generalize (lg_sl ([.ref (r 0), .int (nI j)]) ++ List.replicate (3 - (lg_sl ([.ref (r 0), .int (nI j)])).length) Slot.unset).toArray = ls at hl ⊢
  have hl : lv_has ls 3 [(0, .ref (r 0)), (1, .int (nI j))] := hl
  have hg6 := hB.1
  have hT := hB.2.2.2 j hj
  have hg2 := hB.2.2.1
  refine lv_aload_n hx hb dX10_holds_0 rfl (lv_at hl 0 rfl) ?_
  refine va_get (D := D) (ci := 10) (v := .ref (r 11)) (C := RX10) (T := TX10) (N := 34) hx hb hts hinX10 hown hK hP 0 rfl rfl 11 (by decide) (hts (.fieldLink RX10 28 "OneNailModel" "hold" "[I") (by decide +kernel)) (fun _ h9 => h9) rfl dX10_holds_1 ?_
  refine lv_iload_n hx hb dX10_holds_4 rfl (lv_at hl 1 rfl) ?_
  refine ra_iald hx hb hK hP 7 0 (n := 6) (f := (a 11)) (j := j) (v := (nI (T 3 j))) rfl rfl (by omega) (by decide) ((hM.2.2.2 (j) (by omega)).2.2.2.1) dX10_holds_5 ?_
  refine lv_aload_n hx hb dX10_holds_6 rfl (lv_at hl 0 rfl) ?_
  refine va_get (D := D) (ci := 10) (v := .int (nI (g 2))) (C := RX10) (T := TX10) (N := 34) hx hb hts hinX10 hown hK hP 0 rfl rfl 7 (by decide) (hts (.fieldLink RX10 123 "OneNailModel" "rustNow" "I") (by decide +kernel)) (fun _ h9 => h9) (congrArg (fun z => some (Value.int z)) (hM.2.2.1)) dX10_holds_7 ?_
  refine rn_le (x := T 3 j) (y := g 2) (tgt := 27) hx hb (by omega) (by omega) dX10_holds_10 (by decide) (fun c_1 => ?_) (fun c_1 => ?_)
  · refine lv_iconst (v := (nI 1)) hx hb dX10_holds_27 rfl ?_
    refine lv_istore_n (lv' := [(2, .int (nI 1)), (0, .ref (r 0)), (1, .int (nI j))]) hx hb dX10_holds_28 rfl hl (by decide) rfl (fun ls hl => ?_)
    refine lv_aload_n hx hb dX10_holds_29 rfl (lv_at hl 1 rfl) ?_
    refine va_get (D := D) (ci := 10) (v := .ref (r 8)) (C := RX10) (T := TX10) (N := 34) hx hb hts hinX10 hown hK hP 0 rfl rfl 8 (by decide) (hts (.fieldLink RX10 19 "OneNailModel" "kind" "[I") (by decide +kernel)) (fun _ h9 => h9) rfl dX10_holds_30 ?_
    refine lv_iload_n hx hb dX10_holds_33 rfl (lv_at hl 2 rfl) ?_
    refine ra_iald hx hb hK hP 4 0 (n := 6) (f := (a 8)) (j := j) (v := (nI (T 0 j))) rfl rfl (by omega) (by decide) ((hM.2.2.2 (j) (by omega)).1) dX10_holds_34 ?_
    refine rz_le (x := T 0 j) (tgt := 44) hx hb (by omega) dX10_holds_35 (by decide) (fun c_2 => ?_) (fun c_2 => ?_)
    · refine lv_aload_n hx hb dX10_holds_44 rfl (lv_at hl 1 rfl) ?_
      refine va_get (D := D) (ci := 10) (v := .ref (r 8)) (C := RX10) (T := TX10) (N := 34) hx hb hts hinX10 hown hK hP 0 rfl rfl 8 (by decide) (hts (.fieldLink RX10 19 "OneNailModel" "kind" "[I") (by decide +kernel)) (fun _ h9 => h9) rfl dX10_holds_45 ?_
      refine lv_iload_n hx hb dX10_holds_48 rfl (lv_at hl 2 rfl) ?_
      refine ra_iald hx hb hK hP 4 0 (n := 6) (f := (a 8)) (j := j) (v := (nI (T 0 j))) rfl rfl (by omega) (by decide) ((hM.2.2.2 (j) (by omega)).1) dX10_holds_49 ?_
      refine lv_iconst (v := (nI 2)) hx hb dX10_holds_50 rfl ?_
      refine rn_ne (x := T 0 j) (y := 2) (tgt := 61) hx hb (by omega) (by omega) dX10_holds_51 (by decide) (fun c_3 => ?_) (fun c_3 => ?_)
      · refine lv_iload_n hx hb dX10_holds_61 rfl (lv_at hl 0 rfl) ?_
        exact wIret hx hb hr hlocks (v := (nI 1)) (u, a) (⟨congrArg nI (by unfold hd; (repeat' split) <;> omega), rfl⟩) hK hP hD hS dX10_holds_62
      · refine lv_iload_n hx hb dX10_holds_54 rfl (lv_at hl 0 rfl) ?_
        refine lv_bipush (v := (nI 10)) hx hb dX10_holds_55 rfl ?_
        refine rn_iadd (x := 1) (y := 10) hx hb dX10_holds_57 ?_
        refine lv_goto (tgt := 62) hx hb dX10_holds_58 (by decide) ?_
        exact wIret hx hb hr hlocks (v := (nI 11)) (u, a) (⟨congrArg nI (by unfold hd; (repeat' split) <;> omega), rfl⟩) hK hP hD hS dX10_holds_62
    · refine lv_iload_n hx hb dX10_holds_38 rfl (lv_at hl 0 rfl) ?_
      refine lv_iload_n hx hb dX10_holds_39 rfl (lv_at hl 0 rfl) ?_
      refine lv_iconst (v := (nI 2)) hx hb dX10_holds_40 rfl ?_
      refine rn_idiv (x := 1) (y := 2) hx hb (by omega) (by omega) (by omega) dX10_holds_41 ?_
      refine rn_iadd (x := 1) (y := 1 / 2) hx hb dX10_holds_42 ?_
      refine lv_istore_n (lv' := [(2, .int (nI (1 + (1 / 2)))), (0, .ref (r 0)), (1, .int (nI j))]) hx hb dX10_holds_43 rfl hl (by decide) rfl (fun ls hl => ?_)
      refine lv_aload_n hx hb dX10_holds_44 rfl (lv_at hl 1 rfl) ?_
      refine va_get (D := D) (ci := 10) (v := .ref (r 8)) (C := RX10) (T := TX10) (N := 34) hx hb hts hinX10 hown hK hP 0 rfl rfl 8 (by decide) (hts (.fieldLink RX10 19 "OneNailModel" "kind" "[I") (by decide +kernel)) (fun _ h9 => h9) rfl dX10_holds_45 ?_
      refine lv_iload_n hx hb dX10_holds_48 rfl (lv_at hl 2 rfl) ?_
      refine ra_iald hx hb hK hP 4 0 (n := 6) (f := (a 8)) (j := j) (v := (nI (T 0 j))) rfl rfl (by omega) (by decide) ((hM.2.2.2 (j) (by omega)).1) dX10_holds_49 ?_
      refine lv_iconst (v := (nI 2)) hx hb dX10_holds_50 rfl ?_
      refine rn_ne (x := T 0 j) (y := 2) (tgt := 61) hx hb (by omega) (by omega) dX10_holds_51 (by decide) (fun c_4 => ?_) (fun c_4 => ?_)
      · refine lv_iload_n hx hb dX10_holds_61 rfl (lv_at hl 0 rfl) ?_
        exact wIret hx hb hr hlocks (v := (nI (1 + (1 / 2)))) (u, a) (⟨congrArg nI (by unfold hd; (repeat' split) <;> omega), rfl⟩) hK hP hD hS dX10_holds_62
      · refine lv_iload_n hx hb dX10_holds_54 rfl (lv_at hl 0 rfl) ?_
        refine lv_bipush (v := (nI 10)) hx hb dX10_holds_55 rfl ?_
        refine rn_iadd (x := 1 + (1 / 2)) (y := 10) hx hb dX10_holds_57 ?_
        refine lv_goto (tgt := 62) hx hb dX10_holds_58 (by decide) ?_
        exact wIret hx hb hr hlocks (v := (nI ((1 + (1 / 2)) + 10))) (u, a) (⟨congrArg nI (by unfold hd; (repeat' split) <;> omega), rfl⟩) hK hP hD hS dX10_holds_62
  · refine lv_aload_n hx hb dX10_holds_13 rfl (lv_at hl 0 rfl) ?_
    refine va_get (D := D) (ci := 10) (v := .ref (r 11)) (C := RX10) (T := TX10) (N := 34) hx hb hts hinX10 hown hK hP 0 rfl rfl 11 (by decide) (hts (.fieldLink RX10 28 "OneNailModel" "hold" "[I") (by decide +kernel)) (fun _ h9 => h9) rfl dX10_holds_14 ?_
    refine lv_iload_n hx hb dX10_holds_17 rfl (lv_at hl 1 rfl) ?_
    refine ra_iald hx hb hK hP 7 0 (n := 6) (f := (a 11)) (j := j) (v := (nI (T 3 j))) rfl rfl (by omega) (by decide) ((hM.2.2.2 (j) (by omega)).2.2.2.1) dX10_holds_18 ?_
    refine lv_aload_n hx hb dX10_holds_19 rfl (lv_at hl 0 rfl) ?_
    refine va_get (D := D) (ci := 10) (v := .int (nI (g 2))) (C := RX10) (T := TX10) (N := 34) hx hb hts hinX10 hown hK hP 0 rfl rfl 7 (by decide) (hts (.fieldLink RX10 123 "OneNailModel" "rustNow" "I") (by decide +kernel)) (fun _ h9 => h9) (congrArg (fun z => some (Value.int z)) (hM.2.2.1)) dX10_holds_20 ?_
    refine rn_isub (x := T 3 j) (y := g 2) hx hb (by omega) dX10_holds_23 ?_
    refine lv_goto (tgt := 28) hx hb dX10_holds_24 (by decide) ?_
    refine lv_istore_n (lv' := [(2, .int (nI ((T 3 j) - (g 2)))), (0, .ref (r 0)), (1, .int (nI j))]) hx hb dX10_holds_28 rfl hl (by decide) rfl (fun ls hl => ?_)
    refine lv_aload_n hx hb dX10_holds_29 rfl (lv_at hl 1 rfl) ?_
    refine va_get (D := D) (ci := 10) (v := .ref (r 8)) (C := RX10) (T := TX10) (N := 34) hx hb hts hinX10 hown hK hP 0 rfl rfl 8 (by decide) (hts (.fieldLink RX10 19 "OneNailModel" "kind" "[I") (by decide +kernel)) (fun _ h9 => h9) rfl dX10_holds_30 ?_
    refine lv_iload_n hx hb dX10_holds_33 rfl (lv_at hl 2 rfl) ?_
    refine ra_iald hx hb hK hP 4 0 (n := 6) (f := (a 8)) (j := j) (v := (nI (T 0 j))) rfl rfl (by omega) (by decide) ((hM.2.2.2 (j) (by omega)).1) dX10_holds_34 ?_
    refine rz_le (x := T 0 j) (tgt := 44) hx hb (by omega) dX10_holds_35 (by decide) (fun c_5 => ?_) (fun c_5 => ?_)
    · refine lv_aload_n hx hb dX10_holds_44 rfl (lv_at hl 1 rfl) ?_
      refine va_get (D := D) (ci := 10) (v := .ref (r 8)) (C := RX10) (T := TX10) (N := 34) hx hb hts hinX10 hown hK hP 0 rfl rfl 8 (by decide) (hts (.fieldLink RX10 19 "OneNailModel" "kind" "[I") (by decide +kernel)) (fun _ h9 => h9) rfl dX10_holds_45 ?_
      refine lv_iload_n hx hb dX10_holds_48 rfl (lv_at hl 2 rfl) ?_
      refine ra_iald hx hb hK hP 4 0 (n := 6) (f := (a 8)) (j := j) (v := (nI (T 0 j))) rfl rfl (by omega) (by decide) ((hM.2.2.2 (j) (by omega)).1) dX10_holds_49 ?_
      refine lv_iconst (v := (nI 2)) hx hb dX10_holds_50 rfl ?_
      refine rn_ne (x := T 0 j) (y := 2) (tgt := 61) hx hb (by omega) (by omega) dX10_holds_51 (by decide) (fun c_6 => ?_) (fun c_6 => ?_)
      · refine lv_iload_n hx hb dX10_holds_61 rfl (lv_at hl 0 rfl) ?_
        exact wIret hx hb hr hlocks (v := (nI ((T 3 j) - (g 2)))) (u, a) (⟨congrArg nI (by unfold hd; (repeat' split) <;> omega), rfl⟩) hK hP hD hS dX10_holds_62
      · refine lv_iload_n hx hb dX10_holds_54 rfl (lv_at hl 0 rfl) ?_
        refine lv_bipush (v := (nI 10)) hx hb dX10_holds_55 rfl ?_
        refine rn_iadd (x := (T 3 j) - (g 2)) (y := 10) hx hb dX10_holds_57 ?_
        refine lv_goto (tgt := 62) hx hb dX10_holds_58 (by decide) ?_
        exact wIret hx hb hr hlocks (v := (nI (((T 3 j) - (g 2)) + 10))) (u, a) (⟨congrArg nI (by unfold hd; (repeat' split) <;> omega), rfl⟩) hK hP hD hS dX10_holds_62
    · refine lv_iload_n hx hb dX10_holds_38 rfl (lv_at hl 0 rfl) ?_
      refine lv_iload_n hx hb dX10_holds_39 rfl (lv_at hl 0 rfl) ?_
      refine lv_iconst (v := (nI 2)) hx hb dX10_holds_40 rfl ?_
      refine rn_idiv (x := (T 3 j) - (g 2)) (y := 2) hx hb (by omega) (by omega) (by omega) dX10_holds_41 ?_
      refine rn_iadd (x := (T 3 j) - (g 2)) (y := ((T 3 j) - (g 2)) / 2) hx hb dX10_holds_42 ?_
      refine lv_istore_n (lv' := [(2, .int (nI (((T 3 j) - (g 2)) + (((T 3 j) - (g 2)) / 2)))), (0, .ref (r 0)), (1, .int (nI j))]) hx hb dX10_holds_43 rfl hl (by decide) rfl (fun ls hl => ?_)
      refine lv_aload_n hx hb dX10_holds_44 rfl (lv_at hl 1 rfl) ?_
      refine va_get (D := D) (ci := 10) (v := .ref (r 8)) (C := RX10) (T := TX10) (N := 34) hx hb hts hinX10 hown hK hP 0 rfl rfl 8 (by decide) (hts (.fieldLink RX10 19 "OneNailModel" "kind" "[I") (by decide +kernel)) (fun _ h9 => h9) rfl dX10_holds_45 ?_
      refine lv_iload_n hx hb dX10_holds_48 rfl (lv_at hl 2 rfl) ?_
      refine ra_iald hx hb hK hP 4 0 (n := 6) (f := (a 8)) (j := j) (v := (nI (T 0 j))) rfl rfl (by omega) (by decide) ((hM.2.2.2 (j) (by omega)).1) dX10_holds_49 ?_
      refine lv_iconst (v := (nI 2)) hx hb dX10_holds_50 rfl ?_
      refine rn_ne (x := T 0 j) (y := 2) (tgt := 61) hx hb (by omega) (by omega) dX10_holds_51 (by decide) (fun c_7 => ?_) (fun c_7 => ?_)
      · refine lv_iload_n hx hb dX10_holds_61 rfl (lv_at hl 0 rfl) ?_
        exact wIret hx hb hr hlocks (v := (nI (((T 3 j) - (g 2)) + (((T 3 j) - (g 2)) / 2)))) (u, a) (⟨congrArg nI (by unfold hd; (repeat' split) <;> omega), rfl⟩) hK hP hD hS dX10_holds_62
      · refine lv_iload_n hx hb dX10_holds_54 rfl (lv_at hl 0 rfl) ?_
        refine lv_bipush (v := (nI 10)) hx hb dX10_holds_55 rfl ?_
        refine rn_iadd (x := ((T 3 j) - (g 2)) + (((T 3 j) - (g 2)) / 2)) (y := 10) hx hb dX10_holds_57 ?_
        refine lv_goto (tgt := 62) hx hb dX10_holds_58 (by decide) ?_
        exact wIret hx hb hr hlocks (v := (nI ((((T 3 j) - (g 2)) + (((T 3 j) - (g 2)) / 2)) + 10))) (u, a) (⟨congrArg nI (by unfold hd; (repeat' split) <;> omega), rfl⟩) hK hP hD hS dX10_holds_62

set_option maxHeartbeats 4000000 in
set_option maxRecDepth 100000 in
theorem kX10_all (l : Launch) (D : va_G) (cA : Nat → ClassId) (r : Nat → Nat) (sz : Nat) (u : Nat → Int32) (a : Nat → Nat → Int32) (g : Nat → Nat) (T : Nat → Nat → Nat) (hM : MT u a g T) (hB : TB g T) : Met l yX10_all wsX10_all ({ frames := 0, cells := 0, slots := 0, locals := 0 } : Room) (va_Pc [.ref (r 0)] (wA D vwCl (tyA cA) e0 (xM cA r) (u, a) sz)) (va_Qi (fun (v : Int32) (z : sM) => v = nI (2 ^ g 0 - 1) ∧ z = (u, a)) (wB D vwCl (tyA cA) (xM cA r) (va_A (xM cA r (u, a)) sz)) (va_A (xM cA r (u, a)) sz)) 0 0 (va_A (xM cA r (u, a)) sz) := by
  refine Met.ofW (cc := cX10_all) (maxL := 1) (ret := (some .int)) (by decide) rfl ?_
  intro p e s m args below meth c s₁ B hml hv
  obtain ⟨rfl, hsz, hP, hK, hD0, hE⟩ := hv
  have hx := B.exec
  have hb := B.bytes
  have hr := B.returns
  have hts := atoms_spec (ws := wsX10_all) B.pre
  have hown : s.vm.findClass RX10 = some m.cls := findClass_of_methodNamed B.named
  have hlocks := B.notSynchronized
  subst hsz
  have hD := hD0.self (sz := s.heap.size)
  generalize hAe : va_A (xM cA r (u, a)) s.heap.size = A at hD hE ⊢
  have hA : ∀ q : Nat, s.heap.size ≤ q → A q := fun q h => by rw [← hAe]; exact Or.inr h
  have hS : va_S A s.heap s.heap [] := va_S.rf
  have hinX10 : ∀ w ∈ u_ws RX10 TX10 34, w ∈ wsX10_all := by decide +kernel
  have hl := lv_entry ([.ref (r 0)]) (n := 1) (Nat.le_of_ble_eq_true rfl)
  rw [lg_entry_eq]
  generalize (lg_sl ([.ref (r 0)]) ++ List.replicate (1 - (lg_sl ([.ref (r 0)])).length) Slot.unset).toArray = ls at hl ⊢
  have hl : lv_has ls 1 [(0, .ref (r 0))] := hl
  refine lv_iconst (v := (nI 1)) hx hb dX10_all_0 rfl ?_
  refine lv_aload_n hx hb dX10_all_1 rfl (lv_at hl 0 rfl) ?_
  refine va_get (D := D) (ci := 10) (v := .int (nI (g 0))) (C := RX10) (T := TX10) (N := 34) hx hb hts hinX10 hown hK hP 0 rfl rfl 5 (by decide) (hts (.fieldLink RX10 90 "OneNailModel" "things" "I") (by decide +kernel)) (fun _ h9 => h9) (congrArg (fun z => some (Value.int z)) (hM.1)) dX10_all_2 ?_
  refine lv_ishl hx hb dX10_all_5 ?_
  refine lv_iconst (v := (nI 1)) hx hb dX10_all_6 rfl ?_
  refine lv_isub hx hb dX10_all_7 ?_
  exact wIret hx hb hr hlocks (v := (((nI 1) <<< ((nI (g 0)) &&& 31)) - (nI 1))) (u, a) (⟨all_row (g 0) hB.1, rfl⟩) hK hP hD hS dX10_all_8
