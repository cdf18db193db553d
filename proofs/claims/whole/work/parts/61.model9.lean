theorem sw_out {w : Int32} (h0 : ¬ w = nI 0) (h1 : ¬ w = nI 1) (h2 : ¬ w = nI 2) (h3 : ¬ w = nI 3) (h4 : ¬ w = nI 4) (h5 : ¬ w = nI 5) : w.toInt < 0 ∨ 5 < w.toInt := by
  rcases pk_ix w (show 6 < 2 ^ 31 by decide) with q | q | ⟨j, hj, e⟩
  · exact Or.inl (by rw [Int32.lt_iff_toInt_lt] at q; exact q)
  · exact Or.inr (by rw [Int32.le_iff_toInt_le, nI_toInt (by decide)] at q; omega)
  · exfalso
    rcases (show j = 0 ∨ j = 1 ∨ j = 2 ∨ j = 3 ∨ j = 4 ∨ j = 5 by omega) with z | z | z | z | z | z <;> subst z
    · exact h0 e
    · exact h1 e
    · exact h2 e
    · exact h3 e
    · exact h4 e
    · exact h5 e
set_option maxHeartbeats 4000000 in
set_option maxRecDepth 100000 in
theorem kX10_trace (l : Launch) (D : va_G) (cA : Nat → ClassId) (r : Nat → Nat) (sz : Nat) (u : Nat → Int32) (a : Nat → Nat → Int32) (g : Nat → Nat) (T : Nat → Nat → Nat) (R : Nat → Nat → Nat) (so : Nat → Int32) (ln : Nat → Nat) (ce : Nat → Nat → Int32) (f tr : Int32)  (hI : MI u a g T R so ln ce f tr) : Met l yX10_trace wsX10_trace ({ frames := 0, cells := 0, slots := 0, locals := 0 } : Room) (va_Pc [.ref (r 0)] (wA D vwCl (tyA cA) e0 (xM cA r) (u, a) sz)) (va_Qi (fun (v : Int32) (z : sM) => v = tr ∧ MI z.1 z.2 g T R so ln ce f tr) (wB D vwCl (tyA cA) (xM cA r) (va_A (xM cA r (u, a)) sz)) (va_A (xM cA r (u, a)) sz)) 0 0 (va_A (xM cA r (u, a)) sz) := by
  refine Met.ofW (cc := cX10_trace) (maxL := 1) (ret := (some .int)) (by decide) rfl ?_
  intro p e s m args below meth c s₁ B hml hv
  obtain ⟨rfl, hsz, hP, hK, hD0, hE⟩ := hv
  have hx := B.exec
  have hb := B.bytes
  have hr := B.returns
  have hts := atoms_spec (ws := wsX10_trace) B.pre
  have hown : s.vm.findClass RX10 = some m.cls := findClass_of_methodNamed B.named
  have hlocks := B.notSynchronized
  subst hsz
  have hD := hD0.self (sz := s.heap.size)
  generalize hAe : va_A (xM cA r (u, a)) s.heap.size = A at hD hE ⊢
  have hA : ∀ q : Nat, s.heap.size ≤ q → A q := fun q h => by rw [← hAe]; exact Or.inr h
  have hS : va_S A s.heap s.heap [] := va_S.rf
  have hinX10 : ∀ w ∈ u_ws RX10 TX10 34, w ∈ wsX10_trace := by decide +kernel
  have hl := lv_entry ([.ref (r 0)]) (n := 1) (Nat.le_of_ble_eq_true rfl)
  rw [lg_entry_eq]
  generalize (lg_sl ([.ref (r 0)]) ++ List.replicate (1 - (lg_sl ([.ref (r 0)])).length) Slot.unset).toArray = ls at hl ⊢
  have hl : lv_has ls 1 [(0, .ref (r 0))] := hl
  have hM := hI.1
  have hB := hI.2.1
  have hg6 := hB.1
  have hRd := hI.2.2.1
  have hSh := hI.2.2.2.1
  have hf0 := hI.2.2.2.2.1
  have htr := hI.2.2.2.2.2
  refine lv_aload_n hx hb dX10_trace_0 rfl (lv_at hl 0 rfl) ?_
  refine va_get (D := D) (ci := 10) (v := .int (u 1)) (C := RX10) (T := TX10) (N := 34) hx hb hts hinX10 hown hK hP 0 rfl rfl 1 (by decide) (hts (.fieldLink RX10 205 "OneNailModel" "trace" "I") (by decide +kernel)) (fun _ h9 => h9) rfl dX10_trace_1 ?_
  exact wIret hx hb hr hlocks (v := (u 1)) (u, a) (⟨htr, hI⟩) hK hP hD hS dX10_trace_4

set_option maxHeartbeats 4000000 in
set_option maxRecDepth 100000 in
theorem kX10_fault (l : Launch) (D : va_G) (cA : Nat → ClassId) (r : Nat → Nat) (sz : Nat) (u : Nat → Int32) (a : Nat → Nat → Int32) (g : Nat → Nat) (T : Nat → Nat → Nat) (R : Nat → Nat → Nat) (so : Nat → Int32) (ln : Nat → Nat) (ce : Nat → Nat → Int32) (f tr : Int32)  (hI : MI u a g T R so ln ce f tr) : Met l yX10_fault wsX10_fault ({ frames := 0, cells := 0, slots := 0, locals := 0 } : Room) (va_Pc [.ref (r 0)] (wA D vwCl (tyA cA) e0 (xM cA r) (u, a) sz)) (va_Qi (fun (v : Int32) (z : sM) => v = f ∧ MI z.1 z.2 g T R so ln ce f tr) (wB D vwCl (tyA cA) (xM cA r) (va_A (xM cA r (u, a)) sz)) (va_A (xM cA r (u, a)) sz)) 0 0 (va_A (xM cA r (u, a)) sz) := by
  refine Met.ofW (cc := cX10_fault) (maxL := 1) (ret := (some .int)) (by decide) rfl ?_
  intro p e s m args below meth c s₁ B hml hv
  obtain ⟨rfl, hsz, hP, hK, hD0, hE⟩ := hv
  have hx := B.exec
  have hb := B.bytes
  have hr := B.returns
  have hts := atoms_spec (ws := wsX10_fault) B.pre
  have hown : s.vm.findClass RX10 = some m.cls := findClass_of_methodNamed B.named
  have hlocks := B.notSynchronized
  subst hsz
  have hD := hD0.self (sz := s.heap.size)
  generalize hAe : va_A (xM cA r (u, a)) s.heap.size = A at hD hE ⊢
  have hA : ∀ q : Nat, s.heap.size ≤ q → A q := fun q h => by rw [← hAe]; exact Or.inr h
  have hS : va_S A s.heap s.heap [] := va_S.rf
  have hinX10 : ∀ w ∈ u_ws RX10 TX10 34, w ∈ wsX10_fault := by decide +kernel
  have hl := lv_entry ([.ref (r 0)]) (n := 1) (Nat.le_of_ble_eq_true rfl)
  rw [lg_entry_eq]
  generalize (lg_sl ([.ref (r 0)]) ++ List.replicate (1 - (lg_sl ([.ref (r 0)])).length) Slot.unset).toArray = ls at hl ⊢
  have hl : lv_has ls 1 [(0, .ref (r 0))] := hl
  have hM := hI.1
  have hB := hI.2.1
  have hg6 := hB.1
  have hRd := hI.2.2.1
  have hSh := hI.2.2.2.1
  have hf0 := hI.2.2.2.2.1
  have htr := hI.2.2.2.2.2
  refine lv_aload_n hx hb dX10_fault_0 rfl (lv_at hl 0 rfl) ?_
  refine va_get (D := D) (ci := 10) (v := .int (u 0)) (C := RX10) (T := TX10) (N := 34) hx hb hts hinX10 hown hK hP 0 rfl rfl 0 (by decide) (hts (.fieldLink RX10 80 "OneNailModel" "fault" "I") (by decide +kernel)) (fun _ h9 => h9) rfl dX10_fault_1 ?_
  exact wIret hx hb hr hlocks (v := (u 0)) (u, a) (⟨hf0, hI⟩) hK hP hD hS dX10_fault_4

set_option maxHeartbeats 4000000 in
set_option maxRecDepth 100000 in
theorem kX10_smithy (l : Launch) (D : va_G) (cA : Nat → ClassId) (r : Nat → Nat) (sz : Nat) (u : Nat → Int32) (a : Nat → Nat → Int32) (g : Nat → Nat) (T : Nat → Nat → Nat) (R : Nat → Nat → Nat) (so : Nat → Int32) (ln : Nat → Nat) (ce : Nat → Nat → Int32) (f tr : Int32) (x : Int32) (hI : MI u a g T R so ln ce f tr) : Met l yX10_smithy wsX10_smithy ({ frames := 1, cells := 0, slots := 0, locals := 22 } : Room) (va_Pc [.ref (r 0), .int x] (wA D vwCl (tyA cA) e0 (xM cA r) (u, a) sz)) (va_Qi (fun (v : Int32) (z : sM) => v = aSmithy g x ∧ MI z.1 z.2 (gSmithy g x) T R so ln ce f tr) (wB D vwCl (tyA cA) (xM cA r) (va_A (xM cA r (u, a)) sz)) (va_A (xM cA r (u, a)) sz)) 0 0 (va_A (xM cA r (u, a)) sz) := by
  refine Met.ofW (cc := cX10_smithy) (maxL := 3) (ret := (some .int)) (by decide) rfl ?_
  intro p e s m args below meth c s₁ B hml hv
  obtain ⟨rfl, hsz, hP, hK, hD0, hE⟩ := hv
  have hx := B.exec
  have hb := B.bytes
  have hr := B.returns
  have hts := atoms_spec (ws := wsX10_smithy) B.pre
  have hown : s.vm.findClass RX10 = some m.cls := findClass_of_methodNamed B.named
  have hlocks := B.notSynchronized
  subst hsz
  have hD := hD0.self (sz := s.heap.size)
  generalize hAe : va_A (xM cA r (u, a)) s.heap.size = A at hD hE ⊢
  have hA : ∀ q : Nat, s.heap.size ≤ q → A q := fun q h => by rw [← hAe]; exact Or.inr h
  have hS : va_S A s.heap s.heap [] := va_S.rf
  have hinX10 : ∀ w ∈ u_ws RX10 TX10 34, w ∈ wsX10_smithy := by decide +kernel
  have hl := lv_entry ([.ref (r 0), .int x]) (n := 3) (Nat.le_of_ble_eq_true rfl)
  rw [lg_entry_eq]
  generalize (lg_sl ([.ref (r 0), .int x]) ++ List.replicate (3 - (lg_sl ([.ref (r 0), .int x])).length) Slot.unset).toArray = ls at hl ⊢
  have hl : lv_has ls 3 [(0, .ref (r 0)), (1, .int x)] := hl
  have hM := hI.1
  have hB := hI.2.1
  have hg6 := hB.1
  have hRd := hI.2.2.1
  have hSh := hI.2.2.2.1
  have hf0 := hI.2.2.2.2.1
  have htr := hI.2.2.2.2.2
  refine lv_iload_n hx hb dX10_smithy_0 rfl (lv_at hl 1 rfl) ?_
  refine lv_iconst (v := (nI 0)) hx hb dX10_smithy_1 rfl ?_
  refine lv_bipush (v := (nI 9)) hx hb dX10_smithy_2 rfl ?_
  refine wSi (As := [.int x, .int (nI 0), .int (nI 9)]) (rest := []) ⟨hx, hb, hml, hown, hts⟩ (kX10_within l x (nI 0) (nI 9)) (va_cwS 3 hts gX10_smithy_X10_within rfl rfl rfl (by decide +kernel) ⟨Nat.le_of_ble_eq_true rfl, Nat.le_of_ble_eq_true rfl⟩) rfl hl.1 rfl (Nat.le_of_ble_eq_true rfl) dX10_smithy_4 ⟨Nat.zero_le _, Nat.zero_le _⟩ (fun rv_1 hw_2 => ?_)
  rcases hw_2 with ⟨rfl, b_3⟩ | ⟨rfl, b_3⟩
  · obtain ⟨j, hj1, hj2, hj3, hj4⟩ := inR_of (show inR x 0 9 from b_3) (by decide) (by decide)
    refine lv_if_ne (tgt := 13) hx hb dX10_smithy_7 (by decide) (fun _ => ?_) (fun c_4 => absurd c_4 (by decide))
    refine lv_aload_n hx hb dX10_smithy_13 rfl (lv_at hl 0 rfl) ?_
    refine va_get (D := D) (ci := 10) (v := .int (nI (g 0))) (C := RX10) (T := TX10) (N := 34) hx hb hts hinX10 hown hK hP 0 rfl rfl 5 (by decide) (hts (.fieldLink RX10 90 "OneNailModel" "things" "I") (by decide +kernel)) (fun _ h9 => h9) (congrArg (fun z => some (Value.int z)) (hM.1)) dX10_smithy_14 ?_
    refine rz_ne (x := g 0) (tgt := 23) hx hb (by omega) dX10_smithy_17 (by decide) (fun c_5 => ?_) (fun c_5 => ?_)
    · refine lv_aload_n hx hb dX10_smithy_23 rfl (lv_at hl 0 rfl) ?_
      refine va_get (D := D) (ci := 10) (v := .int (nI (g 1))) (C := RX10) (T := TX10) (N := 34) hx hb hts hinX10 hown hK hP 0 rfl rfl 6 (by decide) (hts (.fieldLink RX10 117 "OneNailModel" "home" "I") (by decide +kernel)) (fun _ h9 => h9) (congrArg (fun z => some (Value.int z)) (hM.2.1)) dX10_smithy_24 ?_
      refine lv_istore_n (lv' := [(2, .int (nI (g 1))), (0, .ref (r 0)), (1, .int x)]) hx hb dX10_smithy_27 rfl hl (by decide) rfl (fun ls hl => ?_)
      refine lv_aload_n hx hb dX10_smithy_28 rfl (lv_at hl 1 rfl) ?_
      refine lv_iload_n hx hb dX10_smithy_29 rfl (lv_at hl 2 rfl) ?_
      refine va_put (D := D) (ci := 10) (v := .int x) (ty := .int) (C := RX10) (T := TX10) (N := 34) hx hb hts hinX10 tyX10 tyX10_ok nmX10 hown hK hP hD hS 0 rfl rfl 6 (by decide) (hts (.fieldLink RX10 117 "OneNailModel" "home" "I") (by decide +kernel)) (fun _ h9 => h9) rfl (by decide +kernel) rfl rfl (Nat.le_of_ble_eq_true rfl) dX10_smithy_30 (fun H locs hP hD hS => ?_)
      have hP : va_P D vwCl (xM cA r ((upd u 6 x), a)) H := hP
      have hD : va_D A (xM cA r ((upd u 6 x), a)) := hD
      refine lv_iload_n hx hb dX10_smithy_33 rfl (lv_at hl 0 rfl) ?_
      exact wIret hx hb hr hlocks (v := (nI (g 1))) ((upd u 6 x), a) (⟨by unfold aSmithy; rw [cif_pos b_3, cif_neg (by omega)], by unfold gSmithy; rw [cif_pos b_3, cif_neg (by omega), hj4]; exact ⟨⟨hM.1, hj1, hM.2.2.1, hM.2.2.2⟩, TB_gu1 hB (by omega), hRd, hSh, hf0, htr⟩⟩) hK hP hD hS dX10_smithy_34
    · refine lv_bipush (v := (-3)) hx hb dX10_smithy_20 (by decide) ?_
      exact wIret hx hb hr hlocks (v := (-3)) (u, a) (⟨by unfold aSmithy; rw [cif_pos b_3, cif_pos (by omega)], by unfold gSmithy; rw [cif_pos b_3, cif_pos (by omega)]; exact hI⟩) hK hP hD hS dX10_smithy_22
  · refine lv_if_ne (tgt := 13) hx hb dX10_smithy_7 (by decide) (fun c_6 => absurd c_6 (by decide)) (fun _ => ?_)
    refine lv_bipush (v := (-2)) hx hb dX10_smithy_10 (by decide) ?_
    exact wIret hx hb hr hlocks (v := (-2)) (u, a) (⟨by unfold aSmithy; rw [cif_neg b_3], by unfold gSmithy; rw [cif_neg b_3]; exact hI⟩) hK hP hD hS dX10_smithy_12

set_option maxHeartbeats 4000000 in
set_option maxRecDepth 100000 in
theorem kX10_rust (l : Launch) (D : va_G) (cA : Nat → ClassId) (r : Nat → Nat) (sz : Nat) (u : Nat → Int32) (a : Nat → Nat → Int32) (g : Nat → Nat) (T : Nat → Nat → Nat) (R : Nat → Nat → Nat) (so : Nat → Int32) (ln : Nat → Nat) (ce : Nat → Nat → Int32) (f tr : Int32) (x : Int32) (hI : MI u a g T R so ln ce f tr) : Met l yX10_rust wsX10_rust ({ frames := 1, cells := 0, slots := 0, locals := 22 } : Room) (va_Pc [.ref (r 0), .int x] (wA D vwCl (tyA cA) e0 (xM cA r) (u, a) sz)) (va_Qi (fun (v : Int32) (z : sM) => v = aRust g x ∧ MI z.1 z.2 (gRust g x) T R so ln ce f tr) (wB D vwCl (tyA cA) (xM cA r) (va_A (xM cA r (u, a)) sz)) (va_A (xM cA r (u, a)) sz)) 0 0 (va_A (xM cA r (u, a)) sz) := by
  refine Met.ofW (cc := cX10_rust) (maxL := 3) (ret := (some .int)) (by decide) rfl ?_
  intro p e s m args below meth c s₁ B hml hv
  obtain ⟨rfl, hsz, hP, hK, hD0, hE⟩ := hv
  have hx := B.exec
  have hb := B.bytes
  have hr := B.returns
  have hts := atoms_spec (ws := wsX10_rust) B.pre
  have hown : s.vm.findClass RX10 = some m.cls := findClass_of_methodNamed B.named
  have hlocks := B.notSynchronized
  subst hsz
  have hD := hD0.self (sz := s.heap.size)
  generalize hAe : va_A (xM cA r (u, a)) s.heap.size = A at hD hE ⊢
  have hA : ∀ q : Nat, s.heap.size ≤ q → A q := fun q h => by rw [← hAe]; exact Or.inr h
  have hS : va_S A s.heap s.heap [] := va_S.rf
  have hinX10 : ∀ w ∈ u_ws RX10 TX10 34, w ∈ wsX10_rust := by decide +kernel
  have hl := lv_entry ([.ref (r 0), .int x]) (n := 3) (Nat.le_of_ble_eq_true rfl)
  rw [lg_entry_eq]
  generalize (lg_sl ([.ref (r 0), .int x]) ++ List.replicate (3 - (lg_sl ([.ref (r 0), .int x])).length) Slot.unset).toArray = ls at hl ⊢
  have hl : lv_has ls 3 [(0, .ref (r 0)), (1, .int x)] := hl
  have hM := hI.1
  have hB := hI.2.1
  have hg6 := hB.1
  have hRd := hI.2.2.1
  have hSh := hI.2.2.2.1
  have hf0 := hI.2.2.2.2.1
  have htr := hI.2.2.2.2.2
  refine lv_iload_n hx hb dX10_rust_0 rfl (lv_at hl 1 rfl) ?_
  refine lv_iconst (v := (nI 0)) hx hb dX10_rust_1 rfl ?_
  refine lv_bipush (v := (nI 50)) hx hb dX10_rust_2 rfl ?_
  refine wSi (As := [.int x, .int (nI 0), .int (nI 50)]) (rest := []) ⟨hx, hb, hml, hown, hts⟩ (kX10_within l x (nI 0) (nI 50)) (va_cwS 3 hts gX10_rust_X10_within rfl rfl rfl (by decide +kernel) ⟨Nat.le_of_ble_eq_true rfl, Nat.le_of_ble_eq_true rfl⟩) rfl hl.1 rfl (Nat.le_of_ble_eq_true rfl) dX10_rust_4 ⟨Nat.zero_le _, Nat.zero_le _⟩ (fun rv_1 hw_2 => ?_)
  rcases hw_2 with ⟨rfl, b_3⟩ | ⟨rfl, b_3⟩
  · obtain ⟨j, hj1, hj2, hj3, hj4⟩ := inR_of (show inR x 0 50 from b_3) (by decide) (by decide)
    refine lv_if_ne (tgt := 13) hx hb dX10_rust_7 (by decide) (fun _ => ?_) (fun c_4 => absurd c_4 (by decide))
    refine lv_aload_n hx hb dX10_rust_13 rfl (lv_at hl 0 rfl) ?_
    refine va_get (D := D) (ci := 10) (v := .int (nI (g 0))) (C := RX10) (T := TX10) (N := 34) hx hb hts hinX10 hown hK hP 0 rfl rfl 5 (by decide) (hts (.fieldLink RX10 90 "OneNailModel" "things" "I") (by decide +kernel)) (fun _ h9 => h9) (congrArg (fun z => some (Value.int z)) (hM.1)) dX10_rust_14 ?_
    refine rz_ne (x := g 0) (tgt := 23) hx hb (by omega) dX10_rust_17 (by decide) (fun c_5 => ?_) (fun c_5 => ?_)
    · refine lv_aload_n hx hb dX10_rust_23 rfl (lv_at hl 0 rfl) ?_
      refine va_get (D := D) (ci := 10) (v := .int (nI (g 2))) (C := RX10) (T := TX10) (N := 34) hx hb hts hinX10 hown hK hP 0 rfl rfl 7 (by decide) (hts (.fieldLink RX10 123 "OneNailModel" "rustNow" "I") (by decide +kernel)) (fun _ h9 => h9) (congrArg (fun z => some (Value.int z)) (hM.2.2.1)) dX10_rust_24 ?_
      refine lv_istore_n (lv' := [(2, .int (nI (g 2))), (0, .ref (r 0)), (1, .int x)]) hx hb dX10_rust_27 rfl hl (by decide) rfl (fun ls hl => ?_)
      refine lv_aload_n hx hb dX10_rust_28 rfl (lv_at hl 1 rfl) ?_
      refine lv_iload_n hx hb dX10_rust_29 rfl (lv_at hl 2 rfl) ?_
      refine va_put (D := D) (ci := 10) (v := .int x) (ty := .int) (C := RX10) (T := TX10) (N := 34) hx hb hts hinX10 tyX10 tyX10_ok nmX10 hown hK hP hD hS 0 rfl rfl 7 (by decide) (hts (.fieldLink RX10 123 "OneNailModel" "rustNow" "I") (by decide +kernel)) (fun _ h9 => h9) rfl (by decide +kernel) rfl rfl (Nat.le_of_ble_eq_true rfl) dX10_rust_30 (fun H locs hP hD hS => ?_)
      have hP : va_P D vwCl (xM cA r ((upd u 7 x), a)) H := hP
      have hD : va_D A (xM cA r ((upd u 7 x), a)) := hD
      refine lv_iload_n hx hb dX10_rust_33 rfl (lv_at hl 0 rfl) ?_
      exact wIret hx hb hr hlocks (v := (nI (g 2))) ((upd u 7 x), a) (⟨by unfold aRust; rw [cif_pos b_3, cif_neg (by omega)], by unfold gRust; rw [cif_pos b_3, cif_neg (by omega), hj4]; exact ⟨⟨hM.1, hM.2.1, hj1, hM.2.2.2⟩, TB_gu2 hB (by omega), hRd, hSh, hf0, htr⟩⟩) hK hP hD hS dX10_rust_34
    · refine lv_bipush (v := (-3)) hx hb dX10_rust_20 (by decide) ?_
      exact wIret hx hb hr hlocks (v := (-3)) (u, a) (⟨by unfold aRust; rw [cif_pos b_3, cif_pos (by omega)], by unfold gRust; rw [cif_pos b_3, cif_pos (by omega)]; exact hI⟩) hK hP hD hS dX10_rust_22
  · refine lv_if_ne (tgt := 13) hx hb dX10_rust_7 (by decide) (fun c_6 => absurd c_6 (by decide)) (fun _ => ?_)
    refine lv_bipush (v := (-2)) hx hb dX10_rust_10 (by decide) ?_
    exact wIret hx hb hr hlocks (v := (-2)) (u, a) (⟨by unfold aRust; rw [cif_neg b_3], by unfold gRust; rw [cif_neg b_3]; exact hI⟩) hK hP hD hS dX10_rust_12

set_option maxHeartbeats 4000000 in
set_option maxRecDepth 100000 in
theorem kX10_many (l : Launch) (D : va_G) (cA : Nat → ClassId) (r : Nat → Nat) (sz : Nat) (u : Nat → Int32) (a : Nat → Nat → Int32) (g : Nat → Nat) (T : Nat → Nat → Nat) (R : Nat → Nat → Nat) (so : Nat → Int32) (ln : Nat → Nat) (ce : Nat → Nat → Int32) (f tr : Int32) (x : Int32) (hI : MI u a g T R so ln ce f tr) : Met l yX10_many wsX10_many ({ frames := 0, cells := 0, slots := 0, locals := 0 } : Room) (va_Pc [.ref (r 0), .int x] (wA D vwCl (tyA cA) e0 (xM cA r) (u, a) sz)) (va_Qi (fun (v : Int32) (z : sM) => v = aMany g x ∧ MI z.1 z.2 g T R so ln ce f tr) (wB D vwCl (tyA cA) (xM cA r) (va_A (xM cA r (u, a)) sz)) (va_A (xM cA r (u, a)) sz)) 0 0 (va_A (xM cA r (u, a)) sz) := by
  refine Met.ofW (cc := cX10_many) (maxL := 2) (ret := (some .int)) (by decide) rfl ?_
  intro p e s m args below meth c s₁ B hml hv
  obtain ⟨rfl, hsz, hP, hK, hD0, hE⟩ := hv
  have hx := B.exec
  have hb := B.bytes
  have hr := B.returns
  have hts := atoms_spec (ws := wsX10_many) B.pre
  have hown : s.vm.findClass RX10 = some m.cls := findClass_of_methodNamed B.named
  have hlocks := B.notSynchronized
  subst hsz
  have hD := hD0.self (sz := s.heap.size)
  generalize hAe : va_A (xM cA r (u, a)) s.heap.size = A at hD hE ⊢
  have hA : ∀ q : Nat, s.heap.size ≤ q → A q := fun q h => by rw [← hAe]; exact Or.inr h
  have hS : va_S A s.heap s.heap [] := va_S.rf
  have hinX10 : ∀ w ∈ u_ws RX10 TX10 34, w ∈ wsX10_many := by decide +kernel
  have hl := lv_entry ([.ref (r 0), .int x]) (n := 2) (Nat.le_of_ble_eq_true rfl)
  rw [lg_entry_eq]
  generalize (lg_sl ([.ref (r 0), .int x]) ++ List.replicate (2 - (lg_sl ([.ref (r 0), .int x])).length) Slot.unset).toArray = ls at hl ⊢
  have hl : lv_has ls 2 [(0, .ref (r 0)), (1, .int x)] := hl
  have hM := hI.1
  have hB := hI.2.1
  have hg6 := hB.1
  have hRd := hI.2.2.1
  have hSh := hI.2.2.2.1
  have hf0 := hI.2.2.2.2.1
  have htr := hI.2.2.2.2.2
  refine lv_iload_n hx hb dX10_many_0 rfl (lv_at hl 1 rfl) ?_
  refine lv_if_ne (tgt := 11) hx hb dX10_many_1 (by decide) (fun c_1 => ?_) (fun c_1 => ?_)
  · refine lv_iload_n hx hb dX10_many_11 rfl (lv_at hl 1 rfl) ?_
    refine lv_iconst (v := (nI 1)) hx hb dX10_many_12 rfl ?_
    refine lv_icmp_ne (tgt := 23) hx hb dX10_many_13 (by decide) (fun c_2 => ?_) (fun c_2 => ?_)
    · refine lv_iload_n hx hb dX10_many_23 rfl (lv_at hl 1 rfl) ?_
      refine lv_iconst (v := (nI 2)) hx hb dX10_many_24 rfl ?_
      refine lv_icmp_ne (tgt := 35) hx hb dX10_many_25 (by decide) (fun c_3 => ?_) (fun c_3 => ?_)
      · refine lv_iload_n hx hb dX10_many_35 rfl (lv_at hl 1 rfl) ?_
        refine lv_iconst (v := (nI 3)) hx hb dX10_many_36 rfl ?_
        refine lv_icmp_ne (tgt := 47) hx hb dX10_many_37 (by decide) (fun c_4 => ?_) (fun c_4 => ?_)
        · refine lv_bipush (v := (-2)) hx hb dX10_many_47 (by decide) ?_
          exact wIret hx hb hr hlocks (v := (-2)) (u, a) (⟨by unfold aMany; first | rw [cif_pos (by assumption)] | rw [cif_neg (by assumption), cif_pos (by assumption)] | rw [cif_neg (by assumption), cif_neg (by assumption), cif_pos (by assumption)] | rw [cif_neg (by assumption), cif_neg (by assumption), cif_neg (by assumption), cif_pos (by assumption)] | rw [cif_neg (by assumption), cif_neg (by assumption), cif_neg (by assumption), cif_neg (by assumption)], hI⟩) hK hP hD hS dX10_many_49
        · refine lv_aload_n hx hb dX10_many_40 rfl (lv_at hl 0 rfl) ?_
          refine va_get (D := D) (ci := 10) (v := .int (nI (g 3))) (C := RX10) (T := TX10) (N := 34) hx hb hts hinX10 hown hK hP 0 rfl rfl 30 (by decide) (hts (.fieldLink RX10 126 "OneNailModel" "readings" "I") (by decide +kernel)) (fun _ h9 => h9) (congrArg (fun z => some (Value.int z)) (hRd.1)) dX10_many_41 ?_
          refine lv_goto (tgt := 49) hx hb dX10_many_44 (by decide) ?_
          exact wIret hx hb hr hlocks (v := (nI (g 3))) (u, a) (⟨by unfold aMany; first | rw [cif_pos (by assumption)] | rw [cif_neg (by assumption), cif_pos (by assumption)] | rw [cif_neg (by assumption), cif_neg (by assumption), cif_pos (by assumption)] | rw [cif_neg (by assumption), cif_neg (by assumption), cif_neg (by assumption), cif_pos (by assumption)] | rw [cif_neg (by assumption), cif_neg (by assumption), cif_neg (by assumption), cif_neg (by assumption)], hI⟩) hK hP hD hS dX10_many_49
      · refine lv_aload_n hx hb dX10_many_28 rfl (lv_at hl 0 rfl) ?_
        refine va_get (D := D) (ci := 10) (v := .int (nI (g 2))) (C := RX10) (T := TX10) (N := 34) hx hb hts hinX10 hown hK hP 0 rfl rfl 7 (by decide) (hts (.fieldLink RX10 123 "OneNailModel" "rustNow" "I") (by decide +kernel)) (fun _ h9 => h9) (congrArg (fun z => some (Value.int z)) (hM.2.2.1)) dX10_many_29 ?_
        refine lv_goto (tgt := 49) hx hb dX10_many_32 (by decide) ?_
        exact wIret hx hb hr hlocks (v := (nI (g 2))) (u, a) (⟨by unfold aMany; first | rw [cif_pos (by assumption)] | rw [cif_neg (by assumption), cif_pos (by assumption)] | rw [cif_neg (by assumption), cif_neg (by assumption), cif_pos (by assumption)] | rw [cif_neg (by assumption), cif_neg (by assumption), cif_neg (by assumption), cif_pos (by assumption)] | rw [cif_neg (by assumption), cif_neg (by assumption), cif_neg (by assumption), cif_neg (by assumption)], hI⟩) hK hP hD hS dX10_many_49
    · refine lv_aload_n hx hb dX10_many_16 rfl (lv_at hl 0 rfl) ?_
      refine va_get (D := D) (ci := 10) (v := .int (nI (g 1))) (C := RX10) (T := TX10) (N := 34) hx hb hts hinX10 hown hK hP 0 rfl rfl 6 (by decide) (hts (.fieldLink RX10 117 "OneNailModel" "home" "I") (by decide +kernel)) (fun _ h9 => h9) (congrArg (fun z => some (Value.int z)) (hM.2.1)) dX10_many_17 ?_
      refine lv_goto (tgt := 49) hx hb dX10_many_20 (by decide) ?_
      exact wIret hx hb hr hlocks (v := (nI (g 1))) (u, a) (⟨by unfold aMany; first | rw [cif_pos (by assumption)] | rw [cif_neg (by assumption), cif_pos (by assumption)] | rw [cif_neg (by assumption), cif_neg (by assumption), cif_pos (by assumption)] | rw [cif_neg (by assumption), cif_neg (by assumption), cif_neg (by assumption), cif_pos (by assumption)] | rw [cif_neg (by assumption), cif_neg (by assumption), cif_neg (by assumption), cif_neg (by assumption)], hI⟩) hK hP hD hS dX10_many_49
  · refine lv_aload_n hx hb dX10_many_4 rfl (lv_at hl 0 rfl) ?_
    refine va_get (D := D) (ci := 10) (v := .int (nI (g 0))) (C := RX10) (T := TX10) (N := 34) hx hb hts hinX10 hown hK hP 0 rfl rfl 5 (by decide) (hts (.fieldLink RX10 90 "OneNailModel" "things" "I") (by decide +kernel)) (fun _ h9 => h9) (congrArg (fun z => some (Value.int z)) (hM.1)) dX10_many_5 ?_
    refine lv_goto (tgt := 49) hx hb dX10_many_8 (by decide) ?_
    exact wIret hx hb hr hlocks (v := (nI (g 0))) (u, a) (⟨by unfold aMany; first | rw [cif_pos (by assumption)] | rw [cif_neg (by assumption), cif_pos (by assumption)] | rw [cif_neg (by assumption), cif_neg (by assumption), cif_pos (by assumption)] | rw [cif_neg (by assumption), cif_neg (by assumption), cif_neg (by assumption), cif_pos (by assumption)] | rw [cif_neg (by assumption), cif_neg (by assumption), cif_neg (by assumption), cif_neg (by assumption)], hI⟩) hK hP hD hS dX10_many_49

set_option maxHeartbeats 4000000 in
set_option maxRecDepth 100000 in
theorem kX10_back (l : Launch) (D : va_G) (cA : Nat → ClassId) (r : Nat → Nat) (sz : Nat) (u : Nat → Int32) (a : Nat → Nat → Int32) (g : Nat → Nat) (T : Nat → Nat → Nat) (R : Nat → Nat → Nat) (so : Nat → Int32) (ln : Nat → Nat) (ce : Nat → Nat → Int32) (f tr : Int32) (x : Int32) (hI : MI u a g T R so ln ce f tr) : Met l yX10_back wsX10_back ({ frames := 1, cells := 0, slots := 0, locals := 22 } : Room) (va_Pc [.ref (r 0), .int x] (wA D vwCl (tyA cA) e0 (xM cA r) (u, a) sz)) (va_Qi (fun (v : Int32) (z : sM) => v = aBack g x ∧ MI z.1 z.2 (gBack g x) T R so ln ce f tr) (wB D vwCl (tyA cA) (xM cA r) (va_A (xM cA r (u, a)) sz)) (va_A (xM cA r (u, a)) sz)) 0 0 (va_A (xM cA r (u, a)) sz) := by
  refine Met.ofW (cc := cX10_back) (maxL := 2) (ret := (some .int)) (by decide) rfl ?_
  intro p e s m args below meth c s₁ B hml hv
  obtain ⟨rfl, hsz, hP, hK, hD0, hE⟩ := hv
  have hx := B.exec
  have hb := B.bytes
  have hr := B.returns
  have hts := atoms_spec (ws := wsX10_back) B.pre
  have hown : s.vm.findClass RX10 = some m.cls := findClass_of_methodNamed B.named
  have hlocks := B.notSynchronized
  subst hsz
  have hD := hD0.self (sz := s.heap.size)
  generalize hAe : va_A (xM cA r (u, a)) s.heap.size = A at hD hE ⊢
  have hA : ∀ q : Nat, s.heap.size ≤ q → A q := fun q h => by rw [← hAe]; exact Or.inr h
  have hS : va_S A s.heap s.heap [] := va_S.rf
  have hinX10 : ∀ w ∈ u_ws RX10 TX10 34, w ∈ wsX10_back := by decide +kernel
  have hl := lv_entry ([.ref (r 0), .int x]) (n := 2) (Nat.le_of_ble_eq_true rfl)
  rw [lg_entry_eq]
  generalize (lg_sl ([.ref (r 0), .int x]) ++ List.replicate (2 - (lg_sl ([.ref (r 0), .int x])).length) Slot.unset).toArray = ls at hl ⊢
  have hl : lv_has ls 2 [(0, .ref (r 0)), (1, .int x)] := hl
  have hM := hI.1
  have hB := hI.2.1
  have hg6 := hB.1
  have hRd := hI.2.2.1
  have hSh := hI.2.2.2.1
  have hf0 := hI.2.2.2.2.1
  have htr := hI.2.2.2.2.2
  have hr8 := hRd.2.1
  refine lv_iload_n hx hb dX10_back_0 rfl (lv_at hl 1 rfl) ?_
  refine lv_iconst (v := (nI 0)) hx hb dX10_back_1 rfl ?_
  refine lv_aload_n hx hb dX10_back_2 rfl (lv_at hl 0 rfl) ?_
  refine va_get (D := D) (ci := 10) (v := .int (nI (g 3))) (C := RX10) (T := TX10) (N := 34) hx hb hts hinX10 hown hK hP 0 rfl rfl 30 (by decide) (hts (.fieldLink RX10 126 "OneNailModel" "readings" "I") (by decide +kernel)) (fun _ h9 => h9) (congrArg (fun z => some (Value.int z)) (hRd.1)) dX10_back_3 ?_
  refine wSi (As := [.int x, .int (nI 0), .int (nI (g 3))]) (rest := []) ⟨hx, hb, hml, hown, hts⟩ (kX10_within l x (nI 0) (nI (g 3))) (va_cwS 3 hts gX10_back_X10_within rfl rfl rfl (by decide +kernel) ⟨Nat.le_of_ble_eq_true rfl, Nat.le_of_ble_eq_true rfl⟩) rfl hl.1 rfl (Nat.le_of_ble_eq_true rfl) dX10_back_6 ⟨Nat.zero_le _, Nat.zero_le _⟩ (fun rv_1 hw_2 => ?_)
  rcases hw_2 with ⟨rfl, b_3⟩ | ⟨rfl, b_3⟩
  · obtain ⟨j, hj1, hj2, hj3, hj4⟩ := inR_of (show inR x 0 (g 3) from b_3) (by decide) (by omega)
    have hl : lv_has ls 2 [(0, .ref (r 0)), (1, .int (nI j))] := lv_re hl 1 ⟨rfl, rfl⟩ (hj1)
    refine lv_if_ne (tgt := 15) hx hb dX10_back_9 (by decide) (fun _ => ?_) (fun c_4 => absurd c_4 (by decide))
    refine lv_aload_n hx hb dX10_back_15 rfl (lv_at hl 0 rfl) ?_
    refine lv_dup hx hb dX10_back_16 rfl ?_
    refine va_get (D := D) (ci := 10) (v := .int (nI (g 3))) (C := RX10) (T := TX10) (N := 34) hx hb hts hinX10 hown hK hP 0 rfl rfl 30 (by decide) (hts (.fieldLink RX10 126 "OneNailModel" "readings" "I") (by decide +kernel)) (fun _ h9 => h9) (congrArg (fun z => some (Value.int z)) (hRd.1)) dX10_back_17 ?_
    refine lv_iload_n hx hb dX10_back_20 rfl (lv_at hl 1 rfl) ?_
    refine rn_isub (x := g 3) (y := j) hx hb (by omega) dX10_back_21 ?_
    refine va_put (D := D) (ci := 10) (v := .int (nI ((g 3) - j))) (ty := .int) (C := RX10) (T := TX10) (N := 34) hx hb hts hinX10 tyX10 tyX10_ok nmX10 hown hK hP hD hS 0 rfl rfl 30 (by decide) (hts (.fieldLink RX10 126 "OneNailModel" "readings" "I") (by decide +kernel)) (fun _ h9 => h9) rfl (by decide +kernel) rfl rfl (Nat.le_of_ble_eq_true rfl) dX10_back_22 (fun H locs hP hD hS => ?_)
    have hP : va_P D vwCl (xM cA r ((upd u 30 (nI ((g 3) - j))), a)) H := hP
    have hD : va_D A (xM cA r ((upd u 30 (nI ((g 3) - j))), a)) := hD
    refine lv_aload_n hx hb dX10_back_25 rfl (lv_at hl 0 rfl) ?_
    refine va_get (D := D) (ci := 10) (v := .int (nI ((g 3) - j))) (C := RX10) (T := TX10) (N := 34) hx hb hts hinX10 hown hK hP 0 rfl rfl 30 (by decide) (hts (.fieldLink RX10 126 "OneNailModel" "readings" "I") (by decide +kernel)) (fun _ h9 => h9) rfl dX10_back_26 ?_
    exact wIret hx hb hr hlocks (v := (nI ((g 3) - j))) ((upd u 30 (nI ((g 3) - j))), a) (⟨by unfold aBack; rw [cif_pos b_3, hj4], by unfold gBack; rw [cif_pos b_3, hj4]; exact ⟨hM, TB_gu3 hB, ⟨rfl, show g 3 - j ≤ 8 by omega, fun q hq => hRd.2.2.1 q (Nat.lt_of_lt_of_le hq (Nat.sub_le _ _)), fun q hq => hRd.2.2.2.1 q (Nat.lt_of_lt_of_le hq (Nat.sub_le _ _)), fun q hq => hRd.2.2.2.2 q (Nat.lt_of_lt_of_le hq (Nat.sub_le _ _))⟩, hSh, hf0, htr⟩⟩) hK hP hD hS dX10_back_29
  · refine lv_if_ne (tgt := 15) hx hb dX10_back_9 (by decide) (fun c_5 => absurd c_5 (by decide)) (fun _ => ?_)
    refine lv_bipush (v := (-2)) hx hb dX10_back_12 (by decide) ?_
    exact wIret hx hb hr hlocks (v := (-2)) (u, a) (⟨by unfold aBack; rw [cif_neg b_3], by unfold gBack; rw [cif_neg b_3]; exact hI⟩) hK hP hD hS dX10_back_14

set_option maxHeartbeats 4000000 in
set_option maxRecDepth 100000 in
theorem kX10_begins (l : Launch) (D : va_G) (cA : Nat → ClassId) (r : Nat → Nat) (sz : Nat) (u : Nat → Int32) (a : Nat → Nat → Int32) (n : Nat)  : Met l yX10_begins wsX10_begins ({ frames := 0, cells := 0, slots := 0, locals := 0 } : Room) (va_Pc [.ref (r 0), .int (nI n)] (wA D vwCl (tyA cA) e0 (xM cA r) (u, a) sz)) (va_Qv (fun (z : sM) => z = (upd u 1 (bg (u 1) n), a)) (wB D vwCl (tyA cA) (xM cA r) (va_A (xM cA r (u, a)) sz)) (va_A (xM cA r (u, a)) sz)) 0 0 (va_A (xM cA r (u, a)) sz) := by
  refine Met.ofW (cc := cX10_begins) (maxL := 2) (ret := none) (by decide) rfl ?_
  intro p e s m args below meth c s₁ B hml hv
  obtain ⟨rfl, hsz, hP, hK, hD0, hE⟩ := hv
  have hx := B.exec
  have hb := B.bytes
  have hr := B.returns
  have hts := atoms_spec (ws := wsX10_begins) B.pre
  have hown : s.vm.findClass RX10 = some m.cls := findClass_of_methodNamed B.named
  have hlocks := B.notSynchronized
  subst hsz
  have hD := hD0.self (sz := s.heap.size)
  generalize hAe : va_A (xM cA r (u, a)) s.heap.size = A at hD hE ⊢
  have hA : ∀ q : Nat, s.heap.size ≤ q → A q := fun q h => by rw [← hAe]; exact Or.inr h
  have hS : va_S A s.heap s.heap [] := va_S.rf
  have hinX10 : ∀ w ∈ u_ws RX10 TX10 34, w ∈ wsX10_begins := by decide +kernel
  have hl := lv_entry ([.ref (r 0), .int (nI n)]) (n := 2) (Nat.le_of_ble_eq_true rfl)
  rw [lg_entry_eq]
  generalize (lg_sl ([.ref (r 0), .int (nI n)]) ++ List.replicate (2 - (lg_sl ([.ref (r 0), .int (nI n)])).length) Slot.unset).toArray = ls at hl ⊢
  have hl : lv_has ls 2 [(0, .ref (r 0)), (1, .int (nI n))] := hl
  refine lv_aload_n hx hb dX10_begins_0 rfl (lv_at hl 0 rfl) ?_
  refine lv_bipush (v := (nI 31)) hx hb dX10_begins_1 rfl ?_
  refine lv_aload_n hx hb dX10_begins_3 rfl (lv_at hl 0 rfl) ?_
  refine va_get (D := D) (ci := 10) (v := .int (u 1)) (C := RX10) (T := TX10) (N := 34) hx hb hts hinX10 hown hK hP 0 rfl rfl 1 (by decide) (hts (.fieldLink RX10 205 "OneNailModel" "trace" "I") (by decide +kernel)) (fun _ h9 => h9) rfl dX10_begins_4 ?_
  refine lv_imul hx hb dX10_begins_7 ?_
  refine lv_iload_n hx hb dX10_begins_8 rfl (lv_at hl 1 rfl) ?_
  refine lv_iadd hx hb dX10_begins_9 ?_
  refine va_put (D := D) (ci := 10) (v := .int (((nI 31) * (u 1)) + (nI n))) (ty := .int) (C := RX10) (T := TX10) (N := 34) hx hb hts hinX10 tyX10 tyX10_ok nmX10 hown hK hP hD hS 0 rfl rfl 1 (by decide) (hts (.fieldLink RX10 205 "OneNailModel" "trace" "I") (by decide +kernel)) (fun _ h9 => h9) rfl (by decide +kernel) rfl rfl (Nat.le_of_ble_eq_true rfl) dX10_begins_10 (fun H locs hP hD hS => ?_)
  have hP : va_P D vwCl (xM cA r ((upd u 1 (((nI 31) * (u 1)) + (nI n))), a)) H := hP
  have hD : va_D A (xM cA r ((upd u 1 (((nI 31) * (u 1)) + (nI n))), a)) := hD
  exact wVret hx hb hr hlocks ((upd u 1 (((nI 31) * (u 1)) + (nI n))), a) (rfl) hK hP hD hS dX10_begins_13

set_option maxHeartbeats 4000000 in
set_option maxRecDepth 100000 in
theorem kX10_strike (l : Launch) (D : va_G) (cA : Nat → ClassId) (r : Nat → Nat) (sz : Nat) (u : Nat → Int32) (a : Nat → Nat → Int32) (g : Nat → Nat) (T : Nat → Nat → Nat) (R : Nat → Nat → Nat) (so : Nat → Int32) (ln : Nat → Nat) (ce : Nat → Nat → Int32) (f tr : Int32) (x : Int32) (hI : MI u a g T R so ln ce f tr) : Met l yX10_strike wsX10_strike ({ frames := 1, cells := 0, slots := 0, locals := 21 } : Room) (va_Pc [.ref (r 0), .int x] (wA D vwCl (tyA cA) e0 (xM cA r) (u, a) sz)) (va_Qi (fun (v : Int32) (z : sM) => v = aStrike g T x ∧ MI z.1 z.2 g T R so ln ce f (tStrike g T tr x)) (wB D vwCl (tyA cA) (xM cA r) (va_A (xM cA r (u, a)) sz)) (va_A (xM cA r (u, a)) sz)) 0 0 (va_A (xM cA r (u, a)) sz) := by
  refine Met.ofW (cc := cX10_strike) (maxL := 2) (ret := (some .int)) (by decide) rfl ?_
  intro p e s m args below meth c s₁ B hml hv
  obtain ⟨rfl, hsz, hP, hK, hD0, hE⟩ := hv
  have hx := B.exec
  have hb := B.bytes
  have hr := B.returns
  have hts := atoms_spec (ws := wsX10_strike) B.pre
  have hown : s.vm.findClass RX10 = some m.cls := findClass_of_methodNamed B.named
  have hlocks := B.notSynchronized
  subst hsz
  have hD := hD0.self (sz := s.heap.size)
  generalize hAe : va_A (xM cA r (u, a)) s.heap.size = A at hD hE ⊢
  have hA : ∀ q : Nat, s.heap.size ≤ q → A q := fun q h => by rw [← hAe]; exact Or.inr h
  have hS : va_S A s.heap s.heap [] := va_S.rf
  have hinX10 : ∀ w ∈ u_ws RX10 TX10 34, w ∈ wsX10_strike := by decide +kernel
  have hl := lv_entry ([.ref (r 0), .int x]) (n := 2) (Nat.le_of_ble_eq_true rfl)
  rw [lg_entry_eq]
  generalize (lg_sl ([.ref (r 0), .int x]) ++ List.replicate (2 - (lg_sl ([.ref (r 0), .int x])).length) Slot.unset).toArray = ls at hl ⊢
  have hl : lv_has ls 2 [(0, .ref (r 0)), (1, .int x)] := hl
  have hM := hI.1
  have hB := hI.2.1
  have hg6 := hB.1
  have hRd := hI.2.2.1
  have hSh := hI.2.2.2.1
  have hf0 := hI.2.2.2.2.1
  have htr := hI.2.2.2.2.2
  refine lv_aload_n hx hb dX10_strike_0 rfl (lv_at hl 0 rfl) ?_
  refine lv_iload_n hx hb dX10_strike_1 rfl (lv_at hl 1 rfl) ?_
  refine wVi e0_S (As := [.int x]) (rest := []) ⟨hx, hb, hml, hown, hts⟩ (kX10_isThing l D cA r _ u a g T x hM hB) (cwV 1 hts gX10_strike_X10_isThing rfl rfl rfl (by decide +kernel) ⟨Nat.le_of_ble_eq_true rfl, Nat.le_of_ble_eq_true rfl⟩) (va_recv hK hP (ci := 10) (q0 := 0) rfl rfl) hK hP hD hS hA hE rfl hl.1 rfl (Nat.le_of_ble_eq_true rfl) dX10_strike_2 ⟨Nat.zero_le _, Nat.zero_le _⟩ (fun rv_1 z_3 H locs hw_2 hP hD hS => ?_)
  obtain ⟨hz_4, hw_2⟩ := hw_2
  subst hz_4
  have hP : va_P D vwCl (xM cA r (u, a)) H := hP
  have hD : va_D A (xM cA r (u, a)) := hD
  rcases hw_2 with ⟨rfl, b_5⟩ | ⟨rfl, b_5⟩
  · have hxt := isT_of b_5 hg6
    have hTx := hB.2.2.2 _ hxt.2
    have hl : lv_has ls 2 [(0, .ref (r 0)), (1, .int (nI (x.toNatClampNeg)))] := lv_re hl 1 ⟨rfl, rfl⟩ (hxt.1)
    refine lv_if_ne (tgt := 10) hx hb dX10_strike_5 (by decide) (fun _ => ?_) (fun c_6 => absurd c_6 (by decide))
    refine lv_aload_n hx hb dX10_strike_10 rfl (lv_at hl 0 rfl) ?_
    refine lv_aload_n hx hb dX10_strike_11 rfl (lv_at hl 0 rfl) ?_
    refine va_get (D := D) (ci := 10) (v := .ref (r 8)) (C := RX10) (T := TX10) (N := 34) hx hb hts hinX10 hown hK hP 0 rfl rfl 8 (by decide) (hts (.fieldLink RX10 19 "OneNailModel" "kind" "[I") (by decide +kernel)) (fun _ h9 => h9) rfl dX10_strike_12 ?_
    refine lv_iload_n hx hb dX10_strike_15 rfl (lv_at hl 1 rfl) ?_
    refine ra_iald hx hb hK hP 4 0 (n := 6) (f := (a 8)) (j := x.toNatClampNeg) (v := (nI (T 0 (x.toNatClampNeg)))) rfl rfl (by omega) (by decide) ((hM.2.2.2 (x.toNatClampNeg) (by omega)).1) dX10_strike_16 ?_
    refine lv_iconst (v := (nI 2)) hx hb dX10_strike_17 rfl ?_
    refine rn_ne (x := T 0 (x.toNatClampNeg)) (y := 2) (tgt := 25) hx hb (by omega) (by omega) dX10_strike_18 (by decide) (fun c_7 => ?_) (fun c_7 => ?_)
    · refine lv_iconst (v := (nI 4)) hx hb dX10_strike_25 rfl ?_
      refine wVv e0_S (As := [.int (nI 4)]) (rest := []) ⟨hx, hb, hml, hown, hts⟩ (kX10_begins l D cA r _ u a 4) (cwV 1 hts gX10_strike_X10_begins rfl rfl rfl (by decide +kernel) ⟨Nat.le_of_ble_eq_true rfl, Nat.le_of_ble_eq_true rfl⟩) (va_recv hK hP (ci := 10) (q0 := 0) rfl rfl) hK hP hD hS hA hE rfl hl.1 rfl (Nat.le_of_ble_eq_true rfl) dX10_strike_26 ⟨Nat.zero_le _, Nat.zero_le _⟩ (fun z_10 H locs hw_9 hP hD hS => ?_)
      obtain rfl := hw_9
      have hP : va_P D vwCl (xM cA r ((upd u 1 (bg (u 1) 4)), a)) H := hP
      have hD : va_D A (xM cA r ((upd u 1 (bg (u 1) 4)), a)) := hD
      refine lv_aload_n hx hb dX10_strike_29 rfl (lv_at hl 0 rfl) ?_
      refine va_get (D := D) (ci := 10) (v := .ref (r 8)) (C := RX10) (T := TX10) (N := 34) hx hb hts hinX10 hown hK hP 0 rfl rfl 8 (by decide) (hts (.fieldLink RX10 19 "OneNailModel" "kind" "[I") (by decide +kernel)) (fun _ h9 => h9) rfl dX10_strike_30 ?_
      refine lv_iload_n hx hb dX10_strike_33 rfl (lv_at hl 1 rfl) ?_
      refine ra_iald hx hb hK hP 4 0 (n := 6) (f := (a 8)) (j := x.toNatClampNeg) (v := (nI (T 0 (x.toNatClampNeg)))) rfl rfl (by omega) (by decide) ((hM.2.2.2 (x.toNatClampNeg) (by omega)).1) dX10_strike_34 ?_
      refine lv_iconst (v := (nI 2)) hx hb dX10_strike_35 rfl ?_
      refine rn_ne (x := T 0 (x.toNatClampNeg)) (y := 2) (tgt := 44) hx hb (by omega) (by omega) dX10_strike_36 (by decide) (fun c_11 => ?_) (fun c_11 => ?_)
      · refine lv_iload_n hx hb dX10_strike_44 rfl (lv_at hl 1 rfl) ?_
        exact wIret hx hb hr hlocks (v := (nI (x.toNatClampNeg))) ((upd u 1 (bg (u 1) 4)), a) (⟨by unfold aStrike; rw [cif_pos b_5, cif_neg (by omega)]; exact hxt.1.symm, by unfold tStrike; rw [cif_pos b_5, cif_neg (by omega)]; exact (MI.keep hI hf0 (congrArg (fun z => bg z 4) htr) rfl rfl rfl rfl rfl rfl rfl rfl rfl rfl rfl rfl rfl rfl rfl)⟩) hK hP hD hS dX10_strike_45
      · refine lv_bipush (v := (nI 30)) hx hb dX10_strike_39 rfl ?_
        refine lv_goto (tgt := 45) hx hb dX10_strike_41 (by decide) ?_
        exact wIret hx hb hr hlocks (v := (nI 30)) ((upd u 1 (bg (u 1) 4)), a) (False.elim (by omega)) hK hP hD hS dX10_strike_45
    · refine lv_iconst (v := (nI 5)) hx hb dX10_strike_21 rfl ?_
      refine lv_goto (tgt := 26) hx hb dX10_strike_22 (by decide) ?_
      refine wVv e0_S (As := [.int (nI 5)]) (rest := []) ⟨hx, hb, hml, hown, hts⟩ (kX10_begins l D cA r _ u a 5) (cwV 1 hts gX10_strike_X10_begins rfl rfl rfl (by decide +kernel) ⟨Nat.le_of_ble_eq_true rfl, Nat.le_of_ble_eq_true rfl⟩) (va_recv hK hP (ci := 10) (q0 := 0) rfl rfl) hK hP hD hS hA hE rfl hl.1 rfl (Nat.le_of_ble_eq_true rfl) dX10_strike_26 ⟨Nat.zero_le _, Nat.zero_le _⟩ (fun z_14 H locs hw_13 hP hD hS => ?_)
      obtain rfl := hw_13
      have hP : va_P D vwCl (xM cA r ((upd u 1 (bg (u 1) 5)), a)) H := hP
      have hD : va_D A (xM cA r ((upd u 1 (bg (u 1) 5)), a)) := hD
      refine lv_aload_n hx hb dX10_strike_29 rfl (lv_at hl 0 rfl) ?_
      refine va_get (D := D) (ci := 10) (v := .ref (r 8)) (C := RX10) (T := TX10) (N := 34) hx hb hts hinX10 hown hK hP 0 rfl rfl 8 (by decide) (hts (.fieldLink RX10 19 "OneNailModel" "kind" "[I") (by decide +kernel)) (fun _ h9 => h9) rfl dX10_strike_30 ?_
      refine lv_iload_n hx hb dX10_strike_33 rfl (lv_at hl 1 rfl) ?_
      refine ra_iald hx hb hK hP 4 0 (n := 6) (f := (a 8)) (j := x.toNatClampNeg) (v := (nI (T 0 (x.toNatClampNeg)))) rfl rfl (by omega) (by decide) ((hM.2.2.2 (x.toNatClampNeg) (by omega)).1) dX10_strike_34 ?_
      refine lv_iconst (v := (nI 2)) hx hb dX10_strike_35 rfl ?_
      refine rn_ne (x := T 0 (x.toNatClampNeg)) (y := 2) (tgt := 44) hx hb (by omega) (by omega) dX10_strike_36 (by decide) (fun c_15 => ?_) (fun c_15 => ?_)
      · refine lv_iload_n hx hb dX10_strike_44 rfl (lv_at hl 1 rfl) ?_
        exact wIret hx hb hr hlocks (v := (nI (x.toNatClampNeg))) ((upd u 1 (bg (u 1) 5)), a) (False.elim (by omega)) hK hP hD hS dX10_strike_45
      · refine lv_bipush (v := (nI 30)) hx hb dX10_strike_39 rfl ?_
        refine lv_goto (tgt := 45) hx hb dX10_strike_41 (by decide) ?_
        exact wIret hx hb hr hlocks (v := (nI 30)) ((upd u 1 (bg (u 1) 5)), a) (⟨by unfold aStrike; rw [cif_pos b_5, cif_pos (by omega)], by unfold tStrike; rw [cif_pos b_5, cif_pos (by omega)]; exact (MI.keep hI hf0 (congrArg (fun z => bg z 5) htr) rfl rfl rfl rfl rfl rfl rfl rfl rfl rfl rfl rfl rfl rfl rfl)⟩) hK hP hD hS dX10_strike_45
  · refine lv_if_ne (tgt := 10) hx hb dX10_strike_5 (by decide) (fun c_16 => absurd c_16 (by decide)) (fun _ => ?_)
    refine lv_iconst (v := (-1)) hx hb dX10_strike_8 (by decide) ?_
    exact wIret hx hb hr hlocks (v := (-1)) (u, a) (⟨by unfold aStrike; rw [cif_neg b_5], by unfold tStrike; rw [cif_neg b_5]; exact hI⟩) hK hP hD hS dX10_strike_9

set_option maxHeartbeats 4000000 in
set_option maxRecDepth 100000 in
theorem kX10_as (l : Launch) (D : va_G) (cA : Nat → ClassId) (r : Nat → Nat) (sz : Nat) (u : Nat → Int32) (a : Nat → Nat → Int32) (g : Nat → Nat) (T : Nat → Nat → Nat) (R : Nat → Nat → Nat) (so : Nat → Int32) (ln : Nat → Nat) (ce : Nat → Nat → Int32) (f tr : Int32) (x w : Int32) (hI : MI u a g T R so ln ce f tr) : Met l yX10_as wsX10_as ({ frames := 1, cells := 0, slots := 0, locals := 22 } : Room) (va_Pc [.ref (r 0), .int x, .int w] (wA D vwCl (tyA cA) e0 (xM cA r) (u, a) sz)) (va_Qi (fun (v : Int32) (z : sM) => v = aAs g T x w ∧ MI z.1 z.2 g T R so ln ce (fAs g T x w) tr) (wB D vwCl (tyA cA) (xM cA r) (va_A (xM cA r (u, a)) sz)) (va_A (xM cA r (u, a)) sz)) 0 0 (va_A (xM cA r (u, a)) sz) := by
  refine Met.ofW (cc := cX10_as) (maxL := 3) (ret := (some .int)) (by decide) rfl ?_
  intro p e s m args below meth c s₁ B hml hv
  obtain ⟨rfl, hsz, hP, hK, hD0, hE⟩ := hv
  have hx := B.exec
  have hb := B.bytes
  have hr := B.returns
  have hts := atoms_spec (ws := wsX10_as) B.pre
  have hown : s.vm.findClass RX10 = some m.cls := findClass_of_methodNamed B.named
  have hlocks := B.notSynchronized
  subst hsz
  have hD := hD0.self (sz := s.heap.size)
  generalize hAe : va_A (xM cA r (u, a)) s.heap.size = A at hD hE ⊢
  have hA : ∀ q : Nat, s.heap.size ≤ q → A q := fun q h => by rw [← hAe]; exact Or.inr h
  have hS : va_S A s.heap s.heap [] := va_S.rf
  have hinX10 : ∀ w ∈ u_ws RX10 TX10 34, w ∈ wsX10_as := by decide +kernel
  have hl := lv_entry ([.ref (r 0), .int x, .int w]) (n := 3) (Nat.le_of_ble_eq_true rfl)
  rw [lg_entry_eq]
  generalize (lg_sl ([.ref (r 0), .int x, .int w]) ++ List.replicate (3 - (lg_sl ([.ref (r 0), .int x, .int w])).length) Slot.unset).toArray = ls at hl ⊢
  have hl : lv_has ls 3 [(0, .ref (r 0)), (1, .int x), (2, .int w)] := hl
  have hM := hI.1
  have hB := hI.2.1
  have hg6 := hB.1
  have hRd := hI.2.2.1
  have hSh := hI.2.2.2.1
  have hf0 := hI.2.2.2.2.1
  have htr := hI.2.2.2.2.2
  refine lv_aload_n hx hb dX10_as_0 rfl (lv_at hl 0 rfl) ?_
  refine lv_iconst (v := (nI 0)) hx hb dX10_as_1 rfl ?_
  refine va_put (D := D) (ci := 10) (v := .int (nI 0)) (ty := .int) (C := RX10) (T := TX10) (N := 34) hx hb hts hinX10 tyX10 tyX10_ok nmX10 hown hK hP hD hS 0 rfl rfl 0 (by decide) (hts (.fieldLink RX10 80 "OneNailModel" "fault" "I") (by decide +kernel)) (fun _ h9 => h9) rfl (by decide +kernel) rfl rfl (Nat.le_of_ble_eq_true rfl) dX10_as_2 (fun H locs hP hD hS => ?_)
  have hP : va_P D vwCl (xM cA r ((upd u 0 (nI 0)), a)) H := hP
  have hD : va_D A (xM cA r ((upd u 0 (nI 0)), a)) := hD
  refine lv_aload_n hx hb dX10_as_5 rfl (lv_at hl 0 rfl) ?_
  refine lv_iload_n hx hb dX10_as_6 rfl (lv_at hl 1 rfl) ?_
  refine wVi e0_S (As := [.int x]) (rest := []) ⟨hx, hb, hml, hown, hts⟩ (kX10_isThing l D cA r _ (upd u 0 (nI 0)) a g T x (MT.keep hM rfl rfl rfl rfl rfl rfl rfl rfl) hB) (cwV 1 hts gX10_as_X10_isThing rfl rfl rfl (by decide +kernel) ⟨Nat.le_of_ble_eq_true rfl, Nat.le_of_ble_eq_true rfl⟩) (va_recv hK hP (ci := 10) (q0 := 0) rfl rfl) hK hP hD hS hA hE rfl hl.1 rfl (Nat.le_of_ble_eq_true rfl) dX10_as_7 ⟨Nat.zero_le _, Nat.zero_le _⟩ (fun rv_1 z_3 H locs hw_2 hP hD hS => ?_)
  obtain ⟨hz_4, hw_2⟩ := hw_2
  subst hz_4
  have hP : va_P D vwCl (xM cA r ((upd u 0 (nI 0)), a)) H := hP
  have hD : va_D A (xM cA r ((upd u 0 (nI 0)), a)) := hD
  rcases hw_2 with ⟨rfl, b_5⟩ | ⟨rfl, b_5⟩
  · have hxt := isT_of b_5 hg6
    have hTx := hB.2.2.2 _ hxt.2
    have hl : lv_has ls 3 [(0, .ref (r 0)), (1, .int (nI (x.toNatClampNeg))), (2, .int w)] := lv_re hl 1 ⟨rfl, rfl⟩ (hxt.1)
    refine lv_if_ne (tgt := 15) hx hb dX10_as_10 (by decide) (fun _ => ?_) (fun c_6 => absurd c_6 (by decide))
    refine lv_iload_n hx hb dX10_as_15 rfl (lv_at hl 2 rfl) ?_
    refine lv_iconst (v := (nI 0)) hx hb dX10_as_16 rfl ?_
    refine lv_iconst (v := (nI 2)) hx hb dX10_as_17 rfl ?_
    refine wSi (As := [.int w, .int (nI 0), .int (nI 2)]) (rest := []) ⟨hx, hb, hml, hown, hts⟩ (kX10_within l w (nI 0) (nI 2)) (va_cwS 3 hts gX10_as_X10_within rfl rfl rfl (by decide +kernel) ⟨Nat.le_of_ble_eq_true rfl, Nat.le_of_ble_eq_true rfl⟩) rfl hl.1 rfl (Nat.le_of_ble_eq_true rfl) dX10_as_18 ⟨Nat.zero_le _, Nat.zero_le _⟩ (fun rv_7 hw_8 => ?_)
    rcases hw_8 with ⟨rfl, b_9⟩ | ⟨rfl, b_9⟩
    · obtain ⟨j, hj1, hj2, hj3, hj4⟩ := inR_of (show inR w 0 2 from b_9) (by decide) (by decide)
      have hl : lv_has ls 3 [(0, .ref (r 0)), (1, .int (nI (x.toNatClampNeg))), (2, .int (nI (w.toNatClampNeg)))] := lv_re hl 2 ⟨rfl, rfl⟩ (by rw [hj4]; exact hj1)
      have hj5 : w.toNatClampNeg ≤ 2 := by omega
      refine lv_if_ne (tgt := 27) hx hb dX10_as_21 (by decide) (fun _ => ?_) (fun c_10 => absurd c_10 (by decide))
      refine lv_aload_n hx hb dX10_as_27 rfl (lv_at hl 0 rfl) ?_
      refine va_get (D := D) (ci := 10) (v := .ref (r 8)) (C := RX10) (T := TX10) (N := 34) hx hb hts hinX10 hown hK hP 0 rfl rfl 8 (by decide) (hts (.fieldLink RX10 19 "OneNailModel" "kind" "[I") (by decide +kernel)) (fun _ h9 => h9) rfl dX10_as_28 ?_
      refine lv_iload_n hx hb dX10_as_31 rfl (lv_at hl 1 rfl) ?_
      refine ra_iald hx hb hK hP 4 0 (n := 6) (f := (a 8)) (j := x.toNatClampNeg) (v := (nI (T 0 (x.toNatClampNeg)))) rfl rfl (by omega) (by decide) ((hM.2.2.2 (x.toNatClampNeg) (by omega)).1) dX10_as_32 ?_
      refine lv_iload_n hx hb dX10_as_33 rfl (lv_at hl 2 rfl) ?_
      refine rn_lt (x := T 0 (x.toNatClampNeg)) (y := w.toNatClampNeg) (tgt := 41) hx hb (by omega) (by omega) dX10_as_34 (by decide) (fun c_11 => ?_) (fun c_11 => ?_)
      · refine lv_aload_n hx hb dX10_as_41 rfl (lv_at hl 0 rfl) ?_
        refine lv_iconst (v := (nI 2)) hx hb dX10_as_42 rfl ?_
        refine wVi e0_S (As := [.int (nI 2)]) (rest := []) ⟨hx, hb, hml, hown, hts⟩ (kX10_fails l D cA r _ (upd u 0 (nI 0)) a (nI 2)) (cwV 1 hts gX10_as_X10_fails rfl rfl rfl (by decide +kernel) ⟨Nat.le_of_ble_eq_true rfl, Nat.le_of_ble_eq_true rfl⟩) (va_recv hK hP (ci := 10) (q0 := 0) rfl rfl) hK hP hD hS hA hE rfl hl.1 rfl (Nat.le_of_ble_eq_true rfl) dX10_as_43 ⟨Nat.zero_le _, Nat.zero_le _⟩ (fun rv_12 z_14 H locs hw_13 hP hD hS => ?_)
        obtain ⟨rfl, rfl⟩ := hw_13
        have hP : va_P D vwCl (xM cA r ((upd u 0 (nI 2)), a)) H := hP
        have hD : va_D A (xM cA r ((upd u 0 (nI 2)), a)) := hD
        exact wIret hx hb hr hlocks (v := ((-10) - (nI 2))) ((upd u 0 (nI 2)), a) (⟨by unfold aAs; rw [cif_pos b_5, cif_pos b_9, cif_neg (by omega)]; decide, by unfold fAs; rw [cif_pos b_5, cif_pos b_9, cif_neg (by omega)]; exact (MI.keep hI rfl htr rfl rfl rfl rfl rfl rfl rfl rfl rfl rfl rfl rfl rfl rfl rfl)⟩) hK hP hD hS dX10_as_46
      · refine lv_iconst (v := (nI 1)) hx hb dX10_as_37 rfl ?_
        refine lv_goto (tgt := 46) hx hb dX10_as_38 (by decide) ?_
        exact wIret hx hb hr hlocks (v := (nI 1)) ((upd u 0 (nI 0)), a) (⟨by unfold aAs; rw [cif_pos b_5, cif_pos b_9, cif_pos (by omega)], by unfold fAs; rw [cif_pos b_5, cif_pos b_9, cif_pos (by omega)]; exact (MI.keep hI rfl htr rfl rfl rfl rfl rfl rfl rfl rfl rfl rfl rfl rfl rfl rfl rfl)⟩) hK hP hD hS dX10_as_46
    · refine lv_if_ne (tgt := 27) hx hb dX10_as_21 (by decide) (fun c_15 => absurd c_15 (by decide)) (fun _ => ?_)
      refine lv_bipush (v := (-2)) hx hb dX10_as_24 (by decide) ?_
      exact wIret hx hb hr hlocks (v := (-2)) ((upd u 0 (nI 0)), a) (⟨by unfold aAs; rw [cif_pos b_5, cif_neg b_9], by unfold fAs; rw [cif_pos b_5, cif_neg b_9]; exact (MI.keep hI rfl htr rfl rfl rfl rfl rfl rfl rfl rfl rfl rfl rfl rfl rfl rfl rfl)⟩) hK hP hD hS dX10_as_26
  · refine lv_if_ne (tgt := 15) hx hb dX10_as_10 (by decide) (fun c_16 => absurd c_16 (by decide)) (fun _ => ?_)
    refine lv_iconst (v := (-1)) hx hb dX10_as_13 (by decide) ?_
    exact wIret hx hb hr hlocks (v := (-1)) ((upd u 0 (nI 0)), a) (⟨by unfold aAs; rw [cif_neg b_5], by unfold fAs; rw [cif_neg b_5]; exact (MI.keep hI rfl htr rfl rfl rfl rfl rfl rfl rfl rfl rfl rfl rfl rfl rfl rfl rfl)⟩) hK hP hD hS dX10_as_14

set_option maxHeartbeats 4000000 in
set_option maxRecDepth 100000 in
theorem kX10_tell (l : Launch) (D : va_G) (cA : Nat → ClassId) (r : Nat → Nat) (sz : Nat) (u : Nat → Int32) (a : Nat → Nat → Int32) (g : Nat → Nat) (T : Nat → Nat → Nat) (R : Nat → Nat → Nat) (so : Nat → Int32) (ln : Nat → Nat) (ce : Nat → Nat → Int32) (f tr : Int32) (x : Int32) (hI : MI u a g T R so ln ce f tr) : Met l yX10_tell wsX10_tell ({ frames := 1, cells := 0, slots := 0, locals := 21 } : Room) (va_Pc [.ref (r 0), .int x] (wA D vwCl (tyA cA) e0 (xM cA r) (u, a) sz)) (va_Qi (fun (v : Int32) (z : sM) => v = aTell g T x ∧ MI z.1 z.2 g T R so ln ce f (tTell g T tr x)) (wB D vwCl (tyA cA) (xM cA r) (va_A (xM cA r (u, a)) sz)) (va_A (xM cA r (u, a)) sz)) 0 0 (va_A (xM cA r (u, a)) sz) := by
  refine Met.ofW (cc := cX10_tell) (maxL := 3) (ret := (some .int)) (by decide) rfl ?_
  intro p e s m args below meth c s₁ B hml hv
  obtain ⟨rfl, hsz, hP, hK, hD0, hE⟩ := hv
  have hx := B.exec
  have hb := B.bytes
  have hr := B.returns
  have hts := atoms_spec (ws := wsX10_tell) B.pre
  have hown : s.vm.findClass RX10 = some m.cls := findClass_of_methodNamed B.named
  have hlocks := B.notSynchronized
  subst hsz
  have hD := hD0.self (sz := s.heap.size)
  generalize hAe : va_A (xM cA r (u, a)) s.heap.size = A at hD hE ⊢
  have hA : ∀ q : Nat, s.heap.size ≤ q → A q := fun q h => by rw [← hAe]; exact Or.inr h
  have hS : va_S A s.heap s.heap [] := va_S.rf
  have hinX10 : ∀ w ∈ u_ws RX10 TX10 34, w ∈ wsX10_tell := by decide +kernel
  have hl := lv_entry ([.ref (r 0), .int x]) (n := 3) (Nat.le_of_ble_eq_true rfl)
  rw [lg_entry_eq]
  generalize (lg_sl ([.ref (r 0), .int x]) ++ List.replicate (3 - (lg_sl ([.ref (r 0), .int x])).length) Slot.unset).toArray = ls at hl ⊢
  have hl : lv_has ls 3 [(0, .ref (r 0)), (1, .int x)] := hl
  have hM := hI.1
  have hB := hI.2.1
  have hg6 := hB.1
  have hRd := hI.2.2.1
  have hSh := hI.2.2.2.1
  have hf0 := hI.2.2.2.2.1
  have htr := hI.2.2.2.2.2
  refine lv_aload_n hx hb dX10_tell_0 rfl (lv_at hl 0 rfl) ?_
  refine lv_iload_n hx hb dX10_tell_1 rfl (lv_at hl 1 rfl) ?_
  refine wVi e0_S (As := [.int x]) (rest := []) ⟨hx, hb, hml, hown, hts⟩ (kX10_isThing l D cA r _ u a g T x hM hB) (cwV 1 hts gX10_tell_X10_isThing rfl rfl rfl (by decide +kernel) ⟨Nat.le_of_ble_eq_true rfl, Nat.le_of_ble_eq_true rfl⟩) (va_recv hK hP (ci := 10) (q0 := 0) rfl rfl) hK hP hD hS hA hE rfl hl.1 rfl (Nat.le_of_ble_eq_true rfl) dX10_tell_2 ⟨Nat.zero_le _, Nat.zero_le _⟩ (fun rv_1 z_3 H locs hw_2 hP hD hS => ?_)
  obtain ⟨hz_4, hw_2⟩ := hw_2
  subst hz_4
  have hP : va_P D vwCl (xM cA r (u, a)) H := hP
  have hD : va_D A (xM cA r (u, a)) := hD
  rcases hw_2 with ⟨rfl, b_5⟩ | ⟨rfl, b_5⟩
  · have hxt := isT_of b_5 hg6
    have hTx := hB.2.2.2 _ hxt.2
    have hl : lv_has ls 3 [(0, .ref (r 0)), (1, .int (nI (x.toNatClampNeg)))] := lv_re hl 1 ⟨rfl, rfl⟩ (hxt.1)
    refine lv_if_ne (tgt := 10) hx hb dX10_tell_5 (by decide) (fun _ => ?_) (fun c_6 => absurd c_6 (by decide))
    refine lv_aload_n hx hb dX10_tell_10 rfl (lv_at hl 0 rfl) ?_
    refine va_get (D := D) (ci := 10) (v := .ref (r 11)) (C := RX10) (T := TX10) (N := 34) hx hb hts hinX10 hown hK hP 0 rfl rfl 11 (by decide) (hts (.fieldLink RX10 28 "OneNailModel" "hold" "[I") (by decide +kernel)) (fun _ h9 => h9) rfl dX10_tell_11 ?_
    refine lv_iload_n hx hb dX10_tell_14 rfl (lv_at hl 1 rfl) ?_
    refine ra_iald hx hb hK hP 7 0 (n := 6) (f := (a 11)) (j := x.toNatClampNeg) (v := (nI (T 3 (x.toNatClampNeg)))) rfl rfl (by omega) (by decide) ((hM.2.2.2 (x.toNatClampNeg) (by omega)).2.2.2.1) dX10_tell_15 ?_
    refine lv_istore_n (lv' := [(2, .int (nI (T 3 (x.toNatClampNeg)))), (0, .ref (r 0)), (1, .int (nI (x.toNatClampNeg)))]) hx hb dX10_tell_16 rfl hl (by decide) rfl (fun ls hl => ?_)
    refine lv_aload_n hx hb dX10_tell_17 rfl (lv_at hl 1 rfl) ?_
    refine va_get (D := D) (ci := 10) (v := .ref (r 8)) (C := RX10) (T := TX10) (N := 34) hx hb hts hinX10 hown hK hP 0 rfl rfl 8 (by decide) (hts (.fieldLink RX10 19 "OneNailModel" "kind" "[I") (by decide +kernel)) (fun _ h9 => h9) rfl dX10_tell_18 ?_
    refine lv_iload_n hx hb dX10_tell_21 rfl (lv_at hl 2 rfl) ?_
    refine ra_iald hx hb hK hP 4 0 (n := 6) (f := (a 8)) (j := x.toNatClampNeg) (v := (nI (T 0 (x.toNatClampNeg)))) rfl rfl (by omega) (by decide) ((hM.2.2.2 (x.toNatClampNeg) (by omega)).1) dX10_tell_22 ?_
    rcases (show T 0 x.toNatClampNeg = 0 ∨ T 0 x.toNatClampNeg = 1 ∨ T 0 x.toNatClampNeg = 2 by omega) with hk7 | hk7 | hk7
    · refine lv_topi (fun y_7 ey_7 => ?_)
      obtain rfl : y_7 = (nI 0) := ey_7.trans (congrArg nI hk7)
      refine lv_lookup (off := 67) (tgt := 90) hx hb dX10_tell_23 (by decide) (by decide) (by decide) ?_
      refine lv_aload_n hx hb dX10_tell_90 rfl (lv_at hl 1 rfl) ?_
      refine lv_iconst (v := (nI 1)) hx hb dX10_tell_91 rfl ?_
      refine wVv e0_S (As := [.int (nI 1)]) (rest := []) ⟨hx, hb, hml, hown, hts⟩ (kX10_begins l D cA r _ u a 1) (cwV 1 hts gX10_tell_X10_begins rfl rfl rfl (by decide +kernel) ⟨Nat.le_of_ble_eq_true rfl, Nat.le_of_ble_eq_true rfl⟩) (va_recv hK hP (ci := 10) (q0 := 0) rfl rfl) hK hP hD hS hA hE rfl hl.1 rfl (Nat.le_of_ble_eq_true rfl) dX10_tell_92 ⟨Nat.zero_le _, Nat.zero_le _⟩ (fun z_10 H locs hw_9 hP hD hS => ?_)
      obtain rfl := hw_9
      have hP : va_P D vwCl (xM cA r ((upd u 1 (bg (u 1) 1)), a)) H := hP
      have hD : va_D A (xM cA r ((upd u 1 (bg (u 1) 1)), a)) := hD
      refine lv_iload_n hx hb dX10_tell_95 rfl (lv_at hl 0 rfl) ?_
      exact wIret hx hb hr hlocks (v := (nI (T 3 (x.toNatClampNeg)))) ((upd u 1 (bg (u 1) 1)), a) (⟨by unfold aTell; rw [cif_pos b_5, cif_neg (by omega), cif_neg (by omega)], by unfold tTell; rw [cif_pos b_5, cif_neg (by omega), cif_neg (by omega)]; exact (MI.keep hI hf0 (congrArg (fun z => bg z 1) htr) rfl rfl rfl rfl rfl rfl rfl rfl rfl rfl rfl rfl rfl rfl rfl)⟩) hK hP hD hS dX10_tell_96
    · refine lv_topi (fun y_11 ey_11 => ?_)
      obtain rfl : y_11 = (nI 1) := ey_11.trans (congrArg nI hk7)
      refine lv_lookup (off := 25) (tgt := 48) hx hb dX10_tell_23 (by decide) (by decide) (by decide) ?_
      refine lv_aload_n hx hb dX10_tell_48 rfl (lv_at hl 1 rfl) ?_
      refine lv_iconst (v := (nI 2)) hx hb dX10_tell_49 rfl ?_
      refine wVv e0_S (As := [.int (nI 2)]) (rest := []) ⟨hx, hb, hml, hown, hts⟩ (kX10_begins l D cA r _ u a 2) (cwV 1 hts gX10_tell_X10_begins rfl rfl rfl (by decide +kernel) ⟨Nat.le_of_ble_eq_true rfl, Nat.le_of_ble_eq_true rfl⟩) (va_recv hK hP (ci := 10) (q0 := 0) rfl rfl) hK hP hD hS hA hE rfl hl.1 rfl (Nat.le_of_ble_eq_true rfl) dX10_tell_50 ⟨Nat.zero_le _, Nat.zero_le _⟩ (fun z_14 H locs hw_13 hP hD hS => ?_)
      obtain rfl := hw_13
      have hP : va_P D vwCl (xM cA r ((upd u 1 (bg (u 1) 2)), a)) H := hP
      have hD : va_D A (xM cA r ((upd u 1 (bg (u 1) 2)), a)) := hD
      refine lv_aload_n hx hb dX10_tell_53 rfl (lv_at hl 1 rfl) ?_
      refine lv_iconst (v := (nI 1)) hx hb dX10_tell_54 rfl ?_
      refine wVv e0_S (As := [.int (nI 1)]) (rest := []) ⟨hx, hb, hml, hown, hts⟩ (kX10_begins l D cA r _ (upd u 1 (bg (u 1) 2)) a 1) (cwV 1 hts gX10_tell_X10_begins rfl rfl rfl (by decide +kernel) ⟨Nat.le_of_ble_eq_true rfl, Nat.le_of_ble_eq_true rfl⟩) (va_recv hK hP (ci := 10) (q0 := 0) rfl rfl) hK hP hD hS hA hE rfl hl.1 rfl (Nat.le_of_ble_eq_true rfl) dX10_tell_55 ⟨Nat.zero_le _, Nat.zero_le _⟩ (fun z_17 H locs hw_16 hP hD hS => ?_)
      obtain rfl := hw_16
      have hP : va_P D vwCl (xM cA r ((upd u 1 (bg (bg (u 1) 2) 1)), a)) H := hP
      have hD : va_D A (xM cA r ((upd u 1 (bg (bg (u 1) 2) 1)), a)) := hD
      refine lv_iload_n hx hb dX10_tell_58 rfl (lv_at hl 0 rfl) ?_
      refine lv_bipush (v := (nI 100)) hx hb dX10_tell_59 rfl ?_
      refine rn_iadd (x := T 3 (x.toNatClampNeg)) (y := 100) hx hb dX10_tell_61 ?_
      exact wIret hx hb hr hlocks (v := (nI ((T 3 (x.toNatClampNeg)) + 100))) ((upd u 1 (bg (bg (u 1) 2) 1)), a) (⟨by unfold aTell; rw [cif_pos b_5, cif_pos hk7], by unfold tTell; rw [cif_pos b_5, cif_pos hk7]; exact (MI.keep hI hf0 (congrArg (fun z => bg (bg z 2) 1) htr) rfl rfl rfl rfl rfl rfl rfl rfl rfl rfl rfl rfl rfl rfl rfl)⟩) hK hP hD hS dX10_tell_62
    · refine lv_topi (fun y_18 ey_18 => ?_)
      obtain rfl : y_18 = (nI 2) := ey_18.trans (congrArg nI hk7)
      refine lv_lookup (off := 40) (tgt := 63) hx hb dX10_tell_23 (by decide) (by decide) (by decide) ?_
      refine lv_aload_n hx hb dX10_tell_63 rfl (lv_at hl 1 rfl) ?_
      refine lv_iconst (v := (nI 3)) hx hb dX10_tell_64 rfl ?_
      refine wVv e0_S (As := [.int (nI 3)]) (rest := []) ⟨hx, hb, hml, hown, hts⟩ (kX10_begins l D cA r _ u a 3) (cwV 1 hts gX10_tell_X10_begins rfl rfl rfl (by decide +kernel) ⟨Nat.le_of_ble_eq_true rfl, Nat.le_of_ble_eq_true rfl⟩) (va_recv hK hP (ci := 10) (q0 := 0) rfl rfl) hK hP hD hS hA hE rfl hl.1 rfl (Nat.le_of_ble_eq_true rfl) dX10_tell_65 ⟨Nat.zero_le _, Nat.zero_le _⟩ (fun z_21 H locs hw_20 hP hD hS => ?_)
      obtain rfl := hw_20
      have hP : va_P D vwCl (xM cA r ((upd u 1 (bg (u 1) 3)), a)) H := hP
      have hD : va_D A (xM cA r ((upd u 1 (bg (u 1) 3)), a)) := hD
      refine lv_aload_n hx hb dX10_tell_68 rfl (lv_at hl 1 rfl) ?_
      refine lv_iconst (v := (nI 2)) hx hb dX10_tell_69 rfl ?_
      refine wVv e0_S (As := [.int (nI 2)]) (rest := []) ⟨hx, hb, hml, hown, hts⟩ (kX10_begins l D cA r _ (upd u 1 (bg (u 1) 3)) a 2) (cwV 1 hts gX10_tell_X10_begins rfl rfl rfl (by decide +kernel) ⟨Nat.le_of_ble_eq_true rfl, Nat.le_of_ble_eq_true rfl⟩) (va_recv hK hP (ci := 10) (q0 := 0) rfl rfl) hK hP hD hS hA hE rfl hl.1 rfl (Nat.le_of_ble_eq_true rfl) dX10_tell_70 ⟨Nat.zero_le _, Nat.zero_le _⟩ (fun z_24 H locs hw_23 hP hD hS => ?_)
      obtain rfl := hw_23
      have hP : va_P D vwCl (xM cA r ((upd u 1 (bg (bg (u 1) 3) 2)), a)) H := hP
      have hD : va_D A (xM cA r ((upd u 1 (bg (bg (u 1) 3) 2)), a)) := hD
      refine lv_aload_n hx hb dX10_tell_73 rfl (lv_at hl 1 rfl) ?_
      refine lv_iconst (v := (nI 1)) hx hb dX10_tell_74 rfl ?_
      refine wVv e0_S (As := [.int (nI 1)]) (rest := []) ⟨hx, hb, hml, hown, hts⟩ (kX10_begins l D cA r _ (upd u 1 (bg (bg (u 1) 3) 2)) a 1) (cwV 1 hts gX10_tell_X10_begins rfl rfl rfl (by decide +kernel) ⟨Nat.le_of_ble_eq_true rfl, Nat.le_of_ble_eq_true rfl⟩) (va_recv hK hP (ci := 10) (q0 := 0) rfl rfl) hK hP hD hS hA hE rfl hl.1 rfl (Nat.le_of_ble_eq_true rfl) dX10_tell_75 ⟨Nat.zero_le _, Nat.zero_le _⟩ (fun z_27 H locs hw_26 hP hD hS => ?_)
      obtain rfl := hw_26
      have hP : va_P D vwCl (xM cA r ((upd u 1 (bg (bg (bg (u 1) 3) 2) 1)), a)) H := hP
      have hD : va_D A (xM cA r ((upd u 1 (bg (bg (bg (u 1) 3) 2) 1)), a)) := hD
      refine lv_aload_n hx hb dX10_tell_78 rfl (lv_at hl 1 rfl) ?_
      refine lv_iconst (v := (nI 1)) hx hb dX10_tell_79 rfl ?_
      refine wVv e0_S (As := [.int (nI 1)]) (rest := []) ⟨hx, hb, hml, hown, hts⟩ (kX10_begins l D cA r _ (upd u 1 (bg (bg (bg (u 1) 3) 2) 1)) a 1) (cwV 1 hts gX10_tell_X10_begins rfl rfl rfl (by decide +kernel) ⟨Nat.le_of_ble_eq_true rfl, Nat.le_of_ble_eq_true rfl⟩) (va_recv hK hP (ci := 10) (q0 := 0) rfl rfl) hK hP hD hS hA hE rfl hl.1 rfl (Nat.le_of_ble_eq_true rfl) dX10_tell_80 ⟨Nat.zero_le _, Nat.zero_le _⟩ (fun z_30 H locs hw_29 hP hD hS => ?_)
      obtain rfl := hw_29
      have hP : va_P D vwCl (xM cA r ((upd u 1 (bg (bg (bg (bg (u 1) 3) 2) 1) 1)), a)) H := hP
      have hD : va_D A (xM cA r ((upd u 1 (bg (bg (bg (bg (u 1) 3) 2) 1) 1)), a)) := hD
      refine lv_iconst (v := (nI 2)) hx hb dX10_tell_83 rfl ?_
      refine lv_iload_n hx hb dX10_tell_84 rfl (lv_at hl 0 rfl) ?_
      refine rn_imul (x := 2) (y := T 3 (x.toNatClampNeg)) hx hb dX10_tell_85 ?_
      refine lv_bipush (v := (nI 100)) hx hb dX10_tell_86 rfl ?_
      refine rn_iadd (x := 2 * (T 3 (x.toNatClampNeg))) (y := 100) hx hb dX10_tell_88 ?_
      exact wIret hx hb hr hlocks (v := (nI ((2 * (T 3 (x.toNatClampNeg))) + 100))) ((upd u 1 (bg (bg (bg (bg (u 1) 3) 2) 1) 1)), a) (⟨by unfold aTell; rw [cif_pos b_5, cif_neg (by omega), cif_pos hk7], by unfold tTell; rw [cif_pos b_5, cif_neg (by omega), cif_pos hk7]; exact (MI.keep hI hf0 (congrArg (fun z => bg (bg (bg (bg z 3) 2) 1) 1) htr) rfl rfl rfl rfl rfl rfl rfl rfl rfl rfl rfl rfl rfl rfl rfl)⟩) hK hP hD hS dX10_tell_89
  · refine lv_if_ne (tgt := 10) hx hb dX10_tell_5 (by decide) (fun c_31 => absurd c_31 (by decide)) (fun _ => ?_)
    refine lv_iconst (v := (-1)) hx hb dX10_tell_8 (by decide) ?_
    exact wIret hx hb hr hlocks (v := (-1)) (u, a) (⟨by unfold aTell; rw [cif_neg b_5], by unfold tTell; rw [cif_neg b_5]; exact hI⟩) hK hP hD hS dX10_tell_9

set_option maxHeartbeats 4000000 in
set_option maxRecDepth 100000 in
theorem kX10_ofThing (l : Launch) (D : va_G) (cA : Nat → ClassId) (r : Nat → Nat) (sz : Nat) (u : Nat → Int32) (a : Nat → Nat → Int32) (g : Nat → Nat) (T : Nat → Nat → Nat) (R : Nat → Nat → Nat) (so : Nat → Int32) (ln : Nat → Nat) (ce : Nat → Nat → Int32) (f tr : Int32) (x w : Int32) (hI : MI u a g T R so ln ce f tr) : Met l yX10_ofThing wsX10_ofThing ({ frames := 1, cells := 0, slots := 0, locals := 22 } : Room) (va_Pc [.ref (r 0), .int x, .int w] (wA D vwCl (tyA cA) e0 (xM cA r) (u, a) sz)) (va_Qi (fun (v : Int32) (z : sM) => v = aOf g T x w ∧ MI z.1 z.2 g T R so ln ce f tr) (wB D vwCl (tyA cA) (xM cA r) (va_A (xM cA r (u, a)) sz)) (va_A (xM cA r (u, a)) sz)) 0 0 (va_A (xM cA r (u, a)) sz) := by
  refine Met.ofW (cc := cX10_ofThing) (maxL := 3) (ret := (some .int)) (by decide) rfl ?_
  intro p e s m args below meth c s₁ B hml hv
  obtain ⟨rfl, hsz, hP, hK, hD0, hE⟩ := hv
  have hx := B.exec
  have hb := B.bytes
  have hr := B.returns
  have hts := atoms_spec (ws := wsX10_ofThing) B.pre
  have hown : s.vm.findClass RX10 = some m.cls := findClass_of_methodNamed B.named
  have hlocks := B.notSynchronized
  subst hsz
  have hD := hD0.self (sz := s.heap.size)
  generalize hAe : va_A (xM cA r (u, a)) s.heap.size = A at hD hE ⊢
  have hA : ∀ q : Nat, s.heap.size ≤ q → A q := fun q h => by rw [← hAe]; exact Or.inr h
  have hS : va_S A s.heap s.heap [] := va_S.rf
  have hinX10 : ∀ w ∈ u_ws RX10 TX10 34, w ∈ wsX10_ofThing := by decide +kernel
  have hl := lv_entry ([.ref (r 0), .int x, .int w]) (n := 3) (Nat.le_of_ble_eq_true rfl)
  rw [lg_entry_eq]
  generalize (lg_sl ([.ref (r 0), .int x, .int w]) ++ List.replicate (3 - (lg_sl ([.ref (r 0), .int x, .int w])).length) Slot.unset).toArray = ls at hl ⊢
  have hl : lv_has ls 3 [(0, .ref (r 0)), (1, .int x), (2, .int w)] := hl
  have hM := hI.1
  have hB := hI.2.1
  have hg6 := hB.1
  have hRd := hI.2.2.1
  have hSh := hI.2.2.2.1
  have hf0 := hI.2.2.2.2.1
  have htr := hI.2.2.2.2.2
  refine lv_aload_n hx hb dX10_ofThing_0 rfl (lv_at hl 0 rfl) ?_
  refine lv_iload_n hx hb dX10_ofThing_1 rfl (lv_at hl 1 rfl) ?_
  refine wVi e0_S (As := [.int x]) (rest := []) ⟨hx, hb, hml, hown, hts⟩ (kX10_isThing l D cA r _ u a g T x hM hB) (cwV 1 hts gX10_ofThing_X10_isThing rfl rfl rfl (by decide +kernel) ⟨Nat.le_of_ble_eq_true rfl, Nat.le_of_ble_eq_true rfl⟩) (va_recv hK hP (ci := 10) (q0 := 0) rfl rfl) hK hP hD hS hA hE rfl hl.1 rfl (Nat.le_of_ble_eq_true rfl) dX10_ofThing_2 ⟨Nat.zero_le _, Nat.zero_le _⟩ (fun rv_1 z_3 H locs hw_2 hP hD hS => ?_)
  obtain ⟨hz_4, hw_2⟩ := hw_2
  subst hz_4
  have hP : va_P D vwCl (xM cA r (u, a)) H := hP
  have hD : va_D A (xM cA r (u, a)) := hD
  rcases hw_2 with ⟨rfl, b_5⟩ | ⟨rfl, b_5⟩
  · have hxt := isT_of b_5 hg6
    have hTx := hB.2.2.2 _ hxt.2
    have hl : lv_has ls 3 [(0, .ref (r 0)), (1, .int (nI (x.toNatClampNeg))), (2, .int w)] := lv_re hl 1 ⟨rfl, rfl⟩ (hxt.1)
    refine lv_if_ne (tgt := 10) hx hb dX10_ofThing_5 (by decide) (fun _ => ?_) (fun c_6 => absurd c_6 (by decide))
    refine lv_iload_n hx hb dX10_ofThing_10 rfl (lv_at hl 2 rfl) ?_
    by_cases hw0 : w = nI 0
    · refine lv_topi (fun y_7 ey_7 => ?_)
      obtain rfl : y_7 = (nI 0) := ey_7.trans (hw0)
      refine lv_tableIn (off := 37) (tgt := 48) hx hb dX10_ofThing_11 (by decide) (by decide) (by decide) (by decide) ?_
      refine lv_aload_n hx hb dX10_ofThing_48 rfl (lv_at hl 0 rfl) ?_
      refine va_get (D := D) (ci := 10) (v := .ref (r 8)) (C := RX10) (T := TX10) (N := 34) hx hb hts hinX10 hown hK hP 0 rfl rfl 8 (by decide) (hts (.fieldLink RX10 19 "OneNailModel" "kind" "[I") (by decide +kernel)) (fun _ h9 => h9) rfl dX10_ofThing_49 ?_
      refine lv_iload_n hx hb dX10_ofThing_52 rfl (lv_at hl 1 rfl) ?_
      refine ra_iald hx hb hK hP 4 0 (n := 6) (f := (a 8)) (j := x.toNatClampNeg) (v := (nI (T 0 (x.toNatClampNeg)))) rfl rfl (by omega) (by decide) ((hM.2.2.2 (x.toNatClampNeg) (by omega)).1) dX10_ofThing_53 ?_
      exact wIret hx hb hr hlocks (v := (nI (T 0 (x.toNatClampNeg)))) (u, a) (⟨by unfold aOf; rw [cif_pos b_5, cif_pos hw0], hI⟩) hK hP hD hS dX10_ofThing_54
    by_cases hw1 : w = nI 1
    · refine lv_topi (fun y_8 ey_8 => ?_)
      obtain rfl : y_8 = (nI 1) := ey_8.trans (hw1)
      refine lv_tableIn (off := 44) (tgt := 55) hx hb dX10_ofThing_11 (by decide) (by decide) (by decide) (by decide) ?_
      refine lv_aload_n hx hb dX10_ofThing_55 rfl (lv_at hl 0 rfl) ?_
      refine va_get (D := D) (ci := 10) (v := .ref (r 9)) (C := RX10) (T := TX10) (N := 34) hx hb hts hinX10 hown hK hP 0 rfl rfl 9 (by decide) (hts (.fieldLink RX10 22 "OneNailModel" "place" "[I") (by decide +kernel)) (fun _ h9 => h9) rfl dX10_ofThing_56 ?_
      refine lv_iload_n hx hb dX10_ofThing_59 rfl (lv_at hl 1 rfl) ?_
      refine ra_iald hx hb hK hP 5 0 (n := 6) (f := (a 9)) (j := x.toNatClampNeg) (v := (nI (T 1 (x.toNatClampNeg)))) rfl rfl (by omega) (by decide) ((hM.2.2.2 (x.toNatClampNeg) (by omega)).2.1) dX10_ofThing_60 ?_
      exact wIret hx hb hr hlocks (v := (nI (T 1 (x.toNatClampNeg)))) (u, a) (⟨by unfold aOf; rw [cif_pos b_5, cif_neg hw0, cif_pos hw1], hI⟩) hK hP hD hS dX10_ofThing_61
    by_cases hw2 : w = nI 2
    · refine lv_topi (fun y_9 ey_9 => ?_)
      obtain rfl : y_9 = (nI 2) := ey_9.trans (hw2)
      refine lv_tableIn (off := 51) (tgt := 62) hx hb dX10_ofThing_11 (by decide) (by decide) (by decide) (by decide) ?_
      refine lv_aload_n hx hb dX10_ofThing_62 rfl (lv_at hl 0 rfl) ?_
      refine va_get (D := D) (ci := 10) (v := .ref (r 10)) (C := RX10) (T := TX10) (N := 34) hx hb hts hinX10 hown hK hP 0 rfl rfl 10 (by decide) (hts (.fieldLink RX10 25 "OneNailModel" "stays" "[I") (by decide +kernel)) (fun _ h9 => h9) rfl dX10_ofThing_63 ?_
      refine lv_iload_n hx hb dX10_ofThing_66 rfl (lv_at hl 1 rfl) ?_
      refine ra_iald hx hb hK hP 6 0 (n := 6) (f := (a 10)) (j := x.toNatClampNeg) (v := (nI (T 2 (x.toNatClampNeg)))) rfl rfl (by omega) (by decide) ((hM.2.2.2 (x.toNatClampNeg) (by omega)).2.2.1) dX10_ofThing_67 ?_
      exact wIret hx hb hr hlocks (v := (nI (T 2 (x.toNatClampNeg)))) (u, a) (⟨by unfold aOf; rw [cif_pos b_5, cif_neg hw0, cif_neg hw1, cif_pos hw2], hI⟩) hK hP hD hS dX10_ofThing_68
    by_cases hw3 : w = nI 3
    · refine lv_topi (fun y_10 ey_10 => ?_)
      obtain rfl : y_10 = (nI 3) := ey_10.trans (hw3)
      refine lv_tableIn (off := 58) (tgt := 69) hx hb dX10_ofThing_11 (by decide) (by decide) (by decide) (by decide) ?_
      refine lv_aload_n hx hb dX10_ofThing_69 rfl (lv_at hl 0 rfl) ?_
      refine va_get (D := D) (ci := 10) (v := .ref (r 11)) (C := RX10) (T := TX10) (N := 34) hx hb hts hinX10 hown hK hP 0 rfl rfl 11 (by decide) (hts (.fieldLink RX10 28 "OneNailModel" "hold" "[I") (by decide +kernel)) (fun _ h9 => h9) rfl dX10_ofThing_70 ?_
      refine lv_iload_n hx hb dX10_ofThing_73 rfl (lv_at hl 1 rfl) ?_
      refine ra_iald hx hb hK hP 7 0 (n := 6) (f := (a 11)) (j := x.toNatClampNeg) (v := (nI (T 3 (x.toNatClampNeg)))) rfl rfl (by omega) (by decide) ((hM.2.2.2 (x.toNatClampNeg) (by omega)).2.2.2.1) dX10_ofThing_74 ?_
      exact wIret hx hb hr hlocks (v := (nI (T 3 (x.toNatClampNeg)))) (u, a) (⟨by unfold aOf; rw [cif_pos b_5, cif_neg hw0, cif_neg hw1, cif_neg hw2, cif_pos hw3], hI⟩) hK hP hD hS dX10_ofThing_75
    by_cases hw4 : w = nI 4
    · refine lv_topi (fun y_11 ey_11 => ?_)
      obtain rfl : y_11 = (nI 4) := ey_11.trans (hw4)
      refine lv_tableIn (off := 65) (tgt := 76) hx hb dX10_ofThing_11 (by decide) (by decide) (by decide) (by decide) ?_
      refine lv_aload_n hx hb dX10_ofThing_76 rfl (lv_at hl 0 rfl) ?_
      refine va_get (D := D) (ci := 10) (v := .ref (r 12)) (C := RX10) (T := TX10) (N := 34) hx hb hts hinX10 hown hK hP 0 rfl rfl 12 (by decide) (hts (.fieldLink RX10 31 "OneNailModel" "harms" "[I") (by decide +kernel)) (fun _ h9 => h9) rfl dX10_ofThing_77 ?_
      refine lv_iload_n hx hb dX10_ofThing_80 rfl (lv_at hl 1 rfl) ?_
      refine ra_iald hx hb hK hP 8 0 (n := 6) (f := (a 12)) (j := x.toNatClampNeg) (v := (nI (T 4 (x.toNatClampNeg)))) rfl rfl (by omega) (by decide) ((hM.2.2.2 (x.toNatClampNeg) (by omega)).2.2.2.2) dX10_ofThing_81 ?_
      exact wIret hx hb hr hlocks (v := (nI (T 4 (x.toNatClampNeg)))) (u, a) (⟨by unfold aOf; rw [cif_pos b_5, cif_neg hw0, cif_neg hw1, cif_neg hw2, cif_neg hw3, cif_pos hw4], hI⟩) hK hP hD hS dX10_ofThing_82
    by_cases hw5 : w = nI 5
    · refine lv_topi (fun y_12 ey_12 => ?_)
      obtain rfl : y_12 = (nI 5) := ey_12.trans (hw5)
      refine lv_tableIn (off := 72) (tgt := 83) hx hb dX10_ofThing_11 (by decide) (by decide) (by decide) (by decide) ?_
      refine lv_aload_n hx hb dX10_ofThing_83 rfl (lv_at hl 0 rfl) ?_
      refine lv_iload_n hx hb dX10_ofThing_84 rfl (lv_at hl 1 rfl) ?_
      refine wVi e0_S (As := [.int (nI (x.toNatClampNeg))]) (rest := []) ⟨hx, hb, hml, hown, hts⟩ (kX10_holds l D cA r _ u a g T (x.toNatClampNeg) hM hB (by omega)) (cwV 1 hts gX10_ofThing_X10_holds rfl rfl rfl (by decide +kernel) ⟨Nat.le_of_ble_eq_true rfl, Nat.le_of_ble_eq_true rfl⟩) (va_recv hK hP (ci := 10) (q0 := 0) rfl rfl) hK hP hD hS hA hE rfl hl.1 rfl (Nat.le_of_ble_eq_true rfl) dX10_ofThing_85 ⟨Nat.zero_le _, Nat.zero_le _⟩ (fun rv_13 z_15 H locs hw_14 hP hD hS => ?_)
      obtain ⟨rfl, rfl⟩ := hw_14
      have hP : va_P D vwCl (xM cA r (u, a)) H := hP
      have hD : va_D A (xM cA r (u, a)) := hD
      exact wIret hx hb hr hlocks (v := (nI (hd g T (x.toNatClampNeg)))) (u, a) (⟨by unfold aOf; rw [cif_pos b_5, cif_neg hw0, cif_neg hw1, cif_neg hw2, cif_neg hw3, cif_neg hw4, cif_pos hw5], hI⟩) hK hP hD hS dX10_ofThing_88
    refine lv_tableOut (tgt := 89) hx hb dX10_ofThing_11 (sw_out hw0 hw1 hw2 hw3 hw4 hw5) (by decide) ?_
    refine lv_bipush (v := (-2)) hx hb dX10_ofThing_89 (by decide) ?_
    exact wIret hx hb hr hlocks (v := (-2)) (u, a) (⟨by unfold aOf; rw [cif_pos b_5, cif_neg hw0, cif_neg hw1, cif_neg hw2, cif_neg hw3, cif_neg hw4, cif_neg hw5], hI⟩) hK hP hD hS dX10_ofThing_91
  · refine lv_if_ne (tgt := 10) hx hb dX10_ofThing_5 (by decide) (fun c_16 => absurd c_16 (by decide)) (fun _ => ?_)
    refine lv_iconst (v := (-1)) hx hb dX10_ofThing_8 (by decide) ?_
    exact wIret hx hb hr hlocks (v := (-1)) (u, a) (⟨by unfold aOf; rw [cif_neg b_5], hI⟩) hK hP hD hS dX10_ofThing_9
