set_option maxHeartbeats 4000000 in
set_option maxRecDepth 100000 in
theorem kX10_against (l : Launch) (D : va_G) (cA : Nat → ClassId) (r : Nat → Nat) (sz : Nat) (u : Nat → Int32) (a : Nat → Nat → Int32) (k : Nat) (so i n : Int32) (hk : k < 4) : Met l yX10_against wsX10_against ({ frames := 0, cells := 0, slots := 0, locals := 0 } : Room) (va_Pc [.ref (r 0), .int (nI k), .int so, .int i, .int n] (wA D vwCl (tyA cA) e0 (xM cA r) (u, a) sz)) (va_Qi (fun (v : Int32) (z : sM) => v = ag (a 2 k) (a 3 k) so i n ∧ z = (u, a)) (wB D vwCl (tyA cA) (xM cA r) (va_A (xM cA r (u, a)) sz)) (va_A (xM cA r (u, a)) sz)) 0 0 (va_A (xM cA r (u, a)) sz) := by
  refine Met.ofW (cc := cX10_against) (maxL := 5) (ret := (some .int)) (by decide) rfl ?_
  intro p e s m args below meth c s₁ B hml hv
  obtain ⟨rfl, hsz, hP, hK, hD0, hE⟩ := hv
  have hx := B.exec
  have hb := B.bytes
  have hr := B.returns
  have hts := atoms_spec (ws := wsX10_against) B.pre
  have hown : s.vm.findClass RX10 = some m.cls := findClass_of_methodNamed B.named
  have hlocks := B.notSynchronized
  subst hsz
  have hD := hD0.self (sz := s.heap.size)
  generalize hAe : va_A (xM cA r (u, a)) s.heap.size = A at hD hE ⊢
  have hA : ∀ q : Nat, s.heap.size ≤ q → A q := fun q h => by rw [← hAe]; exact Or.inr h
  have hS : va_S A s.heap s.heap [] := va_S.rf
  have hinX10 : ∀ w ∈ u_ws RX10 TX10 34, w ∈ wsX10_against := by decide +kernel
  have hl := lv_entry ([.ref (r 0), .int (nI k), .int so, .int i, .int n]) (n := 5) (Nat.le_of_ble_eq_true rfl)
  rw [lg_entry_eq]
  generalize (lg_sl ([.ref (r 0), .int (nI k), .int so, .int i, .int n]) ++ List.replicate (5 - (lg_sl ([.ref (r 0), .int (nI k), .int so, .int i, .int n])).length) Slot.unset).toArray = ls at hl ⊢
  have hl : lv_has ls 5 [(0, .ref (r 0)), (1, .int (nI k)), (2, .int so), (3, .int i), (4, .int n)] := hl
  refine lv_aload_n hx hb dX10_against_0 rfl (lv_at hl 0 rfl) ?_
  refine va_get (D := D) (ci := 10) (v := .ref (r 2)) (C := RX10) (T := TX10) (N := 34) hx hb hts hinX10 hown hK hP 0 rfl rfl 2 (by decide) (hts (.fieldLink RX10 9 "OneNailModel" "sorts" "[I") (by decide +kernel)) (fun _ h9 => h9) rfl dX10_against_1 ?_
  refine lv_iload_n hx hb dX10_against_4 rfl (lv_at hl 1 rfl) ?_
  refine ra_iald hx hb hK hP 1 0 (n := 4) (f := (a 2)) (j := k) (v := ((a 2) k)) rfl rfl (by omega) (by decide) (rfl) dX10_against_5 ?_
  refine lv_bipush (v := (-9)) hx hb dX10_against_6 (by decide) ?_
  refine lv_icmp_eq (tgt := 23) hx hb dX10_against_8 (by decide) (fun c_1 => ?_) (fun c_1 => ?_)
  · refine lv_aload_n hx hb dX10_against_23 rfl (lv_at hl 0 rfl) ?_
    refine va_get (D := D) (ci := 10) (v := .ref (r 2)) (C := RX10) (T := TX10) (N := 34) hx hb hts hinX10 hown hK hP 0 rfl rfl 2 (by decide) (hts (.fieldLink RX10 9 "OneNailModel" "sorts" "[I") (by decide +kernel)) (fun _ h9 => h9) rfl dX10_against_24 ?_
    refine lv_iload_n hx hb dX10_against_27 rfl (lv_at hl 1 rfl) ?_
    refine ra_iald hx hb hK hP 1 0 (n := 4) (f := (a 2)) (j := k) (v := ((a 2) k)) rfl rfl (by omega) (by decide) (rfl) dX10_against_28 ?_
    refine lv_bipush (v := (-9)) hx hb dX10_against_29 (by decide) ?_
    refine lv_icmp_ne (tgt := 36) hx hb dX10_against_31 (by decide) (fun c_2 => ?_) (fun c_2 => ?_)
    · refine lv_iload hx hb dX10_against_36 (lv_at hl 4 rfl) ?_
      refine lv_if_ge (tgt := 43) hx hb dX10_against_38 (by decide) (fun c_3 => ?_) (fun c_3 => ?_)
      · refine lv_iload_n hx hb dX10_against_43 rfl (lv_at hl 3 rfl) ?_
        refine lv_if_lt (tgt := 70) hx hb dX10_against_44 (by decide) (fun c_4 => ?_) (fun c_4 => ?_)
        · refine lv_iconst (v := (nI 3)) hx hb dX10_against_70 rfl ?_
          refine lv_goto (tgt := 75) hx hb dX10_against_71 (by decide) ?_
          exact wIret hx hb hr hlocks (v := (nI 3)) (u, a) (⟨by unfold ag; grind, rfl⟩) hK hP hD hS dX10_against_75
        · refine lv_iload_n hx hb dX10_against_47 rfl (lv_at hl 3 rfl) ?_
          refine lv_aload_n hx hb dX10_against_48 rfl (lv_at hl 0 rfl) ?_
          refine va_get (D := D) (ci := 10) (v := .ref (r 3)) (C := RX10) (T := TX10) (N := 34) hx hb hts hinX10 hown hK hP 0 rfl rfl 3 (by decide) (hts (.fieldLink RX10 13 "OneNailModel" "sheetLong" "[I") (by decide +kernel)) (fun _ h9 => h9) rfl dX10_against_49 ?_
          refine lv_iload_n hx hb dX10_against_52 rfl (lv_at hl 1 rfl) ?_
          refine ra_iald hx hb hK hP 2 0 (n := 4) (f := (a 3)) (j := k) (v := ((a 3) k)) rfl rfl (by omega) (by decide) (rfl) dX10_against_53 ?_
          refine lv_icmp_gt (tgt := 70) hx hb dX10_against_54 (by decide) (fun c_5 => ?_) (fun c_5 => ?_)
          · refine lv_iconst (v := (nI 3)) hx hb dX10_against_70 rfl ?_
            refine lv_goto (tgt := 75) hx hb dX10_against_71 (by decide) ?_
            exact wIret hx hb hr hlocks (v := (nI 3)) (u, a) (⟨by unfold ag; grind, rfl⟩) hK hP hD hS dX10_against_75
          · refine lv_iload hx hb dX10_against_57 (lv_at hl 4 rfl) ?_
            refine lv_aload_n hx hb dX10_against_59 rfl (lv_at hl 0 rfl) ?_
            refine va_get (D := D) (ci := 10) (v := .ref (r 3)) (C := RX10) (T := TX10) (N := 34) hx hb hts hinX10 hown hK hP 0 rfl rfl 3 (by decide) (hts (.fieldLink RX10 13 "OneNailModel" "sheetLong" "[I") (by decide +kernel)) (fun _ h9 => h9) rfl dX10_against_60 ?_
            refine lv_iload_n hx hb dX10_against_63 rfl (lv_at hl 1 rfl) ?_
            refine ra_iald hx hb hK hP 2 0 (n := 4) (f := (a 3)) (j := k) (v := ((a 3) k)) rfl rfl (by omega) (by decide) (rfl) dX10_against_64 ?_
            refine lv_iload_n hx hb dX10_against_65 rfl (lv_at hl 3 rfl) ?_
            refine lv_isub hx hb dX10_against_66 ?_
            refine lv_icmp_le (tgt := 74) hx hb dX10_against_67 (by decide) (fun c_6 => ?_) (fun c_6 => ?_)
            · refine lv_iconst (v := (nI 0)) hx hb dX10_against_74 rfl ?_
              exact wIret hx hb hr hlocks (v := (nI 0)) (u, a) (⟨by unfold ag; grind, rfl⟩) hK hP hD hS dX10_against_75
            · refine lv_iconst (v := (nI 3)) hx hb dX10_against_70 rfl ?_
              refine lv_goto (tgt := 75) hx hb dX10_against_71 (by decide) ?_
              exact wIret hx hb hr hlocks (v := (nI 3)) (u, a) (⟨by unfold ag; grind, rfl⟩) hK hP hD hS dX10_against_75
      · refine lv_iconst (v := (nI 4)) hx hb dX10_against_41 rfl ?_
        exact wIret hx hb hr hlocks (v := (nI 4)) (u, a) (⟨by unfold ag; grind, rfl⟩) hK hP hD hS dX10_against_42
    · refine lv_iconst (v := (nI 1)) hx hb dX10_against_34 rfl ?_
      exact wIret hx hb hr hlocks (v := (nI 1)) (u, a) (⟨by unfold ag; grind, rfl⟩) hK hP hD hS dX10_against_35
  · refine lv_aload_n hx hb dX10_against_11 rfl (lv_at hl 0 rfl) ?_
    refine va_get (D := D) (ci := 10) (v := .ref (r 2)) (C := RX10) (T := TX10) (N := 34) hx hb hts hinX10 hown hK hP 0 rfl rfl 2 (by decide) (hts (.fieldLink RX10 9 "OneNailModel" "sorts" "[I") (by decide +kernel)) (fun _ h9 => h9) rfl dX10_against_12 ?_
    refine lv_iload_n hx hb dX10_against_15 rfl (lv_at hl 1 rfl) ?_
    refine ra_iald hx hb hK hP 1 0 (n := 4) (f := (a 2)) (j := k) (v := ((a 2) k)) rfl rfl (by omega) (by decide) (rfl) dX10_against_16 ?_
    refine lv_iload_n hx hb dX10_against_17 rfl (lv_at hl 2 rfl) ?_
    refine lv_icmp_eq (tgt := 23) hx hb dX10_against_18 (by decide) (fun c_7 => ?_) (fun c_7 => ?_)
    · refine lv_aload_n hx hb dX10_against_23 rfl (lv_at hl 0 rfl) ?_
      refine va_get (D := D) (ci := 10) (v := .ref (r 2)) (C := RX10) (T := TX10) (N := 34) hx hb hts hinX10 hown hK hP 0 rfl rfl 2 (by decide) (hts (.fieldLink RX10 9 "OneNailModel" "sorts" "[I") (by decide +kernel)) (fun _ h9 => h9) rfl dX10_against_24 ?_
      refine lv_iload_n hx hb dX10_against_27 rfl (lv_at hl 1 rfl) ?_
      refine ra_iald hx hb hK hP 1 0 (n := 4) (f := (a 2)) (j := k) (v := ((a 2) k)) rfl rfl (by omega) (by decide) (rfl) dX10_against_28 ?_
      refine lv_bipush (v := (-9)) hx hb dX10_against_29 (by decide) ?_
      refine lv_icmp_ne (tgt := 36) hx hb dX10_against_31 (by decide) (fun c_8 => ?_) (fun c_8 => ?_)
      · refine lv_iload hx hb dX10_against_36 (lv_at hl 4 rfl) ?_
        refine lv_if_ge (tgt := 43) hx hb dX10_against_38 (by decide) (fun c_9 => ?_) (fun c_9 => ?_)
        · refine lv_iload_n hx hb dX10_against_43 rfl (lv_at hl 3 rfl) ?_
          refine lv_if_lt (tgt := 70) hx hb dX10_against_44 (by decide) (fun c_10 => ?_) (fun c_10 => ?_)
          · refine lv_iconst (v := (nI 3)) hx hb dX10_against_70 rfl ?_
            refine lv_goto (tgt := 75) hx hb dX10_against_71 (by decide) ?_
            exact wIret hx hb hr hlocks (v := (nI 3)) (u, a) (⟨by unfold ag; grind, rfl⟩) hK hP hD hS dX10_against_75
          · refine lv_iload_n hx hb dX10_against_47 rfl (lv_at hl 3 rfl) ?_
            refine lv_aload_n hx hb dX10_against_48 rfl (lv_at hl 0 rfl) ?_
            refine va_get (D := D) (ci := 10) (v := .ref (r 3)) (C := RX10) (T := TX10) (N := 34) hx hb hts hinX10 hown hK hP 0 rfl rfl 3 (by decide) (hts (.fieldLink RX10 13 "OneNailModel" "sheetLong" "[I") (by decide +kernel)) (fun _ h9 => h9) rfl dX10_against_49 ?_
            refine lv_iload_n hx hb dX10_against_52 rfl (lv_at hl 1 rfl) ?_
            refine ra_iald hx hb hK hP 2 0 (n := 4) (f := (a 3)) (j := k) (v := ((a 3) k)) rfl rfl (by omega) (by decide) (rfl) dX10_against_53 ?_
            refine lv_icmp_gt (tgt := 70) hx hb dX10_against_54 (by decide) (fun c_11 => ?_) (fun c_11 => ?_)
            · refine lv_iconst (v := (nI 3)) hx hb dX10_against_70 rfl ?_
              refine lv_goto (tgt := 75) hx hb dX10_against_71 (by decide) ?_
              exact wIret hx hb hr hlocks (v := (nI 3)) (u, a) (⟨by unfold ag; grind, rfl⟩) hK hP hD hS dX10_against_75
            · refine lv_iload hx hb dX10_against_57 (lv_at hl 4 rfl) ?_
              refine lv_aload_n hx hb dX10_against_59 rfl (lv_at hl 0 rfl) ?_
              refine va_get (D := D) (ci := 10) (v := .ref (r 3)) (C := RX10) (T := TX10) (N := 34) hx hb hts hinX10 hown hK hP 0 rfl rfl 3 (by decide) (hts (.fieldLink RX10 13 "OneNailModel" "sheetLong" "[I") (by decide +kernel)) (fun _ h9 => h9) rfl dX10_against_60 ?_
              refine lv_iload_n hx hb dX10_against_63 rfl (lv_at hl 1 rfl) ?_
              refine ra_iald hx hb hK hP 2 0 (n := 4) (f := (a 3)) (j := k) (v := ((a 3) k)) rfl rfl (by omega) (by decide) (rfl) dX10_against_64 ?_
              refine lv_iload_n hx hb dX10_against_65 rfl (lv_at hl 3 rfl) ?_
              refine lv_isub hx hb dX10_against_66 ?_
              refine lv_icmp_le (tgt := 74) hx hb dX10_against_67 (by decide) (fun c_12 => ?_) (fun c_12 => ?_)
              · refine lv_iconst (v := (nI 0)) hx hb dX10_against_74 rfl ?_
                exact wIret hx hb hr hlocks (v := (nI 0)) (u, a) (⟨by unfold ag; grind, rfl⟩) hK hP hD hS dX10_against_75
              · refine lv_iconst (v := (nI 3)) hx hb dX10_against_70 rfl ?_
                refine lv_goto (tgt := 75) hx hb dX10_against_71 (by decide) ?_
                exact wIret hx hb hr hlocks (v := (nI 3)) (u, a) (⟨by unfold ag; grind, rfl⟩) hK hP hD hS dX10_against_75
        · refine lv_iconst (v := (nI 4)) hx hb dX10_against_41 rfl ?_
          exact wIret hx hb hr hlocks (v := (nI 4)) (u, a) (⟨by unfold ag; grind, rfl⟩) hK hP hD hS dX10_against_42
      · refine lv_iconst (v := (nI 1)) hx hb dX10_against_34 rfl ?_
        exact wIret hx hb hr hlocks (v := (nI 1)) (u, a) (⟨by unfold ag; grind, rfl⟩) hK hP hD hS dX10_against_35
    · refine lv_iconst (v := (nI 2)) hx hb dX10_against_21 rfl ?_
      exact wIret hx hb hr hlocks (v := (nI 2)) (u, a) (⟨by unfold ag; grind, rfl⟩) hK hP hD hS dX10_against_22

set_option maxHeartbeats 4000000 in
set_option maxRecDepth 100000 in
theorem kX10_layComings (l : Launch) (D : va_G) (cA : Nat → ClassId) (r : Nat → Nat) (sz : Nat) (u : Nat → Int32) (a : Nat → Nat → Int32) (g : Nat → Nat) (T : Nat → Nat → Nat) (ro : Nat → Nat) (L : Nat) (till most : Nat) (hM : MT u a g T) (hB : TB g T) (hL : u 22 = nI L) (hL8 : L ≤ 8) (hro : ∀ k, k < L → a 21 k = nI (ro k)) (hrg : ∀ k, k < L → ro k < g 0) (htl : till ≤ 100000) (hmo : most ≤ 400) : Met l yX10_layComings wsX10_layComings ({ frames := 1, cells := 0, slots := 0, locals := 21 } : Room) (va_Pc [.ref (r 0), .int (nI till), .int (nI most)] (wA D vwCl (tyA cA) e0 (xM cA r) (u, a) sz)) (va_Qv (fun (z : sM) => ∃ cN, LC g T ro L till most cN ∧ z.1 25 = nI cN ∧ (∀ k, k < cN → z.2 23 k = nI (ct g T ro L k)) ∧ (∀ k, k < cN → z.2 24 k = nI (ro (k % L))) ∧ (∀ i, i ≠ 25 → z.1 i = u i) ∧ (∀ i, i ≠ 23 → i ≠ 24 → z.2 i = a i)) (wB D vwCl (tyA cA) (xM cA r) (va_A (xM cA r (u, a)) sz)) (va_A (xM cA r (u, a)) sz)) 0 0 (va_A (xM cA r (u, a)) sz) := by
  refine Met.ofW (cc := cX10_layComings) (maxL := 6) (ret := none) (by decide) rfl ?_
  intro p e s m args below meth c s₁ B hml hv
  obtain ⟨rfl, hsz, hP, hK, hD0, hE⟩ := hv
  have hx := B.exec
  have hb := B.bytes
  have hr := B.returns
  have hts := atoms_spec (ws := wsX10_layComings) B.pre
  have hown : s.vm.findClass RX10 = some m.cls := findClass_of_methodNamed B.named
  have hlocks := B.notSynchronized
  subst hsz
  have hD := hD0.self (sz := s.heap.size)
  generalize hAe : va_A (xM cA r (u, a)) s.heap.size = A at hD hE ⊢
  have hA : ∀ q : Nat, s.heap.size ≤ q → A q := fun q h => by rw [← hAe]; exact Or.inr h
  have hS : va_S A s.heap s.heap [] := va_S.rf
  have hinX10 : ∀ w ∈ u_ws RX10 TX10 34, w ∈ wsX10_layComings := by decide +kernel
  have hl := lv_entry ([.ref (r 0), .int (nI till), .int (nI most)]) (n := 6) (Nat.le_of_ble_eq_true rfl)
  rw [lg_entry_eq]
  generalize (lg_sl ([.ref (r 0), .int (nI till), .int (nI most)]) ++ List.replicate (6 - (lg_sl ([.ref (r 0), .int (nI till), .int (nI most)])).length) Slot.unset).toArray = ls at hl ⊢
  have hl : lv_has ls 6 [(0, .ref (r 0)), (1, .int (nI till)), (2, .int (nI most))] := hl
  have hg6 := hB.1
  have hg1 := hB.2.1
  refine lv_aload_n hx hb dX10_layComings_0 rfl (lv_at hl 0 rfl) ?_
  refine lv_iconst (v := (nI 0)) hx hb dX10_layComings_1 rfl ?_
  refine va_put (D := D) (ci := 10) (v := .int (nI 0)) (ty := .int) (C := RX10) (T := TX10) (N := 34) hx hb hts hinX10 tyX10 tyX10_ok nmX10 hown hK hP hD hS 0 rfl rfl 25 (by decide) (hts (.fieldLink RX10 142 "OneNailModel" "comings" "I") (by decide +kernel)) (fun _ h9 => h9) rfl (by decide +kernel) rfl rfl (Nat.le_of_ble_eq_true rfl) dX10_layComings_2 (fun H locs hP hD hS => ?_)
  have hP : va_P D vwCl (xM cA r ((upd u 25 (nI 0)), a)) H := hP
  have hD : va_D A (xM cA r ((upd u 25 (nI 0)), a)) := hD
  refine lv_aload_n hx hb dX10_layComings_5 rfl (lv_at hl 0 rfl) ?_
  refine va_get (D := D) (ci := 10) (v := .int (nI L)) (C := RX10) (T := TX10) (N := 34) hx hb hts hinX10 hown hK hP 0 rfl rfl 22 (by decide) (hts (.fieldLink RX10 145 "OneNailModel" "rowLong" "I") (by decide +kernel)) (fun _ h9 => h9) (congrArg (fun z => some (Value.int z)) (hL)) dX10_layComings_6 ?_
  refine rz_ne (x := L) (tgt := 13) hx hb (by omega) dX10_layComings_9 (by decide) (fun c_1 => ?_) (fun c_1 => ?_)
  · have hr0 := hrg 0 (by omega)
    have hT0 := hB.2.2.2 _ hr0
    refine lv_aload_n hx hb dX10_layComings_13 rfl (lv_at hl 0 rfl) ?_
    refine va_get (D := D) (ci := 10) (v := .int (nI (g 1))) (C := RX10) (T := TX10) (N := 34) hx hb hts hinX10 hown hK hP 0 rfl rfl 6 (by decide) (hts (.fieldLink RX10 117 "OneNailModel" "home" "I") (by decide +kernel)) (fun _ h9 => h9) (congrArg (fun z => some (Value.int z)) (hM.2.1)) dX10_layComings_14 ?_
    refine lv_aload_n hx hb dX10_layComings_17 rfl (lv_at hl 0 rfl) ?_
    refine va_get (D := D) (ci := 10) (v := .ref (r 9)) (C := RX10) (T := TX10) (N := 34) hx hb hts hinX10 hown hK hP 0 rfl rfl 9 (by decide) (hts (.fieldLink RX10 22 "OneNailModel" "place" "[I") (by decide +kernel)) (fun _ h9 => h9) rfl dX10_layComings_18 ?_
    refine lv_aload_n hx hb dX10_layComings_21 rfl (lv_at hl 0 rfl) ?_
    refine va_get (D := D) (ci := 10) (v := .ref (r 21)) (C := RX10) (T := TX10) (N := 34) hx hb hts hinX10 hown hK hP 0 rfl rfl 21 (by decide) (hts (.fieldLink RX10 49 "OneNailModel" "row" "[I") (by decide +kernel)) (fun _ h9 => h9) rfl dX10_layComings_22 ?_
    refine lv_iconst (v := (nI 0)) hx hb dX10_layComings_25 rfl ?_
    refine ra_iald hx hb hK hP 14 0 (n := 8) (f := (a 21)) (j := 0) (v := (nI (ro (0)))) rfl rfl (by omega) (by decide) (hro (0) (by omega)) dX10_layComings_26 ?_
    refine ra_iald hx hb hK hP 5 0 (n := 6) (f := (a 9)) (j := ro (0)) (v := (nI (T 1 (ro (0))))) rfl rfl (by omega) (by decide) ((hM.2.2.2 (ro (0)) (by omega)).2.1) dX10_layComings_27 ?_
    refine wSi (As := [.int (nI (g 1)), .int (nI (T 1 (ro (0))))]) (rest := []) ⟨hx, hb, hml, hown, hts⟩ (kX10_between l (g 1) (T 1 (ro (0))) (by omega) (by omega)) (va_cwS 2 hts gX10_layComings_X10_between rfl rfl rfl (by decide +kernel) ⟨Nat.le_of_ble_eq_true rfl, Nat.le_of_ble_eq_true rfl⟩) rfl hl.1 rfl (Nat.le_of_ble_eq_true rfl) dX10_layComings_28 ⟨Nat.zero_le _, Nat.zero_le _⟩ (fun rv_2 hw_3 => ?_)
    obtain rfl := hw_3
    refine lv_istore_n (lv' := [(3, .int (nI (md (g 1) (T 1 (ro (0)))))), (0, .ref (r 0)), (1, .int (nI till)), (2, .int (nI most))]) hx hb dX10_layComings_31 rfl hl (by decide) rfl (fun ls hl => ?_)
    refine lv_iconst (v := (nI 0)) hx hb dX10_layComings_32 rfl ?_
    refine lv_istore (lv' := [(4, .int (nI 0)), (3, .int (nI (md (g 1) (T 1 (ro (0)))))), (0, .ref (r 0)), (1, .int (nI till)), (2, .int (nI most))]) hx hb dX10_layComings_33 hl (by decide) rfl (fun ls hl => ?_)
    refine wLoop (τ := Nat × (Nat → Int32) × (Nat → Nat → Int32)) (fun z H locs ls => (fun (cN : Nat) (u1035 : (Nat → Int32)) (a1035 : (Nat → Nat → Int32)) => (cN ≤ most) ∧ (u1035 25 = nI cN) ∧ (∀ k, k < cN → a1035 23 k = nI (ct g T ro L k)) ∧ (∀ k, k < cN → a1035 24 k = nI (ro (k % L))) ∧ (∀ k, k < cN → ct g T ro L k < till) ∧ (∀ i : Nat, i ≠ 25 → u1035 i = u i) ∧ (∀ i : Nat, i ≠ 23 → i ≠ 24 → a1035 i = a i) ∧ (va_P D vwCl (xM cA r (u1035, a1035)) H) ∧ (va_D A (xM cA r (u1035, a1035))) ∧ (va_S A s.heap H locs) ∧ (lv_has ls 6 [(3, .int (nI (ct g T ro L cN))), (4, .int (nI (cN % L))), (0, .ref (r 0)), (1, .int (nI till)), (2, .int (nI most))])) z.1 z.2.1 z.2.2) (fun z => (fun (cN : Nat) (u1035 : (Nat → Int32)) (a1035 : (Nat → Nat → Int32)) => most - cN) z.1 z.2.1 z.2.2) (0, (upd u 25 (nI 0)), a) ⟨(show 0 ≤ most from Nat.zero_le _), (show (upd u 25 (nI 0)) 25 = nI 0 from rfl), (show ∀ k, k < 0 → a 23 k = nI (ct g T ro L k) from (fun k h => absurd h (Nat.not_lt_zero k))), (show ∀ k, k < 0 → a 24 k = nI (ro (k % L)) from (fun k h => absurd h (Nat.not_lt_zero k))), (show ∀ k, k < 0 → ct g T ro L k < till from (fun k h => absurd h (Nat.not_lt_zero k))), (fun i h25 => up_ne h25), (fun i h23 h24 => rfl), hP, hD, hS, lv_sub hl [1, 0, 2, 3, 4] rfl⟩ ?_
    rintro ⟨cN, u1035, a1035⟩ H locs ls ⟨hc, hu25, hc23, hc24, hlt, hfu35, hfa35, hP, hD, hS, hl⟩ ih35
    have hc : cN ≤ most := hc
    have hu25 : u1035 25 = nI cN := hu25
    have hc23 : ∀ k, k < cN → a1035 23 k = nI (ct g T ro L k) := hc23
    have hc24 : ∀ k, k < cN → a1035 24 k = nI (ro (k % L)) := hc24
    have hlt : ∀ k, k < cN → ct g T ro L k < till := hlt
    have hfu35 : ∀ i : Nat, i ≠ 25 → u1035 i = u i := hfu35
    have hfa35 : ∀ i : Nat, i ≠ 23 → i ≠ 24 → a1035 i = a i := hfa35
    have hP : va_P D vwCl (xM cA r (u1035, a1035)) H := hP
    have hD : va_D A (xM cA r (u1035, a1035)) := hD
    have hl : lv_has ls 6 [(3, .int (nI (ct g T ro L cN))), (4, .int (nI (cN % L))), (0, .ref (r 0)), (1, .int (nI till)), (2, .int (nI most))] := hl
    have hm1 : cN % L < L := Nat.mod_lt _ (by omega)
    have hr1 := hrg _ hm1
    have hT1 := hB.2.2.2 _ hr1
    have hcl := ct_le hB (by omega) hrg cN
    refine lv_iload_n hx hb dX10_layComings_35 rfl (lv_at hl 0 rfl) ?_
    refine lv_iload_n hx hb dX10_layComings_36 rfl (lv_at hl 3 rfl) ?_
    refine rn_ge (x := ct g T ro L cN) (y := till) (tgt := 145) hx hb (by omega) (by omega) dX10_layComings_37 (by decide) (fun c_4 => ?_) (fun c_4 => ?_)
    · exact wVret hx hb hr hlocks (u1035, a1035) (⟨cN, ⟨hc, fun h => absurd h (by omega), fun _ => ⟨hlt, by omega⟩⟩, hu25, hc23, hc24, hfu35, hfa35⟩) hK hP hD hS dX10_layComings_145
    · refine lv_aload_n hx hb dX10_layComings_40 rfl (lv_at hl 2 rfl) ?_
      refine va_get (D := D) (ci := 10) (v := .int (nI cN)) (C := RX10) (T := TX10) (N := 34) hx hb hts hinX10 hown hK hP 0 rfl rfl 25 (by decide) (hts (.fieldLink RX10 142 "OneNailModel" "comings" "I") (by decide +kernel)) (fun _ h9 => h9) (congrArg (fun z => some (Value.int z)) (hu25)) dX10_layComings_41 ?_
      refine lv_iload_n hx hb dX10_layComings_44 rfl (lv_at hl 4 rfl) ?_
      refine rn_ge (x := cN) (y := most) (tgt := 145) hx hb (by omega) (by omega) dX10_layComings_45 (by decide) (fun c_5 => ?_) (fun c_5 => ?_)
      · exact wVret hx hb hr hlocks (u1035, a1035) (⟨cN, ⟨hc, fun h => absurd h (by omega), fun _ => ⟨hlt, by omega⟩⟩, hu25, hc23, hc24, hfu35, hfa35⟩) hK hP hD hS dX10_layComings_145
      · refine lv_aload_n hx hb dX10_layComings_48 rfl (lv_at hl 2 rfl) ?_
        refine va_get (D := D) (ci := 10) (v := .ref (r 21)) (C := RX10) (T := TX10) (N := 34) hx hb hts hinX10 hown hK hP 0 rfl rfl 21 (by decide) (hts (.fieldLink RX10 49 "OneNailModel" "row" "[I") (by decide +kernel)) (fun _ h9 => h9) rfl dX10_layComings_49 ?_
        refine lv_iload hx hb dX10_layComings_52 (lv_at hl 1 rfl) ?_
        refine ra_iald hx hb hK hP 14 0 (n := 8) (f := (a1035 21)) (j := cN % L) (v := (nI (ro (cN % L)))) rfl rfl (by omega) (by decide) ((congrFun (hfa35 21 (by decide) (by decide)) (cN % L)).trans (hro (cN % L) (by omega))) dX10_layComings_54 ?_
        refine lv_istore (lv' := [(5, .int (nI (ro (cN % L)))), (3, .int (nI (ct g T ro L cN))), (4, .int (nI (cN % L))), (0, .ref (r 0)), (1, .int (nI till)), (2, .int (nI most))]) hx hb dX10_layComings_55 hl (by decide) rfl (fun ls hl => ?_)
        refine lv_aload_n hx hb dX10_layComings_57 rfl (lv_at hl 3 rfl) ?_
        refine va_get (D := D) (ci := 10) (v := .ref (r 23)) (C := RX10) (T := TX10) (N := 34) hx hb hts hinX10 hown hK hP 0 rfl rfl 23 (by decide) (hts (.fieldLink RX10 52 "OneNailModel" "comesAt" "[I") (by decide +kernel)) (fun _ h9 => h9) rfl dX10_layComings_58 ?_
        refine lv_aload_n hx hb dX10_layComings_61 rfl (lv_at hl 3 rfl) ?_
        refine va_get (D := D) (ci := 10) (v := .int (nI cN)) (C := RX10) (T := TX10) (N := 34) hx hb hts hinX10 hown hK hP 0 rfl rfl 25 (by decide) (hts (.fieldLink RX10 142 "OneNailModel" "comings" "I") (by decide +kernel)) (fun _ h9 => h9) (congrArg (fun z => some (Value.int z)) (hu25)) dX10_layComings_62 ?_
        refine lv_iload_n hx hb dX10_layComings_65 rfl (lv_at hl 1 rfl) ?_
        refine ra_iast hx hb hK hP hD hS 15 0 (n := 400) (f := (a1035 23)) (j := cN) (x := (nI (ct g T ro L cN))) rfl rfl (by omega) (by decide) dX10_layComings_66 (fun H locs hP hD hS => ?_)
        have hP : va_P D vwCl (xM cA r (u1035, (va_up a1035 23 (upd (a1035 23) cN (nI (ct g T ro L cN)))))) H := hP
        have hD : va_D A (xM cA r (u1035, (va_up a1035 23 (upd (a1035 23) cN (nI (ct g T ro L cN)))))) := hD
        refine lv_aload_n hx hb dX10_layComings_67 rfl (lv_at hl 3 rfl) ?_
        refine va_get (D := D) (ci := 10) (v := .ref (r 24)) (C := RX10) (T := TX10) (N := 34) hx hb hts hinX10 hown hK hP 0 rfl rfl 24 (by decide) (hts (.fieldLink RX10 55 "OneNailModel" "comesTo" "[I") (by decide +kernel)) (fun _ h9 => h9) rfl dX10_layComings_68 ?_
        refine lv_aload_n hx hb dX10_layComings_71 rfl (lv_at hl 3 rfl) ?_
        refine va_get (D := D) (ci := 10) (v := .int (nI cN)) (C := RX10) (T := TX10) (N := 34) hx hb hts hinX10 hown hK hP 0 rfl rfl 25 (by decide) (hts (.fieldLink RX10 142 "OneNailModel" "comings" "I") (by decide +kernel)) (fun _ h9 => h9) (congrArg (fun z => some (Value.int z)) (hu25)) dX10_layComings_72 ?_
        refine lv_iload hx hb dX10_layComings_75 (lv_at hl 0 rfl) ?_
        refine ra_iast hx hb hK hP hD hS 16 0 (n := 400) (f := (a1035 24)) (j := cN) (x := (nI (ro (cN % L)))) rfl rfl (by omega) (by decide) dX10_layComings_77 (fun H locs hP hD hS => ?_)
        have hP : va_P D vwCl (xM cA r (u1035, (va_up (va_up a1035 23 (upd (a1035 23) cN (nI (ct g T ro L cN)))) 24 (upd (a1035 24) cN (nI (ro (cN % L))))))) H := hP
        have hD : va_D A (xM cA r (u1035, (va_up (va_up a1035 23 (upd (a1035 23) cN (nI (ct g T ro L cN)))) 24 (upd (a1035 24) cN (nI (ro (cN % L))))))) := hD
        refine lv_aload_n hx hb dX10_layComings_78 rfl (lv_at hl 3 rfl) ?_
        refine lv_dup hx hb dX10_layComings_79 rfl ?_
        refine va_get (D := D) (ci := 10) (v := .int (nI cN)) (C := RX10) (T := TX10) (N := 34) hx hb hts hinX10 hown hK hP 0 rfl rfl 25 (by decide) (hts (.fieldLink RX10 142 "OneNailModel" "comings" "I") (by decide +kernel)) (fun _ h9 => h9) (congrArg (fun z => some (Value.int z)) (hu25)) dX10_layComings_80 ?_
        refine lv_iconst (v := (nI 1)) hx hb dX10_layComings_83 rfl ?_
        refine rn_iadd (x := cN) (y := 1) hx hb dX10_layComings_84 ?_
        refine va_put (D := D) (ci := 10) (v := .int (nI (cN + 1))) (ty := .int) (C := RX10) (T := TX10) (N := 34) hx hb hts hinX10 tyX10 tyX10_ok nmX10 hown hK hP hD hS 0 rfl rfl 25 (by decide) (hts (.fieldLink RX10 142 "OneNailModel" "comings" "I") (by decide +kernel)) (fun _ h9 => h9) rfl (by decide +kernel) rfl rfl (Nat.le_of_ble_eq_true rfl) dX10_layComings_85 (fun H locs hP hD hS => ?_)
        have hP : va_P D vwCl (xM cA r ((upd u1035 25 (nI (cN + 1))), (va_up (va_up a1035 23 (upd (a1035 23) cN (nI (ct g T ro L cN)))) 24 (upd (a1035 24) cN (nI (ro (cN % L))))))) H := hP
        have hD : va_D A (xM cA r ((upd u1035 25 (nI (cN + 1))), (va_up (va_up a1035 23 (upd (a1035 23) cN (nI (ct g T ro L cN)))) 24 (upd (a1035 24) cN (nI (ro (cN % L))))))) := hD
        refine lv_iload hx hb dX10_layComings_88 (lv_at hl 2 rfl) ?_
        refine lv_iconst (v := (nI 1)) hx hb dX10_layComings_90 rfl ?_
        refine rn_iadd (x := cN % L) (y := 1) hx hb dX10_layComings_91 ?_
        refine lv_aload_n hx hb dX10_layComings_92 rfl (lv_at hl 3 rfl) ?_
        refine va_get (D := D) (ci := 10) (v := .int (nI L)) (C := RX10) (T := TX10) (N := 34) hx hb hts hinX10 hown hK hP 0 rfl rfl 22 (by decide) (hts (.fieldLink RX10 145 "OneNailModel" "rowLong" "I") (by decide +kernel)) (fun _ h9 => h9) (congrArg (fun z => some (Value.int z)) ((hfu35 22 (by decide)).trans (hL))) dX10_layComings_93 ?_
        refine rn_ne (x := (cN % L) + 1) (y := L) (tgt := 103) hx hb (by omega) (by omega) dX10_layComings_96 (by decide) (fun c_6 => ?_) (fun c_6 => ?_)
        · refine lv_iload hx hb dX10_layComings_103 (lv_at hl 2 rfl) ?_
          refine lv_iconst (v := (nI 1)) hx hb dX10_layComings_105 rfl ?_
          refine rn_iadd (x := cN % L) (y := 1) hx hb dX10_layComings_106 ?_
          refine lv_topi (fun y_7 ey_7 => ?_)
          obtain rfl : y_7 = (nI ((cN + 1) % L)) := ey_7.trans (congrArg nI (md_n (by omega) (by omega)))
          have hm2 : (cN + 1) % L < L := Nat.mod_lt _ (by omega)
          have hr2 := hrg _ hm2
          have hT2 := hB.2.2.2 _ hr2
          refine lv_istore (lv' := [(4, .int (nI ((cN + 1) % L))), (5, .int (nI (ro (cN % L)))), (3, .int (nI (ct g T ro L cN))), (0, .ref (r 0)), (1, .int (nI till)), (2, .int (nI most))]) hx hb dX10_layComings_107 hl (by decide) rfl (fun ls hl => ?_)
          refine lv_iload_n hx hb dX10_layComings_109 rfl (lv_at hl 2 rfl) ?_
          refine lv_aload_n hx hb dX10_layComings_110 rfl (lv_at hl 3 rfl) ?_
          refine va_get (D := D) (ci := 10) (v := .ref (r 10)) (C := RX10) (T := TX10) (N := 34) hx hb hts hinX10 hown hK hP 0 rfl rfl 10 (by decide) (hts (.fieldLink RX10 25 "OneNailModel" "stays" "[I") (by decide +kernel)) (fun _ h9 => h9) rfl dX10_layComings_111 ?_
          refine lv_iload hx hb dX10_layComings_114 (lv_at hl 1 rfl) ?_
          refine ra_iald hx hb hK hP 6 0 (n := 6) (f := (a1035 10)) (j := ro (cN % L)) (v := (nI (T 2 (ro (cN % L))))) rfl rfl (by omega) (by decide) ((congrFun (hfa35 10 (by decide) (by decide)) (ro (cN % L))).trans ((hM.2.2.2 (ro (cN % L)) (by omega)).2.2.1)) dX10_layComings_116 ?_
          refine lv_aload_n hx hb dX10_layComings_117 rfl (lv_at hl 3 rfl) ?_
          refine va_get (D := D) (ci := 10) (v := .ref (r 9)) (C := RX10) (T := TX10) (N := 34) hx hb hts hinX10 hown hK hP 0 rfl rfl 9 (by decide) (hts (.fieldLink RX10 22 "OneNailModel" "place" "[I") (by decide +kernel)) (fun _ h9 => h9) rfl dX10_layComings_118 ?_
          refine lv_iload hx hb dX10_layComings_121 (lv_at hl 1 rfl) ?_
          refine ra_iald hx hb hK hP 5 0 (n := 6) (f := (a1035 9)) (j := ro (cN % L)) (v := (nI (T 1 (ro (cN % L))))) rfl rfl (by omega) (by decide) ((congrFun (hfa35 9 (by decide) (by decide)) (ro (cN % L))).trans ((hM.2.2.2 (ro (cN % L)) (by omega)).2.1)) dX10_layComings_123 ?_
          refine lv_aload_n hx hb dX10_layComings_124 rfl (lv_at hl 3 rfl) ?_
          refine va_get (D := D) (ci := 10) (v := .ref (r 9)) (C := RX10) (T := TX10) (N := 34) hx hb hts hinX10 hown hK hP 0 rfl rfl 9 (by decide) (hts (.fieldLink RX10 22 "OneNailModel" "place" "[I") (by decide +kernel)) (fun _ h9 => h9) rfl dX10_layComings_125 ?_
          refine lv_aload_n hx hb dX10_layComings_128 rfl (lv_at hl 3 rfl) ?_
          refine va_get (D := D) (ci := 10) (v := .ref (r 21)) (C := RX10) (T := TX10) (N := 34) hx hb hts hinX10 hown hK hP 0 rfl rfl 21 (by decide) (hts (.fieldLink RX10 49 "OneNailModel" "row" "[I") (by decide +kernel)) (fun _ h9 => h9) rfl dX10_layComings_129 ?_
          refine lv_iload hx hb dX10_layComings_132 (lv_at hl 0 rfl) ?_
          refine ra_iald hx hb hK hP 14 0 (n := 8) (f := (a1035 21)) (j := (cN + 1) % L) (v := (nI (ro ((cN + 1) % L)))) rfl rfl (by omega) (by decide) ((congrFun (hfa35 21 (by decide) (by decide)) ((cN + 1) % L)).trans (hro ((cN + 1) % L) (by omega))) dX10_layComings_134 ?_
          refine ra_iald hx hb hK hP 5 0 (n := 6) (f := (a1035 9)) (j := ro ((cN + 1) % L)) (v := (nI (T 1 (ro ((cN + 1) % L))))) rfl rfl (by omega) (by decide) ((congrFun (hfa35 9 (by decide) (by decide)) (ro ((cN + 1) % L))).trans ((hM.2.2.2 (ro ((cN + 1) % L)) (by omega)).2.1)) dX10_layComings_135 ?_
          refine wSi (As := [.int (nI (T 1 (ro (cN % L)))), .int (nI (T 1 (ro ((cN + 1) % L))))]) (rest := [.int (nI (T 2 (ro (cN % L)))), .int (nI (ct g T ro L cN))]) ⟨hx, hb, hml, hown, hts⟩ (kX10_between l (T 1 (ro (cN % L))) (T 1 (ro ((cN + 1) % L))) (by omega) (by omega)) (va_cwS 2 hts gX10_layComings_X10_between rfl rfl rfl (by decide +kernel) ⟨Nat.le_of_ble_eq_true rfl, Nat.le_of_ble_eq_true rfl⟩) rfl hl.1 rfl (Nat.le_of_ble_eq_true rfl) dX10_layComings_136 ⟨Nat.zero_le _, Nat.zero_le _⟩ (fun rv_8 hw_9 => ?_)
          obtain rfl := hw_9
          refine rn_iadd (x := T 2 (ro (cN % L))) (y := md (T 1 (ro (cN % L))) (T 1 (ro ((cN + 1) % L)))) hx hb dX10_layComings_139 ?_
          refine rn_iadd (x := ct g T ro L cN) (y := (T 2 (ro (cN % L))) + (md (T 1 (ro (cN % L))) (T 1 (ro ((cN + 1) % L))))) hx hb dX10_layComings_140 ?_
          refine lv_istore_n (lv' := [(3, .int (nI ((ct g T ro L cN) + ((T 2 (ro (cN % L))) + (md (T 1 (ro (cN % L))) (T 1 (ro ((cN + 1) % L)))))))), (4, .int (nI ((cN + 1) % L))), (5, .int (nI (ro (cN % L)))), (0, .ref (r 0)), (1, .int (nI till)), (2, .int (nI most))]) hx hb dX10_layComings_141 rfl hl (by decide) rfl (fun ls hl => ?_)
          refine lv_goto (tgt := 35) hx hb dX10_layComings_142 (by decide) ?_
          exact ih35 ((cN + 1), (upd u1035 25 (nI (cN + 1))), (va_up (va_up a1035 23 (upd (a1035 23) cN (nI (ct g T ro L cN)))) 24 (upd (a1035 24) cN (nI (ro (cN % L)))))) _ _ _ (show most - (cN + 1) < most - cN from by omega) ⟨(show (cN + 1) ≤ most from by omega), (show (upd u1035 25 (nI (cN + 1))) 25 = nI (cN + 1) from rfl), (show ∀ k, k < (cN + 1) → (va_up (va_up a1035 23 (upd (a1035 23) cN (nI (ct g T ro L cN)))) 24 (upd (a1035 24) cN (nI (ro (cN % L))))) 23 k = nI (ct g T ro L k) from (show ∀ k, k < cN + 1 → (upd (a1035 23) cN (nI (ct g T ro L cN))) k = nI (ct g T ro L k) from arr_push (F := fun k => nI (ct g T ro L k)) hc23 rfl)), (show ∀ k, k < (cN + 1) → (va_up (va_up a1035 23 (upd (a1035 23) cN (nI (ct g T ro L cN)))) 24 (upd (a1035 24) cN (nI (ro (cN % L))))) 24 k = nI (ro (k % L)) from (show ∀ k, k < cN + 1 → (upd (a1035 24) cN (nI (ro (cN % L)))) k = nI (ro (k % L)) from arr_push (F := fun k => nI (ro (k % L))) hc24 rfl)), (show ∀ k, k < (cN + 1) → ct g T ro L k < till from (lt_s hlt (by omega))), (fun i h25 => Eq.trans (up_ne h25) (hfu35 i h25)), (fun i h23 h24 => Eq.trans (vup_ne h24) (Eq.trans (vup_ne h23) (hfa35 i h23 h24))), hP, hD, hS, lv_sub hl [0, 1, 3, 4, 5] rfl⟩
        · refine lv_iconst (v := (nI 0)) hx hb dX10_layComings_99 rfl ?_
          refine lv_goto (tgt := 107) hx hb dX10_layComings_100 (by decide) ?_
          refine lv_topi (fun y_10 ey_10 => ?_)
          obtain rfl : y_10 = (nI ((cN + 1) % L)) := ey_10.trans (congrArg nI (md_s (by omega)))
          have hm2 : (cN + 1) % L < L := Nat.mod_lt _ (by omega)
          have hr2 := hrg _ hm2
          have hT2 := hB.2.2.2 _ hr2
          refine lv_istore (lv' := [(4, .int (nI ((cN + 1) % L))), (5, .int (nI (ro (cN % L)))), (3, .int (nI (ct g T ro L cN))), (0, .ref (r 0)), (1, .int (nI till)), (2, .int (nI most))]) hx hb dX10_layComings_107 hl (by decide) rfl (fun ls hl => ?_)
          refine lv_iload_n hx hb dX10_layComings_109 rfl (lv_at hl 2 rfl) ?_
          refine lv_aload_n hx hb dX10_layComings_110 rfl (lv_at hl 3 rfl) ?_
          refine va_get (D := D) (ci := 10) (v := .ref (r 10)) (C := RX10) (T := TX10) (N := 34) hx hb hts hinX10 hown hK hP 0 rfl rfl 10 (by decide) (hts (.fieldLink RX10 25 "OneNailModel" "stays" "[I") (by decide +kernel)) (fun _ h9 => h9) rfl dX10_layComings_111 ?_
          refine lv_iload hx hb dX10_layComings_114 (lv_at hl 1 rfl) ?_
          refine ra_iald hx hb hK hP 6 0 (n := 6) (f := (a1035 10)) (j := ro (cN % L)) (v := (nI (T 2 (ro (cN % L))))) rfl rfl (by omega) (by decide) ((congrFun (hfa35 10 (by decide) (by decide)) (ro (cN % L))).trans ((hM.2.2.2 (ro (cN % L)) (by omega)).2.2.1)) dX10_layComings_116 ?_
          refine lv_aload_n hx hb dX10_layComings_117 rfl (lv_at hl 3 rfl) ?_
          refine va_get (D := D) (ci := 10) (v := .ref (r 9)) (C := RX10) (T := TX10) (N := 34) hx hb hts hinX10 hown hK hP 0 rfl rfl 9 (by decide) (hts (.fieldLink RX10 22 "OneNailModel" "place" "[I") (by decide +kernel)) (fun _ h9 => h9) rfl dX10_layComings_118 ?_
          refine lv_iload hx hb dX10_layComings_121 (lv_at hl 1 rfl) ?_
          refine ra_iald hx hb hK hP 5 0 (n := 6) (f := (a1035 9)) (j := ro (cN % L)) (v := (nI (T 1 (ro (cN % L))))) rfl rfl (by omega) (by decide) ((congrFun (hfa35 9 (by decide) (by decide)) (ro (cN % L))).trans ((hM.2.2.2 (ro (cN % L)) (by omega)).2.1)) dX10_layComings_123 ?_
          refine lv_aload_n hx hb dX10_layComings_124 rfl (lv_at hl 3 rfl) ?_
          refine va_get (D := D) (ci := 10) (v := .ref (r 9)) (C := RX10) (T := TX10) (N := 34) hx hb hts hinX10 hown hK hP 0 rfl rfl 9 (by decide) (hts (.fieldLink RX10 22 "OneNailModel" "place" "[I") (by decide +kernel)) (fun _ h9 => h9) rfl dX10_layComings_125 ?_
          refine lv_aload_n hx hb dX10_layComings_128 rfl (lv_at hl 3 rfl) ?_
          refine va_get (D := D) (ci := 10) (v := .ref (r 21)) (C := RX10) (T := TX10) (N := 34) hx hb hts hinX10 hown hK hP 0 rfl rfl 21 (by decide) (hts (.fieldLink RX10 49 "OneNailModel" "row" "[I") (by decide +kernel)) (fun _ h9 => h9) rfl dX10_layComings_129 ?_
          refine lv_iload hx hb dX10_layComings_132 (lv_at hl 0 rfl) ?_
          refine ra_iald hx hb hK hP 14 0 (n := 8) (f := (a1035 21)) (j := (cN + 1) % L) (v := (nI (ro ((cN + 1) % L)))) rfl rfl (by omega) (by decide) ((congrFun (hfa35 21 (by decide) (by decide)) ((cN + 1) % L)).trans (hro ((cN + 1) % L) (by omega))) dX10_layComings_134 ?_
          refine ra_iald hx hb hK hP 5 0 (n := 6) (f := (a1035 9)) (j := ro ((cN + 1) % L)) (v := (nI (T 1 (ro ((cN + 1) % L))))) rfl rfl (by omega) (by decide) ((congrFun (hfa35 9 (by decide) (by decide)) (ro ((cN + 1) % L))).trans ((hM.2.2.2 (ro ((cN + 1) % L)) (by omega)).2.1)) dX10_layComings_135 ?_
          refine wSi (As := [.int (nI (T 1 (ro (cN % L)))), .int (nI (T 1 (ro ((cN + 1) % L))))]) (rest := [.int (nI (T 2 (ro (cN % L)))), .int (nI (ct g T ro L cN))]) ⟨hx, hb, hml, hown, hts⟩ (kX10_between l (T 1 (ro (cN % L))) (T 1 (ro ((cN + 1) % L))) (by omega) (by omega)) (va_cwS 2 hts gX10_layComings_X10_between rfl rfl rfl (by decide +kernel) ⟨Nat.le_of_ble_eq_true rfl, Nat.le_of_ble_eq_true rfl⟩) rfl hl.1 rfl (Nat.le_of_ble_eq_true rfl) dX10_layComings_136 ⟨Nat.zero_le _, Nat.zero_le _⟩ (fun rv_11 hw_12 => ?_)
          obtain rfl := hw_12
          refine rn_iadd (x := T 2 (ro (cN % L))) (y := md (T 1 (ro (cN % L))) (T 1 (ro ((cN + 1) % L)))) hx hb dX10_layComings_139 ?_
          refine rn_iadd (x := ct g T ro L cN) (y := (T 2 (ro (cN % L))) + (md (T 1 (ro (cN % L))) (T 1 (ro ((cN + 1) % L))))) hx hb dX10_layComings_140 ?_
          refine lv_istore_n (lv' := [(3, .int (nI ((ct g T ro L cN) + ((T 2 (ro (cN % L))) + (md (T 1 (ro (cN % L))) (T 1 (ro ((cN + 1) % L)))))))), (4, .int (nI ((cN + 1) % L))), (5, .int (nI (ro (cN % L)))), (0, .ref (r 0)), (1, .int (nI till)), (2, .int (nI most))]) hx hb dX10_layComings_141 rfl hl (by decide) rfl (fun ls hl => ?_)
          refine lv_goto (tgt := 35) hx hb dX10_layComings_142 (by decide) ?_
          exact ih35 ((cN + 1), (upd u1035 25 (nI (cN + 1))), (va_up (va_up a1035 23 (upd (a1035 23) cN (nI (ct g T ro L cN)))) 24 (upd (a1035 24) cN (nI (ro (cN % L)))))) _ _ _ (show most - (cN + 1) < most - cN from by omega) ⟨(show (cN + 1) ≤ most from by omega), (show (upd u1035 25 (nI (cN + 1))) 25 = nI (cN + 1) from rfl), (show ∀ k, k < (cN + 1) → (va_up (va_up a1035 23 (upd (a1035 23) cN (nI (ct g T ro L cN)))) 24 (upd (a1035 24) cN (nI (ro (cN % L))))) 23 k = nI (ct g T ro L k) from (show ∀ k, k < cN + 1 → (upd (a1035 23) cN (nI (ct g T ro L cN))) k = nI (ct g T ro L k) from arr_push (F := fun k => nI (ct g T ro L k)) hc23 rfl)), (show ∀ k, k < (cN + 1) → (va_up (va_up a1035 23 (upd (a1035 23) cN (nI (ct g T ro L cN)))) 24 (upd (a1035 24) cN (nI (ro (cN % L))))) 24 k = nI (ro (k % L)) from (show ∀ k, k < cN + 1 → (upd (a1035 24) cN (nI (ro (cN % L)))) k = nI (ro (k % L)) from arr_push (F := fun k => nI (ro (k % L))) hc24 rfl)), (show ∀ k, k < (cN + 1) → ct g T ro L k < till from (lt_s hlt (by omega))), (fun i h25 => Eq.trans (up_ne h25) (hfu35 i h25)), (fun i h23 h24 => Eq.trans (vup_ne h24) (Eq.trans (vup_ne h23) (hfa35 i h23 h24))), hP, hD, hS, lv_sub hl [0, 1, 3, 4, 5] rfl⟩
  · exact wVret hx hb hr hlocks ((upd u 25 (nI 0)), a) (⟨0, ⟨Nat.zero_le _, fun _ => rfl, fun h => absurd h (by omega)⟩, rfl, fun k h => absurd h (Nat.not_lt_zero k), fun k h => absurd h (Nat.not_lt_zero k), fun i h => up_ne h, fun i _ _ => rfl⟩) hK hP hD hS dX10_layComings_12
