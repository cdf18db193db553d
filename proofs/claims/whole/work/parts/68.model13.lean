set_option maxHeartbeats 4000000 in
set_option maxRecDepth 100000 in
theorem kX10_best (l : Launch) (D : va_G) (cA : Nat → ClassId) (r : Nat → Nat) (sz : Nat) (u : Nat → Int32) (a : Nat → Nat → Int32) (g : Nat → Nat) (T : Nat → Nat → Nat) (R : Nat → Nat → Nat) (so : Nat → Int32) (ln : Nat → Nat) (ce : Nat → Nat → Int32) (f tr : Int32) (t q : Int32) (hI : MI u a g T R so ln ce f tr) : Met l yX10_best wsX10_best ({ frames := 4, cells := 0, slots := 0, locals := 97 } : Room) (va_Pc [.ref (r 0), .int t, .int q] (wA D vwCl (tyA cA) e0 (xM cA r) (u, a) sz)) (va_Qi (fun (v : Int32) (z : sM) => v = aBest g T t q ∧ MI z.1 z.2 g T R so ln ce f tr) (wB D vwCl (tyA cA) (xM cA r) (va_A (xM cA r (u, a)) sz)) (va_A (xM cA r (u, a)) sz)) 0 0 (va_A (xM cA r (u, a)) sz) := by
  refine Met.ofW (cc := cX10_best) (maxL := 4) (ret := (some .int)) (by decide) rfl ?_
  intro p e s m args below meth c s₁ B hml hv
  obtain ⟨rfl, hsz, hP, hK, hD0, hE⟩ := hv
  have hx := B.exec
  have hb := B.bytes
  have hr := B.returns
  have hts := atoms_spec (ws := wsX10_best) B.pre
  have hown : s.vm.findClass RX10 = some m.cls := findClass_of_methodNamed B.named
  have hlocks := B.notSynchronized
  subst hsz
  have hD := hD0.self (sz := s.heap.size)
  generalize hAe : va_A (xM cA r (u, a)) s.heap.size = A at hD hE ⊢
  have hA : ∀ q : Nat, s.heap.size ≤ q → A q := fun q h => by rw [← hAe]; exact Or.inr h
  have hS : va_S A s.heap s.heap [] := va_S.rf
  have hinX10 : ∀ w ∈ u_ws RX10 TX10 34, w ∈ wsX10_best := by decide +kernel
  have hl := lv_entry ([.ref (r 0), .int t, .int q]) (n := 4) (Nat.le_of_ble_eq_true rfl)
  rw [lg_entry_eq]
  generalize (lg_sl ([.ref (r 0), .int t, .int q]) ++ List.replicate (4 - (lg_sl ([.ref (r 0), .int t, .int q])).length) Slot.unset).toArray = ls at hl ⊢
  have hl : lv_has ls 4 [(0, .ref (r 0)), (1, .int t), (2, .int q)] := hl
  have hM := hI.1
  have hB := hI.2.1
  have hg6 := hB.1
  have hRd := hI.2.2.1
  have hSh := hI.2.2.2.1
  have hf0 := hI.2.2.2.2.1
  have htr := hI.2.2.2.2.2
  refine lv_aload_n hx hb dX10_best_0 rfl (lv_at hl 0 rfl) ?_
  refine va_get (D := D) (ci := 10) (v := .int (nI (g 0))) (C := RX10) (T := TX10) (N := 34) hx hb hts hinX10 hown hK hP 0 rfl rfl 5 (by decide) (hts (.fieldLink RX10 90 "OneNailModel" "things" "I") (by decide +kernel)) (fun _ h9 => h9) (congrArg (fun z => some (Value.int z)) (hM.1)) dX10_best_1 ?_
  refine rz_ne (x := g 0) (tgt := 10) hx hb (by omega) dX10_best_4 (by decide) (fun c_1 => ?_) (fun c_1 => ?_)
  · refine lv_iload_n hx hb dX10_best_10 rfl (lv_at hl 1 rfl) ?_
    refine lv_iconst (v := (nI 1)) hx hb dX10_best_11 rfl ?_
    refine lv_sipush (v := (nI 300)) hx hb dX10_best_12 rfl ?_
    refine wSi (As := [.int t, .int (nI 1), .int (nI 300)]) (rest := []) ⟨hx, hb, hml, hown, hts⟩ (kX10_within l t (nI 1) (nI 300)) (va_cwS 3 hts gX10_best_X10_within rfl rfl rfl (by decide +kernel) ⟨Nat.le_of_ble_eq_true rfl, Nat.le_of_ble_eq_true rfl⟩) rfl hl.1 rfl (Nat.le_of_ble_eq_true rfl) dX10_best_15 ⟨Nat.zero_le _, Nat.zero_le _⟩ (fun rv_2 hw_3 => ?_)
    rcases hw_3 with ⟨rfl, b_4⟩ | ⟨rfl, b_4⟩
    · obtain ⟨t0, ht1, ht2, ht3, ht4⟩ := inR_of (show inR t 1 300 from b_4) (by decide) (by decide)
      have hl : lv_has ls 4 [(0, .ref (r 0)), (1, .int (nI t0)), (2, .int q)] := lv_re hl 1 ⟨rfl, rfl⟩ (ht1)
      refine lv_if_ne (tgt := 24) hx hb dX10_best_18 (by decide) (fun _ => ?_) (fun c_5 => absurd c_5 (by decide))
      refine lv_iload_n hx hb dX10_best_24 rfl (lv_at hl 2 rfl) ?_
      refine lv_iconst (v := (-1)) hx hb dX10_best_25 (by decide) ?_
      refine lv_aload_n hx hb dX10_best_26 rfl (lv_at hl 0 rfl) ?_
      refine va_get (D := D) (ci := 10) (v := .int (nI (g 0))) (C := RX10) (T := TX10) (N := 34) hx hb hts hinX10 hown hK hP 0 rfl rfl 5 (by decide) (hts (.fieldLink RX10 90 "OneNailModel" "things" "I") (by decide +kernel)) (fun _ h9 => h9) (congrArg (fun z => some (Value.int z)) (hM.1)) dX10_best_27 ?_
      refine lv_iconst (v := (nI 1)) hx hb dX10_best_30 rfl ?_
      refine rn_isub (x := g 0) (y := 1) hx hb (by omega) dX10_best_31 ?_
      refine wSi (As := [.int q, .int (-1), .int (nI ((g 0) - 1))]) (rest := []) ⟨hx, hb, hml, hown, hts⟩ (kX10_within l q (-1) (nI ((g 0) - 1))) (va_cwS 3 hts gX10_best_X10_within rfl rfl rfl (by decide +kernel) ⟨Nat.le_of_ble_eq_true rfl, Nat.le_of_ble_eq_true rfl⟩) rfl hl.1 rfl (Nat.le_of_ble_eq_true rfl) dX10_best_32 ⟨Nat.zero_le _, Nat.zero_le _⟩ (fun rv_6 hw_7 => ?_)
      rcases hw_7 with ⟨rfl, b_8⟩ | ⟨rfl, b_8⟩
      · refine lv_if_ne (tgt := 40) hx hb dX10_best_35 (by decide) (fun _ => ?_) (fun c_9 => absurd c_9 (by decide))
        refine lv_aload_n hx hb dX10_best_40 rfl (lv_at hl 0 rfl) ?_
        refine lv_aload_n hx hb dX10_best_41 rfl (lv_at hl 0 rfl) ?_
        refine wVi e0_S (As := []) (rest := [.ref (r 0)]) ⟨hx, hb, hml, hown, hts⟩ (kX10_all l D cA r _ u a g T hM hB) (cwV 0 hts gX10_best_X10_all rfl rfl rfl (by decide +kernel) ⟨Nat.le_of_ble_eq_true rfl, Nat.le_of_ble_eq_true rfl⟩) (va_recv hK hP (ci := 10) (q0 := 0) rfl rfl) hK hP hD hS hA hE rfl hl.1 rfl (Nat.le_of_ble_eq_true rfl) dX10_best_42 ⟨Nat.zero_le _, Nat.zero_le _⟩ (fun rv_10 z_12 H locs hw_11 hP hD hS => ?_)
        obtain ⟨rfl, rfl⟩ := hw_11
        have hP : va_P D vwCl (xM cA r (u, a)) H := hP
        have hD : va_D A (xM cA r (u, a)) := hD
        refine lv_iload_n hx hb dX10_best_45 rfl (lv_at hl 1 rfl) ?_
        refine wVi e0_S (As := [.int (nI (2 ^ g 0 - 1)), .int (nI t0)]) (rest := []) ⟨hx, hb, hml, hown, hts⟩ (kX10_leastHarm l D cA r _ u a g T (2 ^ g 0 - 1) t0 hM hB (by omega) (all_lt _) (ol (2 ^ g 0 - 1) (g 0)) rfl) (cwV 2 hts gX10_best_X10_leastHarm rfl rfl rfl (by decide +kernel) ⟨Nat.le_of_ble_eq_true rfl, Nat.le_of_ble_eq_true rfl⟩) (va_recv hK hP (ci := 10) (q0 := 0) rfl rfl) hK hP hD hS hA hE rfl hl.1 rfl (Nat.le_of_ble_eq_true rfl) dX10_best_46 ⟨Nat.zero_le _, Nat.zero_le _⟩ (fun rv_13 z_15 H locs hw_14 hP hD hS => ?_)
        obtain ⟨zu16, za17⟩ := z_15
        obtain ⟨rfl, hbr_zu16, hfu_zu16, hfa_zu16⟩ := hw_14
        have hbr_zu16 : ∀ i, i < ol (2 ^ g 0 - 1) (g 0) → za17 28 i = nI (dg (BF g T (2 ^ g 0 - 1) t0).2 i) := hbr_zu16
        have hfu_zu16 : ∀ i, i ≠ 22 → i ≠ 25 → zu16 i = u i := hfu_zu16
        have hfa_zu16 : ∀ i, i ≠ 21 → i ≠ 23 → i ≠ 24 → i ≠ 26 → i ≠ 28 → za17 i = a i := hfa_zu16
        have hP : va_P D vwCl (xM cA r (zu16, za17)) H := hP
        have hD : va_D A (xM cA r (zu16, za17)) := hD
        refine lv_istore_n (lv' := [(3, .int (nI ((BF g T (2 ^ g 0 - 1) t0).1))), (0, .ref (r 0)), (1, .int (nI t0)), (2, .int q)]) hx hb dX10_best_49 rfl hl (by decide) rfl (fun ls hl => ?_)
        refine lv_iload_n hx hb dX10_best_50 rfl (lv_at hl 3 rfl) ?_
        refine lv_iconst (v := (-1)) hx hb dX10_best_51 (by decide) ?_
        refine lv_icmp_ne (tgt := 59) hx hb dX10_best_52 (by decide) (fun c_18 => ?_) (fun c_18 => ?_)
        · obtain ⟨q0, hq01, hq02⟩ := nI_of (m1_of b_8.1 c_18)
          have hq4c : q.toNatClampNeg = q0 := by rw [hq02]; exact nI_clamp hq01
          have hq0g : q0 ≤ g 0 - 1 := (nI_leI hq01 (by omega)).mp (hq02 ▸ b_8.2)
          have hl : lv_has ls 4 [(3, .int (nI ((BF g T (2 ^ g 0 - 1) t0).1))), (0, .ref (r 0)), (1, .int (nI t0)), (2, .int (nI q0))] := lv_re hl 3 ⟨rfl, rfl⟩ (hq02)
          refine lv_aload_n hx hb dX10_best_59 rfl (lv_at hl 1 rfl) ?_
          refine va_get (D := D) (ci := 10) (v := .ref (r 28)) (C := RX10) (T := TX10) (N := 34) hx hb hts hinX10 hown hK hP 0 rfl rfl 28 (by decide) (hts (.fieldLink RX10 65 "OneNailModel" "bestRow" "[I") (by decide +kernel)) (fun _ h9 => h9) rfl dX10_best_60 ?_
          refine lv_iload_n hx hb dX10_best_63 rfl (lv_at hl 3 rfl) ?_
          refine ra_iald hx hb hK hP 19 0 (n := 6) (f := (za17 28)) (j := q0) (v := (nI (dg (BF g T (2 ^ g 0 - 1) t0).2 q0))) rfl rfl (by omega) (by decide) (hbr_zu16 (q0) (by rw [ol_all _ hg6]; omega)) dX10_best_64 ?_
          exact wIret hx hb hr hlocks (v := (nI (dg (BF g T (2 ^ g 0 - 1) t0).2 q0))) (zu16, za17) (⟨by unfold aBest; rw [cif_neg (by omega), cif_pos b_4, cif_pos b_8, cif_neg c_18, ht4, hq4c], (MI.keep hI ((hfu_zu16 0 (by decide) (by decide)).trans hf0) ((hfu_zu16 1 (by decide) (by decide)).trans htr) (hfu_zu16 5 (by decide) (by decide)) (hfu_zu16 6 (by decide) (by decide)) (hfu_zu16 7 (by decide) (by decide)) (hfu_zu16 30 (by decide) (by decide)) (hfa_zu16 2 (by decide) (by decide) (by decide) (by decide) (by decide)) (hfa_zu16 3 (by decide) (by decide) (by decide) (by decide) (by decide)) (hfa_zu16 4 (by decide) (by decide) (by decide) (by decide) (by decide)) (hfa_zu16 8 (by decide) (by decide) (by decide) (by decide) (by decide)) (hfa_zu16 9 (by decide) (by decide) (by decide) (by decide) (by decide)) (hfa_zu16 10 (by decide) (by decide) (by decide) (by decide) (by decide)) (hfa_zu16 11 (by decide) (by decide) (by decide) (by decide) (by decide)) (hfa_zu16 12 (by decide) (by decide) (by decide) (by decide) (by decide)) (hfa_zu16 31 (by decide) (by decide) (by decide) (by decide) (by decide)) (hfa_zu16 32 (by decide) (by decide) (by decide) (by decide) (by decide)) (hfa_zu16 33 (by decide) (by decide) (by decide) (by decide) (by decide)))⟩) hK hP hD hS dX10_best_65
        · refine lv_iload_n hx hb dX10_best_55 rfl (lv_at hl 0 rfl) ?_
          refine lv_goto (tgt := 65) hx hb dX10_best_56 (by decide) ?_
          exact wIret hx hb hr hlocks (v := (nI ((BF g T (2 ^ g 0 - 1) t0).1))) (zu16, za17) (⟨by unfold aBest; rw [cif_neg (by omega), cif_pos b_4, cif_pos b_8, cif_pos c_18, ht4], (MI.keep hI ((hfu_zu16 0 (by decide) (by decide)).trans hf0) ((hfu_zu16 1 (by decide) (by decide)).trans htr) (hfu_zu16 5 (by decide) (by decide)) (hfu_zu16 6 (by decide) (by decide)) (hfu_zu16 7 (by decide) (by decide)) (hfu_zu16 30 (by decide) (by decide)) (hfa_zu16 2 (by decide) (by decide) (by decide) (by decide) (by decide)) (hfa_zu16 3 (by decide) (by decide) (by decide) (by decide) (by decide)) (hfa_zu16 4 (by decide) (by decide) (by decide) (by decide) (by decide)) (hfa_zu16 8 (by decide) (by decide) (by decide) (by decide) (by decide)) (hfa_zu16 9 (by decide) (by decide) (by decide) (by decide) (by decide)) (hfa_zu16 10 (by decide) (by decide) (by decide) (by decide) (by decide)) (hfa_zu16 11 (by decide) (by decide) (by decide) (by decide) (by decide)) (hfa_zu16 12 (by decide) (by decide) (by decide) (by decide) (by decide)) (hfa_zu16 31 (by decide) (by decide) (by decide) (by decide) (by decide)) (hfa_zu16 32 (by decide) (by decide) (by decide) (by decide) (by decide)) (hfa_zu16 33 (by decide) (by decide) (by decide) (by decide) (by decide)))⟩) hK hP hD hS dX10_best_65
      · refine lv_if_ne (tgt := 40) hx hb dX10_best_35 (by decide) (fun c_19 => absurd c_19 (by decide)) (fun _ => ?_)
        refine lv_iconst (v := (-1)) hx hb dX10_best_38 (by decide) ?_
        exact wIret hx hb hr hlocks (v := (-1)) (u, a) (⟨by unfold aBest; rw [cif_neg (by omega), cif_pos b_4, cif_neg b_8], hI⟩) hK hP hD hS dX10_best_39
    · refine lv_if_ne (tgt := 24) hx hb dX10_best_18 (by decide) (fun c_20 => absurd c_20 (by decide)) (fun _ => ?_)
      refine lv_bipush (v := (-2)) hx hb dX10_best_21 (by decide) ?_
      exact wIret hx hb hr hlocks (v := (-2)) (u, a) (⟨by unfold aBest; rw [cif_neg (by omega), cif_neg b_4], hI⟩) hK hP hD hS dX10_best_23
  · refine lv_bipush (v := (-3)) hx hb dX10_best_7 (by decide) ?_
    exact wIret hx hb hr hlocks (v := (-3)) (u, a) (⟨by unfold aBest; rw [cif_pos (by omega)], hI⟩) hK hP hD hS dX10_best_9

set_option maxHeartbeats 4000000 in
set_option maxRecDepth 100000 in
theorem kX10_two (l : Launch) (D : va_G) (cA : Nat → ClassId) (r : Nat → Nat) (sz : Nat) (u : Nat → Int32) (a : Nat → Nat → Int32) (g : Nat → Nat) (T : Nat → Nat → Nat) (R : Nat → Nat → Nat) (so : Nat → Int32) (ln : Nat → Nat) (ce : Nat → Nat → Int32) (f tr : Int32) (t w : Int32) (hI : MI u a g T R so ln ce f tr) : Met l yX10_two wsX10_two ({ frames := 4, cells := 0, slots := 0, locals := 97 } : Room) (va_Pc [.ref (r 0), .int t, .int w] (wA D vwCl (tyA cA) e0 (xM cA r) (u, a) sz)) (va_Qi (fun (v : Int32) (z : sM) => v = aTwo g T t w ∧ MI z.1 z.2 g T R so ln ce f tr) (wB D vwCl (tyA cA) (xM cA r) (va_A (xM cA r (u, a)) sz)) (va_A (xM cA r (u, a)) sz)) 0 0 (va_A (xM cA r (u, a)) sz) := by
  refine Met.ofW (cc := cX10_two) (maxL := 5) (ret := (some .int)) (by decide) rfl ?_
  intro p e s m args below meth c s₁ B hml hv
  obtain ⟨rfl, hsz, hP, hK, hD0, hE⟩ := hv
  have hx := B.exec
  have hb := B.bytes
  have hr := B.returns
  have hts := atoms_spec (ws := wsX10_two) B.pre
  have hown : s.vm.findClass RX10 = some m.cls := findClass_of_methodNamed B.named
  have hlocks := B.notSynchronized
  subst hsz
  have hD := hD0.self (sz := s.heap.size)
  generalize hAe : va_A (xM cA r (u, a)) s.heap.size = A at hD hE ⊢
  have hA : ∀ q : Nat, s.heap.size ≤ q → A q := fun q h => by rw [← hAe]; exact Or.inr h
  have hS : va_S A s.heap s.heap [] := va_S.rf
  have hinX10 : ∀ w ∈ u_ws RX10 TX10 34, w ∈ wsX10_two := by decide +kernel
  have hl := lv_entry ([.ref (r 0), .int t, .int w]) (n := 5) (Nat.le_of_ble_eq_true rfl)
  rw [lg_entry_eq]
  generalize (lg_sl ([.ref (r 0), .int t, .int w]) ++ List.replicate (5 - (lg_sl ([.ref (r 0), .int t, .int w])).length) Slot.unset).toArray = ls at hl ⊢
  have hl : lv_has ls 5 [(0, .ref (r 0)), (1, .int t), (2, .int w)] := hl
  have hM := hI.1
  have hB := hI.2.1
  have hg6 := hB.1
  have hRd := hI.2.2.1
  have hSh := hI.2.2.2.1
  have hf0 := hI.2.2.2.2.1
  have htr := hI.2.2.2.2.2
  have hp6 : 2 ^ g 0 ≤ 64 := Nat.pow_le_pow_right (n := 2) (by decide) hg6
  have hp0 := Nat.two_pow_pos (g 0)
  refine lv_aload_n hx hb dX10_two_0 rfl (lv_at hl 0 rfl) ?_
  refine va_get (D := D) (ci := 10) (v := .int (nI (g 0))) (C := RX10) (T := TX10) (N := 34) hx hb hts hinX10 hown hK hP 0 rfl rfl 5 (by decide) (hts (.fieldLink RX10 90 "OneNailModel" "things" "I") (by decide +kernel)) (fun _ h9 => h9) (congrArg (fun z => some (Value.int z)) (hM.1)) dX10_two_1 ?_
  refine rz_ne (x := g 0) (tgt := 10) hx hb (by omega) dX10_two_4 (by decide) (fun c_1 => ?_) (fun c_1 => ?_)
  · refine lv_iload_n hx hb dX10_two_10 rfl (lv_at hl 1 rfl) ?_
    refine lv_iconst (v := (nI 1)) hx hb dX10_two_11 rfl ?_
    refine lv_sipush (v := (nI 300)) hx hb dX10_two_12 rfl ?_
    refine wSi (As := [.int t, .int (nI 1), .int (nI 300)]) (rest := []) ⟨hx, hb, hml, hown, hts⟩ (kX10_within l t (nI 1) (nI 300)) (va_cwS 3 hts gX10_two_X10_within rfl rfl rfl (by decide +kernel) ⟨Nat.le_of_ble_eq_true rfl, Nat.le_of_ble_eq_true rfl⟩) rfl hl.1 rfl (Nat.le_of_ble_eq_true rfl) dX10_two_15 ⟨Nat.zero_le _, Nat.zero_le _⟩ (fun rv_2 hw_3 => ?_)
    rcases hw_3 with ⟨rfl, b_4⟩ | ⟨rfl, b_4⟩
    · obtain ⟨t0, ht1, ht2, ht3, ht4⟩ := inR_of (show inR t 1 300 from b_4) (by decide) (by decide)
      have hl : lv_has ls 5 [(0, .ref (r 0)), (1, .int (nI t0)), (2, .int w)] := lv_re hl 1 ⟨rfl, rfl⟩ (ht1)
      refine lv_if_eq (tgt := 30) hx hb dX10_two_18 (by decide) (fun c_5 => absurd c_5 (by decide)) (fun _ => ?_)
      refine lv_iload_n hx hb dX10_two_21 rfl (lv_at hl 2 rfl) ?_
      refine lv_iconst (v := (nI 0)) hx hb dX10_two_22 rfl ?_
      refine lv_iconst (v := (nI 1)) hx hb dX10_two_23 rfl ?_
      refine wSi (As := [.int w, .int (nI 0), .int (nI 1)]) (rest := []) ⟨hx, hb, hml, hown, hts⟩ (kX10_within l w (nI 0) (nI 1)) (va_cwS 3 hts gX10_two_X10_within rfl rfl rfl (by decide +kernel) ⟨Nat.le_of_ble_eq_true rfl, Nat.le_of_ble_eq_true rfl⟩) rfl hl.1 rfl (Nat.le_of_ble_eq_true rfl) dX10_two_24 ⟨Nat.zero_le _, Nat.zero_le _⟩ (fun rv_6 hw_7 => ?_)
      rcases hw_7 with ⟨rfl, b_8⟩ | ⟨rfl, b_8⟩
      · refine lv_if_ne (tgt := 33) hx hb dX10_two_27 (by decide) (fun _ => ?_) (fun c_9 => absurd c_9 (by decide))
        refine lv_iconst (v := (nI 0)) hx hb dX10_two_33 rfl ?_
        refine lv_istore_n (lv' := [(3, .int (nI 0)), (0, .ref (r 0)), (1, .int (nI t0)), (2, .int w)]) hx hb dX10_two_34 rfl hl (by decide) rfl (fun ls hl => ?_)
        refine wLoop (τ := Nat × (Nat → Int32) × (Nat → Nat → Int32)) (fun z H locs ls => (fun (s7 : Nat) (u1035 : (Nat → Int32)) (a1035 : (Nat → Nat → Int32)) => (s7 ≤ (2 ^ g 0 - 1) + 1) ∧ (∀ j, j < s7 → a1035 29 j = nI (BF g T j t0).1) ∧ (∀ i : Nat, i ≠ 22 → i ≠ 25 → u1035 i = u i) ∧ (∀ i : Nat, i ≠ 21 → i ≠ 23 → i ≠ 24 → i ≠ 26 → i ≠ 28 → i ≠ 29 → a1035 i = a i) ∧ (va_P D vwCl (xM cA r (u1035, a1035)) H) ∧ (va_D A (xM cA r (u1035, a1035))) ∧ (va_S A s.heap H locs) ∧ (lv_has ls 5 [(3, .int (nI s7)), (0, .ref (r 0)), (1, .int (nI t0)), (2, .int w)])) z.1 z.2.1 z.2.2) (fun z => (fun (s7 : Nat) (u1035 : (Nat → Int32)) (a1035 : (Nat → Nat → Int32)) => (2 ^ g 0 - 1) + 1 - s7) z.1 z.2.1 z.2.2) (0, u, a) ⟨(show 0 ≤ (2 ^ g 0 - 1) + 1 from Nat.zero_le _), (show ∀ j, j < 0 → a 29 j = nI (BF g T j t0).1 from (fun j h => absurd h (Nat.not_lt_zero j))), (fun i h22 h25 => rfl), (fun i h21 h23 h24 h26 h28 h29 => rfl), hP, hD, hS, lv_sub hl [0, 1, 2, 3] rfl⟩ ?_
        rintro ⟨s7, u1035, a1035⟩ H locs ls ⟨hs7, hlo, hfu35, hfa35, hP, hD, hS, hl⟩ ih35
        have hs7 : s7 ≤ (2 ^ g 0 - 1) + 1 := hs7
        have hlo : ∀ j, j < s7 → a1035 29 j = nI (BF g T j t0).1 := hlo
        have hfu35 : ∀ i : Nat, i ≠ 22 → i ≠ 25 → u1035 i = u i := hfu35
        have hfa35 : ∀ i : Nat, i ≠ 21 → i ≠ 23 → i ≠ 24 → i ≠ 26 → i ≠ 28 → i ≠ 29 → a1035 i = a i := hfa35
        have hP : va_P D vwCl (xM cA r (u1035, a1035)) H := hP
        have hD : va_D A (xM cA r (u1035, a1035)) := hD
        have hl : lv_has ls 5 [(3, .int (nI s7)), (0, .ref (r 0)), (1, .int (nI t0)), (2, .int w)] := hl
        refine lv_iload_n hx hb dX10_two_35 rfl (lv_at hl 0 rfl) ?_
        refine lv_aload_n hx hb dX10_two_36 rfl (lv_at hl 1 rfl) ?_
        refine wVi e0_S (As := []) (rest := [.int (nI s7)]) ⟨hx, hb, hml, hown, hts⟩ (kX10_all l D cA r _ u1035 a1035 g T (MT.keep hM (hfu35 5 (by decide) (by decide)) (hfu35 6 (by decide) (by decide)) (hfu35 7 (by decide) (by decide)) (hfa35 8 (by decide) (by decide) (by decide) (by decide) (by decide) (by decide)) (hfa35 9 (by decide) (by decide) (by decide) (by decide) (by decide) (by decide)) (hfa35 10 (by decide) (by decide) (by decide) (by decide) (by decide) (by decide)) (hfa35 11 (by decide) (by decide) (by decide) (by decide) (by decide) (by decide)) (hfa35 12 (by decide) (by decide) (by decide) (by decide) (by decide) (by decide))) hB) (cwV 0 hts gX10_two_X10_all rfl rfl rfl (by decide +kernel) ⟨Nat.le_of_ble_eq_true rfl, Nat.le_of_ble_eq_true rfl⟩) (va_recv hK hP (ci := 10) (q0 := 0) rfl rfl) hK hP hD hS hA hE rfl hl.1 rfl (Nat.le_of_ble_eq_true rfl) dX10_two_37 ⟨Nat.zero_le _, Nat.zero_le _⟩ (fun rv_10 z_12 H locs hw_11 hP hD hS => ?_)
        obtain ⟨rfl, rfl⟩ := hw_11
        have hP : va_P D vwCl (xM cA r (u1035, a1035)) H := hP
        have hD : va_D A (xM cA r (u1035, a1035)) := hD
        refine rn_gt (x := s7) (y := 2 ^ g 0 - 1) (tgt := 61) hx hb (by omega) (by omega) dX10_two_40 (by decide) (fun c_13 => ?_) (fun c_13 => ?_)
        · have hle : ∀ j, j ≤ (2 ^ g 0 - 1) → a1035 29 j = nI (BF g T j t0).1 := fun j hj => hlo j (by omega)
          have hbl : ∀ j, j ≤ (2 ^ g 0 - 1) → (BF g T j t0).1 ≤ 20000 := fun j hj => BF_le hB (Nat.lt_of_le_of_lt hj (all_lt _)) (by omega)
          refine lv_iconst (v := (nI 0)) hx hb dX10_two_61 rfl ?_
          refine lv_istore_n (lv' := [(3, .int (nI 0)), (0, .ref (r 0)), (1, .int (nI t0)), (2, .int w)]) hx hb dX10_two_62 rfl hl (by decide) rfl (fun ls hl => ?_)
          refine lv_iconst (v := (nI 1)) hx hb dX10_two_63 rfl ?_
          refine lv_istore (lv' := [(4, .int (nI 1)), (3, .int (nI 0)), (0, .ref (r 0)), (1, .int (nI t0)), (2, .int w)]) hx hb dX10_two_64 hl (by decide) rfl (fun ls hl => ?_)
          refine wLoop (τ := Nat) (fun z H locs ls => (fun (s8 : Nat) => (1 ≤ s8) ∧ (s8 ≤ (2 ^ g 0 - 1) + 1) ∧ (va_P D vwCl (xM cA r (u1035, a1035)) H) ∧ (va_D A (xM cA r (u1035, a1035))) ∧ (va_S A s.heap H locs) ∧ (lv_has ls 5 [(4, .int (nI s8)), (3, .int (nI (am (w2 g T t0) (s8 - 1)))), (0, .ref (r 0)), (1, .int (nI t0)), (2, .int w)])) z) (fun z => (fun (s8 : Nat) => (2 ^ g 0 - 1) + 1 - s8) z) (1) ⟨(show 1 ≤ 1 from Nat.le_refl 1), (show 1 ≤ (2 ^ g 0 - 1) + 1 from by omega), hP, hD, hS, lv_sub hl [0, 1, 2, 3, 4] rfl⟩ ?_
          rintro s8 H locs ls ⟨hs81, hs82, hP, hD, hS, hl⟩ ih66
          have hs81 : 1 ≤ s8 := hs81
          have hs82 : s8 ≤ (2 ^ g 0 - 1) + 1 := hs82
          have hP : va_P D vwCl (xM cA r (u1035, a1035)) H := hP
          have hD : va_D A (xM cA r (u1035, a1035)) := hD
          have hl : lv_has ls 5 [(4, .int (nI s8)), (3, .int (nI (am (w2 g T t0) (s8 - 1)))), (0, .ref (r 0)), (1, .int (nI t0)), (2, .int w)] := hl
          refine lv_iload hx hb dX10_two_66 (lv_at hl 0 rfl) ?_
          refine lv_aload_n hx hb dX10_two_68 rfl (lv_at hl 2 rfl) ?_
          refine wVi e0_S (As := []) (rest := [.int (nI s8)]) ⟨hx, hb, hml, hown, hts⟩ (kX10_all l D cA r _ u1035 a1035 g T (MT.keep (MT.keep hM (hfu35 5 (by decide) (by decide)) (hfu35 6 (by decide) (by decide)) (hfu35 7 (by decide) (by decide)) (hfa35 8 (by decide) (by decide) (by decide) (by decide) (by decide) (by decide)) (hfa35 9 (by decide) (by decide) (by decide) (by decide) (by decide) (by decide)) (hfa35 10 (by decide) (by decide) (by decide) (by decide) (by decide) (by decide)) (hfa35 11 (by decide) (by decide) (by decide) (by decide) (by decide) (by decide)) (hfa35 12 (by decide) (by decide) (by decide) (by decide) (by decide) (by decide))) rfl rfl rfl rfl rfl rfl rfl rfl) hB) (cwV 0 hts gX10_two_X10_all rfl rfl rfl (by decide +kernel) ⟨Nat.le_of_ble_eq_true rfl, Nat.le_of_ble_eq_true rfl⟩) (va_recv hK hP (ci := 10) (q0 := 0) rfl rfl) hK hP hD hS hA hE rfl hl.1 rfl (Nat.le_of_ble_eq_true rfl) dX10_two_69 ⟨Nat.zero_le _, Nat.zero_le _⟩ (fun rv_14 z_16 H locs hw_15 hP hD hS => ?_)
          obtain ⟨rfl, rfl⟩ := hw_15
          have hP : va_P D vwCl (xM cA r (u1035, a1035)) H := hP
          have hD : va_D A (xM cA r (u1035, a1035)) := hD
          refine rn_gt (x := s8) (y := 2 ^ g 0 - 1) (tgt := 129) hx hb (by omega) (by omega) dX10_two_72 (by decide) (fun c_17 => ?_) (fun c_17 => ?_)
          · have hs8 : s8 - 1 = (2 ^ g 0 - 1) := by omega
            have hl : lv_has ls 5 [(4, .int (nI s8)), (3, .int (nI (am (w2 g T t0) (2 ^ g 0 - 1)))), (0, .ref (r 0)), (1, .int (nI t0)), (2, .int w)] := lv_re hl 1 ⟨rfl, rfl⟩ (congrArg nI (by rw [hs8]))
            have ham := am_le (w2 g T t0) (2 ^ g 0 - 1)
            have hb1 := hbl _ ham
            have hb2 := hbl ((2 ^ g 0 - 1) - am (w2 g T t0) (2 ^ g 0 - 1)) (by omega)
            refine lv_iload_n hx hb dX10_two_129 rfl (lv_at hl 4 rfl) ?_
            refine lv_if_ne (tgt := 137) hx hb dX10_two_130 (by decide) (fun c_18 => ?_) (fun c_18 => ?_)
            · refine lv_aload_n hx hb dX10_two_137 rfl (lv_at hl 2 rfl) ?_
              refine va_get (D := D) (ci := 10) (v := .ref (r 29)) (C := RX10) (T := TX10) (N := 34) hx hb hts hinX10 hown hK hP 0 rfl rfl 29 (by decide) (hts (.fieldLink RX10 68 "OneNailModel" "leastOf" "[I") (by decide +kernel)) (fun _ h9 => h9) rfl dX10_two_138 ?_
              refine lv_iload_n hx hb dX10_two_141 rfl (lv_at hl 1 rfl) ?_
              refine ra_iald hx hb hK hP 20 0 (n := 64) (f := (a1035 29)) (j := am (w2 g T t0) (2 ^ g 0 - 1)) (v := (nI ((BF g T (am (w2 g T t0) (2 ^ g 0 - 1)) t0).1))) rfl rfl (by omega) (by decide) (hle (am (w2 g T t0) (2 ^ g 0 - 1)) (by omega)) dX10_two_142 ?_
              refine lv_aload_n hx hb dX10_two_143 rfl (lv_at hl 2 rfl) ?_
              refine va_get (D := D) (ci := 10) (v := .ref (r 29)) (C := RX10) (T := TX10) (N := 34) hx hb hts hinX10 hown hK hP 0 rfl rfl 29 (by decide) (hts (.fieldLink RX10 68 "OneNailModel" "leastOf" "[I") (by decide +kernel)) (fun _ h9 => h9) rfl dX10_two_144 ?_
              refine lv_aload_n hx hb dX10_two_147 rfl (lv_at hl 2 rfl) ?_
              refine wVi e0_S (As := []) (rest := [.ref (r 29), .int (nI ((BF g T (am (w2 g T t0) (2 ^ g 0 - 1)) t0).1))]) ⟨hx, hb, hml, hown, hts⟩ (kX10_all l D cA r _ u1035 a1035 g T (MT.keep (MT.keep hM (hfu35 5 (by decide) (by decide)) (hfu35 6 (by decide) (by decide)) (hfu35 7 (by decide) (by decide)) (hfa35 8 (by decide) (by decide) (by decide) (by decide) (by decide) (by decide)) (hfa35 9 (by decide) (by decide) (by decide) (by decide) (by decide) (by decide)) (hfa35 10 (by decide) (by decide) (by decide) (by decide) (by decide) (by decide)) (hfa35 11 (by decide) (by decide) (by decide) (by decide) (by decide) (by decide)) (hfa35 12 (by decide) (by decide) (by decide) (by decide) (by decide) (by decide))) rfl rfl rfl rfl rfl rfl rfl rfl) hB) (cwV 0 hts gX10_two_X10_all rfl rfl rfl (by decide +kernel) ⟨Nat.le_of_ble_eq_true rfl, Nat.le_of_ble_eq_true rfl⟩) (va_recv hK hP (ci := 10) (q0 := 0) rfl rfl) hK hP hD hS hA hE rfl hl.1 rfl (Nat.le_of_ble_eq_true rfl) dX10_two_148 ⟨Nat.zero_le _, Nat.zero_le _⟩ (fun rv_19 z_21 H locs hw_20 hP hD hS => ?_)
              obtain ⟨rfl, rfl⟩ := hw_20
              have hP : va_P D vwCl (xM cA r (u1035, a1035)) H := hP
              have hD : va_D A (xM cA r (u1035, a1035)) := hD
              refine lv_iload_n hx hb dX10_two_151 rfl (lv_at hl 1 rfl) ?_
              refine rn_isub (x := 2 ^ g 0 - 1) (y := am (w2 g T t0) (2 ^ g 0 - 1)) hx hb (by omega) dX10_two_152 ?_
              refine ra_iald hx hb hK hP 20 0 (n := 64) (f := (a1035 29)) (j := (2 ^ g 0 - 1) - (am (w2 g T t0) (2 ^ g 0 - 1))) (v := (nI ((BF g T ((2 ^ g 0 - 1) - (am (w2 g T t0) (2 ^ g 0 - 1))) t0).1))) rfl rfl (by omega) (by decide) (hle ((2 ^ g 0 - 1) - (am (w2 g T t0) (2 ^ g 0 - 1))) (by omega)) dX10_two_153 ?_
              refine rn_iadd (x := (BF g T (am (w2 g T t0) (2 ^ g 0 - 1)) t0).1) (y := (BF g T ((2 ^ g 0 - 1) - (am (w2 g T t0) (2 ^ g 0 - 1))) t0).1) hx hb dX10_two_154 ?_
              exact wIret hx hb hr hlocks (v := (nI (((BF g T (am (w2 g T t0) (2 ^ g 0 - 1)) t0).1) + ((BF g T ((2 ^ g 0 - 1) - (am (w2 g T t0) (2 ^ g 0 - 1))) t0).1)))) (u1035, a1035) (⟨by unfold aTwo; rw [cif_neg (by omega), cif_pos ⟨b_4, b_8⟩, cif_neg c_18, ht4]; rfl, (MI.keep hI ((hfu35 0 (by decide) (by decide)).trans hf0) ((hfu35 1 (by decide) (by decide)).trans htr) (hfu35 5 (by decide) (by decide)) (hfu35 6 (by decide) (by decide)) (hfu35 7 (by decide) (by decide)) (hfu35 30 (by decide) (by decide)) (hfa35 2 (by decide) (by decide) (by decide) (by decide) (by decide) (by decide)) (hfa35 3 (by decide) (by decide) (by decide) (by decide) (by decide) (by decide)) (hfa35 4 (by decide) (by decide) (by decide) (by decide) (by decide) (by decide)) (hfa35 8 (by decide) (by decide) (by decide) (by decide) (by decide) (by decide)) (hfa35 9 (by decide) (by decide) (by decide) (by decide) (by decide) (by decide)) (hfa35 10 (by decide) (by decide) (by decide) (by decide) (by decide) (by decide)) (hfa35 11 (by decide) (by decide) (by decide) (by decide) (by decide) (by decide)) (hfa35 12 (by decide) (by decide) (by decide) (by decide) (by decide) (by decide)) (hfa35 31 (by decide) (by decide) (by decide) (by decide) (by decide) (by decide)) (hfa35 32 (by decide) (by decide) (by decide) (by decide) (by decide) (by decide)) (hfa35 33 (by decide) (by decide) (by decide) (by decide) (by decide) (by decide)))⟩) hK hP hD hS dX10_two_155
            · refine lv_iload_n hx hb dX10_two_133 rfl (lv_at hl 1 rfl) ?_
              refine lv_goto (tgt := 155) hx hb dX10_two_134 (by decide) ?_
              exact wIret hx hb hr hlocks (v := (nI (am (w2 g T t0) (2 ^ g 0 - 1)))) (u1035, a1035) (⟨by unfold aTwo; rw [cif_neg (by omega), cif_pos ⟨b_4, b_8⟩, cif_pos c_18, ht4], (MI.keep hI ((hfu35 0 (by decide) (by decide)).trans hf0) ((hfu35 1 (by decide) (by decide)).trans htr) (hfu35 5 (by decide) (by decide)) (hfu35 6 (by decide) (by decide)) (hfu35 7 (by decide) (by decide)) (hfu35 30 (by decide) (by decide)) (hfa35 2 (by decide) (by decide) (by decide) (by decide) (by decide) (by decide)) (hfa35 3 (by decide) (by decide) (by decide) (by decide) (by decide) (by decide)) (hfa35 4 (by decide) (by decide) (by decide) (by decide) (by decide) (by decide)) (hfa35 8 (by decide) (by decide) (by decide) (by decide) (by decide) (by decide)) (hfa35 9 (by decide) (by decide) (by decide) (by decide) (by decide) (by decide)) (hfa35 10 (by decide) (by decide) (by decide) (by decide) (by decide) (by decide)) (hfa35 11 (by decide) (by decide) (by decide) (by decide) (by decide) (by decide)) (hfa35 12 (by decide) (by decide) (by decide) (by decide) (by decide) (by decide)) (hfa35 31 (by decide) (by decide) (by decide) (by decide) (by decide) (by decide)) (hfa35 32 (by decide) (by decide) (by decide) (by decide) (by decide) (by decide)) (hfa35 33 (by decide) (by decide) (by decide) (by decide) (by decide) (by decide)))⟩) hK hP hD hS dX10_two_155
          · have ham := am_le (w2 g T t0) (s8 - 1)
            have hb1 := hbl _ (show am (w2 g T t0) (s8 - 1) ≤ (2 ^ g 0 - 1) by omega)
            have hb2 := hbl ((2 ^ g 0 - 1) - am (w2 g T t0) (s8 - 1)) (by omega)
            have hb3 := hbl s8 (by omega)
            have hb4 := hbl ((2 ^ g 0 - 1) - s8) (by omega)
            have hwa : w2 g T t0 (am (w2 g T t0) (s8 - 1)) = (BF g T (am (w2 g T t0) (s8 - 1)) t0).1 + (BF g T ((2 ^ g 0 - 1) - am (w2 g T t0) (s8 - 1)) t0).1 := rfl
            have hws : w2 g T t0 s8 = (BF g T s8 t0).1 + (BF g T ((2 ^ g 0 - 1) - s8) t0).1 := rfl
            refine lv_aload_n hx hb dX10_two_75 rfl (lv_at hl 2 rfl) ?_
            refine va_get (D := D) (ci := 10) (v := .ref (r 29)) (C := RX10) (T := TX10) (N := 34) hx hb hts hinX10 hown hK hP 0 rfl rfl 29 (by decide) (hts (.fieldLink RX10 68 "OneNailModel" "leastOf" "[I") (by decide +kernel)) (fun _ h9 => h9) rfl dX10_two_76 ?_
            refine lv_iload hx hb dX10_two_79 (lv_at hl 0 rfl) ?_
            refine ra_iald hx hb hK hP 20 0 (n := 64) (f := (a1035 29)) (j := s8) (v := (nI ((BF g T (s8) t0).1))) rfl rfl (by omega) (by decide) (hle (s8) (by omega)) dX10_two_81 ?_
            refine lv_aload_n hx hb dX10_two_82 rfl (lv_at hl 2 rfl) ?_
            refine va_get (D := D) (ci := 10) (v := .ref (r 29)) (C := RX10) (T := TX10) (N := 34) hx hb hts hinX10 hown hK hP 0 rfl rfl 29 (by decide) (hts (.fieldLink RX10 68 "OneNailModel" "leastOf" "[I") (by decide +kernel)) (fun _ h9 => h9) rfl dX10_two_83 ?_
            refine lv_aload_n hx hb dX10_two_86 rfl (lv_at hl 2 rfl) ?_
            refine wVi e0_S (As := []) (rest := [.ref (r 29), .int (nI ((BF g T (s8) t0).1))]) ⟨hx, hb, hml, hown, hts⟩ (kX10_all l D cA r _ u1035 a1035 g T (MT.keep (MT.keep hM (hfu35 5 (by decide) (by decide)) (hfu35 6 (by decide) (by decide)) (hfu35 7 (by decide) (by decide)) (hfa35 8 (by decide) (by decide) (by decide) (by decide) (by decide) (by decide)) (hfa35 9 (by decide) (by decide) (by decide) (by decide) (by decide) (by decide)) (hfa35 10 (by decide) (by decide) (by decide) (by decide) (by decide) (by decide)) (hfa35 11 (by decide) (by decide) (by decide) (by decide) (by decide) (by decide)) (hfa35 12 (by decide) (by decide) (by decide) (by decide) (by decide) (by decide))) rfl rfl rfl rfl rfl rfl rfl rfl) hB) (cwV 0 hts gX10_two_X10_all rfl rfl rfl (by decide +kernel) ⟨Nat.le_of_ble_eq_true rfl, Nat.le_of_ble_eq_true rfl⟩) (va_recv hK hP (ci := 10) (q0 := 0) rfl rfl) hK hP hD hS hA hE rfl hl.1 rfl (Nat.le_of_ble_eq_true rfl) dX10_two_87 ⟨Nat.zero_le _, Nat.zero_le _⟩ (fun rv_22 z_24 H locs hw_23 hP hD hS => ?_)
            obtain ⟨rfl, rfl⟩ := hw_23
            have hP : va_P D vwCl (xM cA r (u1035, a1035)) H := hP
            have hD : va_D A (xM cA r (u1035, a1035)) := hD
            refine lv_iload hx hb dX10_two_90 (lv_at hl 0 rfl) ?_
            refine rn_isub (x := 2 ^ g 0 - 1) (y := s8) hx hb (by omega) dX10_two_92 ?_
            refine ra_iald hx hb hK hP 20 0 (n := 64) (f := (a1035 29)) (j := (2 ^ g 0 - 1) - s8) (v := (nI ((BF g T ((2 ^ g 0 - 1) - s8) t0).1))) rfl rfl (by omega) (by decide) (hle ((2 ^ g 0 - 1) - s8) (by omega)) dX10_two_93 ?_
            refine rn_iadd (x := (BF g T (s8) t0).1) (y := (BF g T ((2 ^ g 0 - 1) - s8) t0).1) hx hb dX10_two_94 ?_
            refine lv_aload_n hx hb dX10_two_95 rfl (lv_at hl 2 rfl) ?_
            refine va_get (D := D) (ci := 10) (v := .ref (r 29)) (C := RX10) (T := TX10) (N := 34) hx hb hts hinX10 hown hK hP 0 rfl rfl 29 (by decide) (hts (.fieldLink RX10 68 "OneNailModel" "leastOf" "[I") (by decide +kernel)) (fun _ h9 => h9) rfl dX10_two_96 ?_
            refine lv_iload_n hx hb dX10_two_99 rfl (lv_at hl 1 rfl) ?_
            refine ra_iald hx hb hK hP 20 0 (n := 64) (f := (a1035 29)) (j := am (w2 g T t0) (s8 - 1)) (v := (nI ((BF g T (am (w2 g T t0) (s8 - 1)) t0).1))) rfl rfl (by omega) (by decide) (hle (am (w2 g T t0) (s8 - 1)) (by omega)) dX10_two_100 ?_
            refine lv_aload_n hx hb dX10_two_101 rfl (lv_at hl 2 rfl) ?_
            refine va_get (D := D) (ci := 10) (v := .ref (r 29)) (C := RX10) (T := TX10) (N := 34) hx hb hts hinX10 hown hK hP 0 rfl rfl 29 (by decide) (hts (.fieldLink RX10 68 "OneNailModel" "leastOf" "[I") (by decide +kernel)) (fun _ h9 => h9) rfl dX10_two_102 ?_
            refine lv_aload_n hx hb dX10_two_105 rfl (lv_at hl 2 rfl) ?_
            refine wVi e0_S (As := []) (rest := [.ref (r 29), .int (nI ((BF g T (am (w2 g T t0) (s8 - 1)) t0).1)), .int (nI (((BF g T (s8) t0).1) + ((BF g T ((2 ^ g 0 - 1) - s8) t0).1)))]) ⟨hx, hb, hml, hown, hts⟩ (kX10_all l D cA r _ u1035 a1035 g T (MT.keep (MT.keep hM (hfu35 5 (by decide) (by decide)) (hfu35 6 (by decide) (by decide)) (hfu35 7 (by decide) (by decide)) (hfa35 8 (by decide) (by decide) (by decide) (by decide) (by decide) (by decide)) (hfa35 9 (by decide) (by decide) (by decide) (by decide) (by decide) (by decide)) (hfa35 10 (by decide) (by decide) (by decide) (by decide) (by decide) (by decide)) (hfa35 11 (by decide) (by decide) (by decide) (by decide) (by decide) (by decide)) (hfa35 12 (by decide) (by decide) (by decide) (by decide) (by decide) (by decide))) rfl rfl rfl rfl rfl rfl rfl rfl) hB) (cwV 0 hts gX10_two_X10_all rfl rfl rfl (by decide +kernel) ⟨Nat.le_of_ble_eq_true rfl, Nat.le_of_ble_eq_true rfl⟩) (va_recv hK hP (ci := 10) (q0 := 0) rfl rfl) hK hP hD hS hA hE rfl hl.1 rfl (Nat.le_of_ble_eq_true rfl) dX10_two_106 ⟨Nat.zero_le _, Nat.zero_le _⟩ (fun rv_25 z_27 H locs hw_26 hP hD hS => ?_)
            obtain ⟨rfl, rfl⟩ := hw_26
            have hP : va_P D vwCl (xM cA r (u1035, a1035)) H := hP
            have hD : va_D A (xM cA r (u1035, a1035)) := hD
            refine lv_iload_n hx hb dX10_two_109 rfl (lv_at hl 1 rfl) ?_
            refine rn_isub (x := 2 ^ g 0 - 1) (y := am (w2 g T t0) (s8 - 1)) hx hb (by omega) dX10_two_110 ?_
            refine ra_iald hx hb hK hP 20 0 (n := 64) (f := (a1035 29)) (j := (2 ^ g 0 - 1) - (am (w2 g T t0) (s8 - 1))) (v := (nI ((BF g T ((2 ^ g 0 - 1) - (am (w2 g T t0) (s8 - 1))) t0).1))) rfl rfl (by omega) (by decide) (hle ((2 ^ g 0 - 1) - (am (w2 g T t0) (s8 - 1))) (by omega)) dX10_two_111 ?_
            refine rn_iadd (x := (BF g T (am (w2 g T t0) (s8 - 1)) t0).1) (y := (BF g T ((2 ^ g 0 - 1) - (am (w2 g T t0) (s8 - 1))) t0).1) hx hb dX10_two_112 ?_
            refine rn_ge (x := ((BF g T (s8) t0).1) + ((BF g T ((2 ^ g 0 - 1) - s8) t0).1)) (y := ((BF g T (am (w2 g T t0) (s8 - 1)) t0).1) + ((BF g T ((2 ^ g 0 - 1) - (am (w2 g T t0) (s8 - 1))) t0).1)) (tgt := 121) hx hb (by omega) (by omega) dX10_two_113 (by decide) (fun c_28 => ?_) (fun c_28 => ?_)
            · refine lv_iload_n hx hb dX10_two_121 rfl (lv_at hl 1 rfl) ?_
              refine lv_istore_n (lv' := [(3, .int (nI (am (w2 g T t0) (s8 - 1)))), (4, .int (nI s8)), (0, .ref (r 0)), (1, .int (nI t0)), (2, .int w)]) hx hb dX10_two_122 rfl hl (by decide) rfl (fun ls hl => ?_)
              refine rn_iinc (x := s8) (d := 1) (lv' := [(4, .int (nI (s8 + 1))), (3, .int (nI (am (w2 g T t0) (s8 - 1)))), (0, .ref (r 0)), (1, .int (nI t0)), (2, .int w)]) hx hb rfl dX10_two_123 hl (k := 1) rfl (by decide) rfl (fun ls hl => ?_)
              refine lv_goto (tgt := 66) hx hb dX10_two_126 (by decide) ?_
              have hl : lv_has ls 5 [(4, .int (nI (s8 + 1))), (3, .int (nI (am (w2 g T t0) (s8 + 1 - 1)))), (0, .ref (r 0)), (1, .int (nI t0)), (2, .int w)] := lv_re hl 1 ⟨rfl, rfl⟩ (congrArg nI (by rw [show s8 + 1 - 1 = s8 - 1 + 1 by omega]; exact (am_no (by rw [show s8 - 1 + 1 = s8 by omega]; omega)).symm))
              exact ih66 ((s8 + 1)) _ _ _ (show (2 ^ g 0 - 1) + 1 - (s8 + 1) < (2 ^ g 0 - 1) + 1 - s8 from by omega) ⟨(show 1 ≤ (s8 + 1) from by omega), (show (s8 + 1) ≤ (2 ^ g 0 - 1) + 1 from by omega), hP, hD, hS, lv_sub hl [0, 1, 2, 3, 4] rfl⟩
            · refine lv_iload hx hb dX10_two_116 (lv_at hl 0 rfl) ?_
              refine lv_goto (tgt := 122) hx hb dX10_two_118 (by decide) ?_
              refine lv_istore_n (lv' := [(3, .int (nI s8)), (4, .int (nI s8)), (0, .ref (r 0)), (1, .int (nI t0)), (2, .int w)]) hx hb dX10_two_122 rfl hl (by decide) rfl (fun ls hl => ?_)
              refine rn_iinc (x := s8) (d := 1) (lv' := [(4, .int (nI (s8 + 1))), (3, .int (nI s8)), (0, .ref (r 0)), (1, .int (nI t0)), (2, .int w)]) hx hb rfl dX10_two_123 hl (k := 1) rfl (by decide) rfl (fun ls hl => ?_)
              refine lv_goto (tgt := 66) hx hb dX10_two_126 (by decide) ?_
              have hl : lv_has ls 5 [(4, .int (nI (s8 + 1))), (3, .int (nI (am (w2 g T t0) (s8 + 1 - 1)))), (0, .ref (r 0)), (1, .int (nI t0)), (2, .int w)] := lv_re hl 1 ⟨rfl, rfl⟩ (congrArg nI (by rw [show s8 + 1 - 1 = s8 - 1 + 1 by omega]; exact (am_yes (by rw [show s8 - 1 + 1 = s8 by omega]; omega) |>.trans (by omega)).symm))
              exact ih66 ((s8 + 1)) _ _ _ (show (2 ^ g 0 - 1) + 1 - (s8 + 1) < (2 ^ g 0 - 1) + 1 - s8 from by omega) ⟨(show 1 ≤ (s8 + 1) from by omega), (show (s8 + 1) ≤ (2 ^ g 0 - 1) + 1 from by omega), hP, hD, hS, lv_sub hl [0, 1, 2, 3, 4] rfl⟩
        · refine lv_aload_n hx hb dX10_two_43 rfl (lv_at hl 1 rfl) ?_
          refine va_get (D := D) (ci := 10) (v := .ref (r 29)) (C := RX10) (T := TX10) (N := 34) hx hb hts hinX10 hown hK hP 0 rfl rfl 29 (by decide) (hts (.fieldLink RX10 68 "OneNailModel" "leastOf" "[I") (by decide +kernel)) (fun _ h9 => h9) rfl dX10_two_44 ?_
          refine lv_iload_n hx hb dX10_two_47 rfl (lv_at hl 0 rfl) ?_
          refine lv_aload_n hx hb dX10_two_48 rfl (lv_at hl 1 rfl) ?_
          refine lv_iload_n hx hb dX10_two_49 rfl (lv_at hl 0 rfl) ?_
          refine lv_iload_n hx hb dX10_two_50 rfl (lv_at hl 2 rfl) ?_
          refine wVi e0_S (As := [.int (nI s7), .int (nI t0)]) (rest := [.int (nI s7), .ref (r 29)]) ⟨hx, hb, hml, hown, hts⟩ (kX10_leastHarm l D cA r _ u1035 a1035 g T s7 t0 (MT.keep (MT.keep hM (hfu35 5 (by decide) (by decide)) (hfu35 6 (by decide) (by decide)) (hfu35 7 (by decide) (by decide)) (hfa35 8 (by decide) (by decide) (by decide) (by decide) (by decide) (by decide)) (hfa35 9 (by decide) (by decide) (by decide) (by decide) (by decide) (by decide)) (hfa35 10 (by decide) (by decide) (by decide) (by decide) (by decide) (by decide)) (hfa35 11 (by decide) (by decide) (by decide) (by decide) (by decide) (by decide)) (hfa35 12 (by decide) (by decide) (by decide) (by decide) (by decide) (by decide))) rfl rfl rfl rfl rfl rfl rfl rfl) hB (by omega) (by omega) (ol s7 (g 0)) rfl) (cwV 2 hts gX10_two_X10_leastHarm rfl rfl rfl (by decide +kernel) ⟨Nat.le_of_ble_eq_true rfl, Nat.le_of_ble_eq_true rfl⟩) (va_recv hK hP (ci := 10) (q0 := 0) rfl rfl) hK hP hD hS hA hE rfl hl.1 rfl (Nat.le_of_ble_eq_true rfl) dX10_two_51 ⟨Nat.zero_le _, Nat.zero_le _⟩ (fun rv_29 z_31 H locs hw_30 hP hD hS => ?_)
          obtain ⟨zu32, za33⟩ := z_31
          obtain ⟨rfl, hbr_zu32, hfu_zu32, hfa_zu32⟩ := hw_30
          have hbr_zu32 : ∀ i, i < ol s7 (g 0) → za33 28 i = nI (dg (BF g T s7 t0).2 i) := hbr_zu32
          have hfu_zu32 : ∀ i, i ≠ 22 → i ≠ 25 → zu32 i = u1035 i := hfu_zu32
          have hfa_zu32 : ∀ i, i ≠ 21 → i ≠ 23 → i ≠ 24 → i ≠ 26 → i ≠ 28 → za33 i = a1035 i := hfa_zu32
          have hP : va_P D vwCl (xM cA r (zu32, za33)) H := hP
          have hD : va_D A (xM cA r (zu32, za33)) := hD
          refine ra_iast hx hb hK hP hD hS 20 0 (n := 64) (f := (za33 29)) (j := s7) (x := (nI ((BF g T s7 t0).1))) rfl rfl (by omega) (by decide) dX10_two_54 (fun H locs hP hD hS => ?_)
          have hP : va_P D vwCl (xM cA r (zu32, (va_up za33 29 (upd (za33 29) s7 (nI ((BF g T s7 t0).1)))))) H := hP
          have hD : va_D A (xM cA r (zu32, (va_up za33 29 (upd (za33 29) s7 (nI ((BF g T s7 t0).1)))))) := hD
          refine rn_iinc (x := s7) (d := 1) (lv' := [(3, .int (nI (s7 + 1))), (0, .ref (r 0)), (1, .int (nI t0)), (2, .int w)]) hx hb rfl dX10_two_55 hl (k := 0) rfl (by decide) rfl (fun ls hl => ?_)
          refine lv_goto (tgt := 35) hx hb dX10_two_58 (by decide) ?_
          exact ih35 ((s7 + 1), zu32, (va_up za33 29 (upd (za33 29) s7 (nI ((BF g T s7 t0).1))))) _ _ _ (show (2 ^ g 0 - 1) + 1 - (s7 + 1) < (2 ^ g 0 - 1) + 1 - s7 from by omega) ⟨(show (s7 + 1) ≤ (2 ^ g 0 - 1) + 1 from by omega), (show ∀ j, j < (s7 + 1) → (va_up za33 29 (upd (za33 29) s7 (nI ((BF g T s7 t0).1)))) 29 j = nI (BF g T j t0).1 from (show ∀ j, j < s7 + 1 → (upd (za33 29) s7 (nI ((BF g T s7 t0).1))) j = nI (BF g T j t0).1 from arr_push (F := fun j => nI (BF g T j t0).1) (fun j hj => (congrFun (hfa_zu32 29 (by decide) (by decide) (by decide) (by decide) (by decide)) j).trans (hlo j hj)) rfl)), (fun i h22 h25 => Eq.trans (hfu_zu32 i h22 h25) (hfu35 i h22 h25)), (fun i h21 h23 h24 h26 h28 h29 => Eq.trans (vup_ne h29) (Eq.trans (hfa_zu32 i h21 h23 h24 h26 h28) (hfa35 i h21 h23 h24 h26 h28 h29))), hP, hD, hS, lv_sub hl [0, 1, 2, 3] rfl⟩
      · refine lv_if_ne (tgt := 33) hx hb dX10_two_27 (by decide) (fun c_34 => absurd c_34 (by decide)) (fun _ => ?_)
        refine lv_bipush (v := (-2)) hx hb dX10_two_30 (by decide) ?_
        exact wIret hx hb hr hlocks (v := (-2)) (u, a) (⟨by unfold aTwo; rw [cif_neg (by omega), cif_neg (fun q => b_8 q.2)], hI⟩) hK hP hD hS dX10_two_32
    · refine lv_if_eq (tgt := 30) hx hb dX10_two_18 (by decide) (fun _ => ?_) (fun c_35 => absurd c_35 (by decide))
      refine lv_bipush (v := (-2)) hx hb dX10_two_30 (by decide) ?_
      exact wIret hx hb hr hlocks (v := (-2)) (u, a) (⟨by unfold aTwo; rw [cif_neg (by omega), cif_neg (fun q => b_4 q.1)], hI⟩) hK hP hD hS dX10_two_32
  · refine lv_bipush (v := (-3)) hx hb dX10_two_7 (by decide) ?_
    exact wIret hx hb hr hlocks (v := (-3)) (u, a) (⟨by unfold aTwo; rw [cif_pos (by omega)], hI⟩) hK hP hD hS dX10_two_9

set_option maxHeartbeats 4000000 in
set_option maxRecDepth 100000 in
theorem kX10_site (l : Launch) (D : va_G) (cA : Nat → ClassId) (r : Nat → Nat) (sz : Nat) (u : Nat → Int32) (a : Nat → Nat → Int32) (g : Nat → Nat) (T : Nat → Nat → Nat) (R : Nat → Nat → Nat) (so : Nat → Int32) (ln : Nat → Nat) (ce : Nat → Nat → Int32) (f tr : Int32) (t w : Int32) (hI : MI u a g T R so ln ce f tr) : Met l yX10_site wsX10_site ({ frames := 4, cells := 0, slots := 0, locals := 97 } : Room) (va_Pc [.ref (r 0), .int t, .int w] (wA D vwCl (tyA cA) e0 (xM cA r) (u, a) sz)) (va_Qi (fun (v : Int32) (z : sM) => v = aSite g T t w ∧ MI z.1 z.2 g T R so ln ce f tr) (wB D vwCl (tyA cA) (xM cA r) (va_A (xM cA r (u, a)) sz)) (va_A (xM cA r (u, a)) sz)) 0 0 (va_A (xM cA r (u, a)) sz) := by
  refine Met.ofW (cc := cX10_site) (maxL := 7) (ret := (some .int)) (by decide) rfl ?_
  intro p e s m args below meth c s₁ B hml hv
  obtain ⟨rfl, hsz, hP, hK, hD0, hE⟩ := hv
  have hx := B.exec
  have hb := B.bytes
  have hr := B.returns
  have hts := atoms_spec (ws := wsX10_site) B.pre
  have hown : s.vm.findClass RX10 = some m.cls := findClass_of_methodNamed B.named
  have hlocks := B.notSynchronized
  subst hsz
  have hD := hD0.self (sz := s.heap.size)
  generalize hAe : va_A (xM cA r (u, a)) s.heap.size = A at hD hE ⊢
  have hA : ∀ q : Nat, s.heap.size ≤ q → A q := fun q h => by rw [← hAe]; exact Or.inr h
  have hS : va_S A s.heap s.heap [] := va_S.rf
  have hinX10 : ∀ w ∈ u_ws RX10 TX10 34, w ∈ wsX10_site := by decide +kernel
  have hl := lv_entry ([.ref (r 0), .int t, .int w]) (n := 7) (Nat.le_of_ble_eq_true rfl)
  rw [lg_entry_eq]
  generalize (lg_sl ([.ref (r 0), .int t, .int w]) ++ List.replicate (7 - (lg_sl ([.ref (r 0), .int t, .int w])).length) Slot.unset).toArray = ls at hl ⊢
  have hl : lv_has ls 7 [(0, .ref (r 0)), (1, .int t), (2, .int w)] := hl
  have hM := hI.1
  have hB := hI.2.1
  have hg6 := hB.1
  have hRd := hI.2.2.1
  have hSh := hI.2.2.2.1
  have hf0 := hI.2.2.2.2.1
  have htr := hI.2.2.2.2.2
  refine lv_aload_n hx hb dX10_site_0 rfl (lv_at hl 0 rfl) ?_
  refine va_get (D := D) (ci := 10) (v := .int (nI (g 0))) (C := RX10) (T := TX10) (N := 34) hx hb hts hinX10 hown hK hP 0 rfl rfl 5 (by decide) (hts (.fieldLink RX10 90 "OneNailModel" "things" "I") (by decide +kernel)) (fun _ h9 => h9) (congrArg (fun z => some (Value.int z)) (hM.1)) dX10_site_1 ?_
  refine rz_ne (x := g 0) (tgt := 10) hx hb (by omega) dX10_site_4 (by decide) (fun c_1 => ?_) (fun c_1 => ?_)
  · refine lv_iload_n hx hb dX10_site_10 rfl (lv_at hl 1 rfl) ?_
    refine lv_iconst (v := (nI 1)) hx hb dX10_site_11 rfl ?_
    refine lv_sipush (v := (nI 300)) hx hb dX10_site_12 rfl ?_
    refine wSi (As := [.int t, .int (nI 1), .int (nI 300)]) (rest := []) ⟨hx, hb, hml, hown, hts⟩ (kX10_within l t (nI 1) (nI 300)) (va_cwS 3 hts gX10_site_X10_within rfl rfl rfl (by decide +kernel) ⟨Nat.le_of_ble_eq_true rfl, Nat.le_of_ble_eq_true rfl⟩) rfl hl.1 rfl (Nat.le_of_ble_eq_true rfl) dX10_site_15 ⟨Nat.zero_le _, Nat.zero_le _⟩ (fun rv_2 hw_3 => ?_)
    rcases hw_3 with ⟨rfl, b_4⟩ | ⟨rfl, b_4⟩
    · obtain ⟨t0, ht1, ht2, ht3, ht4⟩ := inR_of (show inR t 1 300 from b_4) (by decide) (by decide)
      have hl : lv_has ls 7 [(0, .ref (r 0)), (1, .int (nI t0)), (2, .int w)] := lv_re hl 1 ⟨rfl, rfl⟩ (ht1)
      refine lv_if_eq (tgt := 30) hx hb dX10_site_18 (by decide) (fun c_5 => absurd c_5 (by decide)) (fun _ => ?_)
      refine lv_iload_n hx hb dX10_site_21 rfl (lv_at hl 2 rfl) ?_
      refine lv_iconst (v := (nI 0)) hx hb dX10_site_22 rfl ?_
      refine lv_iconst (v := (nI 1)) hx hb dX10_site_23 rfl ?_
      refine wSi (As := [.int w, .int (nI 0), .int (nI 1)]) (rest := []) ⟨hx, hb, hml, hown, hts⟩ (kX10_within l w (nI 0) (nI 1)) (va_cwS 3 hts gX10_site_X10_within rfl rfl rfl (by decide +kernel) ⟨Nat.le_of_ble_eq_true rfl, Nat.le_of_ble_eq_true rfl⟩) rfl hl.1 rfl (Nat.le_of_ble_eq_true rfl) dX10_site_24 ⟨Nat.zero_le _, Nat.zero_le _⟩ (fun rv_6 hw_7 => ?_)
      rcases hw_7 with ⟨rfl, b_8⟩ | ⟨rfl, b_8⟩
      · refine lv_if_ne (tgt := 33) hx hb dX10_site_27 (by decide) (fun _ => ?_) (fun c_9 => absurd c_9 (by decide))
        refine lv_aload_n hx hb dX10_site_33 rfl (lv_at hl 0 rfl) ?_
        refine va_get (D := D) (ci := 10) (v := .int (nI (g 1))) (C := RX10) (T := TX10) (N := 34) hx hb hts hinX10 hown hK hP 0 rfl rfl 6 (by decide) (hts (.fieldLink RX10 117 "OneNailModel" "home" "I") (by decide +kernel)) (fun _ h9 => h9) (congrArg (fun z => some (Value.int z)) (hM.2.1)) dX10_site_34 ?_
        refine lv_istore_n (lv' := [(3, .int (nI (g 1))), (0, .ref (r 0)), (1, .int (nI t0)), (2, .int w)]) hx hb dX10_site_37 rfl hl (by decide) rfl (fun ls hl => ?_)
        refine lv_bipush (v := (-9)) hx hb dX10_site_38 (by decide) ?_
        refine lv_istore (lv' := [(4, .int (-9)), (3, .int (nI (g 1))), (0, .ref (r 0)), (1, .int (nI t0)), (2, .int w)]) hx hb dX10_site_40 hl (by decide) rfl (fun ls hl => ?_)
        refine lv_bipush (v := (-9)) hx hb dX10_site_42 (by decide) ?_
        refine lv_istore (lv' := [(5, .int (-9)), (4, .int (-9)), (3, .int (nI (g 1))), (0, .ref (r 0)), (1, .int (nI t0)), (2, .int w)]) hx hb dX10_site_44 hl (by decide) rfl (fun ls hl => ?_)
        refine lv_aload_n hx hb dX10_site_46 rfl (lv_at hl 3 rfl) ?_
        refine lv_iconst (v := (nI 0)) hx hb dX10_site_47 rfl ?_
        refine va_put (D := D) (ci := 10) (v := .int (nI 0)) (ty := .int) (C := RX10) (T := TX10) (N := 34) hx hb hts hinX10 tyX10 tyX10_ok nmX10 hown hK hP hD hS 0 rfl rfl 6 (by decide) (hts (.fieldLink RX10 117 "OneNailModel" "home" "I") (by decide +kernel)) (fun _ h9 => h9) rfl (by decide +kernel) rfl rfl (Nat.le_of_ble_eq_true rfl) dX10_site_48 (fun H locs hP hD hS => ?_)
        have hP : va_P D vwCl (xM cA r ((upd u 6 (nI 0)), a)) H := hP
        have hD : va_D A (xM cA r ((upd u 6 (nI 0)), a)) := hD
        refine wLoop (τ := Nat × Int32 × Int32 × (Nat → Int32) × (Nat → Nat → Int32)) (fun z H locs ls => (fun (x7 : Nat) (l4 : Int32) (l5 : Int32) (u1051 : (Nat → Int32)) (a1051 : (Nat → Nat → Int32)) => (x7 ≤ 10) ∧ (u1051 6 = nI x7) ∧ ((x7 = 0 ∧ l4 = -9 ∧ l5 = -9) ∨ (0 < x7 ∧ l4 = nI (am (ws g T t0) (x7 - 1)) ∧ l5 = nI (ws g T t0 (am (ws g T t0) (x7 - 1))))) ∧ (∀ i : Nat, i ≠ 6 → i ≠ 22 → i ≠ 25 → u1051 i = u i) ∧ (∀ i : Nat, i ≠ 21 → i ≠ 23 → i ≠ 24 → i ≠ 26 → i ≠ 28 → a1051 i = a i) ∧ (va_P D vwCl (xM cA r (u1051, a1051)) H) ∧ (va_D A (xM cA r (u1051, a1051))) ∧ (va_S A s.heap H locs) ∧ (lv_has ls 7 [(4, .int l4), (5, .int l5), (3, .int (nI (g 1))), (0, .ref (r 0)), (1, .int (nI t0)), (2, .int w)])) z.1 z.2.1 z.2.2.1 z.2.2.2.1 z.2.2.2.2) (fun z => (fun (x7 : Nat) (l4 : Int32) (l5 : Int32) (u1051 : (Nat → Int32)) (a1051 : (Nat → Nat → Int32)) => 10 - x7) z.1 z.2.1 z.2.2.1 z.2.2.2.1 z.2.2.2.2) (0, (-9), (-9), (upd u 6 (nI 0)), a) ⟨(show 0 ≤ 10 from Nat.zero_le _), (show (upd u 6 (nI 0)) 6 = nI 0 from rfl), (show (0 = 0 ∧ (-9) = -9 ∧ (-9) = -9) ∨ (0 < 0 ∧ (-9) = nI (am (ws g T t0) (0 - 1)) ∧ (-9) = nI (ws g T t0 (am (ws g T t0) (0 - 1)))) from (Or.inl ⟨rfl, rfl, rfl⟩)), (fun i h6 h22 h25 => up_ne h6), (fun i h21 h23 h24 h26 h28 => rfl), hP, hD, hS, lv_sub hl [1, 0, 2, 3, 4, 5] rfl⟩ ?_
        rintro ⟨x7, l4, l5, u1051, a1051⟩ H locs ls ⟨hx7, hu6, hac, hfu51, hfa51, hP, hD, hS, hl⟩ ih51
        have hx7 : x7 ≤ 10 := hx7
        have hu6 : u1051 6 = nI x7 := hu6
        have hac : (x7 = 0 ∧ l4 = -9 ∧ l5 = -9) ∨ (0 < x7 ∧ l4 = nI (am (ws g T t0) (x7 - 1)) ∧ l5 = nI (ws g T t0 (am (ws g T t0) (x7 - 1)))) := hac
        have hfu51 : ∀ i : Nat, i ≠ 6 → i ≠ 22 → i ≠ 25 → u1051 i = u i := hfu51
        have hfa51 : ∀ i : Nat, i ≠ 21 → i ≠ 23 → i ≠ 24 → i ≠ 26 → i ≠ 28 → a1051 i = a i := hfa51
        have hP : va_P D vwCl (xM cA r (u1051, a1051)) H := hP
        have hD : va_D A (xM cA r (u1051, a1051)) := hD
        have hl : lv_has ls 7 [(4, .int l4), (5, .int l5), (3, .int (nI (g 1))), (0, .ref (r 0)), (1, .int (nI t0)), (2, .int w)] := hl
        refine lv_aload_n hx hb dX10_site_51 rfl (lv_at hl 3 rfl) ?_
        refine va_get (D := D) (ci := 10) (v := .int (nI x7)) (C := RX10) (T := TX10) (N := 34) hx hb hts hinX10 hown hK hP 0 rfl rfl 6 (by decide) (hts (.fieldLink RX10 117 "OneNailModel" "home" "I") (by decide +kernel)) (fun _ h9 => h9) (congrArg (fun z => some (Value.int z)) (hu6)) dX10_site_52 ?_
        refine lv_bipush (v := (nI 9)) hx hb dX10_site_55 rfl ?_
        refine rn_gt (x := x7) (y := 9) (tgt := 108) hx hb (by omega) (by omega) dX10_site_57 (by decide) (fun c_10 => ?_) (fun c_10 => ?_)
        · have hac9 := hac.resolve_left (fun w7 => by omega)
          have hx10 : x7 - 1 = 9 := by omega
          rw [hx10] at hac9
          have hl : lv_has ls 7 [(4, .int (nI (am (ws g T t0) 9))), (5, .int l5), (3, .int (nI (g 1))), (0, .ref (r 0)), (1, .int (nI t0)), (2, .int w)] := lv_re hl 0 ⟨rfl, rfl⟩ (hac9.2.1)
          have hl : lv_has ls 7 [(4, .int (nI (am (ws g T t0) 9))), (5, .int (nI (ws g T t0 (am (ws g T t0) 9)))), (3, .int (nI (g 1))), (0, .ref (r 0)), (1, .int (nI t0)), (2, .int w)] := lv_re hl 1 ⟨rfl, rfl⟩ (hac9.2.2)
          refine lv_aload_n hx hb dX10_site_108 rfl (lv_at hl 3 rfl) ?_
          refine lv_iload_n hx hb dX10_site_109 rfl (lv_at hl 2 rfl) ?_
          refine va_put (D := D) (ci := 10) (v := .int (nI (g 1))) (ty := .int) (C := RX10) (T := TX10) (N := 34) hx hb hts hinX10 tyX10 tyX10_ok nmX10 hown hK hP hD hS 0 rfl rfl 6 (by decide) (hts (.fieldLink RX10 117 "OneNailModel" "home" "I") (by decide +kernel)) (fun _ h9 => h9) rfl (by decide +kernel) rfl rfl (Nat.le_of_ble_eq_true rfl) dX10_site_110 (fun H locs hP hD hS => ?_)
          have hP : va_P D vwCl (xM cA r ((upd u1051 6 (nI (g 1))), a1051)) H := hP
          have hD : va_D A (xM cA r ((upd u1051 6 (nI (g 1))), a1051)) := hD
          refine lv_iload_n hx hb dX10_site_113 rfl (lv_at hl 5 rfl) ?_
          refine lv_if_ne (tgt := 122) hx hb dX10_site_114 (by decide) (fun c_11 => ?_) (fun c_11 => ?_)
          · refine lv_iload hx hb dX10_site_122 (lv_at hl 1 rfl) ?_
            exact wIret hx hb hr hlocks (v := (nI (ws g T t0 (am (ws g T t0) 9)))) ((upd u1051 6 (nI (g 1))), a1051) (⟨by unfold aSite; rw [cif_neg (by omega), cif_pos ⟨b_4, b_8⟩, cif_neg c_11, ht4], (MI.keep hI ((hfu51 0 (by decide) (by decide) (by decide)).trans hf0) ((hfu51 1 (by decide) (by decide) (by decide)).trans htr) (hfu51 5 (by decide) (by decide) (by decide)) hM.2.1.symm (hfu51 7 (by decide) (by decide) (by decide)) (hfu51 30 (by decide) (by decide) (by decide)) (hfa51 2 (by decide) (by decide) (by decide) (by decide) (by decide)) (hfa51 3 (by decide) (by decide) (by decide) (by decide) (by decide)) (hfa51 4 (by decide) (by decide) (by decide) (by decide) (by decide)) (hfa51 8 (by decide) (by decide) (by decide) (by decide) (by decide)) (hfa51 9 (by decide) (by decide) (by decide) (by decide) (by decide)) (hfa51 10 (by decide) (by decide) (by decide) (by decide) (by decide)) (hfa51 11 (by decide) (by decide) (by decide) (by decide) (by decide)) (hfa51 12 (by decide) (by decide) (by decide) (by decide) (by decide)) (hfa51 31 (by decide) (by decide) (by decide) (by decide) (by decide)) (hfa51 32 (by decide) (by decide) (by decide) (by decide) (by decide)) (hfa51 33 (by decide) (by decide) (by decide) (by decide) (by decide)))⟩) hK hP hD hS dX10_site_124
          · refine lv_iload hx hb dX10_site_117 (lv_at hl 0 rfl) ?_
            refine lv_goto (tgt := 124) hx hb dX10_site_119 (by decide) ?_
            exact wIret hx hb hr hlocks (v := (nI (am (ws g T t0) 9))) ((upd u1051 6 (nI (g 1))), a1051) (⟨by unfold aSite; rw [cif_neg (by omega), cif_pos ⟨b_4, b_8⟩, cif_pos c_11, ht4], (MI.keep hI ((hfu51 0 (by decide) (by decide) (by decide)).trans hf0) ((hfu51 1 (by decide) (by decide) (by decide)).trans htr) (hfu51 5 (by decide) (by decide) (by decide)) hM.2.1.symm (hfu51 7 (by decide) (by decide) (by decide)) (hfu51 30 (by decide) (by decide) (by decide)) (hfa51 2 (by decide) (by decide) (by decide) (by decide) (by decide)) (hfa51 3 (by decide) (by decide) (by decide) (by decide) (by decide)) (hfa51 4 (by decide) (by decide) (by decide) (by decide) (by decide)) (hfa51 8 (by decide) (by decide) (by decide) (by decide) (by decide)) (hfa51 9 (by decide) (by decide) (by decide) (by decide) (by decide)) (hfa51 10 (by decide) (by decide) (by decide) (by decide) (by decide)) (hfa51 11 (by decide) (by decide) (by decide) (by decide) (by decide)) (hfa51 12 (by decide) (by decide) (by decide) (by decide) (by decide)) (hfa51 31 (by decide) (by decide) (by decide) (by decide) (by decide)) (hfa51 32 (by decide) (by decide) (by decide) (by decide) (by decide)) (hfa51 33 (by decide) (by decide) (by decide) (by decide) (by decide)))⟩) hK hP hD hS dX10_site_124
        · refine lv_aload_n hx hb dX10_site_60 rfl (lv_at hl 3 rfl) ?_
          refine lv_aload_n hx hb dX10_site_61 rfl (lv_at hl 3 rfl) ?_
          refine wVi e0_S (As := []) (rest := [.ref (r 0)]) ⟨hx, hb, hml, hown, hts⟩ (kX10_all l D cA r _ u1051 a1051 (gu g 1 x7) T (MT_gu1 hM (hfu51 5 (by decide) (by decide) (by decide)) (hu6) (hfu51 7 (by decide) (by decide) (by decide)) (hfa51 8 (by decide) (by decide) (by decide) (by decide) (by decide)) (hfa51 9 (by decide) (by decide) (by decide) (by decide) (by decide)) (hfa51 10 (by decide) (by decide) (by decide) (by decide) (by decide)) (hfa51 11 (by decide) (by decide) (by decide) (by decide) (by decide)) (hfa51 12 (by decide) (by decide) (by decide) (by decide) (by decide))) (TB_gu1 hB (by omega))) (cwV 0 hts gX10_site_X10_all rfl rfl rfl (by decide +kernel) ⟨Nat.le_of_ble_eq_true rfl, Nat.le_of_ble_eq_true rfl⟩) (va_recv hK hP (ci := 10) (q0 := 0) rfl rfl) hK hP hD hS hA hE rfl hl.1 rfl (Nat.le_of_ble_eq_true rfl) dX10_site_62 ⟨Nat.zero_le _, Nat.zero_le _⟩ (fun rv_12 z_14 H locs hw_13 hP hD hS => ?_)
          obtain ⟨rfl, rfl⟩ := hw_13
          have hP : va_P D vwCl (xM cA r (u1051, a1051)) H := hP
          have hD : va_D A (xM cA r (u1051, a1051)) := hD
          refine lv_iload_n hx hb dX10_site_65 rfl (lv_at hl 4 rfl) ?_
          refine wVi e0_S (As := [.int (nI (2 ^ g 0 - 1)), .int (nI t0)]) (rest := []) ⟨hx, hb, hml, hown, hts⟩ (kX10_leastHarm l D cA r _ u1051 a1051 (gu g 1 x7) T (2 ^ g 0 - 1) t0 (MT_gu1 hM (hfu51 5 (by decide) (by decide) (by decide)) (hu6) (hfu51 7 (by decide) (by decide) (by decide)) (hfa51 8 (by decide) (by decide) (by decide) (by decide) (by decide)) (hfa51 9 (by decide) (by decide) (by decide) (by decide) (by decide)) (hfa51 10 (by decide) (by decide) (by decide) (by decide) (by decide)) (hfa51 11 (by decide) (by decide) (by decide) (by decide) (by decide)) (hfa51 12 (by decide) (by decide) (by decide) (by decide) (by decide))) (TB_gu1 hB (by omega)) (by omega) (all_lt _) (ol (2 ^ g 0 - 1) (g 0)) rfl) (cwV 2 hts gX10_site_X10_leastHarm rfl rfl rfl (by decide +kernel) ⟨Nat.le_of_ble_eq_true rfl, Nat.le_of_ble_eq_true rfl⟩) (va_recv hK hP (ci := 10) (q0 := 0) rfl rfl) hK hP hD hS hA hE rfl hl.1 rfl (Nat.le_of_ble_eq_true rfl) dX10_site_66 ⟨Nat.zero_le _, Nat.zero_le _⟩ (fun rv_15 z_17 H locs hw_16 hP hD hS => ?_)
          obtain ⟨zu18, za19⟩ := z_17
          obtain ⟨rfl, hbr_zu18, hfu_zu18, hfa_zu18⟩ := hw_16
          have hbr_zu18 : ∀ i, i < ol (2 ^ g 0 - 1) (g 0) → za19 28 i = nI (dg (BF (gu g 1 x7) T (2 ^ g 0 - 1) t0).2 i) := hbr_zu18
          have hfu_zu18 : ∀ i, i ≠ 22 → i ≠ 25 → zu18 i = u1051 i := hfu_zu18
          have hfa_zu18 : ∀ i, i ≠ 21 → i ≠ 23 → i ≠ 24 → i ≠ 26 → i ≠ 28 → za19 i = a1051 i := hfa_zu18
          have hP : va_P D vwCl (xM cA r (zu18, za19)) H := hP
          have hD : va_D A (xM cA r (zu18, za19)) := hD
          refine lv_istore (lv' := [(6, .int (nI ((BF (gu g 1 x7) T (2 ^ g 0 - 1) t0).1))), (4, .int l4), (5, .int l5), (3, .int (nI (g 1))), (0, .ref (r 0)), (1, .int (nI t0)), (2, .int w)]) hx hb dX10_site_69 hl (by decide) rfl (fun ls hl => ?_)
          have hwx : (BF (gu g 1 x7) T (2 ^ g 0 - 1) t0).1 = ws g T t0 x7 := rfl
          have hwl := BF_le (t := t0) (TB_gu1 hB (show x7 ≤ 9 by omega)) (show (2 ^ g 0 - 1) < 2 ^ (gu g 1 x7) 0 from all_lt _) (by omega)
          rcases hac with ⟨hx0, hl4, hl5⟩ | ⟨hx0, hl4, hl5⟩
          · have hl : lv_has ls 7 [(6, .int (nI ((BF (gu g 1 x7) T (2 ^ g 0 - 1) t0).1))), (4, .int (-9)), (5, .int l5), (3, .int (nI (g 1))), (0, .ref (r 0)), (1, .int (nI t0)), (2, .int w)] := lv_re hl 1 ⟨rfl, rfl⟩ (hl4)
            have hl : lv_has ls 7 [(6, .int (nI ((BF (gu g 1 x7) T (2 ^ g 0 - 1) t0).1))), (4, .int (-9)), (5, .int (-9)), (3, .int (nI (g 1))), (0, .ref (r 0)), (1, .int (nI t0)), (2, .int w)] := lv_re hl 2 ⟨rfl, rfl⟩ (hl5)
            refine lv_iload hx hb dX10_site_71 (lv_at hl 1 rfl) ?_
            refine lv_bipush (v := (-9)) hx hb dX10_site_73 (by decide) ?_
            refine lv_icmp_eq (tgt := 85) hx hb dX10_site_75 (by decide) (fun _ => ?_) (fun c_20 => absurd c_20 (by decide))
            refine lv_aload_n hx hb dX10_site_85 rfl (lv_at hl 4 rfl) ?_
            refine va_get (D := D) (ci := 10) (v := .int (nI x7)) (C := RX10) (T := TX10) (N := 34) hx hb hts hinX10 hown hK hP 0 rfl rfl 6 (by decide) (hts (.fieldLink RX10 117 "OneNailModel" "home" "I") (by decide +kernel)) (fun _ h9 => h9) (congrArg (fun z => some (Value.int z)) ((hfu_zu18 6 (by decide) (by decide)).trans (hu6))) dX10_site_86 ?_
            refine lv_istore (lv' := [(4, .int (nI x7)), (6, .int (nI ((BF (gu g 1 x7) T (2 ^ g 0 - 1) t0).1))), (5, .int (-9)), (3, .int (nI (g 1))), (0, .ref (r 0)), (1, .int (nI t0)), (2, .int w)]) hx hb dX10_site_89 hl (by decide) rfl (fun ls hl => ?_)
            refine lv_iload hx hb dX10_site_91 (lv_at hl 1 rfl) ?_
            refine lv_istore (lv' := [(5, .int (nI ((BF (gu g 1 x7) T (2 ^ g 0 - 1) t0).1))), (4, .int (nI x7)), (6, .int (nI ((BF (gu g 1 x7) T (2 ^ g 0 - 1) t0).1))), (3, .int (nI (g 1))), (0, .ref (r 0)), (1, .int (nI t0)), (2, .int w)]) hx hb dX10_site_93 hl (by decide) rfl (fun ls hl => ?_)
            refine lv_aload_n hx hb dX10_site_95 rfl (lv_at hl 4 rfl) ?_
            refine lv_dup hx hb dX10_site_96 rfl ?_
            refine va_get (D := D) (ci := 10) (v := .int (nI x7)) (C := RX10) (T := TX10) (N := 34) hx hb hts hinX10 hown hK hP 0 rfl rfl 6 (by decide) (hts (.fieldLink RX10 117 "OneNailModel" "home" "I") (by decide +kernel)) (fun _ h9 => h9) (congrArg (fun z => some (Value.int z)) ((hfu_zu18 6 (by decide) (by decide)).trans (hu6))) dX10_site_97 ?_
            refine lv_iconst (v := (nI 1)) hx hb dX10_site_100 rfl ?_
            refine rn_iadd (x := x7) (y := 1) hx hb dX10_site_101 ?_
            refine va_put (D := D) (ci := 10) (v := .int (nI (x7 + 1))) (ty := .int) (C := RX10) (T := TX10) (N := 34) hx hb hts hinX10 tyX10 tyX10_ok nmX10 hown hK hP hD hS 0 rfl rfl 6 (by decide) (hts (.fieldLink RX10 117 "OneNailModel" "home" "I") (by decide +kernel)) (fun _ h9 => h9) rfl (by decide +kernel) rfl rfl (Nat.le_of_ble_eq_true rfl) dX10_site_102 (fun H locs hP hD hS => ?_)
            have hP : va_P D vwCl (xM cA r ((upd zu18 6 (nI (x7 + 1))), za19)) H := hP
            have hD : va_D A (xM cA r ((upd zu18 6 (nI (x7 + 1))), za19)) := hD
            refine lv_goto (tgt := 51) hx hb dX10_site_105 (by decide) ?_
            exact ih51 ((x7 + 1), (nI x7), (nI ((BF (gu g 1 x7) T (2 ^ g 0 - 1) t0).1)), (upd zu18 6 (nI (x7 + 1))), za19) _ _ _ (show 10 - (x7 + 1) < 10 - x7 from by omega) ⟨(show (x7 + 1) ≤ 10 from by omega), (show (upd zu18 6 (nI (x7 + 1))) 6 = nI (x7 + 1) from rfl), (show ((x7 + 1) = 0 ∧ (nI x7) = -9 ∧ (nI ((BF (gu g 1 x7) T (2 ^ g 0 - 1) t0).1)) = -9) ∨ (0 < (x7 + 1) ∧ (nI x7) = nI (am (ws g T t0) ((x7 + 1) - 1)) ∧ (nI ((BF (gu g 1 x7) T (2 ^ g 0 - 1) t0).1)) = nI (ws g T t0 (am (ws g T t0) ((x7 + 1) - 1)))) from (Or.inr ⟨by omega, congrArg nI (by rw [hx0]; rfl), congrArg nI (by rw [hx0]; rfl)⟩)), (fun i h6 h22 h25 => Eq.trans (up_ne h6) (Eq.trans (hfu_zu18 i h22 h25) (hfu51 i h6 h22 h25))), (fun i h21 h23 h24 h26 h28 => Eq.trans (hfa_zu18 i h21 h23 h24 h26 h28) (hfa51 i h21 h23 h24 h26 h28)), hP, hD, hS, lv_sub hl [1, 0, 3, 4, 5, 6] rfl⟩
          · have ham := am_le (ws g T t0) (x7 - 1)
            have hwm : ws g T t0 (am (ws g T t0) (x7 - 1)) ≤ 20000 := BF_le (t := t0) (TB_gu1 hB (show am (ws g T t0) (x7 - 1) ≤ 9 by omega)) (show (2 ^ g 0 - 1) < 2 ^ (gu g 1 (am (ws g T t0) (x7 - 1))) 0 from all_lt _) (by omega)
            have hl : lv_has ls 7 [(6, .int (nI ((BF (gu g 1 x7) T (2 ^ g 0 - 1) t0).1))), (4, .int (nI (am (ws g T t0) (x7 - 1)))), (5, .int l5), (3, .int (nI (g 1))), (0, .ref (r 0)), (1, .int (nI t0)), (2, .int w)] := lv_re hl 1 ⟨rfl, rfl⟩ (hl4)
            have hl : lv_has ls 7 [(6, .int (nI ((BF (gu g 1 x7) T (2 ^ g 0 - 1) t0).1))), (4, .int (nI (am (ws g T t0) (x7 - 1)))), (5, .int (nI (ws g T t0 (am (ws g T t0) (x7 - 1))))), (3, .int (nI (g 1))), (0, .ref (r 0)), (1, .int (nI t0)), (2, .int w)] := lv_re hl 2 ⟨rfl, rfl⟩ (hl5)
            refine lv_iload hx hb dX10_site_71 (lv_at hl 1 rfl) ?_
            refine lv_bipush (v := (-9)) hx hb dX10_site_73 (by decide) ?_
            refine lv_icmp_eq (tgt := 85) hx hb dX10_site_75 (by decide) (fun c_21 => absurd c_21 (nI_ne9 (by omega))) (fun c_21 => ?_)
            refine lv_iload hx hb dX10_site_78 (lv_at hl 0 rfl) ?_
            refine lv_iload hx hb dX10_site_80 (lv_at hl 2 rfl) ?_
            refine rn_ge (x := (BF (gu g 1 x7) T (2 ^ g 0 - 1) t0).1) (y := ws g T t0 (am (ws g T t0) (x7 - 1))) (tgt := 95) hx hb (by omega) (by omega) dX10_site_82 (by decide) (fun c_22 => ?_) (fun c_22 => ?_)
            · refine lv_aload_n hx hb dX10_site_95 rfl (lv_at hl 4 rfl) ?_
              refine lv_dup hx hb dX10_site_96 rfl ?_
              refine va_get (D := D) (ci := 10) (v := .int (nI x7)) (C := RX10) (T := TX10) (N := 34) hx hb hts hinX10 hown hK hP 0 rfl rfl 6 (by decide) (hts (.fieldLink RX10 117 "OneNailModel" "home" "I") (by decide +kernel)) (fun _ h9 => h9) (congrArg (fun z => some (Value.int z)) ((hfu_zu18 6 (by decide) (by decide)).trans (hu6))) dX10_site_97 ?_
              refine lv_iconst (v := (nI 1)) hx hb dX10_site_100 rfl ?_
              refine rn_iadd (x := x7) (y := 1) hx hb dX10_site_101 ?_
              refine va_put (D := D) (ci := 10) (v := .int (nI (x7 + 1))) (ty := .int) (C := RX10) (T := TX10) (N := 34) hx hb hts hinX10 tyX10 tyX10_ok nmX10 hown hK hP hD hS 0 rfl rfl 6 (by decide) (hts (.fieldLink RX10 117 "OneNailModel" "home" "I") (by decide +kernel)) (fun _ h9 => h9) rfl (by decide +kernel) rfl rfl (Nat.le_of_ble_eq_true rfl) dX10_site_102 (fun H locs hP hD hS => ?_)
              have hP : va_P D vwCl (xM cA r ((upd zu18 6 (nI (x7 + 1))), za19)) H := hP
              have hD : va_D A (xM cA r ((upd zu18 6 (nI (x7 + 1))), za19)) := hD
              refine lv_goto (tgt := 51) hx hb dX10_site_105 (by decide) ?_
              have hay : am (ws g T t0) x7 = am (ws g T t0) (x7 - 1) := by rw [show am (ws g T t0) x7 = am (ws g T t0) (x7 - 1 + 1) by rw [show x7 - 1 + 1 = x7 by omega]]; exact am_no (by rw [show x7 - 1 + 1 = x7 by omega]; exact Nat.not_lt.mpr c_22)
              exact ih51 ((x7 + 1), (nI (am (ws g T t0) (x7 - 1))), (nI (ws g T t0 (am (ws g T t0) (x7 - 1)))), (upd zu18 6 (nI (x7 + 1))), za19) _ _ _ (show 10 - (x7 + 1) < 10 - x7 from by omega) ⟨(show (x7 + 1) ≤ 10 from by omega), (show (upd zu18 6 (nI (x7 + 1))) 6 = nI (x7 + 1) from rfl), (show ((x7 + 1) = 0 ∧ (nI (am (ws g T t0) (x7 - 1))) = -9 ∧ (nI (ws g T t0 (am (ws g T t0) (x7 - 1)))) = -9) ∨ (0 < (x7 + 1) ∧ (nI (am (ws g T t0) (x7 - 1))) = nI (am (ws g T t0) ((x7 + 1) - 1)) ∧ (nI (ws g T t0 (am (ws g T t0) (x7 - 1)))) = nI (ws g T t0 (am (ws g T t0) ((x7 + 1) - 1)))) from (Or.inr ⟨by omega, congrArg nI (by rw [show x7 + 1 - 1 = x7 by omega]; exact hay.symm), congrArg nI (by rw [show x7 + 1 - 1 = x7 by omega, hay])⟩)), (fun i h6 h22 h25 => Eq.trans (up_ne h6) (Eq.trans (hfu_zu18 i h22 h25) (hfu51 i h6 h22 h25))), (fun i h21 h23 h24 h26 h28 => Eq.trans (hfa_zu18 i h21 h23 h24 h26 h28) (hfa51 i h21 h23 h24 h26 h28)), hP, hD, hS, lv_sub hl [1, 2, 3, 4, 5, 6] rfl⟩
            · refine lv_aload_n hx hb dX10_site_85 rfl (lv_at hl 4 rfl) ?_
              refine va_get (D := D) (ci := 10) (v := .int (nI x7)) (C := RX10) (T := TX10) (N := 34) hx hb hts hinX10 hown hK hP 0 rfl rfl 6 (by decide) (hts (.fieldLink RX10 117 "OneNailModel" "home" "I") (by decide +kernel)) (fun _ h9 => h9) (congrArg (fun z => some (Value.int z)) ((hfu_zu18 6 (by decide) (by decide)).trans (hu6))) dX10_site_86 ?_
              refine lv_istore (lv' := [(4, .int (nI x7)), (6, .int (nI ((BF (gu g 1 x7) T (2 ^ g 0 - 1) t0).1))), (5, .int (nI (ws g T t0 (am (ws g T t0) (x7 - 1))))), (3, .int (nI (g 1))), (0, .ref (r 0)), (1, .int (nI t0)), (2, .int w)]) hx hb dX10_site_89 hl (by decide) rfl (fun ls hl => ?_)
              refine lv_iload hx hb dX10_site_91 (lv_at hl 1 rfl) ?_
              refine lv_istore (lv' := [(5, .int (nI ((BF (gu g 1 x7) T (2 ^ g 0 - 1) t0).1))), (4, .int (nI x7)), (6, .int (nI ((BF (gu g 1 x7) T (2 ^ g 0 - 1) t0).1))), (3, .int (nI (g 1))), (0, .ref (r 0)), (1, .int (nI t0)), (2, .int w)]) hx hb dX10_site_93 hl (by decide) rfl (fun ls hl => ?_)
              refine lv_aload_n hx hb dX10_site_95 rfl (lv_at hl 4 rfl) ?_
              refine lv_dup hx hb dX10_site_96 rfl ?_
              refine va_get (D := D) (ci := 10) (v := .int (nI x7)) (C := RX10) (T := TX10) (N := 34) hx hb hts hinX10 hown hK hP 0 rfl rfl 6 (by decide) (hts (.fieldLink RX10 117 "OneNailModel" "home" "I") (by decide +kernel)) (fun _ h9 => h9) (congrArg (fun z => some (Value.int z)) ((hfu_zu18 6 (by decide) (by decide)).trans (hu6))) dX10_site_97 ?_
              refine lv_iconst (v := (nI 1)) hx hb dX10_site_100 rfl ?_
              refine rn_iadd (x := x7) (y := 1) hx hb dX10_site_101 ?_
              refine va_put (D := D) (ci := 10) (v := .int (nI (x7 + 1))) (ty := .int) (C := RX10) (T := TX10) (N := 34) hx hb hts hinX10 tyX10 tyX10_ok nmX10 hown hK hP hD hS 0 rfl rfl 6 (by decide) (hts (.fieldLink RX10 117 "OneNailModel" "home" "I") (by decide +kernel)) (fun _ h9 => h9) rfl (by decide +kernel) rfl rfl (Nat.le_of_ble_eq_true rfl) dX10_site_102 (fun H locs hP hD hS => ?_)
              have hP : va_P D vwCl (xM cA r ((upd zu18 6 (nI (x7 + 1))), za19)) H := hP
              have hD : va_D A (xM cA r ((upd zu18 6 (nI (x7 + 1))), za19)) := hD
              refine lv_goto (tgt := 51) hx hb dX10_site_105 (by decide) ?_
              have hay : am (ws g T t0) x7 = x7 := by rw [show x7 = x7 - 1 + 1 by omega]; exact am_yes (by rw [show x7 - 1 + 1 = x7 by omega]; exact c_22)
              exact ih51 ((x7 + 1), (nI x7), (nI ((BF (gu g 1 x7) T (2 ^ g 0 - 1) t0).1)), (upd zu18 6 (nI (x7 + 1))), za19) _ _ _ (show 10 - (x7 + 1) < 10 - x7 from by omega) ⟨(show (x7 + 1) ≤ 10 from by omega), (show (upd zu18 6 (nI (x7 + 1))) 6 = nI (x7 + 1) from rfl), (show ((x7 + 1) = 0 ∧ (nI x7) = -9 ∧ (nI ((BF (gu g 1 x7) T (2 ^ g 0 - 1) t0).1)) = -9) ∨ (0 < (x7 + 1) ∧ (nI x7) = nI (am (ws g T t0) ((x7 + 1) - 1)) ∧ (nI ((BF (gu g 1 x7) T (2 ^ g 0 - 1) t0).1)) = nI (ws g T t0 (am (ws g T t0) ((x7 + 1) - 1)))) from (Or.inr ⟨by omega, congrArg nI (by rw [show x7 + 1 - 1 = x7 by omega]; exact hay.symm), congrArg nI (by rw [show x7 + 1 - 1 = x7 by omega, hay]; rfl)⟩)), (fun i h6 h22 h25 => Eq.trans (up_ne h6) (Eq.trans (hfu_zu18 i h22 h25) (hfu51 i h6 h22 h25))), (fun i h21 h23 h24 h26 h28 => Eq.trans (hfa_zu18 i h21 h23 h24 h26 h28) (hfa51 i h21 h23 h24 h26 h28)), hP, hD, hS, lv_sub hl [1, 0, 3, 4, 5, 6] rfl⟩
      · refine lv_if_ne (tgt := 33) hx hb dX10_site_27 (by decide) (fun c_23 => absurd c_23 (by decide)) (fun _ => ?_)
        refine lv_bipush (v := (-2)) hx hb dX10_site_30 (by decide) ?_
        exact wIret hx hb hr hlocks (v := (-2)) (u, a) (⟨by unfold aSite; rw [cif_neg (by omega), cif_neg (fun q => b_8 q.2)], hI⟩) hK hP hD hS dX10_site_32
    · refine lv_if_eq (tgt := 30) hx hb dX10_site_18 (by decide) (fun _ => ?_) (fun c_24 => absurd c_24 (by decide))
      refine lv_bipush (v := (-2)) hx hb dX10_site_30 (by decide) ?_
      exact wIret hx hb hr hlocks (v := (-2)) (u, a) (⟨by unfold aSite; rw [cif_neg (by omega), cif_neg (fun q => b_4 q.1)], hI⟩) hK hP hD hS dX10_site_32
  · refine lv_bipush (v := (-3)) hx hb dX10_site_7 (by decide) ?_
    exact wIret hx hb hr hlocks (v := (-3)) (u, a) (⟨by unfold aSite; rw [cif_pos (by omega)], hI⟩) hK hP hD hS dX10_site_9
