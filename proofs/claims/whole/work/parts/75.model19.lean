set_option maxHeartbeats 4000000 in
set_option maxRecDepth 100000 in
theorem kX10_street (l : Launch) (D : va_G) (cA : Nat → ClassId) (r : Nat → Nat) (sz : Nat) (u : Nat → Int32) (a : Nat → Nat → Int32) (g : Nat → Nat) (T : Nat → Nat → Nat) (R : Nat → Nat → Nat) (so : Nat → Int32) (ln : Nat → Nat) (ce : Nat → Nat → Int32) (f tr : Int32) (sh lane i n : Int32) (hI : MI u a g T R so ln ce f tr) : Met l yX10_street wsX10_street ({ frames := 4, cells := 0, slots := 0, locals := 90 } : Room) (va_Pc [.ref (r 0), .int sh, .int lane, .int i, .int n] (wA D vwCl (tyA cA) e0 (xM cA r) (u, a) sz)) (va_Qi (fun (v : Int32) (z : sM) => v = aStreet so ln ce sh lane i n ∧ MI z.1 z.2 (gStreet g so ln ce sh lane i n) (tStreet T so ln ce sh lane i n) R so ln ce (fStreet so ln sh lane i n) tr) (wB D vwCl (tyA cA) (xM cA r) (va_A (xM cA r (u, a)) sz)) (va_A (xM cA r (u, a)) sz)) 0 0 (va_A (xM cA r (u, a)) sz) := by
  refine Met.ofW (cc := cX10_street) (maxL := 8) (ret := (some .int)) (by decide) rfl ?_
  intro p e s m args below meth c s₁ B hml hv
  obtain ⟨rfl, hsz, hP, hK, hD0, hE⟩ := hv
  have hx := B.exec
  have hb := B.bytes
  have hr := B.returns
  have hts := atoms_spec (ws := wsX10_street) B.pre
  have hown : s.vm.findClass RX10 = some m.cls := findClass_of_methodNamed B.named
  have hlocks := B.notSynchronized
  subst hsz
  have hD := hD0.self (sz := s.heap.size)
  generalize hAe : va_A (xM cA r (u, a)) s.heap.size = A at hD hE ⊢
  have hA : ∀ q : Nat, s.heap.size ≤ q → A q := fun q h => by rw [← hAe]; exact Or.inr h
  have hS : va_S A s.heap s.heap [] := va_S.rf
  have hinX10 : ∀ w ∈ u_ws RX10 TX10 34, w ∈ wsX10_street := by decide +kernel
  have hl := lv_entry ([.ref (r 0), .int sh, .int lane, .int i, .int n]) (n := 8) (Nat.le_of_ble_eq_true rfl)
  rw [lg_entry_eq]
  generalize (lg_sl ([.ref (r 0), .int sh, .int lane, .int i, .int n]) ++ List.replicate (8 - (lg_sl ([.ref (r 0), .int sh, .int lane, .int i, .int n])).length) Slot.unset).toArray = ls at hl ⊢
  have hl : lv_has ls 8 [(0, .ref (r 0)), (1, .int sh), (2, .int lane), (3, .int i), (4, .int n)] := hl
  have hM := hI.1
  have hB := hI.2.1
  have hg6 := hB.1
  have hRd := hI.2.2.1
  have hSh := hI.2.2.2.1
  have hf0 := hI.2.2.2.2.1
  have htr := hI.2.2.2.2.2
  refine lv_aload_n hx hb dX10_street_0 rfl (lv_at hl 0 rfl) ?_
  refine lv_iconst (v := (nI 0)) hx hb dX10_street_1 rfl ?_
  refine va_put (D := D) (ci := 10) (v := .int (nI 0)) (ty := .int) (C := RX10) (T := TX10) (N := 34) hx hb hts hinX10 tyX10 tyX10_ok nmX10 hown hK hP hD hS 0 rfl rfl 0 (by decide) (hts (.fieldLink RX10 80 "OneNailModel" "fault" "I") (by decide +kernel)) (fun _ h9 => h9) rfl (by decide +kernel) rfl rfl (Nat.le_of_ble_eq_true rfl) dX10_street_2 (fun H locs hP hD hS => ?_)
  have hP : va_P D vwCl (xM cA r ((upd u 0 (nI 0)), a)) H := hP
  have hD : va_D A (xM cA r ((upd u 0 (nI 0)), a)) := hD
  refine lv_iload_n hx hb dX10_street_5 rfl (lv_at hl 1 rfl) ?_
  refine wSi (As := [.int sh]) (rest := []) ⟨hx, hb, hml, hown, hts⟩ (kX10_isSheet l sh) (va_cwS 1 hts gX10_street_X10_isSheet rfl rfl rfl (by decide +kernel) ⟨Nat.le_of_ble_eq_true rfl, Nat.le_of_ble_eq_true rfl⟩) rfl hl.1 rfl (Nat.le_of_ble_eq_true rfl) dX10_street_6 ⟨Nat.zero_le _, Nat.zero_le _⟩ (fun rv_1 hw_2 => ?_)
  rcases hw_2 with ⟨rfl, b_3⟩ | ⟨rfl, b_3⟩
  · obtain ⟨j1, hj1, hj2, hj3, hj4⟩ := inR_of (show inR sh 0 3 from b_3) (by decide) (by decide)
    have hk4 : sh.toNatClampNeg < 4 := by omega
    have hsk := hSh _ hk4
    have hl : lv_has ls 8 [(0, .ref (r 0)), (1, .int (nI (sh.toNatClampNeg))), (2, .int lane), (3, .int i), (4, .int n)] := lv_re hl 1 ⟨rfl, rfl⟩ (by rw [hj4]; exact hj1)
    refine lv_if_ne (tgt := 14) hx hb dX10_street_9 (by decide) (fun _ => ?_) (fun c_4 => absurd c_4 (by decide))
    refine lv_iload_n hx hb dX10_street_14 rfl (lv_at hl 2 rfl) ?_
    refine wSi (As := [.int lane]) (rest := []) ⟨hx, hb, hml, hown, hts⟩ (kX10_isSort l lane) (va_cwS 1 hts gX10_street_X10_isSort rfl rfl rfl (by decide +kernel) ⟨Nat.le_of_ble_eq_true rfl, Nat.le_of_ble_eq_true rfl⟩) rfl hl.1 rfl (Nat.le_of_ble_eq_true rfl) dX10_street_15 ⟨Nat.zero_le _, Nat.zero_le _⟩ (fun rv_5 hw_6 => ?_)
    rcases hw_6 with ⟨rfl, b_7⟩ | ⟨rfl, b_7⟩
    · refine lv_if_ne (tgt := 24) hx hb dX10_street_18 (by decide) (fun _ => ?_) (fun c_8 => absurd c_8 (by decide))
      refine lv_aload_n hx hb dX10_street_24 rfl (lv_at hl 0 rfl) ?_
      refine lv_iload_n hx hb dX10_street_25 rfl (lv_at hl 1 rfl) ?_
      refine lv_iload_n hx hb dX10_street_26 rfl (lv_at hl 2 rfl) ?_
      refine lv_iload_n hx hb dX10_street_27 rfl (lv_at hl 3 rfl) ?_
      refine lv_iload hx hb dX10_street_28 (lv_at hl 4 rfl) ?_
      refine wVi e0_S (As := [.int (nI (sh.toNatClampNeg)), .int lane, .int i, .int n]) (rest := []) ⟨hx, hb, hml, hown, hts⟩ (kX10_against l D cA r _ (upd u 0 (nI 0)) a (sh.toNatClampNeg) lane i n (by omega)) (cwV 4 hts gX10_street_X10_against rfl rfl rfl (by decide +kernel) ⟨Nat.le_of_ble_eq_true rfl, Nat.le_of_ble_eq_true rfl⟩) (va_recv hK hP (ci := 10) (q0 := 0) rfl rfl) hK hP hD hS hA hE rfl hl.1 rfl (Nat.le_of_ble_eq_true rfl) dX10_street_30 ⟨Nat.zero_le _, Nat.zero_le _⟩ (fun rv_9 z_11 H locs hw_10 hP hD hS => ?_)
      obtain ⟨rfl, rfl⟩ := hw_10
      have hP : va_P D vwCl (xM cA r ((upd u 0 (nI 0)), a)) H := hP
      have hD : va_D A (xM cA r ((upd u 0 (nI 0)), a)) := hD
      refine lv_topi (fun y_12 ey_12 => ?_)
      obtain rfl : y_12 = (AG so ln sh lane i n) := ey_12.trans (by unfold AG; rw [hsk.1, hsk.2.2.1])
      refine lv_istore (lv' := [(5, .int (AG so ln sh lane i n)), (0, .ref (r 0)), (1, .int (nI (sh.toNatClampNeg))), (2, .int lane), (3, .int i), (4, .int n)]) hx hb dX10_street_33 hl (by decide) rfl (fun ls hl => ?_)
      refine lv_iload hx hb dX10_street_35 (lv_at hl 0 rfl) ?_
      refine lv_if_eq (tgt := 47) hx hb dX10_street_37 (by decide) (fun c_13 => ?_) (fun c_13 => ?_)
      · obtain ⟨i0, n0, hi0, hn0, hin, hso, hso9⟩ := ag_ok (l := ln sh.toNatClampNeg) hsk.2.2.2.1 c_13
        have hl60 := hsk.2.2.2.1
        have hl : lv_has ls 8 [(5, .int (AG so ln sh lane i n)), (0, .ref (r 0)), (1, .int (nI (sh.toNatClampNeg))), (2, .int lane), (3, .int (nI i0)), (4, .int n)] := lv_re hl 4 ⟨rfl, rfl⟩ (hi0)
        have hl : lv_has ls 8 [(5, .int (AG so ln sh lane i n)), (0, .ref (r 0)), (1, .int (nI (sh.toNatClampNeg))), (2, .int lane), (3, .int (nI i0)), (4, .int (nI n0))] := lv_re hl 5 ⟨rfl, rfl⟩ (hn0)
        have hic : i.toNatClampNeg = i0 := by rw [hi0]; exact nI_clamp (by omega)
        have hnc : n.toNatClampNeg = n0 := by rw [hn0]; exact nI_clamp (by omega)
        obtain ⟨b, hbe⟩ : ∃ z, z = 60 * sh.toNatClampNeg + i0 := ⟨_, rfl⟩
        obtain ⟨cd, hcde⟩ : ∃ z, z = CD ce sh i := ⟨_, rfl⟩
        have hcd : ∀ q, q < n0 → a 4 (b + q) = cd q := fun q hq => by rw [hcde]; unfold CD; rw [hic, hbe, Nat.add_assoc]; exact hsk.2.2.2.2 _ (by omega)
        refine lv_bipush (v := (nI 60)) hx hb dX10_street_47 rfl ?_
        refine lv_iload_n hx hb dX10_street_49 rfl (lv_at hl 2 rfl) ?_
        refine rn_imul (x := 60) (y := sh.toNatClampNeg) hx hb dX10_street_50 ?_
        refine lv_iload_n hx hb dX10_street_51 rfl (lv_at hl 4 rfl) ?_
        refine rn_iadd (x := 60 * (sh.toNatClampNeg)) (y := i0) hx hb dX10_street_52 ?_
        refine lv_topi (fun y_14 ey_14 => ?_)
        obtain rfl : y_14 = (nI b) := ey_14.trans (congrArg nI hbe.symm)
        refine lv_istore (lv' := [(6, .int (nI b)), (5, .int (AG so ln sh lane i n)), (0, .ref (r 0)), (1, .int (nI (sh.toNatClampNeg))), (2, .int lane), (3, .int (nI i0)), (4, .int (nI n0))]) hx hb dX10_street_53 hl (by decide) rfl (fun ls hl => ?_)
        refine lv_aload_n hx hb dX10_street_55 rfl (lv_at hl 2 rfl) ?_
        refine lv_iload hx hb dX10_street_56 (lv_at hl 0 rfl) ?_
        refine va_put (D := D) (ci := 10) (v := .int (nI b)) (ty := .int) (C := RX10) (T := TX10) (N := 34) hx hb hts hinX10 tyX10 tyX10_ok nmX10 hown hK hP hD hS 0 rfl rfl 13 (by decide) (hts (.fieldLink RX10 93 "OneNailModel" "at" "I") (by decide +kernel)) (fun _ h9 => h9) rfl (by decide +kernel) rfl rfl (Nat.le_of_ble_eq_true rfl) dX10_street_58 (fun H locs hP hD hS => ?_)
        have hP : va_P D vwCl (xM cA r ((upd (upd u 0 (nI 0)) 13 (nI b)), a)) H := hP
        have hD : va_D A (xM cA r ((upd (upd u 0 (nI 0)) 13 (nI b)), a)) := hD
        refine lv_aload_n hx hb dX10_street_61 rfl (lv_at hl 2 rfl) ?_
        refine lv_iload hx hb dX10_street_62 (lv_at hl 0 rfl) ?_
        refine lv_iload hx hb dX10_street_64 (lv_at hl 6 rfl) ?_
        refine rn_iadd (x := b) (y := n0) hx hb dX10_street_66 ?_
        refine wVi e0_S (As := [.int (nI (b + n0))]) (rest := []) ⟨hx, hb, hml, hown, hts⟩ (kX10_readStreet l D cA r _ (upd (upd u 0 (nI 0)) 13 (nI b)) a b n0 cd (by omega) hcd rfl) (cwV 1 hts gX10_street_X10_readStreet rfl rfl rfl (by decide +kernel) ⟨Nat.le_of_ble_eq_true rfl, Nat.le_of_ble_eq_true rfl⟩) (va_recv hK hP (ci := 10) (q0 := 0) rfl rfl) hK hP hD hS hA hE rfl hl.1 rfl (Nat.le_of_ble_eq_true rfl) dX10_street_67 ⟨Nat.zero_le _, Nat.zero_le _⟩ (fun rv_15 z_17 H locs hw_16 hP hD hS => ?_)
        obtain ⟨zu18, za19⟩ := z_17
        rcases hw_16 with ⟨rfl, hpass, h14_zu18, h15_zu18, hT5, hfu_zu18, hfa_zu18⟩ | ⟨rfl, ⟨F, hF, h13_zu18⟩, hfu_zu18, hfa_zu18⟩
        · have h14_zu18 : zu18 14 = nI (vl (cd 1)) := h14_zu18
          have h15_zu18 : zu18 15 = nI ((n0 - 2) / 7) := h15_zu18
          have hT5 : ∀ y9, y9 < (n0 - 2) / 7 → za19 16 y9 = nI (TP cd 0 y9) ∧ za19 17 y9 = nI (TP cd 1 y9) ∧ za19 18 y9 = nI (TP cd 2 y9) ∧ za19 19 y9 = nI (TP cd 3 y9) ∧ za19 20 y9 = nI (TP cd 4 y9) := hT5
          have hz0 : zu18 0 = nI 0 := hfu_zu18 0 (by decide) (by decide) (by decide)
          have hfu_zu18 : ∀ i, i ≠ 0 → i ≠ 13 → i ≠ 14 → i ≠ 15 → zu18 i = u i := fun i h0 h h2 h3 => Eq.trans (hfu_zu18 i h h2 h3) (Eq.trans (up_ne h) (up_ne h0))
          have hfa_zu18 : ∀ i, i ≠ 16 → i ≠ 17 → i ≠ 18 → i ≠ 19 → i ≠ 20 → za19 i = a i := hfa_zu18
          have hP : va_P D vwCl (xM cA r (zu18, za19)) H := hP
          have hD : va_D A (xM cA r (zu18, za19)) := hD
          refine lv_if_ne (tgt := 84) hx hb dX10_street_70 (by decide) (fun _ => ?_) (fun c_20 => absurd c_20 (by decide))
          refine lv_aload_n hx hb dX10_street_84 rfl (lv_at hl 2 rfl) ?_
          refine lv_aload_n hx hb dX10_street_85 rfl (lv_at hl 2 rfl) ?_
          refine va_get (D := D) (ci := 10) (v := .int (nI (vl (cd 1)))) (C := RX10) (T := TX10) (N := 34) hx hb hts hinX10 hown hK hP 0 rfl rfl 14 (by decide) (hts (.fieldLink RX10 114 "OneNailModel" "readHome" "I") (by decide +kernel)) (fun _ h9 => h9) (congrArg (fun z => some (Value.int z)) (h14_zu18)) dX10_street_86 ?_
          refine va_put (D := D) (ci := 10) (v := .int (nI (vl (cd 1)))) (ty := .int) (C := RX10) (T := TX10) (N := 34) hx hb hts hinX10 tyX10 tyX10_ok nmX10 hown hK hP hD hS 0 rfl rfl 6 (by decide) (hts (.fieldLink RX10 117 "OneNailModel" "home" "I") (by decide +kernel)) (fun _ h9 => h9) rfl (by decide +kernel) rfl rfl (Nat.le_of_ble_eq_true rfl) dX10_street_89 (fun H locs hP hD hS => ?_)
          have hP : va_P D vwCl (xM cA r ((upd zu18 6 (nI (vl (cd 1)))), za19)) H := hP
          have hD : va_D A (xM cA r ((upd zu18 6 (nI (vl (cd 1)))), za19)) := hD
          refine lv_aload_n hx hb dX10_street_92 rfl (lv_at hl 2 rfl) ?_
          refine lv_aload_n hx hb dX10_street_93 rfl (lv_at hl 2 rfl) ?_
          refine va_get (D := D) (ci := 10) (v := .int (nI ((n0 - 2) / 7))) (C := RX10) (T := TX10) (N := 34) hx hb hts hinX10 hown hK hP 0 rfl rfl 15 (by decide) (hts (.fieldLink RX10 120 "OneNailModel" "readThings" "I") (by decide +kernel)) (fun _ h9 => h9) (congrArg (fun z => some (Value.int z)) (h15_zu18)) dX10_street_94 ?_
          refine va_put (D := D) (ci := 10) (v := .int (nI ((n0 - 2) / 7))) (ty := .int) (C := RX10) (T := TX10) (N := 34) hx hb hts hinX10 tyX10 tyX10_ok nmX10 hown hK hP hD hS 0 rfl rfl 5 (by decide) (hts (.fieldLink RX10 90 "OneNailModel" "things" "I") (by decide +kernel)) (fun _ h9 => h9) rfl (by decide +kernel) rfl rfl (Nat.le_of_ble_eq_true rfl) dX10_street_97 (fun H locs hP hD hS => ?_)
          have hP : va_P D vwCl (xM cA r ((upd (upd zu18 6 (nI (vl (cd 1)))) 5 (nI ((n0 - 2) / 7))), za19)) H := hP
          have hD : va_D A (xM cA r ((upd (upd zu18 6 (nI (vl (cd 1)))) 5 (nI ((n0 - 2) / 7))), za19)) := hD
          obtain ⟨zu21, hzu21⟩ : ∃ z, z = (upd (upd zu18 6 (nI (vl (cd 1)))) 5 (nI ((n0 - 2) / 7))) := ⟨_, rfl⟩
          rw [← hzu21] at hP hD
          have hfu_zu21 : ∀ i, i ≠ 6 → i ≠ 5 → zu21 i = zu18 i := fun i h6 h5 => by rw [hzu21]; exact Eq.trans (up_ne h5) (up_ne h6)
          have hv6_zu21 : zu21 6 = (nI (vl (cd 1))) := by rw [hzu21]; rfl
          have hv5_zu21 : zu21 5 = (nI ((n0 - 2) / 7)) := by rw [hzu21]; rfl
          have hP : va_P D vwCl (xM cA r (zu21, za19)) H := hP
          have hD : va_D A (xM cA r (zu21, za19)) := hD
          refine lv_iconst (v := (nI 0)) hx hb dX10_street_100 rfl ?_
          refine lv_istore (lv' := [(7, .int (nI 0)), (6, .int (nI b)), (5, .int (AG so ln sh lane i n)), (0, .ref (r 0)), (1, .int (nI (sh.toNatClampNeg))), (2, .int lane), (3, .int (nI i0)), (4, .int (nI n0))]) hx hb dX10_street_101 hl (by decide) rfl (fun ls hl => ?_)
          refine wLoop (τ := Nat × (Nat → Nat → Int32)) (fun z H locs ls => (fun (x7 : Nat) (a1103 : (Nat → Nat → Int32)) => (x7 ≤ (n0 - 2) / 7) ∧ (∀ y9, y9 < x7 → a1103 8 y9 = nI (TP cd 0 y9) ∧ a1103 9 y9 = nI (TP cd 1 y9) ∧ a1103 10 y9 = nI (TP cd 2 y9) ∧ a1103 11 y9 = nI (TP cd 3 y9) ∧ a1103 12 y9 = nI (TP cd 4 y9)) ∧ (∀ i : Nat, i ≠ 8 → i ≠ 9 → i ≠ 10 → i ≠ 11 → i ≠ 12 → a1103 i = za19 i) ∧ (va_P D vwCl (xM cA r (zu21, a1103)) H) ∧ (va_D A (xM cA r (zu21, a1103))) ∧ (va_S A s.heap H locs) ∧ (lv_has ls 8 [(7, .int (nI x7)), (0, .ref (r 0))])) z.1 z.2) (fun z => (fun (x7 : Nat) (a1103 : (Nat → Nat → Int32)) => (n0 - 2) / 7 - x7) z.1 z.2) (0, za19) ⟨(show 0 ≤ (n0 - 2) / 7 from Nat.zero_le _), (show ∀ y9, y9 < 0 → za19 8 y9 = nI (TP cd 0 y9) ∧ za19 9 y9 = nI (TP cd 1 y9) ∧ za19 10 y9 = nI (TP cd 2 y9) ∧ za19 11 y9 = nI (TP cd 3 y9) ∧ za19 12 y9 = nI (TP cd 4 y9) from (fun y h => absurd h (Nat.not_lt_zero y))), (fun i h8 h9 h10 h11 h12 => rfl), hP, hD, hS, lv_sub hl [0, 3] rfl⟩ ?_
          rintro ⟨x7, a1103⟩ H locs ls ⟨hx7, hT, hfa103, hP, hD, hS, hl⟩ ih103
          have hx7 : x7 ≤ (n0 - 2) / 7 := hx7
          have hT : ∀ y9, y9 < x7 → a1103 8 y9 = nI (TP cd 0 y9) ∧ a1103 9 y9 = nI (TP cd 1 y9) ∧ a1103 10 y9 = nI (TP cd 2 y9) ∧ a1103 11 y9 = nI (TP cd 3 y9) ∧ a1103 12 y9 = nI (TP cd 4 y9) := hT
          have hfa103 : ∀ i : Nat, i ≠ 8 → i ≠ 9 → i ≠ 10 → i ≠ 11 → i ≠ 12 → a1103 i = za19 i := hfa103
          have hP : va_P D vwCl (xM cA r (zu21, a1103)) H := hP
          have hD : va_D A (xM cA r (zu21, a1103)) := hD
          have hl : lv_has ls 8 [(7, .int (nI x7)), (0, .ref (r 0))] := hl
          have ht6 : (n0 - 2) / 7 ≤ 6 := (TB_P hpass).1
          refine lv_iload hx hb dX10_street_103 (lv_at hl 0 rfl) ?_
          refine lv_aload_n hx hb dX10_street_105 rfl (lv_at hl 1 rfl) ?_
          refine va_get (D := D) (ci := 10) (v := .int (nI ((n0 - 2) / 7))) (C := RX10) (T := TX10) (N := 34) hx hb hts hinX10 hown hK hP 0 rfl rfl 5 (by decide) (hts (.fieldLink RX10 90 "OneNailModel" "things" "I") (by decide +kernel)) (fun _ h9 => h9) (congrArg (fun z => some (Value.int z)) (hv5_zu21)) dX10_street_106 ?_
          refine rn_ge (x := x7) (y := (n0 - 2) / 7) (tgt := 188) hx hb (by omega) (by omega) dX10_street_109 (by decide) (fun c_22 => ?_) (fun c_22 => ?_)
          · refine lv_aload_n hx hb dX10_street_188 rfl (lv_at hl 1 rfl) ?_
            refine lv_iconst (v := (nI 0)) hx hb dX10_street_189 rfl ?_
            refine va_put (D := D) (ci := 10) (v := .int (nI 0)) (ty := .int) (C := RX10) (T := TX10) (N := 34) hx hb hts hinX10 tyX10 tyX10_ok nmX10 hown hK hP hD hS 0 rfl rfl 7 (by decide) (hts (.fieldLink RX10 123 "OneNailModel" "rustNow" "I") (by decide +kernel)) (fun _ h9 => h9) rfl (by decide +kernel) rfl rfl (Nat.le_of_ble_eq_true rfl) dX10_street_190 (fun H locs hP hD hS => ?_)
            have hP : va_P D vwCl (xM cA r ((upd zu21 7 (nI 0)), a1103)) H := hP
            have hD : va_D A (xM cA r ((upd zu21 7 (nI 0)), a1103)) := hD
            refine lv_aload_n hx hb dX10_street_193 rfl (lv_at hl 1 rfl) ?_
            refine lv_iconst (v := (nI 0)) hx hb dX10_street_194 rfl ?_
            refine va_put (D := D) (ci := 10) (v := .int (nI 0)) (ty := .int) (C := RX10) (T := TX10) (N := 34) hx hb hts hinX10 tyX10 tyX10_ok nmX10 hown hK hP hD hS 0 rfl rfl 30 (by decide) (hts (.fieldLink RX10 126 "OneNailModel" "readings" "I") (by decide +kernel)) (fun _ h9 => h9) rfl (by decide +kernel) rfl rfl (Nat.le_of_ble_eq_true rfl) dX10_street_195 (fun H locs hP hD hS => ?_)
            have hP : va_P D vwCl (xM cA r ((upd (upd zu21 7 (nI 0)) 30 (nI 0)), a1103)) H := hP
            have hD : va_D A (xM cA r ((upd (upd zu21 7 (nI 0)) 30 (nI 0)), a1103)) := hD
            refine lv_aload_n hx hb dX10_street_198 rfl (lv_at hl 1 rfl) ?_
            refine va_get (D := D) (ci := 10) (v := .int (nI ((n0 - 2) / 7))) (C := RX10) (T := TX10) (N := 34) hx hb hts hinX10 hown hK hP 0 rfl rfl 5 (by decide) (hts (.fieldLink RX10 90 "OneNailModel" "things" "I") (by decide +kernel)) (fun _ h9 => h9) (congrArg (fun z => some (Value.int z)) (hv5_zu21)) dX10_street_199 ?_
            exact wIret hx hb hr hlocks (v := (nI ((n0 - 2) / 7))) ((upd (upd zu21 7 (nI 0)) 30 (nI 0)), a1103) (⟨by unfold aStreet; rw [cif_pos b_3, cif_pos b_7, cif_pos c_13, hnc, ← hcde, cif_pos hpass], by have hok : stOK so ln ce sh lane i n := ⟨b_3, b_7, c_13, (by rw [hnc, ← hcde]; exact hpass)⟩; unfold gStreet tStreet fStreet; rw [cif_pos hok, cif_pos hok, cif_pos b_3, cif_pos b_7, hnc, ← hcde]; exact ⟨⟨hv5_zu21, hv6_zu21, rfl, fun y hy => hT y (Nat.lt_of_lt_of_le (show y < (n0 - 2) / 7 from hy) (by omega))⟩, TB_P hpass, ⟨rfl, Nat.zero_le _, fun q hq => absurd hq (Nat.not_lt_zero q), fun q hq => absurd hq (Nat.not_lt_zero q), fun q hq => absurd hq (Nat.not_lt_zero q)⟩, ShI.keep hSh (Eq.trans (hfa103 2 (by decide) (by decide) (by decide) (by decide) (by decide)) (hfa_zu18 2 (by decide) (by decide) (by decide) (by decide) (by decide))) (Eq.trans (hfa103 3 (by decide) (by decide) (by decide) (by decide) (by decide)) (hfa_zu18 3 (by decide) (by decide) (by decide) (by decide) (by decide))) (Eq.trans (hfa103 4 (by decide) (by decide) (by decide) (by decide) (by decide)) (hfa_zu18 4 (by decide) (by decide) (by decide) (by decide) (by decide))), (hfu_zu21 0 (by decide) (by decide)).trans (hz0.trans c_13.symm), (Eq.trans (hfu_zu21 1 (by decide) (by decide)) (hfu_zu18 1 (by decide) (by decide) (by decide) (by decide))).trans htr⟩⟩) hK hP hD hS dX10_street_202
          · refine lv_aload_n hx hb dX10_street_112 rfl (lv_at hl 1 rfl) ?_
            refine va_get (D := D) (ci := 10) (v := .ref (r 8)) (C := RX10) (T := TX10) (N := 34) hx hb hts hinX10 hown hK hP 0 rfl rfl 8 (by decide) (hts (.fieldLink RX10 19 "OneNailModel" "kind" "[I") (by decide +kernel)) (fun _ h9 => h9) rfl dX10_street_113 ?_
            refine lv_iload hx hb dX10_street_116 (lv_at hl 0 rfl) ?_
            refine lv_aload_n hx hb dX10_street_118 rfl (lv_at hl 1 rfl) ?_
            refine va_get (D := D) (ci := 10) (v := .ref (r 16)) (C := RX10) (T := TX10) (N := 34) hx hb hts hinX10 hown hK hP 0 rfl rfl 16 (by decide) (hts (.fieldLink RX10 34 "OneNailModel" "readKind" "[I") (by decide +kernel)) (fun _ h9 => h9) rfl dX10_street_119 ?_
            refine lv_iload hx hb dX10_street_122 (lv_at hl 0 rfl) ?_
            refine ra_iald hx hb hK hP 9 0 (n := 6) (f := (a1103 16)) (j := x7) (v := (nI (TP cd 0 x7))) rfl rfl (by omega) (by decide) ((congrFun (hfa103 16 (by decide) (by decide) (by decide) (by decide) (by decide)) (x7)).trans ((hT5 x7 (by omega)).1)) dX10_street_124 ?_
            refine ra_iast hx hb hK hP hD hS 4 0 (n := 6) (f := (a1103 8)) (j := x7) (x := (nI (TP cd 0 x7))) rfl rfl (by omega) (by decide) dX10_street_125 (fun H locs hP hD hS => ?_)
            have hP : va_P D vwCl (xM cA r (zu21, (va_up a1103 8 (upd (a1103 8) x7 (nI (TP cd 0 x7)))))) H := hP
            have hD : va_D A (xM cA r (zu21, (va_up a1103 8 (upd (a1103 8) x7 (nI (TP cd 0 x7)))))) := hD
            obtain ⟨za23, hza23⟩ : ∃ z, z = (va_up a1103 8 (upd (a1103 8) x7 (nI (TP cd 0 x7)))) := ⟨_, rfl⟩
            rw [← hza23] at hP hD
            have hfa_za23 : ∀ i, i ≠ 8 → za23 i = a1103 i := fun i h8 => by rw [hza23]; exact vup_ne h8
            have hv8_za23 : za23 8 = (upd (a1103 8) x7 (nI (TP cd 0 x7))) := by rw [hza23]; rfl
            have hP : va_P D vwCl (xM cA r (zu21, za23)) H := hP
            have hD : va_D A (xM cA r (zu21, za23)) := hD
            refine lv_aload_n hx hb dX10_street_126 rfl (lv_at hl 1 rfl) ?_
            refine va_get (D := D) (ci := 10) (v := .ref (r 9)) (C := RX10) (T := TX10) (N := 34) hx hb hts hinX10 hown hK hP 0 rfl rfl 9 (by decide) (hts (.fieldLink RX10 22 "OneNailModel" "place" "[I") (by decide +kernel)) (fun _ h9 => h9) rfl dX10_street_127 ?_
            refine lv_iload hx hb dX10_street_130 (lv_at hl 0 rfl) ?_
            refine lv_aload_n hx hb dX10_street_132 rfl (lv_at hl 1 rfl) ?_
            refine va_get (D := D) (ci := 10) (v := .ref (r 17)) (C := RX10) (T := TX10) (N := 34) hx hb hts hinX10 hown hK hP 0 rfl rfl 17 (by decide) (hts (.fieldLink RX10 37 "OneNailModel" "readPlace" "[I") (by decide +kernel)) (fun _ h9 => h9) rfl dX10_street_133 ?_
            refine lv_iload hx hb dX10_street_136 (lv_at hl 0 rfl) ?_
            refine ra_iald hx hb hK hP 10 0 (n := 6) (f := (za23 17)) (j := x7) (v := (nI (TP cd 1 x7))) rfl rfl (by omega) (by decide) ((congrFun (hfa_za23 17 (by decide)) (x7)).trans ((congrFun (hfa103 17 (by decide) (by decide) (by decide) (by decide) (by decide)) (x7)).trans ((hT5 x7 (by omega)).2.1))) dX10_street_138 ?_
            refine ra_iast hx hb hK hP hD hS 5 0 (n := 6) (f := (za23 9)) (j := x7) (x := (nI (TP cd 1 x7))) rfl rfl (by omega) (by decide) dX10_street_139 (fun H locs hP hD hS => ?_)
            have hP : va_P D vwCl (xM cA r (zu21, (va_up za23 9 (upd (za23 9) x7 (nI (TP cd 1 x7)))))) H := hP
            have hD : va_D A (xM cA r (zu21, (va_up za23 9 (upd (za23 9) x7 (nI (TP cd 1 x7)))))) := hD
            obtain ⟨za24, hza24⟩ : ∃ z, z = (va_up za23 9 (upd (za23 9) x7 (nI (TP cd 1 x7)))) := ⟨_, rfl⟩
            rw [← hza24] at hP hD
            have hfa_za24 : ∀ i, i ≠ 9 → za24 i = za23 i := fun i h9 => by rw [hza24]; exact vup_ne h9
            have hv9_za24 : za24 9 = (upd (za23 9) x7 (nI (TP cd 1 x7))) := by rw [hza24]; rfl
            have hP : va_P D vwCl (xM cA r (zu21, za24)) H := hP
            have hD : va_D A (xM cA r (zu21, za24)) := hD
            refine lv_aload_n hx hb dX10_street_140 rfl (lv_at hl 1 rfl) ?_
            refine va_get (D := D) (ci := 10) (v := .ref (r 10)) (C := RX10) (T := TX10) (N := 34) hx hb hts hinX10 hown hK hP 0 rfl rfl 10 (by decide) (hts (.fieldLink RX10 25 "OneNailModel" "stays" "[I") (by decide +kernel)) (fun _ h9 => h9) rfl dX10_street_141 ?_
            refine lv_iload hx hb dX10_street_144 (lv_at hl 0 rfl) ?_
            refine lv_aload_n hx hb dX10_street_146 rfl (lv_at hl 1 rfl) ?_
            refine va_get (D := D) (ci := 10) (v := .ref (r 18)) (C := RX10) (T := TX10) (N := 34) hx hb hts hinX10 hown hK hP 0 rfl rfl 18 (by decide) (hts (.fieldLink RX10 40 "OneNailModel" "readStays" "[I") (by decide +kernel)) (fun _ h9 => h9) rfl dX10_street_147 ?_
            refine lv_iload hx hb dX10_street_150 (lv_at hl 0 rfl) ?_
            refine ra_iald hx hb hK hP 11 0 (n := 6) (f := (za24 18)) (j := x7) (v := (nI (TP cd 2 x7))) rfl rfl (by omega) (by decide) ((congrFun (hfa_za24 18 (by decide)) (x7)).trans ((congrFun (hfa_za23 18 (by decide)) (x7)).trans ((congrFun (hfa103 18 (by decide) (by decide) (by decide) (by decide) (by decide)) (x7)).trans ((hT5 x7 (by omega)).2.2.1)))) dX10_street_152 ?_
            refine ra_iast hx hb hK hP hD hS 6 0 (n := 6) (f := (za24 10)) (j := x7) (x := (nI (TP cd 2 x7))) rfl rfl (by omega) (by decide) dX10_street_153 (fun H locs hP hD hS => ?_)
            have hP : va_P D vwCl (xM cA r (zu21, (va_up za24 10 (upd (za24 10) x7 (nI (TP cd 2 x7)))))) H := hP
            have hD : va_D A (xM cA r (zu21, (va_up za24 10 (upd (za24 10) x7 (nI (TP cd 2 x7)))))) := hD
            obtain ⟨za25, hza25⟩ : ∃ z, z = (va_up za24 10 (upd (za24 10) x7 (nI (TP cd 2 x7)))) := ⟨_, rfl⟩
            rw [← hza25] at hP hD
            have hfa_za25 : ∀ i, i ≠ 10 → za25 i = za24 i := fun i h10 => by rw [hza25]; exact vup_ne h10
            have hv10_za25 : za25 10 = (upd (za24 10) x7 (nI (TP cd 2 x7))) := by rw [hza25]; rfl
            have hP : va_P D vwCl (xM cA r (zu21, za25)) H := hP
            have hD : va_D A (xM cA r (zu21, za25)) := hD
            refine lv_aload_n hx hb dX10_street_154 rfl (lv_at hl 1 rfl) ?_
            refine va_get (D := D) (ci := 10) (v := .ref (r 11)) (C := RX10) (T := TX10) (N := 34) hx hb hts hinX10 hown hK hP 0 rfl rfl 11 (by decide) (hts (.fieldLink RX10 28 "OneNailModel" "hold" "[I") (by decide +kernel)) (fun _ h9 => h9) rfl dX10_street_155 ?_
            refine lv_iload hx hb dX10_street_158 (lv_at hl 0 rfl) ?_
            refine lv_aload_n hx hb dX10_street_160 rfl (lv_at hl 1 rfl) ?_
            refine va_get (D := D) (ci := 10) (v := .ref (r 19)) (C := RX10) (T := TX10) (N := 34) hx hb hts hinX10 hown hK hP 0 rfl rfl 19 (by decide) (hts (.fieldLink RX10 43 "OneNailModel" "readHold" "[I") (by decide +kernel)) (fun _ h9 => h9) rfl dX10_street_161 ?_
            refine lv_iload hx hb dX10_street_164 (lv_at hl 0 rfl) ?_
            refine ra_iald hx hb hK hP 12 0 (n := 6) (f := (za25 19)) (j := x7) (v := (nI (TP cd 3 x7))) rfl rfl (by omega) (by decide) ((congrFun (hfa_za25 19 (by decide)) (x7)).trans ((congrFun (hfa_za24 19 (by decide)) (x7)).trans ((congrFun (hfa_za23 19 (by decide)) (x7)).trans ((congrFun (hfa103 19 (by decide) (by decide) (by decide) (by decide) (by decide)) (x7)).trans ((hT5 x7 (by omega)).2.2.2.1))))) dX10_street_166 ?_
            refine ra_iast hx hb hK hP hD hS 7 0 (n := 6) (f := (za25 11)) (j := x7) (x := (nI (TP cd 3 x7))) rfl rfl (by omega) (by decide) dX10_street_167 (fun H locs hP hD hS => ?_)
            have hP : va_P D vwCl (xM cA r (zu21, (va_up za25 11 (upd (za25 11) x7 (nI (TP cd 3 x7)))))) H := hP
            have hD : va_D A (xM cA r (zu21, (va_up za25 11 (upd (za25 11) x7 (nI (TP cd 3 x7)))))) := hD
            obtain ⟨za26, hza26⟩ : ∃ z, z = (va_up za25 11 (upd (za25 11) x7 (nI (TP cd 3 x7)))) := ⟨_, rfl⟩
            rw [← hza26] at hP hD
            have hfa_za26 : ∀ i, i ≠ 11 → za26 i = za25 i := fun i h11 => by rw [hza26]; exact vup_ne h11
            have hv11_za26 : za26 11 = (upd (za25 11) x7 (nI (TP cd 3 x7))) := by rw [hza26]; rfl
            have hP : va_P D vwCl (xM cA r (zu21, za26)) H := hP
            have hD : va_D A (xM cA r (zu21, za26)) := hD
            refine lv_aload_n hx hb dX10_street_168 rfl (lv_at hl 1 rfl) ?_
            refine va_get (D := D) (ci := 10) (v := .ref (r 12)) (C := RX10) (T := TX10) (N := 34) hx hb hts hinX10 hown hK hP 0 rfl rfl 12 (by decide) (hts (.fieldLink RX10 31 "OneNailModel" "harms" "[I") (by decide +kernel)) (fun _ h9 => h9) rfl dX10_street_169 ?_
            refine lv_iload hx hb dX10_street_172 (lv_at hl 0 rfl) ?_
            refine lv_aload_n hx hb dX10_street_174 rfl (lv_at hl 1 rfl) ?_
            refine va_get (D := D) (ci := 10) (v := .ref (r 20)) (C := RX10) (T := TX10) (N := 34) hx hb hts hinX10 hown hK hP 0 rfl rfl 20 (by decide) (hts (.fieldLink RX10 46 "OneNailModel" "readHarms" "[I") (by decide +kernel)) (fun _ h9 => h9) rfl dX10_street_175 ?_
            refine lv_iload hx hb dX10_street_178 (lv_at hl 0 rfl) ?_
            refine ra_iald hx hb hK hP 13 0 (n := 6) (f := (za26 20)) (j := x7) (v := (nI (TP cd 4 x7))) rfl rfl (by omega) (by decide) ((congrFun (hfa_za26 20 (by decide)) (x7)).trans ((congrFun (hfa_za25 20 (by decide)) (x7)).trans ((congrFun (hfa_za24 20 (by decide)) (x7)).trans ((congrFun (hfa_za23 20 (by decide)) (x7)).trans ((congrFun (hfa103 20 (by decide) (by decide) (by decide) (by decide) (by decide)) (x7)).trans ((hT5 x7 (by omega)).2.2.2.2)))))) dX10_street_180 ?_
            refine ra_iast hx hb hK hP hD hS 8 0 (n := 6) (f := (za26 12)) (j := x7) (x := (nI (TP cd 4 x7))) rfl rfl (by omega) (by decide) dX10_street_181 (fun H locs hP hD hS => ?_)
            have hP : va_P D vwCl (xM cA r (zu21, (va_up za26 12 (upd (za26 12) x7 (nI (TP cd 4 x7)))))) H := hP
            have hD : va_D A (xM cA r (zu21, (va_up za26 12 (upd (za26 12) x7 (nI (TP cd 4 x7)))))) := hD
            obtain ⟨za27, hza27⟩ : ∃ z, z = (va_up za26 12 (upd (za26 12) x7 (nI (TP cd 4 x7)))) := ⟨_, rfl⟩
            rw [← hza27] at hP hD
            have hfa_za27 : ∀ i, i ≠ 12 → za27 i = za26 i := fun i h12 => by rw [hza27]; exact vup_ne h12
            have hv12_za27 : za27 12 = (upd (za26 12) x7 (nI (TP cd 4 x7))) := by rw [hza27]; rfl
            have hP : va_P D vwCl (xM cA r (zu21, za27)) H := hP
            have hD : va_D A (xM cA r (zu21, za27)) := hD
            refine rn_iinc (x := x7) (d := 1) (lv' := [(7, .int (nI (x7 + 1))), (0, .ref (r 0))]) hx hb rfl dX10_street_182 hl (k := 0) rfl (by decide) rfl (fun ls hl => ?_)
            refine lv_goto (tgt := 103) hx hb dX10_street_185 (by decide) ?_
            have hk8 : za27 8 = upd (a1103 8) x7 (nI (TP cd 0 x7)) := Eq.trans (Eq.trans (hfa_za27 8 (by decide)) (Eq.trans (hfa_za26 8 (by decide)) (Eq.trans (hfa_za25 8 (by decide)) (hfa_za24 8 (by decide))))) (hv8_za23)
            have hk9 : za27 9 = upd (a1103 9) x7 (nI (TP cd 1 x7)) := Eq.trans (Eq.trans (hfa_za27 9 (by decide)) (Eq.trans (hfa_za26 9 (by decide)) (hfa_za25 9 (by decide)))) (Eq.trans (hv9_za24) (congrArg (fun z => upd z x7 (nI (TP cd 1 x7))) (hfa_za23 9 (by decide))))
            have hk10 : za27 10 = upd (a1103 10) x7 (nI (TP cd 2 x7)) := Eq.trans (Eq.trans (hfa_za27 10 (by decide)) (hfa_za26 10 (by decide))) (Eq.trans (hv10_za25) (congrArg (fun z => upd z x7 (nI (TP cd 2 x7))) (Eq.trans (hfa_za24 10 (by decide)) (hfa_za23 10 (by decide)))))
            have hk11 : za27 11 = upd (a1103 11) x7 (nI (TP cd 3 x7)) := Eq.trans (hfa_za27 11 (by decide)) (Eq.trans (hv11_za26) (congrArg (fun z => upd z x7 (nI (TP cd 3 x7))) (Eq.trans (hfa_za25 11 (by decide)) (Eq.trans (hfa_za24 11 (by decide)) (hfa_za23 11 (by decide))))))
            have hk12 : za27 12 = upd (a1103 12) x7 (nI (TP cd 4 x7)) := Eq.trans (hv12_za27) (congrArg (fun z => upd z x7 (nI (TP cd 4 x7))) (Eq.trans (hfa_za26 12 (by decide)) (Eq.trans (hfa_za25 12 (by decide)) (Eq.trans (hfa_za24 12 (by decide)) (hfa_za23 12 (by decide))))))
            exact ih103 ((x7 + 1), za27) _ _ _ (show (n0 - 2) / 7 - (x7 + 1) < (n0 - 2) / 7 - x7 from by omega) ⟨(show (x7 + 1) ≤ (n0 - 2) / 7 from by omega), (show ∀ y9, y9 < (x7 + 1) → za27 8 y9 = nI (TP cd 0 y9) ∧ za27 9 y9 = nI (TP cd 1 y9) ∧ za27 10 y9 = nI (TP cd 2 y9) ∧ za27 11 y9 = nI (TP cd 3 y9) ∧ za27 12 y9 = nI (TP cd 4 y9) from (fun y hy => by rw [hk8, hk9, hk10, hk11, hk12]; rcases Nat.lt_or_ge y x7 with w | w; rw [up_ne (by omega), up_ne (by omega), up_ne (by omega), up_ne (by omega), up_ne (by omega)]; exact hT y w; rw [show y = x7 by omega, up_eq, up_eq, up_eq, up_eq, up_eq]; exact ⟨rfl, rfl, rfl, rfl, rfl⟩)), (fun i h8 h9 h10 h11 h12 => Eq.trans (hfa_za27 i h12) (Eq.trans (hfa_za26 i h11) (Eq.trans (hfa_za25 i h10) (Eq.trans (hfa_za24 i h9) (Eq.trans (hfa_za23 i h8) (hfa103 i h8 h9 h10 h11 h12)))))), hP, hD, hS, lv_sub hl [0, 1] rfl⟩
        · have h13_zu18 : zu18 13 = nI (b + F) := h13_zu18
          have hz0 : zu18 0 = nI 0 := hfu_zu18 0 (by decide) (by decide) (by decide)
          have hfu_zu18 : ∀ i, i ≠ 0 → i ≠ 13 → i ≠ 14 → i ≠ 15 → zu18 i = u i := fun i h0 h h2 h3 => Eq.trans (hfu_zu18 i h h2 h3) (Eq.trans (up_ne h) (up_ne h0))
          have hfa_zu18 : ∀ i, i ≠ 16 → i ≠ 17 → i ≠ 18 → i ≠ 19 → i ≠ 20 → za19 i = a i := hfa_zu18
          have hP : va_P D vwCl (xM cA r (zu18, za19)) H := hP
          have hD : va_D A (xM cA r (zu18, za19)) := hD
          refine lv_if_ne (tgt := 84) hx hb dX10_street_70 (by decide) (fun c_28 => absurd c_28 (by decide)) (fun _ => ?_)
          refine lv_bipush (v := (-100)) hx hb dX10_street_73 (by decide) ?_
          refine lv_aload_n hx hb dX10_street_75 rfl (lv_at hl 2 rfl) ?_
          refine va_get (D := D) (ci := 10) (v := .int (nI (b + F))) (C := RX10) (T := TX10) (N := 34) hx hb hts hinX10 hown hK hP 0 rfl rfl 13 (by decide) (hts (.fieldLink RX10 93 "OneNailModel" "at" "I") (by decide +kernel)) (fun _ h9 => h9) (congrArg (fun z => some (Value.int z)) (h13_zu18)) dX10_street_76 ?_
          refine lv_iload hx hb dX10_street_79 (lv_at hl 0 rfl) ?_
          refine rn_isub (x := b + F) (y := b) hx hb (by omega) dX10_street_81 ?_
          refine lv_isub hx hb dX10_street_82 ?_
          exact wIret hx hb hr hlocks (v := ((-100) - (nI ((b + F) - b)))) (zu18, za19) (⟨by unfold aStreet; rw [cif_pos b_3, cif_pos b_7, cif_pos c_13, hnc, ← hcde, cif_neg (FR_np hF), ← FV_eq hF]; exact congrArg (fun z => (-100) - nI z) (by omega), by have hnp : ¬ PASS (CD ce sh i) n.toNatClampNeg := (by rw [hnc, ← hcde]; exact FR_np hF); unfold gStreet tStreet fStreet; rw [cif_neg (fun q => hnp q.2.2.2), cif_neg (fun q => hnp q.2.2.2), cif_pos b_3, cif_pos b_7]; exact (MI.keep hI (hz0.trans c_13.symm) ((hfu_zu18 1 (by decide) (by decide) (by decide) (by decide)).trans htr) (hfu_zu18 5 (by decide) (by decide) (by decide) (by decide)) (hfu_zu18 6 (by decide) (by decide) (by decide) (by decide)) (hfu_zu18 7 (by decide) (by decide) (by decide) (by decide)) (hfu_zu18 30 (by decide) (by decide) (by decide) (by decide)) (hfa_zu18 2 (by decide) (by decide) (by decide) (by decide) (by decide)) (hfa_zu18 3 (by decide) (by decide) (by decide) (by decide) (by decide)) (hfa_zu18 4 (by decide) (by decide) (by decide) (by decide) (by decide)) (hfa_zu18 8 (by decide) (by decide) (by decide) (by decide) (by decide)) (hfa_zu18 9 (by decide) (by decide) (by decide) (by decide) (by decide)) (hfa_zu18 10 (by decide) (by decide) (by decide) (by decide) (by decide)) (hfa_zu18 11 (by decide) (by decide) (by decide) (by decide) (by decide)) (hfa_zu18 12 (by decide) (by decide) (by decide) (by decide) (by decide)) (hfa_zu18 31 (by decide) (by decide) (by decide) (by decide) (by decide)) (hfa_zu18 32 (by decide) (by decide) (by decide) (by decide) (by decide)) (hfa_zu18 33 (by decide) (by decide) (by decide) (by decide) (by decide)))⟩) hK hP hD hS dX10_street_83
      · refine lv_aload_n hx hb dX10_street_40 rfl (lv_at hl 1 rfl) ?_
        refine lv_iload hx hb dX10_street_41 (lv_at hl 0 rfl) ?_
        refine wVi e0_S (As := [.int (AG so ln sh lane i n)]) (rest := []) ⟨hx, hb, hml, hown, hts⟩ (kX10_fails l D cA r _ (upd u 0 (nI 0)) a (AG so ln sh lane i n)) (cwV 1 hts gX10_street_X10_fails rfl rfl rfl (by decide +kernel) ⟨Nat.le_of_ble_eq_true rfl, Nat.le_of_ble_eq_true rfl⟩) (va_recv hK hP (ci := 10) (q0 := 0) rfl rfl) hK hP hD hS hA hE rfl hl.1 rfl (Nat.le_of_ble_eq_true rfl) dX10_street_43 ⟨Nat.zero_le _, Nat.zero_le _⟩ (fun rv_29 z_31 H locs hw_30 hP hD hS => ?_)
        obtain ⟨rfl, rfl⟩ := hw_30
        have hP : va_P D vwCl (xM cA r ((upd u 0 (AG so ln sh lane i n)), a)) H := hP
        have hD : va_D A (xM cA r ((upd u 0 (AG so ln sh lane i n)), a)) := hD
        exact wIret hx hb hr hlocks (v := ((-10) - (AG so ln sh lane i n))) ((upd u 0 (AG so ln sh lane i n)), a) (⟨by unfold aStreet; rw [cif_pos b_3, cif_pos b_7, cif_neg c_13], by unfold gStreet tStreet fStreet; rw [cif_neg (fun q => c_13 q.2.2.1), cif_neg (fun q => c_13 q.2.2.1), cif_pos b_3, cif_pos b_7]; exact (MI.keep hI rfl htr rfl rfl rfl rfl rfl rfl rfl rfl rfl rfl rfl rfl rfl rfl rfl)⟩) hK hP hD hS dX10_street_46
    · refine lv_if_ne (tgt := 24) hx hb dX10_street_18 (by decide) (fun c_32 => absurd c_32 (by decide)) (fun _ => ?_)
      refine lv_bipush (v := (-2)) hx hb dX10_street_21 (by decide) ?_
      exact wIret hx hb hr hlocks (v := (-2)) ((upd u 0 (nI 0)), a) (⟨by unfold aStreet; rw [cif_pos b_3, cif_neg b_7], by unfold gStreet tStreet fStreet; rw [cif_neg (fun q => b_7 q.2.1), cif_neg (fun q => b_7 q.2.1), cif_pos b_3, cif_neg b_7]; exact (MI.keep hI rfl htr rfl rfl rfl rfl rfl rfl rfl rfl rfl rfl rfl rfl rfl rfl rfl)⟩) hK hP hD hS dX10_street_23
  · refine lv_if_ne (tgt := 14) hx hb dX10_street_9 (by decide) (fun c_33 => absurd c_33 (by decide)) (fun _ => ?_)
    refine lv_iconst (v := (-1)) hx hb dX10_street_12 (by decide) ?_
    exact wIret hx hb hr hlocks (v := (-1)) ((upd u 0 (nI 0)), a) (⟨by unfold aStreet; rw [cif_neg b_3], by unfold gStreet tStreet fStreet; rw [cif_neg (fun q => b_3 q.1), cif_neg (fun q => b_3 q.1), cif_neg b_3]; exact (MI.keep hI rfl htr rfl rfl rfl rfl rfl rfl rfl rfl rfl rfl rfl rfl rfl rfl rfl)⟩) hK hP hD hS dX10_street_13
