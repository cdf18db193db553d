set_option maxHeartbeats 4000000 in
set_option maxRecDepth 100000 in
theorem kX10_harm (l : Launch) (D : va_G) (cA : Nat → ClassId) (r : Nat → Nat) (sz : Nat) (u : Nat → Int32) (a : Nat → Nat → Int32) (g : Nat → Nat) (T : Nat → Nat → Nat) (R : Nat → Nat → Nat) (so : Nat → Int32) (ln : Nat → Nat) (ce : Nat → Nat → Int32) (f tr : Int32) (sh lane i n t : Int32) (hI : MI u a g T R so ln ce f tr) : Met l yX10_harm wsX10_harm ({ frames := 3, cells := 0, slots := 0, locals := 71 } : Room) (va_Pc [.ref (r 0), .int sh, .int lane, .int i, .int n, .int t] (wA D vwCl (tyA cA) e0 (xM cA r) (u, a) sz)) (va_Qi (fun (v : Int32) (z : sM) => v = aRnd g so ln ce (inR sh 0 3) (inR lane 0 2 ∧ inR t 1 300) sh lane i n (nI (hv g T (RO ce sh i) n.toNatClampNeg (2 ^ g 0 - 1) t.toNatClampNeg)) ∧ MI z.1 z.2 g T R so ln ce (fRnd so ln (inR sh 0 3) (inR lane 0 2 ∧ inR t 1 300) sh lane i n) tr) (wB D vwCl (tyA cA) (xM cA r) (va_A (xM cA r (u, a)) sz)) (va_A (xM cA r (u, a)) sz)) 0 0 (va_A (xM cA r (u, a)) sz) := by
  refine Met.ofW (cc := cX10_harm) (maxL := 7) (ret := (some .int)) (by decide) rfl ?_
  intro p e s m args below meth c s₁ B hml hv
  obtain ⟨rfl, hsz, hP, hK, hD0, hE⟩ := hv
  have hx := B.exec
  have hb := B.bytes
  have hr := B.returns
  have hts := atoms_spec (ws := wsX10_harm) B.pre
  have hown : s.vm.findClass RX10 = some m.cls := findClass_of_methodNamed B.named
  have hlocks := B.notSynchronized
  subst hsz
  have hD := hD0.self (sz := s.heap.size)
  generalize hAe : va_A (xM cA r (u, a)) s.heap.size = A at hD hE ⊢
  have hA : ∀ q : Nat, s.heap.size ≤ q → A q := fun q h => by rw [← hAe]; exact Or.inr h
  have hS : va_S A s.heap s.heap [] := va_S.rf
  have hinX10 : ∀ w ∈ u_ws RX10 TX10 34, w ∈ wsX10_harm := by decide +kernel
  have hl := lv_entry ([.ref (r 0), .int sh, .int lane, .int i, .int n, .int t]) (n := 7) (Nat.le_of_ble_eq_true rfl)
  rw [lg_entry_eq]
  generalize (lg_sl ([.ref (r 0), .int sh, .int lane, .int i, .int n, .int t]) ++ List.replicate (7 - (lg_sl ([.ref (r 0), .int sh, .int lane, .int i, .int n, .int t])).length) Slot.unset).toArray = ls at hl ⊢
  have hl : lv_has ls 7 [(0, .ref (r 0)), (1, .int sh), (2, .int lane), (3, .int i), (4, .int n), (5, .int t)] := hl
  have hM := hI.1
  have hB := hI.2.1
  have hg6 := hB.1
  have hRd := hI.2.2.1
  have hSh := hI.2.2.2.1
  have hf0 := hI.2.2.2.2.1
  have htr := hI.2.2.2.2.2
  refine lv_aload_n hx hb dX10_harm_0 rfl (lv_at hl 0 rfl) ?_
  refine lv_iconst (v := (nI 0)) hx hb dX10_harm_1 rfl ?_
  refine va_put (D := D) (ci := 10) (v := .int (nI 0)) (ty := .int) (C := RX10) (T := TX10) (N := 34) hx hb hts hinX10 tyX10 tyX10_ok nmX10 hown hK hP hD hS 0 rfl rfl 0 (by decide) (hts (.fieldLink RX10 80 "OneNailModel" "fault" "I") (by decide +kernel)) (fun _ h9 => h9) rfl (by decide +kernel) rfl rfl (Nat.le_of_ble_eq_true rfl) dX10_harm_2 (fun H locs hP hD hS => ?_)
  have hP : va_P D vwCl (xM cA r ((upd u 0 (nI 0)), a)) H := hP
  have hD : va_D A (xM cA r ((upd u 0 (nI 0)), a)) := hD
  refine lv_iload_n hx hb dX10_harm_5 rfl (lv_at hl 1 rfl) ?_
  refine wSi (As := [.int sh]) (rest := []) ⟨hx, hb, hml, hown, hts⟩ (kX10_isSheet l sh) (va_cwS 1 hts gX10_harm_X10_isSheet rfl rfl rfl (by decide +kernel) ⟨Nat.le_of_ble_eq_true rfl, Nat.le_of_ble_eq_true rfl⟩) rfl hl.1 rfl (Nat.le_of_ble_eq_true rfl) dX10_harm_6 ⟨Nat.zero_le _, Nat.zero_le _⟩ (fun rv_1 hw_2 => ?_)
  rcases hw_2 with ⟨rfl, b_3⟩ | ⟨rfl, b_3⟩
  · obtain ⟨j1, hj1, hj2, hj3, hj4⟩ := inR_of (show inR sh 0 3 from b_3) (by decide) (by decide)
    have hk4 : sh.toNatClampNeg < 4 := by omega
    have hsk := hSh _ hk4
    have hl : lv_has ls 7 [(0, .ref (r 0)), (1, .int (nI (sh.toNatClampNeg))), (2, .int lane), (3, .int i), (4, .int n), (5, .int t)] := lv_re hl 1 ⟨rfl, rfl⟩ (by rw [hj4]; exact hj1)
    refine lv_if_ne (tgt := 14) hx hb dX10_harm_9 (by decide) (fun _ => ?_) (fun c_4 => absurd c_4 (by decide))
    refine lv_iload_n hx hb dX10_harm_14 rfl (lv_at hl 2 rfl) ?_
    refine wSi (As := [.int lane]) (rest := []) ⟨hx, hb, hml, hown, hts⟩ (kX10_isSort l lane) (va_cwS 1 hts gX10_harm_X10_isSort rfl rfl rfl (by decide +kernel) ⟨Nat.le_of_ble_eq_true rfl, Nat.le_of_ble_eq_true rfl⟩) rfl hl.1 rfl (Nat.le_of_ble_eq_true rfl) dX10_harm_15 ⟨Nat.zero_le _, Nat.zero_le _⟩ (fun rv_5 hw_6 => ?_)
    rcases hw_6 with ⟨rfl, b_7⟩ | ⟨rfl, b_7⟩
    · refine lv_if_eq (tgt := 33) hx hb dX10_harm_18 (by decide) (fun c_8 => absurd c_8 (by decide)) (fun _ => ?_)
      refine lv_iload hx hb dX10_harm_21 (lv_at hl 5 rfl) ?_
      refine lv_iconst (v := (nI 1)) hx hb dX10_harm_23 rfl ?_
      refine lv_sipush (v := (nI 300)) hx hb dX10_harm_24 rfl ?_
      refine wSi (As := [.int t, .int (nI 1), .int (nI 300)]) (rest := []) ⟨hx, hb, hml, hown, hts⟩ (kX10_within l t (nI 1) (nI 300)) (va_cwS 3 hts gX10_harm_X10_within rfl rfl rfl (by decide +kernel) ⟨Nat.le_of_ble_eq_true rfl, Nat.le_of_ble_eq_true rfl⟩) rfl hl.1 rfl (Nat.le_of_ble_eq_true rfl) dX10_harm_27 ⟨Nat.zero_le _, Nat.zero_le _⟩ (fun rv_9 hw_10 => ?_)
      rcases hw_10 with ⟨rfl, b_11⟩ | ⟨rfl, b_11⟩
      · obtain ⟨t0, ht1, ht2, ht3, ht4⟩ := inR_of (show inR t 1 300 from b_11) (by decide) (by decide)
        have hl : lv_has ls 7 [(0, .ref (r 0)), (1, .int (nI (sh.toNatClampNeg))), (2, .int lane), (3, .int i), (4, .int n), (5, .int (nI t0))] := lv_re hl 5 ⟨rfl, rfl⟩ (ht1)
        refine lv_if_ne (tgt := 36) hx hb dX10_harm_30 (by decide) (fun _ => ?_) (fun c_12 => absurd c_12 (by decide))
        refine lv_aload_n hx hb dX10_harm_36 rfl (lv_at hl 0 rfl) ?_
        refine lv_iload_n hx hb dX10_harm_37 rfl (lv_at hl 1 rfl) ?_
        refine lv_iload_n hx hb dX10_harm_38 rfl (lv_at hl 2 rfl) ?_
        refine lv_iload_n hx hb dX10_harm_39 rfl (lv_at hl 3 rfl) ?_
        refine lv_iload hx hb dX10_harm_40 (lv_at hl 4 rfl) ?_
        refine wVi e0_S (As := [.int (nI (sh.toNatClampNeg)), .int lane, .int i, .int n]) (rest := []) ⟨hx, hb, hml, hown, hts⟩ (kX10_layRow l D cA r _ (upd u 0 (nI 0)) a g T sh.toNatClampNeg (ln sh.toNatClampNeg) lane i n (MT.keep hM rfl rfl rfl rfl rfl rfl rfl rfl) hB hk4 hsk.2.2.1 hsk.2.2.2.1) (cwV 4 hts gX10_harm_X10_layRow rfl rfl rfl (by decide +kernel) ⟨Nat.le_of_ble_eq_true rfl, Nat.le_of_ble_eq_true rfl⟩) (va_recv hK hP (ci := 10) (q0 := 0) rfl rfl) hK hP hD hS hA hE rfl hl.1 rfl (Nat.le_of_ble_eq_true rfl) dX10_harm_42 ⟨Nat.zero_le _, Nat.zero_le _⟩ (fun rv_13 z_15 H locs hw_14 hP hD hS => ?_)
        obtain ⟨zu16, za17⟩ := z_15
        obtain ⟨hrv_zu16, hz0_zu16, hfu_zu16, hfa_zu16, hrow_zu16⟩ := hw_14
        have hrv_zu16 : rv_13 = LR g so ln ce sh lane i n := by rw [hrv_zu16, hsk.1, hsk.2.2.1]; exact lrA_congr hsk.2.2.2.1 hsk.2.2.2.2
        have hz0_zu16 : zu16 0 = AG so ln sh lane i n := by rw [show zu16 0 = _ from hz0_zu16, hsk.1, hsk.2.2.1]; exact cif_ag _
        have hfu_zu16 : ∀ q, q ≠ 0 → q ≠ 22 → zu16 q = (upd u 0 (nI 0)) q := hfu_zu16
        have hfa_zu16 : ∀ q, q ≠ 21 → za17 q = a q := hfa_zu16
        have hfu2_zu16 : ∀ q, q ≠ 0 → q ≠ 22 → zu16 q = u q := fun q h1 h2 => (hfu_zu16 q h1 h2).trans (up_ne h1)
        have hP : va_P D vwCl (xM cA r (zu16, za17)) H := hP
        have hD : va_D A (xM cA r (zu16, za17)) := hD
        refine lv_istore (lv' := [(6, .int rv_13), (0, .ref (r 0)), (1, .int (nI (sh.toNatClampNeg))), (2, .int lane), (3, .int i), (4, .int n), (5, .int (nI t0))]) hx hb dX10_harm_45 hl (by decide) rfl (fun ls hl => ?_)
        refine lv_iload hx hb dX10_harm_47 (lv_at hl 0 rfl) ?_
        refine lv_if_eq (tgt := 57) hx hb dX10_harm_49 (by decide) (fun c_18 => ?_) (fun c_18 => ?_)
        · obtain ⟨i0, n0, hi0, hn0, hn1, hn8, hin, hu22, hrw⟩ := hrow_zu16 c_18
          have hu22 : zu16 22 = nI n0 := hu22
          have hic : i.toNatClampNeg = i0 := by rw [hi0]; exact nI_clamp (by omega)
          have hnc : n.toNatClampNeg = n0 := by rw [hn0]; exact nI_clamp (by omega)
          obtain ⟨hro, hrg⟩ := row_ok (a21 := za17 21) (k := sh.toNatClampNeg) (ce := ce) hg6 hin hsk.2.2.2.2 hrw
          have hRO : RO ce sh i = roC (ce sh.toNatClampNeg) i0 := by unfold RO; rw [hic]
          have hL0 : 0 < n0 := by omega
          obtain ⟨ro, hroe⟩ : ∃ z, z = roC (ce sh.toNatClampNeg) i0 := ⟨_, rfl⟩
          rw [← hroe] at hro hrg hRO
          obtain ⟨L, hLn⟩ : ∃ z, z = n0 := ⟨_, rfl⟩
          have hL8 : L ≤ 8 := by omega
          rw [← hLn] at hu22 hro hrg hL0 hnc
          refine lv_aload_n hx hb dX10_harm_57 rfl (lv_at hl 1 rfl) ?_
          refine lv_aload_n hx hb dX10_harm_58 rfl (lv_at hl 1 rfl) ?_
          refine wVi e0_S (As := []) (rest := [.ref (r 0)]) ⟨hx, hb, hml, hown, hts⟩ (kX10_all l D cA r _ zu16 za17 g T (MT.keep hM (hfu2_zu16 5 (by decide) (by decide)) (hfu2_zu16 6 (by decide) (by decide)) (hfu2_zu16 7 (by decide) (by decide)) (hfa_zu16 8 (by decide)) (hfa_zu16 9 (by decide)) (hfa_zu16 10 (by decide)) (hfa_zu16 11 (by decide)) (hfa_zu16 12 (by decide))) hB) (cwV 0 hts gX10_harm_X10_all rfl rfl rfl (by decide +kernel) ⟨Nat.le_of_ble_eq_true rfl, Nat.le_of_ble_eq_true rfl⟩) (va_recv hK hP (ci := 10) (q0 := 0) rfl rfl) hK hP hD hS hA hE rfl hl.1 rfl (Nat.le_of_ble_eq_true rfl) dX10_harm_59 ⟨Nat.zero_le _, Nat.zero_le _⟩ (fun rv_19 z_21 H locs hw_20 hP hD hS => ?_)
          obtain ⟨rfl, rfl⟩ := hw_20
          have hP : va_P D vwCl (xM cA r (zu16, za17)) H := hP
          have hD : va_D A (xM cA r (zu16, za17)) := hD
          refine lv_iload hx hb dX10_harm_62 (lv_at hl 6 rfl) ?_
          refine wVi e0_S (As := [.int (nI (2 ^ g 0 - 1)), .int (nI t0)]) (rest := []) ⟨hx, hb, hml, hown, hts⟩ (kX10_harmOf l D cA r _ zu16 za17 g T ro L (2 ^ g 0 - 1) t0 (MT.keep hM (hfu2_zu16 5 (by decide) (by decide)) (hfu2_zu16 6 (by decide) (by decide)) (hfu2_zu16 7 (by decide) (by decide)) (hfa_zu16 8 (by decide)) (hfa_zu16 9 (by decide)) (hfa_zu16 10 (by decide)) (hfa_zu16 11 (by decide)) (hfa_zu16 12 (by decide))) hB (hu22) hL8 (fun k hk => hro (k) hk) hrg (p2_64 hg6 (all_lt _)) (fun _ _ _ => hL0) (by omega)) (cwV 2 hts gX10_harm_X10_harmOf rfl rfl rfl (by decide +kernel) ⟨Nat.le_of_ble_eq_true rfl, Nat.le_of_ble_eq_true rfl⟩) (va_recv hK hP (ci := 10) (q0 := 0) rfl rfl) hK hP hD hS hA hE rfl hl.1 rfl (Nat.le_of_ble_eq_true rfl) dX10_harm_64 ⟨Nat.zero_le _, Nat.zero_le _⟩ (fun rv_22 z_24 H locs hw_23 hP hD hS => ?_)
          obtain ⟨zu25, za26⟩ := z_24
          obtain ⟨rfl, hfu_zu25, hfa_zu25⟩ := hw_23
          have hfu_zu25 : ∀ i, i ≠ 25 → zu25 i = zu16 i := hfu_zu25
          have hfa_zu25 : ∀ i, i ≠ 23 → i ≠ 24 → i ≠ 26 → za26 i = za17 i := hfa_zu25
          have hP : va_P D vwCl (xM cA r (zu25, za26)) H := hP
          have hD : va_D A (xM cA r (zu25, za26)) := hD
          exact wIret hx hb hr hlocks (v := (nI (hv g T ro L (2 ^ g 0 - 1) t0))) (zu25, za26) (⟨by unfold aRnd; rw [cif_pos b_3, cif_pos ⟨b_7, b_11⟩, cif_pos (by rw [← hrv_zu16]; exact c_18)]; rw [hRO, hnc, ht4], by unfold fRnd; rw [cif_pos b_3, cif_pos ⟨b_7, b_11⟩]; exact (MI.keep hI ((hfu_zu25 0 (by decide)).trans hz0_zu16) ((Eq.trans (hfu_zu25 1 (by decide)) (hfu2_zu16 1 (by decide) (by decide))).trans htr) (Eq.trans (hfu_zu25 5 (by decide)) (hfu2_zu16 5 (by decide) (by decide))) (Eq.trans (hfu_zu25 6 (by decide)) (hfu2_zu16 6 (by decide) (by decide))) (Eq.trans (hfu_zu25 7 (by decide)) (hfu2_zu16 7 (by decide) (by decide))) (Eq.trans (hfu_zu25 30 (by decide)) (hfu2_zu16 30 (by decide) (by decide))) (Eq.trans (hfa_zu25 2 (by decide) (by decide) (by decide)) (hfa_zu16 2 (by decide))) (Eq.trans (hfa_zu25 3 (by decide) (by decide) (by decide)) (hfa_zu16 3 (by decide))) (Eq.trans (hfa_zu25 4 (by decide) (by decide) (by decide)) (hfa_zu16 4 (by decide))) (Eq.trans (hfa_zu25 8 (by decide) (by decide) (by decide)) (hfa_zu16 8 (by decide))) (Eq.trans (hfa_zu25 9 (by decide) (by decide) (by decide)) (hfa_zu16 9 (by decide))) (Eq.trans (hfa_zu25 10 (by decide) (by decide) (by decide)) (hfa_zu16 10 (by decide))) (Eq.trans (hfa_zu25 11 (by decide) (by decide) (by decide)) (hfa_zu16 11 (by decide))) (Eq.trans (hfa_zu25 12 (by decide) (by decide) (by decide)) (hfa_zu16 12 (by decide))) (Eq.trans (hfa_zu25 31 (by decide) (by decide) (by decide)) (hfa_zu16 31 (by decide))) (Eq.trans (hfa_zu25 32 (by decide) (by decide) (by decide)) (hfa_zu16 32 (by decide))) (Eq.trans (hfa_zu25 33 (by decide) (by decide) (by decide)) (hfa_zu16 33 (by decide))))⟩) hK hP hD hS dX10_harm_67
        · refine lv_iload hx hb dX10_harm_52 (lv_at hl 0 rfl) ?_
          refine lv_goto (tgt := 67) hx hb dX10_harm_54 (by decide) ?_
          exact wIret hx hb hr hlocks (v := rv_13) (zu16, za17) (⟨by unfold aRnd; rw [cif_pos b_3, cif_pos ⟨b_7, b_11⟩, cif_neg (by rw [← hrv_zu16]; exact c_18)]; exact hrv_zu16, by unfold fRnd; rw [cif_pos b_3, cif_pos ⟨b_7, b_11⟩]; exact (MI.keep hI (hz0_zu16) ((hfu2_zu16 1 (by decide) (by decide)).trans htr) (hfu2_zu16 5 (by decide) (by decide)) (hfu2_zu16 6 (by decide) (by decide)) (hfu2_zu16 7 (by decide) (by decide)) (hfu2_zu16 30 (by decide) (by decide)) (hfa_zu16 2 (by decide)) (hfa_zu16 3 (by decide)) (hfa_zu16 4 (by decide)) (hfa_zu16 8 (by decide)) (hfa_zu16 9 (by decide)) (hfa_zu16 10 (by decide)) (hfa_zu16 11 (by decide)) (hfa_zu16 12 (by decide)) (hfa_zu16 31 (by decide)) (hfa_zu16 32 (by decide)) (hfa_zu16 33 (by decide)))⟩) hK hP hD hS dX10_harm_67
      · refine lv_if_ne (tgt := 36) hx hb dX10_harm_30 (by decide) (fun c_27 => absurd c_27 (by decide)) (fun _ => ?_)
        refine lv_bipush (v := (-2)) hx hb dX10_harm_33 (by decide) ?_
        exact wIret hx hb hr hlocks (v := (-2)) ((upd u 0 (nI 0)), a) (⟨by unfold aRnd; rw [cif_pos b_3, cif_neg (fun q => b_11 q.2)], by unfold fRnd; rw [cif_pos b_3, cif_neg (fun q => b_11 q.2)]; exact (MI.keep hI rfl htr rfl rfl rfl rfl rfl rfl rfl rfl rfl rfl rfl rfl rfl rfl rfl)⟩) hK hP hD hS dX10_harm_35
    · refine lv_if_eq (tgt := 33) hx hb dX10_harm_18 (by decide) (fun _ => ?_) (fun c_28 => absurd c_28 (by decide))
      refine lv_bipush (v := (-2)) hx hb dX10_harm_33 (by decide) ?_
      exact wIret hx hb hr hlocks (v := (-2)) ((upd u 0 (nI 0)), a) (⟨by unfold aRnd; rw [cif_pos b_3, cif_neg (fun q => b_7 q.1)], by unfold fRnd; rw [cif_pos b_3, cif_neg (fun q => b_7 q.1)]; exact (MI.keep hI rfl htr rfl rfl rfl rfl rfl rfl rfl rfl rfl rfl rfl rfl rfl rfl rfl)⟩) hK hP hD hS dX10_harm_35
  · refine lv_if_ne (tgt := 14) hx hb dX10_harm_9 (by decide) (fun c_29 => absurd c_29 (by decide)) (fun _ => ?_)
    refine lv_iconst (v := (-1)) hx hb dX10_harm_12 (by decide) ?_
    exact wIret hx hb hr hlocks (v := (-1)) ((upd u 0 (nI 0)), a) (⟨by unfold aRnd; rw [cif_neg b_3], by unfold fRnd; rw [cif_neg b_3]; exact (MI.keep hI rfl htr rfl rfl rfl rfl rfl rfl rfl rfl rfl rfl rfl rfl rfl rfl rfl)⟩) hK hP hD hS dX10_harm_13

set_option maxHeartbeats 4000000 in
set_option maxRecDepth 100000 in
theorem kX10_never (l : Launch) (D : va_G) (cA : Nat → ClassId) (r : Nat → Nat) (sz : Nat) (u : Nat → Int32) (a : Nat → Nat → Int32) (g : Nat → Nat) (T : Nat → Nat → Nat) (R : Nat → Nat → Nat) (so : Nat → Int32) (ln : Nat → Nat) (ce : Nat → Nat → Int32) (f tr : Int32) (sh lane i n : Int32) (hI : MI u a g T R so ln ce f tr) : Met l yX10_never wsX10_never ({ frames := 3, cells := 0, slots := 0, locals := 71 } : Room) (va_Pc [.ref (r 0), .int sh, .int lane, .int i, .int n] (wA D vwCl (tyA cA) e0 (xM cA r) (u, a) sz)) (va_Qi (fun (v : Int32) (z : sM) => v = aRnd g so ln ce (inR sh 0 3) (inR lane 0 2) sh lane i n (cif (sf g T (RO ce sh i) n.toNatClampNeg (2 ^ g 0 - 1)) (nI 1) (nI 0)) ∧ MI z.1 z.2 g T R so ln ce (fRnd so ln (inR sh 0 3) (inR lane 0 2) sh lane i n) tr) (wB D vwCl (tyA cA) (xM cA r) (va_A (xM cA r (u, a)) sz)) (va_A (xM cA r (u, a)) sz)) 0 0 (va_A (xM cA r (u, a)) sz) := by
  refine Met.ofW (cc := cX10_never) (maxL := 6) (ret := (some .int)) (by decide) rfl ?_
  intro p e s m args below meth c s₁ B hml hv
  obtain ⟨rfl, hsz, hP, hK, hD0, hE⟩ := hv
  have hx := B.exec
  have hb := B.bytes
  have hr := B.returns
  have hts := atoms_spec (ws := wsX10_never) B.pre
  have hown : s.vm.findClass RX10 = some m.cls := findClass_of_methodNamed B.named
  have hlocks := B.notSynchronized
  subst hsz
  have hD := hD0.self (sz := s.heap.size)
  generalize hAe : va_A (xM cA r (u, a)) s.heap.size = A at hD hE ⊢
  have hA : ∀ q : Nat, s.heap.size ≤ q → A q := fun q h => by rw [← hAe]; exact Or.inr h
  have hS : va_S A s.heap s.heap [] := va_S.rf
  have hinX10 : ∀ w ∈ u_ws RX10 TX10 34, w ∈ wsX10_never := by decide +kernel
  have hl := lv_entry ([.ref (r 0), .int sh, .int lane, .int i, .int n]) (n := 6) (Nat.le_of_ble_eq_true rfl)
  rw [lg_entry_eq]
  generalize (lg_sl ([.ref (r 0), .int sh, .int lane, .int i, .int n]) ++ List.replicate (6 - (lg_sl ([.ref (r 0), .int sh, .int lane, .int i, .int n])).length) Slot.unset).toArray = ls at hl ⊢
  have hl : lv_has ls 6 [(0, .ref (r 0)), (1, .int sh), (2, .int lane), (3, .int i), (4, .int n)] := hl
  have hM := hI.1
  have hB := hI.2.1
  have hg6 := hB.1
  have hRd := hI.2.2.1
  have hSh := hI.2.2.2.1
  have hf0 := hI.2.2.2.2.1
  have htr := hI.2.2.2.2.2
  refine lv_aload_n hx hb dX10_never_0 rfl (lv_at hl 0 rfl) ?_
  refine lv_iconst (v := (nI 0)) hx hb dX10_never_1 rfl ?_
  refine va_put (D := D) (ci := 10) (v := .int (nI 0)) (ty := .int) (C := RX10) (T := TX10) (N := 34) hx hb hts hinX10 tyX10 tyX10_ok nmX10 hown hK hP hD hS 0 rfl rfl 0 (by decide) (hts (.fieldLink RX10 80 "OneNailModel" "fault" "I") (by decide +kernel)) (fun _ h9 => h9) rfl (by decide +kernel) rfl rfl (Nat.le_of_ble_eq_true rfl) dX10_never_2 (fun H locs hP hD hS => ?_)
  have hP : va_P D vwCl (xM cA r ((upd u 0 (nI 0)), a)) H := hP
  have hD : va_D A (xM cA r ((upd u 0 (nI 0)), a)) := hD
  refine lv_iload_n hx hb dX10_never_5 rfl (lv_at hl 1 rfl) ?_
  refine wSi (As := [.int sh]) (rest := []) ⟨hx, hb, hml, hown, hts⟩ (kX10_isSheet l sh) (va_cwS 1 hts gX10_never_X10_isSheet rfl rfl rfl (by decide +kernel) ⟨Nat.le_of_ble_eq_true rfl, Nat.le_of_ble_eq_true rfl⟩) rfl hl.1 rfl (Nat.le_of_ble_eq_true rfl) dX10_never_6 ⟨Nat.zero_le _, Nat.zero_le _⟩ (fun rv_1 hw_2 => ?_)
  rcases hw_2 with ⟨rfl, b_3⟩ | ⟨rfl, b_3⟩
  · obtain ⟨j1, hj1, hj2, hj3, hj4⟩ := inR_of (show inR sh 0 3 from b_3) (by decide) (by decide)
    have hk4 : sh.toNatClampNeg < 4 := by omega
    have hsk := hSh _ hk4
    have hl : lv_has ls 6 [(0, .ref (r 0)), (1, .int (nI (sh.toNatClampNeg))), (2, .int lane), (3, .int i), (4, .int n)] := lv_re hl 1 ⟨rfl, rfl⟩ (by rw [hj4]; exact hj1)
    refine lv_if_ne (tgt := 14) hx hb dX10_never_9 (by decide) (fun _ => ?_) (fun c_4 => absurd c_4 (by decide))
    refine lv_iload_n hx hb dX10_never_14 rfl (lv_at hl 2 rfl) ?_
    refine wSi (As := [.int lane]) (rest := []) ⟨hx, hb, hml, hown, hts⟩ (kX10_isSort l lane) (va_cwS 1 hts gX10_never_X10_isSort rfl rfl rfl (by decide +kernel) ⟨Nat.le_of_ble_eq_true rfl, Nat.le_of_ble_eq_true rfl⟩) rfl hl.1 rfl (Nat.le_of_ble_eq_true rfl) dX10_never_15 ⟨Nat.zero_le _, Nat.zero_le _⟩ (fun rv_5 hw_6 => ?_)
    rcases hw_6 with ⟨rfl, b_7⟩ | ⟨rfl, b_7⟩
    · refine lv_if_ne (tgt := 24) hx hb dX10_never_18 (by decide) (fun _ => ?_) (fun c_8 => absurd c_8 (by decide))
      refine lv_aload_n hx hb dX10_never_24 rfl (lv_at hl 0 rfl) ?_
      refine lv_iload_n hx hb dX10_never_25 rfl (lv_at hl 1 rfl) ?_
      refine lv_iload_n hx hb dX10_never_26 rfl (lv_at hl 2 rfl) ?_
      refine lv_iload_n hx hb dX10_never_27 rfl (lv_at hl 3 rfl) ?_
      refine lv_iload hx hb dX10_never_28 (lv_at hl 4 rfl) ?_
      refine wVi e0_S (As := [.int (nI (sh.toNatClampNeg)), .int lane, .int i, .int n]) (rest := []) ⟨hx, hb, hml, hown, hts⟩ (kX10_layRow l D cA r _ (upd u 0 (nI 0)) a g T sh.toNatClampNeg (ln sh.toNatClampNeg) lane i n (MT.keep hM rfl rfl rfl rfl rfl rfl rfl rfl) hB hk4 hsk.2.2.1 hsk.2.2.2.1) (cwV 4 hts gX10_never_X10_layRow rfl rfl rfl (by decide +kernel) ⟨Nat.le_of_ble_eq_true rfl, Nat.le_of_ble_eq_true rfl⟩) (va_recv hK hP (ci := 10) (q0 := 0) rfl rfl) hK hP hD hS hA hE rfl hl.1 rfl (Nat.le_of_ble_eq_true rfl) dX10_never_30 ⟨Nat.zero_le _, Nat.zero_le _⟩ (fun rv_9 z_11 H locs hw_10 hP hD hS => ?_)
      obtain ⟨zu12, za13⟩ := z_11
      obtain ⟨hrv_zu12, hz0_zu12, hfu_zu12, hfa_zu12, hrow_zu12⟩ := hw_10
      have hrv_zu12 : rv_9 = LR g so ln ce sh lane i n := by rw [hrv_zu12, hsk.1, hsk.2.2.1]; exact lrA_congr hsk.2.2.2.1 hsk.2.2.2.2
      have hz0_zu12 : zu12 0 = AG so ln sh lane i n := by rw [show zu12 0 = _ from hz0_zu12, hsk.1, hsk.2.2.1]; exact cif_ag _
      have hfu_zu12 : ∀ q, q ≠ 0 → q ≠ 22 → zu12 q = (upd u 0 (nI 0)) q := hfu_zu12
      have hfa_zu12 : ∀ q, q ≠ 21 → za13 q = a q := hfa_zu12
      have hfu2_zu12 : ∀ q, q ≠ 0 → q ≠ 22 → zu12 q = u q := fun q h1 h2 => (hfu_zu12 q h1 h2).trans (up_ne h1)
      have hP : va_P D vwCl (xM cA r (zu12, za13)) H := hP
      have hD : va_D A (xM cA r (zu12, za13)) := hD
      refine lv_istore (lv' := [(5, .int rv_9), (0, .ref (r 0)), (1, .int (nI (sh.toNatClampNeg))), (2, .int lane), (3, .int i), (4, .int n)]) hx hb dX10_never_33 hl (by decide) rfl (fun ls hl => ?_)
      refine lv_iload hx hb dX10_never_35 (lv_at hl 0 rfl) ?_
      refine lv_if_eq (tgt := 43) hx hb dX10_never_37 (by decide) (fun c_14 => ?_) (fun c_14 => ?_)
      · obtain ⟨i0, n0, hi0, hn0, hn1, hn8, hin, hu22, hrw⟩ := hrow_zu12 c_14
        have hu22 : zu12 22 = nI n0 := hu22
        have hic : i.toNatClampNeg = i0 := by rw [hi0]; exact nI_clamp (by omega)
        have hnc : n.toNatClampNeg = n0 := by rw [hn0]; exact nI_clamp (by omega)
        obtain ⟨hro, hrg⟩ := row_ok (a21 := za13 21) (k := sh.toNatClampNeg) (ce := ce) hg6 hin hsk.2.2.2.2 hrw
        have hRO : RO ce sh i = roC (ce sh.toNatClampNeg) i0 := by unfold RO; rw [hic]
        have hL0 : 0 < n0 := by omega
        obtain ⟨ro, hroe⟩ : ∃ z, z = roC (ce sh.toNatClampNeg) i0 := ⟨_, rfl⟩
        rw [← hroe] at hro hrg hRO
        obtain ⟨L, hLn⟩ : ∃ z, z = n0 := ⟨_, rfl⟩
        have hL8 : L ≤ 8 := by omega
        rw [← hLn] at hu22 hro hrg hL0 hnc
        refine lv_aload_n hx hb dX10_never_43 rfl (lv_at hl 1 rfl) ?_
        refine lv_aload_n hx hb dX10_never_44 rfl (lv_at hl 1 rfl) ?_
        refine wVi e0_S (As := []) (rest := [.ref (r 0)]) ⟨hx, hb, hml, hown, hts⟩ (kX10_all l D cA r _ zu12 za13 g T (MT.keep hM (hfu2_zu12 5 (by decide) (by decide)) (hfu2_zu12 6 (by decide) (by decide)) (hfu2_zu12 7 (by decide) (by decide)) (hfa_zu12 8 (by decide)) (hfa_zu12 9 (by decide)) (hfa_zu12 10 (by decide)) (hfa_zu12 11 (by decide)) (hfa_zu12 12 (by decide))) hB) (cwV 0 hts gX10_never_X10_all rfl rfl rfl (by decide +kernel) ⟨Nat.le_of_ble_eq_true rfl, Nat.le_of_ble_eq_true rfl⟩) (va_recv hK hP (ci := 10) (q0 := 0) rfl rfl) hK hP hD hS hA hE rfl hl.1 rfl (Nat.le_of_ble_eq_true rfl) dX10_never_45 ⟨Nat.zero_le _, Nat.zero_le _⟩ (fun rv_15 z_17 H locs hw_16 hP hD hS => ?_)
        obtain ⟨rfl, rfl⟩ := hw_16
        have hP : va_P D vwCl (xM cA r (zu12, za13)) H := hP
        have hD : va_D A (xM cA r (zu12, za13)) := hD
        refine wVi e0_S (As := [.int (nI (2 ^ g 0 - 1))]) (rest := []) ⟨hx, hb, hml, hown, hts⟩ (kX10_isSafe l D cA r _ zu12 za13 g T ro L (2 ^ g 0 - 1) (MT.keep hM (hfu2_zu12 5 (by decide) (by decide)) (hfu2_zu12 6 (by decide) (by decide)) (hfu2_zu12 7 (by decide) (by decide)) (hfa_zu12 8 (by decide)) (hfa_zu12 9 (by decide)) (hfa_zu12 10 (by decide)) (hfa_zu12 11 (by decide)) (hfa_zu12 12 (by decide))) hB (hu22) hL8 (fun k hk => hro (k) hk) hrg (p2_64 hg6 (all_lt _))) (cwV 1 hts gX10_never_X10_isSafe rfl rfl rfl (by decide +kernel) ⟨Nat.le_of_ble_eq_true rfl, Nat.le_of_ble_eq_true rfl⟩) (va_recv hK hP (ci := 10) (q0 := 0) rfl rfl) hK hP hD hS hA hE rfl hl.1 rfl (Nat.le_of_ble_eq_true rfl) dX10_never_48 ⟨Nat.zero_le _, Nat.zero_le _⟩ (fun rv_18 z_20 H locs hw_19 hP hD hS => ?_)
        obtain ⟨zu21, za22⟩ := z_20
        obtain ⟨hw_19, hfu_zu21, hfa_zu21⟩ := hw_19
        have hfu_zu21 : ∀ i, i ≠ 25 → zu21 i = zu12 i := hfu_zu21
        have hfa_zu21 : ∀ i, i ≠ 23 → i ≠ 24 → za22 i = za13 i := hfa_zu21
        have hP : va_P D vwCl (xM cA r (zu21, za22)) H := hP
        have hD : va_D A (xM cA r (zu21, za22)) := hD
        rcases hw_19 with ⟨rfl, b_23⟩ | ⟨rfl, b_23⟩
        · refine lv_if_eq (tgt := 58) hx hb dX10_never_51 (by decide) (fun c_24 => absurd c_24 (by decide)) (fun _ => ?_)
          refine lv_iconst (v := (nI 1)) hx hb dX10_never_54 rfl ?_
          refine lv_goto (tgt := 59) hx hb dX10_never_55 (by decide) ?_
          exact wIret hx hb hr hlocks (v := (nI 1)) (zu21, za22) (⟨by unfold aRnd; rw [cif_pos b_3, cif_pos b_7, cif_pos (by rw [← hrv_zu12]; exact c_14)]; rw [hRO, hnc, cif_pos b_23], by unfold fRnd; rw [cif_pos b_3, cif_pos b_7]; exact (MI.keep hI ((hfu_zu21 0 (by decide)).trans hz0_zu12) ((Eq.trans (hfu_zu21 1 (by decide)) (hfu2_zu12 1 (by decide) (by decide))).trans htr) (Eq.trans (hfu_zu21 5 (by decide)) (hfu2_zu12 5 (by decide) (by decide))) (Eq.trans (hfu_zu21 6 (by decide)) (hfu2_zu12 6 (by decide) (by decide))) (Eq.trans (hfu_zu21 7 (by decide)) (hfu2_zu12 7 (by decide) (by decide))) (Eq.trans (hfu_zu21 30 (by decide)) (hfu2_zu12 30 (by decide) (by decide))) (Eq.trans (hfa_zu21 2 (by decide) (by decide)) (hfa_zu12 2 (by decide))) (Eq.trans (hfa_zu21 3 (by decide) (by decide)) (hfa_zu12 3 (by decide))) (Eq.trans (hfa_zu21 4 (by decide) (by decide)) (hfa_zu12 4 (by decide))) (Eq.trans (hfa_zu21 8 (by decide) (by decide)) (hfa_zu12 8 (by decide))) (Eq.trans (hfa_zu21 9 (by decide) (by decide)) (hfa_zu12 9 (by decide))) (Eq.trans (hfa_zu21 10 (by decide) (by decide)) (hfa_zu12 10 (by decide))) (Eq.trans (hfa_zu21 11 (by decide) (by decide)) (hfa_zu12 11 (by decide))) (Eq.trans (hfa_zu21 12 (by decide) (by decide)) (hfa_zu12 12 (by decide))) (Eq.trans (hfa_zu21 31 (by decide) (by decide)) (hfa_zu12 31 (by decide))) (Eq.trans (hfa_zu21 32 (by decide) (by decide)) (hfa_zu12 32 (by decide))) (Eq.trans (hfa_zu21 33 (by decide) (by decide)) (hfa_zu12 33 (by decide))))⟩) hK hP hD hS dX10_never_59
        · refine lv_if_eq (tgt := 58) hx hb dX10_never_51 (by decide) (fun _ => ?_) (fun c_25 => absurd c_25 (by decide))
          refine lv_iconst (v := (nI 0)) hx hb dX10_never_58 rfl ?_
          exact wIret hx hb hr hlocks (v := (nI 0)) (zu21, za22) (⟨by unfold aRnd; rw [cif_pos b_3, cif_pos b_7, cif_pos (by rw [← hrv_zu12]; exact c_14)]; rw [hRO, hnc, cif_neg b_23], by unfold fRnd; rw [cif_pos b_3, cif_pos b_7]; exact (MI.keep hI ((hfu_zu21 0 (by decide)).trans hz0_zu12) ((Eq.trans (hfu_zu21 1 (by decide)) (hfu2_zu12 1 (by decide) (by decide))).trans htr) (Eq.trans (hfu_zu21 5 (by decide)) (hfu2_zu12 5 (by decide) (by decide))) (Eq.trans (hfu_zu21 6 (by decide)) (hfu2_zu12 6 (by decide) (by decide))) (Eq.trans (hfu_zu21 7 (by decide)) (hfu2_zu12 7 (by decide) (by decide))) (Eq.trans (hfu_zu21 30 (by decide)) (hfu2_zu12 30 (by decide) (by decide))) (Eq.trans (hfa_zu21 2 (by decide) (by decide)) (hfa_zu12 2 (by decide))) (Eq.trans (hfa_zu21 3 (by decide) (by decide)) (hfa_zu12 3 (by decide))) (Eq.trans (hfa_zu21 4 (by decide) (by decide)) (hfa_zu12 4 (by decide))) (Eq.trans (hfa_zu21 8 (by decide) (by decide)) (hfa_zu12 8 (by decide))) (Eq.trans (hfa_zu21 9 (by decide) (by decide)) (hfa_zu12 9 (by decide))) (Eq.trans (hfa_zu21 10 (by decide) (by decide)) (hfa_zu12 10 (by decide))) (Eq.trans (hfa_zu21 11 (by decide) (by decide)) (hfa_zu12 11 (by decide))) (Eq.trans (hfa_zu21 12 (by decide) (by decide)) (hfa_zu12 12 (by decide))) (Eq.trans (hfa_zu21 31 (by decide) (by decide)) (hfa_zu12 31 (by decide))) (Eq.trans (hfa_zu21 32 (by decide) (by decide)) (hfa_zu12 32 (by decide))) (Eq.trans (hfa_zu21 33 (by decide) (by decide)) (hfa_zu12 33 (by decide))))⟩) hK hP hD hS dX10_never_59
      · refine lv_iload hx hb dX10_never_40 (lv_at hl 0 rfl) ?_
        exact wIret hx hb hr hlocks (v := rv_9) (zu12, za13) (⟨by unfold aRnd; rw [cif_pos b_3, cif_pos b_7, cif_neg (by rw [← hrv_zu12]; exact c_14)]; exact hrv_zu12, by unfold fRnd; rw [cif_pos b_3, cif_pos b_7]; exact (MI.keep hI (hz0_zu12) ((hfu2_zu12 1 (by decide) (by decide)).trans htr) (hfu2_zu12 5 (by decide) (by decide)) (hfu2_zu12 6 (by decide) (by decide)) (hfu2_zu12 7 (by decide) (by decide)) (hfu2_zu12 30 (by decide) (by decide)) (hfa_zu12 2 (by decide)) (hfa_zu12 3 (by decide)) (hfa_zu12 4 (by decide)) (hfa_zu12 8 (by decide)) (hfa_zu12 9 (by decide)) (hfa_zu12 10 (by decide)) (hfa_zu12 11 (by decide)) (hfa_zu12 12 (by decide)) (hfa_zu12 31 (by decide)) (hfa_zu12 32 (by decide)) (hfa_zu12 33 (by decide)))⟩) hK hP hD hS dX10_never_42
    · refine lv_if_ne (tgt := 24) hx hb dX10_never_18 (by decide) (fun c_26 => absurd c_26 (by decide)) (fun _ => ?_)
      refine lv_bipush (v := (-2)) hx hb dX10_never_21 (by decide) ?_
      exact wIret hx hb hr hlocks (v := (-2)) ((upd u 0 (nI 0)), a) (⟨by unfold aRnd; rw [cif_pos b_3, cif_neg b_7], by unfold fRnd; rw [cif_pos b_3, cif_neg b_7]; exact (MI.keep hI rfl htr rfl rfl rfl rfl rfl rfl rfl rfl rfl rfl rfl rfl rfl rfl rfl)⟩) hK hP hD hS dX10_never_23
  · refine lv_if_ne (tgt := 14) hx hb dX10_never_9 (by decide) (fun c_27 => absurd c_27 (by decide)) (fun _ => ?_)
    refine lv_iconst (v := (-1)) hx hb dX10_never_12 (by decide) ?_
    exact wIret hx hb hr hlocks (v := (-1)) ((upd u 0 (nI 0)), a) (⟨by unfold aRnd; rw [cif_neg b_3], by unfold fRnd; rw [cif_neg b_3]; exact (MI.keep hI rfl htr rfl rfl rfl rfl rfl rfl rfl rfl rfl rfl rfl rfl rfl rfl rfl)⟩) hK hP hD hS dX10_never_13
