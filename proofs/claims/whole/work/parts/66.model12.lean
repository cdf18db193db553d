theorem m1_of {x : Int32} (h : (-1) ≤ x) (h2 : ¬ x = -1) : ¬ x < 0 := fun q => by
  rw [Int32.le_iff_toInt_le] at h
  rw [Int32.lt_iff_toInt_lt] at q
  have e1 : (-1 : Int32).toInt = -1 := by decide
  have e0 : (0 : Int32).toInt = 0 := by decide
  rw [e1] at h; rw [e0] at q
  exact h2 (Int32.toInt_inj.mp (by rw [e1]; omega))
set_option maxHeartbeats 4000000 in
set_option maxRecDepth 100000 in
theorem kX10_nail (l : Launch) (D : va_G) (cA : Nat → ClassId) (r : Nat → Nat) (sz : Nat) (u : Nat → Int32) (a : Nat → Nat → Int32) (g : Nat → Nat) (T : Nat → Nat → Nat) (R : Nat → Nat → Nat) (so : Nat → Int32) (ln : Nat → Nat) (ce : Nat → Nat → Int32) (f tr : Int32) (sh lane i n t : Int32) (hI : MI u a g T R so ln ce f tr) : Met l yX10_nail wsX10_nail ({ frames := 2, cells := 0, slots := 0, locals := 50 } : Room) (va_Pc [.ref (r 0), .int sh, .int lane, .int i, .int n, .int t] (wA D vwCl (tyA cA) e0 (xM cA r) (u, a) sz)) (va_Qi (fun (v : Int32) (z : sM) => v = aRnd g so ln ce (inR sh 0 3) (inR lane 0 2 ∧ inR t 0 299) sh lane i n (whV g T (RO ce sh i) n.toNatClampNeg t.toNatClampNeg) ∧ MI z.1 z.2 g T R so ln ce (fRnd so ln (inR sh 0 3) (inR lane 0 2 ∧ inR t 0 299) sh lane i n) tr) (wB D vwCl (tyA cA) (xM cA r) (va_A (xM cA r (u, a)) sz)) (va_A (xM cA r (u, a)) sz)) 0 0 (va_A (xM cA r (u, a)) sz) := by
  refine Met.ofW (cc := cX10_nail) (maxL := 10) (ret := (some .int)) (by decide) rfl ?_
  intro p e s m args below meth c s₁ B hml hv
  obtain ⟨rfl, hsz, hP, hK, hD0, hE⟩ := hv
  have hx := B.exec
  have hb := B.bytes
  have hr := B.returns
  have hts := atoms_spec (ws := wsX10_nail) B.pre
  have hown : s.vm.findClass RX10 = some m.cls := findClass_of_methodNamed B.named
  have hlocks := B.notSynchronized
  subst hsz
  have hD := hD0.self (sz := s.heap.size)
  generalize hAe : va_A (xM cA r (u, a)) s.heap.size = A at hD hE ⊢
  have hA : ∀ q : Nat, s.heap.size ≤ q → A q := fun q h => by rw [← hAe]; exact Or.inr h
  have hS : va_S A s.heap s.heap [] := va_S.rf
  have hinX10 : ∀ w ∈ u_ws RX10 TX10 34, w ∈ wsX10_nail := by decide +kernel
  have hl := lv_entry ([.ref (r 0), .int sh, .int lane, .int i, .int n, .int t]) (n := 10) (Nat.le_of_ble_eq_true rfl)
  rw [lg_entry_eq]
  generalize (lg_sl ([.ref (r 0), .int sh, .int lane, .int i, .int n, .int t]) ++ List.replicate (10 - (lg_sl ([.ref (r 0), .int sh, .int lane, .int i, .int n, .int t])).length) Slot.unset).toArray = ls at hl ⊢
  have hl : lv_has ls 10 [(0, .ref (r 0)), (1, .int sh), (2, .int lane), (3, .int i), (4, .int n), (5, .int t)] := hl
  have hM := hI.1
  have hB := hI.2.1
  have hg6 := hB.1
  have hRd := hI.2.2.1
  have hSh := hI.2.2.2.1
  have hf0 := hI.2.2.2.2.1
  have htr := hI.2.2.2.2.2
  refine lv_aload_n hx hb dX10_nail_0 rfl (lv_at hl 0 rfl) ?_
  refine lv_iconst (v := (nI 0)) hx hb dX10_nail_1 rfl ?_
  refine va_put (D := D) (ci := 10) (v := .int (nI 0)) (ty := .int) (C := RX10) (T := TX10) (N := 34) hx hb hts hinX10 tyX10 tyX10_ok nmX10 hown hK hP hD hS 0 rfl rfl 0 (by decide) (hts (.fieldLink RX10 80 "OneNailModel" "fault" "I") (by decide +kernel)) (fun _ h9 => h9) rfl (by decide +kernel) rfl rfl (Nat.le_of_ble_eq_true rfl) dX10_nail_2 (fun H locs hP hD hS => ?_)
  have hP : va_P D vwCl (xM cA r ((upd u 0 (nI 0)), a)) H := hP
  have hD : va_D A (xM cA r ((upd u 0 (nI 0)), a)) := hD
  refine lv_iload_n hx hb dX10_nail_5 rfl (lv_at hl 1 rfl) ?_
  refine wSi (As := [.int sh]) (rest := []) ⟨hx, hb, hml, hown, hts⟩ (kX10_isSheet l sh) (va_cwS 1 hts gX10_nail_X10_isSheet rfl rfl rfl (by decide +kernel) ⟨Nat.le_of_ble_eq_true rfl, Nat.le_of_ble_eq_true rfl⟩) rfl hl.1 rfl (Nat.le_of_ble_eq_true rfl) dX10_nail_6 ⟨Nat.zero_le _, Nat.zero_le _⟩ (fun rv_1 hw_2 => ?_)
  rcases hw_2 with ⟨rfl, b_3⟩ | ⟨rfl, b_3⟩
  · obtain ⟨j1, hj1, hj2, hj3, hj4⟩ := inR_of (show inR sh 0 3 from b_3) (by decide) (by decide)
    have hk4 : sh.toNatClampNeg < 4 := by omega
    have hsk := hSh _ hk4
    have hl : lv_has ls 10 [(0, .ref (r 0)), (1, .int (nI (sh.toNatClampNeg))), (2, .int lane), (3, .int i), (4, .int n), (5, .int t)] := lv_re hl 1 ⟨rfl, rfl⟩ (by rw [hj4]; exact hj1)
    refine lv_if_ne (tgt := 14) hx hb dX10_nail_9 (by decide) (fun _ => ?_) (fun c_4 => absurd c_4 (by decide))
    refine lv_iload_n hx hb dX10_nail_14 rfl (lv_at hl 2 rfl) ?_
    refine wSi (As := [.int lane]) (rest := []) ⟨hx, hb, hml, hown, hts⟩ (kX10_isSort l lane) (va_cwS 1 hts gX10_nail_X10_isSort rfl rfl rfl (by decide +kernel) ⟨Nat.le_of_ble_eq_true rfl, Nat.le_of_ble_eq_true rfl⟩) rfl hl.1 rfl (Nat.le_of_ble_eq_true rfl) dX10_nail_15 ⟨Nat.zero_le _, Nat.zero_le _⟩ (fun rv_5 hw_6 => ?_)
    rcases hw_6 with ⟨rfl, b_7⟩ | ⟨rfl, b_7⟩
    · refine lv_if_eq (tgt := 33) hx hb dX10_nail_18 (by decide) (fun c_8 => absurd c_8 (by decide)) (fun _ => ?_)
      refine lv_iload hx hb dX10_nail_21 (lv_at hl 5 rfl) ?_
      refine lv_iconst (v := (nI 0)) hx hb dX10_nail_23 rfl ?_
      refine lv_sipush (v := (nI 299)) hx hb dX10_nail_24 rfl ?_
      refine wSi (As := [.int t, .int (nI 0), .int (nI 299)]) (rest := []) ⟨hx, hb, hml, hown, hts⟩ (kX10_within l t (nI 0) (nI 299)) (va_cwS 3 hts gX10_nail_X10_within rfl rfl rfl (by decide +kernel) ⟨Nat.le_of_ble_eq_true rfl, Nat.le_of_ble_eq_true rfl⟩) rfl hl.1 rfl (Nat.le_of_ble_eq_true rfl) dX10_nail_27 ⟨Nat.zero_le _, Nat.zero_le _⟩ (fun rv_9 hw_10 => ?_)
      rcases hw_10 with ⟨rfl, b_11⟩ | ⟨rfl, b_11⟩
      · obtain ⟨t0, ht1, ht2, ht3, ht4⟩ := inR_of (show inR t 0 299 from b_11) (by decide) (by decide)
        have hl : lv_has ls 10 [(0, .ref (r 0)), (1, .int (nI (sh.toNatClampNeg))), (2, .int lane), (3, .int i), (4, .int n), (5, .int (nI t0))] := lv_re hl 5 ⟨rfl, rfl⟩ (ht1)
        refine lv_if_ne (tgt := 36) hx hb dX10_nail_30 (by decide) (fun _ => ?_) (fun c_12 => absurd c_12 (by decide))
        refine lv_aload_n hx hb dX10_nail_36 rfl (lv_at hl 0 rfl) ?_
        refine lv_iload_n hx hb dX10_nail_37 rfl (lv_at hl 1 rfl) ?_
        refine lv_iload_n hx hb dX10_nail_38 rfl (lv_at hl 2 rfl) ?_
        refine lv_iload_n hx hb dX10_nail_39 rfl (lv_at hl 3 rfl) ?_
        refine lv_iload hx hb dX10_nail_40 (lv_at hl 4 rfl) ?_
        refine wVi e0_S (As := [.int (nI (sh.toNatClampNeg)), .int lane, .int i, .int n]) (rest := []) ⟨hx, hb, hml, hown, hts⟩ (kX10_layRow l D cA r _ (upd u 0 (nI 0)) a g T sh.toNatClampNeg (ln sh.toNatClampNeg) lane i n (MT.keep hM rfl rfl rfl rfl rfl rfl rfl rfl) hB hk4 hsk.2.2.1 hsk.2.2.2.1) (cwV 4 hts gX10_nail_X10_layRow rfl rfl rfl (by decide +kernel) ⟨Nat.le_of_ble_eq_true rfl, Nat.le_of_ble_eq_true rfl⟩) (va_recv hK hP (ci := 10) (q0 := 0) rfl rfl) hK hP hD hS hA hE rfl hl.1 rfl (Nat.le_of_ble_eq_true rfl) dX10_nail_42 ⟨Nat.zero_le _, Nat.zero_le _⟩ (fun rv_13 z_15 H locs hw_14 hP hD hS => ?_)
        obtain ⟨zu16, za17⟩ := z_15
        obtain ⟨hrv_zu16, hz0_zu16, hfu_zu16, hfa_zu16, hrow_zu16⟩ := hw_14
        have hrv_zu16 : rv_13 = LR g so ln ce sh lane i n := by rw [hrv_zu16, hsk.1, hsk.2.2.1]; exact lrA_congr hsk.2.2.2.1 hsk.2.2.2.2
        have hz0_zu16 : zu16 0 = AG so ln sh lane i n := by rw [show zu16 0 = _ from hz0_zu16, hsk.1, hsk.2.2.1]; exact cif_ag _
        have hfu_zu16 : ∀ q, q ≠ 0 → q ≠ 22 → zu16 q = (upd u 0 (nI 0)) q := hfu_zu16
        have hfa_zu16 : ∀ q, q ≠ 21 → za17 q = a q := hfa_zu16
        have hfu2_zu16 : ∀ q, q ≠ 0 → q ≠ 22 → zu16 q = u q := fun q h1 h2 => (hfu_zu16 q h1 h2).trans (up_ne h1)
        have hP : va_P D vwCl (xM cA r (zu16, za17)) H := hP
        have hD : va_D A (xM cA r (zu16, za17)) := hD
        refine lv_istore (lv' := [(6, .int rv_13), (0, .ref (r 0)), (1, .int (nI (sh.toNatClampNeg))), (2, .int lane), (3, .int i), (4, .int n), (5, .int (nI t0))]) hx hb dX10_nail_45 hl (by decide) rfl (fun ls hl => ?_)
        refine lv_iload hx hb dX10_nail_47 (lv_at hl 0 rfl) ?_
        refine lv_if_eq (tgt := 55) hx hb dX10_nail_49 (by decide) (fun c_18 => ?_) (fun c_18 => ?_)
        · obtain ⟨i0, n0, hi0, hn0, hn1, hn8, hin, hu22, hrw⟩ := hrow_zu16 c_18
          have hu22 : zu16 22 = nI n0 := hu22
          have hic : i.toNatClampNeg = i0 := by rw [hi0]; exact nI_clamp (by omega)
          have hnc : n.toNatClampNeg = n0 := by rw [hn0]; exact nI_clamp (by omega)
          obtain ⟨hro, hrg⟩ := row_ok (a21 := za17 21) (k := sh.toNatClampNeg) (ce := ce) hg6 hin hsk.2.2.2.2 hrw
          have hRO : RO ce sh i = roC (ce sh.toNatClampNeg) i0 := by unfold RO; rw [hic]
          have hL0 : 0 < n0 := by omega
          obtain ⟨ro, hroe⟩ : ∃ z, z = roC (ce sh.toNatClampNeg) i0 := ⟨_, rfl⟩
          rw [← hroe] at hro hrg hRO
          obtain ⟨L, hLn⟩ : ∃ z, z = n0 := ⟨_, rfl⟩
          have hL8 : L ≤ 8 := by omega
          rw [← hLn] at hu22 hro hrg hL0 hnc
          refine lv_aload_n hx hb dX10_nail_55 rfl (lv_at hl 1 rfl) ?_
          refine lv_sipush (v := (nI 300)) hx hb dX10_nail_56 rfl ?_
          refine lv_sipush (v := (nI 400)) hx hb dX10_nail_59 rfl ?_
          refine wVv e0_S (As := [.int (nI 300), .int (nI 400)]) (rest := []) ⟨hx, hb, hml, hown, hts⟩ (kX10_layComings l D cA r _ zu16 za17 g T ro L 300 400 (MT.keep hM (hfu2_zu16 5 (by decide) (by decide)) (hfu2_zu16 6 (by decide) (by decide)) (hfu2_zu16 7 (by decide) (by decide)) (hfa_zu16 8 (by decide)) (hfa_zu16 9 (by decide)) (hfa_zu16 10 (by decide)) (hfa_zu16 11 (by decide)) (hfa_zu16 12 (by decide))) hB (hu22) hL8 (fun k hk => hro (k) hk) hrg (by decide) (by omega)) (cwV 2 hts gX10_nail_X10_layComings rfl rfl rfl (by decide +kernel) ⟨Nat.le_of_ble_eq_true rfl, Nat.le_of_ble_eq_true rfl⟩) (va_recv hK hP (ci := 10) (q0 := 0) rfl rfl) hK hP hD hS hA hE rfl hl.1 rfl (Nat.le_of_ble_eq_true rfl) dX10_nail_62 ⟨Nat.zero_le _, Nat.zero_le _⟩ (fun z_21 H locs hw_20 hP hD hS => ?_)
          obtain ⟨zu22, za23⟩ := z_21
          obtain ⟨cN, hLC, hcu_zu22, hc23_zu22, hc24_zu22, hfu_zu22, hfa_zu22⟩ := hw_20
          have hcu_zu22 : zu22 25 = nI cN := hcu_zu22
          have hc23_zu22 : ∀ k, k < cN → za23 23 k = nI (ct g T ro L k) := hc23_zu22
          have hc24_zu22 : ∀ k, k < cN → za23 24 k = nI (ro (k % L)) := hc24_zu22
          have hfu_zu22 : ∀ i, i ≠ 25 → zu22 i = zu16 i := hfu_zu22
          have hfa_zu22 : ∀ i, i ≠ 23 → i ≠ 24 → za23 i = za17 i := hfa_zu22
          have hP : va_P D vwCl (xM cA r (zu22, za23)) H := hP
          have hD : va_D A (xM cA r (zu22, za23)) := hD
          have hcN4 : cN ≤ 400 := hLC.1
          refine lv_bipush (v := (-9)) hx hb dX10_nail_65 (by decide) ?_
          refine lv_istore (lv' := [(7, .int (-9)), (6, .int rv_13), (0, .ref (r 0)), (1, .int (nI (sh.toNatClampNeg))), (2, .int lane), (3, .int i), (4, .int n), (5, .int (nI t0))]) hx hb dX10_nail_67 hl (by decide) rfl (fun ls hl => ?_)
          refine lv_iconst (v := (nI 0)) hx hb dX10_nail_69 rfl ?_
          refine lv_istore (lv' := [(8, .int (nI 0)), (7, .int (-9)), (6, .int rv_13), (0, .ref (r 0)), (1, .int (nI (sh.toNatClampNeg))), (2, .int lane), (3, .int i), (4, .int n), (5, .int (nI t0))]) hx hb dX10_nail_70 hl (by decide) rfl (fun ls hl => ?_)
          refine wLoop (τ := Nat × Int32) (fun z H locs ls => (fun (q : Nat) (l7 : Int32) => (q ≤ cN) ∧ ((l7 = -9 ∧ ∀ j, j < q → ¬ (ct g T ro L j ≤ t0 ∧ t0 < ct g T ro L j + T 2 (ro (j % L)))) ∨ ∃ j, j < q ∧ (ct g T ro L j ≤ t0 ∧ t0 < ct g T ro L j + T 2 (ro (j % L))) ∧ l7 = nI (ro (j % L))) ∧ (va_P D vwCl (xM cA r (zu22, za23)) H) ∧ (va_D A (xM cA r (zu22, za23))) ∧ (va_S A s.heap H locs) ∧ (lv_has ls 10 [(8, .int (nI q)), (7, .int l7), (0, .ref (r 0)), (5, .int (nI t0))])) z.1 z.2) (fun z => (fun (q : Nat) (l7 : Int32) => cN - q) z.1 z.2) (0, (-9)) ⟨(show 0 ≤ cN from Nat.zero_le _), (show ((-9) = -9 ∧ ∀ j, j < 0 → ¬ (ct g T ro L j ≤ t0 ∧ t0 < ct g T ro L j + T 2 (ro (j % L)))) ∨ ∃ j, j < 0 ∧ (ct g T ro L j ≤ t0 ∧ t0 < ct g T ro L j + T 2 (ro (j % L))) ∧ (-9) = nI (ro (j % L)) from (Or.inl ⟨rfl, fun j h => absurd h (Nat.not_lt_zero j)⟩)), hP, hD, hS, lv_sub hl [0, 1, 3, 8] rfl⟩ ?_
          rintro ⟨q, l7⟩ H locs ls ⟨hq, hl7, hP, hD, hS, hl⟩ ih72
          have hq : q ≤ cN := hq
          have hl7 : (l7 = -9 ∧ ∀ j, j < q → ¬ (ct g T ro L j ≤ t0 ∧ t0 < ct g T ro L j + T 2 (ro (j % L)))) ∨ ∃ j, j < q ∧ (ct g T ro L j ≤ t0 ∧ t0 < ct g T ro L j + T 2 (ro (j % L))) ∧ l7 = nI (ro (j % L)) := hl7
          have hP : va_P D vwCl (xM cA r (zu22, za23)) H := hP
          have hD : va_D A (xM cA r (zu22, za23)) := hD
          have hl : lv_has ls 10 [(8, .int (nI q)), (7, .int l7), (0, .ref (r 0)), (5, .int (nI t0))] := hl
          refine lv_iload hx hb dX10_nail_72 (lv_at hl 0 rfl) ?_
          refine lv_aload_n hx hb dX10_nail_74 rfl (lv_at hl 2 rfl) ?_
          refine va_get (D := D) (ci := 10) (v := .int (nI cN)) (C := RX10) (T := TX10) (N := 34) hx hb hts hinX10 hown hK hP 0 rfl rfl 25 (by decide) (hts (.fieldLink RX10 142 "OneNailModel" "comings" "I") (by decide +kernel)) (fun _ h9 => h9) (congrArg (fun z => some (Value.int z)) (hcu_zu22)) dX10_nail_75 ?_
          refine rn_ge (x := q) (y := cN) (tgt := 137) hx hb (by omega) (by omega) dX10_nail_78 (by decide) (fun c_24 => ?_) (fun c_24 => ?_)
          · have hqc : q = cN := by omega
            have h300 := (hLC.2.2 hL0).2
            have hcge := ct_ge hB hL0 hrg cN
            have hwr : whR g T ro L t0 l7 := by rcases hl7 with w7 | ⟨j, w1, w2, w3⟩; exact Or.inl ⟨w7.1, fun j hj => by rcases Nat.lt_or_ge j q with w8 | w8; exact w7.2 j w8 hj; have h8 := ct_le2 hB hL0 hrg w8; rw [hqc] at h8; omega⟩; exact Or.inr ⟨j, w2.1, w2.2, w3⟩
            refine lv_iload hx hb dX10_nail_137 (lv_at hl 1 rfl) ?_
            exact wIret hx hb hr hlocks (v := l7) (zu22, za23) (⟨by unfold aRnd; rw [cif_pos b_3, cif_pos ⟨b_7, b_11⟩, cif_pos (by rw [← hrv_zu16]; exact c_18)]; rw [hRO, hnc, ht4]; exact whV_eq hB hL0 hrg hwr, by unfold fRnd; rw [cif_pos b_3, cif_pos ⟨b_7, b_11⟩]; exact (MI.keep hI ((hfu_zu22 0 (by decide)).trans hz0_zu16) ((Eq.trans (hfu_zu22 1 (by decide)) (hfu2_zu16 1 (by decide) (by decide))).trans htr) (Eq.trans (hfu_zu22 5 (by decide)) (hfu2_zu16 5 (by decide) (by decide))) (Eq.trans (hfu_zu22 6 (by decide)) (hfu2_zu16 6 (by decide) (by decide))) (Eq.trans (hfu_zu22 7 (by decide)) (hfu2_zu16 7 (by decide) (by decide))) (Eq.trans (hfu_zu22 30 (by decide)) (hfu2_zu16 30 (by decide) (by decide))) (Eq.trans (hfa_zu22 2 (by decide) (by decide)) (hfa_zu16 2 (by decide))) (Eq.trans (hfa_zu22 3 (by decide) (by decide)) (hfa_zu16 3 (by decide))) (Eq.trans (hfa_zu22 4 (by decide) (by decide)) (hfa_zu16 4 (by decide))) (Eq.trans (hfa_zu22 8 (by decide) (by decide)) (hfa_zu16 8 (by decide))) (Eq.trans (hfa_zu22 9 (by decide) (by decide)) (hfa_zu16 9 (by decide))) (Eq.trans (hfa_zu22 10 (by decide) (by decide)) (hfa_zu16 10 (by decide))) (Eq.trans (hfa_zu22 11 (by decide) (by decide)) (hfa_zu16 11 (by decide))) (Eq.trans (hfa_zu22 12 (by decide) (by decide)) (hfa_zu16 12 (by decide))) (Eq.trans (hfa_zu22 31 (by decide) (by decide)) (hfa_zu16 31 (by decide))) (Eq.trans (hfa_zu22 32 (by decide) (by decide)) (hfa_zu16 32 (by decide))) (Eq.trans (hfa_zu22 33 (by decide) (by decide)) (hfa_zu16 33 (by decide))))⟩) hK hP hD hS dX10_nail_139
          · have hkm := Nat.mod_lt q hL0
            have hrk := hrg _ hkm
            have hTk := hB.2.2.2 _ hrk
            have hcl := ct_le hB hL0 hrg q
            refine lv_aload_n hx hb dX10_nail_81 rfl (lv_at hl 2 rfl) ?_
            refine va_get (D := D) (ci := 10) (v := .ref (r 24)) (C := RX10) (T := TX10) (N := 34) hx hb hts hinX10 hown hK hP 0 rfl rfl 24 (by decide) (hts (.fieldLink RX10 55 "OneNailModel" "comesTo" "[I") (by decide +kernel)) (fun _ h9 => h9) rfl dX10_nail_82 ?_
            refine lv_iload hx hb dX10_nail_85 (lv_at hl 0 rfl) ?_
            refine ra_iald hx hb hK hP 16 0 (n := 400) (f := (za23 24)) (j := q) (v := (nI (ro ((q) % L)))) rfl rfl (by omega) (by decide) (hc24_zu22 (q) (by omega)) dX10_nail_87 ?_
            refine lv_istore (lv' := [(9, .int (nI (ro ((q) % L)))), (8, .int (nI q)), (7, .int l7), (0, .ref (r 0)), (5, .int (nI t0))]) hx hb dX10_nail_88 hl (by decide) rfl (fun ls hl => ?_)
            refine lv_aload_n hx hb dX10_nail_90 rfl (lv_at hl 3 rfl) ?_
            refine va_get (D := D) (ci := 10) (v := .ref (r 23)) (C := RX10) (T := TX10) (N := 34) hx hb hts hinX10 hown hK hP 0 rfl rfl 23 (by decide) (hts (.fieldLink RX10 52 "OneNailModel" "comesAt" "[I") (by decide +kernel)) (fun _ h9 => h9) rfl dX10_nail_91 ?_
            refine lv_iload hx hb dX10_nail_94 (lv_at hl 1 rfl) ?_
            refine ra_iald hx hb hK hP 15 0 (n := 400) (f := (za23 23)) (j := q) (v := (nI (ct g T ro L (q)))) rfl rfl (by omega) (by decide) (hc23_zu22 (q) (by omega)) dX10_nail_96 ?_
            refine lv_iload hx hb dX10_nail_97 (lv_at hl 4 rfl) ?_
            refine rn_gt (x := ct g T ro L (q)) (y := t0) (tgt := 127) hx hb (by omega) (by omega) dX10_nail_99 (by decide) (fun c_25 => ?_) (fun c_25 => ?_)
            · refine lv_iload hx hb dX10_nail_127 (lv_at hl 2 rfl) ?_
              refine lv_istore (lv' := [(7, .int l7), (9, .int (nI (ro ((q) % L)))), (8, .int (nI q)), (0, .ref (r 0)), (5, .int (nI t0))]) hx hb dX10_nail_129 hl (by decide) rfl (fun ls hl => ?_)
              refine rn_iinc (x := q) (d := 1) (lv' := [(8, .int (nI (q + 1))), (7, .int l7), (9, .int (nI (ro ((q) % L)))), (0, .ref (r 0)), (5, .int (nI t0))]) hx hb rfl dX10_nail_131 hl (k := 2) rfl (by decide) rfl (fun ls hl => ?_)
              refine lv_goto (tgt := 72) hx hb dX10_nail_134 (by decide) ?_
              exact ih72 ((q + 1), l7) _ _ _ (show cN - (q + 1) < cN - q from by omega) ⟨(show (q + 1) ≤ cN from by omega), (show (l7 = -9 ∧ ∀ j, j < (q + 1) → ¬ (ct g T ro L j ≤ t0 ∧ t0 < ct g T ro L j + T 2 (ro (j % L)))) ∨ ∃ j, j < (q + 1) ∧ (ct g T ro L j ≤ t0 ∧ t0 < ct g T ro L j + T 2 (ro (j % L))) ∧ l7 = nI (ro (j % L)) from (by rcases hl7 with w7 | ⟨j, w1, w2⟩; exact Or.inl ⟨w7.1, lt_s (p := fun j => ¬ (ct g T ro L j ≤ t0 ∧ t0 < ct g T ro L j + T 2 (ro (j % L)))) w7.2 (by omega)⟩; exact Or.inr ⟨j, by omega, w2⟩)), hP, hD, hS, lv_sub hl [0, 1, 3, 4] rfl⟩
            · refine lv_iload hx hb dX10_nail_102 (lv_at hl 4 rfl) ?_
              refine lv_aload_n hx hb dX10_nail_104 rfl (lv_at hl 3 rfl) ?_
              refine va_get (D := D) (ci := 10) (v := .ref (r 23)) (C := RX10) (T := TX10) (N := 34) hx hb hts hinX10 hown hK hP 0 rfl rfl 23 (by decide) (hts (.fieldLink RX10 52 "OneNailModel" "comesAt" "[I") (by decide +kernel)) (fun _ h9 => h9) rfl dX10_nail_105 ?_
              refine lv_iload hx hb dX10_nail_108 (lv_at hl 1 rfl) ?_
              refine ra_iald hx hb hK hP 15 0 (n := 400) (f := (za23 23)) (j := q) (v := (nI (ct g T ro L (q)))) rfl rfl (by omega) (by decide) (hc23_zu22 (q) (by omega)) dX10_nail_110 ?_
              refine lv_aload_n hx hb dX10_nail_111 rfl (lv_at hl 3 rfl) ?_
              refine va_get (D := D) (ci := 10) (v := .ref (r 10)) (C := RX10) (T := TX10) (N := 34) hx hb hts hinX10 hown hK hP 0 rfl rfl 10 (by decide) (hts (.fieldLink RX10 25 "OneNailModel" "stays" "[I") (by decide +kernel)) (fun _ h9 => h9) rfl dX10_nail_112 ?_
              refine lv_iload hx hb dX10_nail_115 (lv_at hl 0 rfl) ?_
              refine ra_iald hx hb hK hP 6 0 (n := 6) (f := (za23 10)) (j := ro ((q) % L)) (v := (nI (T 2 (ro ((q) % L))))) rfl rfl (by omega) (by decide) ((congrFun (hfa_zu22 10 (by decide) (by decide)) (ro ((q) % L))).trans ((congrFun (hfa_zu16 10 (by decide)) (ro ((q) % L))).trans ((hM.2.2.2 (ro ((q) % L)) (by omega)).2.2.1))) dX10_nail_117 ?_
              refine rn_iadd (x := ct g T ro L (q)) (y := T 2 (ro ((q) % L))) hx hb dX10_nail_118 ?_
              refine rn_ge (x := t0) (y := (ct g T ro L (q)) + (T 2 (ro ((q) % L)))) (tgt := 127) hx hb (by omega) (by omega) dX10_nail_119 (by decide) (fun c_26 => ?_) (fun c_26 => ?_)
              · refine lv_iload hx hb dX10_nail_127 (lv_at hl 2 rfl) ?_
                refine lv_istore (lv' := [(7, .int l7), (9, .int (nI (ro ((q) % L)))), (8, .int (nI q)), (0, .ref (r 0)), (5, .int (nI t0))]) hx hb dX10_nail_129 hl (by decide) rfl (fun ls hl => ?_)
                refine rn_iinc (x := q) (d := 1) (lv' := [(8, .int (nI (q + 1))), (7, .int l7), (9, .int (nI (ro ((q) % L)))), (0, .ref (r 0)), (5, .int (nI t0))]) hx hb rfl dX10_nail_131 hl (k := 2) rfl (by decide) rfl (fun ls hl => ?_)
                refine lv_goto (tgt := 72) hx hb dX10_nail_134 (by decide) ?_
                exact ih72 ((q + 1), l7) _ _ _ (show cN - (q + 1) < cN - q from by omega) ⟨(show (q + 1) ≤ cN from by omega), (show (l7 = -9 ∧ ∀ j, j < (q + 1) → ¬ (ct g T ro L j ≤ t0 ∧ t0 < ct g T ro L j + T 2 (ro (j % L)))) ∨ ∃ j, j < (q + 1) ∧ (ct g T ro L j ≤ t0 ∧ t0 < ct g T ro L j + T 2 (ro (j % L))) ∧ l7 = nI (ro (j % L)) from (by rcases hl7 with w7 | ⟨j, w1, w2⟩; exact Or.inl ⟨w7.1, lt_s (p := fun j => ¬ (ct g T ro L j ≤ t0 ∧ t0 < ct g T ro L j + T 2 (ro (j % L)))) w7.2 (by omega)⟩; exact Or.inr ⟨j, by omega, w2⟩)), hP, hD, hS, lv_sub hl [0, 1, 3, 4] rfl⟩
              · refine lv_iload hx hb dX10_nail_122 (lv_at hl 0 rfl) ?_
                refine lv_goto (tgt := 129) hx hb dX10_nail_124 (by decide) ?_
                refine lv_istore (lv' := [(7, .int (nI (ro ((q) % L)))), (9, .int (nI (ro ((q) % L)))), (8, .int (nI q)), (0, .ref (r 0)), (5, .int (nI t0))]) hx hb dX10_nail_129 hl (by decide) rfl (fun ls hl => ?_)
                refine rn_iinc (x := q) (d := 1) (lv' := [(8, .int (nI (q + 1))), (7, .int (nI (ro ((q) % L)))), (9, .int (nI (ro ((q) % L)))), (0, .ref (r 0)), (5, .int (nI t0))]) hx hb rfl dX10_nail_131 hl (k := 2) rfl (by decide) rfl (fun ls hl => ?_)
                refine lv_goto (tgt := 72) hx hb dX10_nail_134 (by decide) ?_
                exact ih72 ((q + 1), (nI (ro ((q) % L)))) _ _ _ (show cN - (q + 1) < cN - q from by omega) ⟨(show (q + 1) ≤ cN from by omega), (show ((nI (ro ((q) % L))) = -9 ∧ ∀ j, j < (q + 1) → ¬ (ct g T ro L j ≤ t0 ∧ t0 < ct g T ro L j + T 2 (ro (j % L)))) ∨ ∃ j, j < (q + 1) ∧ (ct g T ro L j ≤ t0 ∧ t0 < ct g T ro L j + T 2 (ro (j % L))) ∧ (nI (ro ((q) % L))) = nI (ro (j % L)) from (Or.inr ⟨q, by omega, ⟨by omega, by omega⟩, rfl⟩)), hP, hD, hS, lv_sub hl [0, 1, 3, 4] rfl⟩
        · refine lv_iload hx hb dX10_nail_52 (lv_at hl 0 rfl) ?_
          exact wIret hx hb hr hlocks (v := rv_13) (zu16, za17) (⟨by unfold aRnd; rw [cif_pos b_3, cif_pos ⟨b_7, b_11⟩, cif_neg (by rw [← hrv_zu16]; exact c_18)]; exact hrv_zu16, by unfold fRnd; rw [cif_pos b_3, cif_pos ⟨b_7, b_11⟩]; exact (MI.keep hI (hz0_zu16) ((hfu2_zu16 1 (by decide) (by decide)).trans htr) (hfu2_zu16 5 (by decide) (by decide)) (hfu2_zu16 6 (by decide) (by decide)) (hfu2_zu16 7 (by decide) (by decide)) (hfu2_zu16 30 (by decide) (by decide)) (hfa_zu16 2 (by decide)) (hfa_zu16 3 (by decide)) (hfa_zu16 4 (by decide)) (hfa_zu16 8 (by decide)) (hfa_zu16 9 (by decide)) (hfa_zu16 10 (by decide)) (hfa_zu16 11 (by decide)) (hfa_zu16 12 (by decide)) (hfa_zu16 31 (by decide)) (hfa_zu16 32 (by decide)) (hfa_zu16 33 (by decide)))⟩) hK hP hD hS dX10_nail_54
      · refine lv_if_ne (tgt := 36) hx hb dX10_nail_30 (by decide) (fun c_27 => absurd c_27 (by decide)) (fun _ => ?_)
        refine lv_bipush (v := (-2)) hx hb dX10_nail_33 (by decide) ?_
        exact wIret hx hb hr hlocks (v := (-2)) ((upd u 0 (nI 0)), a) (⟨by unfold aRnd; rw [cif_pos b_3, cif_neg (fun q => b_11 q.2)], by unfold fRnd; rw [cif_pos b_3, cif_neg (fun q => b_11 q.2)]; exact (MI.keep hI rfl htr rfl rfl rfl rfl rfl rfl rfl rfl rfl rfl rfl rfl rfl rfl rfl)⟩) hK hP hD hS dX10_nail_35
    · refine lv_if_eq (tgt := 33) hx hb dX10_nail_18 (by decide) (fun _ => ?_) (fun c_28 => absurd c_28 (by decide))
      refine lv_bipush (v := (-2)) hx hb dX10_nail_33 (by decide) ?_
      exact wIret hx hb hr hlocks (v := (-2)) ((upd u 0 (nI 0)), a) (⟨by unfold aRnd; rw [cif_pos b_3, cif_neg (fun q => b_7 q.1)], by unfold fRnd; rw [cif_pos b_3, cif_neg (fun q => b_7 q.1)]; exact (MI.keep hI rfl htr rfl rfl rfl rfl rfl rfl rfl rfl rfl rfl rfl rfl rfl rfl rfl)⟩) hK hP hD hS dX10_nail_35
  · refine lv_if_ne (tgt := 14) hx hb dX10_nail_9 (by decide) (fun c_29 => absurd c_29 (by decide)) (fun _ => ?_)
    refine lv_iconst (v := (-1)) hx hb dX10_nail_12 (by decide) ?_
    exact wIret hx hb hr hlocks (v := (-1)) ((upd u 0 (nI 0)), a) (⟨by unfold aRnd; rw [cif_neg b_3], by unfold fRnd; rw [cif_neg b_3]; exact (MI.keep hI rfl htr rfl rfl rfl rfl rfl rfl rfl rfl rfl rfl rfl rfl rfl rfl rfl)⟩) hK hP hD hS dX10_nail_13

set_option maxHeartbeats 4000000 in
set_option maxRecDepth 100000 in
theorem kX10_fall (l : Launch) (D : va_G) (cA : Nat → ClassId) (r : Nat → Nat) (sz : Nat) (u : Nat → Int32) (a : Nat → Nat → Int32) (g : Nat → Nat) (T : Nat → Nat → Nat) (R : Nat → Nat → Nat) (so : Nat → Int32) (ln : Nat → Nat) (ce : Nat → Nat → Int32) (f tr : Int32) (sh lane i n kk : Int32) (hI : MI u a g T R so ln ce f tr) : Met l yX10_fall wsX10_fall ({ frames := 3, cells := 0, slots := 0, locals := 71 } : Room) (va_Pc [.ref (r 0), .int sh, .int lane, .int i, .int n, .int kk] (wA D vwCl (tyA cA) e0 (xM cA r) (u, a) sz)) (va_Qi (fun (v : Int32) (z : sM) => v = aRnd g so ln ce (inR sh 0 3 ∧ (-1) ≤ kk) (inR lane 0 2) sh lane i n (cif (kk = -1) (nI (fc g T (RO ce sh i) n.toNatClampNeg)) (fnV (g 0) (fs g T (RO ce sh i) n.toNatClampNeg 300) kk.toNatClampNeg)) ∧ MI z.1 z.2 g T R so ln ce (fRnd so ln (inR sh 0 3 ∧ (-1) ≤ kk) (inR lane 0 2) sh lane i n) tr) (wB D vwCl (tyA cA) (xM cA r) (va_A (xM cA r (u, a)) sz)) (va_A (xM cA r (u, a)) sz)) 0 0 (va_A (xM cA r (u, a)) sz) := by
  refine Met.ofW (cc := cX10_fall) (maxL := 10) (ret := (some .int)) (by decide) rfl ?_
  intro p e s m args below meth c s₁ B hml hv
  obtain ⟨rfl, hsz, hP, hK, hD0, hE⟩ := hv
  have hx := B.exec
  have hb := B.bytes
  have hr := B.returns
  have hts := atoms_spec (ws := wsX10_fall) B.pre
  have hown : s.vm.findClass RX10 = some m.cls := findClass_of_methodNamed B.named
  have hlocks := B.notSynchronized
  subst hsz
  have hD := hD0.self (sz := s.heap.size)
  generalize hAe : va_A (xM cA r (u, a)) s.heap.size = A at hD hE ⊢
  have hA : ∀ q : Nat, s.heap.size ≤ q → A q := fun q h => by rw [← hAe]; exact Or.inr h
  have hS : va_S A s.heap s.heap [] := va_S.rf
  have hinX10 : ∀ w ∈ u_ws RX10 TX10 34, w ∈ wsX10_fall := by decide +kernel
  have hl := lv_entry ([.ref (r 0), .int sh, .int lane, .int i, .int n, .int kk]) (n := 10) (Nat.le_of_ble_eq_true rfl)
  rw [lg_entry_eq]
  generalize (lg_sl ([.ref (r 0), .int sh, .int lane, .int i, .int n, .int kk]) ++ List.replicate (10 - (lg_sl ([.ref (r 0), .int sh, .int lane, .int i, .int n, .int kk])).length) Slot.unset).toArray = ls at hl ⊢
  have hl : lv_has ls 10 [(0, .ref (r 0)), (1, .int sh), (2, .int lane), (3, .int i), (4, .int n), (5, .int kk)] := hl
  have hM := hI.1
  have hB := hI.2.1
  have hg6 := hB.1
  have hRd := hI.2.2.1
  have hSh := hI.2.2.2.1
  have hf0 := hI.2.2.2.2.1
  have htr := hI.2.2.2.2.2
  refine lv_aload_n hx hb dX10_fall_0 rfl (lv_at hl 0 rfl) ?_
  refine lv_iconst (v := (nI 0)) hx hb dX10_fall_1 rfl ?_
  refine va_put (D := D) (ci := 10) (v := .int (nI 0)) (ty := .int) (C := RX10) (T := TX10) (N := 34) hx hb hts hinX10 tyX10 tyX10_ok nmX10 hown hK hP hD hS 0 rfl rfl 0 (by decide) (hts (.fieldLink RX10 80 "OneNailModel" "fault" "I") (by decide +kernel)) (fun _ h9 => h9) rfl (by decide +kernel) rfl rfl (Nat.le_of_ble_eq_true rfl) dX10_fall_2 (fun H locs hP hD hS => ?_)
  have hP : va_P D vwCl (xM cA r ((upd u 0 (nI 0)), a)) H := hP
  have hD : va_D A (xM cA r ((upd u 0 (nI 0)), a)) := hD
  refine lv_iload_n hx hb dX10_fall_5 rfl (lv_at hl 1 rfl) ?_
  refine wSi (As := [.int sh]) (rest := []) ⟨hx, hb, hml, hown, hts⟩ (kX10_isSheet l sh) (va_cwS 1 hts gX10_fall_X10_isSheet rfl rfl rfl (by decide +kernel) ⟨Nat.le_of_ble_eq_true rfl, Nat.le_of_ble_eq_true rfl⟩) rfl hl.1 rfl (Nat.le_of_ble_eq_true rfl) dX10_fall_6 ⟨Nat.zero_le _, Nat.zero_le _⟩ (fun rv_1 hw_2 => ?_)
  rcases hw_2 with ⟨rfl, b_3⟩ | ⟨rfl, b_3⟩
  · obtain ⟨j1, hj1, hj2, hj3, hj4⟩ := inR_of (show inR sh 0 3 from b_3) (by decide) (by decide)
    have hk4 : sh.toNatClampNeg < 4 := by omega
    have hsk := hSh _ hk4
    have hl : lv_has ls 10 [(0, .ref (r 0)), (1, .int (nI (sh.toNatClampNeg))), (2, .int lane), (3, .int i), (4, .int n), (5, .int kk)] := lv_re hl 1 ⟨rfl, rfl⟩ (by rw [hj4]; exact hj1)
    refine lv_if_eq (tgt := 18) hx hb dX10_fall_9 (by decide) (fun c_4 => absurd c_4 (by decide)) (fun _ => ?_)
    refine lv_iload hx hb dX10_fall_12 (lv_at hl 5 rfl) ?_
    refine lv_iconst (v := (-1)) hx hb dX10_fall_14 (by decide) ?_
    refine lv_icmp_ge (tgt := 20) hx hb dX10_fall_15 (by decide) (fun c_5 => ?_) (fun c_5 => ?_)
    · have hk9 := c_5
      refine lv_iload_n hx hb dX10_fall_20 rfl (lv_at hl 2 rfl) ?_
      refine wSi (As := [.int lane]) (rest := []) ⟨hx, hb, hml, hown, hts⟩ (kX10_isSort l lane) (va_cwS 1 hts gX10_fall_X10_isSort rfl rfl rfl (by decide +kernel) ⟨Nat.le_of_ble_eq_true rfl, Nat.le_of_ble_eq_true rfl⟩) rfl hl.1 rfl (Nat.le_of_ble_eq_true rfl) dX10_fall_21 ⟨Nat.zero_le _, Nat.zero_le _⟩ (fun rv_6 hw_7 => ?_)
      rcases hw_7 with ⟨rfl, b_8⟩ | ⟨rfl, b_8⟩
      · refine lv_if_ne (tgt := 30) hx hb dX10_fall_24 (by decide) (fun _ => ?_) (fun c_9 => absurd c_9 (by decide))
        refine lv_aload_n hx hb dX10_fall_30 rfl (lv_at hl 0 rfl) ?_
        refine lv_iload_n hx hb dX10_fall_31 rfl (lv_at hl 1 rfl) ?_
        refine lv_iload_n hx hb dX10_fall_32 rfl (lv_at hl 2 rfl) ?_
        refine lv_iload_n hx hb dX10_fall_33 rfl (lv_at hl 3 rfl) ?_
        refine lv_iload hx hb dX10_fall_34 (lv_at hl 4 rfl) ?_
        refine wVi e0_S (As := [.int (nI (sh.toNatClampNeg)), .int lane, .int i, .int n]) (rest := []) ⟨hx, hb, hml, hown, hts⟩ (kX10_layRow l D cA r _ (upd u 0 (nI 0)) a g T sh.toNatClampNeg (ln sh.toNatClampNeg) lane i n (MT.keep hM rfl rfl rfl rfl rfl rfl rfl rfl) hB hk4 hsk.2.2.1 hsk.2.2.2.1) (cwV 4 hts gX10_fall_X10_layRow rfl rfl rfl (by decide +kernel) ⟨Nat.le_of_ble_eq_true rfl, Nat.le_of_ble_eq_true rfl⟩) (va_recv hK hP (ci := 10) (q0 := 0) rfl rfl) hK hP hD hS hA hE rfl hl.1 rfl (Nat.le_of_ble_eq_true rfl) dX10_fall_36 ⟨Nat.zero_le _, Nat.zero_le _⟩ (fun rv_10 z_12 H locs hw_11 hP hD hS => ?_)
        obtain ⟨zu13, za14⟩ := z_12
        obtain ⟨hrv_zu13, hz0_zu13, hfu_zu13, hfa_zu13, hrow_zu13⟩ := hw_11
        have hrv_zu13 : rv_10 = LR g so ln ce sh lane i n := by rw [hrv_zu13, hsk.1, hsk.2.2.1]; exact lrA_congr hsk.2.2.2.1 hsk.2.2.2.2
        have hz0_zu13 : zu13 0 = AG so ln sh lane i n := by rw [show zu13 0 = _ from hz0_zu13, hsk.1, hsk.2.2.1]; exact cif_ag _
        have hfu_zu13 : ∀ q, q ≠ 0 → q ≠ 22 → zu13 q = (upd u 0 (nI 0)) q := hfu_zu13
        have hfa_zu13 : ∀ q, q ≠ 21 → za14 q = a q := hfa_zu13
        have hfu2_zu13 : ∀ q, q ≠ 0 → q ≠ 22 → zu13 q = u q := fun q h1 h2 => (hfu_zu13 q h1 h2).trans (up_ne h1)
        have hP : va_P D vwCl (xM cA r (zu13, za14)) H := hP
        have hD : va_D A (xM cA r (zu13, za14)) := hD
        refine lv_istore (lv' := [(6, .int rv_10), (0, .ref (r 0)), (1, .int (nI (sh.toNatClampNeg))), (2, .int lane), (3, .int i), (4, .int n), (5, .int kk)]) hx hb dX10_fall_39 hl (by decide) rfl (fun ls hl => ?_)
        refine lv_iload hx hb dX10_fall_41 (lv_at hl 0 rfl) ?_
        refine lv_if_eq (tgt := 49) hx hb dX10_fall_43 (by decide) (fun c_15 => ?_) (fun c_15 => ?_)
        · obtain ⟨i0, n0, hi0, hn0, hn1, hn8, hin, hu22, hrw⟩ := hrow_zu13 c_15
          have hu22 : zu13 22 = nI n0 := hu22
          have hic : i.toNatClampNeg = i0 := by rw [hi0]; exact nI_clamp (by omega)
          have hnc : n.toNatClampNeg = n0 := by rw [hn0]; exact nI_clamp (by omega)
          obtain ⟨hro, hrg⟩ := row_ok (a21 := za14 21) (k := sh.toNatClampNeg) (ce := ce) hg6 hin hsk.2.2.2.2 hrw
          have hRO : RO ce sh i = roC (ce sh.toNatClampNeg) i0 := by unfold RO; rw [hic]
          have hL0 : 0 < n0 := by omega
          obtain ⟨ro, hroe⟩ : ∃ z, z = roC (ce sh.toNatClampNeg) i0 := ⟨_, rfl⟩
          rw [← hroe] at hro hrg hRO
          obtain ⟨L, hLn⟩ : ∃ z, z = n0 := ⟨_, rfl⟩
          have hL8 : L ≤ 8 := by omega
          rw [← hLn] at hu22 hro hrg hL0 hnc
          refine lv_aload_n hx hb dX10_fall_49 rfl (lv_at hl 1 rfl) ?_
          refine wVi e0_S (As := []) (rest := []) ⟨hx, hb, hml, hown, hts⟩ (kX10_layFalls l D cA r _ zu13 za14 g T ro L (MT.keep hM (hfu2_zu13 5 (by decide) (by decide)) (hfu2_zu13 6 (by decide) (by decide)) (hfu2_zu13 7 (by decide) (by decide)) (hfa_zu13 8 (by decide)) (hfa_zu13 9 (by decide)) (hfa_zu13 10 (by decide)) (hfa_zu13 11 (by decide)) (hfa_zu13 12 (by decide))) hB (hu22) hL8 (fun k hk => hro (k) hk) hrg hL0) (cwV 0 hts gX10_fall_X10_layFalls rfl rfl rfl (by decide +kernel) ⟨Nat.le_of_ble_eq_true rfl, Nat.le_of_ble_eq_true rfl⟩) (va_recv hK hP (ci := 10) (q0 := 0) rfl rfl) hK hP hD hS hA hE rfl hl.1 rfl (Nat.le_of_ble_eq_true rfl) dX10_fall_50 ⟨Nat.zero_le _, Nat.zero_le _⟩ (fun rv_16 z_18 H locs hw_17 hP hD hS => ?_)
          obtain ⟨zu19, za20⟩ := z_18
          obtain ⟨rfl, hdf_zu19, hfu_zu19, hfa_zu19⟩ := hw_17
          have hdf_zu19 : ∀ q, q < 1800 → za20 27 q = nI (dF (g 0) (fs g T ro L 300) q) := hdf_zu19
          have hfu_zu19 : ∀ i, i ≠ 25 → zu19 i = zu13 i := hfu_zu19
          have hfa_zu19 : ∀ i, i ≠ 23 → i ≠ 24 → i ≠ 26 → i ≠ 27 → za20 i = za14 i := hfa_zu19
          have hP : va_P D vwCl (xM cA r (zu19, za20)) H := hP
          have hD : va_D A (xM cA r (zu19, za20)) := hD
          refine lv_istore (lv' := [(7, .int (nI (fc g T ro L))), (6, .int rv_10), (0, .ref (r 0)), (1, .int (nI (sh.toNatClampNeg))), (2, .int lane), (3, .int i), (4, .int n), (5, .int kk)]) hx hb dX10_fall_53 hl (by decide) rfl (fun ls hl => ?_)
          refine lv_iload hx hb dX10_fall_55 (lv_at hl 7 rfl) ?_
          refine lv_iconst (v := (-1)) hx hb dX10_fall_57 (by decide) ?_
          refine lv_icmp_ne (tgt := 64) hx hb dX10_fall_58 (by decide) (fun c_21 => ?_) (fun c_21 => ?_)
          · obtain ⟨k0, hk01, hk02⟩ := nI_of (m1_of hk9 c_21)
            have hk4c : kk.toNatClampNeg = k0 := by rw [hk02]; exact nI_clamp hk01
            have hl : lv_has ls 10 [(7, .int (nI (fc g T ro L))), (6, .int rv_10), (0, .ref (r 0)), (1, .int (nI (sh.toNatClampNeg))), (2, .int lane), (3, .int i), (4, .int n), (5, .int (nI k0))] := lv_re hl 7 ⟨rfl, rfl⟩ (hk02)
            refine lv_iload hx hb dX10_fall_64 (lv_at hl 7 rfl) ?_
            refine lv_istore (lv' := [(8, .int (nI k0)), (7, .int (nI (fc g T ro L))), (6, .int rv_10), (0, .ref (r 0)), (1, .int (nI (sh.toNatClampNeg))), (2, .int lane), (3, .int i), (4, .int n), (5, .int (nI k0))]) hx hb dX10_fall_66 hl (by decide) rfl (fun ls hl => ?_)
            refine lv_iconst (v := (nI 0)) hx hb dX10_fall_68 rfl ?_
            refine lv_istore (lv' := [(9, .int (nI 0)), (8, .int (nI k0)), (7, .int (nI (fc g T ro L))), (6, .int rv_10), (0, .ref (r 0)), (1, .int (nI (sh.toNatClampNeg))), (2, .int lane), (3, .int i), (4, .int n), (5, .int (nI k0))]) hx hb dX10_fall_69 hl (by decide) rfl (fun ls hl => ?_)
            refine wLoop (τ := Nat × Nat) (fun z H locs ls => (fun (q : Nat) (lf : Nat) => (q ≤ 1800) ∧ (lf + sm (dF (g 0) (fs g T ro L 300)) q = k0) ∧ (va_P D vwCl (xM cA r (zu19, za20)) H) ∧ (va_D A (xM cA r (zu19, za20))) ∧ (va_S A s.heap H locs) ∧ (lv_has ls 10 [(9, .int (nI q)), (8, .int (nI lf)), (0, .ref (r 0))])) z.1 z.2) (fun z => (fun (q : Nat) (lf : Nat) => 1800 - q) z.1 z.2) (0, k0) ⟨(show 0 ≤ 1800 from Nat.zero_le _), (show k0 + sm (dF (g 0) (fs g T ro L 300)) 0 = k0 from by rw [sm]; rfl), hP, hD, hS, lv_sub hl [0, 1, 4] rfl⟩ ?_
            rintro ⟨q, lf⟩ H locs ls ⟨hq, hlf, hP, hD, hS, hl⟩ ih71
            have hq : q ≤ 1800 := hq
            have hlf : lf + sm (dF (g 0) (fs g T ro L 300)) q = k0 := hlf
            have hP : va_P D vwCl (xM cA r (zu19, za20)) H := hP
            have hD : va_D A (xM cA r (zu19, za20)) := hD
            have hl : lv_has ls 10 [(9, .int (nI q)), (8, .int (nI lf)), (0, .ref (r 0))] := hl
            refine lv_iload hx hb dX10_fall_71 (lv_at hl 0 rfl) ?_
            refine lv_sipush (v := (nI 1800)) hx hb dX10_fall_73 rfl ?_
            refine rn_ge (x := q) (y := 1800) (tgt := 118) hx hb (by omega) (by omega) dX10_fall_76 (by decide) (fun c_22 => ?_) (fun c_22 => ?_)
            · refine lv_bipush (v := (-9)) hx hb dX10_fall_118 (by decide) ?_
              exact wIret hx hb hr hlocks (v := (-9)) (zu19, za20) (⟨by unfold aRnd; rw [cif_pos ⟨b_3, c_5⟩, cif_pos b_8, cif_pos (by rw [← hrv_zu13]; exact c_15)]; rw [hRO, hnc, cif_neg c_21, hk4c]; exact fnV_eq (Or.inr ⟨by have e9 : lf + sm (dF (g 0) (fs g T ro L 300)) 1800 = k0 := (by rw [show q = 1800 by omega] at hlf; exact hlf); omega, rfl⟩), by unfold fRnd; rw [cif_pos ⟨b_3, c_5⟩, cif_pos b_8]; exact (MI.keep hI ((hfu_zu19 0 (by decide)).trans hz0_zu13) ((Eq.trans (hfu_zu19 1 (by decide)) (hfu2_zu13 1 (by decide) (by decide))).trans htr) (Eq.trans (hfu_zu19 5 (by decide)) (hfu2_zu13 5 (by decide) (by decide))) (Eq.trans (hfu_zu19 6 (by decide)) (hfu2_zu13 6 (by decide) (by decide))) (Eq.trans (hfu_zu19 7 (by decide)) (hfu2_zu13 7 (by decide) (by decide))) (Eq.trans (hfu_zu19 30 (by decide)) (hfu2_zu13 30 (by decide) (by decide))) (Eq.trans (hfa_zu19 2 (by decide) (by decide) (by decide) (by decide)) (hfa_zu13 2 (by decide))) (Eq.trans (hfa_zu19 3 (by decide) (by decide) (by decide) (by decide)) (hfa_zu13 3 (by decide))) (Eq.trans (hfa_zu19 4 (by decide) (by decide) (by decide) (by decide)) (hfa_zu13 4 (by decide))) (Eq.trans (hfa_zu19 8 (by decide) (by decide) (by decide) (by decide)) (hfa_zu13 8 (by decide))) (Eq.trans (hfa_zu19 9 (by decide) (by decide) (by decide) (by decide)) (hfa_zu13 9 (by decide))) (Eq.trans (hfa_zu19 10 (by decide) (by decide) (by decide) (by decide)) (hfa_zu13 10 (by decide))) (Eq.trans (hfa_zu19 11 (by decide) (by decide) (by decide) (by decide)) (hfa_zu13 11 (by decide))) (Eq.trans (hfa_zu19 12 (by decide) (by decide) (by decide) (by decide)) (hfa_zu13 12 (by decide))) (Eq.trans (hfa_zu19 31 (by decide) (by decide) (by decide) (by decide)) (hfa_zu13 31 (by decide))) (Eq.trans (hfa_zu19 32 (by decide) (by decide) (by decide) (by decide)) (hfa_zu13 32 (by decide))) (Eq.trans (hfa_zu19 33 (by decide) (by decide) (by decide) (by decide)) (hfa_zu13 33 (by decide))))⟩) hK hP hD hS dX10_fall_120
            · have hd1 := dF_le (g 0) (fs g T ro L 300) q
              have hdq : dF (g 0) (fs g T ro L 300) q ≠ 0 → DF (g 0) (fs g T ro L 300) q := fun w7 => Classical.byContradiction (fun w8 => w7 (cif_neg w8))
              refine lv_aload_n hx hb dX10_fall_79 rfl (lv_at hl 2 rfl) ?_
              refine va_get (D := D) (ci := 10) (v := .ref (r 27)) (C := RX10) (T := TX10) (N := 34) hx hb hts hinX10 hown hK hP 0 rfl rfl 27 (by decide) (hts (.fieldLink RX10 61 "OneNailModel" "doesFall" "[Z") (by decide +kernel)) (fun _ h9 => h9) rfl dX10_fall_80 ?_
              refine lv_iload hx hb dX10_fall_83 (lv_at hl 0 rfl) ?_
              refine ra_zald hx hb hK hP 18 1 (n := 1800) (f := (za20 27)) (j := q) (v := (nI (dF (g 0) (fs g T ro L 300) q))) rfl rfl (by omega) (by decide) (hdf_zu19 (q) (by omega)) dX10_fall_85 ?_
              refine rz_eq (x := dF (g 0) (fs g T ro L 300) q) (tgt := 112) hx hb (by omega) dX10_fall_86 (by decide) (fun c_23 => ?_) (fun c_23 => ?_)
              · refine rn_iinc (x := q) (d := 1) (lv' := [(9, .int (nI (q + 1))), (8, .int (nI lf)), (0, .ref (r 0))]) hx hb rfl dX10_fall_112 hl (k := 0) rfl (by decide) rfl (fun ls hl => ?_)
                refine lv_goto (tgt := 71) hx hb dX10_fall_115 (by decide) ?_
                exact ih71 ((q + 1), lf) _ _ _ (show 1800 - (q + 1) < 1800 - q from by omega) ⟨(show (q + 1) ≤ 1800 from by omega), (show lf + sm (dF (g 0) (fs g T ro L 300)) (q + 1) = k0 from (by rw [sm]; omega)), hP, hD, hS, lv_sub hl [0, 1, 2] rfl⟩
              · refine lv_iload hx hb dX10_fall_89 (lv_at hl 1 rfl) ?_
                refine rz_ne (x := lf) (tgt := 109) hx hb (by omega) dX10_fall_91 (by decide) (fun c_24 => ?_) (fun c_24 => ?_)
                · obtain ⟨x_25, ex_25⟩ : ∃ z : Int32, z = (nI lf) + Int32.ofInt (-1) := ⟨_, rfl⟩
                  refine lv_iinc (v := x_25) (lv' := [(8, .int x_25), (9, .int (nI q)), (0, .ref (r 0))]) hx hb dX10_fall_109 hl (k := 1) rfl (ex_25).symm (by decide) rfl (fun ls hl => ?_)
                  refine rn_iinc (x := q) (d := 1) (lv' := [(9, .int (nI (q + 1))), (8, .int x_25), (0, .ref (r 0))]) hx hb rfl dX10_fall_112 hl (k := 1) rfl (by decide) rfl (fun ls hl => ?_)
                  refine lv_goto (tgt := 71) hx hb dX10_fall_115 (by decide) ?_
                  have hl : lv_has ls 10 [(9, .int (nI (q + 1))), (8, .int (nI (lf - 1))), (0, .ref (r 0))] := lv_re hl 1 ⟨rfl, rfl⟩ (ex_25.trans (sub_n (by omega)))
                  exact ih71 ((q + 1), (lf - 1)) _ _ _ (show 1800 - (q + 1) < 1800 - q from by omega) ⟨(show (q + 1) ≤ 1800 from by omega), (show (lf - 1) + sm (dF (g 0) (fs g T ro L 300)) (q + 1) = k0 from (by rw [sm]; omega)), hP, hD, hS, lv_sub hl [0, 1, 2] rfl⟩
                · refine lv_bipush (v := (nI 10)) hx hb dX10_fall_94 rfl ?_
                  refine lv_iload hx hb dX10_fall_96 (lv_at hl 0 rfl) ?_
                  refine lv_bipush (v := (nI 6)) hx hb dX10_fall_98 rfl ?_
                  refine rn_idiv (x := q) (y := 6) hx hb (by omega) (by omega) (by omega) dX10_fall_100 ?_
                  refine rn_imul (x := 10) (y := q / 6) hx hb dX10_fall_101 ?_
                  refine lv_iload hx hb dX10_fall_102 (lv_at hl 0 rfl) ?_
                  refine lv_bipush (v := (nI 6)) hx hb dX10_fall_104 rfl ?_
                  refine rn_irem (x := q) (y := 6) hx hb (by omega) (by omega) (by omega) dX10_fall_106 ?_
                  refine rn_iadd (x := 10 * (q / 6)) (y := q % 6) hx hb dX10_fall_107 ?_
                  exact wIret hx hb hr hlocks (v := (nI ((10 * (q / 6)) + (q % 6)))) (zu19, za20) (⟨by unfold aRnd; rw [cif_pos ⟨b_3, c_5⟩, cif_pos b_8, cif_pos (by rw [← hrv_zu13]; exact c_15)]; rw [hRO, hnc, cif_neg c_21, hk4c]; exact fnV_eq (Or.inl ⟨q, by omega, hdq (by omega), by omega, rfl⟩), by unfold fRnd; rw [cif_pos ⟨b_3, c_5⟩, cif_pos b_8]; exact (MI.keep hI ((hfu_zu19 0 (by decide)).trans hz0_zu13) ((Eq.trans (hfu_zu19 1 (by decide)) (hfu2_zu13 1 (by decide) (by decide))).trans htr) (Eq.trans (hfu_zu19 5 (by decide)) (hfu2_zu13 5 (by decide) (by decide))) (Eq.trans (hfu_zu19 6 (by decide)) (hfu2_zu13 6 (by decide) (by decide))) (Eq.trans (hfu_zu19 7 (by decide)) (hfu2_zu13 7 (by decide) (by decide))) (Eq.trans (hfu_zu19 30 (by decide)) (hfu2_zu13 30 (by decide) (by decide))) (Eq.trans (hfa_zu19 2 (by decide) (by decide) (by decide) (by decide)) (hfa_zu13 2 (by decide))) (Eq.trans (hfa_zu19 3 (by decide) (by decide) (by decide) (by decide)) (hfa_zu13 3 (by decide))) (Eq.trans (hfa_zu19 4 (by decide) (by decide) (by decide) (by decide)) (hfa_zu13 4 (by decide))) (Eq.trans (hfa_zu19 8 (by decide) (by decide) (by decide) (by decide)) (hfa_zu13 8 (by decide))) (Eq.trans (hfa_zu19 9 (by decide) (by decide) (by decide) (by decide)) (hfa_zu13 9 (by decide))) (Eq.trans (hfa_zu19 10 (by decide) (by decide) (by decide) (by decide)) (hfa_zu13 10 (by decide))) (Eq.trans (hfa_zu19 11 (by decide) (by decide) (by decide) (by decide)) (hfa_zu13 11 (by decide))) (Eq.trans (hfa_zu19 12 (by decide) (by decide) (by decide) (by decide)) (hfa_zu13 12 (by decide))) (Eq.trans (hfa_zu19 31 (by decide) (by decide) (by decide) (by decide)) (hfa_zu13 31 (by decide))) (Eq.trans (hfa_zu19 32 (by decide) (by decide) (by decide) (by decide)) (hfa_zu13 32 (by decide))) (Eq.trans (hfa_zu19 33 (by decide) (by decide) (by decide) (by decide)) (hfa_zu13 33 (by decide))))⟩) hK hP hD hS dX10_fall_108
          · refine lv_iload hx hb dX10_fall_61 (lv_at hl 0 rfl) ?_
            exact wIret hx hb hr hlocks (v := (nI (fc g T ro L))) (zu19, za20) (⟨by unfold aRnd; rw [cif_pos ⟨b_3, c_5⟩, cif_pos b_8, cif_pos (by rw [← hrv_zu13]; exact c_15)]; rw [hRO, hnc, cif_pos c_21], by unfold fRnd; rw [cif_pos ⟨b_3, c_5⟩, cif_pos b_8]; exact (MI.keep hI ((hfu_zu19 0 (by decide)).trans hz0_zu13) ((Eq.trans (hfu_zu19 1 (by decide)) (hfu2_zu13 1 (by decide) (by decide))).trans htr) (Eq.trans (hfu_zu19 5 (by decide)) (hfu2_zu13 5 (by decide) (by decide))) (Eq.trans (hfu_zu19 6 (by decide)) (hfu2_zu13 6 (by decide) (by decide))) (Eq.trans (hfu_zu19 7 (by decide)) (hfu2_zu13 7 (by decide) (by decide))) (Eq.trans (hfu_zu19 30 (by decide)) (hfu2_zu13 30 (by decide) (by decide))) (Eq.trans (hfa_zu19 2 (by decide) (by decide) (by decide) (by decide)) (hfa_zu13 2 (by decide))) (Eq.trans (hfa_zu19 3 (by decide) (by decide) (by decide) (by decide)) (hfa_zu13 3 (by decide))) (Eq.trans (hfa_zu19 4 (by decide) (by decide) (by decide) (by decide)) (hfa_zu13 4 (by decide))) (Eq.trans (hfa_zu19 8 (by decide) (by decide) (by decide) (by decide)) (hfa_zu13 8 (by decide))) (Eq.trans (hfa_zu19 9 (by decide) (by decide) (by decide) (by decide)) (hfa_zu13 9 (by decide))) (Eq.trans (hfa_zu19 10 (by decide) (by decide) (by decide) (by decide)) (hfa_zu13 10 (by decide))) (Eq.trans (hfa_zu19 11 (by decide) (by decide) (by decide) (by decide)) (hfa_zu13 11 (by decide))) (Eq.trans (hfa_zu19 12 (by decide) (by decide) (by decide) (by decide)) (hfa_zu13 12 (by decide))) (Eq.trans (hfa_zu19 31 (by decide) (by decide) (by decide) (by decide)) (hfa_zu13 31 (by decide))) (Eq.trans (hfa_zu19 32 (by decide) (by decide) (by decide) (by decide)) (hfa_zu13 32 (by decide))) (Eq.trans (hfa_zu19 33 (by decide) (by decide) (by decide) (by decide)) (hfa_zu13 33 (by decide))))⟩) hK hP hD hS dX10_fall_63
        · refine lv_iload hx hb dX10_fall_46 (lv_at hl 0 rfl) ?_
          exact wIret hx hb hr hlocks (v := rv_10) (zu13, za14) (⟨by unfold aRnd; rw [cif_pos ⟨b_3, c_5⟩, cif_pos b_8, cif_neg (by rw [← hrv_zu13]; exact c_15)]; exact hrv_zu13, by unfold fRnd; rw [cif_pos ⟨b_3, c_5⟩, cif_pos b_8]; exact (MI.keep hI (hz0_zu13) ((hfu2_zu13 1 (by decide) (by decide)).trans htr) (hfu2_zu13 5 (by decide) (by decide)) (hfu2_zu13 6 (by decide) (by decide)) (hfu2_zu13 7 (by decide) (by decide)) (hfu2_zu13 30 (by decide) (by decide)) (hfa_zu13 2 (by decide)) (hfa_zu13 3 (by decide)) (hfa_zu13 4 (by decide)) (hfa_zu13 8 (by decide)) (hfa_zu13 9 (by decide)) (hfa_zu13 10 (by decide)) (hfa_zu13 11 (by decide)) (hfa_zu13 12 (by decide)) (hfa_zu13 31 (by decide)) (hfa_zu13 32 (by decide)) (hfa_zu13 33 (by decide)))⟩) hK hP hD hS dX10_fall_48
      · refine lv_if_ne (tgt := 30) hx hb dX10_fall_24 (by decide) (fun c_26 => absurd c_26 (by decide)) (fun _ => ?_)
        refine lv_bipush (v := (-2)) hx hb dX10_fall_27 (by decide) ?_
        exact wIret hx hb hr hlocks (v := (-2)) ((upd u 0 (nI 0)), a) (⟨by unfold aRnd; rw [cif_pos ⟨b_3, c_5⟩, cif_neg b_8], by unfold fRnd; rw [cif_pos ⟨b_3, c_5⟩, cif_neg b_8]; exact (MI.keep hI rfl htr rfl rfl rfl rfl rfl rfl rfl rfl rfl rfl rfl rfl rfl rfl rfl)⟩) hK hP hD hS dX10_fall_29
    · refine lv_iconst (v := (-1)) hx hb dX10_fall_18 (by decide) ?_
      exact wIret hx hb hr hlocks (v := (-1)) ((upd u 0 (nI 0)), a) (⟨by unfold aRnd; rw [cif_neg (fun q => c_5 q.2)], by unfold fRnd; rw [cif_neg (fun q => c_5 q.2)]; exact (MI.keep hI rfl htr rfl rfl rfl rfl rfl rfl rfl rfl rfl rfl rfl rfl rfl rfl rfl)⟩) hK hP hD hS dX10_fall_19
  · refine lv_if_eq (tgt := 18) hx hb dX10_fall_9 (by decide) (fun _ => ?_) (fun c_27 => absurd c_27 (by decide))
    refine lv_iconst (v := (-1)) hx hb dX10_fall_18 (by decide) ?_
    exact wIret hx hb hr hlocks (v := (-1)) ((upd u 0 (nI 0)), a) (⟨by unfold aRnd; rw [cif_neg (fun q => b_3 q.1)], by unfold fRnd; rw [cif_neg (fun q => b_3 q.1)]; exact (MI.keep hI rfl htr rfl rfl rfl rfl rfl rfl rfl rfl rfl rfl rfl rfl rfl rfl rfl)⟩) hK hP hD hS dX10_fall_19
