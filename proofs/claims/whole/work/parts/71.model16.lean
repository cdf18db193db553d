def CP (so : Nat → Int32) (ln : Nat → Nat) (sh i ot j n : Int32) : Prop := ∃ i0 j0 n0 : Nat, i = nI i0 ∧ j = nI j0 ∧ n = nI n0 ∧ i0 + n0 ≤ min 60 (ln sh.toNatClampNeg) ∧ j0 + n0 ≤ min 60 (ln ot.toNatClampNeg)
abbrev cpN (so : Nat → Int32) (sh ot : Int32) : Prop := so sh.toNatClampNeg = -9 ∨ so ot.toNatClampNeg = -9
noncomputable def aCopy (so : Nat → Int32) (ln : Nat → Nat) (sh i ot j n : Int32) : Int32 := cif (inR sh 0 3 ∧ inR ot 0 3) (cif (cpN so sh ot) (-11) (cif (so sh.toNatClampNeg = so ot.toNatClampNeg) (cif (CP so ln sh i ot j n) n (-13)) (-12))) (-1)
noncomputable def fCopy (so : Nat → Int32) (ln : Nat → Nat) (sh i ot j n : Int32) : Int32 := cif (inR sh 0 3 ∧ inR ot 0 3) (cif (cpN so sh ot) (nI 1) (cif (so sh.toNatClampNeg = so ot.toNatClampNeg) (cif (CP so ln sh i ot j n) (nI 0) (nI 3)) (nI 2))) (nI 0)
def cpA (f g : Nat → Int32) (i j n : Nat) : Nat → Int32 := fun q => if j ≤ q ∧ q < j + n then f (i + (q - j)) else g q
noncomputable def ceCopy (so : Nat → Int32) (ln : Nat → Nat) (ce : Nat → Nat → Int32) (sh i ot j n : Int32) : Nat → Nat → Int32 := cif ((inR sh 0 3 ∧ inR ot 0 3) ∧ ¬ cpN so sh ot ∧ so sh.toNatClampNeg = so ot.toNatClampNeg ∧ CP so ln sh i ot j n) (va_up ce ot.toNatClampNeg (cpA (ce sh.toNatClampNeg) (ce ot.toNatClampNeg) i.toNatClampNeg j.toNatClampNeg n.toNatClampNeg)) ce
theorem sh_copy {a a' : Nat → Nat → Int32} {so : Nat → Int32} {ln : Nat → Nat} {ce : Nat → Nat → Int32} {k o i0 j0 n0 : Nat} (h : ShI a so ln ce) (hk : k < 4) (ho : o < 4) (hi : i0 + n0 ≤ 60) (hj : j0 + n0 ≤ 60) (e2 : a' 2 = a 2) (e3 : a' 3 = a 3) (hc : ∀ c, c < n0 → a' 4 (60 * o + j0 + c) = a 4 (60 * k + i0 + c)) (hoth : ∀ p, ¬ (60 * o + j0 ≤ p ∧ p < 60 * o + j0 + n0) → a' 4 p = a 4 p) : ShI a' so ln (va_up ce o (cpA (ce k) (ce o) i0 j0 n0)) := by
  intro j hj4
  have hq := h j hj4
  rw [e2, e3]
  refine ⟨hq.1, hq.2.1, hq.2.2.1, hq.2.2.2.1, fun i hi' => ?_⟩
  by_cases e : j = o
  · rw [e, vup_eq]
    unfold cpA
    by_cases w : j0 ≤ i ∧ i < j0 + n0
    · rw [if_pos w, ← (h k hk).2.2.2.2 _ (by omega)]
      have := hc (i - j0) (by omega)
      rw [show 60 * o + j0 + (i - j0) = 60 * o + i by omega, show 60 * k + i0 + (i - j0) = 60 * k + (i0 + (i - j0)) by omega] at this
      exact this
    · rw [if_neg w, hoth _ (by omega)]; exact (h o ho).2.2.2.2 i hi'
  · rw [vup_ne e, hoth _ (by omega)]; exact hq.2.2.2.2 i hi'
set_option maxHeartbeats 4000000 in
set_option maxRecDepth 100000 in
theorem kX10_copy (l : Launch) (D : va_G) (cA : Nat → ClassId) (r : Nat → Nat) (sz : Nat) (u : Nat → Int32) (a : Nat → Nat → Int32) (g : Nat → Nat) (T : Nat → Nat → Nat) (R : Nat → Nat → Nat) (so : Nat → Int32) (ln : Nat → Nat) (ce : Nat → Nat → Int32) (f tr : Int32) (sh i ot j n : Int32) (hI : MI u a g T R so ln ce f tr) : Met l yX10_copy wsX10_copy ({ frames := 2, cells := 0, slots := 0, locals := 42 } : Room) (va_Pc [.ref (r 0), .int sh, .int i, .int ot, .int j, .int n] (wA D vwCl (tyA cA) e0 (xM cA r) (u, a) sz)) (va_Qi (fun (v : Int32) (z : sM) => v = aCopy so ln sh i ot j n ∧ MI z.1 z.2 g T R so ln (ceCopy so ln ce sh i ot j n) (fCopy so ln sh i ot j n) tr) (wB D vwCl (tyA cA) (xM cA r) (va_A (xM cA r (u, a)) sz)) (va_A (xM cA r (u, a)) sz)) 0 0 (va_A (xM cA r (u, a)) sz) := by
  refine Met.ofW (cc := cX10_copy) (maxL := 10) (ret := (some .int)) (by decide) rfl ?_
  intro p e s m args below meth c s₁ B hml hv
  obtain ⟨rfl, hsz, hP, hK, hD0, hE⟩ := hv
  have hx := B.exec
  have hb := B.bytes
  have hr := B.returns
  have hts := atoms_spec (ws := wsX10_copy) B.pre
  have hown : s.vm.findClass RX10 = some m.cls := findClass_of_methodNamed B.named
  have hlocks := B.notSynchronized
  subst hsz
  have hD := hD0.self (sz := s.heap.size)
  generalize hAe : va_A (xM cA r (u, a)) s.heap.size = A at hD hE ⊢
  have hA : ∀ q : Nat, s.heap.size ≤ q → A q := fun q h => by rw [← hAe]; exact Or.inr h
  have hS : va_S A s.heap s.heap [] := va_S.rf
  have hinX10 : ∀ w ∈ u_ws RX10 TX10 34, w ∈ wsX10_copy := by decide +kernel
  have hl := lv_entry ([.ref (r 0), .int sh, .int i, .int ot, .int j, .int n]) (n := 10) (Nat.le_of_ble_eq_true rfl)
  rw [lg_entry_eq]
  generalize (lg_sl ([.ref (r 0), .int sh, .int i, .int ot, .int j, .int n]) ++ List.replicate (10 - (lg_sl ([.ref (r 0), .int sh, .int i, .int ot, .int j, .int n])).length) Slot.unset).toArray = ls at hl ⊢
  have hl : lv_has ls 10 [(0, .ref (r 0)), (1, .int sh), (2, .int i), (3, .int ot), (4, .int j), (5, .int n)] := hl
  have hM := hI.1
  have hB := hI.2.1
  have hg6 := hB.1
  have hRd := hI.2.2.1
  have hSh := hI.2.2.2.1
  have hf0 := hI.2.2.2.2.1
  have htr := hI.2.2.2.2.2
  refine lv_aload_n hx hb dX10_copy_0 rfl (lv_at hl 0 rfl) ?_
  refine lv_iconst (v := (nI 0)) hx hb dX10_copy_1 rfl ?_
  refine va_put (D := D) (ci := 10) (v := .int (nI 0)) (ty := .int) (C := RX10) (T := TX10) (N := 34) hx hb hts hinX10 tyX10 tyX10_ok nmX10 hown hK hP hD hS 0 rfl rfl 0 (by decide) (hts (.fieldLink RX10 80 "OneNailModel" "fault" "I") (by decide +kernel)) (fun _ h9 => h9) rfl (by decide +kernel) rfl rfl (Nat.le_of_ble_eq_true rfl) dX10_copy_2 (fun H locs hP hD hS => ?_)
  have hP : va_P D vwCl (xM cA r ((upd u 0 (nI 0)), a)) H := hP
  have hD : va_D A (xM cA r ((upd u 0 (nI 0)), a)) := hD
  refine lv_iload_n hx hb dX10_copy_5 rfl (lv_at hl 1 rfl) ?_
  refine wSi (As := [.int sh]) (rest := []) ⟨hx, hb, hml, hown, hts⟩ (kX10_isSheet l sh) (va_cwS 1 hts gX10_copy_X10_isSheet rfl rfl rfl (by decide +kernel) ⟨Nat.le_of_ble_eq_true rfl, Nat.le_of_ble_eq_true rfl⟩) rfl hl.1 rfl (Nat.le_of_ble_eq_true rfl) dX10_copy_6 ⟨Nat.zero_le _, Nat.zero_le _⟩ (fun rv_1 hw_2 => ?_)
  rcases hw_2 with ⟨rfl, b_3⟩ | ⟨rfl, b_3⟩
  · obtain ⟨j1, hj1, hj2, hj3, hj4⟩ := inR_of (show inR sh 0 3 from b_3) (by decide) (by decide)
    have hk4 : sh.toNatClampNeg < 4 := by omega
    have hsk := hSh _ hk4
    have hl : lv_has ls 10 [(0, .ref (r 0)), (1, .int (nI (sh.toNatClampNeg))), (2, .int i), (3, .int ot), (4, .int j), (5, .int n)] := lv_re hl 1 ⟨rfl, rfl⟩ (by rw [hj4]; exact hj1)
    refine lv_if_eq (tgt := 19) hx hb dX10_copy_9 (by decide) (fun c_4 => absurd c_4 (by decide)) (fun _ => ?_)
    refine lv_iload_n hx hb dX10_copy_12 rfl (lv_at hl 3 rfl) ?_
    refine wSi (As := [.int ot]) (rest := []) ⟨hx, hb, hml, hown, hts⟩ (kX10_isSheet l ot) (va_cwS 1 hts gX10_copy_X10_isSheet rfl rfl rfl (by decide +kernel) ⟨Nat.le_of_ble_eq_true rfl, Nat.le_of_ble_eq_true rfl⟩) rfl hl.1 rfl (Nat.le_of_ble_eq_true rfl) dX10_copy_13 ⟨Nat.zero_le _, Nat.zero_le _⟩ (fun rv_5 hw_6 => ?_)
    rcases hw_6 with ⟨rfl, b_7⟩ | ⟨rfl, b_7⟩
    · obtain ⟨o1, ho1, ho2, ho3, hoc⟩ := inR_of (show inR ot 0 3 from b_7) (by decide) (by decide)
      have ho4 : ot.toNatClampNeg < 4 := by omega
      have hl : lv_has ls 10 [(0, .ref (r 0)), (1, .int (nI (sh.toNatClampNeg))), (2, .int i), (3, .int (nI (ot.toNatClampNeg))), (4, .int j), (5, .int n)] := lv_re hl 3 ⟨rfl, rfl⟩ (by rw [hoc]; exact ho1)
      have hl1 := (hSh _ hk4).2.2.2.1
      have hl2 := (hSh _ ho4).2.2.2.1
      refine lv_if_ne (tgt := 21) hx hb dX10_copy_16 (by decide) (fun _ => ?_) (fun c_8 => absurd c_8 (by decide))
      refine lv_aload_n hx hb dX10_copy_21 rfl (lv_at hl 0 rfl) ?_
      refine va_get (D := D) (ci := 10) (v := .ref (r 2)) (C := RX10) (T := TX10) (N := 34) hx hb hts hinX10 hown hK hP 0 rfl rfl 2 (by decide) (hts (.fieldLink RX10 9 "OneNailModel" "sorts" "[I") (by decide +kernel)) (fun _ h9 => h9) rfl dX10_copy_22 ?_
      refine lv_iload_n hx hb dX10_copy_25 rfl (lv_at hl 1 rfl) ?_
      refine ra_iald hx hb hK hP 1 0 (n := 4) (f := (a 2)) (j := sh.toNatClampNeg) (v := (so sh.toNatClampNeg)) rfl rfl (by omega) (by decide) ((hSh _ hk4).1) dX10_copy_26 ?_
      refine lv_bipush (v := (-9)) hx hb dX10_copy_27 (by decide) ?_
      refine lv_icmp_eq (tgt := 43) hx hb dX10_copy_29 (by decide) (fun c_9 => ?_) (fun c_9 => ?_)
      · refine lv_aload_n hx hb dX10_copy_43 rfl (lv_at hl 0 rfl) ?_
        refine lv_iconst (v := (nI 1)) hx hb dX10_copy_44 rfl ?_
        refine wVi e0_S (As := [.int (nI 1)]) (rest := []) ⟨hx, hb, hml, hown, hts⟩ (kX10_fails l D cA r _ (upd u 0 (nI 0)) a (nI 1)) (cwV 1 hts gX10_copy_X10_fails rfl rfl rfl (by decide +kernel) ⟨Nat.le_of_ble_eq_true rfl, Nat.le_of_ble_eq_true rfl⟩) (va_recv hK hP (ci := 10) (q0 := 0) rfl rfl) hK hP hD hS hA hE rfl hl.1 rfl (Nat.le_of_ble_eq_true rfl) dX10_copy_45 ⟨Nat.zero_le _, Nat.zero_le _⟩ (fun rv_10 z_12 H locs hw_11 hP hD hS => ?_)
        obtain ⟨rfl, rfl⟩ := hw_11
        have hP : va_P D vwCl (xM cA r ((upd u 0 (nI 1)), a)) H := hP
        have hD : va_D A (xM cA r ((upd u 0 (nI 1)), a)) := hD
        exact wIret hx hb hr hlocks (v := ((-10) - (nI 1))) ((upd u 0 (nI 1)), a) (⟨by unfold aCopy; rw [cif_pos ⟨b_3, b_7⟩, cif_pos (Or.inl c_9)]; decide, by unfold ceCopy fCopy; rw [cif_neg (fun q => q.2.1 (Or.inl c_9)), cif_pos ⟨b_3, b_7⟩, cif_pos (Or.inl c_9)]; exact (MI.keep hI rfl htr rfl rfl rfl rfl rfl rfl rfl rfl rfl rfl rfl rfl rfl rfl rfl)⟩) hK hP hD hS dX10_copy_48
      · refine lv_aload_n hx hb dX10_copy_32 rfl (lv_at hl 0 rfl) ?_
        refine va_get (D := D) (ci := 10) (v := .ref (r 2)) (C := RX10) (T := TX10) (N := 34) hx hb hts hinX10 hown hK hP 0 rfl rfl 2 (by decide) (hts (.fieldLink RX10 9 "OneNailModel" "sorts" "[I") (by decide +kernel)) (fun _ h9 => h9) rfl dX10_copy_33 ?_
        refine lv_iload_n hx hb dX10_copy_36 rfl (lv_at hl 3 rfl) ?_
        refine ra_iald hx hb hK hP 1 0 (n := 4) (f := (a 2)) (j := ot.toNatClampNeg) (v := (so ot.toNatClampNeg)) rfl rfl (by omega) (by decide) ((hSh _ ho4).1) dX10_copy_37 ?_
        refine lv_bipush (v := (-9)) hx hb dX10_copy_38 (by decide) ?_
        refine lv_icmp_ne (tgt := 49) hx hb dX10_copy_40 (by decide) (fun c_13 => ?_) (fun c_13 => ?_)
        · refine lv_aload_n hx hb dX10_copy_49 rfl (lv_at hl 0 rfl) ?_
          refine va_get (D := D) (ci := 10) (v := .ref (r 2)) (C := RX10) (T := TX10) (N := 34) hx hb hts hinX10 hown hK hP 0 rfl rfl 2 (by decide) (hts (.fieldLink RX10 9 "OneNailModel" "sorts" "[I") (by decide +kernel)) (fun _ h9 => h9) rfl dX10_copy_50 ?_
          refine lv_iload_n hx hb dX10_copy_53 rfl (lv_at hl 1 rfl) ?_
          refine ra_iald hx hb hK hP 1 0 (n := 4) (f := (a 2)) (j := sh.toNatClampNeg) (v := (so sh.toNatClampNeg)) rfl rfl (by omega) (by decide) ((hSh _ hk4).1) dX10_copy_54 ?_
          refine lv_aload_n hx hb dX10_copy_55 rfl (lv_at hl 0 rfl) ?_
          refine va_get (D := D) (ci := 10) (v := .ref (r 2)) (C := RX10) (T := TX10) (N := 34) hx hb hts hinX10 hown hK hP 0 rfl rfl 2 (by decide) (hts (.fieldLink RX10 9 "OneNailModel" "sorts" "[I") (by decide +kernel)) (fun _ h9 => h9) rfl dX10_copy_56 ?_
          refine lv_iload_n hx hb dX10_copy_59 rfl (lv_at hl 3 rfl) ?_
          refine ra_iald hx hb hK hP 1 0 (n := 4) (f := (a 2)) (j := ot.toNatClampNeg) (v := (so ot.toNatClampNeg)) rfl rfl (by omega) (by decide) ((hSh _ ho4).1) dX10_copy_60 ?_
          refine lv_icmp_eq (tgt := 70) hx hb dX10_copy_61 (by decide) (fun c_14 => ?_) (fun c_14 => ?_)
          · refine lv_iload_n hx hb dX10_copy_70 rfl (lv_at hl 2 rfl) ?_
            refine lv_if_lt (tgt := 109) hx hb dX10_copy_71 (by decide) (fun c_15 => ?_) (fun c_15 => ?_)
            · have hncp : ¬ CP so ln sh i ot j n := fun ⟨i1, j1, n1, e1, e2, e3, w1, w2⟩ => absurd c_15 (by rw [e1]; exact nI_pos (by omega))
              refine lv_iconst (v := (nI 0)) hx hb dX10_copy_109 rfl ?_
              refine lv_istore (lv' := [(6, .int (nI 0)), (0, .ref (r 0)), (1, .int (nI (sh.toNatClampNeg))), (2, .int i), (3, .int (nI (ot.toNatClampNeg))), (4, .int j), (5, .int n)]) hx hb dX10_copy_110 hl (by decide) rfl (fun ls hl => ?_)
              refine lv_iload hx hb dX10_copy_112 (lv_at hl 0 rfl) ?_
              refine lv_if_eq (tgt := 144) hx hb dX10_copy_114 (by decide) (fun _ => ?_) (fun c_16 => absurd c_16 (by decide))
              refine lv_aload_n hx hb dX10_copy_144 rfl (lv_at hl 1 rfl) ?_
              refine lv_iconst (v := (nI 3)) hx hb dX10_copy_145 rfl ?_
              refine wVi e0_S (As := [.int (nI 3)]) (rest := []) ⟨hx, hb, hml, hown, hts⟩ (kX10_fails l D cA r _ (upd u 0 (nI 0)) a (nI 3)) (cwV 1 hts gX10_copy_X10_fails rfl rfl rfl (by decide +kernel) ⟨Nat.le_of_ble_eq_true rfl, Nat.le_of_ble_eq_true rfl⟩) (va_recv hK hP (ci := 10) (q0 := 0) rfl rfl) hK hP hD hS hA hE rfl hl.1 rfl (Nat.le_of_ble_eq_true rfl) dX10_copy_146 ⟨Nat.zero_le _, Nat.zero_le _⟩ (fun rv_17 z_19 H locs hw_18 hP hD hS => ?_)
              obtain ⟨rfl, rfl⟩ := hw_18
              have hP : va_P D vwCl (xM cA r ((upd u 0 (nI 3)), a)) H := hP
              have hD : va_D A (xM cA r ((upd u 0 (nI 3)), a)) := hD
              exact wIret hx hb hr hlocks (v := ((-10) - (nI 3))) ((upd u 0 (nI 3)), a) (⟨by unfold aCopy; rw [cif_pos ⟨b_3, b_7⟩, cif_neg (fun q => q.elim c_9 c_13), cif_pos c_14, cif_neg hncp]; decide, by unfold ceCopy fCopy; rw [cif_neg (fun q => hncp q.2.2.2), cif_pos ⟨b_3, b_7⟩, cif_neg (fun q => q.elim c_9 c_13), cif_pos c_14, cif_neg hncp]; exact (MI.keep hI rfl htr rfl rfl rfl rfl rfl rfl rfl rfl rfl rfl rfl rfl rfl rfl rfl)⟩) hK hP hD hS dX10_copy_149
            · obtain ⟨i0, hi1, hi2⟩ := nI_of c_15
              have hl : lv_has ls 10 [(0, .ref (r 0)), (1, .int (nI (sh.toNatClampNeg))), (2, .int (nI i0)), (3, .int (nI (ot.toNatClampNeg))), (4, .int j), (5, .int n)] := lv_re hl 2 ⟨rfl, rfl⟩ (hi2)
              refine lv_iload hx hb dX10_copy_74 (lv_at hl 4 rfl) ?_
              refine lv_if_lt (tgt := 109) hx hb dX10_copy_76 (by decide) (fun c_20 => ?_) (fun c_20 => ?_)
              · have hncp : ¬ CP so ln sh i ot j n := fun ⟨i1, j1, n1, e1, e2, e3, w1, w2⟩ => absurd c_20 (by rw [e2]; exact nI_pos (by omega))
                refine lv_iconst (v := (nI 0)) hx hb dX10_copy_109 rfl ?_
                refine lv_istore (lv' := [(6, .int (nI 0)), (0, .ref (r 0)), (1, .int (nI (sh.toNatClampNeg))), (2, .int (nI i0)), (3, .int (nI (ot.toNatClampNeg))), (4, .int j), (5, .int n)]) hx hb dX10_copy_110 hl (by decide) rfl (fun ls hl => ?_)
                refine lv_iload hx hb dX10_copy_112 (lv_at hl 0 rfl) ?_
                refine lv_if_eq (tgt := 144) hx hb dX10_copy_114 (by decide) (fun _ => ?_) (fun c_21 => absurd c_21 (by decide))
                refine lv_aload_n hx hb dX10_copy_144 rfl (lv_at hl 1 rfl) ?_
                refine lv_iconst (v := (nI 3)) hx hb dX10_copy_145 rfl ?_
                refine wVi e0_S (As := [.int (nI 3)]) (rest := []) ⟨hx, hb, hml, hown, hts⟩ (kX10_fails l D cA r _ (upd u 0 (nI 0)) a (nI 3)) (cwV 1 hts gX10_copy_X10_fails rfl rfl rfl (by decide +kernel) ⟨Nat.le_of_ble_eq_true rfl, Nat.le_of_ble_eq_true rfl⟩) (va_recv hK hP (ci := 10) (q0 := 0) rfl rfl) hK hP hD hS hA hE rfl hl.1 rfl (Nat.le_of_ble_eq_true rfl) dX10_copy_146 ⟨Nat.zero_le _, Nat.zero_le _⟩ (fun rv_22 z_24 H locs hw_23 hP hD hS => ?_)
                obtain ⟨rfl, rfl⟩ := hw_23
                have hP : va_P D vwCl (xM cA r ((upd u 0 (nI 3)), a)) H := hP
                have hD : va_D A (xM cA r ((upd u 0 (nI 3)), a)) := hD
                exact wIret hx hb hr hlocks (v := ((-10) - (nI 3))) ((upd u 0 (nI 3)), a) (⟨by unfold aCopy; rw [cif_pos ⟨b_3, b_7⟩, cif_neg (fun q => q.elim c_9 c_13), cif_pos c_14, cif_neg hncp]; decide, by unfold ceCopy fCopy; rw [cif_neg (fun q => hncp q.2.2.2), cif_pos ⟨b_3, b_7⟩, cif_neg (fun q => q.elim c_9 c_13), cif_pos c_14, cif_neg hncp]; exact (MI.keep hI rfl htr rfl rfl rfl rfl rfl rfl rfl rfl rfl rfl rfl rfl rfl rfl rfl)⟩) hK hP hD hS dX10_copy_149
              · obtain ⟨j0, hj1, hj2⟩ := nI_of c_20
                have hl : lv_has ls 10 [(0, .ref (r 0)), (1, .int (nI (sh.toNatClampNeg))), (2, .int (nI i0)), (3, .int (nI (ot.toNatClampNeg))), (4, .int (nI j0)), (5, .int n)] := lv_re hl 4 ⟨rfl, rfl⟩ (hj2)
                refine lv_iload hx hb dX10_copy_79 (lv_at hl 5 rfl) ?_
                refine lv_if_lt (tgt := 109) hx hb dX10_copy_81 (by decide) (fun c_25 => ?_) (fun c_25 => ?_)
                · have hncp : ¬ CP so ln sh i ot j n := fun ⟨i1, j1, n1, e1, e2, e3, w1, w2⟩ => absurd c_25 (by rw [e3]; exact nI_pos (by omega))
                  refine lv_iconst (v := (nI 0)) hx hb dX10_copy_109 rfl ?_
                  refine lv_istore (lv' := [(6, .int (nI 0)), (0, .ref (r 0)), (1, .int (nI (sh.toNatClampNeg))), (2, .int (nI i0)), (3, .int (nI (ot.toNatClampNeg))), (4, .int (nI j0)), (5, .int n)]) hx hb dX10_copy_110 hl (by decide) rfl (fun ls hl => ?_)
                  refine lv_iload hx hb dX10_copy_112 (lv_at hl 0 rfl) ?_
                  refine lv_if_eq (tgt := 144) hx hb dX10_copy_114 (by decide) (fun _ => ?_) (fun c_26 => absurd c_26 (by decide))
                  refine lv_aload_n hx hb dX10_copy_144 rfl (lv_at hl 1 rfl) ?_
                  refine lv_iconst (v := (nI 3)) hx hb dX10_copy_145 rfl ?_
                  refine wVi e0_S (As := [.int (nI 3)]) (rest := []) ⟨hx, hb, hml, hown, hts⟩ (kX10_fails l D cA r _ (upd u 0 (nI 0)) a (nI 3)) (cwV 1 hts gX10_copy_X10_fails rfl rfl rfl (by decide +kernel) ⟨Nat.le_of_ble_eq_true rfl, Nat.le_of_ble_eq_true rfl⟩) (va_recv hK hP (ci := 10) (q0 := 0) rfl rfl) hK hP hD hS hA hE rfl hl.1 rfl (Nat.le_of_ble_eq_true rfl) dX10_copy_146 ⟨Nat.zero_le _, Nat.zero_le _⟩ (fun rv_27 z_29 H locs hw_28 hP hD hS => ?_)
                  obtain ⟨rfl, rfl⟩ := hw_28
                  have hP : va_P D vwCl (xM cA r ((upd u 0 (nI 3)), a)) H := hP
                  have hD : va_D A (xM cA r ((upd u 0 (nI 3)), a)) := hD
                  exact wIret hx hb hr hlocks (v := ((-10) - (nI 3))) ((upd u 0 (nI 3)), a) (⟨by unfold aCopy; rw [cif_pos ⟨b_3, b_7⟩, cif_neg (fun q => q.elim c_9 c_13), cif_pos c_14, cif_neg hncp]; decide, by unfold ceCopy fCopy; rw [cif_neg (fun q => hncp q.2.2.2), cif_pos ⟨b_3, b_7⟩, cif_neg (fun q => q.elim c_9 c_13), cif_pos c_14, cif_neg hncp]; exact (MI.keep hI rfl htr rfl rfl rfl rfl rfl rfl rfl rfl rfl rfl rfl rfl rfl rfl rfl)⟩) hK hP hD hS dX10_copy_149
                · obtain ⟨n0, hn1, hn2⟩ := nI_of c_25
                  have hl : lv_has ls 10 [(0, .ref (r 0)), (1, .int (nI (sh.toNatClampNeg))), (2, .int (nI i0)), (3, .int (nI (ot.toNatClampNeg))), (4, .int (nI j0)), (5, .int (nI n0))] := lv_re hl 5 ⟨rfl, rfl⟩ (hn2)
                  refine lv_iload_n hx hb dX10_copy_84 rfl (lv_at hl 2 rfl) ?_
                  refine lv_aload_n hx hb dX10_copy_85 rfl (lv_at hl 0 rfl) ?_
                  refine va_get (D := D) (ci := 10) (v := .ref (r 3)) (C := RX10) (T := TX10) (N := 34) hx hb hts hinX10 hown hK hP 0 rfl rfl 3 (by decide) (hts (.fieldLink RX10 13 "OneNailModel" "sheetLong" "[I") (by decide +kernel)) (fun _ h9 => h9) rfl dX10_copy_86 ?_
                  refine lv_iload_n hx hb dX10_copy_89 rfl (lv_at hl 1 rfl) ?_
                  refine ra_iald hx hb hK hP 2 0 (n := 4) (f := (a 3)) (j := sh.toNatClampNeg) (v := (nI (ln sh.toNatClampNeg))) rfl rfl (by omega) (by decide) ((hSh _ hk4).2.2.1) dX10_copy_90 ?_
                  refine rn_gt (x := i0) (y := ln sh.toNatClampNeg) (tgt := 109) hx hb (by omega) (by omega) dX10_copy_91 (by decide) (fun c_30 => ?_) (fun c_30 => ?_)
                  · have hncp : ¬ CP so ln sh i ot j n := fun ⟨i1, j1, n1, e1, e2, e3, w1, w2⟩ => by have e7 := (nI_eq hi1 (by omega)).mp (hi2.symm.trans e1); have e8 := (nI_eq hj1 (by omega)).mp (hj2.symm.trans e2); have e9 := (nI_eq hn1 (by omega)).mp (hn2.symm.trans e3); omega
                    refine lv_iconst (v := (nI 0)) hx hb dX10_copy_109 rfl ?_
                    refine lv_istore (lv' := [(6, .int (nI 0)), (0, .ref (r 0)), (1, .int (nI (sh.toNatClampNeg))), (2, .int (nI i0)), (3, .int (nI (ot.toNatClampNeg))), (4, .int (nI j0)), (5, .int (nI n0))]) hx hb dX10_copy_110 hl (by decide) rfl (fun ls hl => ?_)
                    refine lv_iload hx hb dX10_copy_112 (lv_at hl 0 rfl) ?_
                    refine lv_if_eq (tgt := 144) hx hb dX10_copy_114 (by decide) (fun _ => ?_) (fun c_31 => absurd c_31 (by decide))
                    refine lv_aload_n hx hb dX10_copy_144 rfl (lv_at hl 1 rfl) ?_
                    refine lv_iconst (v := (nI 3)) hx hb dX10_copy_145 rfl ?_
                    refine wVi e0_S (As := [.int (nI 3)]) (rest := []) ⟨hx, hb, hml, hown, hts⟩ (kX10_fails l D cA r _ (upd u 0 (nI 0)) a (nI 3)) (cwV 1 hts gX10_copy_X10_fails rfl rfl rfl (by decide +kernel) ⟨Nat.le_of_ble_eq_true rfl, Nat.le_of_ble_eq_true rfl⟩) (va_recv hK hP (ci := 10) (q0 := 0) rfl rfl) hK hP hD hS hA hE rfl hl.1 rfl (Nat.le_of_ble_eq_true rfl) dX10_copy_146 ⟨Nat.zero_le _, Nat.zero_le _⟩ (fun rv_32 z_34 H locs hw_33 hP hD hS => ?_)
                    obtain ⟨rfl, rfl⟩ := hw_33
                    have hP : va_P D vwCl (xM cA r ((upd u 0 (nI 3)), a)) H := hP
                    have hD : va_D A (xM cA r ((upd u 0 (nI 3)), a)) := hD
                    exact wIret hx hb hr hlocks (v := ((-10) - (nI 3))) ((upd u 0 (nI 3)), a) (⟨by unfold aCopy; rw [cif_pos ⟨b_3, b_7⟩, cif_neg (fun q => q.elim c_9 c_13), cif_pos c_14, cif_neg hncp]; decide, by unfold ceCopy fCopy; rw [cif_neg (fun q => hncp q.2.2.2), cif_pos ⟨b_3, b_7⟩, cif_neg (fun q => q.elim c_9 c_13), cif_pos c_14, cif_neg hncp]; exact (MI.keep hI rfl htr rfl rfl rfl rfl rfl rfl rfl rfl rfl rfl rfl rfl rfl rfl rfl)⟩) hK hP hD hS dX10_copy_149
                  · refine lv_iload hx hb dX10_copy_94 (lv_at hl 4 rfl) ?_
                    refine lv_aload_n hx hb dX10_copy_96 rfl (lv_at hl 0 rfl) ?_
                    refine va_get (D := D) (ci := 10) (v := .ref (r 3)) (C := RX10) (T := TX10) (N := 34) hx hb hts hinX10 hown hK hP 0 rfl rfl 3 (by decide) (hts (.fieldLink RX10 13 "OneNailModel" "sheetLong" "[I") (by decide +kernel)) (fun _ h9 => h9) rfl dX10_copy_97 ?_
                    refine lv_iload_n hx hb dX10_copy_100 rfl (lv_at hl 3 rfl) ?_
                    refine ra_iald hx hb hK hP 2 0 (n := 4) (f := (a 3)) (j := ot.toNatClampNeg) (v := (nI (ln ot.toNatClampNeg))) rfl rfl (by omega) (by decide) ((hSh _ ho4).2.2.1) dX10_copy_101 ?_
                    refine rn_gt (x := j0) (y := ln ot.toNatClampNeg) (tgt := 109) hx hb (by omega) (by omega) dX10_copy_102 (by decide) (fun c_35 => ?_) (fun c_35 => ?_)
                    · have hncp : ¬ CP so ln sh i ot j n := fun ⟨i1, j1, n1, e1, e2, e3, w1, w2⟩ => by have e7 := (nI_eq hi1 (by omega)).mp (hi2.symm.trans e1); have e8 := (nI_eq hj1 (by omega)).mp (hj2.symm.trans e2); have e9 := (nI_eq hn1 (by omega)).mp (hn2.symm.trans e3); omega
                      refine lv_iconst (v := (nI 0)) hx hb dX10_copy_109 rfl ?_
                      refine lv_istore (lv' := [(6, .int (nI 0)), (0, .ref (r 0)), (1, .int (nI (sh.toNatClampNeg))), (2, .int (nI i0)), (3, .int (nI (ot.toNatClampNeg))), (4, .int (nI j0)), (5, .int (nI n0))]) hx hb dX10_copy_110 hl (by decide) rfl (fun ls hl => ?_)
                      refine lv_iload hx hb dX10_copy_112 (lv_at hl 0 rfl) ?_
                      refine lv_if_eq (tgt := 144) hx hb dX10_copy_114 (by decide) (fun _ => ?_) (fun c_36 => absurd c_36 (by decide))
                      refine lv_aload_n hx hb dX10_copy_144 rfl (lv_at hl 1 rfl) ?_
                      refine lv_iconst (v := (nI 3)) hx hb dX10_copy_145 rfl ?_
                      refine wVi e0_S (As := [.int (nI 3)]) (rest := []) ⟨hx, hb, hml, hown, hts⟩ (kX10_fails l D cA r _ (upd u 0 (nI 0)) a (nI 3)) (cwV 1 hts gX10_copy_X10_fails rfl rfl rfl (by decide +kernel) ⟨Nat.le_of_ble_eq_true rfl, Nat.le_of_ble_eq_true rfl⟩) (va_recv hK hP (ci := 10) (q0 := 0) rfl rfl) hK hP hD hS hA hE rfl hl.1 rfl (Nat.le_of_ble_eq_true rfl) dX10_copy_146 ⟨Nat.zero_le _, Nat.zero_le _⟩ (fun rv_37 z_39 H locs hw_38 hP hD hS => ?_)
                      obtain ⟨rfl, rfl⟩ := hw_38
                      have hP : va_P D vwCl (xM cA r ((upd u 0 (nI 3)), a)) H := hP
                      have hD : va_D A (xM cA r ((upd u 0 (nI 3)), a)) := hD
                      exact wIret hx hb hr hlocks (v := ((-10) - (nI 3))) ((upd u 0 (nI 3)), a) (⟨by unfold aCopy; rw [cif_pos ⟨b_3, b_7⟩, cif_neg (fun q => q.elim c_9 c_13), cif_pos c_14, cif_neg hncp]; decide, by unfold ceCopy fCopy; rw [cif_neg (fun q => hncp q.2.2.2), cif_pos ⟨b_3, b_7⟩, cif_neg (fun q => q.elim c_9 c_13), cif_pos c_14, cif_neg hncp]; exact (MI.keep hI rfl htr rfl rfl rfl rfl rfl rfl rfl rfl rfl rfl rfl rfl rfl rfl rfl)⟩) hK hP hD hS dX10_copy_149
                    · refine lv_iconst (v := (nI 1)) hx hb dX10_copy_105 rfl ?_
                      refine lv_goto (tgt := 110) hx hb dX10_copy_106 (by decide) ?_
                      refine lv_istore (lv' := [(6, .int (nI 1)), (0, .ref (r 0)), (1, .int (nI (sh.toNatClampNeg))), (2, .int (nI i0)), (3, .int (nI (ot.toNatClampNeg))), (4, .int (nI j0)), (5, .int (nI n0))]) hx hb dX10_copy_110 hl (by decide) rfl (fun ls hl => ?_)
                      refine lv_iload hx hb dX10_copy_112 (lv_at hl 0 rfl) ?_
                      refine lv_if_eq (tgt := 144) hx hb dX10_copy_114 (by decide) (fun c_40 => absurd c_40 (by decide)) (fun _ => ?_)
                      refine lv_iload hx hb dX10_copy_117 (lv_at hl 6 rfl) ?_
                      refine lv_aload_n hx hb dX10_copy_119 rfl (lv_at hl 1 rfl) ?_
                      refine va_get (D := D) (ci := 10) (v := .ref (r 3)) (C := RX10) (T := TX10) (N := 34) hx hb hts hinX10 hown hK hP 0 rfl rfl 3 (by decide) (hts (.fieldLink RX10 13 "OneNailModel" "sheetLong" "[I") (by decide +kernel)) (fun _ h9 => h9) rfl dX10_copy_120 ?_
                      refine lv_iload_n hx hb dX10_copy_123 rfl (lv_at hl 2 rfl) ?_
                      refine ra_iald hx hb hK hP 2 0 (n := 4) (f := (a 3)) (j := sh.toNatClampNeg) (v := (nI (ln sh.toNatClampNeg))) rfl rfl (by omega) (by decide) ((hSh _ hk4).2.2.1) dX10_copy_124 ?_
                      refine lv_iload_n hx hb dX10_copy_125 rfl (lv_at hl 3 rfl) ?_
                      refine rn_isub (x := ln sh.toNatClampNeg) (y := i0) hx hb (by omega) dX10_copy_126 ?_
                      refine rn_gt (x := n0) (y := (ln sh.toNatClampNeg) - i0) (tgt := 144) hx hb (by omega) (by omega) dX10_copy_127 (by decide) (fun c_41 => ?_) (fun c_41 => ?_)
                      · have hncp : ¬ CP so ln sh i ot j n := fun ⟨i1, j1, n1, e1, e2, e3, w1, w2⟩ => by have e7 := (nI_eq hi1 (by omega)).mp (hi2.symm.trans e1); have e8 := (nI_eq hj1 (by omega)).mp (hj2.symm.trans e2); have e9 := (nI_eq hn1 (by omega)).mp (hn2.symm.trans e3); omega
                        refine lv_aload_n hx hb dX10_copy_144 rfl (lv_at hl 1 rfl) ?_
                        refine lv_iconst (v := (nI 3)) hx hb dX10_copy_145 rfl ?_
                        refine wVi e0_S (As := [.int (nI 3)]) (rest := []) ⟨hx, hb, hml, hown, hts⟩ (kX10_fails l D cA r _ (upd u 0 (nI 0)) a (nI 3)) (cwV 1 hts gX10_copy_X10_fails rfl rfl rfl (by decide +kernel) ⟨Nat.le_of_ble_eq_true rfl, Nat.le_of_ble_eq_true rfl⟩) (va_recv hK hP (ci := 10) (q0 := 0) rfl rfl) hK hP hD hS hA hE rfl hl.1 rfl (Nat.le_of_ble_eq_true rfl) dX10_copy_146 ⟨Nat.zero_le _, Nat.zero_le _⟩ (fun rv_42 z_44 H locs hw_43 hP hD hS => ?_)
                        obtain ⟨rfl, rfl⟩ := hw_43
                        have hP : va_P D vwCl (xM cA r ((upd u 0 (nI 3)), a)) H := hP
                        have hD : va_D A (xM cA r ((upd u 0 (nI 3)), a)) := hD
                        exact wIret hx hb hr hlocks (v := ((-10) - (nI 3))) ((upd u 0 (nI 3)), a) (⟨by unfold aCopy; rw [cif_pos ⟨b_3, b_7⟩, cif_neg (fun q => q.elim c_9 c_13), cif_pos c_14, cif_neg hncp]; decide, by unfold ceCopy fCopy; rw [cif_neg (fun q => hncp q.2.2.2), cif_pos ⟨b_3, b_7⟩, cif_neg (fun q => q.elim c_9 c_13), cif_pos c_14, cif_neg hncp]; exact (MI.keep hI rfl htr rfl rfl rfl rfl rfl rfl rfl rfl rfl rfl rfl rfl rfl rfl rfl)⟩) hK hP hD hS dX10_copy_149
                      · refine lv_iload hx hb dX10_copy_130 (lv_at hl 6 rfl) ?_
                        refine lv_aload_n hx hb dX10_copy_132 rfl (lv_at hl 1 rfl) ?_
                        refine va_get (D := D) (ci := 10) (v := .ref (r 3)) (C := RX10) (T := TX10) (N := 34) hx hb hts hinX10 hown hK hP 0 rfl rfl 3 (by decide) (hts (.fieldLink RX10 13 "OneNailModel" "sheetLong" "[I") (by decide +kernel)) (fun _ h9 => h9) rfl dX10_copy_133 ?_
                        refine lv_iload_n hx hb dX10_copy_136 rfl (lv_at hl 4 rfl) ?_
                        refine ra_iald hx hb hK hP 2 0 (n := 4) (f := (a 3)) (j := ot.toNatClampNeg) (v := (nI (ln ot.toNatClampNeg))) rfl rfl (by omega) (by decide) ((hSh _ ho4).2.2.1) dX10_copy_137 ?_
                        refine lv_iload hx hb dX10_copy_138 (lv_at hl 5 rfl) ?_
                        refine rn_isub (x := ln ot.toNatClampNeg) (y := j0) hx hb (by omega) dX10_copy_140 ?_
                        refine rn_le (x := n0) (y := (ln ot.toNatClampNeg) - j0) (tgt := 150) hx hb (by omega) (by omega) dX10_copy_141 (by decide) (fun c_45 => ?_) (fun c_45 => ?_)
                        · have hcp : CP so ln sh i ot j n := ⟨i0, j0, n0, hi2, hj2, hn2, by omega, by omega⟩
                          have hic : i.toNatClampNeg = i0 := by rw [hi2]; exact nI_clamp hi1
                          have hjc : j.toNatClampNeg = j0 := by rw [hj2]; exact nI_clamp hj1
                          have hnc : n.toNatClampNeg = n0 := by rw [hn2]; exact nI_clamp hn1
                          refine lv_iload_n hx hb dX10_copy_150 rfl (lv_at hl 3 rfl) ?_
                          refine lv_iload hx hb dX10_copy_151 (lv_at hl 5 rfl) ?_
                          refine rn_ge (x := i0) (y := j0) (tgt := 160) hx hb (by omega) (by omega) dX10_copy_153 (by decide) (fun c_46 => ?_) (fun c_46 => ?_)
                          · refine lv_iconst (v := (nI 0)) hx hb dX10_copy_160 rfl ?_
                            refine lv_istore (lv' := [(7, .int (nI 0)), (6, .int (nI 1)), (0, .ref (r 0)), (1, .int (nI (sh.toNatClampNeg))), (2, .int (nI i0)), (3, .int (nI (ot.toNatClampNeg))), (4, .int (nI j0)), (5, .int (nI n0))]) hx hb dX10_copy_161 hl (by decide) rfl (fun ls hl => ?_)
                            refine lv_iconst (v := (nI 0)) hx hb dX10_copy_163 rfl ?_
                            refine lv_istore (lv' := [(8, .int (nI 0)), (7, .int (nI 0)), (6, .int (nI 1)), (0, .ref (r 0)), (1, .int (nI (sh.toNatClampNeg))), (2, .int (nI i0)), (3, .int (nI (ot.toNatClampNeg))), (4, .int (nI j0)), (5, .int (nI n0))]) hx hb dX10_copy_164 hl (by decide) rfl (fun ls hl => ?_)
                            refine wLoop (τ := Nat × (Nat → Nat → Int32)) (fun z H locs ls => (fun (q : Nat) (a1166 : (Nat → Nat → Int32)) => (q ≤ n0) ∧ (∀ c9, 0 ≤ c9 → c9 < q → a1166 4 ((60 * ot.toNatClampNeg + j0) + c9) = a 4 ((60 * sh.toNatClampNeg + i0) + c9)) ∧ (∀ p9, ¬ ((60 * ot.toNatClampNeg + j0) + (0) ≤ p9 ∧ p9 < (60 * ot.toNatClampNeg + j0) + (q)) → a1166 4 p9 = a 4 p9) ∧ (∀ i : Nat, i ≠ 4 → a1166 i = a i) ∧ (va_P D vwCl (xM cA r ((upd u 0 (nI 0)), a1166)) H) ∧ (va_D A (xM cA r ((upd u 0 (nI 0)), a1166))) ∧ (va_S A s.heap H locs) ∧ (lv_has ls 10 [(8, .int (nI q)), (7, .int (nI 0)), (0, .ref (r 0)), (1, .int (nI (sh.toNatClampNeg))), (2, .int (nI i0)), (3, .int (nI (ot.toNatClampNeg))), (4, .int (nI j0)), (5, .int (nI n0))])) z.1 z.2) (fun z => (fun (q : Nat) (a1166 : (Nat → Nat → Int32)) => n0 - q) z.1 z.2) (0, a) ⟨(show 0 ≤ n0 from Nat.zero_le _), (show ∀ c9, 0 ≤ c9 → c9 < 0 → a 4 ((60 * ot.toNatClampNeg + j0) + c9) = a 4 ((60 * sh.toNatClampNeg + i0) + c9) from (fun c9 h1 h2 => absurd h1 (by omega))), (show ∀ p9, ¬ ((60 * ot.toNatClampNeg + j0) + (0) ≤ p9 ∧ p9 < (60 * ot.toNatClampNeg + j0) + (0)) → a 4 p9 = a 4 p9 from (fun p9 hp => rfl)), (fun i h4 => rfl), hP, hD, hS, lv_sub hl [0, 1, 3, 4, 5, 6, 7, 8] rfl⟩ ?_
                            rintro ⟨q, a1166⟩ H locs ls ⟨hq, hcp9, hoth, hfa166, hP, hD, hS, hl⟩ ih166
                            have hq : q ≤ n0 := hq
                            have hcp9 : ∀ c9, 0 ≤ c9 → c9 < q → a1166 4 ((60 * ot.toNatClampNeg + j0) + c9) = a 4 ((60 * sh.toNatClampNeg + i0) + c9) := hcp9
                            have hoth : ∀ p9, ¬ ((60 * ot.toNatClampNeg + j0) + (0) ≤ p9 ∧ p9 < (60 * ot.toNatClampNeg + j0) + (q)) → a1166 4 p9 = a 4 p9 := hoth
                            have hfa166 : ∀ i : Nat, i ≠ 4 → a1166 i = a i := hfa166
                            have hP : va_P D vwCl (xM cA r ((upd u 0 (nI 0)), a1166)) H := hP
                            have hD : va_D A (xM cA r ((upd u 0 (nI 0)), a1166)) := hD
                            have hl : lv_has ls 10 [(8, .int (nI q)), (7, .int (nI 0)), (0, .ref (r 0)), (1, .int (nI (sh.toNatClampNeg))), (2, .int (nI i0)), (3, .int (nI (ot.toNatClampNeg))), (4, .int (nI j0)), (5, .int (nI n0))] := hl
                            refine lv_iload hx hb dX10_copy_166 (lv_at hl 0 rfl) ?_
                            refine lv_iload hx hb dX10_copy_168 (lv_at hl 7 rfl) ?_
                            refine rn_ge (x := q) (y := n0) (tgt := 227) hx hb (by omega) (by omega) dX10_copy_170 (by decide) (fun c_47 => ?_) (fun c_47 => ?_)
                            · refine lv_iload hx hb dX10_copy_227 (lv_at hl 7 rfl) ?_
                              exact wIret hx hb hr hlocks (v := (nI n0)) ((upd u 0 (nI 0)), a1166) (⟨by unfold aCopy; rw [cif_pos ⟨b_3, b_7⟩, cif_neg (fun q => q.elim c_9 c_13), cif_pos c_14, cif_pos hcp]; exact hn2.symm, by unfold ceCopy fCopy; rw [cif_pos ⟨⟨b_3, b_7⟩, (fun q => q.elim c_9 c_13), c_14, hcp⟩, cif_pos ⟨b_3, b_7⟩, cif_neg (fun q => q.elim c_9 c_13), cif_pos c_14, cif_pos hcp, hic, hjc, hnc]; exact ⟨MT.keep hM rfl rfl rfl (hfa166 8 (by decide)) (hfa166 9 (by decide)) (hfa166 10 (by decide)) (hfa166 11 (by decide)) (hfa166 12 (by decide)), hB, RdI.keep hRd rfl (hfa166 31 (by decide)) (hfa166 32 (by decide)) (hfa166 33 (by decide)), sh_copy hSh hk4 ho4 (by omega) (by omega) (hfa166 2 (by decide)) (hfa166 3 (by decide)) (fun c hc => hcp9 c (by omega) (by omega)) (fun p9 hp => hoth p9 (by omega)), rfl, htr⟩⟩) hK hP hD hS dX10_copy_229
                            · refine lv_iload hx hb dX10_copy_173 (lv_at hl 1 rfl) ?_
                              refine lv_if_eq (tgt := 188) hx hb dX10_copy_175 (by decide) (fun _ => ?_) (fun c_48 => absurd c_48 (by decide))
                              refine lv_iload hx hb dX10_copy_188 (lv_at hl 0 rfl) ?_
                              refine lv_istore (lv' := [(9, .int (nI q)), (8, .int (nI q)), (7, .int (nI 0)), (0, .ref (r 0)), (1, .int (nI (sh.toNatClampNeg))), (2, .int (nI i0)), (3, .int (nI (ot.toNatClampNeg))), (4, .int (nI j0)), (5, .int (nI n0))]) hx hb dX10_copy_190 hl (by decide) rfl (fun ls hl => ?_)
                              refine lv_aload_n hx hb dX10_copy_192 rfl (lv_at hl 3 rfl) ?_
                              refine va_get (D := D) (ci := 10) (v := .ref (r 4)) (C := RX10) (T := TX10) (N := 34) hx hb hts hinX10 hown hK hP 0 rfl rfl 4 (by decide) (hts (.fieldLink RX10 16 "OneNailModel" "cells" "[I") (by decide +kernel)) (fun _ h9 => h9) rfl dX10_copy_193 ?_
                              refine lv_bipush (v := (nI 60)) hx hb dX10_copy_196 rfl ?_
                              refine lv_iload_n hx hb dX10_copy_198 rfl (lv_at hl 6 rfl) ?_
                              refine rn_imul (x := 60) (y := ot.toNatClampNeg) hx hb dX10_copy_199 ?_
                              refine lv_iload hx hb dX10_copy_200 (lv_at hl 7 rfl) ?_
                              refine rn_iadd (x := 60 * (ot.toNatClampNeg)) (y := j0) hx hb dX10_copy_202 ?_
                              refine lv_iload hx hb dX10_copy_203 (lv_at hl 0 rfl) ?_
                              refine rn_iadd (x := (60 * (ot.toNatClampNeg)) + j0) (y := q) hx hb dX10_copy_205 ?_
                              refine lv_aload_n hx hb dX10_copy_206 rfl (lv_at hl 3 rfl) ?_
                              refine va_get (D := D) (ci := 10) (v := .ref (r 4)) (C := RX10) (T := TX10) (N := 34) hx hb hts hinX10 hown hK hP 0 rfl rfl 4 (by decide) (hts (.fieldLink RX10 16 "OneNailModel" "cells" "[I") (by decide +kernel)) (fun _ h9 => h9) rfl dX10_copy_207 ?_
                              refine lv_bipush (v := (nI 60)) hx hb dX10_copy_210 rfl ?_
                              refine lv_iload_n hx hb dX10_copy_212 rfl (lv_at hl 4 rfl) ?_
                              refine rn_imul (x := 60) (y := sh.toNatClampNeg) hx hb dX10_copy_213 ?_
                              refine lv_iload_n hx hb dX10_copy_214 rfl (lv_at hl 5 rfl) ?_
                              refine rn_iadd (x := 60 * (sh.toNatClampNeg)) (y := i0) hx hb dX10_copy_215 ?_
                              refine lv_iload hx hb dX10_copy_216 (lv_at hl 0 rfl) ?_
                              refine rn_iadd (x := (60 * (sh.toNatClampNeg)) + i0) (y := q) hx hb dX10_copy_218 ?_
                              refine ra_iald hx hb hK hP 3 0 (n := 240) (f := (a1166 4)) (j := ((60 * (sh.toNatClampNeg)) + i0) + q) (v := ((a1166 4) (((60 * (sh.toNatClampNeg)) + i0) + q))) rfl rfl (by omega) (by decide) (rfl) dX10_copy_219 ?_
                              refine ra_iast hx hb hK hP hD hS 3 0 (n := 240) (f := (a1166 4)) (j := ((60 * (ot.toNatClampNeg)) + j0) + q) (x := ((a1166 4) (((60 * (sh.toNatClampNeg)) + i0) + q))) rfl rfl (by omega) (by decide) dX10_copy_220 (fun H locs hP hD hS => ?_)
                              have hP : va_P D vwCl (xM cA r ((upd u 0 (nI 0)), (va_up a1166 4 (upd (a1166 4) (((60 * (ot.toNatClampNeg)) + j0) + q) ((a1166 4) (((60 * (sh.toNatClampNeg)) + i0) + q)))))) H := hP
                              have hD : va_D A (xM cA r ((upd u 0 (nI 0)), (va_up a1166 4 (upd (a1166 4) (((60 * (ot.toNatClampNeg)) + j0) + q) ((a1166 4) (((60 * (sh.toNatClampNeg)) + i0) + q)))))) := hD
                              refine rn_iinc (x := q) (d := 1) (lv' := [(8, .int (nI (q + 1))), (9, .int (nI q)), (7, .int (nI 0)), (0, .ref (r 0)), (1, .int (nI (sh.toNatClampNeg))), (2, .int (nI i0)), (3, .int (nI (ot.toNatClampNeg))), (4, .int (nI j0)), (5, .int (nI n0))]) hx hb rfl dX10_copy_221 hl (k := 1) rfl (by decide) rfl (fun ls hl => ?_)
                              refine lv_goto (tgt := 166) hx hb dX10_copy_224 (by decide) ?_
                              exact ih166 ((q + 1), (va_up a1166 4 (upd (a1166 4) (((60 * (ot.toNatClampNeg)) + j0) + q) ((a1166 4) (((60 * (sh.toNatClampNeg)) + i0) + q))))) _ _ _ (show n0 - (q + 1) < n0 - q from by omega) ⟨(show (q + 1) ≤ n0 from by omega), (show ∀ c9, 0 ≤ c9 → c9 < (q + 1) → (va_up a1166 4 (upd (a1166 4) (((60 * (ot.toNatClampNeg)) + j0) + q) ((a1166 4) (((60 * (sh.toNatClampNeg)) + i0) + q)))) 4 ((60 * ot.toNatClampNeg + j0) + c9) = a 4 ((60 * sh.toNatClampNeg + i0) + c9) from (fun c9 h1 h2 => by show (upd (a1166 4) (((60 * (ot.toNatClampNeg)) + j0) + q) ((a1166 4) (((60 * (sh.toNatClampNeg)) + i0) + q))) ((60 * ot.toNatClampNeg + j0) + c9) = a 4 ((60 * sh.toNatClampNeg + i0) + c9); by_cases e7 : c9 = q; rw [e7, up_eq]; exact hoth _ (by omega); rw [up_ne (by omega)]; exact hcp9 c9 (by omega) (by omega))), (show ∀ p9, ¬ ((60 * ot.toNatClampNeg + j0) + (0) ≤ p9 ∧ p9 < (60 * ot.toNatClampNeg + j0) + ((q + 1))) → (va_up a1166 4 (upd (a1166 4) (((60 * (ot.toNatClampNeg)) + j0) + q) ((a1166 4) (((60 * (sh.toNatClampNeg)) + i0) + q)))) 4 p9 = a 4 p9 from (fun p9 hp => by show (upd (a1166 4) (((60 * (ot.toNatClampNeg)) + j0) + q) ((a1166 4) (((60 * (sh.toNatClampNeg)) + i0) + q))) p9 = a 4 p9; rw [up_ne (by omega)]; exact hoth p9 (by omega))), (fun i h4 => Eq.trans (vup_ne h4) (hfa166 i h4)), hP, hD, hS, lv_sub hl [0, 2, 3, 4, 5, 6, 7, 8] rfl⟩
                          · refine lv_iconst (v := (nI 1)) hx hb dX10_copy_156 rfl ?_
                            refine lv_goto (tgt := 161) hx hb dX10_copy_157 (by decide) ?_
                            refine lv_istore (lv' := [(7, .int (nI 1)), (6, .int (nI 1)), (0, .ref (r 0)), (1, .int (nI (sh.toNatClampNeg))), (2, .int (nI i0)), (3, .int (nI (ot.toNatClampNeg))), (4, .int (nI j0)), (5, .int (nI n0))]) hx hb dX10_copy_161 hl (by decide) rfl (fun ls hl => ?_)
                            refine lv_iconst (v := (nI 0)) hx hb dX10_copy_163 rfl ?_
                            refine lv_istore (lv' := [(8, .int (nI 0)), (7, .int (nI 1)), (6, .int (nI 1)), (0, .ref (r 0)), (1, .int (nI (sh.toNatClampNeg))), (2, .int (nI i0)), (3, .int (nI (ot.toNatClampNeg))), (4, .int (nI j0)), (5, .int (nI n0))]) hx hb dX10_copy_164 hl (by decide) rfl (fun ls hl => ?_)
                            refine wLoop (τ := Nat × (Nat → Nat → Int32)) (fun z H locs ls => (fun (q : Nat) (a1166 : (Nat → Nat → Int32)) => (q ≤ n0) ∧ (∀ c9, n0 - q ≤ c9 → c9 < n0 → a1166 4 ((60 * ot.toNatClampNeg + j0) + c9) = a 4 ((60 * sh.toNatClampNeg + i0) + c9)) ∧ (∀ p9, ¬ ((60 * ot.toNatClampNeg + j0) + (n0 - q) ≤ p9 ∧ p9 < (60 * ot.toNatClampNeg + j0) + (n0)) → a1166 4 p9 = a 4 p9) ∧ (∀ i : Nat, i ≠ 4 → a1166 i = a i) ∧ (va_P D vwCl (xM cA r ((upd u 0 (nI 0)), a1166)) H) ∧ (va_D A (xM cA r ((upd u 0 (nI 0)), a1166))) ∧ (va_S A s.heap H locs) ∧ (lv_has ls 10 [(8, .int (nI q)), (7, .int (nI 1)), (0, .ref (r 0)), (1, .int (nI (sh.toNatClampNeg))), (2, .int (nI i0)), (3, .int (nI (ot.toNatClampNeg))), (4, .int (nI j0)), (5, .int (nI n0))])) z.1 z.2) (fun z => (fun (q : Nat) (a1166 : (Nat → Nat → Int32)) => n0 - q) z.1 z.2) (0, a) ⟨(show 0 ≤ n0 from Nat.zero_le _), (show ∀ c9, n0 - 0 ≤ c9 → c9 < n0 → a 4 ((60 * ot.toNatClampNeg + j0) + c9) = a 4 ((60 * sh.toNatClampNeg + i0) + c9) from (fun c9 h1 h2 => absurd h1 (by omega))), (show ∀ p9, ¬ ((60 * ot.toNatClampNeg + j0) + (n0 - 0) ≤ p9 ∧ p9 < (60 * ot.toNatClampNeg + j0) + (n0)) → a 4 p9 = a 4 p9 from (fun p9 hp => rfl)), (fun i h4 => rfl), hP, hD, hS, lv_sub hl [0, 1, 3, 4, 5, 6, 7, 8] rfl⟩ ?_
                            rintro ⟨q, a1166⟩ H locs ls ⟨hq, hcp9, hoth, hfa166, hP, hD, hS, hl⟩ ih166
                            have hq : q ≤ n0 := hq
                            have hcp9 : ∀ c9, n0 - q ≤ c9 → c9 < n0 → a1166 4 ((60 * ot.toNatClampNeg + j0) + c9) = a 4 ((60 * sh.toNatClampNeg + i0) + c9) := hcp9
                            have hoth : ∀ p9, ¬ ((60 * ot.toNatClampNeg + j0) + (n0 - q) ≤ p9 ∧ p9 < (60 * ot.toNatClampNeg + j0) + (n0)) → a1166 4 p9 = a 4 p9 := hoth
                            have hfa166 : ∀ i : Nat, i ≠ 4 → a1166 i = a i := hfa166
                            have hP : va_P D vwCl (xM cA r ((upd u 0 (nI 0)), a1166)) H := hP
                            have hD : va_D A (xM cA r ((upd u 0 (nI 0)), a1166)) := hD
                            have hl : lv_has ls 10 [(8, .int (nI q)), (7, .int (nI 1)), (0, .ref (r 0)), (1, .int (nI (sh.toNatClampNeg))), (2, .int (nI i0)), (3, .int (nI (ot.toNatClampNeg))), (4, .int (nI j0)), (5, .int (nI n0))] := hl
                            refine lv_iload hx hb dX10_copy_166 (lv_at hl 0 rfl) ?_
                            refine lv_iload hx hb dX10_copy_168 (lv_at hl 7 rfl) ?_
                            refine rn_ge (x := q) (y := n0) (tgt := 227) hx hb (by omega) (by omega) dX10_copy_170 (by decide) (fun c_49 => ?_) (fun c_49 => ?_)
                            · refine lv_iload hx hb dX10_copy_227 (lv_at hl 7 rfl) ?_
                              exact wIret hx hb hr hlocks (v := (nI n0)) ((upd u 0 (nI 0)), a1166) (⟨by unfold aCopy; rw [cif_pos ⟨b_3, b_7⟩, cif_neg (fun q => q.elim c_9 c_13), cif_pos c_14, cif_pos hcp]; exact hn2.symm, by unfold ceCopy fCopy; rw [cif_pos ⟨⟨b_3, b_7⟩, (fun q => q.elim c_9 c_13), c_14, hcp⟩, cif_pos ⟨b_3, b_7⟩, cif_neg (fun q => q.elim c_9 c_13), cif_pos c_14, cif_pos hcp, hic, hjc, hnc]; exact ⟨MT.keep hM rfl rfl rfl (hfa166 8 (by decide)) (hfa166 9 (by decide)) (hfa166 10 (by decide)) (hfa166 11 (by decide)) (hfa166 12 (by decide)), hB, RdI.keep hRd rfl (hfa166 31 (by decide)) (hfa166 32 (by decide)) (hfa166 33 (by decide)), sh_copy hSh hk4 ho4 (by omega) (by omega) (hfa166 2 (by decide)) (hfa166 3 (by decide)) (fun c hc => hcp9 c (by omega) (by omega)) (fun p9 hp => hoth p9 (by omega)), rfl, htr⟩⟩) hK hP hD hS dX10_copy_229
                            · refine lv_iload hx hb dX10_copy_173 (lv_at hl 1 rfl) ?_
                              refine lv_if_eq (tgt := 188) hx hb dX10_copy_175 (by decide) (fun c_50 => absurd c_50 (by decide)) (fun _ => ?_)
                              refine lv_iload hx hb dX10_copy_178 (lv_at hl 7 rfl) ?_
                              refine lv_iconst (v := (nI 1)) hx hb dX10_copy_180 rfl ?_
                              refine rn_isub (x := n0) (y := 1) hx hb (by omega) dX10_copy_181 ?_
                              refine lv_iload hx hb dX10_copy_182 (lv_at hl 0 rfl) ?_
                              refine rn_isub (x := n0 - 1) (y := q) hx hb (by omega) dX10_copy_184 ?_
                              refine lv_goto (tgt := 190) hx hb dX10_copy_185 (by decide) ?_
                              refine lv_istore (lv' := [(9, .int (nI ((n0 - 1) - q))), (8, .int (nI q)), (7, .int (nI 1)), (0, .ref (r 0)), (1, .int (nI (sh.toNatClampNeg))), (2, .int (nI i0)), (3, .int (nI (ot.toNatClampNeg))), (4, .int (nI j0)), (5, .int (nI n0))]) hx hb dX10_copy_190 hl (by decide) rfl (fun ls hl => ?_)
                              refine lv_aload_n hx hb dX10_copy_192 rfl (lv_at hl 3 rfl) ?_
                              refine va_get (D := D) (ci := 10) (v := .ref (r 4)) (C := RX10) (T := TX10) (N := 34) hx hb hts hinX10 hown hK hP 0 rfl rfl 4 (by decide) (hts (.fieldLink RX10 16 "OneNailModel" "cells" "[I") (by decide +kernel)) (fun _ h9 => h9) rfl dX10_copy_193 ?_
                              refine lv_bipush (v := (nI 60)) hx hb dX10_copy_196 rfl ?_
                              refine lv_iload_n hx hb dX10_copy_198 rfl (lv_at hl 6 rfl) ?_
                              refine rn_imul (x := 60) (y := ot.toNatClampNeg) hx hb dX10_copy_199 ?_
                              refine lv_iload hx hb dX10_copy_200 (lv_at hl 7 rfl) ?_
                              refine rn_iadd (x := 60 * (ot.toNatClampNeg)) (y := j0) hx hb dX10_copy_202 ?_
                              refine lv_iload hx hb dX10_copy_203 (lv_at hl 0 rfl) ?_
                              refine rn_iadd (x := (60 * (ot.toNatClampNeg)) + j0) (y := (n0 - 1) - q) hx hb dX10_copy_205 ?_
                              refine lv_aload_n hx hb dX10_copy_206 rfl (lv_at hl 3 rfl) ?_
                              refine va_get (D := D) (ci := 10) (v := .ref (r 4)) (C := RX10) (T := TX10) (N := 34) hx hb hts hinX10 hown hK hP 0 rfl rfl 4 (by decide) (hts (.fieldLink RX10 16 "OneNailModel" "cells" "[I") (by decide +kernel)) (fun _ h9 => h9) rfl dX10_copy_207 ?_
                              refine lv_bipush (v := (nI 60)) hx hb dX10_copy_210 rfl ?_
                              refine lv_iload_n hx hb dX10_copy_212 rfl (lv_at hl 4 rfl) ?_
                              refine rn_imul (x := 60) (y := sh.toNatClampNeg) hx hb dX10_copy_213 ?_
                              refine lv_iload_n hx hb dX10_copy_214 rfl (lv_at hl 5 rfl) ?_
                              refine rn_iadd (x := 60 * (sh.toNatClampNeg)) (y := i0) hx hb dX10_copy_215 ?_
                              refine lv_iload hx hb dX10_copy_216 (lv_at hl 0 rfl) ?_
                              refine rn_iadd (x := (60 * (sh.toNatClampNeg)) + i0) (y := (n0 - 1) - q) hx hb dX10_copy_218 ?_
                              refine ra_iald hx hb hK hP 3 0 (n := 240) (f := (a1166 4)) (j := ((60 * (sh.toNatClampNeg)) + i0) + ((n0 - 1) - q)) (v := ((a1166 4) (((60 * (sh.toNatClampNeg)) + i0) + ((n0 - 1) - q)))) rfl rfl (by omega) (by decide) (rfl) dX10_copy_219 ?_
                              refine ra_iast hx hb hK hP hD hS 3 0 (n := 240) (f := (a1166 4)) (j := ((60 * (ot.toNatClampNeg)) + j0) + ((n0 - 1) - q)) (x := ((a1166 4) (((60 * (sh.toNatClampNeg)) + i0) + ((n0 - 1) - q)))) rfl rfl (by omega) (by decide) dX10_copy_220 (fun H locs hP hD hS => ?_)
                              have hP : va_P D vwCl (xM cA r ((upd u 0 (nI 0)), (va_up a1166 4 (upd (a1166 4) (((60 * (ot.toNatClampNeg)) + j0) + ((n0 - 1) - q)) ((a1166 4) (((60 * (sh.toNatClampNeg)) + i0) + ((n0 - 1) - q))))))) H := hP
                              have hD : va_D A (xM cA r ((upd u 0 (nI 0)), (va_up a1166 4 (upd (a1166 4) (((60 * (ot.toNatClampNeg)) + j0) + ((n0 - 1) - q)) ((a1166 4) (((60 * (sh.toNatClampNeg)) + i0) + ((n0 - 1) - q))))))) := hD
                              refine rn_iinc (x := q) (d := 1) (lv' := [(8, .int (nI (q + 1))), (9, .int (nI ((n0 - 1) - q))), (7, .int (nI 1)), (0, .ref (r 0)), (1, .int (nI (sh.toNatClampNeg))), (2, .int (nI i0)), (3, .int (nI (ot.toNatClampNeg))), (4, .int (nI j0)), (5, .int (nI n0))]) hx hb rfl dX10_copy_221 hl (k := 1) rfl (by decide) rfl (fun ls hl => ?_)
                              refine lv_goto (tgt := 166) hx hb dX10_copy_224 (by decide) ?_
                              exact ih166 ((q + 1), (va_up a1166 4 (upd (a1166 4) (((60 * (ot.toNatClampNeg)) + j0) + ((n0 - 1) - q)) ((a1166 4) (((60 * (sh.toNatClampNeg)) + i0) + ((n0 - 1) - q)))))) _ _ _ (show n0 - (q + 1) < n0 - q from by omega) ⟨(show (q + 1) ≤ n0 from by omega), (show ∀ c9, n0 - (q + 1) ≤ c9 → c9 < n0 → (va_up a1166 4 (upd (a1166 4) (((60 * (ot.toNatClampNeg)) + j0) + ((n0 - 1) - q)) ((a1166 4) (((60 * (sh.toNatClampNeg)) + i0) + ((n0 - 1) - q))))) 4 ((60 * ot.toNatClampNeg + j0) + c9) = a 4 ((60 * sh.toNatClampNeg + i0) + c9) from (fun c9 h1 h2 => by show (upd (a1166 4) (((60 * (ot.toNatClampNeg)) + j0) + ((n0 - 1) - q)) ((a1166 4) (((60 * (sh.toNatClampNeg)) + i0) + ((n0 - 1) - q)))) ((60 * ot.toNatClampNeg + j0) + c9) = a 4 ((60 * sh.toNatClampNeg + i0) + c9); by_cases e7 : c9 = n0 - 1 - q; rw [e7, up_eq]; exact hoth _ (by omega); rw [up_ne (by omega)]; exact hcp9 c9 (by omega) (by omega))), (show ∀ p9, ¬ ((60 * ot.toNatClampNeg + j0) + (n0 - (q + 1)) ≤ p9 ∧ p9 < (60 * ot.toNatClampNeg + j0) + (n0)) → (va_up a1166 4 (upd (a1166 4) (((60 * (ot.toNatClampNeg)) + j0) + ((n0 - 1) - q)) ((a1166 4) (((60 * (sh.toNatClampNeg)) + i0) + ((n0 - 1) - q))))) 4 p9 = a 4 p9 from (fun p9 hp => by show (upd (a1166 4) (((60 * (ot.toNatClampNeg)) + j0) + ((n0 - 1) - q)) ((a1166 4) (((60 * (sh.toNatClampNeg)) + i0) + ((n0 - 1) - q)))) p9 = a 4 p9; rw [up_ne (by omega)]; exact hoth p9 (by omega))), (fun i h4 => Eq.trans (vup_ne h4) (hfa166 i h4)), hP, hD, hS, lv_sub hl [0, 2, 3, 4, 5, 6, 7, 8] rfl⟩
                        · have hncp : ¬ CP so ln sh i ot j n := fun ⟨i1, j1, n1, e1, e2, e3, w1, w2⟩ => by have e7 := (nI_eq hi1 (by omega)).mp (hi2.symm.trans e1); have e8 := (nI_eq hj1 (by omega)).mp (hj2.symm.trans e2); have e9 := (nI_eq hn1 (by omega)).mp (hn2.symm.trans e3); omega
                          refine lv_aload_n hx hb dX10_copy_144 rfl (lv_at hl 1 rfl) ?_
                          refine lv_iconst (v := (nI 3)) hx hb dX10_copy_145 rfl ?_
                          refine wVi e0_S (As := [.int (nI 3)]) (rest := []) ⟨hx, hb, hml, hown, hts⟩ (kX10_fails l D cA r _ (upd u 0 (nI 0)) a (nI 3)) (cwV 1 hts gX10_copy_X10_fails rfl rfl rfl (by decide +kernel) ⟨Nat.le_of_ble_eq_true rfl, Nat.le_of_ble_eq_true rfl⟩) (va_recv hK hP (ci := 10) (q0 := 0) rfl rfl) hK hP hD hS hA hE rfl hl.1 rfl (Nat.le_of_ble_eq_true rfl) dX10_copy_146 ⟨Nat.zero_le _, Nat.zero_le _⟩ (fun rv_51 z_53 H locs hw_52 hP hD hS => ?_)
                          obtain ⟨rfl, rfl⟩ := hw_52
                          have hP : va_P D vwCl (xM cA r ((upd u 0 (nI 3)), a)) H := hP
                          have hD : va_D A (xM cA r ((upd u 0 (nI 3)), a)) := hD
                          exact wIret hx hb hr hlocks (v := ((-10) - (nI 3))) ((upd u 0 (nI 3)), a) (⟨by unfold aCopy; rw [cif_pos ⟨b_3, b_7⟩, cif_neg (fun q => q.elim c_9 c_13), cif_pos c_14, cif_neg hncp]; decide, by unfold ceCopy fCopy; rw [cif_neg (fun q => hncp q.2.2.2), cif_pos ⟨b_3, b_7⟩, cif_neg (fun q => q.elim c_9 c_13), cif_pos c_14, cif_neg hncp]; exact (MI.keep hI rfl htr rfl rfl rfl rfl rfl rfl rfl rfl rfl rfl rfl rfl rfl rfl rfl)⟩) hK hP hD hS dX10_copy_149
          · refine lv_aload_n hx hb dX10_copy_64 rfl (lv_at hl 0 rfl) ?_
            refine lv_iconst (v := (nI 2)) hx hb dX10_copy_65 rfl ?_
            refine wVi e0_S (As := [.int (nI 2)]) (rest := []) ⟨hx, hb, hml, hown, hts⟩ (kX10_fails l D cA r _ (upd u 0 (nI 0)) a (nI 2)) (cwV 1 hts gX10_copy_X10_fails rfl rfl rfl (by decide +kernel) ⟨Nat.le_of_ble_eq_true rfl, Nat.le_of_ble_eq_true rfl⟩) (va_recv hK hP (ci := 10) (q0 := 0) rfl rfl) hK hP hD hS hA hE rfl hl.1 rfl (Nat.le_of_ble_eq_true rfl) dX10_copy_66 ⟨Nat.zero_le _, Nat.zero_le _⟩ (fun rv_54 z_56 H locs hw_55 hP hD hS => ?_)
            obtain ⟨rfl, rfl⟩ := hw_55
            have hP : va_P D vwCl (xM cA r ((upd u 0 (nI 2)), a)) H := hP
            have hD : va_D A (xM cA r ((upd u 0 (nI 2)), a)) := hD
            exact wIret hx hb hr hlocks (v := ((-10) - (nI 2))) ((upd u 0 (nI 2)), a) (⟨by unfold aCopy; rw [cif_pos ⟨b_3, b_7⟩, cif_neg (fun q => q.elim c_9 c_13), cif_neg c_14]; decide, by unfold ceCopy fCopy; rw [cif_neg (fun q => c_14 q.2.2.1), cif_pos ⟨b_3, b_7⟩, cif_neg (fun q => q.elim c_9 c_13), cif_neg c_14]; exact (MI.keep hI rfl htr rfl rfl rfl rfl rfl rfl rfl rfl rfl rfl rfl rfl rfl rfl rfl)⟩) hK hP hD hS dX10_copy_69
        · refine lv_aload_n hx hb dX10_copy_43 rfl (lv_at hl 0 rfl) ?_
          refine lv_iconst (v := (nI 1)) hx hb dX10_copy_44 rfl ?_
          refine wVi e0_S (As := [.int (nI 1)]) (rest := []) ⟨hx, hb, hml, hown, hts⟩ (kX10_fails l D cA r _ (upd u 0 (nI 0)) a (nI 1)) (cwV 1 hts gX10_copy_X10_fails rfl rfl rfl (by decide +kernel) ⟨Nat.le_of_ble_eq_true rfl, Nat.le_of_ble_eq_true rfl⟩) (va_recv hK hP (ci := 10) (q0 := 0) rfl rfl) hK hP hD hS hA hE rfl hl.1 rfl (Nat.le_of_ble_eq_true rfl) dX10_copy_45 ⟨Nat.zero_le _, Nat.zero_le _⟩ (fun rv_57 z_59 H locs hw_58 hP hD hS => ?_)
          obtain ⟨rfl, rfl⟩ := hw_58
          have hP : va_P D vwCl (xM cA r ((upd u 0 (nI 1)), a)) H := hP
          have hD : va_D A (xM cA r ((upd u 0 (nI 1)), a)) := hD
          exact wIret hx hb hr hlocks (v := ((-10) - (nI 1))) ((upd u 0 (nI 1)), a) (⟨by unfold aCopy; rw [cif_pos ⟨b_3, b_7⟩, cif_pos (Or.inr c_13)]; decide, by unfold ceCopy fCopy; rw [cif_neg (fun q => q.2.1 (Or.inr c_13)), cif_pos ⟨b_3, b_7⟩, cif_pos (Or.inr c_13)]; exact (MI.keep hI rfl htr rfl rfl rfl rfl rfl rfl rfl rfl rfl rfl rfl rfl rfl rfl rfl)⟩) hK hP hD hS dX10_copy_48
    · refine lv_if_ne (tgt := 21) hx hb dX10_copy_16 (by decide) (fun c_60 => absurd c_60 (by decide)) (fun _ => ?_)
      refine lv_iconst (v := (-1)) hx hb dX10_copy_19 (by decide) ?_
      exact wIret hx hb hr hlocks (v := (-1)) ((upd u 0 (nI 0)), a) (⟨by unfold aCopy; rw [cif_neg (fun q => b_7 q.2)], by unfold ceCopy fCopy; rw [cif_neg (fun q => (fun q => b_7 q.2) q.1), cif_neg (fun q => b_7 q.2)]; exact (MI.keep hI rfl htr rfl rfl rfl rfl rfl rfl rfl rfl rfl rfl rfl rfl rfl rfl rfl)⟩) hK hP hD hS dX10_copy_20
  · refine lv_if_eq (tgt := 19) hx hb dX10_copy_9 (by decide) (fun _ => ?_) (fun c_61 => absurd c_61 (by decide))
    refine lv_iconst (v := (-1)) hx hb dX10_copy_19 (by decide) ?_
    exact wIret hx hb hr hlocks (v := (-1)) ((upd u 0 (nI 0)), a) (⟨by unfold aCopy; rw [cif_neg (fun q => b_3 q.1)], by unfold ceCopy fCopy; rw [cif_neg (fun q => (fun q => b_3 q.1) q.1), cif_neg (fun q => b_3 q.1)]; exact (MI.keep hI rfl htr rfl rfl rfl rfl rfl rfl rfl rfl rfl rfl rfl rfl rfl rfl rfl)⟩) hK hP hD hS dX10_copy_20
