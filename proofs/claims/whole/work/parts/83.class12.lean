theorem rr_yes {C1 C2 : Prop} {so : Nat → Int32} {ln : Nat → Nat} {sh lane i n : Int32} (h : cif C1 (cif C2 (rcA (AG so ln sh lane i n)) (-2)) (-1) = 0) : C1 ∧ C2 ∧ AG so ln sh lane i n = 0 := by
  by_cases h1 : C1
  · rw [cif_pos h1] at h
    by_cases h2 : C2
    · rw [cif_pos h2] at h
      refine ⟨h1, h2, ?_⟩
      by_cases h3 : AG so ln sh lane i n = 0
      · exact h3
      · unfold rcA at h; rw [cif_neg h3] at h
        unfold AG ag at h
        split at h
        · exact absurd h (by decide)
        split at h
        · exact absurd h (by decide)
        split at h
        · exact absurd h (by decide)
        split at h
        · exact absurd h (by decide)
        · exact absurd h (by decide)
    · rw [cif_neg h2] at h; exact absurd h (by decide)
  · rw [cif_neg h1] at h; exact absurd h (by decide)
theorem rr_no {C1 C2 : Prop} {g : Nat → Nat} {so : Nat → Int32} {ln : Nat → Nat} {ce : Nat → Nat → Int32} {sh lane i n : Int32} (h : ¬ cif C1 (cif C2 (rcA (AG so ln sh lane i n)) (-2)) (-1) = 0) : cif C1 (cif C2 (rcA (AG so ln sh lane i n)) (-2)) (-1) = cif C1 (cif C2 (LR g so ln ce sh lane i n) (-2)) (-1) := by
  by_cases h1 : C1
  · rw [cif_pos h1] at h; rw [cif_pos h1, cif_pos h1]
    by_cases h2 : C2
    · rw [cif_pos h2] at h; rw [cif_pos h2, cif_pos h2]
      by_cases h3 : AG so ln sh lane i n = 0
      · exact absurd (by unfold rcA; rw [cif_pos h3]; rfl) h
      · unfold rcA; rw [cif_neg h3]; unfold LR lrA; rw [cif_neg (show ¬ ag (so sh.toNatClampNeg) (nI (ln sh.toNatClampNeg)) lane i n = 0 from h3)]; rfl
    · rw [cif_neg h2, cif_neg h2]
  · rw [cif_neg h1, cif_neg h1]
theorem LR_ok {g : Nat → Nat} {so : Nat → Int32} {ln : Nat → Nat} {ce : Nat → Nat → Int32} {sh lane i n : Int32} {k i0 n0 : Nat} (hk : sh.toNatClampNeg = k) (h : AG so ln sh lane i n = 0) (hi : i = nI i0) (hn : n = nI n0) (hib : i0 < 2 ^ 31) (hnb : n0 < 2 ^ 31) : LR g so ln ce sh lane i n = cif (g 0 = 0) (-3) (cif (1 ≤ n0 ∧ n0 ≤ 8) (cif (∀ j, j < n0 → ∃ x, x < g 0 ∧ ce k (i0 + j) = nI x) (nI 0) (-1)) (-2)) := by
  unfold LR lrA
  rw [cif_pos (show ag (so sh.toNatClampNeg) (nI (ln sh.toNatClampNeg)) lane i n = 0 from h), hk, hi, hn, nI_clamp hib, nI_clamp hnb]
  have e : (nI 1 ≤ nI n0 ∧ nI n0 ≤ nI 8) = (1 ≤ n0 ∧ n0 ≤ 8) := propext ⟨fun q => ⟨(nI_leI (by decide) hnb).mp q.1, (nI_leI hnb (by decide)).mp q.2⟩, fun q => ⟨(nI_leI (by decide) hnb).mpr q.1, (nI_leI hnb (by decide)).mpr q.2⟩⟩
  rw [e]
def ROWN (u : Nat → Int32) (a : Nat → Nat → Int32) (g : Nat → Nat) (ce : Nat → Nat → Int32) (sh i n : Int32) : Prop := inR sh 0 3 ∧ ∃ L : Nat, n.toNatClampNeg = L ∧ 0 < L ∧ L ≤ 8 ∧ u 5 = nI L ∧ (∀ j, j < L → a 20 j = nI (RO ce sh i j)) ∧ ∀ j, j < L → RO ce sh i j < g 0
theorem rnd_no {C1 C2 : Prop} {g : Nat → Nat} {so : Nat → Int32} {ln : Nat → Nat} {ce : Nat → Nat → Int32} {sh lane i n v : Int32} (h : ¬ cif C1 (cif C2 (LR g so ln ce sh lane i n) (-2)) (-1) = 0) : cif C1 (cif C2 (LR g so ln ce sh lane i n) (-2)) (-1) = aRnd g so ln ce C1 C2 sh lane i n v := by
  unfold aRnd
  by_cases h1 : C1
  · rw [cif_pos h1] at h; rw [cif_pos h1, cif_pos h1]
    by_cases h2 : C2
    · rw [cif_pos h2] at h; rw [cif_pos h2, cif_pos h2, cif_neg h]
    · rw [cif_neg h2, cif_neg h2]
  · rw [cif_neg h1, cif_neg h1]
theorem rnd_all {C1 C2 : Prop} {g : Nat → Nat} {so : Nat → Int32} {ln : Nat → Nat} {ce : Nat → Nat → Int32} {sh lane i n : Int32} (h : cif C1 (cif C2 (LR g so ln ce sh lane i n) (-2)) (-1) = 0) : C1 ∧ C2 ∧ LR g so ln ce sh lane i n = 0 := by
  by_cases h1 : C1
  · rw [cif_pos h1] at h
    by_cases h2 : C2
    · rw [cif_pos h2] at h; exact ⟨h1, h2, h⟩
    · rw [cif_neg h2] at h; exact absurd h (by decide)
  · rw [cif_neg h1] at h; exact absurd h (by decide)
theorem rnd_C2 {C1 C2 : Prop} {g : Nat → Nat} {so : Nat → Int32} {ln : Nat → Nat} {ce : Nat → Nat → Int32} {sh lane i n : Int32} (h : cif C1 (cif C2 (LR g so ln ce sh lane i n) (-2)) (-1) = 0) : C2 := (rnd_all h).2.1
theorem rnd_yes {C1 C2 : Prop} {g : Nat → Nat} {so : Nat → Int32} {ln : Nat → Nat} {ce : Nat → Nat → Int32} {sh lane i n v : Int32} (h : cif C1 (cif C2 (LR g so ln ce sh lane i n) (-2)) (-1) = 0) : aRnd g so ln ce C1 C2 sh lane i n v = v := by
  obtain ⟨h1, h2, h3⟩ := rnd_all h
  unfold aRnd; rw [cif_pos h1, cif_pos h2, cif_pos h3]
theorem m1_out : ¬ inR (-1) 0 3 := fun q => absurd q.1 (by decide)
theorem fall_c1 {sh kk : Int32} (h : (-1) ≤ kk) : (inR sh 0 3 ∧ (-1) ≤ kk) = inR sh 0 3 := propext ⟨fun q => q.1, fun q => ⟨q, h⟩⟩
theorem fall_g {so : Nat → Int32} {ln : Nat → Nat} {C2 : Prop} {sh lane i n kk : Int32} (h : (-1) ≤ kk) : fRnd so ln (inR sh 0 3) C2 sh lane i n = fRnd so ln (inR sh 0 3 ∧ (-1) ≤ kk) C2 sh lane i n := by rw [fall_c1 h]
theorem fall_yes {C2 : Prop} {g : Nat → Nat} {so : Nat → Int32} {ln : Nat → Nat} {ce : Nat → Nat → Int32} {sh lane i n v kk : Int32} (hk : (-1) ≤ kk) (h : ¬ cif (inR sh 0 3) (cif C2 (LR g so ln ce sh lane i n) (-2)) (-1) = 0) : cif (inR sh 0 3) (cif C2 (LR g so ln ce sh lane i n) (-2)) (-1) = aRnd g so ln ce (inR sh 0 3 ∧ (-1) ≤ kk) C2 sh lane i n v := by rw [fall_c1 hk]; exact rnd_no h
theorem fall_v {C2 : Prop} {g : Nat → Nat} {so : Nat → Int32} {ln : Nat → Nat} {ce : Nat → Nat → Int32} {sh lane i n v kk : Int32} (hk : (-1) ≤ kk) (h : cif (inR sh 0 3) (cif C2 (LR g so ln ce sh lane i n) (-2)) (-1) = 0) : aRnd g so ln ce (inR sh 0 3 ∧ (-1) ≤ kk) C2 sh lane i n v = v := by rw [fall_c1 hk]; exact rnd_yes h
theorem fall_no {C2 : Prop} {g : Nat → Nat} {so : Nat → Int32} {ln : Nat → Nat} {ce : Nat → Nat → Int32} {sh lane i n v kk : Int32} (hk : ¬ (-1) ≤ kk) : cif (inR (-1) 0 3) (cif C2 (LR g so ln ce (-1) lane i n) (-2)) (-1) = aRnd g so ln ce (inR sh 0 3 ∧ (-1) ≤ kk) C2 sh lane i n v := by unfold aRnd; rw [cif_neg m1_out, cif_neg (fun q => hk q.2)]
theorem fall_f {so : Nat → Int32} {ln : Nat → Nat} {C2 : Prop} {sh lane i n kk : Int32} (hk : ¬ (-1) ≤ kk) : fRnd so ln (inR (-1) 0 3) C2 (-1) lane i n = fRnd so ln (inR sh 0 3 ∧ (-1) ≤ kk) C2 sh lane i n := by unfold fRnd; rw [cif_neg m1_out, cif_neg (fun q => hk q.2)]
set_option maxHeartbeats 4000000 in
set_option maxRecDepth 100000 in
theorem kX8_layRound (l : Launch) (D : va_G) (cA : Nat → ClassId) (r : Nat → Nat) (sz : Nat) (u : Nat → Int32) (a : Nat → Nat → Int32) (th : Nat → Option Nat) (LP : List Nat) (tf : Nat → va_E) (tO : Nat) (k9 Ln i0 n0 : Nat) (hk9 : k9 < 4) (hln : u (18 + k9) = nI Ln) (hl60 : Ln ≤ 60) (hin : i0 + n0 ≤ Ln) (hn8 : n0 ≤ 8) : Met l yX8_layRound wsX8_layRound ({ frames := 2, cells := 0, slots := 0, locals := 42 } : Room) (va_Pc [.ref (r 3), .ref (r (6 + k9)), .int (nI i0), .int (nI n0)] (wA D vwCl (tyA cA) (eO tO) (xN cA r) (u, a, th, LP, tf) sz)) (va_Qv (fun (z : sN) => z.1 5 = nI n0 ∧ (∀ j, j < n0 → z.2.1 20 j = a (26 + k9) (i0 + j)) ∧ (∀ i, i ≠ 5 → z.1 i = u i) ∧ (∀ i, i ≠ 20 → z.2.1 i = a i) ∧ z.2.2 = (th, LP, tf)) (wB D vwCl (tyA cA) (xN cA r) (va_A (xN cA r (u, a, th, LP, tf)) sz)) (va_A (xN cA r (u, a, th, LP, tf)) sz)) 0 0 (va_A (xN cA r (u, a, th, LP, tf)) sz) := by
  refine Met.ofW (cc := cX8_layRound) (maxL := 5) (ret := none) (by decide) rfl ?_
  intro p e s m args below meth c s₁ B hml hv
  obtain ⟨rfl, hsz, hP, hK, hD0, hE⟩ := hv
  have hx := B.exec
  have hb := B.bytes
  have hr := B.returns
  have hts := atoms_spec (ws := wsX8_layRound) B.pre
  have hown : s.vm.findClass RX8 = some m.cls := findClass_of_methodNamed B.named
  have hlocks := B.notSynchronized
  subst hsz
  have hD := hD0.self (sz := s.heap.size)
  generalize hAe : va_A (xN cA r (u, a, th, LP, tf)) s.heap.size = A at hD hE ⊢
  have hA : ∀ q : Nat, s.heap.size ≤ q → A q := fun q h => by rw [← hAe]; exact Or.inr h
  have hS : va_S A s.heap s.heap [] := va_S.rf
  have hinX8 : ∀ w ∈ u_ws RX8 TX8 10, w ∈ wsX8_layRound := by decide +kernel
  have hl := lv_entry ([.ref (r 3), .ref (r (6 + k9)), .int (nI i0), .int (nI n0)]) (n := 5) (Nat.le_of_ble_eq_true rfl)
  rw [lg_entry_eq]
  generalize (lg_sl ([.ref (r 3), .ref (r (6 + k9)), .int (nI i0), .int (nI n0)]) ++ List.replicate (5 - (lg_sl ([.ref (r 3), .ref (r (6 + k9)), .int (nI i0), .int (nI n0)])).length) Slot.unset).toArray = ls at hl ⊢
  have hl : lv_has ls 5 [(0, .ref (r 3)), (1, .ref (r (6 + k9))), (2, .int (nI i0)), (3, .int (nI n0))] := hl
  refine lv_aload_n hx hb dX8_layRound_0 rfl (lv_at hl 0 rfl) ?_
  refine lv_iload_n hx hb dX8_layRound_1 rfl (lv_at hl 3 rfl) ?_
  refine lv_bipush (v := (nI 8)) hx hb dX8_layRound_2 rfl ?_
  refine va_mmin hx hb (hml.trans hl.1.symm) hown (hts (.methodLink RX8 44 Lib.Math.min.name) (by decide +kernel)) (hts (.static Lib.Math.min.name) (by decide +kernel)) (hts (.initialized "java/lang/Math") (by decide +kernel)) (hts (.code Lib.Math.min.name Lib.Math.min.code 2 (some .int)) (by decide +kernel)) (Nat.le_of_ble_eq_true rfl) (Nat.le_of_ble_eq_true rfl) (Nat.zero_le _) (Nat.zero_le _) dX8_layRound_4 ?_
  refine lv_topi (fun y_1 ey_1 => ?_)
  obtain rfl : y_1 = (nI n0) := ey_1.trans (mi_row n0 hn8)
  refine va_put (D := D) (ci := 8) (v := .int (nI n0)) (ty := .int) (C := RX8) (T := TX8) (N := 10) hx hb hts hinX8 tyX8 tyX8_ok nmX8 hown hK hP hD hS 3 rfl rfl 2 (by decide) (hts (.fieldLink RX8 15 "OneNail$Walk" "length" "I") (by decide +kernel)) (fun _ h9 => h9) rfl (by decide +kernel) rfl rfl (Nat.le_of_ble_eq_true rfl) dX8_layRound_7 (fun H locs hP hD hS => ?_)
  have hP : va_P D vwCl (xN cA r ((upd u 5 (nI n0)), a, th, LP, tf)) H := hP
  have hD : va_D A (xN cA r ((upd u 5 (nI n0)), a, th, LP, tf)) := hD
  refine lv_iconst (v := (nI 0)) hx hb dX8_layRound_10 rfl ?_
  refine lv_istore (lv' := [(4, .int (nI 0)), (0, .ref (r 3)), (1, .ref (r (6 + k9))), (2, .int (nI i0)), (3, .int (nI n0))]) hx hb dX8_layRound_11 hl (by decide) rfl (fun ls hl => ?_)
  refine wLoop (τ := Nat × (Nat → Nat → Int32)) (fun z H locs ls => (fun (q : Nat) (a1013 : (Nat → Nat → Int32)) => (q ≤ n0) ∧ (∀ j9, j9 < q → a1013 20 j9 = a (26 + k9) (i0 + j9)) ∧ (∀ i : Nat, i ≠ 20 → a1013 i = a i) ∧ (va_P D vwCl (xN cA r ((upd u 5 (nI n0)), a1013, th, LP, tf)) H) ∧ (va_D A (xN cA r ((upd u 5 (nI n0)), a1013, th, LP, tf))) ∧ (va_S A s.heap H locs) ∧ (lv_has ls 5 [(4, .int (nI q)), (0, .ref (r 3)), (1, .ref (r (6 + k9))), (2, .int (nI i0))])) z.1 z.2) (fun z => (fun (q : Nat) (a1013 : (Nat → Nat → Int32)) => n0 - q) z.1 z.2) (0, a) ⟨(show 0 ≤ n0 from Nat.zero_le _), (show ∀ j9, j9 < 0 → a 20 j9 = a (26 + k9) (i0 + j9) from (fun i h => absurd h (Nat.not_lt_zero i))), (fun i h20 => rfl), hP, hD, hS, lv_sub hl [0, 1, 2, 3] rfl⟩ ?_
  rintro ⟨q, a1013⟩ H locs ls ⟨hq, hrw, hfa13, hP, hD, hS, hl⟩ ih13
  have hq : q ≤ n0 := hq
  have hrw : ∀ j9, j9 < q → a1013 20 j9 = a (26 + k9) (i0 + j9) := hrw
  have hfa13 : ∀ i : Nat, i ≠ 20 → a1013 i = a i := hfa13
  have hP : va_P D vwCl (xN cA r ((upd u 5 (nI n0)), a1013, th, LP, tf)) H := hP
  have hD : va_D A (xN cA r ((upd u 5 (nI n0)), a1013, th, LP, tf)) := hD
  have hl : lv_has ls 5 [(4, .int (nI q)), (0, .ref (r 3)), (1, .ref (r (6 + k9))), (2, .int (nI i0))] := hl
  refine lv_iload hx hb dX8_layRound_13 (lv_at hl 0 rfl) ?_
  refine lv_aload_n hx hb dX8_layRound_15 rfl (lv_at hl 1 rfl) ?_
  refine va_get (D := D) (ci := 8) (v := .int (nI n0)) (C := RX8) (T := TX8) (N := 10) hx hb hts hinX8 hown hK hP 3 rfl rfl 2 (by decide) (hts (.fieldLink RX8 15 "OneNail$Walk" "length" "I") (by decide +kernel)) (fun _ h9 => h9) rfl dX8_layRound_16 ?_
  refine rn_ge (x := q) (y := n0) (tgt := 43) hx hb (by omega) (by omega) dX8_layRound_19 (by decide) (fun c_2 => ?_) (fun c_2 => ?_)
  · exact wVret hx hb hr hlocks ((upd u 5 (nI n0)), a1013, th, LP, tf) (⟨rfl, fun j hj => hrw j (by omega), (fun i h5 => up_ne h5), (fun i h20 => hfa13 i h20), rfl⟩) hK hP hD hS dX8_layRound_43
  · refine lv_aload_n hx hb dX8_layRound_22 rfl (lv_at hl 1 rfl) ?_
    refine va_get (D := D) (ci := 8) (v := .ref (r 20)) (C := RX8) (T := TX8) (N := 10) hx hb hts hinX8 hown hK hP 3 rfl rfl 1 (by decide) (hts (.fieldLink RX8 9 "OneNail$Walk" "round" "[I") (by decide +kernel)) (fun _ h9 => h9) rfl dX8_layRound_23 ?_
    refine lv_iload hx hb dX8_layRound_26 (lv_at hl 0 rfl) ?_
    refine lv_aload_n hx hb dX8_layRound_28 rfl (lv_at hl 2 rfl) ?_
    refine lv_iload_n hx hb dX8_layRound_29 rfl (lv_at hl 3 rfl) ?_
    refine lv_iload hx hb dX8_layRound_30 (lv_at hl 0 rfl) ?_
    refine rn_iadd (x := i0) (y := q) hx hb dX8_layRound_32 ?_
    refine wVi (eO_S tO) (As := [.int (nI (i0 + q))]) (rest := [.int (nI q), .ref (r 20)]) ⟨hx, hb, hml, hown, hts⟩ (kX4_read l D cA r _ (upd u 5 (nI n0)) a1013 th LP tf tO k9 Ln (i0 + q) hk9 (Eq.trans (up_ne (by omega)) (hln)) hl60 (by omega)) (cwV 1 hts gX8_layRound_X4_read rfl rfl rfl (by decide +kernel) ⟨Nat.le_of_ble_eq_true rfl, Nat.le_of_ble_eq_true rfl⟩) (va_recv hK hP (ci := 4) (q0 := (6 + k9)) rfl (WN_o hk9)) hK hP hD hS hA hE rfl hl.1 rfl (Nat.le_of_ble_eq_true rfl) dX8_layRound_33 ⟨Nat.zero_le _, Nat.zero_le _⟩ (fun rv_3 z_5 H locs hw_4 hP hD hS => ?_)
    obtain ⟨rfl, rfl⟩ := hw_4
    have hP : va_P D vwCl (xN cA r ((upd u 5 (nI n0)), a1013, th, LP, tf)) H := hP
    have hD : va_D A (xN cA r ((upd u 5 (nI n0)), a1013, th, LP, tf)) := hD
    refine lv_topi (fun y_6 ey_6 => ?_)
    obtain rfl : y_6 = (a (26 + k9) (i0 + q)) := ey_6.trans (congrFun (hfa13 (26 + k9) (by omega)) _)
    refine ra_iast hx hb hK hP hD hS 20 0 (n := 8) (f := (a1013 20)) (j := q) (x := (a (26 + k9) (i0 + q))) rfl rfl (by omega) (by decide) dX8_layRound_36 (fun H locs hP hD hS => ?_)
    have hP : va_P D vwCl (xN cA r ((upd u 5 (nI n0)), (va_up a1013 20 (upd (a1013 20) q (a (26 + k9) (i0 + q)))), th, LP, tf)) H := hP
    have hD : va_D A (xN cA r ((upd u 5 (nI n0)), (va_up a1013 20 (upd (a1013 20) q (a (26 + k9) (i0 + q)))), th, LP, tf)) := hD
    refine rn_iinc (x := q) (d := 1) (lv' := [(4, .int (nI (q + 1))), (0, .ref (r 3)), (1, .ref (r (6 + k9))), (2, .int (nI i0))]) hx hb rfl dX8_layRound_37 hl (k := 0) rfl (by decide) rfl (fun ls hl => ?_)
    refine lv_goto (tgt := 13) hx hb dX8_layRound_40 (by decide) ?_
    exact ih13 ((q + 1), (va_up a1013 20 (upd (a1013 20) q (a (26 + k9) (i0 + q))))) _ _ _ (show n0 - (q + 1) < n0 - q from by omega) ⟨(show (q + 1) ≤ n0 from by omega), (show ∀ j9, j9 < (q + 1) → (va_up a1013 20 (upd (a1013 20) q (a (26 + k9) (i0 + q)))) 20 j9 = a (26 + k9) (i0 + j9) from (show ∀ j, j < q + 1 → (upd (a1013 20) q (a (26 + k9) (i0 + q))) j = a (26 + k9) (i0 + j) from arr_push (F := fun j => a (26 + k9) (i0 + j)) hrw rfl)), (fun i h20 => Eq.trans (vup_ne h20) (hfa13 i h20)), hP, hD, hS, lv_sub hl [0, 1, 2, 3] rfl⟩

set_option maxHeartbeats 4000000 in
set_option maxRecDepth 100000 in
theorem kX9_refuseRound (l : Launch) (D : va_G) (cA : Nat → ClassId) (r : Nat → Nat) (sz : Nat) (u : Nat → Int32) (a : Nat → Nat → Int32) (th : Nat → Option Nat) (LP : List Nat) (tf : Nat → va_E) (tO : Nat) (g : Nat → Nat) (T : Nat → Nat → Nat) (R : Nat → Nat → Nat) (so : Nat → Int32) (ln : Nat → Nat) (ce : Nat → Nat → Int32) (f tr : Int32) (sh b lane i n : Int32) (C2 : Prop) (hI : CI u a th LP tf g T R so ln ce f tr) (hb2 : (b = nI 1 ∧ C2) ∨ (b = nI 0 ∧ ¬ C2)) : Met l yX9_refuseRound wsX9_refuseRound ({ frames := 3, cells := 0, slots := 0, locals := 70 } : Room) (va_Pc [.ref (r 0), .int sh, .int b, .int lane, .int i, .int n] (wA D vwCl (tyA cA) (eO tO) (xN cA r) (u, a, th, LP, tf) sz)) (va_Qi (fun (v : Int32) (z : sN) => v = cif (inR sh 0 3) (cif C2 (LR g so ln ce sh lane i n) (-2)) (-1) ∧ (v = 0 → ROWN z.1 z.2.1 g ce sh i n) ∧ CI z.1 z.2.1 z.2.2.1 z.2.2.2.1 z.2.2.2.2 g T R so ln ce (fRnd so ln (inR sh 0 3) C2 sh lane i n) tr) (wB D vwCl (tyA cA) (xN cA r) (va_A (xN cA r (u, a, th, LP, tf)) sz)) (va_A (xN cA r (u, a, th, LP, tf)) sz)) 0 0 (va_A (xN cA r (u, a, th, LP, tf)) sz) := by
  refine Met.ofW (cc := cX9_refuseRound) (maxL := 9) (ret := (some .int)) (by decide) rfl ?_
  intro p e s m args below meth c s₁ B hml hv
  obtain ⟨rfl, hsz, hP, hK, hD0, hE⟩ := hv
  have hx := B.exec
  have hb := B.bytes
  have hr := B.returns
  have hts := atoms_spec (ws := wsX9_refuseRound) B.pre
  have hown : s.vm.findClass RX9 = some m.cls := findClass_of_methodNamed B.named
  have hlocks := B.notSynchronized
  subst hsz
  have hD := hD0.self (sz := s.heap.size)
  generalize hAe : va_A (xN cA r (u, a, th, LP, tf)) s.heap.size = A at hD hE ⊢
  have hA : ∀ q : Nat, s.heap.size ≤ q → A q := fun q h => by rw [← hAe]; exact Or.inr h
  have hS : va_S A s.heap s.heap [] := va_S.rf
  have hinX5 : ∀ w ∈ u_ws RX5 TX5 8, w ∈ wsX9_refuseRound := by decide +kernel
  have hinX9 : ∀ w ∈ u_ws RX9 TX9 8, w ∈ wsX9_refuseRound := by decide +kernel
  have hl := lv_entry ([.ref (r 0), .int sh, .int b, .int lane, .int i, .int n]) (n := 9) (Nat.le_of_ble_eq_true rfl)
  rw [lg_entry_eq]
  generalize (lg_sl ([.ref (r 0), .int sh, .int b, .int lane, .int i, .int n]) ++ List.replicate (9 - (lg_sl ([.ref (r 0), .int sh, .int b, .int lane, .int i, .int n])).length) Slot.unset).toArray = ls at hl ⊢
  have hl : lv_has ls 9 [(0, .ref (r 0)), (1, .int sh), (2, .int b), (3, .int lane), (4, .int i), (5, .int n)] := hl
  have hM := hI.1
  have hB := hI.2.1
  have hg6 := hB.1
  have hsm := hI.2.2.1
  have hrs := hI.2.2.2.1
  have hRd := hI.2.2.2.2.1
  have hSh := hI.2.2.2.2.2.1
  have hf0 := hI.2.2.2.2.2.2.1
  have htr := hI.2.2.2.2.2.2.2.1
  have hPo := hI.2.2.2.2.2.2.2.2
  refine lv_aload_n hx hb dX9_refuseRound_0 rfl (lv_at hl 0 rfl) ?_
  refine lv_iload_n hx hb dX9_refuseRound_1 rfl (lv_at hl 1 rfl) ?_
  refine lv_iload_n hx hb dX9_refuseRound_2 rfl (lv_at hl 2 rfl) ?_
  refine lv_iload_n hx hb dX9_refuseRound_3 rfl (lv_at hl 3 rfl) ?_
  refine lv_iload hx hb dX9_refuseRound_4 (lv_at hl 4 rfl) ?_
  refine lv_iload hx hb dX9_refuseRound_6 (lv_at hl 5 rfl) ?_
  refine wVi (eO_S tO) (As := [.int sh, .int b, .int lane, .int i, .int n]) (rest := []) ⟨hx, hb, hml, hown, hts⟩ (kX9_refuseCells l D cA r _ u a th LP tf tO g T R so ln ce f tr sh b lane i n C2 hI hb2) (cwV 5 hts gX9_refuseRound_X9_refuseCells rfl rfl rfl (by decide +kernel) ⟨Nat.le_of_ble_eq_true rfl, Nat.le_of_ble_eq_true rfl⟩) (va_recv hK hP (ci := 9) (q0 := 0) rfl rfl) hK hP hD hS hA hE rfl hl.1 rfl (Nat.le_of_ble_eq_true rfl) dX9_refuseRound_8 ⟨Nat.zero_le _, Nat.zero_le _⟩ (fun rv_1 z_3 H locs hw_2 hP hD hS => ?_)
  obtain ⟨ff, hff⟩ : ∃ z, z = fRnd so ln (inR sh 0 3) C2 sh lane i n := ⟨_, rfl⟩
  rw [← hff] at hw_2
  obtain ⟨hrv, rfl⟩ := hw_2
  have hP : va_P D vwCl (xN cA r ((upd u 0 ff), a, th, LP, tf)) H := hP
  have hD : va_D A (xN cA r ((upd u 0 ff), a, th, LP, tf)) := hD
  have hrv : rv_1 = cif (inR sh 0 3) (cif C2 (rcA (AG so ln sh lane i n)) (-2)) (-1) := hrv
  refine lv_istore (lv' := [(6, .int rv_1), (0, .ref (r 0)), (1, .int sh), (2, .int b), (3, .int lane), (4, .int i), (5, .int n)]) hx hb dX9_refuseRound_11 hl (by decide) rfl (fun ls hl => ?_)
  refine lv_aload_n hx hb dX9_refuseRound_13 rfl (lv_at hl 1 rfl) ?_
  refine lv_iload_n hx hb dX9_refuseRound_14 rfl (lv_at hl 2 rfl) ?_
  refine wVq (eO_S tO) (As := [.int sh]) (rest := []) ⟨hx, hb, hml, hown, hts⟩ (kX9_sheetAt l D cA r _ (upd u 0 ff) a th LP tf tO sh) (cwV 1 hts gX9_refuseRound_X9_sheetAt rfl rfl rfl (by decide +kernel) ⟨Nat.le_of_ble_eq_true rfl, Nat.le_of_ble_eq_true rfl⟩) (va_recv hK hP (ci := 9) (q0 := 0) rfl rfl) hK hP hD hS hA hE rfl hl.1 rfl (Nat.le_of_ble_eq_true rfl) dX9_refuseRound_15 ⟨Nat.zero_le _, Nat.zero_le _⟩ (fun rv_4 z_6 H locs hw_5 hP hD hS => ?_)
  obtain ⟨hz_7, hw_5⟩ := hw_5
  subst hz_7
  have hP : va_P D vwCl (xN cA r ((upd u 0 ff), a, th, LP, tf)) H := hP
  have hD : va_D A (xN cA r ((upd u 0 ff), a, th, LP, tf)) := hD
  rcases hw_5 with ⟨k8, hk9, hxk10, rfl⟩ | ⟨hxk10, rfl⟩
  · have hkc_k8 : sh.toNatClampNeg = k8 := by rw [hxk10]; exact nI_clamp (by omega)
    have hsk_k8 := hSh k8 hk9
    have hlk_k8 := hsk_k8.2.2.2.1
    have hll_k8 : (if so k8 = -9 then 0 else ln k8) ≤ 60 := by split <;> omega
    have hin_k8 : inR sh 0 3 := by rw [hxk10]; exact ⟨nI_pos' (by omega), (nI_leI (by omega) (by decide)).mpr (by omega)⟩
    refine lv_astore (lv' := [(7, .ref (r (6 + k8))), (6, .int rv_1), (0, .ref (r 0)), (1, .int sh), (2, .int b), (3, .int lane), (4, .int i), (5, .int n)]) hx hb dX9_refuseRound_18 hl (by decide) rfl (fun ls hl => ?_)
    refine lv_iload hx hb dX9_refuseRound_20 (lv_at hl 1 rfl) ?_
    refine lv_if_ne (tgt := 30) hx hb dX9_refuseRound_22 (by decide) (fun c_11 => ?_) (fun c_11 => ?_)
    · refine lv_iload hx hb dX9_refuseRound_30 (lv_at hl 1 rfl) ?_
      exact wIret hx hb hr hlocks (v := rv_1) ((upd u 0 ff), a, th, LP, tf) (⟨hrv.trans (rr_no (fun q => c_11 (hrv.trans q))), fun q => absurd q c_11, (CI.keep hI hff htr (fun i hi9 => up_ne (by omega)) (fun i hi9 => rfl))⟩) hK hP hD hS dX9_refuseRound_32
    · refine lv_aload hx hb dX9_refuseRound_25 (lv_at hl 0 rfl) ?_
      refine lv_ifnonnull (tgt := 33) hx hb dX9_refuseRound_27 (by decide) ?_
      obtain ⟨hC1, hC2, hag⟩ := rr_yes (hrv.symm.trans c_11)
      obtain ⟨i0, n0, hi0, hn0, hin0, hsl, hs9⟩ := ag_ok (hSh sh.toNatClampNeg (by omega)).2.2.2.1 hag
      rw [hkc_k8] at hin0 hsl hs9
      have hic : i.toNatClampNeg = i0 := by rw [hi0]; exact nI_clamp (by omega)
      have hnc : n.toNatClampNeg = n0 := by rw [hn0]; exact nI_clamp (by omega)
      have hl : lv_has ls 9 [(7, .ref (r (6 + k8))), (6, .int rv_1), (0, .ref (r 0)), (1, .int sh), (2, .int b), (3, .int lane), (4, .int (nI i0)), (5, .int n)] := lv_re hl 6 ⟨rfl, rfl⟩ (hi0)
      have hl : lv_has ls 9 [(7, .ref (r (6 + k8))), (6, .int rv_1), (0, .ref (r 0)), (1, .int sh), (2, .int b), (3, .int lane), (4, .int (nI i0)), (5, .int (nI n0))] := lv_re hl 7 ⟨rfl, rfl⟩ (hn0)
      have hLR := LR_ok (g := g) (ce := ce) hkc_k8 hag hi0 hn0 (by omega) (by omega)
      refine lv_aload_n hx hb dX9_refuseRound_33 rfl (lv_at hl 2 rfl) ?_
      refine va_get (D := D) (ci := 9) (v := .ref (r 1)) (C := RX9) (T := TX9) (N := 8) hx hb hts hinX9 hown hK hP 0 rfl rfl 0 (by decide) (hts (.fieldLink RX9 12 "OneNail" "town" "LOneNail$Street;") (by decide +kernel)) (fun _ h9 => h9) rfl dX9_refuseRound_34 ?_
      refine va_get (D := D) (ci := 5) (v := .int (nI (g 0))) (C := RX5) (T := TX5) (N := 8) hx hb hts hinX5 hown hK hP 1 rfl rfl 0 (by decide) (hts (.fieldLink RX9 83 "OneNail$Street" "count" "I") (by decide +kernel)) (fun _ h9 => h9) (congrArg (fun z => some (Value.int z)) (hM.1)) dX9_refuseRound_37 ?_
      refine rz_ne (x := g 0) (tgt := 46) hx hb (by omega) dX9_refuseRound_40 (by decide) (fun c_12 => ?_) (fun c_12 => ?_)
      · refine lv_iload hx hb dX9_refuseRound_46 (lv_at hl 7 rfl) ?_
        refine lv_iconst (v := (nI 1)) hx hb dX9_refuseRound_48 rfl ?_
        refine rn_lt (x := n0) (y := 1) (tgt := 59) hx hb (by omega) (by omega) dX9_refuseRound_49 (by decide) (fun c_13 => ?_) (fun c_13 => ?_)
        · refine lv_bipush (v := (-2)) hx hb dX9_refuseRound_59 (by decide) ?_
          exact wIret hx hb hr hlocks (v := (-2)) ((upd u 0 ff), a, th, LP, tf) (⟨by rw [cif_pos hC1, cif_pos hC2, hLR]; rw [cif_neg (by omega), cif_neg (by omega)], fun q => absurd q (by decide), (CI.keep hI hff htr (fun i hi9 => up_ne (by omega)) (fun i hi9 => rfl))⟩) hK hP hD hS dX9_refuseRound_61
        · refine lv_iload hx hb dX9_refuseRound_52 (lv_at hl 7 rfl) ?_
          refine lv_bipush (v := (nI 8)) hx hb dX9_refuseRound_54 rfl ?_
          refine rn_le (x := n0) (y := 8) (tgt := 62) hx hb (by omega) (by omega) dX9_refuseRound_56 (by decide) (fun c_14 => ?_) (fun c_14 => ?_)
          · refine lv_iconst (v := (nI 0)) hx hb dX9_refuseRound_62 rfl ?_
            refine lv_istore (lv' := [(8, .int (nI 0)), (7, .ref (r (6 + k8))), (6, .int rv_1), (0, .ref (r 0)), (1, .int sh), (2, .int b), (3, .int lane), (4, .int (nI i0)), (5, .int (nI n0))]) hx hb dX9_refuseRound_63 hl (by decide) rfl (fun ls hl => ?_)
            refine wLoop (τ := Nat) (fun z H locs ls => (fun (q : Nat) => (q ≤ n0) ∧ (∀ j9, j9 < q → ∃ x9, x9 < g 0 ∧ ce k8 (i0 + j9) = nI x9) ∧ (va_P D vwCl (xN cA r ((upd u 0 ff), a, th, LP, tf)) H) ∧ (va_D A (xN cA r ((upd u 0 ff), a, th, LP, tf))) ∧ (va_S A s.heap H locs) ∧ (lv_has ls 9 [(8, .int (nI q)), (0, .ref (r 0)), (7, .ref (r (6 + k8))), (4, .int (nI i0)), (5, .int (nI n0))])) z) (fun z => (fun (q : Nat) => n0 - q) z) (0) ⟨(show 0 ≤ n0 from Nat.zero_le _), (show ∀ j9, j9 < 0 → ∃ x9, x9 < g 0 ∧ ce k8 (i0 + j9) = nI x9 from (fun j h => absurd h (Nat.not_lt_zero j))), hP, hD, hS, lv_sub hl [0, 3, 1, 7, 8] rfl⟩ ?_
            rintro q H locs ls ⟨hq, hrw, hP, hD, hS, hl⟩ ih65
            have hq : q ≤ n0 := hq
            have hrw : ∀ j9, j9 < q → ∃ x9, x9 < g 0 ∧ ce k8 (i0 + j9) = nI x9 := hrw
            have hP : va_P D vwCl (xN cA r ((upd u 0 ff), a, th, LP, tf)) H := hP
            have hD : va_D A (xN cA r ((upd u 0 ff), a, th, LP, tf)) := hD
            have hl : lv_has ls 9 [(8, .int (nI q)), (0, .ref (r 0)), (7, .ref (r (6 + k8))), (4, .int (nI i0)), (5, .int (nI n0))] := hl
            refine lv_iload hx hb dX9_refuseRound_65 (lv_at hl 0 rfl) ?_
            refine lv_iload hx hb dX9_refuseRound_67 (lv_at hl 4 rfl) ?_
            refine rn_ge (x := q) (y := n0) (tgt := 100) hx hb (by omega) (by omega) dX9_refuseRound_69 (by decide) (fun c_15 => ?_) (fun c_15 => ?_)
            · have hRO9 : ∀ j, RO ce sh i j = roC (ce k8) i0 j := fun j => by unfold RO; rw [hkc_k8, hic]
              have hcel : ∀ j, j < n0 → a (26 + k8) (i0 + j) = ce k8 (i0 + j) := fun j hj => hsk_k8.2.2.2.2 hs9 _ (by omega)
              refine lv_aload_n hx hb dX9_refuseRound_100 rfl (lv_at hl 1 rfl) ?_
              refine va_get (D := D) (ci := 9) (v := .ref (r 3)) (C := RX9) (T := TX9) (N := 8) hx hb hts hinX9 hown hK hP 0 rfl rfl 2 (by decide) (hts (.fieldLink RX9 30 "OneNail" "walk" "LOneNail$Walk;") (by decide +kernel)) (fun _ h9 => h9) rfl dX9_refuseRound_101 ?_
              refine lv_aload hx hb dX9_refuseRound_104 (lv_at hl 2 rfl) ?_
              refine lv_iload hx hb dX9_refuseRound_106 (lv_at hl 3 rfl) ?_
              refine lv_iload hx hb dX9_refuseRound_108 (lv_at hl 4 rfl) ?_
              refine wVv (eO_S tO) (As := [.ref (r (6 + k8)), .int (nI i0), .int (nI n0)]) (rest := []) ⟨hx, hb, hml, hown, hts⟩ (kX8_layRound l D cA r _ (upd u 0 ff) a th LP tf tO k8 (ln k8) i0 n0 hk9 (Eq.trans (up_ne (by omega)) ((hsk_k8.2.2.1.trans (congrArg nI (if_neg hs9))))) hlk_k8 (by omega) (by omega)) (cwV 3 hts gX9_refuseRound_X8_layRound rfl rfl rfl (by decide +kernel) ⟨Nat.le_of_ble_eq_true rfl, Nat.le_of_ble_eq_true rfl⟩) (va_recv hK hP (ci := 8) (q0 := 3) rfl rfl) hK hP hD hS hA hE rfl hl.1 rfl (Nat.le_of_ble_eq_true rfl) dX9_refuseRound_110 ⟨Nat.zero_le _, Nat.zero_le _⟩ (fun z_18 H locs hw_17 hP hD hS => ?_)
              obtain ⟨zu19, za20, zq21⟩ := z_18
              obtain ⟨h5_zu19, hry_zu19, hfu_zu19, hfa_zu19, hzq_zu19⟩ := hw_17
              have hzq_zu19 : zq21 = (th, LP, tf) := hzq_zu19
              subst hzq_zu19
              have h5_zu19 : zu19 5 = nI n0 := h5_zu19
              have hry_zu19 : ∀ j, j < n0 → za20 20 j = a (26 + k8) (i0 + j) := hry_zu19
              have hfu_zu19 : ∀ i, i ≠ 5 → zu19 i = (upd u 0 ff) i := hfu_zu19
              have hfa_zu19 : ∀ i, i ≠ 20 → za20 i = a i := hfa_zu19
              have hP : va_P D vwCl (xN cA r (zu19, za20, th, LP, tf)) H := hP
              have hD : va_D A (xN cA r (zu19, za20, th, LP, tf)) := hD
              have hfu_zu192 : ∀ i9, i9 ≠ 5 → i9 ≠ 0 → zu19 i9 = u i9 := fun i9 h5 h0 => Eq.trans (hfu_zu19 i9 h5) (up_ne h0)
              refine lv_iconst (v := (nI 0)) hx hb dX9_refuseRound_113 rfl ?_
              exact wIret hx hb hr hlocks (v := (nI 0)) (zu19, za20, th, LP, tf) (⟨by rw [cif_pos hC1, cif_pos hC2, hLR]; rw [cif_neg (by omega), cif_pos (by omega), cif_pos (fun j hj => hrw j (by omega))], fun _ => ⟨hC1, n0, hnc, by omega, by omega, h5_zu19, fun j hj => (by obtain ⟨x, h1, h2⟩ := hrw j (by omega); rw [hRO9, roC_eq h2 (by omega), ← h2]; exact (hry_zu19 j hj).trans (hcel j hj)), fun j hj => (by obtain ⟨x, h1, h2⟩ := hrw j (by omega); rw [hRO9, roC_eq h2 (by omega)]; exact h1)⟩, (CI.keep hI ((hfu_zu19 0 (by decide)).trans hff) ((hfu_zu192 13 (by decide) (by decide)).trans htr) (fun i hi9 => hfu_zu192 i (by omega) (by omega)) (fun i hi9 => hfa_zu19 i (by omega)))⟩) hK hP hD hS dX9_refuseRound_114
            · refine lv_aload_n hx hb dX9_refuseRound_72 rfl (lv_at hl 1 rfl) ?_
              refine va_get (D := D) (ci := 9) (v := .ref (r 1)) (C := RX9) (T := TX9) (N := 8) hx hb hts hinX9 hown hK hP 0 rfl rfl 0 (by decide) (hts (.fieldLink RX9 12 "OneNail" "town" "LOneNail$Street;") (by decide +kernel)) (fun _ h9 => h9) rfl dX9_refuseRound_73 ?_
              refine lv_aload hx hb dX9_refuseRound_76 (lv_at hl 2 rfl) ?_
              refine lv_iload hx hb dX9_refuseRound_78 (lv_at hl 3 rfl) ?_
              refine lv_iload hx hb dX9_refuseRound_80 (lv_at hl 0 rfl) ?_
              refine rn_iadd (x := i0) (y := q) hx hb dX9_refuseRound_82 ?_
              refine wVi (eO_S tO) (As := [.int (nI (i0 + q))]) (rest := [.ref (r 1)]) ⟨hx, hb, hml, hown, hts⟩ (kX4_read l D cA r _ (upd u 0 ff) a th LP tf tO k8 (ln k8) (i0 + q) hk9 (Eq.trans (up_ne (by omega)) ((hsk_k8.2.2.1.trans (congrArg nI (if_neg hs9))))) hlk_k8 (by omega)) (cwV 1 hts gX9_refuseRound_X4_read rfl rfl rfl (by decide +kernel) ⟨Nat.le_of_ble_eq_true rfl, Nat.le_of_ble_eq_true rfl⟩) (va_recv hK hP (ci := 4) (q0 := (6 + k8)) rfl (WN_o hk9)) hK hP hD hS hA hE rfl hl.1 rfl (Nat.le_of_ble_eq_true rfl) dX9_refuseRound_83 ⟨Nat.zero_le _, Nat.zero_le _⟩ (fun rv_22 z_24 H locs hw_23 hP hD hS => ?_)
              obtain ⟨rfl, rfl⟩ := hw_23
              have hP : va_P D vwCl (xN cA r ((upd u 0 ff), a, th, LP, tf)) H := hP
              have hD : va_D A (xN cA r ((upd u 0 ff), a, th, LP, tf)) := hD
              refine lv_topi (fun y_25 ey_25 => ?_)
              obtain rfl : y_25 = (ce k8 (i0 + q)) := ey_25.trans (hsk_k8.2.2.2.2 hs9 (i0 + q) (by omega))
              refine wVi (eO_S tO) (As := [.int (ce k8 (i0 + q))]) (rest := []) ⟨hx, hb, hml, hown, hts⟩ (kX5_has l D cA r _ (upd u 0 ff) a th LP tf tO g T (ce k8 (i0 + q)) (NT.keep (NT.keep hM rfl rfl rfl rfl rfl) rfl rfl rfl rfl rfl) hB) (cwV 1 hts gX9_refuseRound_X5_has rfl rfl rfl (by decide +kernel) ⟨Nat.le_of_ble_eq_true rfl, Nat.le_of_ble_eq_true rfl⟩) (va_recv hK hP (ci := 5) (q0 := 1) rfl rfl) hK hP hD hS hA hE rfl hl.1 rfl (Nat.le_of_ble_eq_true rfl) dX9_refuseRound_86 ⟨Nat.zero_le _, Nat.zero_le _⟩ (fun rv_26 z_28 H locs hw_27 hP hD hS => ?_)
              obtain ⟨hz_29, hw_27⟩ := hw_27
              subst hz_29
              have hP : va_P D vwCl (xN cA r ((upd u 0 ff), a, th, LP, tf)) H := hP
              have hD : va_D A (xN cA r ((upd u 0 ff), a, th, LP, tf)) := hD
              rcases hw_27 with ⟨rfl, b_30⟩ | ⟨rfl, b_30⟩
              · refine lv_if_ne (tgt := 94) hx hb dX9_refuseRound_89 (by decide) (fun _ => ?_) (fun c_31 => absurd c_31 (by decide))
                refine rn_iinc (x := q) (d := 1) (lv' := [(8, .int (nI (q + 1))), (0, .ref (r 0)), (7, .ref (r (6 + k8))), (4, .int (nI i0)), (5, .int (nI n0))]) hx hb rfl dX9_refuseRound_94 hl (k := 0) rfl (by decide) rfl (fun ls hl => ?_)
                refine lv_goto (tgt := 65) hx hb dX9_refuseRound_97 (by decide) ?_
                exact ih65 ((q + 1)) _ _ _ (show n0 - (q + 1) < n0 - q from by omega) ⟨(show (q + 1) ≤ n0 from by omega), (show ∀ j9, j9 < (q + 1) → ∃ x9, x9 < g 0 ∧ ce k8 (i0 + j9) = nI x9 from (lt_s (p := fun j => ∃ x, x < g 0 ∧ ce k8 (i0 + j) = nI x) hrw b_30)), hP, hD, hS, lv_sub hl [0, 1, 2, 3, 4] rfl⟩
              · refine lv_if_ne (tgt := 94) hx hb dX9_refuseRound_89 (by decide) (fun c_32 => absurd c_32 (by decide)) (fun _ => ?_)
                refine lv_iconst (v := (-1)) hx hb dX9_refuseRound_92 (by decide) ?_
                exact wIret hx hb hr hlocks (v := (-1)) ((upd u 0 ff), a, th, LP, tf) (⟨by rw [cif_pos hC1, cif_pos hC2, hLR]; rw [cif_neg (by omega), cif_pos (by omega), cif_neg (fun w => b_30 (w q (by omega)))], fun q => absurd q (by decide), (CI.keep hI hff htr (fun i hi9 => up_ne (by omega)) (fun i hi9 => rfl))⟩) hK hP hD hS dX9_refuseRound_93
          · refine lv_bipush (v := (-2)) hx hb dX9_refuseRound_59 (by decide) ?_
            exact wIret hx hb hr hlocks (v := (-2)) ((upd u 0 ff), a, th, LP, tf) (⟨by rw [cif_pos hC1, cif_pos hC2, hLR]; rw [cif_neg (by omega), cif_neg (by omega)], fun q => absurd q (by decide), (CI.keep hI hff htr (fun i hi9 => up_ne (by omega)) (fun i hi9 => rfl))⟩) hK hP hD hS dX9_refuseRound_61
      · refine lv_bipush (v := (-3)) hx hb dX9_refuseRound_43 (by decide) ?_
        exact wIret hx hb hr hlocks (v := (-3)) ((upd u 0 ff), a, th, LP, tf) (⟨by rw [cif_pos hC1, cif_pos hC2, hLR]; rw [cif_pos (by omega)], fun q => absurd q (by decide), (CI.keep hI hff htr (fun i hi9 => up_ne (by omega)) (fun i hi9 => rfl))⟩) hK hP hD hS dX9_refuseRound_45
  · refine lv_astoreN (lv' := [(7, .null), (6, .int rv_1), (0, .ref (r 0)), (1, .int sh), (2, .int b), (3, .int lane), (4, .int i), (5, .int n)]) hx hb dX9_refuseRound_18 hl (by decide) rfl (fun ls hl => ?_)
    refine lv_iload hx hb dX9_refuseRound_20 (lv_at hl 1 rfl) ?_
    refine lv_if_ne (tgt := 30) hx hb dX9_refuseRound_22 (by decide) (fun c_33 => ?_) (fun c_33 => ?_)
    · refine lv_iload hx hb dX9_refuseRound_30 (lv_at hl 1 rfl) ?_
      exact wIret hx hb hr hlocks (v := rv_1) ((upd u 0 ff), a, th, LP, tf) (⟨hrv.trans (rr_no (fun q => c_33 (hrv.trans q))), fun q => absurd q c_33, (CI.keep hI hff htr (fun i hi9 => up_ne (by omega)) (fun i hi9 => rfl))⟩) hK hP hD hS dX9_refuseRound_32
    · refine lv_aloadN hx hb dX9_refuseRound_25 (lv_at hl 0 rfl) ?_
      refine lv_ifnonnullN hx hb dX9_refuseRound_27 ?_
      refine lv_iload hx hb dX9_refuseRound_30 (lv_at hl 1 rfl) ?_
      exact wIret hx hb hr hlocks (v := rv_1) ((upd u 0 ff), a, th, LP, tf) (False.elim (absurd ((hrv.symm.trans c_33).symm.trans (cif_neg hxk10)) (by decide))) hK hP hD hS dX9_refuseRound_32

set_option maxHeartbeats 4000000 in
set_option maxRecDepth 100000 in
theorem kX9_harm (l : Launch) (D : va_G) (cA : Nat → ClassId) (r : Nat → Nat) (sz : Nat) (u : Nat → Int32) (a : Nat → Nat → Int32) (th : Nat → Option Nat) (LP : List Nat) (tf : Nat → va_E) (tO : Nat) (g : Nat → Nat) (T : Nat → Nat → Nat) (R : Nat → Nat → Nat) (so : Nat → Int32) (ln : Nat → Nat) (ce : Nat → Nat → Int32) (f tr : Int32) (sh lane i n t : Int32) (hI : CI u a th LP tf g T R so ln ce f tr) : Met l yX9_harm wsX9_harm ({ frames := 4, cells := 0, slots := 0, locals := 98 } : Room) (va_Pc [.ref (r 0), .int sh, .int lane, .int i, .int n, .int t] (wA D vwCl (tyA cA) (eO tO) (xN cA r) (u, a, th, LP, tf) sz)) (va_Qi (fun (v : Int32) (z : sN) => v = aRnd g so ln ce (inR sh 0 3) (inR lane 0 2 ∧ inR t 1 300) sh lane i n (nI (hv g T (RO ce sh i) n.toNatClampNeg (2 ^ g 0 - 1) t.toNatClampNeg)) ∧ CI z.1 z.2.1 z.2.2.1 z.2.2.2.1 z.2.2.2.2 g T R so ln ce (fRnd so ln (inR sh 0 3) (inR lane 0 2 ∧ inR t 1 300) sh lane i n) tr) (wB D vwCl (tyA cA) (xN cA r) (va_A (xN cA r (u, a, th, LP, tf)) sz)) (va_A (xN cA r (u, a, th, LP, tf)) sz)) 0 0 (va_A (xN cA r (u, a, th, LP, tf)) sz) := by
  refine Met.ofW (cc := cX9_harm) (maxL := 7) (ret := (some .int)) (by decide) rfl ?_
  intro p e s m args below meth c s₁ B hml hv
  obtain ⟨rfl, hsz, hP, hK, hD0, hE⟩ := hv
  have hx := B.exec
  have hb := B.bytes
  have hr := B.returns
  have hts := atoms_spec (ws := wsX9_harm) B.pre
  have hown : s.vm.findClass RX9 = some m.cls := findClass_of_methodNamed B.named
  have hlocks := B.notSynchronized
  subst hsz
  have hD := hD0.self (sz := s.heap.size)
  generalize hAe : va_A (xN cA r (u, a, th, LP, tf)) s.heap.size = A at hD hE ⊢
  have hA : ∀ q : Nat, s.heap.size ≤ q → A q := fun q h => by rw [← hAe]; exact Or.inr h
  have hS : va_S A s.heap s.heap [] := va_S.rf
  have hinX9 : ∀ w ∈ u_ws RX9 TX9 8, w ∈ wsX9_harm := by decide +kernel
  have hl := lv_entry ([.ref (r 0), .int sh, .int lane, .int i, .int n, .int t]) (n := 7) (Nat.le_of_ble_eq_true rfl)
  rw [lg_entry_eq]
  generalize (lg_sl ([.ref (r 0), .int sh, .int lane, .int i, .int n, .int t]) ++ List.replicate (7 - (lg_sl ([.ref (r 0), .int sh, .int lane, .int i, .int n, .int t])).length) Slot.unset).toArray = ls at hl ⊢
  have hl : lv_has ls 7 [(0, .ref (r 0)), (1, .int sh), (2, .int lane), (3, .int i), (4, .int n), (5, .int t)] := hl
  have hM := hI.1
  have hB := hI.2.1
  have hg6 := hB.1
  have hsm := hI.2.2.1
  have hrs := hI.2.2.2.1
  have hRd := hI.2.2.2.2.1
  have hSh := hI.2.2.2.2.2.1
  have hf0 := hI.2.2.2.2.2.2.1
  have htr := hI.2.2.2.2.2.2.2.1
  have hPo := hI.2.2.2.2.2.2.2.2
  refine lv_aload_n hx hb dX9_harm_0 rfl (lv_at hl 0 rfl) ?_
  refine lv_iload_n hx hb dX9_harm_1 rfl (lv_at hl 1 rfl) ?_
  refine lv_iload_n hx hb dX9_harm_2 rfl (lv_at hl 2 rfl) ?_
  refine wSi (As := [.int lane]) (rest := [.int sh, .ref (r 0)]) ⟨hx, hb, hml, hown, hts⟩ (kX9_isLane l lane) (va_cwS 1 hts gX9_harm_X9_isLane rfl rfl rfl (by decide +kernel) ⟨Nat.le_of_ble_eq_true rfl, Nat.le_of_ble_eq_true rfl⟩) rfl hl.1 rfl (Nat.le_of_ble_eq_true rfl) dX9_harm_3 ⟨Nat.zero_le _, Nat.zero_le _⟩ (fun rv_1 hw_2 => ?_)
  rcases hw_2 with ⟨rfl, b_3⟩ | ⟨rfl, b_3⟩
  · refine lv_if_eq (tgt := 21) hx hb dX9_harm_6 (by decide) (fun c_4 => absurd c_4 (by decide)) (fun _ => ?_)
    refine lv_iload hx hb dX9_harm_9 (lv_at hl 5 rfl) ?_
    refine wSi (As := [.int t]) (rest := [.int sh, .ref (r 0)]) ⟨hx, hb, hml, hown, hts⟩ (kX9_isSpan l t) (va_cwS 1 hts gX9_harm_X9_isSpan rfl rfl rfl (by decide +kernel) ⟨Nat.le_of_ble_eq_true rfl, Nat.le_of_ble_eq_true rfl⟩) rfl hl.1 rfl (Nat.le_of_ble_eq_true rfl) dX9_harm_11 ⟨Nat.zero_le _, Nat.zero_le _⟩ (fun rv_5 hw_6 => ?_)
    rcases hw_6 with ⟨rfl, b_7⟩ | ⟨rfl, b_7⟩
    · obtain ⟨t0, ht1, ht2, ht3, ht4⟩ := inR_of (show inR t 1 300 from b_7) (by decide) (by decide)
      refine lv_if_eq (tgt := 21) hx hb dX9_harm_14 (by decide) (fun c_8 => absurd c_8 (by decide)) (fun _ => ?_)
      refine lv_iconst (v := (nI 1)) hx hb dX9_harm_17 rfl ?_
      refine lv_goto (tgt := 22) hx hb dX9_harm_18 (by decide) ?_
      refine lv_iload_n hx hb dX9_harm_22 rfl (lv_at hl 2 rfl) ?_
      refine lv_iload_n hx hb dX9_harm_23 rfl (lv_at hl 3 rfl) ?_
      refine lv_iload hx hb dX9_harm_24 (lv_at hl 4 rfl) ?_
      refine wVi (eO_S tO) (As := [.int sh, .int (nI 1), .int lane, .int i, .int n]) (rest := []) ⟨hx, hb, hml, hown, hts⟩ (kX9_refuseRound l D cA r _ u a th LP tf tO g T R so ln ce f tr sh (nI 1) lane i n (inR lane 0 2 ∧ inR t 1 300) hI (Or.inl ⟨rfl, b_3, b_7⟩)) (cwV 5 hts gX9_harm_X9_refuseRound rfl rfl rfl (by decide +kernel) ⟨Nat.le_of_ble_eq_true rfl, Nat.le_of_ble_eq_true rfl⟩) (va_recv hK hP (ci := 9) (q0 := 0) rfl rfl) hK hP hD hS hA hE rfl hl.1 rfl (Nat.le_of_ble_eq_true rfl) dX9_harm_26 ⟨Nat.zero_le _, Nat.zero_le _⟩ (fun rv_9 z_11 H locs hw_10 hP hD hS => ?_)
      obtain ⟨zu12, za13, th14, LP15, tf16⟩ := z_11
      obtain ⟨hrv, hrow, hI⟩ := hw_10
      have hrv : rv_9 = cif (inR sh 0 3) (cif (inR lane 0 2 ∧ inR t 1 300) (LR g so ln ce sh lane i n) (-2)) (-1) := hrv
      have hrow : rv_9 = 0 → ROWN zu12 za13 g ce sh i n := hrow
      have hI : CI zu12 za13 th14 LP15 tf16 g T R so ln ce (fRnd so ln (inR sh 0 3) (inR lane 0 2 ∧ inR t 1 300) sh lane i n) tr := hI
      have hM := hI.1
      have hB := hI.2.1
      have hg6 := hB.1
      have hsm := hI.2.2.1
      have hrs := hI.2.2.2.1
      have hRd := hI.2.2.2.2.1
      have hSh := hI.2.2.2.2.2.1
      have hf0 := hI.2.2.2.2.2.2.1
      have htr := hI.2.2.2.2.2.2.2.1
      have hPo := hI.2.2.2.2.2.2.2.2
      have hP : va_P D vwCl (xN cA r (zu12, za13, th14, LP15, tf16)) H := hP
      have hD : va_D A (xN cA r (zu12, za13, th14, LP15, tf16)) := hD
      refine lv_istore (lv' := [(6, .int rv_9), (0, .ref (r 0)), (1, .int sh), (2, .int lane), (3, .int i), (4, .int n), (5, .int t)]) hx hb dX9_harm_29 hl (by decide) rfl (fun ls hl => ?_)
      refine lv_iload hx hb dX9_harm_31 (lv_at hl 0 rfl) ?_
      refine lv_if_eq (tgt := 39) hx hb dX9_harm_33 (by decide) (fun c_17 => ?_) (fun c_17 => ?_)
      · obtain ⟨hC1, L, hnc, hL0, hL8, hLw, hrw, hrg⟩ := hrow c_17
        have hyes := rnd_yes (v := nI 0) (hrv.symm.trans c_17)
        obtain ⟨ro, hroe⟩ : ∃ z, z = RO ce sh i := ⟨_, rfl⟩
        rw [← hroe] at hrw hrg
        have hC2 := rnd_C2 (hrv.symm.trans c_17)
        obtain ⟨t0, ht1, ht2, ht3, ht4⟩ := inR_of hC2.2 (by decide) (by decide)
        have hl : lv_has ls 7 [(6, .int rv_9), (0, .ref (r 0)), (1, .int sh), (2, .int lane), (3, .int i), (4, .int n), (5, .int (nI t0))] := lv_re hl 6 ⟨rfl, rfl⟩ (ht1)
        refine lv_aload_n hx hb dX9_harm_39 rfl (lv_at hl 1 rfl) ?_
        refine va_get (D := D) (ci := 9) (v := .ref (r 3)) (C := RX9) (T := TX9) (N := 8) hx hb hts hinX9 hown hK hP 0 rfl rfl 2 (by decide) (hts (.fieldLink RX9 30 "OneNail" "walk" "LOneNail$Walk;") (by decide +kernel)) (fun _ h9 => h9) rfl dX9_harm_40 ?_
        refine wVv (eO_S tO) (As := []) (rest := []) ⟨hx, hb, hml, hown, hts⟩ (kX8_markFalls l D cA r _ zu12 za13 th14 LP15 tf16 tO g T ro L hM hB (hsm) hL0 hL8 (hLw) (fun j hj => hrw (j) hj) hrg) (cwV 0 hts gX9_harm_X8_markFalls rfl rfl rfl (by decide +kernel) ⟨Nat.le_of_ble_eq_true rfl, Nat.le_of_ble_eq_true rfl⟩) (va_recv hK hP (ci := 8) (q0 := 3) rfl rfl) hK hP hD hS hA hE rfl hl.1 rfl (Nat.le_of_ble_eq_true rfl) dX9_harm_43 ⟨Nat.zero_le _, Nat.zero_le _⟩ (fun z_20 H locs hw_19 hP hD hS => ?_)
        obtain ⟨⟨fm, hfm, hfi⟩, hw_19⟩ := hw_19
        obtain ⟨zu21, za22, zq23⟩ := z_20
        obtain ⟨hfu_zu21, hfa_zu21, hzq_zu21⟩ := hw_19
        have hzq_zu21 : zq23 = (th14, LP15, tf16) := hzq_zu21
        subst hzq_zu21
        have hfu_zu21 : ∀ i, i ≠ 6 → i ≠ 7 → i ≠ 8 → i ≠ 9 → i ≠ 10 → zu21 i = zu12 i := hfu_zu21
        have hfa_zu21 : ∀ i, i ≠ 21 → i ≠ 22 → za22 i = za13 i := hfa_zu21
        have hP : va_P D vwCl (xN cA r (zu21, za22, th14, LP15, tf16)) H := hP
        have hD : va_D A (xN cA r (zu21, za22, th14, LP15, tf16)) := hD
        have hfm : ∀ q, q < 300 → za22 22 q = nI (fm q) := hfm
        have hf6 : ∀ q, q < 300 → fm q < 64 := fun q hq => (hfi q hq).1
        refine lv_aload_n hx hb dX9_harm_46 rfl (lv_at hl 1 rfl) ?_
        refine va_get (D := D) (ci := 9) (v := .ref (r 3)) (C := RX9) (T := TX9) (N := 8) hx hb hts hinX9 hown hK hP 0 rfl rfl 2 (by decide) (hts (.fieldLink RX9 30 "OneNail" "walk" "LOneNail$Walk;") (by decide +kernel)) (fun _ h9 => h9) rfl dX9_harm_47 ?_
        refine lv_iload hx hb dX9_harm_50 (lv_at hl 6 rfl) ?_
        refine wVi (eO_S tO) (As := [.int (nI t0)]) (rest := []) ⟨hx, hb, hml, hown, hts⟩ (kX8_harmBelow l D cA r _ zu21 za22 th14 LP15 tf16 tO g T fm t0 (NT.keep hM (hfu_zu21 1 (by decide) (by decide) (by decide) (by decide) (by decide)) (hfa_zu21 13 (by decide) (by decide)) (hfa_zu21 14 (by decide) (by decide)) (hfa_zu21 15 (by decide) (by decide)) (hfa_zu21 16 (by decide) (by decide))) hB hfm hf6 (by omega)) (cwV 1 hts gX9_harm_X8_harmBelow rfl rfl rfl (by decide +kernel) ⟨Nat.le_of_ble_eq_true rfl, Nat.le_of_ble_eq_true rfl⟩) (va_recv hK hP (ci := 8) (q0 := 3) rfl rfl) hK hP hD hS hA hE rfl hl.1 rfl (Nat.le_of_ble_eq_true rfl) dX9_harm_52 ⟨Nat.zero_le _, Nat.zero_le _⟩ (fun rv_24 z_26 H locs hw_25 hP hD hS => ?_)
        obtain ⟨rfl, rfl⟩ := hw_25
        have hP : va_P D vwCl (xN cA r (zu21, za22, th14, LP15, tf16)) H := hP
        have hD : va_D A (xN cA r (zu21, za22, th14, LP15, tf16)) := hD
        exact wIret hx hb hr hlocks (v := (nI (sm (hJ T fm (g 0)) t0))) (zu21, za22, th14, LP15, tf16) (⟨(congrArg nI ((harm_eq hB hL0 hrg hfi (by omega)).trans (by rw [hnc, ht4, hroe]))).trans (rnd_yes (hrv.symm.trans c_17)).symm, (CI.keep hI ((hfu_zu21 0 (by decide) (by decide) (by decide) (by decide) (by decide)).trans hf0) ((hfu_zu21 13 (by decide) (by decide) (by decide) (by decide) (by decide)).trans htr) (fun i hi9 => hfu_zu21 i (by omega) (by omega) (by omega) (by omega) (by omega)) (fun i hi9 => hfa_zu21 i (by omega) (by omega)))⟩) hK hP hD hS dX9_harm_55
      · refine lv_iload hx hb dX9_harm_36 (lv_at hl 0 rfl) ?_
        exact wIret hx hb hr hlocks (v := rv_9) (zu12, za13, th14, LP15, tf16) (⟨hrv.trans (rnd_no (fun q => c_17 (hrv.trans q))), hI⟩) hK hP hD hS dX9_harm_38
    · refine lv_if_eq (tgt := 21) hx hb dX9_harm_14 (by decide) (fun _ => ?_) (fun c_27 => absurd c_27 (by decide))
      refine lv_iconst (v := (nI 0)) hx hb dX9_harm_21 rfl ?_
      refine lv_iload_n hx hb dX9_harm_22 rfl (lv_at hl 2 rfl) ?_
      refine lv_iload_n hx hb dX9_harm_23 rfl (lv_at hl 3 rfl) ?_
      refine lv_iload hx hb dX9_harm_24 (lv_at hl 4 rfl) ?_
      refine wVi (eO_S tO) (As := [.int sh, .int (nI 0), .int lane, .int i, .int n]) (rest := []) ⟨hx, hb, hml, hown, hts⟩ (kX9_refuseRound l D cA r _ u a th LP tf tO g T R so ln ce f tr sh (nI 0) lane i n (inR lane 0 2 ∧ inR t 1 300) hI (Or.inr ⟨rfl, fun q => b_7 q.2⟩)) (cwV 5 hts gX9_harm_X9_refuseRound rfl rfl rfl (by decide +kernel) ⟨Nat.le_of_ble_eq_true rfl, Nat.le_of_ble_eq_true rfl⟩) (va_recv hK hP (ci := 9) (q0 := 0) rfl rfl) hK hP hD hS hA hE rfl hl.1 rfl (Nat.le_of_ble_eq_true rfl) dX9_harm_26 ⟨Nat.zero_le _, Nat.zero_le _⟩ (fun rv_28 z_30 H locs hw_29 hP hD hS => ?_)
      obtain ⟨zu31, za32, th33, LP34, tf35⟩ := z_30
      obtain ⟨hrv, hrow, hI⟩ := hw_29
      have hrv : rv_28 = cif (inR sh 0 3) (cif (inR lane 0 2 ∧ inR t 1 300) (LR g so ln ce sh lane i n) (-2)) (-1) := hrv
      have hrow : rv_28 = 0 → ROWN zu31 za32 g ce sh i n := hrow
      have hI : CI zu31 za32 th33 LP34 tf35 g T R so ln ce (fRnd so ln (inR sh 0 3) (inR lane 0 2 ∧ inR t 1 300) sh lane i n) tr := hI
      have hM := hI.1
      have hB := hI.2.1
      have hg6 := hB.1
      have hsm := hI.2.2.1
      have hrs := hI.2.2.2.1
      have hRd := hI.2.2.2.2.1
      have hSh := hI.2.2.2.2.2.1
      have hf0 := hI.2.2.2.2.2.2.1
      have htr := hI.2.2.2.2.2.2.2.1
      have hPo := hI.2.2.2.2.2.2.2.2
      have hP : va_P D vwCl (xN cA r (zu31, za32, th33, LP34, tf35)) H := hP
      have hD : va_D A (xN cA r (zu31, za32, th33, LP34, tf35)) := hD
      refine lv_istore (lv' := [(6, .int rv_28), (0, .ref (r 0)), (1, .int sh), (2, .int lane), (3, .int i), (4, .int n), (5, .int t)]) hx hb dX9_harm_29 hl (by decide) rfl (fun ls hl => ?_)
      refine lv_iload hx hb dX9_harm_31 (lv_at hl 0 rfl) ?_
      refine lv_if_eq (tgt := 39) hx hb dX9_harm_33 (by decide) (fun c_36 => ?_) (fun c_36 => ?_)
      · obtain ⟨hC1, L, hnc, hL0, hL8, hLw, hrw, hrg⟩ := hrow c_36
        have hyes := rnd_yes (v := nI 0) (hrv.symm.trans c_36)
        obtain ⟨ro, hroe⟩ : ∃ z, z = RO ce sh i := ⟨_, rfl⟩
        rw [← hroe] at hrw hrg
        have hC2 := rnd_C2 (hrv.symm.trans c_36)
        obtain ⟨t0, ht1, ht2, ht3, ht4⟩ := inR_of hC2.2 (by decide) (by decide)
        have hl : lv_has ls 7 [(6, .int rv_28), (0, .ref (r 0)), (1, .int sh), (2, .int lane), (3, .int i), (4, .int n), (5, .int (nI t0))] := lv_re hl 6 ⟨rfl, rfl⟩ (ht1)
        refine lv_aload_n hx hb dX9_harm_39 rfl (lv_at hl 1 rfl) ?_
        refine va_get (D := D) (ci := 9) (v := .ref (r 3)) (C := RX9) (T := TX9) (N := 8) hx hb hts hinX9 hown hK hP 0 rfl rfl 2 (by decide) (hts (.fieldLink RX9 30 "OneNail" "walk" "LOneNail$Walk;") (by decide +kernel)) (fun _ h9 => h9) rfl dX9_harm_40 ?_
        refine wVv (eO_S tO) (As := []) (rest := []) ⟨hx, hb, hml, hown, hts⟩ (kX8_markFalls l D cA r _ zu31 za32 th33 LP34 tf35 tO g T ro L hM hB (hsm) hL0 hL8 (hLw) (fun j hj => hrw (j) hj) hrg) (cwV 0 hts gX9_harm_X8_markFalls rfl rfl rfl (by decide +kernel) ⟨Nat.le_of_ble_eq_true rfl, Nat.le_of_ble_eq_true rfl⟩) (va_recv hK hP (ci := 8) (q0 := 3) rfl rfl) hK hP hD hS hA hE rfl hl.1 rfl (Nat.le_of_ble_eq_true rfl) dX9_harm_43 ⟨Nat.zero_le _, Nat.zero_le _⟩ (fun z_39 H locs hw_38 hP hD hS => ?_)
        obtain ⟨⟨fm, hfm, hfi⟩, hw_38⟩ := hw_38
        obtain ⟨zu40, za41, zq42⟩ := z_39
        obtain ⟨hfu_zu40, hfa_zu40, hzq_zu40⟩ := hw_38
        have hzq_zu40 : zq42 = (th33, LP34, tf35) := hzq_zu40
        subst hzq_zu40
        have hfu_zu40 : ∀ i, i ≠ 6 → i ≠ 7 → i ≠ 8 → i ≠ 9 → i ≠ 10 → zu40 i = zu31 i := hfu_zu40
        have hfa_zu40 : ∀ i, i ≠ 21 → i ≠ 22 → za41 i = za32 i := hfa_zu40
        have hP : va_P D vwCl (xN cA r (zu40, za41, th33, LP34, tf35)) H := hP
        have hD : va_D A (xN cA r (zu40, za41, th33, LP34, tf35)) := hD
        have hfm : ∀ q, q < 300 → za41 22 q = nI (fm q) := hfm
        have hf6 : ∀ q, q < 300 → fm q < 64 := fun q hq => (hfi q hq).1
        refine lv_aload_n hx hb dX9_harm_46 rfl (lv_at hl 1 rfl) ?_
        refine va_get (D := D) (ci := 9) (v := .ref (r 3)) (C := RX9) (T := TX9) (N := 8) hx hb hts hinX9 hown hK hP 0 rfl rfl 2 (by decide) (hts (.fieldLink RX9 30 "OneNail" "walk" "LOneNail$Walk;") (by decide +kernel)) (fun _ h9 => h9) rfl dX9_harm_47 ?_
        refine lv_iload hx hb dX9_harm_50 (lv_at hl 6 rfl) ?_
        refine wVi (eO_S tO) (As := [.int (nI t0)]) (rest := []) ⟨hx, hb, hml, hown, hts⟩ (kX8_harmBelow l D cA r _ zu40 za41 th33 LP34 tf35 tO g T fm t0 (NT.keep hM (hfu_zu40 1 (by decide) (by decide) (by decide) (by decide) (by decide)) (hfa_zu40 13 (by decide) (by decide)) (hfa_zu40 14 (by decide) (by decide)) (hfa_zu40 15 (by decide) (by decide)) (hfa_zu40 16 (by decide) (by decide))) hB hfm hf6 (by omega)) (cwV 1 hts gX9_harm_X8_harmBelow rfl rfl rfl (by decide +kernel) ⟨Nat.le_of_ble_eq_true rfl, Nat.le_of_ble_eq_true rfl⟩) (va_recv hK hP (ci := 8) (q0 := 3) rfl rfl) hK hP hD hS hA hE rfl hl.1 rfl (Nat.le_of_ble_eq_true rfl) dX9_harm_52 ⟨Nat.zero_le _, Nat.zero_le _⟩ (fun rv_43 z_45 H locs hw_44 hP hD hS => ?_)
        obtain ⟨rfl, rfl⟩ := hw_44
        have hP : va_P D vwCl (xN cA r (zu40, za41, th33, LP34, tf35)) H := hP
        have hD : va_D A (xN cA r (zu40, za41, th33, LP34, tf35)) := hD
        exact wIret hx hb hr hlocks (v := (nI (sm (hJ T fm (g 0)) t0))) (zu40, za41, th33, LP34, tf35) (⟨(congrArg nI ((harm_eq hB hL0 hrg hfi (by omega)).trans (by rw [hnc, ht4, hroe]))).trans (rnd_yes (hrv.symm.trans c_36)).symm, (CI.keep hI ((hfu_zu40 0 (by decide) (by decide) (by decide) (by decide) (by decide)).trans hf0) ((hfu_zu40 13 (by decide) (by decide) (by decide) (by decide) (by decide)).trans htr) (fun i hi9 => hfu_zu40 i (by omega) (by omega) (by omega) (by omega) (by omega)) (fun i hi9 => hfa_zu40 i (by omega) (by omega)))⟩) hK hP hD hS dX9_harm_55
      · refine lv_iload hx hb dX9_harm_36 (lv_at hl 0 rfl) ?_
        exact wIret hx hb hr hlocks (v := rv_28) (zu31, za32, th33, LP34, tf35) (⟨hrv.trans (rnd_no (fun q => c_36 (hrv.trans q))), hI⟩) hK hP hD hS dX9_harm_38
  · refine lv_if_eq (tgt := 21) hx hb dX9_harm_6 (by decide) (fun _ => ?_) (fun c_46 => absurd c_46 (by decide))
    refine lv_iconst (v := (nI 0)) hx hb dX9_harm_21 rfl ?_
    refine lv_iload_n hx hb dX9_harm_22 rfl (lv_at hl 2 rfl) ?_
    refine lv_iload_n hx hb dX9_harm_23 rfl (lv_at hl 3 rfl) ?_
    refine lv_iload hx hb dX9_harm_24 (lv_at hl 4 rfl) ?_
    refine wVi (eO_S tO) (As := [.int sh, .int (nI 0), .int lane, .int i, .int n]) (rest := []) ⟨hx, hb, hml, hown, hts⟩ (kX9_refuseRound l D cA r _ u a th LP tf tO g T R so ln ce f tr sh (nI 0) lane i n (inR lane 0 2 ∧ inR t 1 300) hI (Or.inr ⟨rfl, fun q => b_3 q.1⟩)) (cwV 5 hts gX9_harm_X9_refuseRound rfl rfl rfl (by decide +kernel) ⟨Nat.le_of_ble_eq_true rfl, Nat.le_of_ble_eq_true rfl⟩) (va_recv hK hP (ci := 9) (q0 := 0) rfl rfl) hK hP hD hS hA hE rfl hl.1 rfl (Nat.le_of_ble_eq_true rfl) dX9_harm_26 ⟨Nat.zero_le _, Nat.zero_le _⟩ (fun rv_47 z_49 H locs hw_48 hP hD hS => ?_)
    obtain ⟨zu50, za51, th52, LP53, tf54⟩ := z_49
    obtain ⟨hrv, hrow, hI⟩ := hw_48
    have hrv : rv_47 = cif (inR sh 0 3) (cif (inR lane 0 2 ∧ inR t 1 300) (LR g so ln ce sh lane i n) (-2)) (-1) := hrv
    have hrow : rv_47 = 0 → ROWN zu50 za51 g ce sh i n := hrow
    have hI : CI zu50 za51 th52 LP53 tf54 g T R so ln ce (fRnd so ln (inR sh 0 3) (inR lane 0 2 ∧ inR t 1 300) sh lane i n) tr := hI
    have hM := hI.1
    have hB := hI.2.1
    have hg6 := hB.1
    have hsm := hI.2.2.1
    have hrs := hI.2.2.2.1
    have hRd := hI.2.2.2.2.1
    have hSh := hI.2.2.2.2.2.1
    have hf0 := hI.2.2.2.2.2.2.1
    have htr := hI.2.2.2.2.2.2.2.1
    have hPo := hI.2.2.2.2.2.2.2.2
    have hP : va_P D vwCl (xN cA r (zu50, za51, th52, LP53, tf54)) H := hP
    have hD : va_D A (xN cA r (zu50, za51, th52, LP53, tf54)) := hD
    refine lv_istore (lv' := [(6, .int rv_47), (0, .ref (r 0)), (1, .int sh), (2, .int lane), (3, .int i), (4, .int n), (5, .int t)]) hx hb dX9_harm_29 hl (by decide) rfl (fun ls hl => ?_)
    refine lv_iload hx hb dX9_harm_31 (lv_at hl 0 rfl) ?_
    refine lv_if_eq (tgt := 39) hx hb dX9_harm_33 (by decide) (fun c_55 => ?_) (fun c_55 => ?_)
    · obtain ⟨hC1, L, hnc, hL0, hL8, hLw, hrw, hrg⟩ := hrow c_55
      have hyes := rnd_yes (v := nI 0) (hrv.symm.trans c_55)
      obtain ⟨ro, hroe⟩ : ∃ z, z = RO ce sh i := ⟨_, rfl⟩
      rw [← hroe] at hrw hrg
      have hC2 := rnd_C2 (hrv.symm.trans c_55)
      obtain ⟨t0, ht1, ht2, ht3, ht4⟩ := inR_of hC2.2 (by decide) (by decide)
      have hl : lv_has ls 7 [(6, .int rv_47), (0, .ref (r 0)), (1, .int sh), (2, .int lane), (3, .int i), (4, .int n), (5, .int (nI t0))] := lv_re hl 6 ⟨rfl, rfl⟩ (ht1)
      refine lv_aload_n hx hb dX9_harm_39 rfl (lv_at hl 1 rfl) ?_
      refine va_get (D := D) (ci := 9) (v := .ref (r 3)) (C := RX9) (T := TX9) (N := 8) hx hb hts hinX9 hown hK hP 0 rfl rfl 2 (by decide) (hts (.fieldLink RX9 30 "OneNail" "walk" "LOneNail$Walk;") (by decide +kernel)) (fun _ h9 => h9) rfl dX9_harm_40 ?_
      refine wVv (eO_S tO) (As := []) (rest := []) ⟨hx, hb, hml, hown, hts⟩ (kX8_markFalls l D cA r _ zu50 za51 th52 LP53 tf54 tO g T ro L hM hB (hsm) hL0 hL8 (hLw) (fun j hj => hrw (j) hj) hrg) (cwV 0 hts gX9_harm_X8_markFalls rfl rfl rfl (by decide +kernel) ⟨Nat.le_of_ble_eq_true rfl, Nat.le_of_ble_eq_true rfl⟩) (va_recv hK hP (ci := 8) (q0 := 3) rfl rfl) hK hP hD hS hA hE rfl hl.1 rfl (Nat.le_of_ble_eq_true rfl) dX9_harm_43 ⟨Nat.zero_le _, Nat.zero_le _⟩ (fun z_58 H locs hw_57 hP hD hS => ?_)
      obtain ⟨⟨fm, hfm, hfi⟩, hw_57⟩ := hw_57
      obtain ⟨zu59, za60, zq61⟩ := z_58
      obtain ⟨hfu_zu59, hfa_zu59, hzq_zu59⟩ := hw_57
      have hzq_zu59 : zq61 = (th52, LP53, tf54) := hzq_zu59
      subst hzq_zu59
      have hfu_zu59 : ∀ i, i ≠ 6 → i ≠ 7 → i ≠ 8 → i ≠ 9 → i ≠ 10 → zu59 i = zu50 i := hfu_zu59
      have hfa_zu59 : ∀ i, i ≠ 21 → i ≠ 22 → za60 i = za51 i := hfa_zu59
      have hP : va_P D vwCl (xN cA r (zu59, za60, th52, LP53, tf54)) H := hP
      have hD : va_D A (xN cA r (zu59, za60, th52, LP53, tf54)) := hD
      have hfm : ∀ q, q < 300 → za60 22 q = nI (fm q) := hfm
      have hf6 : ∀ q, q < 300 → fm q < 64 := fun q hq => (hfi q hq).1
      refine lv_aload_n hx hb dX9_harm_46 rfl (lv_at hl 1 rfl) ?_
      refine va_get (D := D) (ci := 9) (v := .ref (r 3)) (C := RX9) (T := TX9) (N := 8) hx hb hts hinX9 hown hK hP 0 rfl rfl 2 (by decide) (hts (.fieldLink RX9 30 "OneNail" "walk" "LOneNail$Walk;") (by decide +kernel)) (fun _ h9 => h9) rfl dX9_harm_47 ?_
      refine lv_iload hx hb dX9_harm_50 (lv_at hl 6 rfl) ?_
      refine wVi (eO_S tO) (As := [.int (nI t0)]) (rest := []) ⟨hx, hb, hml, hown, hts⟩ (kX8_harmBelow l D cA r _ zu59 za60 th52 LP53 tf54 tO g T fm t0 (NT.keep hM (hfu_zu59 1 (by decide) (by decide) (by decide) (by decide) (by decide)) (hfa_zu59 13 (by decide) (by decide)) (hfa_zu59 14 (by decide) (by decide)) (hfa_zu59 15 (by decide) (by decide)) (hfa_zu59 16 (by decide) (by decide))) hB hfm hf6 (by omega)) (cwV 1 hts gX9_harm_X8_harmBelow rfl rfl rfl (by decide +kernel) ⟨Nat.le_of_ble_eq_true rfl, Nat.le_of_ble_eq_true rfl⟩) (va_recv hK hP (ci := 8) (q0 := 3) rfl rfl) hK hP hD hS hA hE rfl hl.1 rfl (Nat.le_of_ble_eq_true rfl) dX9_harm_52 ⟨Nat.zero_le _, Nat.zero_le _⟩ (fun rv_62 z_64 H locs hw_63 hP hD hS => ?_)
      obtain ⟨rfl, rfl⟩ := hw_63
      have hP : va_P D vwCl (xN cA r (zu59, za60, th52, LP53, tf54)) H := hP
      have hD : va_D A (xN cA r (zu59, za60, th52, LP53, tf54)) := hD
      exact wIret hx hb hr hlocks (v := (nI (sm (hJ T fm (g 0)) t0))) (zu59, za60, th52, LP53, tf54) (⟨(congrArg nI ((harm_eq hB hL0 hrg hfi (by omega)).trans (by rw [hnc, ht4, hroe]))).trans (rnd_yes (hrv.symm.trans c_55)).symm, (CI.keep hI ((hfu_zu59 0 (by decide) (by decide) (by decide) (by decide) (by decide)).trans hf0) ((hfu_zu59 13 (by decide) (by decide) (by decide) (by decide) (by decide)).trans htr) (fun i hi9 => hfu_zu59 i (by omega) (by omega) (by omega) (by omega) (by omega)) (fun i hi9 => hfa_zu59 i (by omega) (by omega)))⟩) hK hP hD hS dX9_harm_55
    · refine lv_iload hx hb dX9_harm_36 (lv_at hl 0 rfl) ?_
      exact wIret hx hb hr hlocks (v := rv_47) (zu50, za51, th52, LP53, tf54) (⟨hrv.trans (rnd_no (fun q => c_55 (hrv.trans q))), hI⟩) hK hP hD hS dX9_harm_38

set_option maxHeartbeats 4000000 in
set_option maxRecDepth 100000 in
theorem kX9_never (l : Launch) (D : va_G) (cA : Nat → ClassId) (r : Nat → Nat) (sz : Nat) (u : Nat → Int32) (a : Nat → Nat → Int32) (th : Nat → Option Nat) (LP : List Nat) (tf : Nat → va_E) (tO : Nat) (g : Nat → Nat) (T : Nat → Nat → Nat) (R : Nat → Nat → Nat) (so : Nat → Int32) (ln : Nat → Nat) (ce : Nat → Nat → Int32) (f tr : Int32) (sh lane i n : Int32) (hI : CI u a th LP tf g T R so ln ce f tr) : Met l yX9_never wsX9_never ({ frames := 4, cells := 0, slots := 0, locals := 98 } : Room) (va_Pc [.ref (r 0), .int sh, .int lane, .int i, .int n] (wA D vwCl (tyA cA) (eO tO) (xN cA r) (u, a, th, LP, tf) sz)) (va_Qi (fun (v : Int32) (z : sN) => v = aRnd g so ln ce (inR sh 0 3) (inR lane 0 2) sh lane i n (cif (sf g T (RO ce sh i) n.toNatClampNeg (2 ^ g 0 - 1)) (nI 1) (nI 0)) ∧ CI z.1 z.2.1 z.2.2.1 z.2.2.2.1 z.2.2.2.2 g T R so ln ce (fRnd so ln (inR sh 0 3) (inR lane 0 2) sh lane i n) tr) (wB D vwCl (tyA cA) (xN cA r) (va_A (xN cA r (u, a, th, LP, tf)) sz)) (va_A (xN cA r (u, a, th, LP, tf)) sz)) 0 0 (va_A (xN cA r (u, a, th, LP, tf)) sz) := by
  refine Met.ofW (cc := cX9_never) (maxL := 6) (ret := (some .int)) (by decide) rfl ?_
  intro p e s m args below meth c s₁ B hml hv
  obtain ⟨rfl, hsz, hP, hK, hD0, hE⟩ := hv
  have hx := B.exec
  have hb := B.bytes
  have hr := B.returns
  have hts := atoms_spec (ws := wsX9_never) B.pre
  have hown : s.vm.findClass RX9 = some m.cls := findClass_of_methodNamed B.named
  have hlocks := B.notSynchronized
  subst hsz
  have hD := hD0.self (sz := s.heap.size)
  generalize hAe : va_A (xN cA r (u, a, th, LP, tf)) s.heap.size = A at hD hE ⊢
  have hA : ∀ q : Nat, s.heap.size ≤ q → A q := fun q h => by rw [← hAe]; exact Or.inr h
  have hS : va_S A s.heap s.heap [] := va_S.rf
  have hinX9 : ∀ w ∈ u_ws RX9 TX9 8, w ∈ wsX9_never := by decide +kernel
  have hl := lv_entry ([.ref (r 0), .int sh, .int lane, .int i, .int n]) (n := 6) (Nat.le_of_ble_eq_true rfl)
  rw [lg_entry_eq]
  generalize (lg_sl ([.ref (r 0), .int sh, .int lane, .int i, .int n]) ++ List.replicate (6 - (lg_sl ([.ref (r 0), .int sh, .int lane, .int i, .int n])).length) Slot.unset).toArray = ls at hl ⊢
  have hl : lv_has ls 6 [(0, .ref (r 0)), (1, .int sh), (2, .int lane), (3, .int i), (4, .int n)] := hl
  have hM := hI.1
  have hB := hI.2.1
  have hg6 := hB.1
  have hsm := hI.2.2.1
  have hrs := hI.2.2.2.1
  have hRd := hI.2.2.2.2.1
  have hSh := hI.2.2.2.2.2.1
  have hf0 := hI.2.2.2.2.2.2.1
  have htr := hI.2.2.2.2.2.2.2.1
  have hPo := hI.2.2.2.2.2.2.2.2
  refine lv_aload_n hx hb dX9_never_0 rfl (lv_at hl 0 rfl) ?_
  refine lv_iload_n hx hb dX9_never_1 rfl (lv_at hl 1 rfl) ?_
  refine lv_iload_n hx hb dX9_never_2 rfl (lv_at hl 2 rfl) ?_
  refine wSi (As := [.int lane]) (rest := [.int sh, .ref (r 0)]) ⟨hx, hb, hml, hown, hts⟩ (kX9_isLane l lane) (va_cwS 1 hts gX9_never_X9_isLane rfl rfl rfl (by decide +kernel) ⟨Nat.le_of_ble_eq_true rfl, Nat.le_of_ble_eq_true rfl⟩) rfl hl.1 rfl (Nat.le_of_ble_eq_true rfl) dX9_never_3 ⟨Nat.zero_le _, Nat.zero_le _⟩ (fun rv_1 hw_2 => ?_)
  rcases hw_2 with ⟨rfl, b_3⟩ | ⟨rfl, b_3⟩
  · refine lv_iload_n hx hb dX9_never_6 rfl (lv_at hl 2 rfl) ?_
    refine lv_iload_n hx hb dX9_never_7 rfl (lv_at hl 3 rfl) ?_
    refine lv_iload hx hb dX9_never_8 (lv_at hl 4 rfl) ?_
    refine wVi (eO_S tO) (As := [.int sh, .int (nI 1), .int lane, .int i, .int n]) (rest := []) ⟨hx, hb, hml, hown, hts⟩ (kX9_refuseRound l D cA r _ u a th LP tf tO g T R so ln ce f tr sh (nI 1) lane i n (inR lane 0 2) hI (Or.inl ⟨rfl, b_3⟩)) (cwV 5 hts gX9_never_X9_refuseRound rfl rfl rfl (by decide +kernel) ⟨Nat.le_of_ble_eq_true rfl, Nat.le_of_ble_eq_true rfl⟩) (va_recv hK hP (ci := 9) (q0 := 0) rfl rfl) hK hP hD hS hA hE rfl hl.1 rfl (Nat.le_of_ble_eq_true rfl) dX9_never_10 ⟨Nat.zero_le _, Nat.zero_le _⟩ (fun rv_4 z_6 H locs hw_5 hP hD hS => ?_)
    obtain ⟨zu7, za8, th9, LP10, tf11⟩ := z_6
    obtain ⟨hrv, hrow, hI⟩ := hw_5
    have hrv : rv_4 = cif (inR sh 0 3) (cif (inR lane 0 2) (LR g so ln ce sh lane i n) (-2)) (-1) := hrv
    have hrow : rv_4 = 0 → ROWN zu7 za8 g ce sh i n := hrow
    have hI : CI zu7 za8 th9 LP10 tf11 g T R so ln ce (fRnd so ln (inR sh 0 3) (inR lane 0 2) sh lane i n) tr := hI
    have hM := hI.1
    have hB := hI.2.1
    have hg6 := hB.1
    have hsm := hI.2.2.1
    have hrs := hI.2.2.2.1
    have hRd := hI.2.2.2.2.1
    have hSh := hI.2.2.2.2.2.1
    have hf0 := hI.2.2.2.2.2.2.1
    have htr := hI.2.2.2.2.2.2.2.1
    have hPo := hI.2.2.2.2.2.2.2.2
    have hP : va_P D vwCl (xN cA r (zu7, za8, th9, LP10, tf11)) H := hP
    have hD : va_D A (xN cA r (zu7, za8, th9, LP10, tf11)) := hD
    refine lv_istore (lv' := [(5, .int rv_4), (0, .ref (r 0)), (1, .int sh), (2, .int lane), (3, .int i), (4, .int n)]) hx hb dX9_never_13 hl (by decide) rfl (fun ls hl => ?_)
    refine lv_iload hx hb dX9_never_15 (lv_at hl 0 rfl) ?_
    refine lv_if_eq (tgt := 23) hx hb dX9_never_17 (by decide) (fun c_12 => ?_) (fun c_12 => ?_)
    · obtain ⟨hC1, L, hnc, hL0, hL8, hLw, hrw, hrg⟩ := hrow c_12
      have hyes := rnd_yes (v := nI 0) (hrv.symm.trans c_12)
      obtain ⟨ro, hroe⟩ : ∃ z, z = RO ce sh i := ⟨_, rfl⟩
      rw [← hroe] at hrw hrg
      refine lv_aload_n hx hb dX9_never_23 rfl (lv_at hl 1 rfl) ?_
      refine va_get (D := D) (ci := 9) (v := .ref (r 3)) (C := RX9) (T := TX9) (N := 8) hx hb hts hinX9 hown hK hP 0 rfl rfl 2 (by decide) (hts (.fieldLink RX9 30 "OneNail" "walk" "LOneNail$Walk;") (by decide +kernel)) (fun _ h9 => h9) rfl dX9_never_24 ?_
      refine wVi (eO_S tO) (As := []) (rest := []) ⟨hx, hb, hml, hown, hts⟩ (kX8_nothingEverFalls l D cA r _ zu7 za8 th9 LP10 tf11 tO g T ro L hM hB (hsm) hL0 hL8 (hLw) (fun j hj => hrw (j) hj) hrg) (cwV 0 hts gX9_never_X8_nothingEverFalls rfl rfl rfl (by decide +kernel) ⟨Nat.le_of_ble_eq_true rfl, Nat.le_of_ble_eq_true rfl⟩) (va_recv hK hP (ci := 8) (q0 := 3) rfl rfl) hK hP hD hS hA hE rfl hl.1 rfl (Nat.le_of_ble_eq_true rfl) dX9_never_27 ⟨Nat.zero_le _, Nat.zero_le _⟩ (fun rv_13 z_15 H locs hw_14 hP hD hS => ?_)
      obtain ⟨hsp_16, hw_14⟩ := hw_14
      obtain ⟨zu17, za18, zq19⟩ := z_15
      obtain ⟨hfu_zu17, hfa_zu17, hzq_zu17⟩ := hw_14
      have hzq_zu17 : zq19 = (th9, LP10, tf11) := hzq_zu17
      subst hzq_zu17
      have hfu_zu17 : ∀ i, i ≠ 6 → i ≠ 7 → i ≠ 8 → i ≠ 9 → i ≠ 10 → zu17 i = zu7 i := hfu_zu17
      have hfa_zu17 : ∀ i, i ≠ 21 → za18 i = za8 i := hfa_zu17
      have hP : va_P D vwCl (xN cA r (zu17, za18, th9, LP10, tf11)) H := hP
      have hD : va_D A (xN cA r (zu17, za18, th9, LP10, tf11)) := hD
      rcases hsp_16 with ⟨rfl, b_20⟩ | ⟨rfl, b_20⟩
      · refine lv_if_eq (tgt := 37) hx hb dX9_never_30 (by decide) (fun c_21 => absurd c_21 (by decide)) (fun _ => ?_)
        refine lv_iconst (v := (nI 1)) hx hb dX9_never_33 rfl ?_
        refine lv_goto (tgt := 38) hx hb dX9_never_34 (by decide) ?_
        exact wIret hx hb hr hlocks (v := (nI 1)) (zu17, za18, th9, LP10, tf11) (⟨((rnd_yes (hrv.symm.trans c_12)).trans (by rw [hnc, ← hroe, cif_pos ((nv2_sf hB hL0 hrg).mp b_20)])).symm, (CI.keep hI ((hfu_zu17 0 (by decide) (by decide) (by decide) (by decide) (by decide)).trans hf0) ((hfu_zu17 13 (by decide) (by decide) (by decide) (by decide) (by decide)).trans htr) (fun i hi9 => hfu_zu17 i (by omega) (by omega) (by omega) (by omega) (by omega)) (fun i hi9 => hfa_zu17 i (by omega)))⟩) hK hP hD hS dX9_never_38
      · refine lv_if_eq (tgt := 37) hx hb dX9_never_30 (by decide) (fun _ => ?_) (fun c_22 => absurd c_22 (by decide))
        refine lv_iconst (v := (nI 0)) hx hb dX9_never_37 rfl ?_
        exact wIret hx hb hr hlocks (v := (nI 0)) (zu17, za18, th9, LP10, tf11) (⟨((rnd_yes (hrv.symm.trans c_12)).trans (by rw [hnc, ← hroe, cif_neg (fun q => b_20 ((nv2_sf hB hL0 hrg).mpr q))])).symm, (CI.keep hI ((hfu_zu17 0 (by decide) (by decide) (by decide) (by decide) (by decide)).trans hf0) ((hfu_zu17 13 (by decide) (by decide) (by decide) (by decide) (by decide)).trans htr) (fun i hi9 => hfu_zu17 i (by omega) (by omega) (by omega) (by omega) (by omega)) (fun i hi9 => hfa_zu17 i (by omega)))⟩) hK hP hD hS dX9_never_38
    · refine lv_iload hx hb dX9_never_20 (lv_at hl 0 rfl) ?_
      exact wIret hx hb hr hlocks (v := rv_4) (zu7, za8, th9, LP10, tf11) (⟨hrv.trans (rnd_no (fun q => c_12 (hrv.trans q))), hI⟩) hK hP hD hS dX9_never_22
  · refine lv_iload_n hx hb dX9_never_6 rfl (lv_at hl 2 rfl) ?_
    refine lv_iload_n hx hb dX9_never_7 rfl (lv_at hl 3 rfl) ?_
    refine lv_iload hx hb dX9_never_8 (lv_at hl 4 rfl) ?_
    refine wVi (eO_S tO) (As := [.int sh, .int (nI 0), .int lane, .int i, .int n]) (rest := []) ⟨hx, hb, hml, hown, hts⟩ (kX9_refuseRound l D cA r _ u a th LP tf tO g T R so ln ce f tr sh (nI 0) lane i n (inR lane 0 2) hI (Or.inr ⟨rfl, b_3⟩)) (cwV 5 hts gX9_never_X9_refuseRound rfl rfl rfl (by decide +kernel) ⟨Nat.le_of_ble_eq_true rfl, Nat.le_of_ble_eq_true rfl⟩) (va_recv hK hP (ci := 9) (q0 := 0) rfl rfl) hK hP hD hS hA hE rfl hl.1 rfl (Nat.le_of_ble_eq_true rfl) dX9_never_10 ⟨Nat.zero_le _, Nat.zero_le _⟩ (fun rv_23 z_25 H locs hw_24 hP hD hS => ?_)
    obtain ⟨zu26, za27, th28, LP29, tf30⟩ := z_25
    obtain ⟨hrv, hrow, hI⟩ := hw_24
    have hrv : rv_23 = cif (inR sh 0 3) (cif (inR lane 0 2) (LR g so ln ce sh lane i n) (-2)) (-1) := hrv
    have hrow : rv_23 = 0 → ROWN zu26 za27 g ce sh i n := hrow
    have hI : CI zu26 za27 th28 LP29 tf30 g T R so ln ce (fRnd so ln (inR sh 0 3) (inR lane 0 2) sh lane i n) tr := hI
    have hM := hI.1
    have hB := hI.2.1
    have hg6 := hB.1
    have hsm := hI.2.2.1
    have hrs := hI.2.2.2.1
    have hRd := hI.2.2.2.2.1
    have hSh := hI.2.2.2.2.2.1
    have hf0 := hI.2.2.2.2.2.2.1
    have htr := hI.2.2.2.2.2.2.2.1
    have hPo := hI.2.2.2.2.2.2.2.2
    have hP : va_P D vwCl (xN cA r (zu26, za27, th28, LP29, tf30)) H := hP
    have hD : va_D A (xN cA r (zu26, za27, th28, LP29, tf30)) := hD
    refine lv_istore (lv' := [(5, .int rv_23), (0, .ref (r 0)), (1, .int sh), (2, .int lane), (3, .int i), (4, .int n)]) hx hb dX9_never_13 hl (by decide) rfl (fun ls hl => ?_)
    refine lv_iload hx hb dX9_never_15 (lv_at hl 0 rfl) ?_
    refine lv_if_eq (tgt := 23) hx hb dX9_never_17 (by decide) (fun c_31 => ?_) (fun c_31 => ?_)
    · obtain ⟨hC1, L, hnc, hL0, hL8, hLw, hrw, hrg⟩ := hrow c_31
      have hyes := rnd_yes (v := nI 0) (hrv.symm.trans c_31)
      obtain ⟨ro, hroe⟩ : ∃ z, z = RO ce sh i := ⟨_, rfl⟩
      rw [← hroe] at hrw hrg
      refine lv_aload_n hx hb dX9_never_23 rfl (lv_at hl 1 rfl) ?_
      refine va_get (D := D) (ci := 9) (v := .ref (r 3)) (C := RX9) (T := TX9) (N := 8) hx hb hts hinX9 hown hK hP 0 rfl rfl 2 (by decide) (hts (.fieldLink RX9 30 "OneNail" "walk" "LOneNail$Walk;") (by decide +kernel)) (fun _ h9 => h9) rfl dX9_never_24 ?_
      refine wVi (eO_S tO) (As := []) (rest := []) ⟨hx, hb, hml, hown, hts⟩ (kX8_nothingEverFalls l D cA r _ zu26 za27 th28 LP29 tf30 tO g T ro L hM hB (hsm) hL0 hL8 (hLw) (fun j hj => hrw (j) hj) hrg) (cwV 0 hts gX9_never_X8_nothingEverFalls rfl rfl rfl (by decide +kernel) ⟨Nat.le_of_ble_eq_true rfl, Nat.le_of_ble_eq_true rfl⟩) (va_recv hK hP (ci := 8) (q0 := 3) rfl rfl) hK hP hD hS hA hE rfl hl.1 rfl (Nat.le_of_ble_eq_true rfl) dX9_never_27 ⟨Nat.zero_le _, Nat.zero_le _⟩ (fun rv_32 z_34 H locs hw_33 hP hD hS => ?_)
      obtain ⟨hsp_35, hw_33⟩ := hw_33
      obtain ⟨zu36, za37, zq38⟩ := z_34
      obtain ⟨hfu_zu36, hfa_zu36, hzq_zu36⟩ := hw_33
      have hzq_zu36 : zq38 = (th28, LP29, tf30) := hzq_zu36
      subst hzq_zu36
      have hfu_zu36 : ∀ i, i ≠ 6 → i ≠ 7 → i ≠ 8 → i ≠ 9 → i ≠ 10 → zu36 i = zu26 i := hfu_zu36
      have hfa_zu36 : ∀ i, i ≠ 21 → za37 i = za27 i := hfa_zu36
      have hP : va_P D vwCl (xN cA r (zu36, za37, th28, LP29, tf30)) H := hP
      have hD : va_D A (xN cA r (zu36, za37, th28, LP29, tf30)) := hD
      rcases hsp_35 with ⟨rfl, b_39⟩ | ⟨rfl, b_39⟩
      · refine lv_if_eq (tgt := 37) hx hb dX9_never_30 (by decide) (fun c_40 => absurd c_40 (by decide)) (fun _ => ?_)
        refine lv_iconst (v := (nI 1)) hx hb dX9_never_33 rfl ?_
        refine lv_goto (tgt := 38) hx hb dX9_never_34 (by decide) ?_
        exact wIret hx hb hr hlocks (v := (nI 1)) (zu36, za37, th28, LP29, tf30) (⟨((rnd_yes (hrv.symm.trans c_31)).trans (by rw [hnc, ← hroe, cif_pos ((nv2_sf hB hL0 hrg).mp b_39)])).symm, (CI.keep hI ((hfu_zu36 0 (by decide) (by decide) (by decide) (by decide) (by decide)).trans hf0) ((hfu_zu36 13 (by decide) (by decide) (by decide) (by decide) (by decide)).trans htr) (fun i hi9 => hfu_zu36 i (by omega) (by omega) (by omega) (by omega) (by omega)) (fun i hi9 => hfa_zu36 i (by omega)))⟩) hK hP hD hS dX9_never_38
      · refine lv_if_eq (tgt := 37) hx hb dX9_never_30 (by decide) (fun _ => ?_) (fun c_41 => absurd c_41 (by decide))
        refine lv_iconst (v := (nI 0)) hx hb dX9_never_37 rfl ?_
        exact wIret hx hb hr hlocks (v := (nI 0)) (zu36, za37, th28, LP29, tf30) (⟨((rnd_yes (hrv.symm.trans c_31)).trans (by rw [hnc, ← hroe, cif_neg (fun q => b_39 ((nv2_sf hB hL0 hrg).mpr q))])).symm, (CI.keep hI ((hfu_zu36 0 (by decide) (by decide) (by decide) (by decide) (by decide)).trans hf0) ((hfu_zu36 13 (by decide) (by decide) (by decide) (by decide) (by decide)).trans htr) (fun i hi9 => hfu_zu36 i (by omega) (by omega) (by omega) (by omega) (by omega)) (fun i hi9 => hfa_zu36 i (by omega)))⟩) hK hP hD hS dX9_never_38
    · refine lv_iload hx hb dX9_never_20 (lv_at hl 0 rfl) ?_
      exact wIret hx hb hr hlocks (v := rv_23) (zu26, za27, th28, LP29, tf30) (⟨hrv.trans (rnd_no (fun q => c_31 (hrv.trans q))), hI⟩) hK hP hD hS dX9_never_22

set_option maxHeartbeats 4000000 in
set_option maxRecDepth 100000 in
theorem kX9_nail (l : Launch) (D : va_G) (cA : Nat → ClassId) (r : Nat → Nat) (sz : Nat) (u : Nat → Int32) (a : Nat → Nat → Int32) (th : Nat → Option Nat) (LP : List Nat) (tf : Nat → va_E) (tO : Nat) (g : Nat → Nat) (T : Nat → Nat → Nat) (R : Nat → Nat → Nat) (so : Nat → Int32) (ln : Nat → Nat) (ce : Nat → Nat → Int32) (f tr : Int32) (sh lane i n t : Int32) (hI : CI u a th LP tf g T R so ln ce f tr) : Met l yX9_nail wsX9_nail ({ frames := 4, cells := 0, slots := 0, locals := 98 } : Room) (va_Pc [.ref (r 0), .int sh, .int lane, .int i, .int n, .int t] (wA D vwCl (tyA cA) (eO tO) (xN cA r) (u, a, th, LP, tf) sz)) (va_Qi (fun (v : Int32) (z : sN) => v = aRnd g so ln ce (inR sh 0 3) (inR lane 0 2 ∧ inR t 0 299) sh lane i n (whV g T (RO ce sh i) n.toNatClampNeg t.toNatClampNeg) ∧ CI z.1 z.2.1 z.2.2.1 z.2.2.2.1 z.2.2.2.2 g T R so ln ce (fRnd so ln (inR sh 0 3) (inR lane 0 2 ∧ inR t 0 299) sh lane i n) tr) (wB D vwCl (tyA cA) (xN cA r) (va_A (xN cA r (u, a, th, LP, tf)) sz)) (va_A (xN cA r (u, a, th, LP, tf)) sz)) 0 0 (va_A (xN cA r (u, a, th, LP, tf)) sz) := by
  refine Met.ofW (cc := cX9_nail) (maxL := 7) (ret := (some .int)) (by decide) rfl ?_
  intro p e s m args below meth c s₁ B hml hv
  obtain ⟨rfl, hsz, hP, hK, hD0, hE⟩ := hv
  have hx := B.exec
  have hb := B.bytes
  have hr := B.returns
  have hts := atoms_spec (ws := wsX9_nail) B.pre
  have hown : s.vm.findClass RX9 = some m.cls := findClass_of_methodNamed B.named
  have hlocks := B.notSynchronized
  subst hsz
  have hD := hD0.self (sz := s.heap.size)
  generalize hAe : va_A (xN cA r (u, a, th, LP, tf)) s.heap.size = A at hD hE ⊢
  have hA : ∀ q : Nat, s.heap.size ≤ q → A q := fun q h => by rw [← hAe]; exact Or.inr h
  have hS : va_S A s.heap s.heap [] := va_S.rf
  have hinX9 : ∀ w ∈ u_ws RX9 TX9 8, w ∈ wsX9_nail := by decide +kernel
  have hl := lv_entry ([.ref (r 0), .int sh, .int lane, .int i, .int n, .int t]) (n := 7) (Nat.le_of_ble_eq_true rfl)
  rw [lg_entry_eq]
  generalize (lg_sl ([.ref (r 0), .int sh, .int lane, .int i, .int n, .int t]) ++ List.replicate (7 - (lg_sl ([.ref (r 0), .int sh, .int lane, .int i, .int n, .int t])).length) Slot.unset).toArray = ls at hl ⊢
  have hl : lv_has ls 7 [(0, .ref (r 0)), (1, .int sh), (2, .int lane), (3, .int i), (4, .int n), (5, .int t)] := hl
  have hM := hI.1
  have hB := hI.2.1
  have hg6 := hB.1
  have hsm := hI.2.2.1
  have hrs := hI.2.2.2.1
  have hRd := hI.2.2.2.2.1
  have hSh := hI.2.2.2.2.2.1
  have hf0 := hI.2.2.2.2.2.2.1
  have htr := hI.2.2.2.2.2.2.2.1
  have hPo := hI.2.2.2.2.2.2.2.2
  refine lv_aload_n hx hb dX9_nail_0 rfl (lv_at hl 0 rfl) ?_
  refine lv_iload_n hx hb dX9_nail_1 rfl (lv_at hl 1 rfl) ?_
  refine lv_iload_n hx hb dX9_nail_2 rfl (lv_at hl 2 rfl) ?_
  refine wSi (As := [.int lane]) (rest := [.int sh, .ref (r 0)]) ⟨hx, hb, hml, hown, hts⟩ (kX9_isLane l lane) (va_cwS 1 hts gX9_nail_X9_isLane rfl rfl rfl (by decide +kernel) ⟨Nat.le_of_ble_eq_true rfl, Nat.le_of_ble_eq_true rfl⟩) rfl hl.1 rfl (Nat.le_of_ble_eq_true rfl) dX9_nail_3 ⟨Nat.zero_le _, Nat.zero_le _⟩ (fun rv_1 hw_2 => ?_)
  rcases hw_2 with ⟨rfl, b_3⟩ | ⟨rfl, b_3⟩
  · refine lv_if_eq (tgt := 21) hx hb dX9_nail_6 (by decide) (fun c_4 => absurd c_4 (by decide)) (fun _ => ?_)
    refine lv_iload hx hb dX9_nail_9 (lv_at hl 5 rfl) ?_
    refine wSi (As := [.int t]) (rest := [.int sh, .ref (r 0)]) ⟨hx, hb, hml, hown, hts⟩ (kX9_isMinute l t) (va_cwS 1 hts gX9_nail_X9_isMinute rfl rfl rfl (by decide +kernel) ⟨Nat.le_of_ble_eq_true rfl, Nat.le_of_ble_eq_true rfl⟩) rfl hl.1 rfl (Nat.le_of_ble_eq_true rfl) dX9_nail_11 ⟨Nat.zero_le _, Nat.zero_le _⟩ (fun rv_5 hw_6 => ?_)
    rcases hw_6 with ⟨rfl, b_7⟩ | ⟨rfl, b_7⟩
    · obtain ⟨t0, ht1, ht2, ht3, ht4⟩ := inR_of (show inR t 0 299 from b_7) (by decide) (by decide)
      refine lv_if_eq (tgt := 21) hx hb dX9_nail_14 (by decide) (fun c_8 => absurd c_8 (by decide)) (fun _ => ?_)
      refine lv_iconst (v := (nI 1)) hx hb dX9_nail_17 rfl ?_
      refine lv_goto (tgt := 22) hx hb dX9_nail_18 (by decide) ?_
      refine lv_iload_n hx hb dX9_nail_22 rfl (lv_at hl 2 rfl) ?_
      refine lv_iload_n hx hb dX9_nail_23 rfl (lv_at hl 3 rfl) ?_
      refine lv_iload hx hb dX9_nail_24 (lv_at hl 4 rfl) ?_
      refine wVi (eO_S tO) (As := [.int sh, .int (nI 1), .int lane, .int i, .int n]) (rest := []) ⟨hx, hb, hml, hown, hts⟩ (kX9_refuseRound l D cA r _ u a th LP tf tO g T R so ln ce f tr sh (nI 1) lane i n (inR lane 0 2 ∧ inR t 0 299) hI (Or.inl ⟨rfl, b_3, b_7⟩)) (cwV 5 hts gX9_nail_X9_refuseRound rfl rfl rfl (by decide +kernel) ⟨Nat.le_of_ble_eq_true rfl, Nat.le_of_ble_eq_true rfl⟩) (va_recv hK hP (ci := 9) (q0 := 0) rfl rfl) hK hP hD hS hA hE rfl hl.1 rfl (Nat.le_of_ble_eq_true rfl) dX9_nail_26 ⟨Nat.zero_le _, Nat.zero_le _⟩ (fun rv_9 z_11 H locs hw_10 hP hD hS => ?_)
      obtain ⟨zu12, za13, th14, LP15, tf16⟩ := z_11
      obtain ⟨hrv, hrow, hI⟩ := hw_10
      have hrv : rv_9 = cif (inR sh 0 3) (cif (inR lane 0 2 ∧ inR t 0 299) (LR g so ln ce sh lane i n) (-2)) (-1) := hrv
      have hrow : rv_9 = 0 → ROWN zu12 za13 g ce sh i n := hrow
      have hI : CI zu12 za13 th14 LP15 tf16 g T R so ln ce (fRnd so ln (inR sh 0 3) (inR lane 0 2 ∧ inR t 0 299) sh lane i n) tr := hI
      have hM := hI.1
      have hB := hI.2.1
      have hg6 := hB.1
      have hsm := hI.2.2.1
      have hrs := hI.2.2.2.1
      have hRd := hI.2.2.2.2.1
      have hSh := hI.2.2.2.2.2.1
      have hf0 := hI.2.2.2.2.2.2.1
      have htr := hI.2.2.2.2.2.2.2.1
      have hPo := hI.2.2.2.2.2.2.2.2
      have hP : va_P D vwCl (xN cA r (zu12, za13, th14, LP15, tf16)) H := hP
      have hD : va_D A (xN cA r (zu12, za13, th14, LP15, tf16)) := hD
      refine lv_istore (lv' := [(6, .int rv_9), (0, .ref (r 0)), (1, .int sh), (2, .int lane), (3, .int i), (4, .int n), (5, .int t)]) hx hb dX9_nail_29 hl (by decide) rfl (fun ls hl => ?_)
      refine lv_iload hx hb dX9_nail_31 (lv_at hl 0 rfl) ?_
      refine lv_if_eq (tgt := 39) hx hb dX9_nail_33 (by decide) (fun c_17 => ?_) (fun c_17 => ?_)
      · obtain ⟨hC1, L, hnc, hL0, hL8, hLw, hrw, hrg⟩ := hrow c_17
        have hyes := rnd_yes (v := nI 0) (hrv.symm.trans c_17)
        obtain ⟨ro, hroe⟩ : ∃ z, z = RO ce sh i := ⟨_, rfl⟩
        rw [← hroe] at hrw hrg
        have hC2 := rnd_C2 (hrv.symm.trans c_17)
        obtain ⟨t0, ht1, ht2, ht3, ht4⟩ := inR_of hC2.2 (by decide) (by decide)
        have hl : lv_has ls 7 [(6, .int rv_9), (0, .ref (r 0)), (1, .int sh), (2, .int lane), (3, .int i), (4, .int n), (5, .int (nI t0))] := lv_re hl 6 ⟨rfl, rfl⟩ (ht1)
        refine lv_aload_n hx hb dX9_nail_39 rfl (lv_at hl 1 rfl) ?_
        refine va_get (D := D) (ci := 9) (v := .ref (r 3)) (C := RX9) (T := TX9) (N := 8) hx hb hts hinX9 hown hK hP 0 rfl rfl 2 (by decide) (hts (.fieldLink RX9 30 "OneNail" "walk" "LOneNail$Walk;") (by decide +kernel)) (fun _ h9 => h9) rfl dX9_nail_40 ?_
        refine lv_iload hx hb dX9_nail_43 (lv_at hl 6 rfl) ?_
        refine wVi (eO_S tO) (As := [.int (nI t0)]) (rest := []) ⟨hx, hb, hml, hown, hts⟩ (kX8_whereAt l D cA r _ zu12 za13 th14 LP15 tf16 tO g T ro L t0 hM hB (hsm) hL0 hL8 (hLw) (fun j hj => hrw (j) hj) hrg (by omega)) (cwV 1 hts gX9_nail_X8_whereAt rfl rfl rfl (by decide +kernel) ⟨Nat.le_of_ble_eq_true rfl, Nat.le_of_ble_eq_true rfl⟩) (va_recv hK hP (ci := 8) (q0 := 3) rfl rfl) hK hP hD hS hA hE rfl hl.1 rfl (Nat.le_of_ble_eq_true rfl) dX9_nail_45 ⟨Nat.zero_le _, Nat.zero_le _⟩ (fun rv_18 z_20 H locs hw_19 hP hD hS => ?_)
        obtain ⟨hwr, hw_19⟩ := hw_19
        obtain ⟨zu21, za22, zq23⟩ := z_20
        obtain ⟨hfu_zu21, hfa_zu21, hzq_zu21⟩ := hw_19
        have hzq_zu21 : zq23 = (th14, LP15, tf16) := hzq_zu21
        subst hzq_zu21
        have hfu_zu21 : ∀ i, i ≠ 6 → i ≠ 7 → i ≠ 8 → i ≠ 9 → i ≠ 10 → zu21 i = zu12 i := hfu_zu21
        have hfa_zu21 : ∀ i, i ≠ 21 → za22 i = za13 i := hfa_zu21
        have hP : va_P D vwCl (xN cA r (zu21, za22, th14, LP15, tf16)) H := hP
        have hD : va_D A (xN cA r (zu21, za22, th14, LP15, tf16)) := hD
        exact wIret hx hb hr hlocks (v := rv_18) (zu21, za22, th14, LP15, tf16) (⟨((whV_eq hB hL0 hrg hwr).trans (by rw [hnc, ht4, hroe])).trans (rnd_yes (hrv.symm.trans c_17)).symm, (CI.keep hI ((hfu_zu21 0 (by decide) (by decide) (by decide) (by decide) (by decide)).trans hf0) ((hfu_zu21 13 (by decide) (by decide) (by decide) (by decide) (by decide)).trans htr) (fun i hi9 => hfu_zu21 i (by omega) (by omega) (by omega) (by omega) (by omega)) (fun i hi9 => hfa_zu21 i (by omega)))⟩) hK hP hD hS dX9_nail_48
      · refine lv_iload hx hb dX9_nail_36 (lv_at hl 0 rfl) ?_
        exact wIret hx hb hr hlocks (v := rv_9) (zu12, za13, th14, LP15, tf16) (⟨hrv.trans (rnd_no (fun q => c_17 (hrv.trans q))), hI⟩) hK hP hD hS dX9_nail_38
    · refine lv_if_eq (tgt := 21) hx hb dX9_nail_14 (by decide) (fun _ => ?_) (fun c_24 => absurd c_24 (by decide))
      refine lv_iconst (v := (nI 0)) hx hb dX9_nail_21 rfl ?_
      refine lv_iload_n hx hb dX9_nail_22 rfl (lv_at hl 2 rfl) ?_
      refine lv_iload_n hx hb dX9_nail_23 rfl (lv_at hl 3 rfl) ?_
      refine lv_iload hx hb dX9_nail_24 (lv_at hl 4 rfl) ?_
      refine wVi (eO_S tO) (As := [.int sh, .int (nI 0), .int lane, .int i, .int n]) (rest := []) ⟨hx, hb, hml, hown, hts⟩ (kX9_refuseRound l D cA r _ u a th LP tf tO g T R so ln ce f tr sh (nI 0) lane i n (inR lane 0 2 ∧ inR t 0 299) hI (Or.inr ⟨rfl, fun q => b_7 q.2⟩)) (cwV 5 hts gX9_nail_X9_refuseRound rfl rfl rfl (by decide +kernel) ⟨Nat.le_of_ble_eq_true rfl, Nat.le_of_ble_eq_true rfl⟩) (va_recv hK hP (ci := 9) (q0 := 0) rfl rfl) hK hP hD hS hA hE rfl hl.1 rfl (Nat.le_of_ble_eq_true rfl) dX9_nail_26 ⟨Nat.zero_le _, Nat.zero_le _⟩ (fun rv_25 z_27 H locs hw_26 hP hD hS => ?_)
      obtain ⟨zu28, za29, th30, LP31, tf32⟩ := z_27
      obtain ⟨hrv, hrow, hI⟩ := hw_26
      have hrv : rv_25 = cif (inR sh 0 3) (cif (inR lane 0 2 ∧ inR t 0 299) (LR g so ln ce sh lane i n) (-2)) (-1) := hrv
      have hrow : rv_25 = 0 → ROWN zu28 za29 g ce sh i n := hrow
      have hI : CI zu28 za29 th30 LP31 tf32 g T R so ln ce (fRnd so ln (inR sh 0 3) (inR lane 0 2 ∧ inR t 0 299) sh lane i n) tr := hI
      have hM := hI.1
      have hB := hI.2.1
      have hg6 := hB.1
      have hsm := hI.2.2.1
      have hrs := hI.2.2.2.1
      have hRd := hI.2.2.2.2.1
      have hSh := hI.2.2.2.2.2.1
      have hf0 := hI.2.2.2.2.2.2.1
      have htr := hI.2.2.2.2.2.2.2.1
      have hPo := hI.2.2.2.2.2.2.2.2
      have hP : va_P D vwCl (xN cA r (zu28, za29, th30, LP31, tf32)) H := hP
      have hD : va_D A (xN cA r (zu28, za29, th30, LP31, tf32)) := hD
      refine lv_istore (lv' := [(6, .int rv_25), (0, .ref (r 0)), (1, .int sh), (2, .int lane), (3, .int i), (4, .int n), (5, .int t)]) hx hb dX9_nail_29 hl (by decide) rfl (fun ls hl => ?_)
      refine lv_iload hx hb dX9_nail_31 (lv_at hl 0 rfl) ?_
      refine lv_if_eq (tgt := 39) hx hb dX9_nail_33 (by decide) (fun c_33 => ?_) (fun c_33 => ?_)
      · obtain ⟨hC1, L, hnc, hL0, hL8, hLw, hrw, hrg⟩ := hrow c_33
        have hyes := rnd_yes (v := nI 0) (hrv.symm.trans c_33)
        obtain ⟨ro, hroe⟩ : ∃ z, z = RO ce sh i := ⟨_, rfl⟩
        rw [← hroe] at hrw hrg
        have hC2 := rnd_C2 (hrv.symm.trans c_33)
        obtain ⟨t0, ht1, ht2, ht3, ht4⟩ := inR_of hC2.2 (by decide) (by decide)
        have hl : lv_has ls 7 [(6, .int rv_25), (0, .ref (r 0)), (1, .int sh), (2, .int lane), (3, .int i), (4, .int n), (5, .int (nI t0))] := lv_re hl 6 ⟨rfl, rfl⟩ (ht1)
        refine lv_aload_n hx hb dX9_nail_39 rfl (lv_at hl 1 rfl) ?_
        refine va_get (D := D) (ci := 9) (v := .ref (r 3)) (C := RX9) (T := TX9) (N := 8) hx hb hts hinX9 hown hK hP 0 rfl rfl 2 (by decide) (hts (.fieldLink RX9 30 "OneNail" "walk" "LOneNail$Walk;") (by decide +kernel)) (fun _ h9 => h9) rfl dX9_nail_40 ?_
        refine lv_iload hx hb dX9_nail_43 (lv_at hl 6 rfl) ?_
        refine wVi (eO_S tO) (As := [.int (nI t0)]) (rest := []) ⟨hx, hb, hml, hown, hts⟩ (kX8_whereAt l D cA r _ zu28 za29 th30 LP31 tf32 tO g T ro L t0 hM hB (hsm) hL0 hL8 (hLw) (fun j hj => hrw (j) hj) hrg (by omega)) (cwV 1 hts gX9_nail_X8_whereAt rfl rfl rfl (by decide +kernel) ⟨Nat.le_of_ble_eq_true rfl, Nat.le_of_ble_eq_true rfl⟩) (va_recv hK hP (ci := 8) (q0 := 3) rfl rfl) hK hP hD hS hA hE rfl hl.1 rfl (Nat.le_of_ble_eq_true rfl) dX9_nail_45 ⟨Nat.zero_le _, Nat.zero_le _⟩ (fun rv_34 z_36 H locs hw_35 hP hD hS => ?_)
        obtain ⟨hwr, hw_35⟩ := hw_35
        obtain ⟨zu37, za38, zq39⟩ := z_36
        obtain ⟨hfu_zu37, hfa_zu37, hzq_zu37⟩ := hw_35
        have hzq_zu37 : zq39 = (th30, LP31, tf32) := hzq_zu37
        subst hzq_zu37
        have hfu_zu37 : ∀ i, i ≠ 6 → i ≠ 7 → i ≠ 8 → i ≠ 9 → i ≠ 10 → zu37 i = zu28 i := hfu_zu37
        have hfa_zu37 : ∀ i, i ≠ 21 → za38 i = za29 i := hfa_zu37
        have hP : va_P D vwCl (xN cA r (zu37, za38, th30, LP31, tf32)) H := hP
        have hD : va_D A (xN cA r (zu37, za38, th30, LP31, tf32)) := hD
        exact wIret hx hb hr hlocks (v := rv_34) (zu37, za38, th30, LP31, tf32) (⟨((whV_eq hB hL0 hrg hwr).trans (by rw [hnc, ht4, hroe])).trans (rnd_yes (hrv.symm.trans c_33)).symm, (CI.keep hI ((hfu_zu37 0 (by decide) (by decide) (by decide) (by decide) (by decide)).trans hf0) ((hfu_zu37 13 (by decide) (by decide) (by decide) (by decide) (by decide)).trans htr) (fun i hi9 => hfu_zu37 i (by omega) (by omega) (by omega) (by omega) (by omega)) (fun i hi9 => hfa_zu37 i (by omega)))⟩) hK hP hD hS dX9_nail_48
      · refine lv_iload hx hb dX9_nail_36 (lv_at hl 0 rfl) ?_
        exact wIret hx hb hr hlocks (v := rv_25) (zu28, za29, th30, LP31, tf32) (⟨hrv.trans (rnd_no (fun q => c_33 (hrv.trans q))), hI⟩) hK hP hD hS dX9_nail_38
  · refine lv_if_eq (tgt := 21) hx hb dX9_nail_6 (by decide) (fun _ => ?_) (fun c_40 => absurd c_40 (by decide))
    refine lv_iconst (v := (nI 0)) hx hb dX9_nail_21 rfl ?_
    refine lv_iload_n hx hb dX9_nail_22 rfl (lv_at hl 2 rfl) ?_
    refine lv_iload_n hx hb dX9_nail_23 rfl (lv_at hl 3 rfl) ?_
    refine lv_iload hx hb dX9_nail_24 (lv_at hl 4 rfl) ?_
    refine wVi (eO_S tO) (As := [.int sh, .int (nI 0), .int lane, .int i, .int n]) (rest := []) ⟨hx, hb, hml, hown, hts⟩ (kX9_refuseRound l D cA r _ u a th LP tf tO g T R so ln ce f tr sh (nI 0) lane i n (inR lane 0 2 ∧ inR t 0 299) hI (Or.inr ⟨rfl, fun q => b_3 q.1⟩)) (cwV 5 hts gX9_nail_X9_refuseRound rfl rfl rfl (by decide +kernel) ⟨Nat.le_of_ble_eq_true rfl, Nat.le_of_ble_eq_true rfl⟩) (va_recv hK hP (ci := 9) (q0 := 0) rfl rfl) hK hP hD hS hA hE rfl hl.1 rfl (Nat.le_of_ble_eq_true rfl) dX9_nail_26 ⟨Nat.zero_le _, Nat.zero_le _⟩ (fun rv_41 z_43 H locs hw_42 hP hD hS => ?_)
    obtain ⟨zu44, za45, th46, LP47, tf48⟩ := z_43
    obtain ⟨hrv, hrow, hI⟩ := hw_42
    have hrv : rv_41 = cif (inR sh 0 3) (cif (inR lane 0 2 ∧ inR t 0 299) (LR g so ln ce sh lane i n) (-2)) (-1) := hrv
    have hrow : rv_41 = 0 → ROWN zu44 za45 g ce sh i n := hrow
    have hI : CI zu44 za45 th46 LP47 tf48 g T R so ln ce (fRnd so ln (inR sh 0 3) (inR lane 0 2 ∧ inR t 0 299) sh lane i n) tr := hI
    have hM := hI.1
    have hB := hI.2.1
    have hg6 := hB.1
    have hsm := hI.2.2.1
    have hrs := hI.2.2.2.1
    have hRd := hI.2.2.2.2.1
    have hSh := hI.2.2.2.2.2.1
    have hf0 := hI.2.2.2.2.2.2.1
    have htr := hI.2.2.2.2.2.2.2.1
    have hPo := hI.2.2.2.2.2.2.2.2
    have hP : va_P D vwCl (xN cA r (zu44, za45, th46, LP47, tf48)) H := hP
    have hD : va_D A (xN cA r (zu44, za45, th46, LP47, tf48)) := hD
    refine lv_istore (lv' := [(6, .int rv_41), (0, .ref (r 0)), (1, .int sh), (2, .int lane), (3, .int i), (4, .int n), (5, .int t)]) hx hb dX9_nail_29 hl (by decide) rfl (fun ls hl => ?_)
    refine lv_iload hx hb dX9_nail_31 (lv_at hl 0 rfl) ?_
    refine lv_if_eq (tgt := 39) hx hb dX9_nail_33 (by decide) (fun c_49 => ?_) (fun c_49 => ?_)
    · obtain ⟨hC1, L, hnc, hL0, hL8, hLw, hrw, hrg⟩ := hrow c_49
      have hyes := rnd_yes (v := nI 0) (hrv.symm.trans c_49)
      obtain ⟨ro, hroe⟩ : ∃ z, z = RO ce sh i := ⟨_, rfl⟩
      rw [← hroe] at hrw hrg
      have hC2 := rnd_C2 (hrv.symm.trans c_49)
      obtain ⟨t0, ht1, ht2, ht3, ht4⟩ := inR_of hC2.2 (by decide) (by decide)
      have hl : lv_has ls 7 [(6, .int rv_41), (0, .ref (r 0)), (1, .int sh), (2, .int lane), (3, .int i), (4, .int n), (5, .int (nI t0))] := lv_re hl 6 ⟨rfl, rfl⟩ (ht1)
      refine lv_aload_n hx hb dX9_nail_39 rfl (lv_at hl 1 rfl) ?_
      refine va_get (D := D) (ci := 9) (v := .ref (r 3)) (C := RX9) (T := TX9) (N := 8) hx hb hts hinX9 hown hK hP 0 rfl rfl 2 (by decide) (hts (.fieldLink RX9 30 "OneNail" "walk" "LOneNail$Walk;") (by decide +kernel)) (fun _ h9 => h9) rfl dX9_nail_40 ?_
      refine lv_iload hx hb dX9_nail_43 (lv_at hl 6 rfl) ?_
      refine wVi (eO_S tO) (As := [.int (nI t0)]) (rest := []) ⟨hx, hb, hml, hown, hts⟩ (kX8_whereAt l D cA r _ zu44 za45 th46 LP47 tf48 tO g T ro L t0 hM hB (hsm) hL0 hL8 (hLw) (fun j hj => hrw (j) hj) hrg (by omega)) (cwV 1 hts gX9_nail_X8_whereAt rfl rfl rfl (by decide +kernel) ⟨Nat.le_of_ble_eq_true rfl, Nat.le_of_ble_eq_true rfl⟩) (va_recv hK hP (ci := 8) (q0 := 3) rfl rfl) hK hP hD hS hA hE rfl hl.1 rfl (Nat.le_of_ble_eq_true rfl) dX9_nail_45 ⟨Nat.zero_le _, Nat.zero_le _⟩ (fun rv_50 z_52 H locs hw_51 hP hD hS => ?_)
      obtain ⟨hwr, hw_51⟩ := hw_51
      obtain ⟨zu53, za54, zq55⟩ := z_52
      obtain ⟨hfu_zu53, hfa_zu53, hzq_zu53⟩ := hw_51
      have hzq_zu53 : zq55 = (th46, LP47, tf48) := hzq_zu53
      subst hzq_zu53
      have hfu_zu53 : ∀ i, i ≠ 6 → i ≠ 7 → i ≠ 8 → i ≠ 9 → i ≠ 10 → zu53 i = zu44 i := hfu_zu53
      have hfa_zu53 : ∀ i, i ≠ 21 → za54 i = za45 i := hfa_zu53
      have hP : va_P D vwCl (xN cA r (zu53, za54, th46, LP47, tf48)) H := hP
      have hD : va_D A (xN cA r (zu53, za54, th46, LP47, tf48)) := hD
      exact wIret hx hb hr hlocks (v := rv_50) (zu53, za54, th46, LP47, tf48) (⟨((whV_eq hB hL0 hrg hwr).trans (by rw [hnc, ht4, hroe])).trans (rnd_yes (hrv.symm.trans c_49)).symm, (CI.keep hI ((hfu_zu53 0 (by decide) (by decide) (by decide) (by decide) (by decide)).trans hf0) ((hfu_zu53 13 (by decide) (by decide) (by decide) (by decide) (by decide)).trans htr) (fun i hi9 => hfu_zu53 i (by omega) (by omega) (by omega) (by omega) (by omega)) (fun i hi9 => hfa_zu53 i (by omega)))⟩) hK hP hD hS dX9_nail_48
    · refine lv_iload hx hb dX9_nail_36 (lv_at hl 0 rfl) ?_
      exact wIret hx hb hr hlocks (v := rv_41) (zu44, za45, th46, LP47, tf48) (⟨hrv.trans (rnd_no (fun q => c_49 (hrv.trans q))), hI⟩) hK hP hD hS dX9_nail_38

set_option maxHeartbeats 4000000 in
set_option maxRecDepth 100000 in
theorem kX9_fall (l : Launch) (D : va_G) (cA : Nat → ClassId) (r : Nat → Nat) (sz : Nat) (u : Nat → Int32) (a : Nat → Nat → Int32) (th : Nat → Option Nat) (LP : List Nat) (tf : Nat → va_E) (tO : Nat) (g : Nat → Nat) (T : Nat → Nat → Nat) (R : Nat → Nat → Nat) (so : Nat → Int32) (ln : Nat → Nat) (ce : Nat → Nat → Int32) (f tr : Int32) (sh lane i n kk : Int32) (hI : CI u a th LP tf g T R so ln ce f tr) : Met l yX9_fall wsX9_fall ({ frames := 4, cells := 0, slots := 0, locals := 98 } : Room) (va_Pc [.ref (r 0), .int sh, .int lane, .int i, .int n, .int kk] (wA D vwCl (tyA cA) (eO tO) (xN cA r) (u, a, th, LP, tf) sz)) (va_Qi (fun (v : Int32) (z : sN) => v = aRnd g so ln ce (inR sh 0 3 ∧ (-1) ≤ kk) (inR lane 0 2) sh lane i n (cif (kk = -1) (nI (fc g T (RO ce sh i) n.toNatClampNeg)) (fnV (g 0) (fs g T (RO ce sh i) n.toNatClampNeg 300) kk.toNatClampNeg)) ∧ CI z.1 z.2.1 z.2.2.1 z.2.2.2.1 z.2.2.2.2 g T R so ln ce (fRnd so ln (inR sh 0 3 ∧ (-1) ≤ kk) (inR lane 0 2) sh lane i n) tr) (wB D vwCl (tyA cA) (xN cA r) (va_A (xN cA r (u, a, th, LP, tf)) sz)) (va_A (xN cA r (u, a, th, LP, tf)) sz)) 0 0 (va_A (xN cA r (u, a, th, LP, tf)) sz) := by
  refine Met.ofW (cc := cX9_fall) (maxL := 7) (ret := (some .int)) (by decide) rfl ?_
  intro p e s m args below meth c s₁ B hml hv
  obtain ⟨rfl, hsz, hP, hK, hD0, hE⟩ := hv
  have hx := B.exec
  have hb := B.bytes
  have hr := B.returns
  have hts := atoms_spec (ws := wsX9_fall) B.pre
  have hown : s.vm.findClass RX9 = some m.cls := findClass_of_methodNamed B.named
  have hlocks := B.notSynchronized
  subst hsz
  have hD := hD0.self (sz := s.heap.size)
  generalize hAe : va_A (xN cA r (u, a, th, LP, tf)) s.heap.size = A at hD hE ⊢
  have hA : ∀ q : Nat, s.heap.size ≤ q → A q := fun q h => by rw [← hAe]; exact Or.inr h
  have hS : va_S A s.heap s.heap [] := va_S.rf
  have hinX9 : ∀ w ∈ u_ws RX9 TX9 8, w ∈ wsX9_fall := by decide +kernel
  have hl := lv_entry ([.ref (r 0), .int sh, .int lane, .int i, .int n, .int kk]) (n := 7) (Nat.le_of_ble_eq_true rfl)
  rw [lg_entry_eq]
  generalize (lg_sl ([.ref (r 0), .int sh, .int lane, .int i, .int n, .int kk]) ++ List.replicate (7 - (lg_sl ([.ref (r 0), .int sh, .int lane, .int i, .int n, .int kk])).length) Slot.unset).toArray = ls at hl ⊢
  have hl : lv_has ls 7 [(0, .ref (r 0)), (1, .int sh), (2, .int lane), (3, .int i), (4, .int n), (5, .int kk)] := hl
  have hM := hI.1
  have hB := hI.2.1
  have hg6 := hB.1
  have hsm := hI.2.2.1
  have hrs := hI.2.2.2.1
  have hRd := hI.2.2.2.2.1
  have hSh := hI.2.2.2.2.2.1
  have hf0 := hI.2.2.2.2.2.2.1
  have htr := hI.2.2.2.2.2.2.2.1
  have hPo := hI.2.2.2.2.2.2.2.2
  refine lv_aload_n hx hb dX9_fall_0 rfl (lv_at hl 0 rfl) ?_
  refine lv_iload hx hb dX9_fall_1 (lv_at hl 5 rfl) ?_
  refine lv_iconst (v := (-1)) hx hb dX9_fall_3 (by decide) ?_
  refine lv_icmp_ge (tgt := 11) hx hb dX9_fall_4 (by decide) (fun c_1 => ?_) (fun c_1 => ?_)
  · have hk9 : (-1) ≤ kk := c_1
    refine lv_iload_n hx hb dX9_fall_11 rfl (lv_at hl 1 rfl) ?_
    refine lv_iload_n hx hb dX9_fall_12 rfl (lv_at hl 2 rfl) ?_
    refine wSi (As := [.int lane]) (rest := [.int sh, .ref (r 0)]) ⟨hx, hb, hml, hown, hts⟩ (kX9_isLane l lane) (va_cwS 1 hts gX9_fall_X9_isLane rfl rfl rfl (by decide +kernel) ⟨Nat.le_of_ble_eq_true rfl, Nat.le_of_ble_eq_true rfl⟩) rfl hl.1 rfl (Nat.le_of_ble_eq_true rfl) dX9_fall_13 ⟨Nat.zero_le _, Nat.zero_le _⟩ (fun rv_2 hw_3 => ?_)
    rcases hw_3 with ⟨rfl, b_4⟩ | ⟨rfl, b_4⟩
    · refine lv_iload_n hx hb dX9_fall_16 rfl (lv_at hl 2 rfl) ?_
      refine lv_iload_n hx hb dX9_fall_17 rfl (lv_at hl 3 rfl) ?_
      refine lv_iload hx hb dX9_fall_18 (lv_at hl 4 rfl) ?_
      refine wVi (eO_S tO) (As := [.int sh, .int (nI 1), .int lane, .int i, .int n]) (rest := []) ⟨hx, hb, hml, hown, hts⟩ (kX9_refuseRound l D cA r _ u a th LP tf tO g T R so ln ce f tr sh (nI 1) lane i n (inR lane 0 2) hI (Or.inl ⟨rfl, b_4⟩)) (cwV 5 hts gX9_fall_X9_refuseRound rfl rfl rfl (by decide +kernel) ⟨Nat.le_of_ble_eq_true rfl, Nat.le_of_ble_eq_true rfl⟩) (va_recv hK hP (ci := 9) (q0 := 0) rfl rfl) hK hP hD hS hA hE rfl hl.1 rfl (Nat.le_of_ble_eq_true rfl) dX9_fall_20 ⟨Nat.zero_le _, Nat.zero_le _⟩ (fun rv_5 z_7 H locs hw_6 hP hD hS => ?_)
      obtain ⟨zu8, za9, th10, LP11, tf12⟩ := z_7
      obtain ⟨hrv, hrow, hI⟩ := hw_6
      have hrv : rv_5 = cif (inR sh 0 3) (cif (inR lane 0 2) (LR g so ln ce sh lane i n) (-2)) (-1) := hrv
      have hrow : rv_5 = 0 → ROWN zu8 za9 g ce sh i n := hrow
      have hI : CI zu8 za9 th10 LP11 tf12 g T R so ln ce (fRnd so ln (inR sh 0 3) (inR lane 0 2) sh lane i n) tr := hI
      have hM := hI.1
      have hB := hI.2.1
      have hg6 := hB.1
      have hsm := hI.2.2.1
      have hrs := hI.2.2.2.1
      have hRd := hI.2.2.2.2.1
      have hSh := hI.2.2.2.2.2.1
      have hf0 := hI.2.2.2.2.2.2.1
      have htr := hI.2.2.2.2.2.2.2.1
      have hPo := hI.2.2.2.2.2.2.2.2
      have hP : va_P D vwCl (xN cA r (zu8, za9, th10, LP11, tf12)) H := hP
      have hD : va_D A (xN cA r (zu8, za9, th10, LP11, tf12)) := hD
      refine lv_istore (lv' := [(6, .int rv_5), (0, .ref (r 0)), (1, .int sh), (2, .int lane), (3, .int i), (4, .int n), (5, .int kk)]) hx hb dX9_fall_23 hl (by decide) rfl (fun ls hl => ?_)
      refine lv_iload hx hb dX9_fall_25 (lv_at hl 0 rfl) ?_
      refine lv_if_eq (tgt := 33) hx hb dX9_fall_27 (by decide) (fun c_13 => ?_) (fun c_13 => ?_)
      · obtain ⟨hC1, L, hnc, hL0, hL8, hLw, hrw, hrg⟩ := hrow c_13
        have hyes := rnd_yes (v := nI 0) (hrv.symm.trans c_13)
        obtain ⟨ro, hroe⟩ : ∃ z, z = RO ce sh i := ⟨_, rfl⟩
        rw [← hroe] at hrw hrg
        refine lv_aload_n hx hb dX9_fall_33 rfl (lv_at hl 1 rfl) ?_
        refine va_get (D := D) (ci := 9) (v := .ref (r 3)) (C := RX9) (T := TX9) (N := 8) hx hb hts hinX9 hown hK hP 0 rfl rfl 2 (by decide) (hts (.fieldLink RX9 30 "OneNail" "walk" "LOneNail$Walk;") (by decide +kernel)) (fun _ h9 => h9) rfl dX9_fall_34 ?_
        refine wVv (eO_S tO) (As := []) (rest := []) ⟨hx, hb, hml, hown, hts⟩ (kX8_markFalls l D cA r _ zu8 za9 th10 LP11 tf12 tO g T ro L hM hB (hsm) hL0 hL8 (hLw) (fun j hj => hrw (j) hj) hrg) (cwV 0 hts gX9_fall_X8_markFalls rfl rfl rfl (by decide +kernel) ⟨Nat.le_of_ble_eq_true rfl, Nat.le_of_ble_eq_true rfl⟩) (va_recv hK hP (ci := 8) (q0 := 3) rfl rfl) hK hP hD hS hA hE rfl hl.1 rfl (Nat.le_of_ble_eq_true rfl) dX9_fall_37 ⟨Nat.zero_le _, Nat.zero_le _⟩ (fun z_16 H locs hw_15 hP hD hS => ?_)
        obtain ⟨⟨fm, hfm, hfi⟩, hw_15⟩ := hw_15
        obtain ⟨zu17, za18, zq19⟩ := z_16
        obtain ⟨hfu_zu17, hfa_zu17, hzq_zu17⟩ := hw_15
        have hzq_zu17 : zq19 = (th10, LP11, tf12) := hzq_zu17
        subst hzq_zu17
        have hfu_zu17 : ∀ i, i ≠ 6 → i ≠ 7 → i ≠ 8 → i ≠ 9 → i ≠ 10 → zu17 i = zu8 i := hfu_zu17
        have hfa_zu17 : ∀ i, i ≠ 21 → i ≠ 22 → za18 i = za9 i := hfa_zu17
        have hP : va_P D vwCl (xN cA r (zu17, za18, th10, LP11, tf12)) H := hP
        have hD : va_D A (xN cA r (zu17, za18, th10, LP11, tf12)) := hD
        have hfm : ∀ q, q < 300 → za18 22 q = nI (fm q) := hfm
        have hf6 : ∀ q, q < 300 → fm q < 64 := fun q hq => (hfi q hq).1
        refine lv_iload hx hb dX9_fall_40 (lv_at hl 6 rfl) ?_
        refine lv_iconst (v := (-1)) hx hb dX9_fall_42 (by decide) ?_
        refine lv_icmp_ne (tgt := 56) hx hb dX9_fall_43 (by decide) (fun c_20 => ?_) (fun c_20 => ?_)
        · obtain ⟨k0, hk01, hk02⟩ := nI_of (m1_of hk9 c_20)
          have hk4c : kk.toNatClampNeg = k0 := by rw [hk02]; exact nI_clamp hk01
          have hl : lv_has ls 7 [(6, .int rv_5), (0, .ref (r 0)), (1, .int sh), (2, .int lane), (3, .int i), (4, .int n), (5, .int (nI k0))] := lv_re hl 6 ⟨rfl, rfl⟩ (hk02)
          refine lv_aload_n hx hb dX9_fall_56 rfl (lv_at hl 1 rfl) ?_
          refine va_get (D := D) (ci := 9) (v := .ref (r 3)) (C := RX9) (T := TX9) (N := 8) hx hb hts hinX9 hown hK hP 0 rfl rfl 2 (by decide) (hts (.fieldLink RX9 30 "OneNail" "walk" "LOneNail$Walk;") (by decide +kernel)) (fun _ h9 => h9) rfl dX9_fall_57 ?_
          refine lv_iload hx hb dX9_fall_60 (lv_at hl 6 rfl) ?_
          refine wVi (eO_S tO) (As := [.int (nI k0)]) (rest := []) ⟨hx, hb, hml, hown, hts⟩ (kX8_fallNumber l D cA r _ zu17 za18 th10 LP11 tf12 tO g T fm (fs g T ro L 300) k0 (NT.keep hM (hfu_zu17 1 (by decide) (by decide) (by decide) (by decide) (by decide)) (hfa_zu17 13 (by decide) (by decide)) (hfa_zu17 14 (by decide) (by decide)) (hfa_zu17 15 (by decide) (by decide)) (hfa_zu17 16 (by decide) (by decide))) hB hfm hfi hk01) (cwV 1 hts gX9_fall_X8_fallNumber rfl rfl rfl (by decide +kernel) ⟨Nat.le_of_ble_eq_true rfl, Nat.le_of_ble_eq_true rfl⟩) (va_recv hK hP (ci := 8) (q0 := 3) rfl rfl) hK hP hD hS hA hE rfl hl.1 rfl (Nat.le_of_ble_eq_true rfl) dX9_fall_62 ⟨Nat.zero_le _, Nat.zero_le _⟩ (fun rv_21 z_23 H locs hw_22 hP hD hS => ?_)
          obtain ⟨hfn, rfl⟩ := hw_22
          have hP : va_P D vwCl (xN cA r (zu17, za18, th10, LP11, tf12)) H := hP
          have hD : va_D A (xN cA r (zu17, za18, th10, LP11, tf12)) := hD
          exact wIret hx hb hr hlocks (v := rv_21) (zu17, za18, th10, LP11, tf12) (⟨((fnV_eq hfn).trans (by rw [hnc, hroe, cif_neg c_20, hk4c])).trans (fall_v hk9 (hrv.symm.trans c_13)).symm, fall_g hk9 ▸ (CI.keep hI ((hfu_zu17 0 (by decide) (by decide) (by decide) (by decide) (by decide)).trans hf0) ((hfu_zu17 13 (by decide) (by decide) (by decide) (by decide) (by decide)).trans htr) (fun i hi9 => hfu_zu17 i (by omega) (by omega) (by omega) (by omega) (by omega)) (fun i hi9 => hfa_zu17 i (by omega) (by omega)))⟩) hK hP hD hS dX9_fall_65
        · refine lv_aload_n hx hb dX9_fall_46 rfl (lv_at hl 1 rfl) ?_
          refine va_get (D := D) (ci := 9) (v := .ref (r 3)) (C := RX9) (T := TX9) (N := 8) hx hb hts hinX9 hown hK hP 0 rfl rfl 2 (by decide) (hts (.fieldLink RX9 30 "OneNail" "walk" "LOneNail$Walk;") (by decide +kernel)) (fun _ h9 => h9) rfl dX9_fall_47 ?_
          refine wVi (eO_S tO) (As := []) (rest := []) ⟨hx, hb, hml, hown, hts⟩ (kX8_countFalls l D cA r _ zu17 za18 th10 LP11 tf12 tO fm hfm hf6) (cwV 0 hts gX9_fall_X8_countFalls rfl rfl rfl (by decide +kernel) ⟨Nat.le_of_ble_eq_true rfl, Nat.le_of_ble_eq_true rfl⟩) (va_recv hK hP (ci := 8) (q0 := 3) rfl rfl) hK hP hD hS hA hE rfl hl.1 rfl (Nat.le_of_ble_eq_true rfl) dX9_fall_50 ⟨Nat.zero_le _, Nat.zero_le _⟩ (fun rv_24 z_26 H locs hw_25 hP hD hS => ?_)
          obtain ⟨rfl, rfl⟩ := hw_25
          have hP : va_P D vwCl (xN cA r (zu17, za18, th10, LP11, tf12)) H := hP
          have hD : va_D A (xN cA r (zu17, za18, th10, LP11, tf12)) := hD
          refine lv_goto (tgt := 65) hx hb dX9_fall_53 (by decide) ?_
          exact wIret hx hb hr hlocks (v := (nI (sm (fun q => sb (fm q) 6) 300))) (zu17, za18, th10, LP11, tf12) (⟨(congrArg nI (fc_eq hB hL0 hrg hfi) |>.trans (by rw [hnc, hroe, cif_pos c_20])).trans (fall_v hk9 (hrv.symm.trans c_13)).symm, fall_g hk9 ▸ (CI.keep hI ((hfu_zu17 0 (by decide) (by decide) (by decide) (by decide) (by decide)).trans hf0) ((hfu_zu17 13 (by decide) (by decide) (by decide) (by decide) (by decide)).trans htr) (fun i hi9 => hfu_zu17 i (by omega) (by omega) (by omega) (by omega) (by omega)) (fun i hi9 => hfa_zu17 i (by omega) (by omega)))⟩) hK hP hD hS dX9_fall_65
      · refine lv_iload hx hb dX9_fall_30 (lv_at hl 0 rfl) ?_
        exact wIret hx hb hr hlocks (v := rv_5) (zu8, za9, th10, LP11, tf12) (⟨hrv.trans (fall_yes hk9 (fun q => c_13 (hrv.trans q))), (fall_g hk9 ▸ hI)⟩) hK hP hD hS dX9_fall_32
    · refine lv_iload_n hx hb dX9_fall_16 rfl (lv_at hl 2 rfl) ?_
      refine lv_iload_n hx hb dX9_fall_17 rfl (lv_at hl 3 rfl) ?_
      refine lv_iload hx hb dX9_fall_18 (lv_at hl 4 rfl) ?_
      refine wVi (eO_S tO) (As := [.int sh, .int (nI 0), .int lane, .int i, .int n]) (rest := []) ⟨hx, hb, hml, hown, hts⟩ (kX9_refuseRound l D cA r _ u a th LP tf tO g T R so ln ce f tr sh (nI 0) lane i n (inR lane 0 2) hI (Or.inr ⟨rfl, b_4⟩)) (cwV 5 hts gX9_fall_X9_refuseRound rfl rfl rfl (by decide +kernel) ⟨Nat.le_of_ble_eq_true rfl, Nat.le_of_ble_eq_true rfl⟩) (va_recv hK hP (ci := 9) (q0 := 0) rfl rfl) hK hP hD hS hA hE rfl hl.1 rfl (Nat.le_of_ble_eq_true rfl) dX9_fall_20 ⟨Nat.zero_le _, Nat.zero_le _⟩ (fun rv_27 z_29 H locs hw_28 hP hD hS => ?_)
      obtain ⟨zu30, za31, th32, LP33, tf34⟩ := z_29
      obtain ⟨hrv, hrow, hI⟩ := hw_28
      have hrv : rv_27 = cif (inR sh 0 3) (cif (inR lane 0 2) (LR g so ln ce sh lane i n) (-2)) (-1) := hrv
      have hrow : rv_27 = 0 → ROWN zu30 za31 g ce sh i n := hrow
      have hI : CI zu30 za31 th32 LP33 tf34 g T R so ln ce (fRnd so ln (inR sh 0 3) (inR lane 0 2) sh lane i n) tr := hI
      have hM := hI.1
      have hB := hI.2.1
      have hg6 := hB.1
      have hsm := hI.2.2.1
      have hrs := hI.2.2.2.1
      have hRd := hI.2.2.2.2.1
      have hSh := hI.2.2.2.2.2.1
      have hf0 := hI.2.2.2.2.2.2.1
      have htr := hI.2.2.2.2.2.2.2.1
      have hPo := hI.2.2.2.2.2.2.2.2
      have hP : va_P D vwCl (xN cA r (zu30, za31, th32, LP33, tf34)) H := hP
      have hD : va_D A (xN cA r (zu30, za31, th32, LP33, tf34)) := hD
      refine lv_istore (lv' := [(6, .int rv_27), (0, .ref (r 0)), (1, .int sh), (2, .int lane), (3, .int i), (4, .int n), (5, .int kk)]) hx hb dX9_fall_23 hl (by decide) rfl (fun ls hl => ?_)
      refine lv_iload hx hb dX9_fall_25 (lv_at hl 0 rfl) ?_
      refine lv_if_eq (tgt := 33) hx hb dX9_fall_27 (by decide) (fun c_35 => ?_) (fun c_35 => ?_)
      · obtain ⟨hC1, L, hnc, hL0, hL8, hLw, hrw, hrg⟩ := hrow c_35
        have hyes := rnd_yes (v := nI 0) (hrv.symm.trans c_35)
        obtain ⟨ro, hroe⟩ : ∃ z, z = RO ce sh i := ⟨_, rfl⟩
        rw [← hroe] at hrw hrg
        refine lv_aload_n hx hb dX9_fall_33 rfl (lv_at hl 1 rfl) ?_
        refine va_get (D := D) (ci := 9) (v := .ref (r 3)) (C := RX9) (T := TX9) (N := 8) hx hb hts hinX9 hown hK hP 0 rfl rfl 2 (by decide) (hts (.fieldLink RX9 30 "OneNail" "walk" "LOneNail$Walk;") (by decide +kernel)) (fun _ h9 => h9) rfl dX9_fall_34 ?_
        refine wVv (eO_S tO) (As := []) (rest := []) ⟨hx, hb, hml, hown, hts⟩ (kX8_markFalls l D cA r _ zu30 za31 th32 LP33 tf34 tO g T ro L hM hB (hsm) hL0 hL8 (hLw) (fun j hj => hrw (j) hj) hrg) (cwV 0 hts gX9_fall_X8_markFalls rfl rfl rfl (by decide +kernel) ⟨Nat.le_of_ble_eq_true rfl, Nat.le_of_ble_eq_true rfl⟩) (va_recv hK hP (ci := 8) (q0 := 3) rfl rfl) hK hP hD hS hA hE rfl hl.1 rfl (Nat.le_of_ble_eq_true rfl) dX9_fall_37 ⟨Nat.zero_le _, Nat.zero_le _⟩ (fun z_38 H locs hw_37 hP hD hS => ?_)
        obtain ⟨⟨fm, hfm, hfi⟩, hw_37⟩ := hw_37
        obtain ⟨zu39, za40, zq41⟩ := z_38
        obtain ⟨hfu_zu39, hfa_zu39, hzq_zu39⟩ := hw_37
        have hzq_zu39 : zq41 = (th32, LP33, tf34) := hzq_zu39
        subst hzq_zu39
        have hfu_zu39 : ∀ i, i ≠ 6 → i ≠ 7 → i ≠ 8 → i ≠ 9 → i ≠ 10 → zu39 i = zu30 i := hfu_zu39
        have hfa_zu39 : ∀ i, i ≠ 21 → i ≠ 22 → za40 i = za31 i := hfa_zu39
        have hP : va_P D vwCl (xN cA r (zu39, za40, th32, LP33, tf34)) H := hP
        have hD : va_D A (xN cA r (zu39, za40, th32, LP33, tf34)) := hD
        have hfm : ∀ q, q < 300 → za40 22 q = nI (fm q) := hfm
        have hf6 : ∀ q, q < 300 → fm q < 64 := fun q hq => (hfi q hq).1
        refine lv_iload hx hb dX9_fall_40 (lv_at hl 6 rfl) ?_
        refine lv_iconst (v := (-1)) hx hb dX9_fall_42 (by decide) ?_
        refine lv_icmp_ne (tgt := 56) hx hb dX9_fall_43 (by decide) (fun c_42 => ?_) (fun c_42 => ?_)
        · obtain ⟨k0, hk01, hk02⟩ := nI_of (m1_of hk9 c_42)
          have hk4c : kk.toNatClampNeg = k0 := by rw [hk02]; exact nI_clamp hk01
          have hl : lv_has ls 7 [(6, .int rv_27), (0, .ref (r 0)), (1, .int sh), (2, .int lane), (3, .int i), (4, .int n), (5, .int (nI k0))] := lv_re hl 6 ⟨rfl, rfl⟩ (hk02)
          refine lv_aload_n hx hb dX9_fall_56 rfl (lv_at hl 1 rfl) ?_
          refine va_get (D := D) (ci := 9) (v := .ref (r 3)) (C := RX9) (T := TX9) (N := 8) hx hb hts hinX9 hown hK hP 0 rfl rfl 2 (by decide) (hts (.fieldLink RX9 30 "OneNail" "walk" "LOneNail$Walk;") (by decide +kernel)) (fun _ h9 => h9) rfl dX9_fall_57 ?_
          refine lv_iload hx hb dX9_fall_60 (lv_at hl 6 rfl) ?_
          refine wVi (eO_S tO) (As := [.int (nI k0)]) (rest := []) ⟨hx, hb, hml, hown, hts⟩ (kX8_fallNumber l D cA r _ zu39 za40 th32 LP33 tf34 tO g T fm (fs g T ro L 300) k0 (NT.keep hM (hfu_zu39 1 (by decide) (by decide) (by decide) (by decide) (by decide)) (hfa_zu39 13 (by decide) (by decide)) (hfa_zu39 14 (by decide) (by decide)) (hfa_zu39 15 (by decide) (by decide)) (hfa_zu39 16 (by decide) (by decide))) hB hfm hfi hk01) (cwV 1 hts gX9_fall_X8_fallNumber rfl rfl rfl (by decide +kernel) ⟨Nat.le_of_ble_eq_true rfl, Nat.le_of_ble_eq_true rfl⟩) (va_recv hK hP (ci := 8) (q0 := 3) rfl rfl) hK hP hD hS hA hE rfl hl.1 rfl (Nat.le_of_ble_eq_true rfl) dX9_fall_62 ⟨Nat.zero_le _, Nat.zero_le _⟩ (fun rv_43 z_45 H locs hw_44 hP hD hS => ?_)
          obtain ⟨hfn, rfl⟩ := hw_44
          have hP : va_P D vwCl (xN cA r (zu39, za40, th32, LP33, tf34)) H := hP
          have hD : va_D A (xN cA r (zu39, za40, th32, LP33, tf34)) := hD
          exact wIret hx hb hr hlocks (v := rv_43) (zu39, za40, th32, LP33, tf34) (⟨((fnV_eq hfn).trans (by rw [hnc, hroe, cif_neg c_42, hk4c])).trans (fall_v hk9 (hrv.symm.trans c_35)).symm, fall_g hk9 ▸ (CI.keep hI ((hfu_zu39 0 (by decide) (by decide) (by decide) (by decide) (by decide)).trans hf0) ((hfu_zu39 13 (by decide) (by decide) (by decide) (by decide) (by decide)).trans htr) (fun i hi9 => hfu_zu39 i (by omega) (by omega) (by omega) (by omega) (by omega)) (fun i hi9 => hfa_zu39 i (by omega) (by omega)))⟩) hK hP hD hS dX9_fall_65
        · refine lv_aload_n hx hb dX9_fall_46 rfl (lv_at hl 1 rfl) ?_
          refine va_get (D := D) (ci := 9) (v := .ref (r 3)) (C := RX9) (T := TX9) (N := 8) hx hb hts hinX9 hown hK hP 0 rfl rfl 2 (by decide) (hts (.fieldLink RX9 30 "OneNail" "walk" "LOneNail$Walk;") (by decide +kernel)) (fun _ h9 => h9) rfl dX9_fall_47 ?_
          refine wVi (eO_S tO) (As := []) (rest := []) ⟨hx, hb, hml, hown, hts⟩ (kX8_countFalls l D cA r _ zu39 za40 th32 LP33 tf34 tO fm hfm hf6) (cwV 0 hts gX9_fall_X8_countFalls rfl rfl rfl (by decide +kernel) ⟨Nat.le_of_ble_eq_true rfl, Nat.le_of_ble_eq_true rfl⟩) (va_recv hK hP (ci := 8) (q0 := 3) rfl rfl) hK hP hD hS hA hE rfl hl.1 rfl (Nat.le_of_ble_eq_true rfl) dX9_fall_50 ⟨Nat.zero_le _, Nat.zero_le _⟩ (fun rv_46 z_48 H locs hw_47 hP hD hS => ?_)
          obtain ⟨rfl, rfl⟩ := hw_47
          have hP : va_P D vwCl (xN cA r (zu39, za40, th32, LP33, tf34)) H := hP
          have hD : va_D A (xN cA r (zu39, za40, th32, LP33, tf34)) := hD
          refine lv_goto (tgt := 65) hx hb dX9_fall_53 (by decide) ?_
          exact wIret hx hb hr hlocks (v := (nI (sm (fun q => sb (fm q) 6) 300))) (zu39, za40, th32, LP33, tf34) (⟨(congrArg nI (fc_eq hB hL0 hrg hfi) |>.trans (by rw [hnc, hroe, cif_pos c_42])).trans (fall_v hk9 (hrv.symm.trans c_35)).symm, fall_g hk9 ▸ (CI.keep hI ((hfu_zu39 0 (by decide) (by decide) (by decide) (by decide) (by decide)).trans hf0) ((hfu_zu39 13 (by decide) (by decide) (by decide) (by decide) (by decide)).trans htr) (fun i hi9 => hfu_zu39 i (by omega) (by omega) (by omega) (by omega) (by omega)) (fun i hi9 => hfa_zu39 i (by omega) (by omega)))⟩) hK hP hD hS dX9_fall_65
      · refine lv_iload hx hb dX9_fall_30 (lv_at hl 0 rfl) ?_
        exact wIret hx hb hr hlocks (v := rv_27) (zu30, za31, th32, LP33, tf34) (⟨hrv.trans (fall_yes hk9 (fun q => c_35 (hrv.trans q))), (fall_g hk9 ▸ hI)⟩) hK hP hD hS dX9_fall_32
  · refine lv_iconst (v := (-1)) hx hb dX9_fall_7 (by decide) ?_
    refine lv_goto (tgt := 12) hx hb dX9_fall_8 (by decide) ?_
    refine lv_iload_n hx hb dX9_fall_12 rfl (lv_at hl 2 rfl) ?_
    refine wSi (As := [.int lane]) (rest := [.int (-1), .ref (r 0)]) ⟨hx, hb, hml, hown, hts⟩ (kX9_isLane l lane) (va_cwS 1 hts gX9_fall_X9_isLane rfl rfl rfl (by decide +kernel) ⟨Nat.le_of_ble_eq_true rfl, Nat.le_of_ble_eq_true rfl⟩) rfl hl.1 rfl (Nat.le_of_ble_eq_true rfl) dX9_fall_13 ⟨Nat.zero_le _, Nat.zero_le _⟩ (fun rv_49 hw_50 => ?_)
    rcases hw_50 with ⟨rfl, b_51⟩ | ⟨rfl, b_51⟩
    · refine lv_iload_n hx hb dX9_fall_16 rfl (lv_at hl 2 rfl) ?_
      refine lv_iload_n hx hb dX9_fall_17 rfl (lv_at hl 3 rfl) ?_
      refine lv_iload hx hb dX9_fall_18 (lv_at hl 4 rfl) ?_
      refine wVi (eO_S tO) (As := [.int (-1), .int (nI 1), .int lane, .int i, .int n]) (rest := []) ⟨hx, hb, hml, hown, hts⟩ (kX9_refuseRound l D cA r _ u a th LP tf tO g T R so ln ce f tr (-1) (nI 1) lane i n (inR lane 0 2) hI (Or.inl ⟨rfl, b_51⟩)) (cwV 5 hts gX9_fall_X9_refuseRound rfl rfl rfl (by decide +kernel) ⟨Nat.le_of_ble_eq_true rfl, Nat.le_of_ble_eq_true rfl⟩) (va_recv hK hP (ci := 9) (q0 := 0) rfl rfl) hK hP hD hS hA hE rfl hl.1 rfl (Nat.le_of_ble_eq_true rfl) dX9_fall_20 ⟨Nat.zero_le _, Nat.zero_le _⟩ (fun rv_52 z_54 H locs hw_53 hP hD hS => ?_)
      obtain ⟨zu55, za56, th57, LP58, tf59⟩ := z_54
      obtain ⟨hrv, hrow, hI⟩ := hw_53
      have hrv : rv_52 = cif (inR (-1) 0 3) (cif (inR lane 0 2) (LR g so ln ce (-1) lane i n) (-2)) (-1) := hrv
      have hrow : rv_52 = 0 → ROWN zu55 za56 g ce (-1) i n := hrow
      have hI : CI zu55 za56 th57 LP58 tf59 g T R so ln ce (fRnd so ln (inR (-1) 0 3) (inR lane 0 2) (-1) lane i n) tr := hI
      have hM := hI.1
      have hB := hI.2.1
      have hg6 := hB.1
      have hsm := hI.2.2.1
      have hrs := hI.2.2.2.1
      have hRd := hI.2.2.2.2.1
      have hSh := hI.2.2.2.2.2.1
      have hf0 := hI.2.2.2.2.2.2.1
      have htr := hI.2.2.2.2.2.2.2.1
      have hPo := hI.2.2.2.2.2.2.2.2
      have hP : va_P D vwCl (xN cA r (zu55, za56, th57, LP58, tf59)) H := hP
      have hD : va_D A (xN cA r (zu55, za56, th57, LP58, tf59)) := hD
      refine lv_istore (lv' := [(6, .int rv_52), (0, .ref (r 0)), (1, .int sh), (2, .int lane), (3, .int i), (4, .int n), (5, .int kk)]) hx hb dX9_fall_23 hl (by decide) rfl (fun ls hl => ?_)
      refine lv_iload hx hb dX9_fall_25 (lv_at hl 0 rfl) ?_
      have hm1 : rv_52 = (-1) := hrv.trans (cif_neg m1_out)
      refine lv_if_eq (tgt := 33) hx hb dX9_fall_27 (by decide) (fun c_60 => absurd c_60 (by rw [hm1]; decide)) (fun c_60 => ?_)
      refine lv_iload hx hb dX9_fall_30 (lv_at hl 0 rfl) ?_
      exact wIret hx hb hr hlocks (v := rv_52) (zu55, za56, th57, LP58, tf59) (⟨hrv.trans (fall_no (fun q => c_1 q)), (by rw [fall_f (fun q => c_1 q)] at hI; exact hI)⟩) hK hP hD hS dX9_fall_32
    · refine lv_iload_n hx hb dX9_fall_16 rfl (lv_at hl 2 rfl) ?_
      refine lv_iload_n hx hb dX9_fall_17 rfl (lv_at hl 3 rfl) ?_
      refine lv_iload hx hb dX9_fall_18 (lv_at hl 4 rfl) ?_
      refine wVi (eO_S tO) (As := [.int (-1), .int (nI 0), .int lane, .int i, .int n]) (rest := []) ⟨hx, hb, hml, hown, hts⟩ (kX9_refuseRound l D cA r _ u a th LP tf tO g T R so ln ce f tr (-1) (nI 0) lane i n (inR lane 0 2) hI (Or.inr ⟨rfl, b_51⟩)) (cwV 5 hts gX9_fall_X9_refuseRound rfl rfl rfl (by decide +kernel) ⟨Nat.le_of_ble_eq_true rfl, Nat.le_of_ble_eq_true rfl⟩) (va_recv hK hP (ci := 9) (q0 := 0) rfl rfl) hK hP hD hS hA hE rfl hl.1 rfl (Nat.le_of_ble_eq_true rfl) dX9_fall_20 ⟨Nat.zero_le _, Nat.zero_le _⟩ (fun rv_61 z_63 H locs hw_62 hP hD hS => ?_)
      obtain ⟨zu64, za65, th66, LP67, tf68⟩ := z_63
      obtain ⟨hrv, hrow, hI⟩ := hw_62
      have hrv : rv_61 = cif (inR (-1) 0 3) (cif (inR lane 0 2) (LR g so ln ce (-1) lane i n) (-2)) (-1) := hrv
      have hrow : rv_61 = 0 → ROWN zu64 za65 g ce (-1) i n := hrow
      have hI : CI zu64 za65 th66 LP67 tf68 g T R so ln ce (fRnd so ln (inR (-1) 0 3) (inR lane 0 2) (-1) lane i n) tr := hI
      have hM := hI.1
      have hB := hI.2.1
      have hg6 := hB.1
      have hsm := hI.2.2.1
      have hrs := hI.2.2.2.1
      have hRd := hI.2.2.2.2.1
      have hSh := hI.2.2.2.2.2.1
      have hf0 := hI.2.2.2.2.2.2.1
      have htr := hI.2.2.2.2.2.2.2.1
      have hPo := hI.2.2.2.2.2.2.2.2
      have hP : va_P D vwCl (xN cA r (zu64, za65, th66, LP67, tf68)) H := hP
      have hD : va_D A (xN cA r (zu64, za65, th66, LP67, tf68)) := hD
      refine lv_istore (lv' := [(6, .int rv_61), (0, .ref (r 0)), (1, .int sh), (2, .int lane), (3, .int i), (4, .int n), (5, .int kk)]) hx hb dX9_fall_23 hl (by decide) rfl (fun ls hl => ?_)
      refine lv_iload hx hb dX9_fall_25 (lv_at hl 0 rfl) ?_
      have hm1 : rv_61 = (-1) := hrv.trans (cif_neg m1_out)
      refine lv_if_eq (tgt := 33) hx hb dX9_fall_27 (by decide) (fun c_69 => absurd c_69 (by rw [hm1]; decide)) (fun c_69 => ?_)
      refine lv_iload hx hb dX9_fall_30 (lv_at hl 0 rfl) ?_
      exact wIret hx hb hr hlocks (v := rv_61) (zu64, za65, th66, LP67, tf68) (⟨hrv.trans (fall_no (fun q => c_1 q)), (by rw [fall_f (fun q => c_1 q)] at hI; exact hI)⟩) hK hP hD hS dX9_fall_32
