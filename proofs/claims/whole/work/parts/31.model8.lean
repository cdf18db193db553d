theorem ag_n0 (so ln sort i n : Int32) (h : ¬ ag so ln sort i n = 0) : ¬ (-10) - ag so ln sort i n = nI 0 := by
  unfold ag at h ⊢
  repeat' split
  all_goals first | decide | (simp_all; done)
set_option maxHeartbeats 4000000 in
set_option maxRecDepth 100000 in
theorem kX10_size (l : Launch) (S : Nat) (hS64 : S < 64) : Met l yX10_size wsX10_size ({ frames := 0, cells := 0, slots := 0, locals := 0 } : Room) (va_Pc [.int (nI S)] (fun _ => True)) (vp_Si (fun v => v = nI (sb S 6))) 0 0 (fun _ => False) := by
  refine Met.ofW (cc := cX10_size) (maxL := 3) (ret := (some .int)) (by decide) rfl ?_
  intro p e s m args below meth c s₁ B hml hv
  obtain ⟨rfl, -⟩ := hv
  have hx := B.exec
  have hb := B.bytes
  have hr := B.returns
  have hts := atoms_spec (ws := wsX10_size) B.pre
  have hown : s.vm.findClass RX10 = some m.cls := findClass_of_methodNamed B.named
  have hlocks := B.notSynchronized
  have hl := lv_entry ([.int (nI S)]) (n := 3) (Nat.le_of_ble_eq_true rfl)
  rw [lg_entry_eq]
  generalize (lg_sl ([.int (nI S)]) ++ List.replicate (3 - (lg_sl ([.int (nI S)])).length) Slot.unset).toArray = ls at hl ⊢
  have hl : lv_has ls 3 [(0, .int (nI S))] := hl
  refine lv_iconst (v := (nI 0)) hx hb dX10_size_0 rfl ?_
  refine lv_istore_n (lv' := [(1, .int (nI 0)), (0, .int (nI S))]) hx hb dX10_size_1 rfl hl (by decide) rfl (fun ls hl => ?_)
  refine lv_iload_n hx hb dX10_size_2 rfl (lv_at hl 1 rfl) ?_
  refine lv_istore_n (lv' := [(2, .int (nI S)), (1, .int (nI 0)), (0, .int (nI S))]) hx hb dX10_size_3 rfl hl (by decide) rfl (fun ls hl => ?_)
  have hl : lv_has ls 3 [(2, .int (nI (S / 2 ^ 0))), (1, .int (nI 0)), (0, .int (nI S))] := lv_re hl 0 ⟨rfl, rfl⟩ (congrArg nI (by simp))
  refine wLoop (τ := Nat) (fun z H locs ls => (fun (j : Nat) => (j ≤ 6) ∧ (H = s.heap) ∧ (locs = []) ∧ (lv_has ls 3 [(1, .int (nI (sb S j))), (2, .int (nI (S / 2 ^ j))), (0, .int (nI S))])) z) (fun z => (fun (j : Nat) => 6 - j) z) (0) ⟨(show 0 ≤ 6 from Nat.zero_le _), rfl, rfl, lv_sub hl [1, 0, 2] rfl⟩ ?_
  rintro j H locs ls ⟨hj, rfl, rfl, hl⟩ ih4
  have hj : j ≤ 6 := hj
  have hl : lv_has ls 3 [(1, .int (nI (sb S j))), (2, .int (nI (S / 2 ^ j))), (0, .int (nI S))] := hl
  have hdj : S / 2 ^ j < 64 := Nat.lt_of_le_of_lt (Nat.div_le_self _ _) hS64
  have hd6 : j = 6 → S / 2 ^ j = 0 := fun e => by rw [e]; exact Nat.div_eq_of_lt hS64
  refine lv_iload_n hx hb dX10_size_4 rfl (lv_at hl 1 rfl) ?_
  refine rz_le (x := S / 2 ^ j) (tgt := 21) hx hb (by omega) dX10_size_5 (by decide) (fun c_1 => ?_) (fun c_1 => ?_)
  · refine lv_iload_n hx hb dX10_size_21 rfl (lv_at hl 0 rfl) ?_
    exact wSret hx hb hr hlocks (v := (nI (sb S j))) (congrArg nI (by obtain ⟨d, hd⟩ : ∃ d, 6 = j + d := ⟨6 - j, by omega⟩; rw [hd, sb_top (by omega)])) dX10_size_22
  · have hsm : S / 2 ^ j < 64 := Nat.lt_of_le_of_lt (Nat.div_le_self _ _) hS64
    have hsb := sb_le S j
    refine lv_iload_n hx hb dX10_size_8 rfl (lv_at hl 0 rfl) ?_
    refine lv_iload_n hx hb dX10_size_9 rfl (lv_at hl 1 rfl) ?_
    refine lv_iconst (v := (nI 1)) hx hb dX10_size_10 rfl ?_
    refine lv_iand hx hb dX10_size_11 ?_
    refine lv_topi (fun y_2 ey_2 => ?_)
    obtain rfl : y_2 = (nI (S / 2 ^ j % 2)) := ey_2.trans (and1_row _ hsm)
    refine rn_iadd (x := sb S j) (y := S / 2 ^ j % 2) hx hb dX10_size_12 ?_
    refine lv_istore_n (lv' := [(1, .int (nI ((sb S j) + (S / 2 ^ j % 2)))), (2, .int (nI (S / 2 ^ j))), (0, .int (nI S))]) hx hb dX10_size_13 rfl hl (by decide) rfl (fun ls hl => ?_)
    refine lv_iload_n hx hb dX10_size_14 rfl (lv_at hl 1 rfl) ?_
    refine lv_iconst (v := (nI 1)) hx hb dX10_size_15 rfl ?_
    refine lv_ishr hx hb dX10_size_16 ?_
    refine lv_topi (fun y_3 ey_3 => ?_)
    obtain rfl : y_3 = (nI (S / 2 ^ j / 2)) := ey_3.trans (shr1_row _ hsm)
    refine lv_istore_n (lv' := [(2, .int (nI (S / 2 ^ j / 2))), (1, .int (nI ((sb S j) + (S / 2 ^ j % 2)))), (0, .int (nI S))]) hx hb dX10_size_17 rfl hl (by decide) rfl (fun ls hl => ?_)
    refine lv_goto (tgt := 4) hx hb dX10_size_18 (by decide) ?_
    have hl : lv_has ls 3 [(2, .int (nI (S / 2 ^ (j + 1)))), (1, .int (nI ((sb S j) + (S / 2 ^ j % 2)))), (0, .int (nI S))] := lv_re hl 0 ⟨rfl, rfl⟩ (congrArg nI (by rw [Nat.pow_succ, Nat.div_div_eq_div_mul]))
    exact ih4 ((j + 1)) _ _ _ (show 6 - (j + 1) < 6 - j from by omega) ⟨(show (j + 1) ≤ 6 from by omega), rfl, rfl, lv_sub hl [1, 0, 2] rfl⟩

set_option maxHeartbeats 4000000 in
set_option maxRecDepth 100000 in
theorem kX10_canBeSafe (l : Launch) (D : va_G) (cA : Nat → ClassId) (r : Nat → Nat) (sz : Nat) (u : Nat → Int32) (a : Nat → Nat → Int32) (g : Nat → Nat) (T : Nat → Nat → Nat) (S : Nat) (hM : MT u a g T) (hB : TB g T) (hSn : S < 2 ^ g 0) (L : Nat) (hLe : L = ol S (g 0)) : Met l yX10_canBeSafe wsX10_canBeSafe ({ frames := 3, cells := 0, slots := 0, locals := 71 } : Room) (va_Pc [.ref (r 0), .int (nI S)] (wA D vwCl (tyA cA) e0 (xM cA r) (u, a) sz)) (va_Qi (fun (v : Int32) (z : sM) => ((v = nI 1 ∧ (an (fun n9 => sf g T (dg n9) L S) L (fct L - 1) (f1c S (g 0)))) ∨ (v = nI 0 ∧ ¬ (an (fun n9 => sf g T (dg n9) L S) L (fct L - 1) (f1c S (g 0))))) ∧ (∀ i, i ≠ 22 → i ≠ 25 → z.1 i = u i) ∧ (∀ i, i ≠ 21 → i ≠ 23 → i ≠ 24 → z.2 i = a i)) (wB D vwCl (tyA cA) (xM cA r) (va_A (xM cA r (u, a)) sz)) (va_A (xM cA r (u, a)) sz)) 0 0 (va_A (xM cA r (u, a)) sz) := by
  refine Met.ofW (cc := cX10_canBeSafe) (maxL := 3) (ret := (some .boolean)) (by decide) rfl ?_
  intro p e s m args below meth c s₁ B hml hv
  obtain ⟨rfl, hsz, hP, hK, hD0, hE⟩ := hv
  have hx := B.exec
  have hb := B.bytes
  have hr := B.returns
  have hts := atoms_spec (ws := wsX10_canBeSafe) B.pre
  have hown : s.vm.findClass RX10 = some m.cls := findClass_of_methodNamed B.named
  have hlocks := B.notSynchronized
  subst hsz
  have hD := hD0.self (sz := s.heap.size)
  generalize hAe : va_A (xM cA r (u, a)) s.heap.size = A at hD hE ⊢
  have hA : ∀ q : Nat, s.heap.size ≤ q → A q := fun q h => by rw [← hAe]; exact Or.inr h
  have hS : va_S A s.heap s.heap [] := va_S.rf
  have hl := lv_entry ([.ref (r 0), .int (nI S)]) (n := 3) (Nat.le_of_ble_eq_true rfl)
  rw [lg_entry_eq]
  generalize (lg_sl ([.ref (r 0), .int (nI S)]) ++ List.replicate (3 - (lg_sl ([.ref (r 0), .int (nI S)])).length) Slot.unset).toArray = ls at hl ⊢
  have hl : lv_has ls 3 [(0, .ref (r 0)), (1, .int (nI S))] := hl
  have hg6 := hB.1
  have hS64 : S < 64 := p2_64 hg6 hSn
  have hL6 : L ≤ 6 := by have := ol_le S (g 0); omega
  refine lv_aload_n hx hb dX10_canBeSafe_0 rfl (lv_at hl 0 rfl) ?_
  refine lv_iload_n hx hb dX10_canBeSafe_1 rfl (lv_at hl 1 rfl) ?_
  refine wVv e0_S (As := [.int (nI S)]) (rest := []) ⟨hx, hb, hml, hown, hts⟩ (kX10_firstOrder l D cA r _ u a g T S hM hB (by omega)) (cwV 1 hts gX10_canBeSafe_X10_firstOrder rfl rfl rfl (by decide +kernel) ⟨Nat.le_of_ble_eq_true rfl, Nat.le_of_ble_eq_true rfl⟩) (va_recv hK hP (ci := 10) (q0 := 0) rfl rfl) hK hP hD hS hA hE rfl hl.1 rfl (Nat.le_of_ble_eq_true rfl) dX10_canBeSafe_2 ⟨Nat.zero_le _, Nat.zero_le _⟩ (fun z_3 H locs hw_2 hP hD hS => ?_)
  obtain ⟨zu4, za5⟩ := z_3
  obtain ⟨hu22_zu4, hrow_zu4, hfu_zu4, hfa_zu4⟩ := hw_2
  have hu22_zu4 : zu4 22 = nI (ol S (g 0)) := hu22_zu4
  have hrow_zu4 : ∀ k, k < ol S (g 0) → za5 21 k = nI (of1 S (g 0) k) := hrow_zu4
  have hfu_zu4 : ∀ i, i ≠ 22 → zu4 i = u i := hfu_zu4
  have hfa_zu4 : ∀ i, i ≠ 21 → za5 i = a i := hfa_zu4
  have hP : va_P D vwCl (xM cA r (zu4, za5)) H := hP
  have hD : va_D A (xM cA r (zu4, za5)) := hD
  refine lv_iconst (v := (nI 1)) hx hb dX10_canBeSafe_5 rfl ?_
  refine lv_istore_n (lv' := [(2, .int (nI 1)), (0, .ref (r 0)), (1, .int (nI S))]) hx hb dX10_canBeSafe_6 rfl hl (by decide) rfl (fun ls hl => ?_)
  refine wLoop (τ := Nat × Nat × Nat × (Nat → Int32) × (Nat → Nat → Int32)) (fun z H locs ls => (fun (mo : Nat) (k : Nat) (N : Nat) (u1007 : (Nat → Int32)) (a1007 : (Nat → Nat → Int32)) => (mo ≤ 1) ∧ (mo = 1 → chk S L k N = true ∧ (∀ i, i < L → a1007 21 i = nI (dg N i)) ∧ (an (fun n9 => sf g T (dg n9) L S) L k N ↔ (an (fun n9 => sf g T (dg n9) L S) L (fct L - 1) (f1c S (g 0))))) ∧ (mo = 0 → ¬ (an (fun n9 => sf g T (dg n9) L S) L (fct L - 1) (f1c S (g 0)))) ∧ (∀ i : Nat, i ≠ 25 → u1007 i = zu4 i) ∧ (∀ i : Nat, i ≠ 21 → i ≠ 23 → i ≠ 24 → a1007 i = za5 i) ∧ (va_P D vwCl (xM cA r (u1007, a1007)) H) ∧ (va_D A (xM cA r (u1007, a1007))) ∧ (va_S A s.heap H locs) ∧ (lv_has ls 3 [(2, .int (nI mo)), (0, .ref (r 0)), (1, .int (nI S))])) z.1 z.2.1 z.2.2.1 z.2.2.2.1 z.2.2.2.2) (fun z => (fun (mo : Nat) (k : Nat) (N : Nat) (u1007 : (Nat → Int32)) (a1007 : (Nat → Nat → Int32)) => mo + k) z.1 z.2.1 z.2.2.1 z.2.2.2.1 z.2.2.2.2) (1, (fct L - 1), (f1c S (g 0)), zu4, za5) ⟨(show 1 ≤ 1 from Nat.le_refl 1), (show 1 = 1 → chk S L (fct L - 1) (f1c S (g 0)) = true ∧ (∀ i, i < L → za5 21 i = nI (dg (f1c S (g 0)) i)) ∧ (an (fun n9 => sf g T (dg n9) L S) L (fct L - 1) (f1c S (g 0)) ↔ (an (fun n9 => sf g T (dg n9) L S) L (fct L - 1) (f1c S (g 0)))) from (fun _ => ⟨by rw [hLe]; exact perms_ok _ hg6 _ hSn, by rw [hLe]; exact (fun i hi => (hrow_zu4 (i) (by omega)).trans (congrArg nI (dg_f1 hg6 (by omega)).symm)), Iff.rfl⟩)), (show 1 = 0 → ¬ (an (fun n9 => sf g T (dg n9) L S) L (fct L - 1) (f1c S (g 0))) from (fun h => absurd h (by decide))), (fun i h25 => rfl), (fun i h21 h23 h24 => rfl), hP, hD, hS, lv_sub hl [0, 1, 2] rfl⟩ ?_
  rintro ⟨mo, k, N, u1007, a1007⟩ H locs ls ⟨hmo, h1, h0, hfu7, hfa7, hP, hD, hS, hl⟩ ih7
  have hmo : mo ≤ 1 := hmo
  have h1 : mo = 1 → chk S L k N = true ∧ (∀ i, i < L → a1007 21 i = nI (dg N i)) ∧ (an (fun n9 => sf g T (dg n9) L S) L k N ↔ (an (fun n9 => sf g T (dg n9) L S) L (fct L - 1) (f1c S (g 0)))) := h1
  have h0 : mo = 0 → ¬ (an (fun n9 => sf g T (dg n9) L S) L (fct L - 1) (f1c S (g 0))) := h0
  have hfu7 : ∀ i : Nat, i ≠ 25 → u1007 i = zu4 i := hfu7
  have hfa7 : ∀ i : Nat, i ≠ 21 → i ≠ 23 → i ≠ 24 → a1007 i = za5 i := hfa7
  have hP : va_P D vwCl (xM cA r (u1007, a1007)) H := hP
  have hD : va_D A (xM cA r (u1007, a1007)) := hD
  have hl : lv_has ls 3 [(2, .int (nI mo)), (0, .ref (r 0)), (1, .int (nI S))] := hl
  refine lv_iload_n hx hb dX10_canBeSafe_7 rfl (lv_at hl 0 rfl) ?_
  refine rz_eq (x := mo) (tgt := 29) hx hb (by omega) dX10_canBeSafe_8 (by decide) (fun c_6 => ?_) (fun c_6 => ?_)
  · refine lv_iconst (v := (nI 0)) hx hb dX10_canBeSafe_29 rfl ?_
    exact wZret hx hb hr hlocks (v := (nI 0)) (by first | exact Or.inl rfl | exact Or.inr rfl) (u1007, a1007) (⟨Or.inr ⟨rfl, h0 (by omega)⟩, (fun i h22 h25 => Eq.trans (hfu7 i h25) (hfu_zu4 i h22)), (fun i h21 h23 h24 => Eq.trans (hfa7 i h21 h23 h24) (hfa_zu4 i h21))⟩) hK hP hD hS dX10_canBeSafe_30
  · obtain ⟨hck, hrowN, hacc⟩ := h1 (by omega)
    have hrgN : ∀ k, k < L → dg N k < g 0 := fun k hk => bi_in hSn (chk_in hck k hk)
    refine lv_aload_n hx hb dX10_canBeSafe_11 rfl (lv_at hl 1 rfl) ?_
    refine lv_iload_n hx hb dX10_canBeSafe_12 rfl (lv_at hl 2 rfl) ?_
    refine wVi e0_S (As := [.int (nI S)]) (rest := []) ⟨hx, hb, hml, hown, hts⟩ (kX10_isSafe l D cA r _ u1007 a1007 g T (dg N) L S (MT.keep (MT.keep hM (hfu_zu4 5 (by decide)) (hfu_zu4 6 (by decide)) (hfu_zu4 7 (by decide)) (hfa_zu4 8 (by decide)) (hfa_zu4 9 (by decide)) (hfa_zu4 10 (by decide)) (hfa_zu4 11 (by decide)) (hfa_zu4 12 (by decide))) (hfu7 5 (by decide)) (hfu7 6 (by decide)) (hfu7 7 (by decide)) (hfa7 8 (by decide) (by decide) (by decide)) (hfa7 9 (by decide) (by decide) (by decide)) (hfa7 10 (by decide) (by decide) (by decide)) (hfa7 11 (by decide) (by decide) (by decide)) (hfa7 12 (by decide) (by decide) (by decide))) hB ((hfu7 22 (by decide)).trans ((hu22_zu4).trans (congrArg nI hLe.symm))) (by omega) (fun k hk => hrowN (k) hk) hrgN hS64) (cwV 1 hts gX10_canBeSafe_X10_isSafe rfl rfl rfl (by decide +kernel) ⟨Nat.le_of_ble_eq_true rfl, Nat.le_of_ble_eq_true rfl⟩) (va_recv hK hP (ci := 10) (q0 := 0) rfl rfl) hK hP hD hS hA hE rfl hl.1 rfl (Nat.le_of_ble_eq_true rfl) dX10_canBeSafe_13 ⟨Nat.zero_le _, Nat.zero_le _⟩ (fun rv_7 z_9 H locs hw_8 hP hD hS => ?_)
    obtain ⟨zu10, za11⟩ := z_9
    obtain ⟨hw_8, hfu_zu10, hfa_zu10⟩ := hw_8
    have hfu_zu10 : ∀ i, i ≠ 25 → zu10 i = u1007 i := hfu_zu10
    have hfa_zu10 : ∀ i, i ≠ 23 → i ≠ 24 → za11 i = a1007 i := hfa_zu10
    have hP : va_P D vwCl (xM cA r (zu10, za11)) H := hP
    have hD : va_D A (xM cA r (zu10, za11)) := hD
    rcases hw_8 with ⟨rfl, b_12⟩ | ⟨rfl, b_12⟩
    · refine lv_if_eq (tgt := 21) hx hb dX10_canBeSafe_16 (by decide) (fun c_13 => absurd c_13 (by decide)) (fun _ => ?_)
      refine lv_iconst (v := (nI 1)) hx hb dX10_canBeSafe_19 rfl ?_
      exact wZret hx hb hr hlocks (v := (nI 1)) (by first | exact Or.inl rfl | exact Or.inr rfl) (zu10, za11) (⟨Or.inl ⟨rfl, hacc.mp (by cases k with | zero => exact b_12 | succ k => exact Or.inl b_12)⟩, (fun i h22 h25 => Eq.trans (hfu_zu10 i h25) (Eq.trans (hfu7 i h25) (hfu_zu4 i h22))), (fun i h21 h23 h24 => Eq.trans (hfa_zu10 i h23 h24) (Eq.trans (hfa7 i h21 h23 h24) (hfa_zu4 i h21)))⟩) hK hP hD hS dX10_canBeSafe_20
    · refine lv_if_eq (tgt := 21) hx hb dX10_canBeSafe_16 (by decide) (fun _ => ?_) (fun c_14 => absurd c_14 (by decide))
      refine lv_aload_n hx hb dX10_canBeSafe_21 rfl (lv_at hl 1 rfl) ?_
      refine wVi e0_S (As := []) (rest := []) ⟨hx, hb, hml, hown, hts⟩ (kX10_nextOrder l D cA r _ zu10 za11 L N ((hfu_zu10 22 (by decide)).trans ((hfu7 22 (by decide)).trans ((hu22_zu4).trans (congrArg nI hLe.symm)))) hL6 (fun k hk => (congrFun (hfa_zu10 21 (by decide) (by decide)) (k)).trans (hrowN (k) hk))) (cwV 0 hts gX10_canBeSafe_X10_nextOrder rfl rfl rfl (by decide +kernel) ⟨Nat.le_of_ble_eq_true rfl, Nat.le_of_ble_eq_true rfl⟩) (va_recv hK hP (ci := 10) (q0 := 0) rfl rfl) hK hP hD hS hA hE rfl hl.1 rfl (Nat.le_of_ble_eq_true rfl) dX10_canBeSafe_22 ⟨Nat.zero_le _, Nat.zero_le _⟩ (fun rv_15 z_17 H locs hw_16 hP hD hS => ?_)
      obtain ⟨zu18, za19⟩ := z_17
      rcases hw_16 with ⟨rfl, hfk0, hz_zu18⟩ | ⟨rfl, hfk1, hzu_zu18, hrw_zu18, hfa_zu18⟩
      · cases hz_zu18
        have hP : va_P D vwCl (xM cA r (zu10, za11)) H := hP
        have hD : va_D A (xM cA r (zu10, za11)) := hD
        refine lv_istore_n (lv' := [(2, .int (nI 0)), (0, .ref (r 0)), (1, .int (nI S))]) hx hb dX10_canBeSafe_25 rfl hl (by decide) rfl (fun ls hl => ?_)
        refine lv_goto (tgt := 7) hx hb dX10_canBeSafe_26 (by decide) ?_
        have hk0 := chk_end hck hfk0
        exact ih7 (0, 0, 0, zu10, za11) _ _ _ (show 0 + 0 < mo + k from by omega) ⟨(show 0 ≤ 1 from Nat.zero_le _), (show 0 = 1 → chk S L 0 0 = true ∧ (∀ i, i < L → za11 21 i = nI (dg 0 i)) ∧ (an (fun n9 => sf g T (dg n9) L S) L 0 0 ↔ (an (fun n9 => sf g T (dg n9) L S) L (fct L - 1) (f1c S (g 0)))) from (fun h => absurd h (by decide))), (show 0 = 0 → ¬ (an (fun n9 => sf g T (dg n9) L S) L (fct L - 1) (f1c S (g 0))) from (fun _ hF => by rw [hk0] at hacc; exact b_12 (hacc.mpr hF))), (fun i h25 => Eq.trans (hfu_zu10 i h25) (hfu7 i h25)), (fun i h21 h23 h24 => Eq.trans (hfa_zu10 i h23 h24) (hfa7 i h21 h23 h24)), hP, hD, hS, lv_sub hl [0, 1, 2] rfl⟩
      · have hzu_zu18 : zu10 = zu18 := Eq.symm hzu_zu18
        subst hzu_zu18
        have hrw_zu18 : ∀ k, k < L → za19 21 k = nI (dg (nx N L) k) := hrw_zu18
        have hfa_zu18 : ∀ i, i ≠ 21 → za19 i = za11 i := hfa_zu18
        have hP : va_P D vwCl (xM cA r (zu10, za19)) H := hP
        have hD : va_D A (xM cA r (zu10, za19)) := hD
        refine lv_istore_n (lv' := [(2, .int (nI 1)), (0, .ref (r 0)), (1, .int (nI S))]) hx hb dX10_canBeSafe_25 rfl hl (by decide) rfl (fun ls hl => ?_)
        refine lv_goto (tgt := 7) hx hb dX10_canBeSafe_26 (by decide) ?_
        obtain ⟨hk0, hck2⟩ := chk_next hck hfk1
        have hbo : an (fun n9 => sf g T (dg n9) L S) L k N ↔ (sf g T (dg N) L S ∨ an (fun n9 => sf g T (dg n9) L S) L (k - 1) (nx N L)) := by obtain ⟨k2, rfl⟩ : ∃ k2, k = k2 + 1 := ⟨k - 1, by omega⟩; exact Iff.rfl
        exact ih7 (1, (k - 1), (nx N L), zu10, za19) _ _ _ (show 1 + (k - 1) < mo + k from by omega) ⟨(show 1 ≤ 1 from Nat.le_refl 1), (show 1 = 1 → chk S L (k - 1) (nx N L) = true ∧ (∀ i, i < L → za19 21 i = nI (dg (nx N L) i)) ∧ (an (fun n9 => sf g T (dg n9) L S) L (k - 1) (nx N L) ↔ (an (fun n9 => sf g T (dg n9) L S) L (fct L - 1) (f1c S (g 0)))) from (fun _ => ⟨hck2, hrw_zu18, ⟨fun q => hacc.mp (hbo.mpr (Or.inr q)), fun q => (hbo.mp (hacc.mpr q)).resolve_left b_12⟩⟩)), (show 1 = 0 → ¬ (an (fun n9 => sf g T (dg n9) L S) L (fct L - 1) (f1c S (g 0))) from (fun h => absurd h (by decide))), (fun i h25 => Eq.trans (hfu_zu10 i h25) (hfu7 i h25)), (fun i h21 h23 h24 => Eq.trans (hfa_zu18 i h21) (Eq.trans (hfa_zu10 i h23 h24) (hfa7 i h21 h23 h24))), hP, hD, hS, lv_sub hl [0, 1, 2] rfl⟩

set_option maxHeartbeats 4000000 in
set_option maxRecDepth 100000 in
theorem kX10_layRow (l : Launch) (D : va_G) (cA : Nat → ClassId) (r : Nat → Nat) (sz : Nat) (u : Nat → Int32) (a : Nat → Nat → Int32) (g : Nat → Nat) (T : Nat → Nat → Nat) (k l9 : Nat) (so i n : Int32) (hM : MT u a g T) (hB : TB g T) (hk : k < 4) (hln : a 3 k = nI l9) (hl60 : l9 ≤ 60) : Met l yX10_layRow wsX10_layRow ({ frames := 1, cells := 0, slots := 0, locals := 24 } : Room) (va_Pc [.ref (r 0), .int (nI k), .int so, .int i, .int n] (wA D vwCl (tyA cA) e0 (xM cA r) (u, a) sz)) (va_Qi (fun (v : Int32) (z : sM) => v = lrA (g 0) (a 2 k) (a 3 k) (fun q => a 4 (60 * k + q)) so i n ∧ z.1 0 = cif (ag (a 2 k) (a 3 k) so i n = 0) (u 0) (ag (a 2 k) (a 3 k) so i n) ∧ (∀ q, q ≠ 0 → q ≠ 22 → z.1 q = u q) ∧ (∀ q, q ≠ 21 → z.2 q = a q) ∧ (v = nI 0 → ∃ i0 n0 : Nat, i = nI i0 ∧ n = nI n0 ∧ 1 ≤ n0 ∧ n0 ≤ 8 ∧ i0 + n0 ≤ 60 ∧ z.1 22 = nI n0 ∧ ∀ q, q < n0 → ∃ x, x < g 0 ∧ z.2 21 q = nI x ∧ roC (fun q => a 4 (60 * k + q)) i0 q = x)) (wB D vwCl (tyA cA) (xM cA r) (va_A (xM cA r (u, a)) sz)) (va_A (xM cA r (u, a)) sz)) 0 0 (va_A (xM cA r (u, a)) sz) := by
  refine Met.ofW (cc := cX10_layRow) (maxL := 7) (ret := (some .int)) (by decide) rfl ?_
  intro p e s m args below meth c s₁ B hml hv
  obtain ⟨rfl, hsz, hP, hK, hD0, hE⟩ := hv
  have hx := B.exec
  have hb := B.bytes
  have hr := B.returns
  have hts := atoms_spec (ws := wsX10_layRow) B.pre
  have hown : s.vm.findClass RX10 = some m.cls := findClass_of_methodNamed B.named
  have hlocks := B.notSynchronized
  subst hsz
  have hD := hD0.self (sz := s.heap.size)
  generalize hAe : va_A (xM cA r (u, a)) s.heap.size = A at hD hE ⊢
  have hA : ∀ q : Nat, s.heap.size ≤ q → A q := fun q h => by rw [← hAe]; exact Or.inr h
  have hS : va_S A s.heap s.heap [] := va_S.rf
  have hinX10 : ∀ w ∈ u_ws RX10 TX10 34, w ∈ wsX10_layRow := by decide +kernel
  have hl := lv_entry ([.ref (r 0), .int (nI k), .int so, .int i, .int n]) (n := 7) (Nat.le_of_ble_eq_true rfl)
  rw [lg_entry_eq]
  generalize (lg_sl ([.ref (r 0), .int (nI k), .int so, .int i, .int n]) ++ List.replicate (7 - (lg_sl ([.ref (r 0), .int (nI k), .int so, .int i, .int n])).length) Slot.unset).toArray = ls at hl ⊢
  have hl : lv_has ls 7 [(0, .ref (r 0)), (1, .int (nI k)), (2, .int so), (3, .int i), (4, .int n)] := hl
  have hg6 := hB.1
  refine lv_aload_n hx hb dX10_layRow_0 rfl (lv_at hl 0 rfl) ?_
  refine lv_iload_n hx hb dX10_layRow_1 rfl (lv_at hl 1 rfl) ?_
  refine lv_iload_n hx hb dX10_layRow_2 rfl (lv_at hl 2 rfl) ?_
  refine lv_iload_n hx hb dX10_layRow_3 rfl (lv_at hl 3 rfl) ?_
  refine lv_iload hx hb dX10_layRow_4 (lv_at hl 4 rfl) ?_
  refine wVi e0_S (As := [.int (nI k), .int so, .int i, .int n]) (rest := []) ⟨hx, hb, hml, hown, hts⟩ (kX10_against l D cA r _ u a k so i n (by omega)) (cwV 4 hts gX10_layRow_X10_against rfl rfl rfl (by decide +kernel) ⟨Nat.le_of_ble_eq_true rfl, Nat.le_of_ble_eq_true rfl⟩) (va_recv hK hP (ci := 10) (q0 := 0) rfl rfl) hK hP hD hS hA hE rfl hl.1 rfl (Nat.le_of_ble_eq_true rfl) dX10_layRow_6 ⟨Nat.zero_le _, Nat.zero_le _⟩ (fun rv_1 z_3 H locs hw_2 hP hD hS => ?_)
  obtain ⟨rfl, rfl⟩ := hw_2
  have hP : va_P D vwCl (xM cA r (u, a)) H := hP
  have hD : va_D A (xM cA r (u, a)) := hD
  refine lv_istore (lv' := [(5, .int (ag (a 2 k) (a 3 k) so i n)), (0, .ref (r 0)), (1, .int (nI k)), (2, .int so), (3, .int i), (4, .int n)]) hx hb dX10_layRow_9 hl (by decide) rfl (fun ls hl => ?_)
  refine lv_iload hx hb dX10_layRow_11 (lv_at hl 0 rfl) ?_
  refine lv_if_eq (tgt := 23) hx hb dX10_layRow_13 (by decide) (fun c_4 => ?_) (fun c_4 => ?_)
  · obtain ⟨i0, n0, hi0, hn0, hin, hso, hso9⟩ := ag_ok (l := l9) hl60 (by rw [← hln]; exact c_4)
    have hag : ag (a 2 k) (a 3 k) so (nI i0) (nI n0) = 0 := by rw [← hi0, ← hn0]; exact c_4
    have hl : lv_has ls 7 [(5, .int (ag (a 2 k) (a 3 k) so i n)), (0, .ref (r 0)), (1, .int (nI k)), (2, .int so), (3, .int (nI i0)), (4, .int n)] := lv_re hl 4 ⟨rfl, rfl⟩ (hi0)
    have hl : lv_has ls 7 [(5, .int (ag (a 2 k) (a 3 k) so i n)), (0, .ref (r 0)), (1, .int (nI k)), (2, .int so), (3, .int (nI i0)), (4, .int (nI n0))] := lv_re hl 5 ⟨rfl, rfl⟩ (hn0)
    refine lv_aload_n hx hb dX10_layRow_23 rfl (lv_at hl 1 rfl) ?_
    refine va_get (D := D) (ci := 10) (v := .int (nI (g 0))) (C := RX10) (T := TX10) (N := 34) hx hb hts hinX10 hown hK hP 0 rfl rfl 5 (by decide) (hts (.fieldLink RX10 90 "OneNailModel" "things" "I") (by decide +kernel)) (fun _ h9 => h9) (congrArg (fun z => some (Value.int z)) (hM.1)) dX10_layRow_24 ?_
    refine rz_ne (x := g 0) (tgt := 33) hx hb (by omega) dX10_layRow_27 (by decide) (fun c_5 => ?_) (fun c_5 => ?_)
    · refine lv_iload hx hb dX10_layRow_33 (lv_at hl 5 rfl) ?_
      refine lv_iconst (v := (nI 1)) hx hb dX10_layRow_35 rfl ?_
      refine lv_bipush (v := (nI 8)) hx hb dX10_layRow_36 rfl ?_
      refine wSi (As := [.int (nI n0), .int (nI 1), .int (nI 8)]) (rest := []) ⟨hx, hb, hml, hown, hts⟩ (kX10_within l (nI n0) (nI 1) (nI 8)) (va_cwS 3 hts gX10_layRow_X10_within rfl rfl rfl (by decide +kernel) ⟨Nat.le_of_ble_eq_true rfl, Nat.le_of_ble_eq_true rfl⟩) rfl hl.1 rfl (Nat.le_of_ble_eq_true rfl) dX10_layRow_38 ⟨Nat.zero_le _, Nat.zero_le _⟩ (fun rv_6 hw_7 => ?_)
      rcases hw_7 with ⟨rfl, b_8⟩ | ⟨rfl, b_8⟩
      · have hn1 : 1 ≤ n0 := (nI_leI (by decide) (by omega)).mp b_8.1
        have hn8 : n0 ≤ 8 := (nI_leI (by omega) (by decide)).mp b_8.2
        refine lv_if_ne (tgt := 47) hx hb dX10_layRow_41 (by decide) (fun _ => ?_) (fun c_9 => absurd c_9 (by decide))
        refine lv_iconst (v := (nI 0)) hx hb dX10_layRow_47 rfl ?_
        refine lv_istore (lv' := [(6, .int (nI 0)), (5, .int (ag (a 2 k) (a 3 k) so i n)), (0, .ref (r 0)), (1, .int (nI k)), (2, .int so), (3, .int (nI i0)), (4, .int (nI n0))]) hx hb dX10_layRow_48 hl (by decide) rfl (fun ls hl => ?_)
        refine wLoop (τ := Nat × (Nat → Nat → Int32)) (fun z H locs ls => (fun (j : Nat) (a1050 : (Nat → Nat → Int32)) => (j ≤ n0) ∧ (∀ q, q < j → a1050 21 q = a 4 (((60 * k) + i0) + q)) ∧ (∀ q, q < j → ∃ x, x < g 0 ∧ a 4 (((60 * k) + i0) + q) = nI x) ∧ (∀ i : Nat, i ≠ 21 → a1050 i = a i) ∧ (va_P D vwCl (xM cA r (u, a1050)) H) ∧ (va_D A (xM cA r (u, a1050))) ∧ (va_S A s.heap H locs) ∧ (lv_has ls 7 [(6, .int (nI j)), (0, .ref (r 0)), (1, .int (nI k)), (2, .int so), (3, .int (nI i0)), (4, .int (nI n0))])) z.1 z.2) (fun z => (fun (j : Nat) (a1050 : (Nat → Nat → Int32)) => n0 - j) z.1 z.2) (0, a) ⟨(show 0 ≤ n0 from Nat.zero_le _), (show ∀ q, q < 0 → a 21 q = a 4 (((60 * k) + i0) + q) from (fun q h => absurd h (Nat.not_lt_zero q))), (show ∀ q, q < 0 → ∃ x, x < g 0 ∧ a 4 (((60 * k) + i0) + q) = nI x from (fun q h => absurd h (Nat.not_lt_zero q))), (fun i h21 => rfl), hP, hD, hS, lv_sub hl [0, 2, 3, 4, 5, 6] rfl⟩ ?_
        rintro ⟨j, a1050⟩ H locs ls ⟨hj, hrow, hth, hfa50, hP, hD, hS, hl⟩ ih50
        have hj : j ≤ n0 := hj
        have hrow : ∀ q, q < j → a1050 21 q = a 4 (((60 * k) + i0) + q) := hrow
        have hth : ∀ q, q < j → ∃ x, x < g 0 ∧ a 4 (((60 * k) + i0) + q) = nI x := hth
        have hfa50 : ∀ i : Nat, i ≠ 21 → a1050 i = a i := hfa50
        have hP : va_P D vwCl (xM cA r (u, a1050)) H := hP
        have hD : va_D A (xM cA r (u, a1050)) := hD
        have hl : lv_has ls 7 [(6, .int (nI j)), (0, .ref (r 0)), (1, .int (nI k)), (2, .int so), (3, .int (nI i0)), (4, .int (nI n0))] := hl
        refine lv_iload hx hb dX10_layRow_50 (lv_at hl 0 rfl) ?_
        refine lv_iload hx hb dX10_layRow_52 (lv_at hl 5 rfl) ?_
        refine rn_ge (x := j) (y := n0) (tgt := 100) hx hb (by omega) (by omega) dX10_layRow_54 (by decide) (fun c_10 => ?_) (fun c_10 => ?_)
        · refine lv_aload_n hx hb dX10_layRow_100 rfl (lv_at hl 1 rfl) ?_
          refine lv_iload hx hb dX10_layRow_101 (lv_at hl 5 rfl) ?_
          refine va_put (D := D) (ci := 10) (v := .int (nI n0)) (ty := .int) (C := RX10) (T := TX10) (N := 34) hx hb hts hinX10 tyX10 tyX10_ok nmX10 hown hK hP hD hS 0 rfl rfl 22 (by decide) (hts (.fieldLink RX10 145 "OneNailModel" "rowLong" "I") (by decide +kernel)) (fun _ h9 => h9) rfl (by decide +kernel) rfl rfl (Nat.le_of_ble_eq_true rfl) dX10_layRow_103 (fun H locs hP hD hS => ?_)
          have hP : va_P D vwCl (xM cA r ((upd u 22 (nI n0)), a1050)) H := hP
          have hD : va_D A (xM cA r ((upd u 22 (nI n0)), a1050)) := hD
          refine lv_iconst (v := (nI 0)) hx hb dX10_layRow_106 rfl ?_
          exact wIret hx hb hr hlocks (v := (nI 0)) ((upd u 22 (nI n0)), a1050) (⟨by rw [hi0, hn0]; unfold lrA; rw [cif_pos hag, cif_neg (by omega), cif_pos b_8, cif_pos (fun q hq => by rw [nI_clamp (by omega)] at hq ⊢; have h7 := hth q (by omega); rw [Nat.add_assoc] at h7; exact h7)], (cif_pos c_4).symm, (fun i h0 h22 => up_ne h22), (fun i h21 => hfa50 i h21), fun _ => ⟨i0, n0, hi0, hn0, hn1, hn8, by omega, rfl, fun q hq => by obtain ⟨x, hx6, e7⟩ := hth q (by omega); have hrq := hrow q (by omega); rw [Nat.add_assoc] at e7; exact ⟨x, hx6, hrq.trans (by rw [Nat.add_assoc]; exact e7), roC_eq (ce := fun q => a 4 (60 * k + q)) e7 (by omega)⟩⟩⟩) hK hP hD hS dX10_layRow_107
        · refine lv_aload_n hx hb dX10_layRow_57 rfl (lv_at hl 1 rfl) ?_
          refine va_get (D := D) (ci := 10) (v := .ref (r 21)) (C := RX10) (T := TX10) (N := 34) hx hb hts hinX10 hown hK hP 0 rfl rfl 21 (by decide) (hts (.fieldLink RX10 49 "OneNailModel" "row" "[I") (by decide +kernel)) (fun _ h9 => h9) rfl dX10_layRow_58 ?_
          refine lv_iload hx hb dX10_layRow_61 (lv_at hl 0 rfl) ?_
          refine lv_aload_n hx hb dX10_layRow_63 rfl (lv_at hl 1 rfl) ?_
          refine va_get (D := D) (ci := 10) (v := .ref (r 4)) (C := RX10) (T := TX10) (N := 34) hx hb hts hinX10 hown hK hP 0 rfl rfl 4 (by decide) (hts (.fieldLink RX10 16 "OneNailModel" "cells" "[I") (by decide +kernel)) (fun _ h9 => h9) rfl dX10_layRow_64 ?_
          refine lv_bipush (v := (nI 60)) hx hb dX10_layRow_67 rfl ?_
          refine lv_iload_n hx hb dX10_layRow_69 rfl (lv_at hl 2 rfl) ?_
          refine rn_imul (x := 60) (y := k) hx hb dX10_layRow_70 ?_
          refine lv_iload_n hx hb dX10_layRow_71 rfl (lv_at hl 4 rfl) ?_
          refine rn_iadd (x := 60 * k) (y := i0) hx hb dX10_layRow_72 ?_
          refine lv_iload hx hb dX10_layRow_73 (lv_at hl 0 rfl) ?_
          refine rn_iadd (x := (60 * k) + i0) (y := j) hx hb dX10_layRow_75 ?_
          refine ra_iald hx hb hK hP 3 0 (n := 240) (f := (a1050 4)) (j := ((60 * k) + i0) + j) (v := (a 4 (((60 * k) + i0) + j))) rfl rfl (by omega) (by decide) ((congrFun (hfa50 4 (by decide)) _)) dX10_layRow_76 ?_
          refine ra_iast hx hb hK hP hD hS 14 0 (n := 8) (f := (a1050 21)) (j := j) (x := (a 4 (((60 * k) + i0) + j))) rfl rfl (by omega) (by decide) dX10_layRow_77 (fun H locs hP hD hS => ?_)
          have hP : va_P D vwCl (xM cA r (u, (va_up a1050 21 (upd (a1050 21) j (a 4 (((60 * k) + i0) + j)))))) H := hP
          have hD : va_D A (xM cA r (u, (va_up a1050 21 (upd (a1050 21) j (a 4 (((60 * k) + i0) + j)))))) := hD
          refine lv_aload_n hx hb dX10_layRow_78 rfl (lv_at hl 1 rfl) ?_
          refine lv_aload_n hx hb dX10_layRow_79 rfl (lv_at hl 1 rfl) ?_
          refine va_get (D := D) (ci := 10) (v := .ref (r 21)) (C := RX10) (T := TX10) (N := 34) hx hb hts hinX10 hown hK hP 0 rfl rfl 21 (by decide) (hts (.fieldLink RX10 49 "OneNailModel" "row" "[I") (by decide +kernel)) (fun _ h9 => h9) rfl dX10_layRow_80 ?_
          refine lv_iload hx hb dX10_layRow_83 (lv_at hl 0 rfl) ?_
          refine ra_iald hx hb hK hP 14 0 (n := 8) (f := (upd (a1050 21) j (a 4 (((60 * k) + i0) + j)))) (j := j) (v := (a 4 (((60 * k) + i0) + j))) rfl rfl (by omega) (by decide) (up_eq) dX10_layRow_85 ?_
          refine wVi e0_S (As := [.int (a 4 (((60 * k) + i0) + j))]) (rest := []) ⟨hx, hb, hml, hown, hts⟩ (kX10_isThing l D cA r _ u (va_up a1050 21 (upd (a1050 21) j (a 4 (((60 * k) + i0) + j)))) g T (a 4 (((60 * k) + i0) + j)) (MT.keep (MT.keep hM rfl rfl rfl (hfa50 8 (by decide)) (hfa50 9 (by decide)) (hfa50 10 (by decide)) (hfa50 11 (by decide)) (hfa50 12 (by decide))) rfl rfl rfl rfl rfl rfl rfl rfl) hB) (cwV 1 hts gX10_layRow_X10_isThing rfl rfl rfl (by decide +kernel) ⟨Nat.le_of_ble_eq_true rfl, Nat.le_of_ble_eq_true rfl⟩) (va_recv hK hP (ci := 10) (q0 := 0) rfl rfl) hK hP hD hS hA hE rfl hl.1 rfl (Nat.le_of_ble_eq_true rfl) dX10_layRow_86 ⟨Nat.zero_le _, Nat.zero_le _⟩ (fun rv_11 z_13 H locs hw_12 hP hD hS => ?_)
          obtain ⟨hz_14, hw_12⟩ := hw_12
          subst hz_14
          have hP : va_P D vwCl (xM cA r (u, (va_up a1050 21 (upd (a1050 21) j (a 4 (((60 * k) + i0) + j)))))) H := hP
          have hD : va_D A (xM cA r (u, (va_up a1050 21 (upd (a1050 21) j (a 4 (((60 * k) + i0) + j)))))) := hD
          rcases hw_12 with ⟨rfl, b_15⟩ | ⟨rfl, b_15⟩
          · refine lv_if_ne (tgt := 94) hx hb dX10_layRow_89 (by decide) (fun _ => ?_) (fun c_16 => absurd c_16 (by decide))
            refine rn_iinc (x := j) (d := 1) (lv' := [(6, .int (nI (j + 1))), (0, .ref (r 0)), (1, .int (nI k)), (2, .int so), (3, .int (nI i0)), (4, .int (nI n0))]) hx hb rfl dX10_layRow_94 hl (k := 0) rfl (by decide) rfl (fun ls hl => ?_)
            refine lv_goto (tgt := 50) hx hb dX10_layRow_97 (by decide) ?_
            exact ih50 ((j + 1), (va_up a1050 21 (upd (a1050 21) j (a 4 (((60 * k) + i0) + j))))) _ _ _ (show n0 - (j + 1) < n0 - j from by omega) ⟨(show (j + 1) ≤ n0 from by omega), (show ∀ q, q < (j + 1) → (va_up a1050 21 (upd (a1050 21) j (a 4 (((60 * k) + i0) + j)))) 21 q = a 4 (((60 * k) + i0) + q) from (show ∀ q, q < j + 1 → (upd (a1050 21) j (a 4 (((60 * k) + i0) + j))) q = a 4 (((60 * k) + i0) + q) from arr_push (F := fun q => a 4 (((60 * k) + i0) + q)) hrow rfl)), (show ∀ q, q < (j + 1) → ∃ x, x < g 0 ∧ a 4 (((60 * k) + i0) + q) = nI x from (lt_s (p := fun q => ∃ x, x < g 0 ∧ a 4 (((60 * k) + i0) + q) = nI x) hth b_15)), (fun i h21 => Eq.trans (vup_ne h21) (hfa50 i h21)), hP, hD, hS, lv_sub hl [0, 1, 2, 3, 4, 5] rfl⟩
          · refine lv_if_ne (tgt := 94) hx hb dX10_layRow_89 (by decide) (fun c_17 => absurd c_17 (by decide)) (fun _ => ?_)
            refine lv_iconst (v := (-1)) hx hb dX10_layRow_92 (by decide) ?_
            exact wIret hx hb hr hlocks (v := (-1)) (u, (va_up a1050 21 (upd (a1050 21) j (a 4 (((60 * k) + i0) + j))))) (⟨by rw [hi0, hn0]; unfold lrA; rw [cif_pos hag, cif_neg (by omega), cif_pos b_8, cif_neg (fun q => b_15 (by have h7 := q j (by rw [nI_clamp (by omega)]; omega); rw [nI_clamp (by omega)] at h7; rw [Nat.add_assoc]; exact h7))], (cif_pos c_4).symm, (fun i h0 h22 => rfl), (fun i h21 => Eq.trans (vup_ne h21) (hfa50 i h21)), fun h => absurd h (by decide)⟩) hK hP hD hS dX10_layRow_93
      · refine lv_if_ne (tgt := 47) hx hb dX10_layRow_41 (by decide) (fun c_18 => absurd c_18 (by decide)) (fun _ => ?_)
        refine lv_bipush (v := (-2)) hx hb dX10_layRow_44 (by decide) ?_
        exact wIret hx hb hr hlocks (v := (-2)) (u, a) (⟨by rw [hi0, hn0]; unfold lrA; rw [cif_pos hag, cif_neg (by omega), cif_neg b_8], (cif_pos c_4).symm, (fun i h0 h22 => rfl), (fun i h21 => rfl), fun h => absurd h (by decide)⟩) hK hP hD hS dX10_layRow_46
    · refine lv_bipush (v := (-3)) hx hb dX10_layRow_30 (by decide) ?_
      exact wIret hx hb hr hlocks (v := (-3)) (u, a) (⟨by rw [hi0, hn0]; unfold lrA; rw [cif_pos hag, cif_pos (by omega)], (cif_pos c_4).symm, (fun i h0 h22 => rfl), (fun i h21 => rfl), fun h => absurd h (by decide)⟩) hK hP hD hS dX10_layRow_32
  · refine lv_aload_n hx hb dX10_layRow_16 rfl (lv_at hl 1 rfl) ?_
    refine lv_iload hx hb dX10_layRow_17 (lv_at hl 0 rfl) ?_
    refine wVi e0_S (As := [.int (ag (a 2 k) (a 3 k) so i n)]) (rest := []) ⟨hx, hb, hml, hown, hts⟩ (kX10_fails l D cA r _ u a (ag (a 2 k) (a 3 k) so i n)) (cwV 1 hts gX10_layRow_X10_fails rfl rfl rfl (by decide +kernel) ⟨Nat.le_of_ble_eq_true rfl, Nat.le_of_ble_eq_true rfl⟩) (va_recv hK hP (ci := 10) (q0 := 0) rfl rfl) hK hP hD hS hA hE rfl hl.1 rfl (Nat.le_of_ble_eq_true rfl) dX10_layRow_19 ⟨Nat.zero_le _, Nat.zero_le _⟩ (fun rv_19 z_21 H locs hw_20 hP hD hS => ?_)
    obtain ⟨rfl, rfl⟩ := hw_20
    have hP : va_P D vwCl (xM cA r ((upd u 0 (ag (a 2 k) (a 3 k) so i n)), a)) H := hP
    have hD : va_D A (xM cA r ((upd u 0 (ag (a 2 k) (a 3 k) so i n)), a)) := hD
    exact wIret hx hb hr hlocks (v := ((-10) - (ag (a 2 k) (a 3 k) so i n))) ((upd u 0 (ag (a 2 k) (a 3 k) so i n)), a) (⟨by unfold lrA; rw [cif_neg c_4], (cif_neg (fun e => c_4 e)).symm, (fun i h0 h22 => up_ne h0), (fun i h21 => rfl), fun h => absurd h (ag_n0 _ _ _ _ _ c_4)⟩) hK hP hD hS dX10_layRow_22
