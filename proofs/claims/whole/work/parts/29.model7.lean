set_option maxHeartbeats 4000000 in
set_option maxRecDepth 100000 in
theorem kX10_leastHarm (l : Launch) (D : va_G) (cA : Nat → ClassId) (r : Nat → Nat) (sz : Nat) (u : Nat → Int32) (a : Nat → Nat → Int32) (g : Nat → Nat) (T : Nat → Nat → Nat) (S till : Nat) (hM : MT u a g T) (hB : TB g T) (htl : till ≤ 300) (hSn : S < 2 ^ g 0) (L : Nat) (hLe : L = ol S (g 0)) : Met l yX10_leastHarm wsX10_leastHarm ({ frames := 3, cells := 0, slots := 0, locals := 71 } : Room) (va_Pc [.ref (r 0), .int (nI S), .int (nI till)] (wA D vwCl (tyA cA) e0 (xM cA r) (u, a) sz)) (va_Qi (fun (v : Int32) (z : sM) => v = nI (bo (fun n9 => hv g T (dg n9) L S till) L (fct L - 1) (f1c S (g 0))).1 ∧ (∀ i, i < L → z.2 28 i = nI (dg (bo (fun n9 => hv g T (dg n9) L S till) L (fct L - 1) (f1c S (g 0))).2 i)) ∧ (∀ i, i ≠ 22 → i ≠ 25 → z.1 i = u i) ∧ (∀ i, i ≠ 21 → i ≠ 23 → i ≠ 24 → i ≠ 26 → i ≠ 28 → z.2 i = a i)) (wB D vwCl (tyA cA) (xM cA r) (va_A (xM cA r (u, a)) sz)) (va_A (xM cA r (u, a)) sz)) 0 0 (va_A (xM cA r (u, a)) sz) := by
  refine Met.ofW (cc := cX10_leastHarm) (maxL := 7) (ret := (some .int)) (by decide) rfl ?_
  intro p e s m args below meth c s₁ B hml hv
  obtain ⟨rfl, hsz, hP, hK, hD0, hE⟩ := hv
  have hx := B.exec
  have hb := B.bytes
  have hr := B.returns
  have hts := atoms_spec (ws := wsX10_leastHarm) B.pre
  have hown : s.vm.findClass RX10 = some m.cls := findClass_of_methodNamed B.named
  have hlocks := B.notSynchronized
  subst hsz
  have hD := hD0.self (sz := s.heap.size)
  generalize hAe : va_A (xM cA r (u, a)) s.heap.size = A at hD hE ⊢
  have hA : ∀ q : Nat, s.heap.size ≤ q → A q := fun q h => by rw [← hAe]; exact Or.inr h
  have hS : va_S A s.heap s.heap [] := va_S.rf
  have hinX10 : ∀ w ∈ u_ws RX10 TX10 34, w ∈ wsX10_leastHarm := by decide +kernel
  have hl := lv_entry ([.ref (r 0), .int (nI S), .int (nI till)]) (n := 7) (Nat.le_of_ble_eq_true rfl)
  rw [lg_entry_eq]
  generalize (lg_sl ([.ref (r 0), .int (nI S), .int (nI till)]) ++ List.replicate (7 - (lg_sl ([.ref (r 0), .int (nI S), .int (nI till)])).length) Slot.unset).toArray = ls at hl ⊢
  have hl : lv_has ls 7 [(0, .ref (r 0)), (1, .int (nI S)), (2, .int (nI till))] := hl
  have hg6 := hB.1
  have hS64 : S < 64 := p2_64 hg6 hSn
  have hL6 : L ≤ 6 := by have := ol_le S (g 0); omega
  refine lv_aload_n hx hb dX10_leastHarm_0 rfl (lv_at hl 0 rfl) ?_
  refine lv_iload_n hx hb dX10_leastHarm_1 rfl (lv_at hl 1 rfl) ?_
  refine wVv e0_S (As := [.int (nI S)]) (rest := []) ⟨hx, hb, hml, hown, hts⟩ (kX10_firstOrder l D cA r _ u a g T S hM hB (by omega)) (cwV 1 hts gX10_leastHarm_X10_firstOrder rfl rfl rfl (by decide +kernel) ⟨Nat.le_of_ble_eq_true rfl, Nat.le_of_ble_eq_true rfl⟩) (va_recv hK hP (ci := 10) (q0 := 0) rfl rfl) hK hP hD hS hA hE rfl hl.1 rfl (Nat.le_of_ble_eq_true rfl) dX10_leastHarm_2 ⟨Nat.zero_le _, Nat.zero_le _⟩ (fun z_3 H locs hw_2 hP hD hS => ?_)
  obtain ⟨zu4, za5⟩ := z_3
  obtain ⟨hu22_zu4, hrow_zu4, hfu_zu4, hfa_zu4⟩ := hw_2
  have hu22_zu4 : zu4 22 = nI (ol S (g 0)) := hu22_zu4
  have hrow_zu4 : ∀ k, k < ol S (g 0) → za5 21 k = nI (of1 S (g 0) k) := hrow_zu4
  have hfu_zu4 : ∀ i, i ≠ 22 → zu4 i = u i := hfu_zu4
  have hfa_zu4 : ∀ i, i ≠ 21 → za5 i = a i := hfa_zu4
  have hP : va_P D vwCl (xM cA r (zu4, za5)) H := hP
  have hD : va_D A (xM cA r (zu4, za5)) := hD
  refine lv_bipush (v := (-9)) hx hb dX10_leastHarm_5 (by decide) ?_
  refine lv_istore_n (lv' := [(3, .int (-9)), (0, .ref (r 0)), (1, .int (nI S)), (2, .int (nI till))]) hx hb dX10_leastHarm_7 rfl hl (by decide) rfl (fun ls hl => ?_)
  refine lv_iconst (v := (nI 1)) hx hb dX10_leastHarm_8 rfl ?_
  refine lv_istore (lv' := [(4, .int (nI 1)), (3, .int (-9)), (0, .ref (r 0)), (1, .int (nI S)), (2, .int (nI till))]) hx hb dX10_leastHarm_9 hl (by decide) rfl (fun ls hl => ?_)
  refine wLoop (τ := Nat × Nat × Nat × Int32 × Nat × Nat × (Nat → Int32) × (Nat → Nat → Int32)) (fun z H locs ls => (fun (mo : Nat) (k : Nat) (N : Nat) (l3 : Int32) (b : Nat) (Bc : Nat) (u1011 : (Nat → Int32)) (a1011 : (Nat → Nat → Int32)) => (mo ≤ 1) ∧ (mo = 1 → chk S L k N = true ∧ (∀ i, i < L → a1011 21 i = nI (dg N i)) ∧ ((l3 = -9 ∧ bo (fun n9 => hv g T (dg n9) L S till) L k N = (bo (fun n9 => hv g T (dg n9) L S till) L (fct L - 1) (f1c S (g 0)))) ∨ (l3 = nI b ∧ cm (b, Bc) (bo (fun n9 => hv g T (dg n9) L S till) L k N) = (bo (fun n9 => hv g T (dg n9) L S till) L (fct L - 1) (f1c S (g 0))) ∧ ∀ i, i < L → a1011 28 i = nI (dg Bc i)))) ∧ (mo = 0 → l3 = nI (bo (fun n9 => hv g T (dg n9) L S till) L (fct L - 1) (f1c S (g 0))).1 ∧ ∀ i, i < L → a1011 28 i = nI (dg (bo (fun n9 => hv g T (dg n9) L S till) L (fct L - 1) (f1c S (g 0))).2 i)) ∧ (b ≤ 20000) ∧ (∀ i : Nat, i ≠ 25 → u1011 i = zu4 i) ∧ (∀ i : Nat, i ≠ 21 → i ≠ 23 → i ≠ 24 → i ≠ 26 → i ≠ 28 → a1011 i = za5 i) ∧ (va_P D vwCl (xM cA r (u1011, a1011)) H) ∧ (va_D A (xM cA r (u1011, a1011))) ∧ (va_S A s.heap H locs) ∧ (lv_has ls 7 [(4, .int (nI mo)), (3, .int l3), (0, .ref (r 0)), (1, .int (nI S)), (2, .int (nI till))])) z.1 z.2.1 z.2.2.1 z.2.2.2.1 z.2.2.2.2.1 z.2.2.2.2.2.1 z.2.2.2.2.2.2.1 z.2.2.2.2.2.2.2) (fun z => (fun (mo : Nat) (k : Nat) (N : Nat) (l3 : Int32) (b : Nat) (Bc : Nat) (u1011 : (Nat → Int32)) (a1011 : (Nat → Nat → Int32)) => mo + k) z.1 z.2.1 z.2.2.1 z.2.2.2.1 z.2.2.2.2.1 z.2.2.2.2.2.1 z.2.2.2.2.2.2.1 z.2.2.2.2.2.2.2) (1, (fct L - 1), (f1c S (g 0)), (-9), 0, 0, zu4, za5) ⟨(show 1 ≤ 1 from Nat.le_refl 1), (show 1 = 1 → chk S L (fct L - 1) (f1c S (g 0)) = true ∧ (∀ i, i < L → za5 21 i = nI (dg (f1c S (g 0)) i)) ∧ (((-9) = -9 ∧ bo (fun n9 => hv g T (dg n9) L S till) L (fct L - 1) (f1c S (g 0)) = (bo (fun n9 => hv g T (dg n9) L S till) L (fct L - 1) (f1c S (g 0)))) ∨ ((-9) = nI 0 ∧ cm (0, 0) (bo (fun n9 => hv g T (dg n9) L S till) L (fct L - 1) (f1c S (g 0))) = (bo (fun n9 => hv g T (dg n9) L S till) L (fct L - 1) (f1c S (g 0))) ∧ ∀ i, i < L → za5 28 i = nI (dg 0 i))) from (fun _ => ⟨by rw [hLe]; exact perms_ok _ hg6 _ hSn, by rw [hLe]; exact (fun i hi => (hrow_zu4 (i) (by omega)).trans (congrArg nI (dg_f1 hg6 (by omega)).symm)), Or.inl ⟨rfl, rfl⟩⟩)), (show 1 = 0 → (-9) = nI (bo (fun n9 => hv g T (dg n9) L S till) L (fct L - 1) (f1c S (g 0))).1 ∧ ∀ i, i < L → za5 28 i = nI (dg (bo (fun n9 => hv g T (dg n9) L S till) L (fct L - 1) (f1c S (g 0))).2 i) from (fun h => absurd h (by decide))), (show 0 ≤ 20000 from by omega), (fun i h25 => rfl), (fun i h21 h23 h24 h26 h28 => rfl), hP, hD, hS, lv_sub hl [0, 1, 2, 3, 4] rfl⟩ ?_
  rintro ⟨mo, k, N, l3, b, Bc, u1011, a1011⟩ H locs ls ⟨hmo, h1, h0, hb2, hfu11, hfa11, hP, hD, hS, hl⟩ ih11
  have hmo : mo ≤ 1 := hmo
  have h1 : mo = 1 → chk S L k N = true ∧ (∀ i, i < L → a1011 21 i = nI (dg N i)) ∧ ((l3 = -9 ∧ bo (fun n9 => hv g T (dg n9) L S till) L k N = (bo (fun n9 => hv g T (dg n9) L S till) L (fct L - 1) (f1c S (g 0)))) ∨ (l3 = nI b ∧ cm (b, Bc) (bo (fun n9 => hv g T (dg n9) L S till) L k N) = (bo (fun n9 => hv g T (dg n9) L S till) L (fct L - 1) (f1c S (g 0))) ∧ ∀ i, i < L → a1011 28 i = nI (dg Bc i))) := h1
  have h0 : mo = 0 → l3 = nI (bo (fun n9 => hv g T (dg n9) L S till) L (fct L - 1) (f1c S (g 0))).1 ∧ ∀ i, i < L → a1011 28 i = nI (dg (bo (fun n9 => hv g T (dg n9) L S till) L (fct L - 1) (f1c S (g 0))).2 i) := h0
  have hb2 : b ≤ 20000 := hb2
  have hfu11 : ∀ i : Nat, i ≠ 25 → u1011 i = zu4 i := hfu11
  have hfa11 : ∀ i : Nat, i ≠ 21 → i ≠ 23 → i ≠ 24 → i ≠ 26 → i ≠ 28 → a1011 i = za5 i := hfa11
  have hP : va_P D vwCl (xM cA r (u1011, a1011)) H := hP
  have hD : va_D A (xM cA r (u1011, a1011)) := hD
  have hl : lv_has ls 7 [(4, .int (nI mo)), (3, .int l3), (0, .ref (r 0)), (1, .int (nI S)), (2, .int (nI till))] := hl
  refine lv_iload hx hb dX10_leastHarm_11 (lv_at hl 0 rfl) ?_
  refine rz_eq (x := mo) (tgt := 80) hx hb (by omega) dX10_leastHarm_13 (by decide) (fun c_6 => ?_) (fun c_6 => ?_)
  · refine lv_iload_n hx hb dX10_leastHarm_80 rfl (lv_at hl 1 rfl) ?_
    exact wIret hx hb hr hlocks (v := l3) (u1011, a1011) (⟨(h0 (by omega)).1, (h0 (by omega)).2, (fun i h22 h25 => Eq.trans (hfu11 i h25) (hfu_zu4 i h22)), (fun i h21 h23 h24 h26 h28 => Eq.trans (hfa11 i h21 h23 h24 h26 h28) (hfa_zu4 i h21))⟩) hK hP hD hS dX10_leastHarm_81
  · obtain ⟨hck, hrowN, hacc⟩ := h1 (by omega)
    have hrgN : ∀ k, k < L → dg N k < g 0 := fun k hk => bi_in hSn (chk_in hck k hk)
    have hvl : hv g T (dg N) L S till ≤ 20000 := by have h9 := hs_le2 (T := T) (f := fun x => (fs g T (dg N) L till x).length) (S := S) (n := g 0) (fun x hx => ⟨(hB.2.2.2 x hx).2.2.2.2.2.2.2, fun hb1 => fs_len hB (by rw [hLe]; exact ol_pos hx hb1) hrgN⟩); unfold hv; omega
    refine lv_aload_n hx hb dX10_leastHarm_16 rfl (lv_at hl 2 rfl) ?_
    refine lv_iload_n hx hb dX10_leastHarm_17 rfl (lv_at hl 3 rfl) ?_
    refine lv_iload_n hx hb dX10_leastHarm_18 rfl (lv_at hl 4 rfl) ?_
    refine wVi e0_S (As := [.int (nI S), .int (nI till)]) (rest := []) ⟨hx, hb, hml, hown, hts⟩ (kX10_harmOf l D cA r _ u1011 a1011 g T (dg N) L S till (MT.keep (MT.keep hM (hfu_zu4 5 (by decide)) (hfu_zu4 6 (by decide)) (hfu_zu4 7 (by decide)) (hfa_zu4 8 (by decide)) (hfa_zu4 9 (by decide)) (hfa_zu4 10 (by decide)) (hfa_zu4 11 (by decide)) (hfa_zu4 12 (by decide))) (hfu11 5 (by decide)) (hfu11 6 (by decide)) (hfu11 7 (by decide)) (hfa11 8 (by decide) (by decide) (by decide) (by decide) (by decide)) (hfa11 9 (by decide) (by decide) (by decide) (by decide) (by decide)) (hfa11 10 (by decide) (by decide) (by decide) (by decide) (by decide)) (hfa11 11 (by decide) (by decide) (by decide) (by decide) (by decide)) (hfa11 12 (by decide) (by decide) (by decide) (by decide) (by decide))) hB ((hfu11 22 (by decide)).trans ((hu22_zu4).trans (congrArg nI hLe.symm))) (by omega) (fun k hk => hrowN (k) hk) hrgN hS64 (fun x hx hb1 => by rw [hLe]; exact ol_pos hx hb1) (by omega)) (cwV 2 hts gX10_leastHarm_X10_harmOf rfl rfl rfl (by decide +kernel) ⟨Nat.le_of_ble_eq_true rfl, Nat.le_of_ble_eq_true rfl⟩) (va_recv hK hP (ci := 10) (q0 := 0) rfl rfl) hK hP hD hS hA hE rfl hl.1 rfl (Nat.le_of_ble_eq_true rfl) dX10_leastHarm_19 ⟨Nat.zero_le _, Nat.zero_le _⟩ (fun rv_7 z_9 H locs hw_8 hP hD hS => ?_)
    obtain ⟨zu10, za11⟩ := z_9
    obtain ⟨rfl, hfu_zu10, hfa_zu10⟩ := hw_8
    have hfu_zu10 : ∀ i, i ≠ 25 → zu10 i = u1011 i := hfu_zu10
    have hfa_zu10 : ∀ i, i ≠ 23 → i ≠ 24 → i ≠ 26 → za11 i = a1011 i := hfa_zu10
    have hP : va_P D vwCl (xM cA r (zu10, za11)) H := hP
    have hD : va_D A (xM cA r (zu10, za11)) := hD
    refine lv_istore (lv' := [(5, .int (nI (hv g T (dg N) L S till))), (4, .int (nI mo)), (3, .int l3), (0, .ref (r 0)), (1, .int (nI S)), (2, .int (nI till))]) hx hb dX10_leastHarm_22 hl (by decide) rfl (fun ls hl => ?_)
    rcases hacc with ⟨hl9, hfin⟩ | ⟨hlb, hfin, hbr⟩
    · have hl : lv_has ls 7 [(5, .int (nI (hv g T (dg N) L S till))), (4, .int (nI mo)), (3, .int (-9)), (0, .ref (r 0)), (1, .int (nI S)), (2, .int (nI till))] := lv_re hl 2 ⟨rfl, rfl⟩ (hl9)
      refine lv_iload_n hx hb dX10_leastHarm_24 rfl (lv_at hl 2 rfl) ?_
      refine lv_bipush (v := (-9)) hx hb dX10_leastHarm_25 (by decide) ?_
      refine lv_icmp_eq (tgt := 36) hx hb dX10_leastHarm_27 (by decide) (fun _ => ?_) (fun c_12 => absurd c_12 (by decide))
      refine lv_iload hx hb dX10_leastHarm_36 (lv_at hl 0 rfl) ?_
      refine lv_istore_n (lv' := [(3, .int (nI (hv g T (dg N) L S till))), (5, .int (nI (hv g T (dg N) L S till))), (4, .int (nI mo)), (0, .ref (r 0)), (1, .int (nI S)), (2, .int (nI till))]) hx hb dX10_leastHarm_38 rfl hl (by decide) rfl (fun ls hl => ?_)
      refine lv_iconst (v := (nI 0)) hx hb dX10_leastHarm_39 rfl ?_
      refine lv_istore (lv' := [(6, .int (nI 0)), (3, .int (nI (hv g T (dg N) L S till))), (5, .int (nI (hv g T (dg N) L S till))), (4, .int (nI mo)), (0, .ref (r 0)), (1, .int (nI S)), (2, .int (nI till))]) hx hb dX10_leastHarm_40 hl (by decide) rfl (fun ls hl => ?_)
      refine wLoop (τ := Nat × (Nat → Nat → Int32)) (fun z H locs ls => (fun (i : Nat) (a1042 : (Nat → Nat → Int32)) => (i ≤ L) ∧ (∀ j, j < i → a1042 28 j = nI (dg N j)) ∧ (∀ i : Nat, i ≠ 28 → a1042 i = za11 i) ∧ (va_P D vwCl (xM cA r (zu10, a1042)) H) ∧ (va_D A (xM cA r (zu10, a1042))) ∧ (va_S A s.heap H locs) ∧ (lv_has ls 7 [(6, .int (nI i)), (3, .int (nI (hv g T (dg N) L S till))), (0, .ref (r 0)), (1, .int (nI S)), (2, .int (nI till))])) z.1 z.2) (fun z => (fun (i : Nat) (a1042 : (Nat → Nat → Int32)) => L - i) z.1 z.2) (0, za11) ⟨(show 0 ≤ L from Nat.zero_le _), (show ∀ j, j < 0 → za11 28 j = nI (dg N j) from (fun j h => absurd h (Nat.not_lt_zero j))), (fun i h28 => rfl), hP, hD, hS, lv_sub hl [0, 1, 4, 5, 6] rfl⟩ ?_
      rintro ⟨i, a1042⟩ H locs ls ⟨hi, h28, hfa42, hP, hD, hS, hl⟩ ih42
      have hi : i ≤ L := hi
      have h28 : ∀ j, j < i → a1042 28 j = nI (dg N j) := h28
      have hfa42 : ∀ i : Nat, i ≠ 28 → a1042 i = za11 i := hfa42
      have hP : va_P D vwCl (xM cA r (zu10, a1042)) H := hP
      have hD : va_D A (xM cA r (zu10, a1042)) := hD
      have hl : lv_has ls 7 [(6, .int (nI i)), (3, .int (nI (hv g T (dg N) L S till))), (0, .ref (r 0)), (1, .int (nI S)), (2, .int (nI till))] := hl
      refine lv_iload hx hb dX10_leastHarm_42 (lv_at hl 0 rfl) ?_
      refine lv_aload_n hx hb dX10_leastHarm_44 rfl (lv_at hl 2 rfl) ?_
      refine va_get (D := D) (ci := 10) (v := .int (nI L)) (C := RX10) (T := TX10) (N := 34) hx hb hts hinX10 hown hK hP 0 rfl rfl 22 (by decide) (hts (.fieldLink RX10 145 "OneNailModel" "rowLong" "I") (by decide +kernel)) (fun _ h9 => h9) (congrArg (fun z => some (Value.int z)) ((hfu_zu10 22 (by decide)).trans ((hfu11 22 (by decide)).trans ((hu22_zu4).trans (congrArg nI hLe.symm))))) dX10_leastHarm_45 ?_
      refine rn_ge (x := i) (y := L) (tgt := 71) hx hb (by omega) (by omega) dX10_leastHarm_48 (by decide) (fun c_13 => ?_) (fun c_13 => ?_)
      · have hiL : i = L := by omega
        have h28 : ∀ j, j < L → a1042 28 j = nI (dg N j) := by rw [← hiL]; exact h28
        refine lv_aload_n hx hb dX10_leastHarm_71 rfl (lv_at hl 2 rfl) ?_
        refine wVi e0_S (As := []) (rest := []) ⟨hx, hb, hml, hown, hts⟩ (kX10_nextOrder l D cA r _ zu10 a1042 L N ((hfu_zu10 22 (by decide)).trans ((hfu11 22 (by decide)).trans ((hu22_zu4).trans (congrArg nI hLe.symm)))) hL6 (fun k hk => (congrFun (hfa42 21 (by decide)) (k)).trans ((congrFun (hfa_zu10 21 (by decide) (by decide) (by decide)) (k)).trans (hrowN (k) hk)))) (cwV 0 hts gX10_leastHarm_X10_nextOrder rfl rfl rfl (by decide +kernel) ⟨Nat.le_of_ble_eq_true rfl, Nat.le_of_ble_eq_true rfl⟩) (va_recv hK hP (ci := 10) (q0 := 0) rfl rfl) hK hP hD hS hA hE rfl hl.1 rfl (Nat.le_of_ble_eq_true rfl) dX10_leastHarm_72 ⟨Nat.zero_le _, Nat.zero_le _⟩ (fun rv_14 z_16 H locs hw_15 hP hD hS => ?_)
        obtain ⟨zu17, za18⟩ := z_16
        rcases hw_15 with ⟨rfl, hfk0, hz_zu17⟩ | ⟨rfl, hfk1, hzu_zu17, hrw_zu17, hfa_zu17⟩
        · cases hz_zu17
          have hP : va_P D vwCl (xM cA r (zu10, a1042)) H := hP
          have hD : va_D A (xM cA r (zu10, a1042)) := hD
          refine lv_istore (lv' := [(4, .int (nI 0)), (6, .int (nI i)), (3, .int (nI (hv g T (dg N) L S till))), (0, .ref (r 0)), (1, .int (nI S)), (2, .int (nI till))]) hx hb dX10_leastHarm_75 hl (by decide) rfl (fun ls hl => ?_)
          refine lv_goto (tgt := 11) hx hb dX10_leastHarm_77 (by decide) ?_
          have hk0 := chk_end hck hfk0
          have hfe : (bo (fun n9 => hv g T (dg n9) L S till) L (fct L - 1) (f1c S (g 0))) = ((hv g T (dg N) L S till), N) := (by rw [hk0] at hfin; exact hfin.symm)
          exact ih11 (0, 0, 0, (nI (hv g T (dg N) L S till)), 0, 0, zu10, a1042) _ _ _ (show 0 + 0 < mo + k from by omega) ⟨(show 0 ≤ 1 from Nat.zero_le _), (show 0 = 1 → chk S L 0 0 = true ∧ (∀ i, i < L → a1042 21 i = nI (dg 0 i)) ∧ (((nI (hv g T (dg N) L S till)) = -9 ∧ bo (fun n9 => hv g T (dg n9) L S till) L 0 0 = (bo (fun n9 => hv g T (dg n9) L S till) L (fct L - 1) (f1c S (g 0)))) ∨ ((nI (hv g T (dg N) L S till)) = nI 0 ∧ cm (0, 0) (bo (fun n9 => hv g T (dg n9) L S till) L 0 0) = (bo (fun n9 => hv g T (dg n9) L S till) L (fct L - 1) (f1c S (g 0))) ∧ ∀ i, i < L → a1042 28 i = nI (dg 0 i))) from (fun h => absurd h (by decide))), (show 0 = 0 → (nI (hv g T (dg N) L S till)) = nI (bo (fun n9 => hv g T (dg n9) L S till) L (fct L - 1) (f1c S (g 0))).1 ∧ ∀ i, i < L → a1042 28 i = nI (dg (bo (fun n9 => hv g T (dg n9) L S till) L (fct L - 1) (f1c S (g 0))).2 i) from (fun _ => by rw [hfe]; exact ⟨rfl, h28⟩)), (show 0 ≤ 20000 from by omega), (fun i h25 => Eq.trans (hfu_zu10 i h25) (hfu11 i h25)), (fun i h21 h23 h24 h26 h28 => Eq.trans (hfa42 i h28) (Eq.trans (hfa_zu10 i h23 h24 h26) (hfa11 i h21 h23 h24 h26 h28))), hP, hD, hS, lv_sub hl [0, 2, 3, 4, 5] rfl⟩
        · have hzu_zu17 : zu10 = zu17 := Eq.symm hzu_zu17
          subst hzu_zu17
          have hrw_zu17 : ∀ k, k < L → za18 21 k = nI (dg (nx N L) k) := hrw_zu17
          have hfa_zu17 : ∀ i, i ≠ 21 → za18 i = a1042 i := hfa_zu17
          have hP : va_P D vwCl (xM cA r (zu10, za18)) H := hP
          have hD : va_D A (xM cA r (zu10, za18)) := hD
          refine lv_istore (lv' := [(4, .int (nI 1)), (6, .int (nI i)), (3, .int (nI (hv g T (dg N) L S till))), (0, .ref (r 0)), (1, .int (nI S)), (2, .int (nI till))]) hx hb dX10_leastHarm_75 hl (by decide) rfl (fun ls hl => ?_)
          refine lv_goto (tgt := 11) hx hb dX10_leastHarm_77 (by decide) ?_
          obtain ⟨hk0, hck2⟩ := chk_next hck hfk1
          have hbo : bo (fun n9 => hv g T (dg n9) L S till) L k N = cm ((hv g T (dg N) L S till), N) (bo (fun n9 => hv g T (dg n9) L S till) L (k - 1) (nx N L)) := by obtain ⟨k2, rfl⟩ : ∃ k2, k = k2 + 1 := ⟨k - 1, by omega⟩; rfl
          exact ih11 (1, (k - 1), (nx N L), (nI (hv g T (dg N) L S till)), (hv g T (dg N) L S till), N, zu10, za18) _ _ _ (show 1 + (k - 1) < mo + k from by omega) ⟨(show 1 ≤ 1 from Nat.le_refl 1), (show 1 = 1 → chk S L (k - 1) (nx N L) = true ∧ (∀ i, i < L → za18 21 i = nI (dg (nx N L) i)) ∧ (((nI (hv g T (dg N) L S till)) = -9 ∧ bo (fun n9 => hv g T (dg n9) L S till) L (k - 1) (nx N L) = (bo (fun n9 => hv g T (dg n9) L S till) L (fct L - 1) (f1c S (g 0)))) ∨ ((nI (hv g T (dg N) L S till)) = nI (hv g T (dg N) L S till) ∧ cm ((hv g T (dg N) L S till), N) (bo (fun n9 => hv g T (dg n9) L S till) L (k - 1) (nx N L)) = (bo (fun n9 => hv g T (dg n9) L S till) L (fct L - 1) (f1c S (g 0))) ∧ ∀ i, i < L → za18 28 i = nI (dg N i))) from (fun _ => ⟨hck2, hrw_zu17, Or.inr ⟨rfl, (by rw [hbo] at hfin; exact hfin), (fun i hi => (congrFun (hfa_zu17 28 (by decide)) i).trans (h28 i hi))⟩⟩)), (show 1 = 0 → (nI (hv g T (dg N) L S till)) = nI (bo (fun n9 => hv g T (dg n9) L S till) L (fct L - 1) (f1c S (g 0))).1 ∧ ∀ i, i < L → za18 28 i = nI (dg (bo (fun n9 => hv g T (dg n9) L S till) L (fct L - 1) (f1c S (g 0))).2 i) from (fun h => absurd h (by decide))), (show (hv g T (dg N) L S till) ≤ 20000 from by omega), (fun i h25 => Eq.trans (hfu_zu10 i h25) (hfu11 i h25)), (fun i h21 h23 h24 h26 h28 => Eq.trans (hfa_zu17 i h21) (Eq.trans (hfa42 i h28) (Eq.trans (hfa_zu10 i h23 h24 h26) (hfa11 i h21 h23 h24 h26 h28)))), hP, hD, hS, lv_sub hl [0, 2, 3, 4, 5] rfl⟩
      · refine lv_aload_n hx hb dX10_leastHarm_51 rfl (lv_at hl 2 rfl) ?_
        refine va_get (D := D) (ci := 10) (v := .ref (r 28)) (C := RX10) (T := TX10) (N := 34) hx hb hts hinX10 hown hK hP 0 rfl rfl 28 (by decide) (hts (.fieldLink RX10 65 "OneNailModel" "bestRow" "[I") (by decide +kernel)) (fun _ h9 => h9) rfl dX10_leastHarm_52 ?_
        refine lv_iload hx hb dX10_leastHarm_55 (lv_at hl 0 rfl) ?_
        refine lv_aload_n hx hb dX10_leastHarm_57 rfl (lv_at hl 2 rfl) ?_
        refine va_get (D := D) (ci := 10) (v := .ref (r 21)) (C := RX10) (T := TX10) (N := 34) hx hb hts hinX10 hown hK hP 0 rfl rfl 21 (by decide) (hts (.fieldLink RX10 49 "OneNailModel" "row" "[I") (by decide +kernel)) (fun _ h9 => h9) rfl dX10_leastHarm_58 ?_
        refine lv_iload hx hb dX10_leastHarm_61 (lv_at hl 0 rfl) ?_
        refine ra_iald hx hb hK hP 14 0 (n := 8) (f := (a1042 21)) (j := i) (v := (nI (dg N i))) rfl rfl (by omega) (by decide) ((congrFun (hfa42 21 (by decide)) (i)).trans ((congrFun (hfa_zu10 21 (by decide) (by decide) (by decide)) (i)).trans (hrowN (i) (by omega)))) dX10_leastHarm_63 ?_
        refine ra_iast hx hb hK hP hD hS 19 0 (n := 6) (f := (a1042 28)) (j := i) (x := (nI (dg N i))) rfl rfl (by omega) (by decide) dX10_leastHarm_64 (fun H locs hP hD hS => ?_)
        have hP : va_P D vwCl (xM cA r (zu10, (va_up a1042 28 (upd (a1042 28) i (nI (dg N i)))))) H := hP
        have hD : va_D A (xM cA r (zu10, (va_up a1042 28 (upd (a1042 28) i (nI (dg N i)))))) := hD
        refine rn_iinc (x := i) (d := 1) (lv' := [(6, .int (nI (i + 1))), (3, .int (nI (hv g T (dg N) L S till))), (0, .ref (r 0)), (1, .int (nI S)), (2, .int (nI till))]) hx hb rfl dX10_leastHarm_65 hl (k := 0) rfl (by decide) rfl (fun ls hl => ?_)
        refine lv_goto (tgt := 42) hx hb dX10_leastHarm_68 (by decide) ?_
        exact ih42 ((i + 1), (va_up a1042 28 (upd (a1042 28) i (nI (dg N i))))) _ _ _ (show L - (i + 1) < L - i from by omega) ⟨(show (i + 1) ≤ L from by omega), (show ∀ j, j < (i + 1) → (va_up a1042 28 (upd (a1042 28) i (nI (dg N i)))) 28 j = nI (dg N j) from (show ∀ j, j < i + 1 → (upd (a1042 28) i (nI (dg N i))) j = nI (dg N j) from arr_push (F := fun j => nI (dg N j)) h28 rfl)), (fun i h28 => Eq.trans (vup_ne h28) (hfa42 i h28)), hP, hD, hS, lv_sub hl [0, 1, 2, 3, 4] rfl⟩
    · have hl : lv_has ls 7 [(5, .int (nI (hv g T (dg N) L S till))), (4, .int (nI mo)), (3, .int (nI b)), (0, .ref (r 0)), (1, .int (nI S)), (2, .int (nI till))] := lv_re hl 2 ⟨rfl, rfl⟩ (hlb)
      refine lv_iload_n hx hb dX10_leastHarm_24 rfl (lv_at hl 2 rfl) ?_
      refine lv_bipush (v := (-9)) hx hb dX10_leastHarm_25 (by decide) ?_
      refine lv_icmp_eq (tgt := 36) hx hb dX10_leastHarm_27 (by decide) (fun c_19 => absurd c_19 (nI_ne9 (by omega))) (fun c_19 => ?_)
      refine lv_iload hx hb dX10_leastHarm_30 (lv_at hl 0 rfl) ?_
      refine lv_iload_n hx hb dX10_leastHarm_32 rfl (lv_at hl 2 rfl) ?_
      refine rn_ge (x := hv g T (dg N) L S till) (y := b) (tgt := 71) hx hb (by omega) (by omega) dX10_leastHarm_33 (by decide) (fun c_20 => ?_) (fun c_20 => ?_)
      · refine lv_aload_n hx hb dX10_leastHarm_71 rfl (lv_at hl 3 rfl) ?_
        refine wVi e0_S (As := []) (rest := []) ⟨hx, hb, hml, hown, hts⟩ (kX10_nextOrder l D cA r _ zu10 za11 L N ((hfu_zu10 22 (by decide)).trans ((hfu11 22 (by decide)).trans ((hu22_zu4).trans (congrArg nI hLe.symm)))) hL6 (fun k hk => (congrFun (hfa_zu10 21 (by decide) (by decide) (by decide)) (k)).trans (hrowN (k) hk))) (cwV 0 hts gX10_leastHarm_X10_nextOrder rfl rfl rfl (by decide +kernel) ⟨Nat.le_of_ble_eq_true rfl, Nat.le_of_ble_eq_true rfl⟩) (va_recv hK hP (ci := 10) (q0 := 0) rfl rfl) hK hP hD hS hA hE rfl hl.1 rfl (Nat.le_of_ble_eq_true rfl) dX10_leastHarm_72 ⟨Nat.zero_le _, Nat.zero_le _⟩ (fun rv_21 z_23 H locs hw_22 hP hD hS => ?_)
        obtain ⟨zu24, za25⟩ := z_23
        rcases hw_22 with ⟨rfl, hfk0, hz_zu24⟩ | ⟨rfl, hfk1, hzu_zu24, hrw_zu24, hfa_zu24⟩
        · cases hz_zu24
          have hP : va_P D vwCl (xM cA r (zu10, za11)) H := hP
          have hD : va_D A (xM cA r (zu10, za11)) := hD
          refine lv_istore (lv' := [(4, .int (nI 0)), (5, .int (nI (hv g T (dg N) L S till))), (3, .int (nI b)), (0, .ref (r 0)), (1, .int (nI S)), (2, .int (nI till))]) hx hb dX10_leastHarm_75 hl (by decide) rfl (fun ls hl => ?_)
          refine lv_goto (tgt := 11) hx hb dX10_leastHarm_77 (by decide) ?_
          have hk0 := chk_end hck hfk0
          have hfe : (bo (fun n9 => hv g T (dg n9) L S till) L (fct L - 1) (f1c S (g 0))) = (b, Bc) := (by rw [hk0] at hfin; rw [← hfin]; show cm (b, Bc) ((hv g T (dg N) L S till), N) = _; unfold cm; rw [if_neg (by omega)])
          exact ih11 (0, 0, 0, (nI b), 0, 0, zu10, za11) _ _ _ (show 0 + 0 < mo + k from by omega) ⟨(show 0 ≤ 1 from Nat.zero_le _), (show 0 = 1 → chk S L 0 0 = true ∧ (∀ i, i < L → za11 21 i = nI (dg 0 i)) ∧ (((nI b) = -9 ∧ bo (fun n9 => hv g T (dg n9) L S till) L 0 0 = (bo (fun n9 => hv g T (dg n9) L S till) L (fct L - 1) (f1c S (g 0)))) ∨ ((nI b) = nI 0 ∧ cm (0, 0) (bo (fun n9 => hv g T (dg n9) L S till) L 0 0) = (bo (fun n9 => hv g T (dg n9) L S till) L (fct L - 1) (f1c S (g 0))) ∧ ∀ i, i < L → za11 28 i = nI (dg 0 i))) from (fun h => absurd h (by decide))), (show 0 = 0 → (nI b) = nI (bo (fun n9 => hv g T (dg n9) L S till) L (fct L - 1) (f1c S (g 0))).1 ∧ ∀ i, i < L → za11 28 i = nI (dg (bo (fun n9 => hv g T (dg n9) L S till) L (fct L - 1) (f1c S (g 0))).2 i) from (fun _ => by rw [hfe]; exact ⟨rfl, (fun i hi => (congrFun (hfa_zu10 28 (by decide) (by decide) (by decide)) i).trans (hbr i hi))⟩)), (show 0 ≤ 20000 from by omega), (fun i h25 => Eq.trans (hfu_zu10 i h25) (hfu11 i h25)), (fun i h21 h23 h24 h26 h28 => Eq.trans (hfa_zu10 i h23 h24 h26) (hfa11 i h21 h23 h24 h26 h28)), hP, hD, hS, lv_sub hl [0, 2, 3, 4, 5] rfl⟩
        · have hzu_zu24 : zu10 = zu24 := Eq.symm hzu_zu24
          subst hzu_zu24
          have hrw_zu24 : ∀ k, k < L → za25 21 k = nI (dg (nx N L) k) := hrw_zu24
          have hfa_zu24 : ∀ i, i ≠ 21 → za25 i = za11 i := hfa_zu24
          have hP : va_P D vwCl (xM cA r (zu10, za25)) H := hP
          have hD : va_D A (xM cA r (zu10, za25)) := hD
          refine lv_istore (lv' := [(4, .int (nI 1)), (5, .int (nI (hv g T (dg N) L S till))), (3, .int (nI b)), (0, .ref (r 0)), (1, .int (nI S)), (2, .int (nI till))]) hx hb dX10_leastHarm_75 hl (by decide) rfl (fun ls hl => ?_)
          refine lv_goto (tgt := 11) hx hb dX10_leastHarm_77 (by decide) ?_
          obtain ⟨hk0, hck2⟩ := chk_next hck hfk1
          have hbo : bo (fun n9 => hv g T (dg n9) L S till) L k N = cm ((hv g T (dg N) L S till), N) (bo (fun n9 => hv g T (dg n9) L S till) L (k - 1) (nx N L)) := by obtain ⟨k2, rfl⟩ : ∃ k2, k = k2 + 1 := ⟨k - 1, by omega⟩; rfl
          exact ih11 (1, (k - 1), (nx N L), (nI b), b, Bc, zu10, za25) _ _ _ (show 1 + (k - 1) < mo + k from by omega) ⟨(show 1 ≤ 1 from Nat.le_refl 1), (show 1 = 1 → chk S L (k - 1) (nx N L) = true ∧ (∀ i, i < L → za25 21 i = nI (dg (nx N L) i)) ∧ (((nI b) = -9 ∧ bo (fun n9 => hv g T (dg n9) L S till) L (k - 1) (nx N L) = (bo (fun n9 => hv g T (dg n9) L S till) L (fct L - 1) (f1c S (g 0)))) ∨ ((nI b) = nI b ∧ cm (b, Bc) (bo (fun n9 => hv g T (dg n9) L S till) L (k - 1) (nx N L)) = (bo (fun n9 => hv g T (dg n9) L S till) L (fct L - 1) (f1c S (g 0))) ∧ ∀ i, i < L → za25 28 i = nI (dg Bc i))) from (fun _ => ⟨hck2, hrw_zu24, Or.inr ⟨rfl, (by rw [hbo, cm_as, show cm (b, Bc) ((hv g T (dg N) L S till), N) = (b, Bc) from (by unfold cm; rw [if_neg (by omega)])] at hfin; exact hfin), (fun i hi => (congrFun (Eq.trans (hfa_zu24 28 (by decide)) (hfa_zu10 28 (by decide) (by decide) (by decide))) i).trans (hbr i hi))⟩⟩)), (show 1 = 0 → (nI b) = nI (bo (fun n9 => hv g T (dg n9) L S till) L (fct L - 1) (f1c S (g 0))).1 ∧ ∀ i, i < L → za25 28 i = nI (dg (bo (fun n9 => hv g T (dg n9) L S till) L (fct L - 1) (f1c S (g 0))).2 i) from (fun h => absurd h (by decide))), (show b ≤ 20000 from by omega), (fun i h25 => Eq.trans (hfu_zu10 i h25) (hfu11 i h25)), (fun i h21 h23 h24 h26 h28 => Eq.trans (hfa_zu24 i h21) (Eq.trans (hfa_zu10 i h23 h24 h26) (hfa11 i h21 h23 h24 h26 h28))), hP, hD, hS, lv_sub hl [0, 2, 3, 4, 5] rfl⟩
      · refine lv_iload hx hb dX10_leastHarm_36 (lv_at hl 0 rfl) ?_
        refine lv_istore_n (lv' := [(3, .int (nI (hv g T (dg N) L S till))), (5, .int (nI (hv g T (dg N) L S till))), (4, .int (nI mo)), (0, .ref (r 0)), (1, .int (nI S)), (2, .int (nI till))]) hx hb dX10_leastHarm_38 rfl hl (by decide) rfl (fun ls hl => ?_)
        refine lv_iconst (v := (nI 0)) hx hb dX10_leastHarm_39 rfl ?_
        refine lv_istore (lv' := [(6, .int (nI 0)), (3, .int (nI (hv g T (dg N) L S till))), (5, .int (nI (hv g T (dg N) L S till))), (4, .int (nI mo)), (0, .ref (r 0)), (1, .int (nI S)), (2, .int (nI till))]) hx hb dX10_leastHarm_40 hl (by decide) rfl (fun ls hl => ?_)
        refine wLoop (τ := Nat × (Nat → Nat → Int32)) (fun z H locs ls => (fun (i : Nat) (a1042 : (Nat → Nat → Int32)) => (i ≤ L) ∧ (∀ j, j < i → a1042 28 j = nI (dg N j)) ∧ (∀ i : Nat, i ≠ 28 → a1042 i = za11 i) ∧ (va_P D vwCl (xM cA r (zu10, a1042)) H) ∧ (va_D A (xM cA r (zu10, a1042))) ∧ (va_S A s.heap H locs) ∧ (lv_has ls 7 [(6, .int (nI i)), (3, .int (nI (hv g T (dg N) L S till))), (0, .ref (r 0)), (1, .int (nI S)), (2, .int (nI till))])) z.1 z.2) (fun z => (fun (i : Nat) (a1042 : (Nat → Nat → Int32)) => L - i) z.1 z.2) (0, za11) ⟨(show 0 ≤ L from Nat.zero_le _), (show ∀ j, j < 0 → za11 28 j = nI (dg N j) from (fun j h => absurd h (Nat.not_lt_zero j))), (fun i h28 => rfl), hP, hD, hS, lv_sub hl [0, 1, 4, 5, 6] rfl⟩ ?_
        rintro ⟨i, a1042⟩ H locs ls ⟨hi, h28, hfa42, hP, hD, hS, hl⟩ ih42
        have hi : i ≤ L := hi
        have h28 : ∀ j, j < i → a1042 28 j = nI (dg N j) := h28
        have hfa42 : ∀ i : Nat, i ≠ 28 → a1042 i = za11 i := hfa42
        have hP : va_P D vwCl (xM cA r (zu10, a1042)) H := hP
        have hD : va_D A (xM cA r (zu10, a1042)) := hD
        have hl : lv_has ls 7 [(6, .int (nI i)), (3, .int (nI (hv g T (dg N) L S till))), (0, .ref (r 0)), (1, .int (nI S)), (2, .int (nI till))] := hl
        refine lv_iload hx hb dX10_leastHarm_42 (lv_at hl 0 rfl) ?_
        refine lv_aload_n hx hb dX10_leastHarm_44 rfl (lv_at hl 2 rfl) ?_
        refine va_get (D := D) (ci := 10) (v := .int (nI L)) (C := RX10) (T := TX10) (N := 34) hx hb hts hinX10 hown hK hP 0 rfl rfl 22 (by decide) (hts (.fieldLink RX10 145 "OneNailModel" "rowLong" "I") (by decide +kernel)) (fun _ h9 => h9) (congrArg (fun z => some (Value.int z)) ((hfu_zu10 22 (by decide)).trans ((hfu11 22 (by decide)).trans ((hu22_zu4).trans (congrArg nI hLe.symm))))) dX10_leastHarm_45 ?_
        refine rn_ge (x := i) (y := L) (tgt := 71) hx hb (by omega) (by omega) dX10_leastHarm_48 (by decide) (fun c_26 => ?_) (fun c_26 => ?_)
        · have hiL : i = L := by omega
          have h28 : ∀ j, j < L → a1042 28 j = nI (dg N j) := by rw [← hiL]; exact h28
          refine lv_aload_n hx hb dX10_leastHarm_71 rfl (lv_at hl 2 rfl) ?_
          refine wVi e0_S (As := []) (rest := []) ⟨hx, hb, hml, hown, hts⟩ (kX10_nextOrder l D cA r _ zu10 a1042 L N ((hfu_zu10 22 (by decide)).trans ((hfu11 22 (by decide)).trans ((hu22_zu4).trans (congrArg nI hLe.symm)))) hL6 (fun k hk => (congrFun (hfa42 21 (by decide)) (k)).trans ((congrFun (hfa_zu10 21 (by decide) (by decide) (by decide)) (k)).trans (hrowN (k) hk)))) (cwV 0 hts gX10_leastHarm_X10_nextOrder rfl rfl rfl (by decide +kernel) ⟨Nat.le_of_ble_eq_true rfl, Nat.le_of_ble_eq_true rfl⟩) (va_recv hK hP (ci := 10) (q0 := 0) rfl rfl) hK hP hD hS hA hE rfl hl.1 rfl (Nat.le_of_ble_eq_true rfl) dX10_leastHarm_72 ⟨Nat.zero_le _, Nat.zero_le _⟩ (fun rv_27 z_29 H locs hw_28 hP hD hS => ?_)
          obtain ⟨zu30, za31⟩ := z_29
          rcases hw_28 with ⟨rfl, hfk0, hz_zu30⟩ | ⟨rfl, hfk1, hzu_zu30, hrw_zu30, hfa_zu30⟩
          · cases hz_zu30
            have hP : va_P D vwCl (xM cA r (zu10, a1042)) H := hP
            have hD : va_D A (xM cA r (zu10, a1042)) := hD
            refine lv_istore (lv' := [(4, .int (nI 0)), (6, .int (nI i)), (3, .int (nI (hv g T (dg N) L S till))), (0, .ref (r 0)), (1, .int (nI S)), (2, .int (nI till))]) hx hb dX10_leastHarm_75 hl (by decide) rfl (fun ls hl => ?_)
            refine lv_goto (tgt := 11) hx hb dX10_leastHarm_77 (by decide) ?_
            have hk0 := chk_end hck hfk0
            have hfe : (bo (fun n9 => hv g T (dg n9) L S till) L (fct L - 1) (f1c S (g 0))) = ((hv g T (dg N) L S till), N) := (by rw [hk0] at hfin; rw [← hfin]; show cm (b, Bc) ((hv g T (dg N) L S till), N) = _; unfold cm; rw [if_pos (by omega)])
            exact ih11 (0, 0, 0, (nI (hv g T (dg N) L S till)), 0, 0, zu10, a1042) _ _ _ (show 0 + 0 < mo + k from by omega) ⟨(show 0 ≤ 1 from Nat.zero_le _), (show 0 = 1 → chk S L 0 0 = true ∧ (∀ i, i < L → a1042 21 i = nI (dg 0 i)) ∧ (((nI (hv g T (dg N) L S till)) = -9 ∧ bo (fun n9 => hv g T (dg n9) L S till) L 0 0 = (bo (fun n9 => hv g T (dg n9) L S till) L (fct L - 1) (f1c S (g 0)))) ∨ ((nI (hv g T (dg N) L S till)) = nI 0 ∧ cm (0, 0) (bo (fun n9 => hv g T (dg n9) L S till) L 0 0) = (bo (fun n9 => hv g T (dg n9) L S till) L (fct L - 1) (f1c S (g 0))) ∧ ∀ i, i < L → a1042 28 i = nI (dg 0 i))) from (fun h => absurd h (by decide))), (show 0 = 0 → (nI (hv g T (dg N) L S till)) = nI (bo (fun n9 => hv g T (dg n9) L S till) L (fct L - 1) (f1c S (g 0))).1 ∧ ∀ i, i < L → a1042 28 i = nI (dg (bo (fun n9 => hv g T (dg n9) L S till) L (fct L - 1) (f1c S (g 0))).2 i) from (fun _ => by rw [hfe]; exact ⟨rfl, h28⟩)), (show 0 ≤ 20000 from by omega), (fun i h25 => Eq.trans (hfu_zu10 i h25) (hfu11 i h25)), (fun i h21 h23 h24 h26 h28 => Eq.trans (hfa42 i h28) (Eq.trans (hfa_zu10 i h23 h24 h26) (hfa11 i h21 h23 h24 h26 h28))), hP, hD, hS, lv_sub hl [0, 2, 3, 4, 5] rfl⟩
          · have hzu_zu30 : zu10 = zu30 := Eq.symm hzu_zu30
            subst hzu_zu30
            have hrw_zu30 : ∀ k, k < L → za31 21 k = nI (dg (nx N L) k) := hrw_zu30
            have hfa_zu30 : ∀ i, i ≠ 21 → za31 i = a1042 i := hfa_zu30
            have hP : va_P D vwCl (xM cA r (zu10, za31)) H := hP
            have hD : va_D A (xM cA r (zu10, za31)) := hD
            refine lv_istore (lv' := [(4, .int (nI 1)), (6, .int (nI i)), (3, .int (nI (hv g T (dg N) L S till))), (0, .ref (r 0)), (1, .int (nI S)), (2, .int (nI till))]) hx hb dX10_leastHarm_75 hl (by decide) rfl (fun ls hl => ?_)
            refine lv_goto (tgt := 11) hx hb dX10_leastHarm_77 (by decide) ?_
            obtain ⟨hk0, hck2⟩ := chk_next hck hfk1
            have hbo : bo (fun n9 => hv g T (dg n9) L S till) L k N = cm ((hv g T (dg N) L S till), N) (bo (fun n9 => hv g T (dg n9) L S till) L (k - 1) (nx N L)) := by obtain ⟨k2, rfl⟩ : ∃ k2, k = k2 + 1 := ⟨k - 1, by omega⟩; rfl
            exact ih11 (1, (k - 1), (nx N L), (nI (hv g T (dg N) L S till)), (hv g T (dg N) L S till), N, zu10, za31) _ _ _ (show 1 + (k - 1) < mo + k from by omega) ⟨(show 1 ≤ 1 from Nat.le_refl 1), (show 1 = 1 → chk S L (k - 1) (nx N L) = true ∧ (∀ i, i < L → za31 21 i = nI (dg (nx N L) i)) ∧ (((nI (hv g T (dg N) L S till)) = -9 ∧ bo (fun n9 => hv g T (dg n9) L S till) L (k - 1) (nx N L) = (bo (fun n9 => hv g T (dg n9) L S till) L (fct L - 1) (f1c S (g 0)))) ∨ ((nI (hv g T (dg N) L S till)) = nI (hv g T (dg N) L S till) ∧ cm ((hv g T (dg N) L S till), N) (bo (fun n9 => hv g T (dg n9) L S till) L (k - 1) (nx N L)) = (bo (fun n9 => hv g T (dg n9) L S till) L (fct L - 1) (f1c S (g 0))) ∧ ∀ i, i < L → za31 28 i = nI (dg N i))) from (fun _ => ⟨hck2, hrw_zu30, Or.inr ⟨rfl, (by rw [hbo, cm_as, show cm (b, Bc) ((hv g T (dg N) L S till), N) = ((hv g T (dg N) L S till), N) from (by unfold cm; rw [if_pos (by omega)])] at hfin; exact hfin), (fun i hi => (congrFun (hfa_zu30 28 (by decide)) i).trans (h28 i hi))⟩⟩)), (show 1 = 0 → (nI (hv g T (dg N) L S till)) = nI (bo (fun n9 => hv g T (dg n9) L S till) L (fct L - 1) (f1c S (g 0))).1 ∧ ∀ i, i < L → za31 28 i = nI (dg (bo (fun n9 => hv g T (dg n9) L S till) L (fct L - 1) (f1c S (g 0))).2 i) from (fun h => absurd h (by decide))), (show (hv g T (dg N) L S till) ≤ 20000 from by omega), (fun i h25 => Eq.trans (hfu_zu10 i h25) (hfu11 i h25)), (fun i h21 h23 h24 h26 h28 => Eq.trans (hfa_zu30 i h21) (Eq.trans (hfa42 i h28) (Eq.trans (hfa_zu10 i h23 h24 h26) (hfa11 i h21 h23 h24 h26 h28)))), hP, hD, hS, lv_sub hl [0, 2, 3, 4, 5] rfl⟩
        · refine lv_aload_n hx hb dX10_leastHarm_51 rfl (lv_at hl 2 rfl) ?_
          refine va_get (D := D) (ci := 10) (v := .ref (r 28)) (C := RX10) (T := TX10) (N := 34) hx hb hts hinX10 hown hK hP 0 rfl rfl 28 (by decide) (hts (.fieldLink RX10 65 "OneNailModel" "bestRow" "[I") (by decide +kernel)) (fun _ h9 => h9) rfl dX10_leastHarm_52 ?_
          refine lv_iload hx hb dX10_leastHarm_55 (lv_at hl 0 rfl) ?_
          refine lv_aload_n hx hb dX10_leastHarm_57 rfl (lv_at hl 2 rfl) ?_
          refine va_get (D := D) (ci := 10) (v := .ref (r 21)) (C := RX10) (T := TX10) (N := 34) hx hb hts hinX10 hown hK hP 0 rfl rfl 21 (by decide) (hts (.fieldLink RX10 49 "OneNailModel" "row" "[I") (by decide +kernel)) (fun _ h9 => h9) rfl dX10_leastHarm_58 ?_
          refine lv_iload hx hb dX10_leastHarm_61 (lv_at hl 0 rfl) ?_
          refine ra_iald hx hb hK hP 14 0 (n := 8) (f := (a1042 21)) (j := i) (v := (nI (dg N i))) rfl rfl (by omega) (by decide) ((congrFun (hfa42 21 (by decide)) (i)).trans ((congrFun (hfa_zu10 21 (by decide) (by decide) (by decide)) (i)).trans (hrowN (i) (by omega)))) dX10_leastHarm_63 ?_
          refine ra_iast hx hb hK hP hD hS 19 0 (n := 6) (f := (a1042 28)) (j := i) (x := (nI (dg N i))) rfl rfl (by omega) (by decide) dX10_leastHarm_64 (fun H locs hP hD hS => ?_)
          have hP : va_P D vwCl (xM cA r (zu10, (va_up a1042 28 (upd (a1042 28) i (nI (dg N i)))))) H := hP
          have hD : va_D A (xM cA r (zu10, (va_up a1042 28 (upd (a1042 28) i (nI (dg N i)))))) := hD
          refine rn_iinc (x := i) (d := 1) (lv' := [(6, .int (nI (i + 1))), (3, .int (nI (hv g T (dg N) L S till))), (0, .ref (r 0)), (1, .int (nI S)), (2, .int (nI till))]) hx hb rfl dX10_leastHarm_65 hl (k := 0) rfl (by decide) rfl (fun ls hl => ?_)
          refine lv_goto (tgt := 42) hx hb dX10_leastHarm_68 (by decide) ?_
          exact ih42 ((i + 1), (va_up a1042 28 (upd (a1042 28) i (nI (dg N i))))) _ _ _ (show L - (i + 1) < L - i from by omega) ⟨(show (i + 1) ≤ L from by omega), (show ∀ j, j < (i + 1) → (va_up a1042 28 (upd (a1042 28) i (nI (dg N i)))) 28 j = nI (dg N j) from (show ∀ j, j < i + 1 → (upd (a1042 28) i (nI (dg N i))) j = nI (dg N j) from arr_push (F := fun j => nI (dg N j)) h28 rfl)), (fun i h28 => Eq.trans (vup_ne h28) (hfa42 i h28)), hP, hD, hS, lv_sub hl [0, 1, 2, 3, 4] rfl⟩
