/-- a set that may be let go: the others can be held -/
def OK (g : Nat → Nat) (T : Nat → Nat → Nat) (s : Nat) : Prop := an (fun n9 => sf g T (dg n9) (ol (2 ^ g 0 - 1 - s) (g 0)) (2 ^ g 0 - 1 - s)) (ol (2 ^ g 0 - 1 - s) (g 0)) (fct (ol (2 ^ g 0 - 1 - s) (g 0)) - 1) (f1c (2 ^ g 0 - 1 - s) (g 0))
theorem bi_z (x : Nat) : bi 0 x = 0 := by unfold bi; rw [Nat.zero_div]
theorem ol_0 : ∀ n, ol 0 n = 0
  | 0 => rfl
  | n + 1 => by unfold ol; rw [if_neg (by rw [bi_z]; decide)]; exact ol_0 n
theorem OK_all (g : Nat → Nat) (T : Nat → Nat → Nat) : OK g T (2 ^ g 0 - 1) := by
  unfold OK
  rw [Nat.sub_self, ol_0]
  show sf g T (dg (f1c 0 (g 0))) 0 0
  intro x _ hb
  rw [bi_z] at hb; exact absurd hb (by decide)
abbrev bet (b s : Nat) : Prop := sb b 6 < sb s 6 ∨ (sb b 6 = sb s 6 ∧ b ≤ s)
def LG (g : Nat → Nat) (T : Nat → Nat → Nat) (b : Nat) : Prop := b ≤ 2 ^ g 0 - 1 ∧ OK g T b ∧ ∀ s, s ≤ 2 ^ g 0 - 1 → OK g T s → bet b s
theorem LG_one {g : Nat → Nat} {T : Nat → Nat → Nat} {b c : Nat} (h : LG g T b) (k : LG g T c) : b = c := by
  have h1 := h.2.2 c k.1 k.2.1
  have h2 := k.2.2 b h.1 h.2.1
  omega
noncomputable def lgV (g : Nat → Nat) (T : Nat → Nat → Nat) : Nat := @Classical.epsilon Nat ⟨0⟩ (LG g T)
theorem lgV_eq {g : Nat → Nat} {T : Nat → Nat → Nat} {b : Nat} (h : LG g T b) : b = lgV g T := LG_one h (Classical.epsilon_spec ⟨b, h⟩)
noncomputable def aLet (g : Nat → Nat) (T : Nat → Nat → Nat) : Int32 := cif (g 0 = 0) (-3) (nI (lgV g T))
noncomputable def cfF (g : Nat → Nat) (T R : Nat → Nat → Nat) : Nat := cq (pF g T (ol (2 ^ g 0 - 1) (g 0)) (g 3) (R 0) (R 1) (R 2)) (ol (2 ^ g 0 - 1) (g 0)) (fct (ol (2 ^ g 0 - 1) (g 0)) - 1) (f1c (2 ^ g 0 - 1) (g 0))
noncomputable def ftF (g : Nat → Nat) (T R : Nat → Nat → Nat) : Nat := ft (pF g T (ol (2 ^ g 0 - 1) (g 0)) (g 3) (R 0) (R 1) (R 2)) (ol (2 ^ g 0 - 1) (g 0)) (fct (ol (2 ^ g 0 - 1) (g 0)) - 1) (f1c (2 ^ g 0 - 1) (g 0))
noncomputable def aFits (g : Nat → Nat) (T R : Nat → Nat → Nat) (q : Int32) : Int32 := cif (g 0 = 0) (-3) (cif ((-1) ≤ q ∧ q ≤ nI (g 0 - 1)) (cif (q = -1) (nI (cfF g T R)) (cif (cfF g T R = 0) (-9) (nI (dg (ftF g T R) q.toNatClampNeg)))) (-1))
theorem nI_nm1 {b : Nat} (h : b < 2 ^ 31) : ¬ nI b = -1 := fun e => by
  have := nI_pos h
  rw [e] at this; exact this (by decide)
set_option maxHeartbeats 4000000 in
set_option maxRecDepth 100000 in
theorem kX10_safe (l : Launch) (D : va_G) (cA : Nat → ClassId) (r : Nat → Nat) (sz : Nat) (u : Nat → Int32) (a : Nat → Nat → Int32) (g : Nat → Nat) (T : Nat → Nat → Nat) (R : Nat → Nat → Nat) (so : Nat → Int32) (ln : Nat → Nat) (ce : Nat → Nat → Int32) (f tr : Int32)  (hI : MI u a g T R so ln ce f tr) : Met l yX10_safe wsX10_safe ({ frames := 3, cells := 0, slots := 0, locals := 71 } : Room) (va_Pc [.ref (r 0)] (wA D vwCl (tyA cA) e0 (xM cA r) (u, a) sz)) (va_Qi (fun (v : Int32) (z : sM) => v = aSafe g T ∧ MI z.1 z.2 g T R so ln ce f tr) (wB D vwCl (tyA cA) (xM cA r) (va_A (xM cA r (u, a)) sz)) (va_A (xM cA r (u, a)) sz)) 0 0 (va_A (xM cA r (u, a)) sz) := by
  refine Met.ofW (cc := cX10_safe) (maxL := 3) (ret := (some .int)) (by decide) rfl ?_
  intro p e s m args below meth c s₁ B hml hv
  obtain ⟨rfl, hsz, hP, hK, hD0, hE⟩ := hv
  have hx := B.exec
  have hb := B.bytes
  have hr := B.returns
  have hts := atoms_spec (ws := wsX10_safe) B.pre
  have hown : s.vm.findClass RX10 = some m.cls := findClass_of_methodNamed B.named
  have hlocks := B.notSynchronized
  subst hsz
  have hD := hD0.self (sz := s.heap.size)
  generalize hAe : va_A (xM cA r (u, a)) s.heap.size = A at hD hE ⊢
  have hA : ∀ q : Nat, s.heap.size ≤ q → A q := fun q h => by rw [← hAe]; exact Or.inr h
  have hS : va_S A s.heap s.heap [] := va_S.rf
  have hinX10 : ∀ w ∈ u_ws RX10 TX10 34, w ∈ wsX10_safe := by decide +kernel
  have hl := lv_entry ([.ref (r 0)]) (n := 3) (Nat.le_of_ble_eq_true rfl)
  rw [lg_entry_eq]
  generalize (lg_sl ([.ref (r 0)]) ++ List.replicate (3 - (lg_sl ([.ref (r 0)])).length) Slot.unset).toArray = ls at hl ⊢
  have hl : lv_has ls 3 [(0, .ref (r 0))] := hl
  have hM := hI.1
  have hB := hI.2.1
  have hg6 := hB.1
  have hRd := hI.2.2.1
  have hSh := hI.2.2.2.1
  have hf0 := hI.2.2.2.2.1
  have htr := hI.2.2.2.2.2
  obtain ⟨S, hSe⟩ : ∃ z, z = 2 ^ g 0 - 1 := ⟨_, rfl⟩
  obtain ⟨L, hLe⟩ : ∃ z, z = ol S (g 0) := ⟨_, rfl⟩
  have hp0 := Nat.two_pow_pos (g 0)
  have hSn : S < 2 ^ g 0 := by omega
  have hS64 : S < 64 := p2_64 hg6 hSn
  have hL6 : L ≤ 6 := by have := ol_le S (g 0); omega
  have hLg : L = g 0 := by rw [hLe, hSe]; exact ol_all _ hg6
  have hfc := fct_le L
  refine lv_aload_n hx hb dX10_safe_0 rfl (lv_at hl 0 rfl) ?_
  refine va_get (D := D) (ci := 10) (v := .int (nI (g 0))) (C := RX10) (T := TX10) (N := 34) hx hb hts hinX10 hown hK hP 0 rfl rfl 5 (by decide) (hts (.fieldLink RX10 90 "OneNailModel" "things" "I") (by decide +kernel)) (fun _ h9 => h9) (congrArg (fun z => some (Value.int z)) (hM.1)) dX10_safe_1 ?_
  refine rz_ne (x := g 0) (tgt := 10) hx hb (by omega) dX10_safe_4 (by decide) (fun c_1 => ?_) (fun c_1 => ?_)
  · refine lv_aload_n hx hb dX10_safe_10 rfl (lv_at hl 0 rfl) ?_
    refine lv_aload_n hx hb dX10_safe_11 rfl (lv_at hl 0 rfl) ?_
    refine wVi e0_S (As := []) (rest := [.ref (r 0)]) ⟨hx, hb, hml, hown, hts⟩ (kX10_all l D cA r _ u a g T hM hB) (cwV 0 hts gX10_safe_X10_all rfl rfl rfl (by decide +kernel) ⟨Nat.le_of_ble_eq_true rfl, Nat.le_of_ble_eq_true rfl⟩) (va_recv hK hP (ci := 10) (q0 := 0) rfl rfl) hK hP hD hS hA hE rfl hl.1 rfl (Nat.le_of_ble_eq_true rfl) dX10_safe_12 ⟨Nat.zero_le _, Nat.zero_le _⟩ (fun rv_2 z_4 H locs hw_3 hP hD hS => ?_)
    obtain ⟨rfl, rfl⟩ := hw_3
    have hP : va_P D vwCl (xM cA r (u, a)) H := hP
    have hD : va_D A (xM cA r (u, a)) := hD
    refine lv_topi (fun y_5 ey_5 => ?_)
    obtain rfl : y_5 = (nI S) := ey_5.trans (congrArg nI hSe.symm)
    refine wVv e0_S (As := [.int (nI S)]) (rest := []) ⟨hx, hb, hml, hown, hts⟩ (kX10_firstOrder l D cA r _ u a g T S hM hB (by omega)) (cwV 1 hts gX10_safe_X10_firstOrder rfl rfl rfl (by decide +kernel) ⟨Nat.le_of_ble_eq_true rfl, Nat.le_of_ble_eq_true rfl⟩) (va_recv hK hP (ci := 10) (q0 := 0) rfl rfl) hK hP hD hS hA hE rfl hl.1 rfl (Nat.le_of_ble_eq_true rfl) dX10_safe_15 ⟨Nat.zero_le _, Nat.zero_le _⟩ (fun z_8 H locs hw_7 hP hD hS => ?_)
    obtain ⟨zu9, za10⟩ := z_8
    obtain ⟨hu22_zu9, hrow_zu9, hfu_zu9, hfa_zu9⟩ := hw_7
    have hu22_zu9 : zu9 22 = nI (ol S (g 0)) := hu22_zu9
    have hrow_zu9 : ∀ k, k < ol S (g 0) → za10 21 k = nI (of1 S (g 0) k) := hrow_zu9
    have hfu_zu9 : ∀ i, i ≠ 22 → zu9 i = u i := hfu_zu9
    have hfa_zu9 : ∀ i, i ≠ 21 → za10 i = a i := hfa_zu9
    have hP : va_P D vwCl (xM cA r (zu9, za10)) H := hP
    have hD : va_D A (xM cA r (zu9, za10)) := hD
    refine lv_iconst (v := (nI 0)) hx hb dX10_safe_18 rfl ?_
    refine lv_istore_n (lv' := [(1, .int (nI 0)), (0, .ref (r 0))]) hx hb dX10_safe_19 rfl hl (by decide) rfl (fun ls hl => ?_)
    refine lv_iconst (v := (nI 1)) hx hb dX10_safe_20 rfl ?_
    refine lv_istore_n (lv' := [(2, .int (nI 1)), (1, .int (nI 0)), (0, .ref (r 0))]) hx hb dX10_safe_21 rfl hl (by decide) rfl (fun ls hl => ?_)
    refine wLoop (τ := Nat × Nat × Nat × Nat × (Nat → Int32) × (Nat → Nat → Int32)) (fun z H locs ls => (fun (mo : Nat) (k : Nat) (N : Nat) (cn : Nat) (u1022 : (Nat → Int32)) (a1022 : (Nat → Nat → Int32)) => (mo ≤ 1) ∧ (mo = 1 → chk S L k N = true ∧ (∀ i, i < L → a1022 21 i = nI (dg N i)) ∧ cn + cq (pS g T L S) L k N = (cq (pS g T L S) L (fct L - 1) (f1c S (g 0)))) ∧ (mo = 0 → cn = (cq (pS g T L S) L (fct L - 1) (f1c S (g 0)))) ∧ (∀ i : Nat, i ≠ 25 → u1022 i = zu9 i) ∧ (∀ i : Nat, i ≠ 21 → i ≠ 23 → i ≠ 24 → a1022 i = za10 i) ∧ (va_P D vwCl (xM cA r (u1022, a1022)) H) ∧ (va_D A (xM cA r (u1022, a1022))) ∧ (va_S A s.heap H locs) ∧ (lv_has ls 3 [(2, .int (nI mo)), (1, .int (nI cn)), (0, .ref (r 0))])) z.1 z.2.1 z.2.2.1 z.2.2.2.1 z.2.2.2.2.1 z.2.2.2.2.2) (fun z => (fun (mo : Nat) (k : Nat) (N : Nat) (cn : Nat) (u1022 : (Nat → Int32)) (a1022 : (Nat → Nat → Int32)) => mo + k) z.1 z.2.1 z.2.2.1 z.2.2.2.1 z.2.2.2.2.1 z.2.2.2.2.2) (1, (fct L - 1), (f1c S (g 0)), 0, zu9, za10) ⟨(show 1 ≤ 1 from Nat.le_refl 1), (show 1 = 1 → chk S L (fct L - 1) (f1c S (g 0)) = true ∧ (∀ i, i < L → za10 21 i = nI (dg (f1c S (g 0)) i)) ∧ 0 + cq (pS g T L S) L (fct L - 1) (f1c S (g 0)) = (cq (pS g T L S) L (fct L - 1) (f1c S (g 0))) from (fun _ => ⟨by rw [hLe]; exact perms_ok _ hg6 _ hSn, by rw [hLe]; exact (fun i hi => (hrow_zu9 (i) (by omega)).trans (congrArg nI (dg_f1 hg6 (by omega)).symm)), Nat.zero_add _⟩)), (show 1 = 0 → 0 = (cq (pS g T L S) L (fct L - 1) (f1c S (g 0))) from (fun h => absurd h (by decide))), (fun i h25 => rfl), (fun i h21 h23 h24 => rfl), hP, hD, hS, lv_sub hl [0, 1, 2] rfl⟩ ?_
    rintro ⟨mo, k, N, cn, u1022, a1022⟩ H locs ls ⟨hmo, h1, h0, hfu22, hfa22, hP, hD, hS, hl⟩ ih22
    have hmo : mo ≤ 1 := hmo
    have h1 : mo = 1 → chk S L k N = true ∧ (∀ i, i < L → a1022 21 i = nI (dg N i)) ∧ cn + cq (pS g T L S) L k N = (cq (pS g T L S) L (fct L - 1) (f1c S (g 0))) := h1
    have h0 : mo = 0 → cn = (cq (pS g T L S) L (fct L - 1) (f1c S (g 0))) := h0
    have hfu22 : ∀ i : Nat, i ≠ 25 → u1022 i = zu9 i := hfu22
    have hfa22 : ∀ i : Nat, i ≠ 21 → i ≠ 23 → i ≠ 24 → a1022 i = za10 i := hfa22
    have hP : va_P D vwCl (xM cA r (u1022, a1022)) H := hP
    have hD : va_D A (xM cA r (u1022, a1022)) := hD
    have hl : lv_has ls 3 [(2, .int (nI mo)), (1, .int (nI cn)), (0, .ref (r 0))] := hl
    refine lv_iload_n hx hb dX10_safe_22 rfl (lv_at hl 0 rfl) ?_
    refine rz_eq (x := mo) (tgt := 53) hx hb (by omega) dX10_safe_23 (by decide) (fun c_11 => ?_) (fun c_11 => ?_)
    · refine lv_iload_n hx hb dX10_safe_53 rfl (lv_at hl 1 rfl) ?_
      exact wIret hx hb hr hlocks (v := (nI cn)) (u1022, a1022) (⟨by unfold aSafe CS; rw [cif_neg (by omega), ← hSe, ← hLe]; exact congrArg nI (h0 (by omega)), (MI.keep hI ((Eq.trans (hfu22 0 (by decide)) (hfu_zu9 0 (by decide))).trans hf0) ((Eq.trans (hfu22 1 (by decide)) (hfu_zu9 1 (by decide))).trans htr) (Eq.trans (hfu22 5 (by decide)) (hfu_zu9 5 (by decide))) (Eq.trans (hfu22 6 (by decide)) (hfu_zu9 6 (by decide))) (Eq.trans (hfu22 7 (by decide)) (hfu_zu9 7 (by decide))) (Eq.trans (hfu22 30 (by decide)) (hfu_zu9 30 (by decide))) (Eq.trans (hfa22 2 (by decide) (by decide) (by decide)) (hfa_zu9 2 (by decide))) (Eq.trans (hfa22 3 (by decide) (by decide) (by decide)) (hfa_zu9 3 (by decide))) (Eq.trans (hfa22 4 (by decide) (by decide) (by decide)) (hfa_zu9 4 (by decide))) (Eq.trans (hfa22 8 (by decide) (by decide) (by decide)) (hfa_zu9 8 (by decide))) (Eq.trans (hfa22 9 (by decide) (by decide) (by decide)) (hfa_zu9 9 (by decide))) (Eq.trans (hfa22 10 (by decide) (by decide) (by decide)) (hfa_zu9 10 (by decide))) (Eq.trans (hfa22 11 (by decide) (by decide) (by decide)) (hfa_zu9 11 (by decide))) (Eq.trans (hfa22 12 (by decide) (by decide) (by decide)) (hfa_zu9 12 (by decide))) (Eq.trans (hfa22 31 (by decide) (by decide) (by decide)) (hfa_zu9 31 (by decide))) (Eq.trans (hfa22 32 (by decide) (by decide) (by decide)) (hfa_zu9 32 (by decide))) (Eq.trans (hfa22 33 (by decide) (by decide) (by decide)) (hfa_zu9 33 (by decide))))⟩) hK hP hD hS dX10_safe_54
    · obtain ⟨hck, hrowN, hacc⟩ := h1 (by omega)
      have hrgN : ∀ k, k < L → dg N k < g 0 := fun k hk => bi_in hSn (chk_in hck k hk)
      have hcq := cq_le (pS_le g T L S) L k N
      refine lv_iload_n hx hb dX10_safe_26 rfl (lv_at hl 1 rfl) ?_
      refine lv_aload_n hx hb dX10_safe_27 rfl (lv_at hl 2 rfl) ?_
      refine lv_aload_n hx hb dX10_safe_28 rfl (lv_at hl 2 rfl) ?_
      refine wVi e0_S (As := []) (rest := [.ref (r 0), .int (nI cn)]) ⟨hx, hb, hml, hown, hts⟩ (kX10_all l D cA r _ u1022 a1022 g T (MT.keep (MT.keep hM (hfu_zu9 5 (by decide)) (hfu_zu9 6 (by decide)) (hfu_zu9 7 (by decide)) (hfa_zu9 8 (by decide)) (hfa_zu9 9 (by decide)) (hfa_zu9 10 (by decide)) (hfa_zu9 11 (by decide)) (hfa_zu9 12 (by decide))) (hfu22 5 (by decide)) (hfu22 6 (by decide)) (hfu22 7 (by decide)) (hfa22 8 (by decide) (by decide) (by decide)) (hfa22 9 (by decide) (by decide) (by decide)) (hfa22 10 (by decide) (by decide) (by decide)) (hfa22 11 (by decide) (by decide) (by decide)) (hfa22 12 (by decide) (by decide) (by decide))) hB) (cwV 0 hts gX10_safe_X10_all rfl rfl rfl (by decide +kernel) ⟨Nat.le_of_ble_eq_true rfl, Nat.le_of_ble_eq_true rfl⟩) (va_recv hK hP (ci := 10) (q0 := 0) rfl rfl) hK hP hD hS hA hE rfl hl.1 rfl (Nat.le_of_ble_eq_true rfl) dX10_safe_29 ⟨Nat.zero_le _, Nat.zero_le _⟩ (fun rv_12 z_14 H locs hw_13 hP hD hS => ?_)
      obtain ⟨rfl, rfl⟩ := hw_13
      have hP : va_P D vwCl (xM cA r (u1022, a1022)) H := hP
      have hD : va_D A (xM cA r (u1022, a1022)) := hD
      refine lv_topi (fun y_15 ey_15 => ?_)
      obtain rfl : y_15 = (nI S) := ey_15.trans (congrArg nI hSe.symm)
      refine wVi e0_S (As := [.int (nI S)]) (rest := [.int (nI cn)]) ⟨hx, hb, hml, hown, hts⟩ (kX10_isSafe l D cA r _ u1022 a1022 g T (dg N) L S (MT.keep (MT.keep hM (hfu_zu9 5 (by decide)) (hfu_zu9 6 (by decide)) (hfu_zu9 7 (by decide)) (hfa_zu9 8 (by decide)) (hfa_zu9 9 (by decide)) (hfa_zu9 10 (by decide)) (hfa_zu9 11 (by decide)) (hfa_zu9 12 (by decide))) (hfu22 5 (by decide)) (hfu22 6 (by decide)) (hfu22 7 (by decide)) (hfa22 8 (by decide) (by decide) (by decide)) (hfa22 9 (by decide) (by decide) (by decide)) (hfa22 10 (by decide) (by decide) (by decide)) (hfa22 11 (by decide) (by decide) (by decide)) (hfa22 12 (by decide) (by decide) (by decide))) hB ((hfu22 22 (by decide)).trans ((hu22_zu9).trans (congrArg nI hLe.symm))) (by omega) (fun k hk => hrowN (k) hk) hrgN hS64) (cwV 1 hts gX10_safe_X10_isSafe rfl rfl rfl (by decide +kernel) ⟨Nat.le_of_ble_eq_true rfl, Nat.le_of_ble_eq_true rfl⟩) (va_recv hK hP (ci := 10) (q0 := 0) rfl rfl) hK hP hD hS hA hE rfl hl.1 rfl (Nat.le_of_ble_eq_true rfl) dX10_safe_32 ⟨Nat.zero_le _, Nat.zero_le _⟩ (fun rv_16 z_18 H locs hw_17 hP hD hS => ?_)
      obtain ⟨zu19, za20⟩ := z_18
      obtain ⟨hw_17, hfu_zu19, hfa_zu19⟩ := hw_17
      have hfu_zu19 : ∀ i, i ≠ 25 → zu19 i = u1022 i := hfu_zu19
      have hfa_zu19 : ∀ i, i ≠ 23 → i ≠ 24 → za20 i = a1022 i := hfa_zu19
      have hP : va_P D vwCl (xM cA r (zu19, za20)) H := hP
      have hD : va_D A (xM cA r (zu19, za20)) := hD
      rcases hw_17 with ⟨rfl, b_21⟩ | ⟨rfl, b_21⟩
      · refine lv_if_eq (tgt := 42) hx hb dX10_safe_35 (by decide) (fun c_22 => absurd c_22 (by decide)) (fun _ => ?_)
        refine lv_iconst (v := (nI 1)) hx hb dX10_safe_38 rfl ?_
        refine lv_goto (tgt := 43) hx hb dX10_safe_39 (by decide) ?_
        refine rn_iadd (x := cn) (y := 1) hx hb dX10_safe_43 ?_
        refine lv_istore_n (lv' := [(1, .int (nI (cn + 1))), (2, .int (nI mo)), (0, .ref (r 0))]) hx hb dX10_safe_44 rfl hl (by decide) rfl (fun ls hl => ?_)
        refine lv_aload_n hx hb dX10_safe_45 rfl (lv_at hl 2 rfl) ?_
        refine wVi e0_S (As := []) (rest := []) ⟨hx, hb, hml, hown, hts⟩ (kX10_nextOrder l D cA r _ zu19 za20 L N ((hfu_zu19 22 (by decide)).trans ((hfu22 22 (by decide)).trans ((hu22_zu9).trans (congrArg nI hLe.symm)))) hL6 (fun k hk => (congrFun (hfa_zu19 21 (by decide) (by decide)) (k)).trans (hrowN (k) hk))) (cwV 0 hts gX10_safe_X10_nextOrder rfl rfl rfl (by decide +kernel) ⟨Nat.le_of_ble_eq_true rfl, Nat.le_of_ble_eq_true rfl⟩) (va_recv hK hP (ci := 10) (q0 := 0) rfl rfl) hK hP hD hS hA hE rfl hl.1 rfl (Nat.le_of_ble_eq_true rfl) dX10_safe_46 ⟨Nat.zero_le _, Nat.zero_le _⟩ (fun rv_23 z_25 H locs hw_24 hP hD hS => ?_)
        obtain ⟨zu26, za27⟩ := z_25
        rcases hw_24 with ⟨rfl, hfk0, hz_zu26⟩ | ⟨rfl, hfk1, hzu_zu26, hrw_zu26, hfa_zu26⟩
        · cases hz_zu26
          have hP : va_P D vwCl (xM cA r (zu19, za20)) H := hP
          have hD : va_D A (xM cA r (zu19, za20)) := hD
          refine lv_istore_n (lv' := [(2, .int (nI 0)), (1, .int (nI (cn + 1))), (0, .ref (r 0))]) hx hb dX10_safe_49 rfl hl (by decide) rfl (fun ls hl => ?_)
          refine lv_goto (tgt := 22) hx hb dX10_safe_50 (by decide) ?_
          have hp1 : pS g T L S N = 1 := cif_pos b_21
          have hk0 := chk_end hck hfk0
          exact ih22 (0, 0, 0, (cn + 1), zu19, za20) _ _ _ (show 0 + 0 < mo + k from by omega) ⟨(show 0 ≤ 1 from Nat.zero_le _), (show 0 = 1 → chk S L 0 0 = true ∧ (∀ i, i < L → za20 21 i = nI (dg 0 i)) ∧ (cn + 1) + cq (pS g T L S) L 0 0 = (cq (pS g T L S) L (fct L - 1) (f1c S (g 0))) from (fun h => absurd h (by decide))), (show 0 = 0 → (cn + 1) = (cq (pS g T L S) L (fct L - 1) (f1c S (g 0))) from (fun _ => by rw [hk0] at hacc; have e7 : cq (pS g T L S) L 0 N = pS g T L S N := rfl; omega)), (fun i h25 => Eq.trans (hfu_zu19 i h25) (hfu22 i h25)), (fun i h21 h23 h24 => Eq.trans (hfa_zu19 i h23 h24) (hfa22 i h21 h23 h24)), hP, hD, hS, lv_sub hl [0, 1, 2] rfl⟩
        · have hzu_zu26 : zu19 = zu26 := Eq.symm hzu_zu26
          subst hzu_zu26
          have hrw_zu26 : ∀ k, k < L → za27 21 k = nI (dg (nx N L) k) := hrw_zu26
          have hfa_zu26 : ∀ i, i ≠ 21 → za27 i = za20 i := hfa_zu26
          have hP : va_P D vwCl (xM cA r (zu19, za27)) H := hP
          have hD : va_D A (xM cA r (zu19, za27)) := hD
          refine lv_istore_n (lv' := [(2, .int (nI 1)), (1, .int (nI (cn + 1))), (0, .ref (r 0))]) hx hb dX10_safe_49 rfl hl (by decide) rfl (fun ls hl => ?_)
          refine lv_goto (tgt := 22) hx hb dX10_safe_50 (by decide) ?_
          have hp1 : pS g T L S N = 1 := cif_pos b_21
          obtain ⟨hk0, hck2⟩ := chk_next hck hfk1
          exact ih22 (1, (k - 1), (nx N L), (cn + 1), zu19, za27) _ _ _ (show 1 + (k - 1) < mo + k from by omega) ⟨(show 1 ≤ 1 from Nat.le_refl 1), (show 1 = 1 → chk S L (k - 1) (nx N L) = true ∧ (∀ i, i < L → za27 21 i = nI (dg (nx N L) i)) ∧ (cn + 1) + cq (pS g T L S) L (k - 1) (nx N L) = (cq (pS g T L S) L (fct L - 1) (f1c S (g 0))) from (fun _ => ⟨hck2, hrw_zu26, by rw [cq_step hk0] at hacc; omega⟩)), (show 1 = 0 → (cn + 1) = (cq (pS g T L S) L (fct L - 1) (f1c S (g 0))) from (fun h => absurd h (by decide))), (fun i h25 => Eq.trans (hfu_zu19 i h25) (hfu22 i h25)), (fun i h21 h23 h24 => Eq.trans (hfa_zu26 i h21) (Eq.trans (hfa_zu19 i h23 h24) (hfa22 i h21 h23 h24))), hP, hD, hS, lv_sub hl [0, 1, 2] rfl⟩
      · refine lv_if_eq (tgt := 42) hx hb dX10_safe_35 (by decide) (fun _ => ?_) (fun c_28 => absurd c_28 (by decide))
        refine lv_iconst (v := (nI 0)) hx hb dX10_safe_42 rfl ?_
        refine rn_iadd (x := cn) (y := 0) hx hb dX10_safe_43 ?_
        refine lv_istore_n (lv' := [(1, .int (nI (cn + 0))), (2, .int (nI mo)), (0, .ref (r 0))]) hx hb dX10_safe_44 rfl hl (by decide) rfl (fun ls hl => ?_)
        refine lv_aload_n hx hb dX10_safe_45 rfl (lv_at hl 2 rfl) ?_
        refine wVi e0_S (As := []) (rest := []) ⟨hx, hb, hml, hown, hts⟩ (kX10_nextOrder l D cA r _ zu19 za20 L N ((hfu_zu19 22 (by decide)).trans ((hfu22 22 (by decide)).trans ((hu22_zu9).trans (congrArg nI hLe.symm)))) hL6 (fun k hk => (congrFun (hfa_zu19 21 (by decide) (by decide)) (k)).trans (hrowN (k) hk))) (cwV 0 hts gX10_safe_X10_nextOrder rfl rfl rfl (by decide +kernel) ⟨Nat.le_of_ble_eq_true rfl, Nat.le_of_ble_eq_true rfl⟩) (va_recv hK hP (ci := 10) (q0 := 0) rfl rfl) hK hP hD hS hA hE rfl hl.1 rfl (Nat.le_of_ble_eq_true rfl) dX10_safe_46 ⟨Nat.zero_le _, Nat.zero_le _⟩ (fun rv_29 z_31 H locs hw_30 hP hD hS => ?_)
        obtain ⟨zu32, za33⟩ := z_31
        rcases hw_30 with ⟨rfl, hfk0, hz_zu32⟩ | ⟨rfl, hfk1, hzu_zu32, hrw_zu32, hfa_zu32⟩
        · cases hz_zu32
          have hP : va_P D vwCl (xM cA r (zu19, za20)) H := hP
          have hD : va_D A (xM cA r (zu19, za20)) := hD
          refine lv_istore_n (lv' := [(2, .int (nI 0)), (1, .int (nI (cn + 0))), (0, .ref (r 0))]) hx hb dX10_safe_49 rfl hl (by decide) rfl (fun ls hl => ?_)
          refine lv_goto (tgt := 22) hx hb dX10_safe_50 (by decide) ?_
          have hp1 : pS g T L S N = 0 := cif_neg b_21
          have hk0 := chk_end hck hfk0
          exact ih22 (0, 0, 0, (cn + 0), zu19, za20) _ _ _ (show 0 + 0 < mo + k from by omega) ⟨(show 0 ≤ 1 from Nat.zero_le _), (show 0 = 1 → chk S L 0 0 = true ∧ (∀ i, i < L → za20 21 i = nI (dg 0 i)) ∧ (cn + 0) + cq (pS g T L S) L 0 0 = (cq (pS g T L S) L (fct L - 1) (f1c S (g 0))) from (fun h => absurd h (by decide))), (show 0 = 0 → (cn + 0) = (cq (pS g T L S) L (fct L - 1) (f1c S (g 0))) from (fun _ => by rw [hk0] at hacc; have e7 : cq (pS g T L S) L 0 N = pS g T L S N := rfl; omega)), (fun i h25 => Eq.trans (hfu_zu19 i h25) (hfu22 i h25)), (fun i h21 h23 h24 => Eq.trans (hfa_zu19 i h23 h24) (hfa22 i h21 h23 h24)), hP, hD, hS, lv_sub hl [0, 1, 2] rfl⟩
        · have hzu_zu32 : zu19 = zu32 := Eq.symm hzu_zu32
          subst hzu_zu32
          have hrw_zu32 : ∀ k, k < L → za33 21 k = nI (dg (nx N L) k) := hrw_zu32
          have hfa_zu32 : ∀ i, i ≠ 21 → za33 i = za20 i := hfa_zu32
          have hP : va_P D vwCl (xM cA r (zu19, za33)) H := hP
          have hD : va_D A (xM cA r (zu19, za33)) := hD
          refine lv_istore_n (lv' := [(2, .int (nI 1)), (1, .int (nI (cn + 0))), (0, .ref (r 0))]) hx hb dX10_safe_49 rfl hl (by decide) rfl (fun ls hl => ?_)
          refine lv_goto (tgt := 22) hx hb dX10_safe_50 (by decide) ?_
          have hp1 : pS g T L S N = 0 := cif_neg b_21
          obtain ⟨hk0, hck2⟩ := chk_next hck hfk1
          exact ih22 (1, (k - 1), (nx N L), (cn + 0), zu19, za33) _ _ _ (show 1 + (k - 1) < mo + k from by omega) ⟨(show 1 ≤ 1 from Nat.le_refl 1), (show 1 = 1 → chk S L (k - 1) (nx N L) = true ∧ (∀ i, i < L → za33 21 i = nI (dg (nx N L) i)) ∧ (cn + 0) + cq (pS g T L S) L (k - 1) (nx N L) = (cq (pS g T L S) L (fct L - 1) (f1c S (g 0))) from (fun _ => ⟨hck2, hrw_zu32, by rw [cq_step hk0] at hacc; omega⟩)), (show 1 = 0 → (cn + 0) = (cq (pS g T L S) L (fct L - 1) (f1c S (g 0))) from (fun h => absurd h (by decide))), (fun i h25 => Eq.trans (hfu_zu19 i h25) (hfu22 i h25)), (fun i h21 h23 h24 => Eq.trans (hfa_zu32 i h21) (Eq.trans (hfa_zu19 i h23 h24) (hfa22 i h21 h23 h24))), hP, hD, hS, lv_sub hl [0, 1, 2] rfl⟩
  · refine lv_bipush (v := (-3)) hx hb dX10_safe_7 (by decide) ?_
    exact wIret hx hb hr hlocks (v := (-3)) (u, a) (⟨by unfold aSafe; rw [cif_pos (by omega)], hI⟩) hK hP hD hS dX10_safe_9

set_option maxHeartbeats 4000000 in
set_option maxRecDepth 100000 in
theorem kX10_letGo (l : Launch) (D : va_G) (cA : Nat → ClassId) (r : Nat → Nat) (sz : Nat) (u : Nat → Int32) (a : Nat → Nat → Int32) (g : Nat → Nat) (T : Nat → Nat → Nat) (R : Nat → Nat → Nat) (so : Nat → Int32) (ln : Nat → Nat) (ce : Nat → Nat → Int32) (f tr : Int32)  (hI : MI u a g T R so ln ce f tr) : Met l yX10_letGo wsX10_letGo ({ frames := 4, cells := 0, slots := 0, locals := 93 } : Room) (va_Pc [.ref (r 0)] (wA D vwCl (tyA cA) e0 (xM cA r) (u, a) sz)) (va_Qi (fun (v : Int32) (z : sM) => v = aLet g T ∧ MI z.1 z.2 g T R so ln ce f tr) (wB D vwCl (tyA cA) (xM cA r) (va_A (xM cA r (u, a)) sz)) (va_A (xM cA r (u, a)) sz)) 0 0 (va_A (xM cA r (u, a)) sz) := by
  refine Met.ofW (cc := cX10_letGo) (maxL := 3) (ret := (some .int)) (by decide) rfl ?_
  intro p e s m args below meth c s₁ B hml hv
  obtain ⟨rfl, hsz, hP, hK, hD0, hE⟩ := hv
  have hx := B.exec
  have hb := B.bytes
  have hr := B.returns
  have hts := atoms_spec (ws := wsX10_letGo) B.pre
  have hown : s.vm.findClass RX10 = some m.cls := findClass_of_methodNamed B.named
  have hlocks := B.notSynchronized
  subst hsz
  have hD := hD0.self (sz := s.heap.size)
  generalize hAe : va_A (xM cA r (u, a)) s.heap.size = A at hD hE ⊢
  have hA : ∀ q : Nat, s.heap.size ≤ q → A q := fun q h => by rw [← hAe]; exact Or.inr h
  have hS : va_S A s.heap s.heap [] := va_S.rf
  have hinX10 : ∀ w ∈ u_ws RX10 TX10 34, w ∈ wsX10_letGo := by decide +kernel
  have hl := lv_entry ([.ref (r 0)]) (n := 3) (Nat.le_of_ble_eq_true rfl)
  rw [lg_entry_eq]
  generalize (lg_sl ([.ref (r 0)]) ++ List.replicate (3 - (lg_sl ([.ref (r 0)])).length) Slot.unset).toArray = ls at hl ⊢
  have hl : lv_has ls 3 [(0, .ref (r 0))] := hl
  have hM := hI.1
  have hB := hI.2.1
  have hg6 := hB.1
  have hRd := hI.2.2.1
  have hSh := hI.2.2.2.1
  have hf0 := hI.2.2.2.2.1
  have htr := hI.2.2.2.2.2
  have hp6 : 2 ^ g 0 ≤ 64 := Nat.pow_le_pow_right (n := 2) (by decide) hg6
  have hp0 := Nat.two_pow_pos (g 0)
  refine lv_aload_n hx hb dX10_letGo_0 rfl (lv_at hl 0 rfl) ?_
  refine va_get (D := D) (ci := 10) (v := .int (nI (g 0))) (C := RX10) (T := TX10) (N := 34) hx hb hts hinX10 hown hK hP 0 rfl rfl 5 (by decide) (hts (.fieldLink RX10 90 "OneNailModel" "things" "I") (by decide +kernel)) (fun _ h9 => h9) (congrArg (fun z => some (Value.int z)) (hM.1)) dX10_letGo_1 ?_
  refine rz_ne (x := g 0) (tgt := 10) hx hb (by omega) dX10_letGo_4 (by decide) (fun c_1 => ?_) (fun c_1 => ?_)
  · refine lv_aload_n hx hb dX10_letGo_10 rfl (lv_at hl 0 rfl) ?_
    refine wVi e0_S (As := []) (rest := []) ⟨hx, hb, hml, hown, hts⟩ (kX10_all l D cA r _ u a g T hM hB) (cwV 0 hts gX10_letGo_X10_all rfl rfl rfl (by decide +kernel) ⟨Nat.le_of_ble_eq_true rfl, Nat.le_of_ble_eq_true rfl⟩) (va_recv hK hP (ci := 10) (q0 := 0) rfl rfl) hK hP hD hS hA hE rfl hl.1 rfl (Nat.le_of_ble_eq_true rfl) dX10_letGo_11 ⟨Nat.zero_le _, Nat.zero_le _⟩ (fun rv_2 z_4 H locs hw_3 hP hD hS => ?_)
    obtain ⟨rfl, rfl⟩ := hw_3
    have hP : va_P D vwCl (xM cA r (u, a)) H := hP
    have hD : va_D A (xM cA r (u, a)) := hD
    refine lv_istore_n (lv' := [(1, .int (nI (2 ^ g 0 - 1))), (0, .ref (r 0))]) hx hb dX10_letGo_14 rfl hl (by decide) rfl (fun ls hl => ?_)
    refine lv_aload_n hx hb dX10_letGo_15 rfl (lv_at hl 1 rfl) ?_
    refine wVi e0_S (As := []) (rest := []) ⟨hx, hb, hml, hown, hts⟩ (kX10_all l D cA r _ u a g T hM hB) (cwV 0 hts gX10_letGo_X10_all rfl rfl rfl (by decide +kernel) ⟨Nat.le_of_ble_eq_true rfl, Nat.le_of_ble_eq_true rfl⟩) (va_recv hK hP (ci := 10) (q0 := 0) rfl rfl) hK hP hD hS hA hE rfl hl.1 rfl (Nat.le_of_ble_eq_true rfl) dX10_letGo_16 ⟨Nat.zero_le _, Nat.zero_le _⟩ (fun rv_5 z_7 H locs hw_6 hP hD hS => ?_)
    obtain ⟨rfl, rfl⟩ := hw_6
    have hP : va_P D vwCl (xM cA r (u, a)) H := hP
    have hD : va_D A (xM cA r (u, a)) := hD
    refine lv_istore_n (lv' := [(2, .int (nI (2 ^ g 0 - 1))), (1, .int (nI (2 ^ g 0 - 1))), (0, .ref (r 0))]) hx hb dX10_letGo_19 rfl hl (by decide) rfl (fun ls hl => ?_)
    have hl : lv_has ls 3 [(2, .int (nI (2 ^ g 0) - nI 1)), (1, .int (nI (2 ^ g 0 - 1))), (0, .ref (r 0))] := lv_re hl 0 ⟨rfl, rfl⟩ ((pk_sub (by omega)).symm)
    refine wLoop (τ := Nat × Nat × (Nat → Int32) × (Nat → Nat → Int32)) (fun z H locs ls => (fun (q : Nat) (b : Nat) (u1020 : (Nat → Int32)) (a1020 : (Nat → Nat → Int32)) => (q ≤ 2 ^ g 0) ∧ (b ≤ (2 ^ g 0 - 1)) ∧ (OK g T b) ∧ (∀ s9, q ≤ s9 → s9 ≤ (2 ^ g 0 - 1) → OK g T s9 → bet b s9) ∧ (∀ i : Nat, i ≠ 22 → i ≠ 25 → u1020 i = u i) ∧ (∀ i : Nat, i ≠ 21 → i ≠ 23 → i ≠ 24 → a1020 i = a i) ∧ (va_P D vwCl (xM cA r (u1020, a1020)) H) ∧ (va_D A (xM cA r (u1020, a1020))) ∧ (va_S A s.heap H locs) ∧ (lv_has ls 3 [(2, .int (nI q - nI 1)), (1, .int (nI b)), (0, .ref (r 0))])) z.1 z.2.1 z.2.2.1 z.2.2.2) (fun z => (fun (q : Nat) (b : Nat) (u1020 : (Nat → Int32)) (a1020 : (Nat → Nat → Int32)) => q) z.1 z.2.1 z.2.2.1 z.2.2.2) ((2 ^ g 0), (2 ^ g 0 - 1), u, a) ⟨(show (2 ^ g 0) ≤ 2 ^ g 0 from by omega), (show (2 ^ g 0 - 1) ≤ (2 ^ g 0 - 1) from Nat.le_refl _), (show OK g T (2 ^ g 0 - 1) from OK_all g T), (show ∀ s9, (2 ^ g 0) ≤ s9 → s9 ≤ (2 ^ g 0 - 1) → OK g T s9 → bet (2 ^ g 0 - 1) s9 from (fun s h1 h2 => absurd h1 (by omega))), (fun i h22 h25 => rfl), (fun i h21 h23 h24 => rfl), hP, hD, hS, lv_sub hl [0, 1, 2] rfl⟩ ?_
    rintro ⟨q, b, u1020, a1020⟩ H locs ls ⟨hq, hbA, hok, hbest, hfu20, hfa20, hP, hD, hS, hl⟩ ih20
    have hq : q ≤ 2 ^ g 0 := hq
    have hbA : b ≤ (2 ^ g 0 - 1) := hbA
    have hok : OK g T b := hok
    have hbest : ∀ s9, q ≤ s9 → s9 ≤ (2 ^ g 0 - 1) → OK g T s9 → bet b s9 := hbest
    have hfu20 : ∀ i : Nat, i ≠ 22 → i ≠ 25 → u1020 i = u i := hfu20
    have hfa20 : ∀ i : Nat, i ≠ 21 → i ≠ 23 → i ≠ 24 → a1020 i = a i := hfa20
    have hP : va_P D vwCl (xM cA r (u1020, a1020)) H := hP
    have hD : va_D A (xM cA r (u1020, a1020)) := hD
    have hl : lv_has ls 3 [(2, .int (nI q - nI 1)), (1, .int (nI b)), (0, .ref (r 0))] := hl
    rcases Nat.eq_zero_or_pos q with hqz | hqz
    · have hl : lv_has ls 3 [(2, .int (-1)), (1, .int (nI b)), (0, .ref (r 0))] := lv_re hl 0 ⟨rfl, rfl⟩ (by rw [hqz]; decide)
      refine lv_iload_n hx hb dX10_letGo_20 rfl (lv_at hl 0 rfl) ?_
      refine lv_if_lt (tgt := 60) hx hb dX10_letGo_21 (by decide) (fun _ => ?_) (fun c_8 => absurd c_8 (by decide))
      refine lv_iload_n hx hb dX10_letGo_60 rfl (lv_at hl 1 rfl) ?_
      exact wIret hx hb hr hlocks (v := (nI b)) (u1020, a1020) (⟨by unfold aLet; rw [cif_neg (by omega)]; exact congrArg nI (lgV_eq ⟨hbA, hok, fun s hs => hbest s (by omega) hs⟩), (MI.keep hI ((hfu20 0 (by decide) (by decide)).trans hf0) ((hfu20 1 (by decide) (by decide)).trans htr) (hfu20 5 (by decide) (by decide)) (hfu20 6 (by decide) (by decide)) (hfu20 7 (by decide) (by decide)) (hfu20 30 (by decide) (by decide)) (hfa20 2 (by decide) (by decide) (by decide)) (hfa20 3 (by decide) (by decide) (by decide)) (hfa20 4 (by decide) (by decide) (by decide)) (hfa20 8 (by decide) (by decide) (by decide)) (hfa20 9 (by decide) (by decide) (by decide)) (hfa20 10 (by decide) (by decide) (by decide)) (hfa20 11 (by decide) (by decide) (by decide)) (hfa20 12 (by decide) (by decide) (by decide)) (hfa20 31 (by decide) (by decide) (by decide)) (hfa20 32 (by decide) (by decide) (by decide)) (hfa20 33 (by decide) (by decide) (by decide)))⟩) hK hP hD hS dX10_letGo_61
    · have hl : lv_has ls 3 [(2, .int (nI (q - 1))), (1, .int (nI b)), (0, .ref (r 0))] := lv_re hl 0 ⟨rfl, rfl⟩ (pk_sub (by omega))
      have hs1 := sb_le (q - 1) 6
      have hs2 := sb_le b 6
      refine lv_iload_n hx hb dX10_letGo_20 rfl (lv_at hl 0 rfl) ?_
      refine rz_lt (x := q - 1) (tgt := 60) hx hb (by omega) dX10_letGo_21 (by decide) ?_
      refine lv_iload_n hx hb dX10_letGo_24 rfl (lv_at hl 0 rfl) ?_
      refine wSi (As := [.int (nI (q - 1))]) (rest := []) ⟨hx, hb, hml, hown, hts⟩ (kX10_size l (q - 1) (by omega)) (va_cwS 1 hts gX10_letGo_X10_size rfl rfl rfl (by decide +kernel) ⟨Nat.le_of_ble_eq_true rfl, Nat.le_of_ble_eq_true rfl⟩) rfl hl.1 rfl (Nat.le_of_ble_eq_true rfl) dX10_letGo_25 ⟨Nat.zero_le _, Nat.zero_le _⟩ (fun rv_10 hw_11 => ?_)
      obtain rfl := hw_11
      refine lv_iload_n hx hb dX10_letGo_28 rfl (lv_at hl 1 rfl) ?_
      refine wSi (As := [.int (nI b)]) (rest := [.int (nI (sb (q - 1) 6))]) ⟨hx, hb, hml, hown, hts⟩ (kX10_size l b (by omega)) (va_cwS 1 hts gX10_letGo_X10_size rfl rfl rfl (by decide +kernel) ⟨Nat.le_of_ble_eq_true rfl, Nat.le_of_ble_eq_true rfl⟩) rfl hl.1 rfl (Nat.le_of_ble_eq_true rfl) dX10_letGo_29 ⟨Nat.zero_le _, Nat.zero_le _⟩ (fun rv_12 hw_13 => ?_)
      obtain rfl := hw_13
      refine rn_gt (x := sb (q - 1) 6) (y := sb b 6) (tgt := 52) hx hb (by omega) (by omega) dX10_letGo_32 (by decide) (fun c_14 => ?_) (fun c_14 => ?_)
      · refine lv_iload_n hx hb dX10_letGo_52 rfl (lv_at hl 1 rfl) ?_
        refine lv_istore_n (lv' := [(1, .int (nI b)), (2, .int (nI (q - 1))), (0, .ref (r 0))]) hx hb dX10_letGo_53 rfl hl (by decide) rfl (fun ls hl => ?_)
        obtain ⟨x_15, ex_15⟩ : ∃ z : Int32, z = (nI (q - 1)) + Int32.ofInt (-1) := ⟨_, rfl⟩
        refine lv_iinc (v := x_15) (lv' := [(2, .int x_15), (1, .int (nI b)), (0, .ref (r 0))]) hx hb dX10_letGo_54 hl (k := 1) rfl (ex_15).symm (by decide) rfl (fun ls hl => ?_)
        refine lv_goto (tgt := 20) hx hb dX10_letGo_57 (by decide) ?_
        have hl : lv_has ls 3 [(2, .int (nI (q - 1) - nI 1)), (1, .int (nI b)), (0, .ref (r 0))] := lv_re hl 0 ⟨rfl, rfl⟩ (ex_15.trans (sub_1 _))
        exact ih20 ((q - 1), b, u1020, a1020) _ _ _ (show (q - 1) < q from by omega) ⟨(show (q - 1) ≤ 2 ^ g 0 from by omega), (show b ≤ (2 ^ g 0 - 1) from hbA), (show OK g T b from hok), (show ∀ s9, (q - 1) ≤ s9 → s9 ≤ (2 ^ g 0 - 1) → OK g T s9 → bet b s9 from (fun s h1 h2 h3 => by rcases Nat.lt_or_ge s q with w | w; have e7 : s = q - 1 := (by omega); rw [e7]; omega; exact hbest s w h2 h3)), (fun i h22 h25 => hfu20 i h22 h25), (fun i h21 h23 h24 => hfa20 i h21 h23 h24), hP, hD, hS, lv_sub hl [0, 1, 2] rfl⟩
      · refine lv_aload_n hx hb dX10_letGo_35 rfl (lv_at hl 2 rfl) ?_
        refine lv_aload_n hx hb dX10_letGo_36 rfl (lv_at hl 2 rfl) ?_
        refine wVi e0_S (As := []) (rest := [.ref (r 0)]) ⟨hx, hb, hml, hown, hts⟩ (kX10_all l D cA r _ u1020 a1020 g T (MT.keep hM (hfu20 5 (by decide) (by decide)) (hfu20 6 (by decide) (by decide)) (hfu20 7 (by decide) (by decide)) (hfa20 8 (by decide) (by decide) (by decide)) (hfa20 9 (by decide) (by decide) (by decide)) (hfa20 10 (by decide) (by decide) (by decide)) (hfa20 11 (by decide) (by decide) (by decide)) (hfa20 12 (by decide) (by decide) (by decide))) hB) (cwV 0 hts gX10_letGo_X10_all rfl rfl rfl (by decide +kernel) ⟨Nat.le_of_ble_eq_true rfl, Nat.le_of_ble_eq_true rfl⟩) (va_recv hK hP (ci := 10) (q0 := 0) rfl rfl) hK hP hD hS hA hE rfl hl.1 rfl (Nat.le_of_ble_eq_true rfl) dX10_letGo_37 ⟨Nat.zero_le _, Nat.zero_le _⟩ (fun rv_16 z_18 H locs hw_17 hP hD hS => ?_)
        obtain ⟨rfl, rfl⟩ := hw_17
        have hP : va_P D vwCl (xM cA r (u1020, a1020)) H := hP
        have hD : va_D A (xM cA r (u1020, a1020)) := hD
        refine lv_iload_n hx hb dX10_letGo_40 rfl (lv_at hl 0 rfl) ?_
        refine rn_isub (x := 2 ^ g 0 - 1) (y := q - 1) hx hb (by omega) dX10_letGo_41 ?_
        refine wVi e0_S (As := [.int (nI ((2 ^ g 0 - 1) - (q - 1)))]) (rest := []) ⟨hx, hb, hml, hown, hts⟩ (kX10_canBeSafe l D cA r _ u1020 a1020 g T ((2 ^ g 0 - 1) - (q - 1)) (MT.keep hM (hfu20 5 (by decide) (by decide)) (hfu20 6 (by decide) (by decide)) (hfu20 7 (by decide) (by decide)) (hfa20 8 (by decide) (by decide) (by decide)) (hfa20 9 (by decide) (by decide) (by decide)) (hfa20 10 (by decide) (by decide) (by decide)) (hfa20 11 (by decide) (by decide) (by decide)) (hfa20 12 (by decide) (by decide) (by decide))) hB (by omega) (ol ((2 ^ g 0 - 1) - (q - 1)) (g 0)) rfl) (cwV 1 hts gX10_letGo_X10_canBeSafe rfl rfl rfl (by decide +kernel) ⟨Nat.le_of_ble_eq_true rfl, Nat.le_of_ble_eq_true rfl⟩) (va_recv hK hP (ci := 10) (q0 := 0) rfl rfl) hK hP hD hS hA hE rfl hl.1 rfl (Nat.le_of_ble_eq_true rfl) dX10_letGo_42 ⟨Nat.zero_le _, Nat.zero_le _⟩ (fun rv_19 z_21 H locs hw_20 hP hD hS => ?_)
        obtain ⟨zu22, za23⟩ := z_21
        obtain ⟨hw_20, hfu_zu22, hfa_zu22⟩ := hw_20
        have hfu_zu22 : ∀ i, i ≠ 22 → i ≠ 25 → zu22 i = u1020 i := hfu_zu22
        have hfa_zu22 : ∀ i, i ≠ 21 → i ≠ 23 → i ≠ 24 → za23 i = a1020 i := hfa_zu22
        have hP : va_P D vwCl (xM cA r (zu22, za23)) H := hP
        have hD : va_D A (xM cA r (zu22, za23)) := hD
        rcases hw_20 with ⟨rfl, b_24⟩ | ⟨rfl, b_24⟩
        · refine lv_if_eq (tgt := 52) hx hb dX10_letGo_45 (by decide) (fun c_25 => absurd c_25 (by decide)) (fun _ => ?_)
          refine lv_iload_n hx hb dX10_letGo_48 rfl (lv_at hl 0 rfl) ?_
          refine lv_goto (tgt := 53) hx hb dX10_letGo_49 (by decide) ?_
          refine lv_istore_n (lv' := [(1, .int (nI (q - 1))), (2, .int (nI (q - 1))), (0, .ref (r 0))]) hx hb dX10_letGo_53 rfl hl (by decide) rfl (fun ls hl => ?_)
          obtain ⟨x_26, ex_26⟩ : ∃ z : Int32, z = (nI (q - 1)) + Int32.ofInt (-1) := ⟨_, rfl⟩
          refine lv_iinc (v := x_26) (lv' := [(2, .int x_26), (1, .int (nI (q - 1))), (0, .ref (r 0))]) hx hb dX10_letGo_54 hl (k := 1) rfl (ex_26).symm (by decide) rfl (fun ls hl => ?_)
          refine lv_goto (tgt := 20) hx hb dX10_letGo_57 (by decide) ?_
          have hl : lv_has ls 3 [(2, .int (nI (q - 1) - nI 1)), (1, .int (nI (q - 1))), (0, .ref (r 0))] := lv_re hl 0 ⟨rfl, rfl⟩ (ex_26.trans (sub_1 _))
          exact ih20 ((q - 1), (q - 1), zu22, za23) _ _ _ (show (q - 1) < q from by omega) ⟨(show (q - 1) ≤ 2 ^ g 0 from by omega), (show (q - 1) ≤ (2 ^ g 0 - 1) from by omega), (show OK g T (q - 1) from b_24), (show ∀ s9, (q - 1) ≤ s9 → s9 ≤ (2 ^ g 0 - 1) → OK g T s9 → bet (q - 1) s9 from (fun s h1 h2 h3 => by rcases Nat.lt_or_ge s q with w | w; have e7 : s = q - 1 := (by omega); rw [e7]; omega; have := hbest s w h2 h3; omega)), (fun i h22 h25 => Eq.trans (hfu_zu22 i h22 h25) (hfu20 i h22 h25)), (fun i h21 h23 h24 => Eq.trans (hfa_zu22 i h21 h23 h24) (hfa20 i h21 h23 h24)), hP, hD, hS, lv_sub hl [0, 1, 2] rfl⟩
        · refine lv_if_eq (tgt := 52) hx hb dX10_letGo_45 (by decide) (fun _ => ?_) (fun c_27 => absurd c_27 (by decide))
          refine lv_iload_n hx hb dX10_letGo_52 rfl (lv_at hl 1 rfl) ?_
          refine lv_istore_n (lv' := [(1, .int (nI b)), (2, .int (nI (q - 1))), (0, .ref (r 0))]) hx hb dX10_letGo_53 rfl hl (by decide) rfl (fun ls hl => ?_)
          obtain ⟨x_28, ex_28⟩ : ∃ z : Int32, z = (nI (q - 1)) + Int32.ofInt (-1) := ⟨_, rfl⟩
          refine lv_iinc (v := x_28) (lv' := [(2, .int x_28), (1, .int (nI b)), (0, .ref (r 0))]) hx hb dX10_letGo_54 hl (k := 1) rfl (ex_28).symm (by decide) rfl (fun ls hl => ?_)
          refine lv_goto (tgt := 20) hx hb dX10_letGo_57 (by decide) ?_
          have hl : lv_has ls 3 [(2, .int (nI (q - 1) - nI 1)), (1, .int (nI b)), (0, .ref (r 0))] := lv_re hl 0 ⟨rfl, rfl⟩ (ex_28.trans (sub_1 _))
          exact ih20 ((q - 1), b, zu22, za23) _ _ _ (show (q - 1) < q from by omega) ⟨(show (q - 1) ≤ 2 ^ g 0 from by omega), (show b ≤ (2 ^ g 0 - 1) from hbA), (show OK g T b from hok), (show ∀ s9, (q - 1) ≤ s9 → s9 ≤ (2 ^ g 0 - 1) → OK g T s9 → bet b s9 from (fun s h1 h2 h3 => by rcases Nat.lt_or_ge s q with w | w; have e7 : s = q - 1 := (by omega); rw [e7] at h3; exact absurd h3 b_24; exact hbest s w h2 h3)), (fun i h22 h25 => Eq.trans (hfu_zu22 i h22 h25) (hfu20 i h22 h25)), (fun i h21 h23 h24 => Eq.trans (hfa_zu22 i h21 h23 h24) (hfa20 i h21 h23 h24)), hP, hD, hS, lv_sub hl [0, 1, 2] rfl⟩
  · refine lv_bipush (v := (-3)) hx hb dX10_letGo_7 (by decide) ?_
    exact wIret hx hb hr hlocks (v := (-3)) (u, a) (⟨by unfold aLet; rw [cif_pos (by omega)], hI⟩) hK hP hD hS dX10_letGo_9

set_option maxHeartbeats 4000000 in
set_option maxRecDepth 100000 in
theorem kX10_fits (l : Launch) (D : va_G) (cA : Nat → ClassId) (r : Nat → Nat) (sz : Nat) (u : Nat → Int32) (a : Nat → Nat → Int32) (g : Nat → Nat) (T : Nat → Nat → Nat) (R : Nat → Nat → Nat) (so : Nat → Int32) (ln : Nat → Nat) (ce : Nat → Nat → Int32) (f tr : Int32) (q : Int32) (hI : MI u a g T R so ln ce f tr) : Met l yX10_fits wsX10_fits ({ frames := 3, cells := 0, slots := 0, locals := 67 } : Room) (va_Pc [.ref (r 0), .int q] (wA D vwCl (tyA cA) e0 (xM cA r) (u, a) sz)) (va_Qi (fun (v : Int32) (z : sM) => v = aFits g T R q ∧ MI z.1 z.2 g T R so ln ce f tr) (wB D vwCl (tyA cA) (xM cA r) (va_A (xM cA r (u, a)) sz)) (va_A (xM cA r (u, a)) sz)) 0 0 (va_A (xM cA r (u, a)) sz) := by
  refine Met.ofW (cc := cX10_fits) (maxL := 5) (ret := (some .int)) (by decide) rfl ?_
  intro p e s m args below meth c s₁ B hml hv
  obtain ⟨rfl, hsz, hP, hK, hD0, hE⟩ := hv
  have hx := B.exec
  have hb := B.bytes
  have hr := B.returns
  have hts := atoms_spec (ws := wsX10_fits) B.pre
  have hown : s.vm.findClass RX10 = some m.cls := findClass_of_methodNamed B.named
  have hlocks := B.notSynchronized
  subst hsz
  have hD := hD0.self (sz := s.heap.size)
  generalize hAe : va_A (xM cA r (u, a)) s.heap.size = A at hD hE ⊢
  have hA : ∀ q : Nat, s.heap.size ≤ q → A q := fun q h => by rw [← hAe]; exact Or.inr h
  have hS : va_S A s.heap s.heap [] := va_S.rf
  have hinX10 : ∀ w ∈ u_ws RX10 TX10 34, w ∈ wsX10_fits := by decide +kernel
  have hl := lv_entry ([.ref (r 0), .int q]) (n := 5) (Nat.le_of_ble_eq_true rfl)
  rw [lg_entry_eq]
  generalize (lg_sl ([.ref (r 0), .int q]) ++ List.replicate (5 - (lg_sl ([.ref (r 0), .int q])).length) Slot.unset).toArray = ls at hl ⊢
  have hl : lv_has ls 5 [(0, .ref (r 0)), (1, .int q)] := hl
  have hM := hI.1
  have hB := hI.2.1
  have hg6 := hB.1
  have hRd := hI.2.2.1
  have hSh := hI.2.2.2.1
  have hf0 := hI.2.2.2.2.1
  have htr := hI.2.2.2.2.2
  obtain ⟨S, hSe⟩ : ∃ z, z = 2 ^ g 0 - 1 := ⟨_, rfl⟩
  obtain ⟨L, hLe⟩ : ∃ z, z = ol S (g 0) := ⟨_, rfl⟩
  have hp0 := Nat.two_pow_pos (g 0)
  have hSn : S < 2 ^ g 0 := by omega
  have hS64 : S < 64 := p2_64 hg6 hSn
  have hL6 : L ≤ 6 := by have := ol_le S (g 0); omega
  have hLg : L = g 0 := by rw [hLe, hSe]; exact ol_all _ hg6
  have hfc := fct_le L
  refine lv_aload_n hx hb dX10_fits_0 rfl (lv_at hl 0 rfl) ?_
  refine va_get (D := D) (ci := 10) (v := .int (nI (g 0))) (C := RX10) (T := TX10) (N := 34) hx hb hts hinX10 hown hK hP 0 rfl rfl 5 (by decide) (hts (.fieldLink RX10 90 "OneNailModel" "things" "I") (by decide +kernel)) (fun _ h9 => h9) (congrArg (fun z => some (Value.int z)) (hM.1)) dX10_fits_1 ?_
  refine rz_ne (x := g 0) (tgt := 10) hx hb (by omega) dX10_fits_4 (by decide) (fun c_1 => ?_) (fun c_1 => ?_)
  · refine lv_iload_n hx hb dX10_fits_10 rfl (lv_at hl 1 rfl) ?_
    refine lv_iconst (v := (-1)) hx hb dX10_fits_11 (by decide) ?_
    refine lv_aload_n hx hb dX10_fits_12 rfl (lv_at hl 0 rfl) ?_
    refine va_get (D := D) (ci := 10) (v := .int (nI (g 0))) (C := RX10) (T := TX10) (N := 34) hx hb hts hinX10 hown hK hP 0 rfl rfl 5 (by decide) (hts (.fieldLink RX10 90 "OneNailModel" "things" "I") (by decide +kernel)) (fun _ h9 => h9) (congrArg (fun z => some (Value.int z)) (hM.1)) dX10_fits_13 ?_
    refine lv_iconst (v := (nI 1)) hx hb dX10_fits_16 rfl ?_
    refine rn_isub (x := g 0) (y := 1) hx hb (by omega) dX10_fits_17 ?_
    refine wSi (As := [.int q, .int (-1), .int (nI ((g 0) - 1))]) (rest := []) ⟨hx, hb, hml, hown, hts⟩ (kX10_within l q (-1) (nI ((g 0) - 1))) (va_cwS 3 hts gX10_fits_X10_within rfl rfl rfl (by decide +kernel) ⟨Nat.le_of_ble_eq_true rfl, Nat.le_of_ble_eq_true rfl⟩) rfl hl.1 rfl (Nat.le_of_ble_eq_true rfl) dX10_fits_18 ⟨Nat.zero_le _, Nat.zero_le _⟩ (fun rv_2 hw_3 => ?_)
    rcases hw_3 with ⟨rfl, b_4⟩ | ⟨rfl, b_4⟩
    · refine lv_if_ne (tgt := 26) hx hb dX10_fits_21 (by decide) (fun _ => ?_) (fun c_5 => absurd c_5 (by decide))
      have htot := cq_le (pF_le g T L (g 3) (R 0) (R 1) (R 2)) L (fct L - 1) (f1c S (g 0))
      by_cases hq1 : q = -1
      · have hl : lv_has ls 5 [(0, .ref (r 0)), (1, .int (-1))] := lv_re hl 1 ⟨rfl, rfl⟩ (hq1)
        refine lv_aload_n hx hb dX10_fits_26 rfl (lv_at hl 0 rfl) ?_
        refine lv_aload_n hx hb dX10_fits_27 rfl (lv_at hl 0 rfl) ?_
        refine wVi e0_S (As := []) (rest := [.ref (r 0)]) ⟨hx, hb, hml, hown, hts⟩ (kX10_all l D cA r _ u a g T hM hB) (cwV 0 hts gX10_fits_X10_all rfl rfl rfl (by decide +kernel) ⟨Nat.le_of_ble_eq_true rfl, Nat.le_of_ble_eq_true rfl⟩) (va_recv hK hP (ci := 10) (q0 := 0) rfl rfl) hK hP hD hS hA hE rfl hl.1 rfl (Nat.le_of_ble_eq_true rfl) dX10_fits_28 ⟨Nat.zero_le _, Nat.zero_le _⟩ (fun rv_6 z_8 H locs hw_7 hP hD hS => ?_)
        obtain ⟨rfl, rfl⟩ := hw_7
        have hP : va_P D vwCl (xM cA r (u, a)) H := hP
        have hD : va_D A (xM cA r (u, a)) := hD
        refine lv_topi (fun y_9 ey_9 => ?_)
        obtain rfl : y_9 = (nI S) := ey_9.trans (congrArg nI hSe.symm)
        refine wVv e0_S (As := [.int (nI S)]) (rest := []) ⟨hx, hb, hml, hown, hts⟩ (kX10_firstOrder l D cA r _ u a g T S hM hB (by omega)) (cwV 1 hts gX10_fits_X10_firstOrder rfl rfl rfl (by decide +kernel) ⟨Nat.le_of_ble_eq_true rfl, Nat.le_of_ble_eq_true rfl⟩) (va_recv hK hP (ci := 10) (q0 := 0) rfl rfl) hK hP hD hS hA hE rfl hl.1 rfl (Nat.le_of_ble_eq_true rfl) dX10_fits_31 ⟨Nat.zero_le _, Nat.zero_le _⟩ (fun z_12 H locs hw_11 hP hD hS => ?_)
        obtain ⟨zu13, za14⟩ := z_12
        obtain ⟨hu22_zu13, hrow_zu13, hfu_zu13, hfa_zu13⟩ := hw_11
        have hu22_zu13 : zu13 22 = nI (ol S (g 0)) := hu22_zu13
        have hrow_zu13 : ∀ k, k < ol S (g 0) → za14 21 k = nI (of1 S (g 0) k) := hrow_zu13
        have hfu_zu13 : ∀ i, i ≠ 22 → zu13 i = u i := hfu_zu13
        have hfa_zu13 : ∀ i, i ≠ 21 → za14 i = a i := hfa_zu13
        have hP : va_P D vwCl (xM cA r (zu13, za14)) H := hP
        have hD : va_D A (xM cA r (zu13, za14)) := hD
        refine lv_iconst (v := (nI 0)) hx hb dX10_fits_34 rfl ?_
        refine lv_istore_n (lv' := [(2, .int (nI 0)), (0, .ref (r 0)), (1, .int (-1))]) hx hb dX10_fits_35 rfl hl (by decide) rfl (fun ls hl => ?_)
        refine lv_bipush (v := (-9)) hx hb dX10_fits_36 (by decide) ?_
        refine lv_istore_n (lv' := [(3, .int (-9)), (2, .int (nI 0)), (0, .ref (r 0)), (1, .int (-1))]) hx hb dX10_fits_38 rfl hl (by decide) rfl (fun ls hl => ?_)
        refine lv_iconst (v := (nI 1)) hx hb dX10_fits_39 rfl ?_
        refine lv_istore (lv' := [(4, .int (nI 1)), (3, .int (-9)), (2, .int (nI 0)), (0, .ref (r 0)), (1, .int (-1))]) hx hb dX10_fits_40 hl (by decide) rfl (fun ls hl => ?_)
        refine wLoop (τ := Nat × Nat × Nat × Nat × Int32 × (Nat → Int32) × (Nat → Nat → Int32)) (fun z H locs ls => (fun (mo : Nat) (k : Nat) (N : Nat) (cn : Nat) (l3 : Int32) (u1042 : (Nat → Int32)) (a1042 : (Nat → Nat → Int32)) => (mo ≤ 1) ∧ (mo = 1 → chk S L k N = true ∧ (∀ i, i < L → a1042 21 i = nI (dg N i)) ∧ cn + cq (pF g T L (g 3) (R 0) (R 1) (R 2)) L k N = (cq (pF g T L (g 3) (R 0) (R 1) (R 2)) L (fct L - 1) (f1c S (g 0)))) ∧ (mo = 0 → cn = (cq (pF g T L (g 3) (R 0) (R 1) (R 2)) L (fct L - 1) (f1c S (g 0))) ∧ True) ∧ (cn ≤ 1000000) ∧ (∀ i : Nat, i ≠ 25 → u1042 i = zu13 i) ∧ (∀ i : Nat, i ≠ 21 → i ≠ 23 → i ≠ 24 → a1042 i = za14 i) ∧ (va_P D vwCl (xM cA r (u1042, a1042)) H) ∧ (va_D A (xM cA r (u1042, a1042))) ∧ (va_S A s.heap H locs) ∧ (lv_has ls 5 [(4, .int (nI mo)), (3, .int l3), (2, .int (nI cn)), (1, .int (-1)), (0, .ref (r 0))])) z.1 z.2.1 z.2.2.1 z.2.2.2.1 z.2.2.2.2.1 z.2.2.2.2.2.1 z.2.2.2.2.2.2) (fun z => (fun (mo : Nat) (k : Nat) (N : Nat) (cn : Nat) (l3 : Int32) (u1042 : (Nat → Int32)) (a1042 : (Nat → Nat → Int32)) => mo + k) z.1 z.2.1 z.2.2.1 z.2.2.2.1 z.2.2.2.2.1 z.2.2.2.2.2.1 z.2.2.2.2.2.2) (1, (fct L - 1), (f1c S (g 0)), 0, (-9), zu13, za14) ⟨(show 1 ≤ 1 from Nat.le_refl 1), (show 1 = 1 → chk S L (fct L - 1) (f1c S (g 0)) = true ∧ (∀ i, i < L → za14 21 i = nI (dg (f1c S (g 0)) i)) ∧ 0 + cq (pF g T L (g 3) (R 0) (R 1) (R 2)) L (fct L - 1) (f1c S (g 0)) = (cq (pF g T L (g 3) (R 0) (R 1) (R 2)) L (fct L - 1) (f1c S (g 0))) from (fun _ => ⟨by rw [hLe]; exact perms_ok _ hg6 _ hSn, by rw [hLe]; exact (fun i hi => (hrow_zu13 (i) (by omega)).trans (congrArg nI (dg_f1 hg6 (by omega)).symm)), Nat.zero_add _⟩)), (show 1 = 0 → 0 = (cq (pF g T L (g 3) (R 0) (R 1) (R 2)) L (fct L - 1) (f1c S (g 0))) ∧ True from (fun h => absurd h (by decide))), (show 0 ≤ 1000000 from by omega), (fun i h25 => rfl), (fun i h21 h23 h24 => rfl), hP, hD, hS, lv_sub hl [0, 1, 2, 4, 3] rfl⟩ ?_
        rintro ⟨mo, k, N, cn, l3, u1042, a1042⟩ H locs ls ⟨hmo, h1, h0, hcn, hfu42, hfa42, hP, hD, hS, hl⟩ ih42
        have hmo : mo ≤ 1 := hmo
        have h1 : mo = 1 → chk S L k N = true ∧ (∀ i, i < L → a1042 21 i = nI (dg N i)) ∧ cn + cq (pF g T L (g 3) (R 0) (R 1) (R 2)) L k N = (cq (pF g T L (g 3) (R 0) (R 1) (R 2)) L (fct L - 1) (f1c S (g 0))) := h1
        have h0 : mo = 0 → cn = (cq (pF g T L (g 3) (R 0) (R 1) (R 2)) L (fct L - 1) (f1c S (g 0))) ∧ True := h0
        have hcn : cn ≤ 1000000 := hcn
        have hfu42 : ∀ i : Nat, i ≠ 25 → u1042 i = zu13 i := hfu42
        have hfa42 : ∀ i : Nat, i ≠ 21 → i ≠ 23 → i ≠ 24 → a1042 i = za14 i := hfa42
        have hP : va_P D vwCl (xM cA r (u1042, a1042)) H := hP
        have hD : va_D A (xM cA r (u1042, a1042)) := hD
        have hl : lv_has ls 5 [(4, .int (nI mo)), (3, .int l3), (2, .int (nI cn)), (1, .int (-1)), (0, .ref (r 0))] := hl
        refine lv_iload hx hb dX10_fits_42 (lv_at hl 0 rfl) ?_
        refine rz_eq (x := mo) (tgt := 85) hx hb (by omega) dX10_fits_44 (by decide) (fun c_15 => ?_) (fun c_15 => ?_)
        · refine lv_iload_n hx hb dX10_fits_85 rfl (lv_at hl 3 rfl) ?_
          refine lv_iconst (v := (-1)) hx hb dX10_fits_86 (by decide) ?_
          refine lv_icmp_ne (tgt := 94) hx hb dX10_fits_87 (by decide) (fun c_16 => absurd c_16 (by decide)) (fun _ => ?_)
          refine lv_iload_n hx hb dX10_fits_90 rfl (lv_at hl 2 rfl) ?_
          refine lv_goto (tgt := 95) hx hb dX10_fits_91 (by decide) ?_
          exact wIret hx hb hr hlocks (v := (nI cn)) (u1042, a1042) (⟨by unfold aFits cfF; rw [cif_neg (by omega), cif_pos b_4, cif_pos hq1, ← hSe, ← hLe]; exact congrArg nI (h0 (by omega)).1, (MI.keep hI ((Eq.trans (hfu42 0 (by decide)) (hfu_zu13 0 (by decide))).trans hf0) ((Eq.trans (hfu42 1 (by decide)) (hfu_zu13 1 (by decide))).trans htr) (Eq.trans (hfu42 5 (by decide)) (hfu_zu13 5 (by decide))) (Eq.trans (hfu42 6 (by decide)) (hfu_zu13 6 (by decide))) (Eq.trans (hfu42 7 (by decide)) (hfu_zu13 7 (by decide))) (Eq.trans (hfu42 30 (by decide)) (hfu_zu13 30 (by decide))) (Eq.trans (hfa42 2 (by decide) (by decide) (by decide)) (hfa_zu13 2 (by decide))) (Eq.trans (hfa42 3 (by decide) (by decide) (by decide)) (hfa_zu13 3 (by decide))) (Eq.trans (hfa42 4 (by decide) (by decide) (by decide)) (hfa_zu13 4 (by decide))) (Eq.trans (hfa42 8 (by decide) (by decide) (by decide)) (hfa_zu13 8 (by decide))) (Eq.trans (hfa42 9 (by decide) (by decide) (by decide)) (hfa_zu13 9 (by decide))) (Eq.trans (hfa42 10 (by decide) (by decide) (by decide)) (hfa_zu13 10 (by decide))) (Eq.trans (hfa42 11 (by decide) (by decide) (by decide)) (hfa_zu13 11 (by decide))) (Eq.trans (hfa42 12 (by decide) (by decide) (by decide)) (hfa_zu13 12 (by decide))) (Eq.trans (hfa42 31 (by decide) (by decide) (by decide)) (hfa_zu13 31 (by decide))) (Eq.trans (hfa42 32 (by decide) (by decide) (by decide)) (hfa_zu13 32 (by decide))) (Eq.trans (hfa42 33 (by decide) (by decide) (by decide)) (hfa_zu13 33 (by decide))))⟩) hK hP hD hS dX10_fits_95
        · obtain ⟨hck, hrowN, hacc⟩ := h1 (by omega)
          have hrgN : ∀ k, k < L → dg N k < g 0 := fun k hk => bi_in hSn (chk_in hck k hk)
          have hcq := cq_le (pF_le g T L (g 3) (R 0) (R 1) (R 2)) L k N
          have hpf := pF_le g T L (g 3) (R 0) (R 1) (R 2) N
          refine lv_aload_n hx hb dX10_fits_47 rfl (lv_at hl 4 rfl) ?_
          refine wVi e0_S (As := []) (rest := []) ⟨hx, hb, hml, hown, hts⟩ (kX10_areSo l D cA r _ u1042 a1042 g T (dg N) L (g 3) (R 0) (R 1) (R 2) (MT.keep (MT.keep hM (hfu_zu13 5 (by decide)) (hfu_zu13 6 (by decide)) (hfu_zu13 7 (by decide)) (hfa_zu13 8 (by decide)) (hfa_zu13 9 (by decide)) (hfa_zu13 10 (by decide)) (hfa_zu13 11 (by decide)) (hfa_zu13 12 (by decide))) (hfu42 5 (by decide)) (hfu42 6 (by decide)) (hfu42 7 (by decide)) (hfa42 8 (by decide) (by decide) (by decide)) (hfa42 9 (by decide) (by decide) (by decide)) (hfa42 10 (by decide) (by decide) (by decide)) (hfa42 11 (by decide) (by decide) (by decide)) (hfa42 12 (by decide) (by decide) (by decide))) hB ((hfu42 22 (by decide)).trans ((hu22_zu13).trans (congrArg nI hLe.symm))) (by omega) (fun k hk => hrowN (k) hk) hrgN (by omega) ((Eq.trans (hfu42 30 (by decide)) (hfu_zu13 30 (by decide))).trans hRd.1) hRd.2.1 (fun q hq => ⟨(congrFun (Eq.trans (hfa42 31 (by decide) (by decide) (by decide)) (hfa_zu13 31 (by decide))) q).trans (hRd.2.2.1 q hq).1, (hRd.2.2.1 q hq).2⟩) (fun q hq => ⟨(congrFun (Eq.trans (hfa42 32 (by decide) (by decide) (by decide)) (hfa_zu13 32 (by decide))) q).trans (hRd.2.2.2.1 q hq).1, (hRd.2.2.2.1 q hq).2⟩) (fun q hq => ⟨(congrFun (Eq.trans (hfa42 33 (by decide) (by decide) (by decide)) (hfa_zu13 33 (by decide))) q).trans (hRd.2.2.2.2 q hq).1, (hRd.2.2.2.2 q hq).2⟩)) (cwV 0 hts gX10_fits_X10_areSo rfl rfl rfl (by decide +kernel) ⟨Nat.le_of_ble_eq_true rfl, Nat.le_of_ble_eq_true rfl⟩) (va_recv hK hP (ci := 10) (q0 := 0) rfl rfl) hK hP hD hS hA hE rfl hl.1 rfl (Nat.le_of_ble_eq_true rfl) dX10_fits_48 ⟨Nat.zero_le _, Nat.zero_le _⟩ (fun rv_17 z_19 H locs hw_18 hP hD hS => ?_)
          obtain ⟨zu20, za21⟩ := z_19
          obtain ⟨hw_18, hfu_zu20, hfa_zu20⟩ := hw_18
          have hfu_zu20 : ∀ i, i ≠ 25 → zu20 i = u1042 i := hfu_zu20
          have hfa_zu20 : ∀ i, i ≠ 23 → i ≠ 24 → za21 i = a1042 i := hfa_zu20
          have hP : va_P D vwCl (xM cA r (zu20, za21)) H := hP
          have hD : va_D A (xM cA r (zu20, za21)) := hD
          rcases hw_18 with ⟨rfl, b_22⟩ | ⟨rfl, b_22⟩
          · refine lv_if_eq (tgt := 76) hx hb dX10_fits_51 (by decide) (fun c_23 => absurd c_23 (by decide)) (fun _ => ?_)
            refine lv_iload_n hx hb dX10_fits_54 rfl (lv_at hl 2 rfl) ?_
            refine rz_ne (x := cn) (tgt := 71) hx hb (by omega) dX10_fits_55 (by decide) (fun c_24 => ?_) (fun c_24 => ?_)
            · refine lv_iload_n hx hb dX10_fits_71 rfl (lv_at hl 1 rfl) ?_
              refine lv_istore_n (lv' := [(3, .int l3), (4, .int (nI mo)), (2, .int (nI cn)), (1, .int (-1)), (0, .ref (r 0))]) hx hb dX10_fits_72 rfl hl (by decide) rfl (fun ls hl => ?_)
              refine rn_iinc (x := cn) (d := 1) (lv' := [(2, .int (nI (cn + 1))), (3, .int l3), (4, .int (nI mo)), (1, .int (-1)), (0, .ref (r 0))]) hx hb rfl dX10_fits_73 hl (k := 2) rfl (by decide) rfl (fun ls hl => ?_)
              refine lv_aload_n hx hb dX10_fits_76 rfl (lv_at hl 4 rfl) ?_
              refine wVi e0_S (As := []) (rest := []) ⟨hx, hb, hml, hown, hts⟩ (kX10_nextOrder l D cA r _ zu20 za21 L N ((hfu_zu20 22 (by decide)).trans ((hfu42 22 (by decide)).trans ((hu22_zu13).trans (congrArg nI hLe.symm)))) hL6 (fun k hk => (congrFun (hfa_zu20 21 (by decide) (by decide)) (k)).trans (hrowN (k) hk))) (cwV 0 hts gX10_fits_X10_nextOrder rfl rfl rfl (by decide +kernel) ⟨Nat.le_of_ble_eq_true rfl, Nat.le_of_ble_eq_true rfl⟩) (va_recv hK hP (ci := 10) (q0 := 0) rfl rfl) hK hP hD hS hA hE rfl hl.1 rfl (Nat.le_of_ble_eq_true rfl) dX10_fits_77 ⟨Nat.zero_le _, Nat.zero_le _⟩ (fun rv_25 z_27 H locs hw_26 hP hD hS => ?_)
              obtain ⟨zu28, za29⟩ := z_27
              rcases hw_26 with ⟨rfl, hfk0, hz_zu28⟩ | ⟨rfl, hfk1, hzu_zu28, hrw_zu28, hfa_zu28⟩
              · cases hz_zu28
                have hP : va_P D vwCl (xM cA r (zu20, za21)) H := hP
                have hD : va_D A (xM cA r (zu20, za21)) := hD
                refine lv_istore (lv' := [(4, .int (nI 0)), (2, .int (nI (cn + 1))), (3, .int l3), (1, .int (-1)), (0, .ref (r 0))]) hx hb dX10_fits_80 hl (by decide) rfl (fun ls hl => ?_)
                refine lv_goto (tgt := 42) hx hb dX10_fits_82 (by decide) ?_
                have hp1 : pF g T L (g 3) (R 0) (R 1) (R 2) N = 1 := cif_pos b_22
                have hk0 := chk_end hck hfk0
                exact ih42 (0, 0, 0, (cn + 1), l3, zu20, za21) _ _ _ (show 0 + 0 < mo + k from by omega) ⟨(show 0 ≤ 1 from Nat.zero_le _), (show 0 = 1 → chk S L 0 0 = true ∧ (∀ i, i < L → za21 21 i = nI (dg 0 i)) ∧ (cn + 1) + cq (pF g T L (g 3) (R 0) (R 1) (R 2)) L 0 0 = (cq (pF g T L (g 3) (R 0) (R 1) (R 2)) L (fct L - 1) (f1c S (g 0))) from (fun h => absurd h (by decide))), (show 0 = 0 → (cn + 1) = (cq (pF g T L (g 3) (R 0) (R 1) (R 2)) L (fct L - 1) (f1c S (g 0))) ∧ True from (fun _ => ⟨by rw [hk0] at hacc; have e7 : cq (pF g T L (g 3) (R 0) (R 1) (R 2)) L 0 N = pF g T L (g 3) (R 0) (R 1) (R 2) N := rfl; omega, trivial⟩)), (show (cn + 1) ≤ 1000000 from by omega), (fun i h25 => Eq.trans (hfu_zu20 i h25) (hfu42 i h25)), (fun i h21 h23 h24 => Eq.trans (hfa_zu20 i h23 h24) (hfa42 i h21 h23 h24)), hP, hD, hS, lv_sub hl [0, 2, 1, 3, 4] rfl⟩
              · have hzu_zu28 : zu20 = zu28 := Eq.symm hzu_zu28
                subst hzu_zu28
                have hrw_zu28 : ∀ k, k < L → za29 21 k = nI (dg (nx N L) k) := hrw_zu28
                have hfa_zu28 : ∀ i, i ≠ 21 → za29 i = za21 i := hfa_zu28
                have hP : va_P D vwCl (xM cA r (zu20, za29)) H := hP
                have hD : va_D A (xM cA r (zu20, za29)) := hD
                refine lv_istore (lv' := [(4, .int (nI 1)), (2, .int (nI (cn + 1))), (3, .int l3), (1, .int (-1)), (0, .ref (r 0))]) hx hb dX10_fits_80 hl (by decide) rfl (fun ls hl => ?_)
                refine lv_goto (tgt := 42) hx hb dX10_fits_82 (by decide) ?_
                have hp1 : pF g T L (g 3) (R 0) (R 1) (R 2) N = 1 := cif_pos b_22
                obtain ⟨hk0, hck2⟩ := chk_next hck hfk1
                exact ih42 (1, (k - 1), (nx N L), (cn + 1), l3, zu20, za29) _ _ _ (show 1 + (k - 1) < mo + k from by omega) ⟨(show 1 ≤ 1 from Nat.le_refl 1), (show 1 = 1 → chk S L (k - 1) (nx N L) = true ∧ (∀ i, i < L → za29 21 i = nI (dg (nx N L) i)) ∧ (cn + 1) + cq (pF g T L (g 3) (R 0) (R 1) (R 2)) L (k - 1) (nx N L) = (cq (pF g T L (g 3) (R 0) (R 1) (R 2)) L (fct L - 1) (f1c S (g 0))) from (fun _ => ⟨hck2, hrw_zu28, by rw [cq_step hk0] at hacc; omega⟩)), (show 1 = 0 → (cn + 1) = (cq (pF g T L (g 3) (R 0) (R 1) (R 2)) L (fct L - 1) (f1c S (g 0))) ∧ True from (fun h => absurd h (by decide))), (show (cn + 1) ≤ 1000000 from by omega), (fun i h25 => Eq.trans (hfu_zu20 i h25) (hfu42 i h25)), (fun i h21 h23 h24 => Eq.trans (hfa_zu28 i h21) (Eq.trans (hfa_zu20 i h23 h24) (hfa42 i h21 h23 h24))), hP, hD, hS, lv_sub hl [0, 2, 1, 3, 4] rfl⟩
            · refine lv_iload_n hx hb dX10_fits_58 rfl (lv_at hl 3 rfl) ?_
              refine lv_if_lt (tgt := 71) hx hb dX10_fits_59 (by decide) (fun _ => ?_) (fun c_30 => absurd c_30 (by decide))
              refine lv_iload_n hx hb dX10_fits_71 rfl (lv_at hl 1 rfl) ?_
              refine lv_istore_n (lv' := [(3, .int l3), (4, .int (nI mo)), (2, .int (nI cn)), (1, .int (-1)), (0, .ref (r 0))]) hx hb dX10_fits_72 rfl hl (by decide) rfl (fun ls hl => ?_)
              refine rn_iinc (x := cn) (d := 1) (lv' := [(2, .int (nI (cn + 1))), (3, .int l3), (4, .int (nI mo)), (1, .int (-1)), (0, .ref (r 0))]) hx hb rfl dX10_fits_73 hl (k := 2) rfl (by decide) rfl (fun ls hl => ?_)
              refine lv_aload_n hx hb dX10_fits_76 rfl (lv_at hl 4 rfl) ?_
              refine wVi e0_S (As := []) (rest := []) ⟨hx, hb, hml, hown, hts⟩ (kX10_nextOrder l D cA r _ zu20 za21 L N ((hfu_zu20 22 (by decide)).trans ((hfu42 22 (by decide)).trans ((hu22_zu13).trans (congrArg nI hLe.symm)))) hL6 (fun k hk => (congrFun (hfa_zu20 21 (by decide) (by decide)) (k)).trans (hrowN (k) hk))) (cwV 0 hts gX10_fits_X10_nextOrder rfl rfl rfl (by decide +kernel) ⟨Nat.le_of_ble_eq_true rfl, Nat.le_of_ble_eq_true rfl⟩) (va_recv hK hP (ci := 10) (q0 := 0) rfl rfl) hK hP hD hS hA hE rfl hl.1 rfl (Nat.le_of_ble_eq_true rfl) dX10_fits_77 ⟨Nat.zero_le _, Nat.zero_le _⟩ (fun rv_31 z_33 H locs hw_32 hP hD hS => ?_)
              obtain ⟨zu34, za35⟩ := z_33
              rcases hw_32 with ⟨rfl, hfk0, hz_zu34⟩ | ⟨rfl, hfk1, hzu_zu34, hrw_zu34, hfa_zu34⟩
              · cases hz_zu34
                have hP : va_P D vwCl (xM cA r (zu20, za21)) H := hP
                have hD : va_D A (xM cA r (zu20, za21)) := hD
                refine lv_istore (lv' := [(4, .int (nI 0)), (2, .int (nI (cn + 1))), (3, .int l3), (1, .int (-1)), (0, .ref (r 0))]) hx hb dX10_fits_80 hl (by decide) rfl (fun ls hl => ?_)
                refine lv_goto (tgt := 42) hx hb dX10_fits_82 (by decide) ?_
                have hp1 : pF g T L (g 3) (R 0) (R 1) (R 2) N = 1 := cif_pos b_22
                have hk0 := chk_end hck hfk0
                exact ih42 (0, 0, 0, (cn + 1), l3, zu20, za21) _ _ _ (show 0 + 0 < mo + k from by omega) ⟨(show 0 ≤ 1 from Nat.zero_le _), (show 0 = 1 → chk S L 0 0 = true ∧ (∀ i, i < L → za21 21 i = nI (dg 0 i)) ∧ (cn + 1) + cq (pF g T L (g 3) (R 0) (R 1) (R 2)) L 0 0 = (cq (pF g T L (g 3) (R 0) (R 1) (R 2)) L (fct L - 1) (f1c S (g 0))) from (fun h => absurd h (by decide))), (show 0 = 0 → (cn + 1) = (cq (pF g T L (g 3) (R 0) (R 1) (R 2)) L (fct L - 1) (f1c S (g 0))) ∧ True from (fun _ => ⟨by rw [hk0] at hacc; have e7 : cq (pF g T L (g 3) (R 0) (R 1) (R 2)) L 0 N = pF g T L (g 3) (R 0) (R 1) (R 2) N := rfl; omega, trivial⟩)), (show (cn + 1) ≤ 1000000 from by omega), (fun i h25 => Eq.trans (hfu_zu20 i h25) (hfu42 i h25)), (fun i h21 h23 h24 => Eq.trans (hfa_zu20 i h23 h24) (hfa42 i h21 h23 h24)), hP, hD, hS, lv_sub hl [0, 2, 1, 3, 4] rfl⟩
              · have hzu_zu34 : zu20 = zu34 := Eq.symm hzu_zu34
                subst hzu_zu34
                have hrw_zu34 : ∀ k, k < L → za35 21 k = nI (dg (nx N L) k) := hrw_zu34
                have hfa_zu34 : ∀ i, i ≠ 21 → za35 i = za21 i := hfa_zu34
                have hP : va_P D vwCl (xM cA r (zu20, za35)) H := hP
                have hD : va_D A (xM cA r (zu20, za35)) := hD
                refine lv_istore (lv' := [(4, .int (nI 1)), (2, .int (nI (cn + 1))), (3, .int l3), (1, .int (-1)), (0, .ref (r 0))]) hx hb dX10_fits_80 hl (by decide) rfl (fun ls hl => ?_)
                refine lv_goto (tgt := 42) hx hb dX10_fits_82 (by decide) ?_
                have hp1 : pF g T L (g 3) (R 0) (R 1) (R 2) N = 1 := cif_pos b_22
                obtain ⟨hk0, hck2⟩ := chk_next hck hfk1
                exact ih42 (1, (k - 1), (nx N L), (cn + 1), l3, zu20, za35) _ _ _ (show 1 + (k - 1) < mo + k from by omega) ⟨(show 1 ≤ 1 from Nat.le_refl 1), (show 1 = 1 → chk S L (k - 1) (nx N L) = true ∧ (∀ i, i < L → za35 21 i = nI (dg (nx N L) i)) ∧ (cn + 1) + cq (pF g T L (g 3) (R 0) (R 1) (R 2)) L (k - 1) (nx N L) = (cq (pF g T L (g 3) (R 0) (R 1) (R 2)) L (fct L - 1) (f1c S (g 0))) from (fun _ => ⟨hck2, hrw_zu34, by rw [cq_step hk0] at hacc; omega⟩)), (show 1 = 0 → (cn + 1) = (cq (pF g T L (g 3) (R 0) (R 1) (R 2)) L (fct L - 1) (f1c S (g 0))) ∧ True from (fun h => absurd h (by decide))), (show (cn + 1) ≤ 1000000 from by omega), (fun i h25 => Eq.trans (hfu_zu20 i h25) (hfu42 i h25)), (fun i h21 h23 h24 => Eq.trans (hfa_zu34 i h21) (Eq.trans (hfa_zu20 i h23 h24) (hfa42 i h21 h23 h24))), hP, hD, hS, lv_sub hl [0, 2, 1, 3, 4] rfl⟩
          · refine lv_if_eq (tgt := 76) hx hb dX10_fits_51 (by decide) (fun _ => ?_) (fun c_36 => absurd c_36 (by decide))
            refine lv_aload_n hx hb dX10_fits_76 rfl (lv_at hl 4 rfl) ?_
            refine wVi e0_S (As := []) (rest := []) ⟨hx, hb, hml, hown, hts⟩ (kX10_nextOrder l D cA r _ zu20 za21 L N ((hfu_zu20 22 (by decide)).trans ((hfu42 22 (by decide)).trans ((hu22_zu13).trans (congrArg nI hLe.symm)))) hL6 (fun k hk => (congrFun (hfa_zu20 21 (by decide) (by decide)) (k)).trans (hrowN (k) hk))) (cwV 0 hts gX10_fits_X10_nextOrder rfl rfl rfl (by decide +kernel) ⟨Nat.le_of_ble_eq_true rfl, Nat.le_of_ble_eq_true rfl⟩) (va_recv hK hP (ci := 10) (q0 := 0) rfl rfl) hK hP hD hS hA hE rfl hl.1 rfl (Nat.le_of_ble_eq_true rfl) dX10_fits_77 ⟨Nat.zero_le _, Nat.zero_le _⟩ (fun rv_37 z_39 H locs hw_38 hP hD hS => ?_)
            obtain ⟨zu40, za41⟩ := z_39
            rcases hw_38 with ⟨rfl, hfk0, hz_zu40⟩ | ⟨rfl, hfk1, hzu_zu40, hrw_zu40, hfa_zu40⟩
            · cases hz_zu40
              have hP : va_P D vwCl (xM cA r (zu20, za21)) H := hP
              have hD : va_D A (xM cA r (zu20, za21)) := hD
              refine lv_istore (lv' := [(4, .int (nI 0)), (3, .int l3), (2, .int (nI cn)), (1, .int (-1)), (0, .ref (r 0))]) hx hb dX10_fits_80 hl (by decide) rfl (fun ls hl => ?_)
              refine lv_goto (tgt := 42) hx hb dX10_fits_82 (by decide) ?_
              have hp1 : pF g T L (g 3) (R 0) (R 1) (R 2) N = 0 := cif_neg b_22
              have hk0 := chk_end hck hfk0
              exact ih42 (0, 0, 0, cn, l3, zu20, za21) _ _ _ (show 0 + 0 < mo + k from by omega) ⟨(show 0 ≤ 1 from Nat.zero_le _), (show 0 = 1 → chk S L 0 0 = true ∧ (∀ i, i < L → za21 21 i = nI (dg 0 i)) ∧ cn + cq (pF g T L (g 3) (R 0) (R 1) (R 2)) L 0 0 = (cq (pF g T L (g 3) (R 0) (R 1) (R 2)) L (fct L - 1) (f1c S (g 0))) from (fun h => absurd h (by decide))), (show 0 = 0 → cn = (cq (pF g T L (g 3) (R 0) (R 1) (R 2)) L (fct L - 1) (f1c S (g 0))) ∧ True from (fun _ => ⟨by rw [hk0] at hacc; have e7 : cq (pF g T L (g 3) (R 0) (R 1) (R 2)) L 0 N = pF g T L (g 3) (R 0) (R 1) (R 2) N := rfl; omega, trivial⟩)), (show cn ≤ 1000000 from by omega), (fun i h25 => Eq.trans (hfu_zu20 i h25) (hfu42 i h25)), (fun i h21 h23 h24 => Eq.trans (hfa_zu20 i h23 h24) (hfa42 i h21 h23 h24)), hP, hD, hS, lv_sub hl [0, 1, 2, 3, 4] rfl⟩
            · have hzu_zu40 : zu20 = zu40 := Eq.symm hzu_zu40
              subst hzu_zu40
              have hrw_zu40 : ∀ k, k < L → za41 21 k = nI (dg (nx N L) k) := hrw_zu40
              have hfa_zu40 : ∀ i, i ≠ 21 → za41 i = za21 i := hfa_zu40
              have hP : va_P D vwCl (xM cA r (zu20, za41)) H := hP
              have hD : va_D A (xM cA r (zu20, za41)) := hD
              refine lv_istore (lv' := [(4, .int (nI 1)), (3, .int l3), (2, .int (nI cn)), (1, .int (-1)), (0, .ref (r 0))]) hx hb dX10_fits_80 hl (by decide) rfl (fun ls hl => ?_)
              refine lv_goto (tgt := 42) hx hb dX10_fits_82 (by decide) ?_
              have hp1 : pF g T L (g 3) (R 0) (R 1) (R 2) N = 0 := cif_neg b_22
              obtain ⟨hk0, hck2⟩ := chk_next hck hfk1
              exact ih42 (1, (k - 1), (nx N L), cn, l3, zu20, za41) _ _ _ (show 1 + (k - 1) < mo + k from by omega) ⟨(show 1 ≤ 1 from Nat.le_refl 1), (show 1 = 1 → chk S L (k - 1) (nx N L) = true ∧ (∀ i, i < L → za41 21 i = nI (dg (nx N L) i)) ∧ cn + cq (pF g T L (g 3) (R 0) (R 1) (R 2)) L (k - 1) (nx N L) = (cq (pF g T L (g 3) (R 0) (R 1) (R 2)) L (fct L - 1) (f1c S (g 0))) from (fun _ => ⟨hck2, hrw_zu40, by rw [cq_step hk0] at hacc; omega⟩)), (show 1 = 0 → cn = (cq (pF g T L (g 3) (R 0) (R 1) (R 2)) L (fct L - 1) (f1c S (g 0))) ∧ True from (fun h => absurd h (by decide))), (show cn ≤ 1000000 from by omega), (fun i h25 => Eq.trans (hfu_zu20 i h25) (hfu42 i h25)), (fun i h21 h23 h24 => Eq.trans (hfa_zu40 i h21) (Eq.trans (hfa_zu20 i h23 h24) (hfa42 i h21 h23 h24))), hP, hD, hS, lv_sub hl [0, 1, 2, 3, 4] rfl⟩
      · obtain ⟨q0, hq01, hq02⟩ := nI_of (m1_of b_4.1 hq1)
        have hq4c : q.toNatClampNeg = q0 := by rw [hq02]; exact nI_clamp hq01
        have hq0g : q0 ≤ g 0 - 1 := (nI_leI hq01 (by omega)).mp (hq02 ▸ b_4.2)
        have hl : lv_has ls 5 [(0, .ref (r 0)), (1, .int (nI q0))] := lv_re hl 1 ⟨rfl, rfl⟩ (hq02)
        refine lv_aload_n hx hb dX10_fits_26 rfl (lv_at hl 0 rfl) ?_
        refine lv_aload_n hx hb dX10_fits_27 rfl (lv_at hl 0 rfl) ?_
        refine wVi e0_S (As := []) (rest := [.ref (r 0)]) ⟨hx, hb, hml, hown, hts⟩ (kX10_all l D cA r _ u a g T hM hB) (cwV 0 hts gX10_fits_X10_all rfl rfl rfl (by decide +kernel) ⟨Nat.le_of_ble_eq_true rfl, Nat.le_of_ble_eq_true rfl⟩) (va_recv hK hP (ci := 10) (q0 := 0) rfl rfl) hK hP hD hS hA hE rfl hl.1 rfl (Nat.le_of_ble_eq_true rfl) dX10_fits_28 ⟨Nat.zero_le _, Nat.zero_le _⟩ (fun rv_42 z_44 H locs hw_43 hP hD hS => ?_)
        obtain ⟨rfl, rfl⟩ := hw_43
        have hP : va_P D vwCl (xM cA r (u, a)) H := hP
        have hD : va_D A (xM cA r (u, a)) := hD
        refine lv_topi (fun y_45 ey_45 => ?_)
        obtain rfl : y_45 = (nI S) := ey_45.trans (congrArg nI hSe.symm)
        refine wVv e0_S (As := [.int (nI S)]) (rest := []) ⟨hx, hb, hml, hown, hts⟩ (kX10_firstOrder l D cA r _ u a g T S hM hB (by omega)) (cwV 1 hts gX10_fits_X10_firstOrder rfl rfl rfl (by decide +kernel) ⟨Nat.le_of_ble_eq_true rfl, Nat.le_of_ble_eq_true rfl⟩) (va_recv hK hP (ci := 10) (q0 := 0) rfl rfl) hK hP hD hS hA hE rfl hl.1 rfl (Nat.le_of_ble_eq_true rfl) dX10_fits_31 ⟨Nat.zero_le _, Nat.zero_le _⟩ (fun z_48 H locs hw_47 hP hD hS => ?_)
        obtain ⟨zu49, za50⟩ := z_48
        obtain ⟨hu22_zu49, hrow_zu49, hfu_zu49, hfa_zu49⟩ := hw_47
        have hu22_zu49 : zu49 22 = nI (ol S (g 0)) := hu22_zu49
        have hrow_zu49 : ∀ k, k < ol S (g 0) → za50 21 k = nI (of1 S (g 0) k) := hrow_zu49
        have hfu_zu49 : ∀ i, i ≠ 22 → zu49 i = u i := hfu_zu49
        have hfa_zu49 : ∀ i, i ≠ 21 → za50 i = a i := hfa_zu49
        have hP : va_P D vwCl (xM cA r (zu49, za50)) H := hP
        have hD : va_D A (xM cA r (zu49, za50)) := hD
        refine lv_iconst (v := (nI 0)) hx hb dX10_fits_34 rfl ?_
        refine lv_istore_n (lv' := [(2, .int (nI 0)), (0, .ref (r 0)), (1, .int (nI q0))]) hx hb dX10_fits_35 rfl hl (by decide) rfl (fun ls hl => ?_)
        refine lv_bipush (v := (-9)) hx hb dX10_fits_36 (by decide) ?_
        refine lv_istore_n (lv' := [(3, .int (-9)), (2, .int (nI 0)), (0, .ref (r 0)), (1, .int (nI q0))]) hx hb dX10_fits_38 rfl hl (by decide) rfl (fun ls hl => ?_)
        refine lv_iconst (v := (nI 1)) hx hb dX10_fits_39 rfl ?_
        refine lv_istore (lv' := [(4, .int (nI 1)), (3, .int (-9)), (2, .int (nI 0)), (0, .ref (r 0)), (1, .int (nI q0))]) hx hb dX10_fits_40 hl (by decide) rfl (fun ls hl => ?_)
        refine wLoop (τ := Nat × Nat × Nat × Nat × Int32 × (Nat → Int32) × (Nat → Nat → Int32)) (fun z H locs ls => (fun (mo : Nat) (k : Nat) (N : Nat) (cn : Nat) (l3 : Int32) (u1042 : (Nat → Int32)) (a1042 : (Nat → Nat → Int32)) => (mo ≤ 1) ∧ (mo = 1 → chk S L k N = true ∧ (∀ i, i < L → a1042 21 i = nI (dg N i)) ∧ cn + cq (pF g T L (g 3) (R 0) (R 1) (R 2)) L k N = (cq (pF g T L (g 3) (R 0) (R 1) (R 2)) L (fct L - 1) (f1c S (g 0))) ∧ ((cn = 0 ∧ l3 = -9 ∧ ft (pF g T L (g 3) (R 0) (R 1) (R 2)) L k N = (ft (pF g T L (g 3) (R 0) (R 1) (R 2)) L (fct L - 1) (f1c S (g 0)))) ∨ (0 < cn ∧ l3 = nI (dg (ft (pF g T L (g 3) (R 0) (R 1) (R 2)) L (fct L - 1) (f1c S (g 0))) q0)))) ∧ (mo = 0 → cn = (cq (pF g T L (g 3) (R 0) (R 1) (R 2)) L (fct L - 1) (f1c S (g 0))) ∧ ((cn = 0 ∧ l3 = -9) ∨ (0 < cn ∧ l3 = nI (dg (ft (pF g T L (g 3) (R 0) (R 1) (R 2)) L (fct L - 1) (f1c S (g 0))) q0)))) ∧ (cn ≤ 1000000) ∧ (∀ i : Nat, i ≠ 25 → u1042 i = zu49 i) ∧ (∀ i : Nat, i ≠ 21 → i ≠ 23 → i ≠ 24 → a1042 i = za50 i) ∧ (va_P D vwCl (xM cA r (u1042, a1042)) H) ∧ (va_D A (xM cA r (u1042, a1042))) ∧ (va_S A s.heap H locs) ∧ (lv_has ls 5 [(4, .int (nI mo)), (3, .int l3), (2, .int (nI cn)), (1, .int (nI q0)), (0, .ref (r 0))])) z.1 z.2.1 z.2.2.1 z.2.2.2.1 z.2.2.2.2.1 z.2.2.2.2.2.1 z.2.2.2.2.2.2) (fun z => (fun (mo : Nat) (k : Nat) (N : Nat) (cn : Nat) (l3 : Int32) (u1042 : (Nat → Int32)) (a1042 : (Nat → Nat → Int32)) => mo + k) z.1 z.2.1 z.2.2.1 z.2.2.2.1 z.2.2.2.2.1 z.2.2.2.2.2.1 z.2.2.2.2.2.2) (1, (fct L - 1), (f1c S (g 0)), 0, (-9), zu49, za50) ⟨(show 1 ≤ 1 from Nat.le_refl 1), (show 1 = 1 → chk S L (fct L - 1) (f1c S (g 0)) = true ∧ (∀ i, i < L → za50 21 i = nI (dg (f1c S (g 0)) i)) ∧ 0 + cq (pF g T L (g 3) (R 0) (R 1) (R 2)) L (fct L - 1) (f1c S (g 0)) = (cq (pF g T L (g 3) (R 0) (R 1) (R 2)) L (fct L - 1) (f1c S (g 0))) ∧ ((0 = 0 ∧ (-9) = -9 ∧ ft (pF g T L (g 3) (R 0) (R 1) (R 2)) L (fct L - 1) (f1c S (g 0)) = (ft (pF g T L (g 3) (R 0) (R 1) (R 2)) L (fct L - 1) (f1c S (g 0)))) ∨ (0 < 0 ∧ (-9) = nI (dg (ft (pF g T L (g 3) (R 0) (R 1) (R 2)) L (fct L - 1) (f1c S (g 0))) q0))) from (fun _ => ⟨by rw [hLe]; exact perms_ok _ hg6 _ hSn, by rw [hLe]; exact (fun i hi => (hrow_zu49 (i) (by omega)).trans (congrArg nI (dg_f1 hg6 (by omega)).symm)), Nat.zero_add _, Or.inl ⟨rfl, rfl, rfl⟩⟩)), (show 1 = 0 → 0 = (cq (pF g T L (g 3) (R 0) (R 1) (R 2)) L (fct L - 1) (f1c S (g 0))) ∧ ((0 = 0 ∧ (-9) = -9) ∨ (0 < 0 ∧ (-9) = nI (dg (ft (pF g T L (g 3) (R 0) (R 1) (R 2)) L (fct L - 1) (f1c S (g 0))) q0))) from (fun h => absurd h (by decide))), (show 0 ≤ 1000000 from by omega), (fun i h25 => rfl), (fun i h21 h23 h24 => rfl), hP, hD, hS, lv_sub hl [0, 1, 2, 4, 3] rfl⟩ ?_
        rintro ⟨mo, k, N, cn, l3, u1042, a1042⟩ H locs ls ⟨hmo, h1, h0, hcn, hfu42, hfa42, hP, hD, hS, hl⟩ ih42
        have hmo : mo ≤ 1 := hmo
        have h1 : mo = 1 → chk S L k N = true ∧ (∀ i, i < L → a1042 21 i = nI (dg N i)) ∧ cn + cq (pF g T L (g 3) (R 0) (R 1) (R 2)) L k N = (cq (pF g T L (g 3) (R 0) (R 1) (R 2)) L (fct L - 1) (f1c S (g 0))) ∧ ((cn = 0 ∧ l3 = -9 ∧ ft (pF g T L (g 3) (R 0) (R 1) (R 2)) L k N = (ft (pF g T L (g 3) (R 0) (R 1) (R 2)) L (fct L - 1) (f1c S (g 0)))) ∨ (0 < cn ∧ l3 = nI (dg (ft (pF g T L (g 3) (R 0) (R 1) (R 2)) L (fct L - 1) (f1c S (g 0))) q0))) := h1
        have h0 : mo = 0 → cn = (cq (pF g T L (g 3) (R 0) (R 1) (R 2)) L (fct L - 1) (f1c S (g 0))) ∧ ((cn = 0 ∧ l3 = -9) ∨ (0 < cn ∧ l3 = nI (dg (ft (pF g T L (g 3) (R 0) (R 1) (R 2)) L (fct L - 1) (f1c S (g 0))) q0))) := h0
        have hcn : cn ≤ 1000000 := hcn
        have hfu42 : ∀ i : Nat, i ≠ 25 → u1042 i = zu49 i := hfu42
        have hfa42 : ∀ i : Nat, i ≠ 21 → i ≠ 23 → i ≠ 24 → a1042 i = za50 i := hfa42
        have hP : va_P D vwCl (xM cA r (u1042, a1042)) H := hP
        have hD : va_D A (xM cA r (u1042, a1042)) := hD
        have hl : lv_has ls 5 [(4, .int (nI mo)), (3, .int l3), (2, .int (nI cn)), (1, .int (nI q0)), (0, .ref (r 0))] := hl
        refine lv_iload hx hb dX10_fits_42 (lv_at hl 0 rfl) ?_
        refine rz_eq (x := mo) (tgt := 85) hx hb (by omega) dX10_fits_44 (by decide) (fun c_51 => ?_) (fun c_51 => ?_)
        · refine lv_iload_n hx hb dX10_fits_85 rfl (lv_at hl 3 rfl) ?_
          refine lv_iconst (v := (-1)) hx hb dX10_fits_86 (by decide) ?_
          refine lv_icmp_ne (tgt := 94) hx hb dX10_fits_87 (by decide) (fun c_52 => ?_) (fun c_52 => absurd c_52 (nI_nm1 (by omega)))
          refine lv_iload_n hx hb dX10_fits_94 rfl (lv_at hl 1 rfl) ?_
          exact wIret hx hb hr hlocks (v := l3) (u1042, a1042) (⟨by obtain ⟨hct, hcf⟩ := h0 (by omega); unfold aFits cfF ftF; rw [cif_neg (by omega), cif_pos b_4, cif_neg hq1, ← hSe, ← hLe, hq4c]; rcases hcf with w | w; rw [cif_pos (by omega)]; exact w.2; rw [cif_neg (by omega)]; exact w.2, (MI.keep hI ((Eq.trans (hfu42 0 (by decide)) (hfu_zu49 0 (by decide))).trans hf0) ((Eq.trans (hfu42 1 (by decide)) (hfu_zu49 1 (by decide))).trans htr) (Eq.trans (hfu42 5 (by decide)) (hfu_zu49 5 (by decide))) (Eq.trans (hfu42 6 (by decide)) (hfu_zu49 6 (by decide))) (Eq.trans (hfu42 7 (by decide)) (hfu_zu49 7 (by decide))) (Eq.trans (hfu42 30 (by decide)) (hfu_zu49 30 (by decide))) (Eq.trans (hfa42 2 (by decide) (by decide) (by decide)) (hfa_zu49 2 (by decide))) (Eq.trans (hfa42 3 (by decide) (by decide) (by decide)) (hfa_zu49 3 (by decide))) (Eq.trans (hfa42 4 (by decide) (by decide) (by decide)) (hfa_zu49 4 (by decide))) (Eq.trans (hfa42 8 (by decide) (by decide) (by decide)) (hfa_zu49 8 (by decide))) (Eq.trans (hfa42 9 (by decide) (by decide) (by decide)) (hfa_zu49 9 (by decide))) (Eq.trans (hfa42 10 (by decide) (by decide) (by decide)) (hfa_zu49 10 (by decide))) (Eq.trans (hfa42 11 (by decide) (by decide) (by decide)) (hfa_zu49 11 (by decide))) (Eq.trans (hfa42 12 (by decide) (by decide) (by decide)) (hfa_zu49 12 (by decide))) (Eq.trans (hfa42 31 (by decide) (by decide) (by decide)) (hfa_zu49 31 (by decide))) (Eq.trans (hfa42 32 (by decide) (by decide) (by decide)) (hfa_zu49 32 (by decide))) (Eq.trans (hfa42 33 (by decide) (by decide) (by decide)) (hfa_zu49 33 (by decide))))⟩) hK hP hD hS dX10_fits_95
        · obtain ⟨hck, hrowN, hacc, hft⟩ := h1 (by omega)
          have hrgN : ∀ k, k < L → dg N k < g 0 := fun k hk => bi_in hSn (chk_in hck k hk)
          have hcq := cq_le (pF_le g T L (g 3) (R 0) (R 1) (R 2)) L k N
          have hpf := pF_le g T L (g 3) (R 0) (R 1) (R 2) N
          refine lv_aload_n hx hb dX10_fits_47 rfl (lv_at hl 4 rfl) ?_
          refine wVi e0_S (As := []) (rest := []) ⟨hx, hb, hml, hown, hts⟩ (kX10_areSo l D cA r _ u1042 a1042 g T (dg N) L (g 3) (R 0) (R 1) (R 2) (MT.keep (MT.keep hM (hfu_zu49 5 (by decide)) (hfu_zu49 6 (by decide)) (hfu_zu49 7 (by decide)) (hfa_zu49 8 (by decide)) (hfa_zu49 9 (by decide)) (hfa_zu49 10 (by decide)) (hfa_zu49 11 (by decide)) (hfa_zu49 12 (by decide))) (hfu42 5 (by decide)) (hfu42 6 (by decide)) (hfu42 7 (by decide)) (hfa42 8 (by decide) (by decide) (by decide)) (hfa42 9 (by decide) (by decide) (by decide)) (hfa42 10 (by decide) (by decide) (by decide)) (hfa42 11 (by decide) (by decide) (by decide)) (hfa42 12 (by decide) (by decide) (by decide))) hB ((hfu42 22 (by decide)).trans ((hu22_zu49).trans (congrArg nI hLe.symm))) (by omega) (fun k hk => hrowN (k) hk) hrgN (by omega) ((Eq.trans (hfu42 30 (by decide)) (hfu_zu49 30 (by decide))).trans hRd.1) hRd.2.1 (fun q hq => ⟨(congrFun (Eq.trans (hfa42 31 (by decide) (by decide) (by decide)) (hfa_zu49 31 (by decide))) q).trans (hRd.2.2.1 q hq).1, (hRd.2.2.1 q hq).2⟩) (fun q hq => ⟨(congrFun (Eq.trans (hfa42 32 (by decide) (by decide) (by decide)) (hfa_zu49 32 (by decide))) q).trans (hRd.2.2.2.1 q hq).1, (hRd.2.2.2.1 q hq).2⟩) (fun q hq => ⟨(congrFun (Eq.trans (hfa42 33 (by decide) (by decide) (by decide)) (hfa_zu49 33 (by decide))) q).trans (hRd.2.2.2.2 q hq).1, (hRd.2.2.2.2 q hq).2⟩)) (cwV 0 hts gX10_fits_X10_areSo rfl rfl rfl (by decide +kernel) ⟨Nat.le_of_ble_eq_true rfl, Nat.le_of_ble_eq_true rfl⟩) (va_recv hK hP (ci := 10) (q0 := 0) rfl rfl) hK hP hD hS hA hE rfl hl.1 rfl (Nat.le_of_ble_eq_true rfl) dX10_fits_48 ⟨Nat.zero_le _, Nat.zero_le _⟩ (fun rv_53 z_55 H locs hw_54 hP hD hS => ?_)
          obtain ⟨zu56, za57⟩ := z_55
          obtain ⟨hw_54, hfu_zu56, hfa_zu56⟩ := hw_54
          have hfu_zu56 : ∀ i, i ≠ 25 → zu56 i = u1042 i := hfu_zu56
          have hfa_zu56 : ∀ i, i ≠ 23 → i ≠ 24 → za57 i = a1042 i := hfa_zu56
          have hP : va_P D vwCl (xM cA r (zu56, za57)) H := hP
          have hD : va_D A (xM cA r (zu56, za57)) := hD
          rcases hw_54 with ⟨rfl, b_58⟩ | ⟨rfl, b_58⟩
          · refine lv_if_eq (tgt := 76) hx hb dX10_fits_51 (by decide) (fun c_59 => absurd c_59 (by decide)) (fun _ => ?_)
            refine lv_iload_n hx hb dX10_fits_54 rfl (lv_at hl 2 rfl) ?_
            refine rz_ne (x := cn) (tgt := 71) hx hb (by omega) dX10_fits_55 (by decide) (fun c_60 => ?_) (fun c_60 => ?_)
            · refine lv_iload_n hx hb dX10_fits_71 rfl (lv_at hl 1 rfl) ?_
              refine lv_istore_n (lv' := [(3, .int l3), (4, .int (nI mo)), (2, .int (nI cn)), (1, .int (nI q0)), (0, .ref (r 0))]) hx hb dX10_fits_72 rfl hl (by decide) rfl (fun ls hl => ?_)
              refine rn_iinc (x := cn) (d := 1) (lv' := [(2, .int (nI (cn + 1))), (3, .int l3), (4, .int (nI mo)), (1, .int (nI q0)), (0, .ref (r 0))]) hx hb rfl dX10_fits_73 hl (k := 2) rfl (by decide) rfl (fun ls hl => ?_)
              refine lv_aload_n hx hb dX10_fits_76 rfl (lv_at hl 4 rfl) ?_
              refine wVi e0_S (As := []) (rest := []) ⟨hx, hb, hml, hown, hts⟩ (kX10_nextOrder l D cA r _ zu56 za57 L N ((hfu_zu56 22 (by decide)).trans ((hfu42 22 (by decide)).trans ((hu22_zu49).trans (congrArg nI hLe.symm)))) hL6 (fun k hk => (congrFun (hfa_zu56 21 (by decide) (by decide)) (k)).trans (hrowN (k) hk))) (cwV 0 hts gX10_fits_X10_nextOrder rfl rfl rfl (by decide +kernel) ⟨Nat.le_of_ble_eq_true rfl, Nat.le_of_ble_eq_true rfl⟩) (va_recv hK hP (ci := 10) (q0 := 0) rfl rfl) hK hP hD hS hA hE rfl hl.1 rfl (Nat.le_of_ble_eq_true rfl) dX10_fits_77 ⟨Nat.zero_le _, Nat.zero_le _⟩ (fun rv_61 z_63 H locs hw_62 hP hD hS => ?_)
              obtain ⟨zu64, za65⟩ := z_63
              rcases hw_62 with ⟨rfl, hfk0, hz_zu64⟩ | ⟨rfl, hfk1, hzu_zu64, hrw_zu64, hfa_zu64⟩
              · cases hz_zu64
                have hP : va_P D vwCl (xM cA r (zu56, za57)) H := hP
                have hD : va_D A (xM cA r (zu56, za57)) := hD
                refine lv_istore (lv' := [(4, .int (nI 0)), (2, .int (nI (cn + 1))), (3, .int l3), (1, .int (nI q0)), (0, .ref (r 0))]) hx hb dX10_fits_80 hl (by decide) rfl (fun ls hl => ?_)
                refine lv_goto (tgt := 42) hx hb dX10_fits_82 (by decide) ?_
                have hp1 : pF g T L (g 3) (R 0) (R 1) (R 2) N = 1 := cif_pos b_58
                have hk0 := chk_end hck hfk0
                have hft2 : ((cn + 1) = 0 ∧ l3 = -9) ∨ (0 < (cn + 1) ∧ l3 = nI (dg (ft (pF g T L (g 3) (R 0) (R 1) (R 2)) L (fct L - 1) (f1c S (g 0))) q0)) := (Or.inr ⟨by omega, (hft.resolve_left (fun w => by omega)).2⟩)
                exact ih42 (0, 0, 0, (cn + 1), l3, zu56, za57) _ _ _ (show 0 + 0 < mo + k from by omega) ⟨(show 0 ≤ 1 from Nat.zero_le _), (show 0 = 1 → chk S L 0 0 = true ∧ (∀ i, i < L → za57 21 i = nI (dg 0 i)) ∧ (cn + 1) + cq (pF g T L (g 3) (R 0) (R 1) (R 2)) L 0 0 = (cq (pF g T L (g 3) (R 0) (R 1) (R 2)) L (fct L - 1) (f1c S (g 0))) ∧ (((cn + 1) = 0 ∧ l3 = -9 ∧ ft (pF g T L (g 3) (R 0) (R 1) (R 2)) L 0 0 = (ft (pF g T L (g 3) (R 0) (R 1) (R 2)) L (fct L - 1) (f1c S (g 0)))) ∨ (0 < (cn + 1) ∧ l3 = nI (dg (ft (pF g T L (g 3) (R 0) (R 1) (R 2)) L (fct L - 1) (f1c S (g 0))) q0))) from (fun h => absurd h (by decide))), (show 0 = 0 → (cn + 1) = (cq (pF g T L (g 3) (R 0) (R 1) (R 2)) L (fct L - 1) (f1c S (g 0))) ∧ (((cn + 1) = 0 ∧ l3 = -9) ∨ (0 < (cn + 1) ∧ l3 = nI (dg (ft (pF g T L (g 3) (R 0) (R 1) (R 2)) L (fct L - 1) (f1c S (g 0))) q0))) from (fun _ => ⟨by rw [hk0] at hacc; have e7 : cq (pF g T L (g 3) (R 0) (R 1) (R 2)) L 0 N = pF g T L (g 3) (R 0) (R 1) (R 2) N := rfl; omega, hft2⟩)), (show (cn + 1) ≤ 1000000 from by omega), (fun i h25 => Eq.trans (hfu_zu56 i h25) (hfu42 i h25)), (fun i h21 h23 h24 => Eq.trans (hfa_zu56 i h23 h24) (hfa42 i h21 h23 h24)), hP, hD, hS, lv_sub hl [0, 2, 1, 3, 4] rfl⟩
              · have hzu_zu64 : zu56 = zu64 := Eq.symm hzu_zu64
                subst hzu_zu64
                have hrw_zu64 : ∀ k, k < L → za65 21 k = nI (dg (nx N L) k) := hrw_zu64
                have hfa_zu64 : ∀ i, i ≠ 21 → za65 i = za57 i := hfa_zu64
                have hP : va_P D vwCl (xM cA r (zu56, za65)) H := hP
                have hD : va_D A (xM cA r (zu56, za65)) := hD
                refine lv_istore (lv' := [(4, .int (nI 1)), (2, .int (nI (cn + 1))), (3, .int l3), (1, .int (nI q0)), (0, .ref (r 0))]) hx hb dX10_fits_80 hl (by decide) rfl (fun ls hl => ?_)
                refine lv_goto (tgt := 42) hx hb dX10_fits_82 (by decide) ?_
                have hp1 : pF g T L (g 3) (R 0) (R 1) (R 2) N = 1 := cif_pos b_58
                obtain ⟨hk0, hck2⟩ := chk_next hck hfk1
                have hft2 : ((cn + 1) = 0 ∧ l3 = -9 ∧ ft (pF g T L (g 3) (R 0) (R 1) (R 2)) L (k - 1) (nx N L) = (ft (pF g T L (g 3) (R 0) (R 1) (R 2)) L (fct L - 1) (f1c S (g 0)))) ∨ (0 < (cn + 1) ∧ l3 = nI (dg (ft (pF g T L (g 3) (R 0) (R 1) (R 2)) L (fct L - 1) (f1c S (g 0))) q0)) := (Or.inr ⟨by omega, (hft.resolve_left (fun w => by omega)).2⟩)
                exact ih42 (1, (k - 1), (nx N L), (cn + 1), l3, zu56, za65) _ _ _ (show 1 + (k - 1) < mo + k from by omega) ⟨(show 1 ≤ 1 from Nat.le_refl 1), (show 1 = 1 → chk S L (k - 1) (nx N L) = true ∧ (∀ i, i < L → za65 21 i = nI (dg (nx N L) i)) ∧ (cn + 1) + cq (pF g T L (g 3) (R 0) (R 1) (R 2)) L (k - 1) (nx N L) = (cq (pF g T L (g 3) (R 0) (R 1) (R 2)) L (fct L - 1) (f1c S (g 0))) ∧ (((cn + 1) = 0 ∧ l3 = -9 ∧ ft (pF g T L (g 3) (R 0) (R 1) (R 2)) L (k - 1) (nx N L) = (ft (pF g T L (g 3) (R 0) (R 1) (R 2)) L (fct L - 1) (f1c S (g 0)))) ∨ (0 < (cn + 1) ∧ l3 = nI (dg (ft (pF g T L (g 3) (R 0) (R 1) (R 2)) L (fct L - 1) (f1c S (g 0))) q0))) from (fun _ => ⟨hck2, hrw_zu64, by rw [cq_step hk0] at hacc; omega, hft2⟩)), (show 1 = 0 → (cn + 1) = (cq (pF g T L (g 3) (R 0) (R 1) (R 2)) L (fct L - 1) (f1c S (g 0))) ∧ (((cn + 1) = 0 ∧ l3 = -9) ∨ (0 < (cn + 1) ∧ l3 = nI (dg (ft (pF g T L (g 3) (R 0) (R 1) (R 2)) L (fct L - 1) (f1c S (g 0))) q0))) from (fun h => absurd h (by decide))), (show (cn + 1) ≤ 1000000 from by omega), (fun i h25 => Eq.trans (hfu_zu56 i h25) (hfu42 i h25)), (fun i h21 h23 h24 => Eq.trans (hfa_zu64 i h21) (Eq.trans (hfa_zu56 i h23 h24) (hfa42 i h21 h23 h24))), hP, hD, hS, lv_sub hl [0, 2, 1, 3, 4] rfl⟩
            · refine lv_iload_n hx hb dX10_fits_58 rfl (lv_at hl 3 rfl) ?_
              refine rz_lt (x := q0) (tgt := 71) hx hb (by omega) dX10_fits_59 (by decide) ?_
              refine lv_aload_n hx hb dX10_fits_62 rfl (lv_at hl 4 rfl) ?_
              refine va_get (D := D) (ci := 10) (v := .ref (r 21)) (C := RX10) (T := TX10) (N := 34) hx hb hts hinX10 hown hK hP 0 rfl rfl 21 (by decide) (hts (.fieldLink RX10 49 "OneNailModel" "row" "[I") (by decide +kernel)) (fun _ h9 => h9) rfl dX10_fits_63 ?_
              refine lv_iload_n hx hb dX10_fits_66 rfl (lv_at hl 3 rfl) ?_
              refine ra_iald hx hb hK hP 14 0 (n := 8) (f := (za57 21)) (j := q0) (v := (nI (dg N q0))) rfl rfl (by omega) (by decide) ((congrFun (hfa_zu56 21 (by decide) (by decide)) (q0)).trans (hrowN (q0) (by omega))) dX10_fits_67 ?_
              refine lv_goto (tgt := 72) hx hb dX10_fits_68 (by decide) ?_
              refine lv_istore_n (lv' := [(3, .int (nI (dg N q0))), (4, .int (nI mo)), (2, .int (nI cn)), (1, .int (nI q0)), (0, .ref (r 0))]) hx hb dX10_fits_72 rfl hl (by decide) rfl (fun ls hl => ?_)
              refine rn_iinc (x := cn) (d := 1) (lv' := [(2, .int (nI (cn + 1))), (3, .int (nI (dg N q0))), (4, .int (nI mo)), (1, .int (nI q0)), (0, .ref (r 0))]) hx hb rfl dX10_fits_73 hl (k := 2) rfl (by decide) rfl (fun ls hl => ?_)
              refine lv_aload_n hx hb dX10_fits_76 rfl (lv_at hl 4 rfl) ?_
              refine wVi e0_S (As := []) (rest := []) ⟨hx, hb, hml, hown, hts⟩ (kX10_nextOrder l D cA r _ zu56 za57 L N ((hfu_zu56 22 (by decide)).trans ((hfu42 22 (by decide)).trans ((hu22_zu49).trans (congrArg nI hLe.symm)))) hL6 (fun k hk => (congrFun (hfa_zu56 21 (by decide) (by decide)) (k)).trans (hrowN (k) hk))) (cwV 0 hts gX10_fits_X10_nextOrder rfl rfl rfl (by decide +kernel) ⟨Nat.le_of_ble_eq_true rfl, Nat.le_of_ble_eq_true rfl⟩) (va_recv hK hP (ci := 10) (q0 := 0) rfl rfl) hK hP hD hS hA hE rfl hl.1 rfl (Nat.le_of_ble_eq_true rfl) dX10_fits_77 ⟨Nat.zero_le _, Nat.zero_le _⟩ (fun rv_67 z_69 H locs hw_68 hP hD hS => ?_)
              obtain ⟨zu70, za71⟩ := z_69
              rcases hw_68 with ⟨rfl, hfk0, hz_zu70⟩ | ⟨rfl, hfk1, hzu_zu70, hrw_zu70, hfa_zu70⟩
              · cases hz_zu70
                have hP : va_P D vwCl (xM cA r (zu56, za57)) H := hP
                have hD : va_D A (xM cA r (zu56, za57)) := hD
                refine lv_istore (lv' := [(4, .int (nI 0)), (2, .int (nI (cn + 1))), (3, .int (nI (dg N q0))), (1, .int (nI q0)), (0, .ref (r 0))]) hx hb dX10_fits_80 hl (by decide) rfl (fun ls hl => ?_)
                refine lv_goto (tgt := 42) hx hb dX10_fits_82 (by decide) ?_
                have hp1 : pF g T L (g 3) (R 0) (R 1) (R 2) N = 1 := cif_pos b_58
                have hrq := hrowN q0 (by omega)
                have hk0 := chk_end hck hfk0
                have hft2 : ((cn + 1) = 0 ∧ (nI (dg N q0)) = -9) ∨ (0 < (cn + 1) ∧ (nI (dg N q0)) = nI (dg (ft (pF g T L (g 3) (R 0) (R 1) (R 2)) L (fct L - 1) (f1c S (g 0))) q0)) := (Or.inr ⟨by omega, by rcases hft with w | w; rw [← w.2.2, hk0]; rfl; omega⟩)
                exact ih42 (0, 0, 0, (cn + 1), (nI (dg N q0)), zu56, za57) _ _ _ (show 0 + 0 < mo + k from by omega) ⟨(show 0 ≤ 1 from Nat.zero_le _), (show 0 = 1 → chk S L 0 0 = true ∧ (∀ i, i < L → za57 21 i = nI (dg 0 i)) ∧ (cn + 1) + cq (pF g T L (g 3) (R 0) (R 1) (R 2)) L 0 0 = (cq (pF g T L (g 3) (R 0) (R 1) (R 2)) L (fct L - 1) (f1c S (g 0))) ∧ (((cn + 1) = 0 ∧ (nI (dg N q0)) = -9 ∧ ft (pF g T L (g 3) (R 0) (R 1) (R 2)) L 0 0 = (ft (pF g T L (g 3) (R 0) (R 1) (R 2)) L (fct L - 1) (f1c S (g 0)))) ∨ (0 < (cn + 1) ∧ (nI (dg N q0)) = nI (dg (ft (pF g T L (g 3) (R 0) (R 1) (R 2)) L (fct L - 1) (f1c S (g 0))) q0))) from (fun h => absurd h (by decide))), (show 0 = 0 → (cn + 1) = (cq (pF g T L (g 3) (R 0) (R 1) (R 2)) L (fct L - 1) (f1c S (g 0))) ∧ (((cn + 1) = 0 ∧ (nI (dg N q0)) = -9) ∨ (0 < (cn + 1) ∧ (nI (dg N q0)) = nI (dg (ft (pF g T L (g 3) (R 0) (R 1) (R 2)) L (fct L - 1) (f1c S (g 0))) q0))) from (fun _ => ⟨by rw [hk0] at hacc; have e7 : cq (pF g T L (g 3) (R 0) (R 1) (R 2)) L 0 N = pF g T L (g 3) (R 0) (R 1) (R 2) N := rfl; omega, hft2⟩)), (show (cn + 1) ≤ 1000000 from by omega), (fun i h25 => Eq.trans (hfu_zu56 i h25) (hfu42 i h25)), (fun i h21 h23 h24 => Eq.trans (hfa_zu56 i h23 h24) (hfa42 i h21 h23 h24)), hP, hD, hS, lv_sub hl [0, 2, 1, 3, 4] rfl⟩
              · have hzu_zu70 : zu56 = zu70 := Eq.symm hzu_zu70
                subst hzu_zu70
                have hrw_zu70 : ∀ k, k < L → za71 21 k = nI (dg (nx N L) k) := hrw_zu70
                have hfa_zu70 : ∀ i, i ≠ 21 → za71 i = za57 i := hfa_zu70
                have hP : va_P D vwCl (xM cA r (zu56, za71)) H := hP
                have hD : va_D A (xM cA r (zu56, za71)) := hD
                refine lv_istore (lv' := [(4, .int (nI 1)), (2, .int (nI (cn + 1))), (3, .int (nI (dg N q0))), (1, .int (nI q0)), (0, .ref (r 0))]) hx hb dX10_fits_80 hl (by decide) rfl (fun ls hl => ?_)
                refine lv_goto (tgt := 42) hx hb dX10_fits_82 (by decide) ?_
                have hp1 : pF g T L (g 3) (R 0) (R 1) (R 2) N = 1 := cif_pos b_58
                have hrq := hrowN q0 (by omega)
                obtain ⟨hk0, hck2⟩ := chk_next hck hfk1
                have hft2 : ((cn + 1) = 0 ∧ (nI (dg N q0)) = -9 ∧ ft (pF g T L (g 3) (R 0) (R 1) (R 2)) L (k - 1) (nx N L) = (ft (pF g T L (g 3) (R 0) (R 1) (R 2)) L (fct L - 1) (f1c S (g 0)))) ∨ (0 < (cn + 1) ∧ (nI (dg N q0)) = nI (dg (ft (pF g T L (g 3) (R 0) (R 1) (R 2)) L (fct L - 1) (f1c S (g 0))) q0)) := (Or.inr ⟨by omega, by rcases hft with w | w; rw [← w.2.2, ft_yes hp1]; omega⟩)
                exact ih42 (1, (k - 1), (nx N L), (cn + 1), (nI (dg N q0)), zu56, za71) _ _ _ (show 1 + (k - 1) < mo + k from by omega) ⟨(show 1 ≤ 1 from Nat.le_refl 1), (show 1 = 1 → chk S L (k - 1) (nx N L) = true ∧ (∀ i, i < L → za71 21 i = nI (dg (nx N L) i)) ∧ (cn + 1) + cq (pF g T L (g 3) (R 0) (R 1) (R 2)) L (k - 1) (nx N L) = (cq (pF g T L (g 3) (R 0) (R 1) (R 2)) L (fct L - 1) (f1c S (g 0))) ∧ (((cn + 1) = 0 ∧ (nI (dg N q0)) = -9 ∧ ft (pF g T L (g 3) (R 0) (R 1) (R 2)) L (k - 1) (nx N L) = (ft (pF g T L (g 3) (R 0) (R 1) (R 2)) L (fct L - 1) (f1c S (g 0)))) ∨ (0 < (cn + 1) ∧ (nI (dg N q0)) = nI (dg (ft (pF g T L (g 3) (R 0) (R 1) (R 2)) L (fct L - 1) (f1c S (g 0))) q0))) from (fun _ => ⟨hck2, hrw_zu70, by rw [cq_step hk0] at hacc; omega, hft2⟩)), (show 1 = 0 → (cn + 1) = (cq (pF g T L (g 3) (R 0) (R 1) (R 2)) L (fct L - 1) (f1c S (g 0))) ∧ (((cn + 1) = 0 ∧ (nI (dg N q0)) = -9) ∨ (0 < (cn + 1) ∧ (nI (dg N q0)) = nI (dg (ft (pF g T L (g 3) (R 0) (R 1) (R 2)) L (fct L - 1) (f1c S (g 0))) q0))) from (fun h => absurd h (by decide))), (show (cn + 1) ≤ 1000000 from by omega), (fun i h25 => Eq.trans (hfu_zu56 i h25) (hfu42 i h25)), (fun i h21 h23 h24 => Eq.trans (hfa_zu70 i h21) (Eq.trans (hfa_zu56 i h23 h24) (hfa42 i h21 h23 h24))), hP, hD, hS, lv_sub hl [0, 2, 1, 3, 4] rfl⟩
          · refine lv_if_eq (tgt := 76) hx hb dX10_fits_51 (by decide) (fun _ => ?_) (fun c_72 => absurd c_72 (by decide))
            refine lv_aload_n hx hb dX10_fits_76 rfl (lv_at hl 4 rfl) ?_
            refine wVi e0_S (As := []) (rest := []) ⟨hx, hb, hml, hown, hts⟩ (kX10_nextOrder l D cA r _ zu56 za57 L N ((hfu_zu56 22 (by decide)).trans ((hfu42 22 (by decide)).trans ((hu22_zu49).trans (congrArg nI hLe.symm)))) hL6 (fun k hk => (congrFun (hfa_zu56 21 (by decide) (by decide)) (k)).trans (hrowN (k) hk))) (cwV 0 hts gX10_fits_X10_nextOrder rfl rfl rfl (by decide +kernel) ⟨Nat.le_of_ble_eq_true rfl, Nat.le_of_ble_eq_true rfl⟩) (va_recv hK hP (ci := 10) (q0 := 0) rfl rfl) hK hP hD hS hA hE rfl hl.1 rfl (Nat.le_of_ble_eq_true rfl) dX10_fits_77 ⟨Nat.zero_le _, Nat.zero_le _⟩ (fun rv_73 z_75 H locs hw_74 hP hD hS => ?_)
            obtain ⟨zu76, za77⟩ := z_75
            rcases hw_74 with ⟨rfl, hfk0, hz_zu76⟩ | ⟨rfl, hfk1, hzu_zu76, hrw_zu76, hfa_zu76⟩
            · cases hz_zu76
              have hP : va_P D vwCl (xM cA r (zu56, za57)) H := hP
              have hD : va_D A (xM cA r (zu56, za57)) := hD
              refine lv_istore (lv' := [(4, .int (nI 0)), (3, .int l3), (2, .int (nI cn)), (1, .int (nI q0)), (0, .ref (r 0))]) hx hb dX10_fits_80 hl (by decide) rfl (fun ls hl => ?_)
              refine lv_goto (tgt := 42) hx hb dX10_fits_82 (by decide) ?_
              have hp1 : pF g T L (g 3) (R 0) (R 1) (R 2) N = 0 := cif_neg b_58
              have hk0 := chk_end hck hfk0
              have hft2 : (cn = 0 ∧ l3 = -9) ∨ (0 < cn ∧ l3 = nI (dg (ft (pF g T L (g 3) (R 0) (R 1) (R 2)) L (fct L - 1) (f1c S (g 0))) q0)) := (hft.elim (fun w => Or.inl ⟨w.1, w.2.1⟩) Or.inr)
              exact ih42 (0, 0, 0, cn, l3, zu56, za57) _ _ _ (show 0 + 0 < mo + k from by omega) ⟨(show 0 ≤ 1 from Nat.zero_le _), (show 0 = 1 → chk S L 0 0 = true ∧ (∀ i, i < L → za57 21 i = nI (dg 0 i)) ∧ cn + cq (pF g T L (g 3) (R 0) (R 1) (R 2)) L 0 0 = (cq (pF g T L (g 3) (R 0) (R 1) (R 2)) L (fct L - 1) (f1c S (g 0))) ∧ ((cn = 0 ∧ l3 = -9 ∧ ft (pF g T L (g 3) (R 0) (R 1) (R 2)) L 0 0 = (ft (pF g T L (g 3) (R 0) (R 1) (R 2)) L (fct L - 1) (f1c S (g 0)))) ∨ (0 < cn ∧ l3 = nI (dg (ft (pF g T L (g 3) (R 0) (R 1) (R 2)) L (fct L - 1) (f1c S (g 0))) q0))) from (fun h => absurd h (by decide))), (show 0 = 0 → cn = (cq (pF g T L (g 3) (R 0) (R 1) (R 2)) L (fct L - 1) (f1c S (g 0))) ∧ ((cn = 0 ∧ l3 = -9) ∨ (0 < cn ∧ l3 = nI (dg (ft (pF g T L (g 3) (R 0) (R 1) (R 2)) L (fct L - 1) (f1c S (g 0))) q0))) from (fun _ => ⟨by rw [hk0] at hacc; have e7 : cq (pF g T L (g 3) (R 0) (R 1) (R 2)) L 0 N = pF g T L (g 3) (R 0) (R 1) (R 2) N := rfl; omega, hft2⟩)), (show cn ≤ 1000000 from by omega), (fun i h25 => Eq.trans (hfu_zu56 i h25) (hfu42 i h25)), (fun i h21 h23 h24 => Eq.trans (hfa_zu56 i h23 h24) (hfa42 i h21 h23 h24)), hP, hD, hS, lv_sub hl [0, 1, 2, 3, 4] rfl⟩
            · have hzu_zu76 : zu56 = zu76 := Eq.symm hzu_zu76
              subst hzu_zu76
              have hrw_zu76 : ∀ k, k < L → za77 21 k = nI (dg (nx N L) k) := hrw_zu76
              have hfa_zu76 : ∀ i, i ≠ 21 → za77 i = za57 i := hfa_zu76
              have hP : va_P D vwCl (xM cA r (zu56, za77)) H := hP
              have hD : va_D A (xM cA r (zu56, za77)) := hD
              refine lv_istore (lv' := [(4, .int (nI 1)), (3, .int l3), (2, .int (nI cn)), (1, .int (nI q0)), (0, .ref (r 0))]) hx hb dX10_fits_80 hl (by decide) rfl (fun ls hl => ?_)
              refine lv_goto (tgt := 42) hx hb dX10_fits_82 (by decide) ?_
              have hp1 : pF g T L (g 3) (R 0) (R 1) (R 2) N = 0 := cif_neg b_58
              obtain ⟨hk0, hck2⟩ := chk_next hck hfk1
              have hft2 : (cn = 0 ∧ l3 = -9 ∧ ft (pF g T L (g 3) (R 0) (R 1) (R 2)) L (k - 1) (nx N L) = (ft (pF g T L (g 3) (R 0) (R 1) (R 2)) L (fct L - 1) (f1c S (g 0)))) ∨ (0 < cn ∧ l3 = nI (dg (ft (pF g T L (g 3) (R 0) (R 1) (R 2)) L (fct L - 1) (f1c S (g 0))) q0)) := (hft.elim (fun w => Or.inl ⟨w.1, w.2.1, by rw [← w.2.2]; exact (ft_no hk0 (by omega)).symm⟩) Or.inr)
              exact ih42 (1, (k - 1), (nx N L), cn, l3, zu56, za77) _ _ _ (show 1 + (k - 1) < mo + k from by omega) ⟨(show 1 ≤ 1 from Nat.le_refl 1), (show 1 = 1 → chk S L (k - 1) (nx N L) = true ∧ (∀ i, i < L → za77 21 i = nI (dg (nx N L) i)) ∧ cn + cq (pF g T L (g 3) (R 0) (R 1) (R 2)) L (k - 1) (nx N L) = (cq (pF g T L (g 3) (R 0) (R 1) (R 2)) L (fct L - 1) (f1c S (g 0))) ∧ ((cn = 0 ∧ l3 = -9 ∧ ft (pF g T L (g 3) (R 0) (R 1) (R 2)) L (k - 1) (nx N L) = (ft (pF g T L (g 3) (R 0) (R 1) (R 2)) L (fct L - 1) (f1c S (g 0)))) ∨ (0 < cn ∧ l3 = nI (dg (ft (pF g T L (g 3) (R 0) (R 1) (R 2)) L (fct L - 1) (f1c S (g 0))) q0))) from (fun _ => ⟨hck2, hrw_zu76, by rw [cq_step hk0] at hacc; omega, hft2⟩)), (show 1 = 0 → cn = (cq (pF g T L (g 3) (R 0) (R 1) (R 2)) L (fct L - 1) (f1c S (g 0))) ∧ ((cn = 0 ∧ l3 = -9) ∨ (0 < cn ∧ l3 = nI (dg (ft (pF g T L (g 3) (R 0) (R 1) (R 2)) L (fct L - 1) (f1c S (g 0))) q0))) from (fun h => absurd h (by decide))), (show cn ≤ 1000000 from by omega), (fun i h25 => Eq.trans (hfu_zu56 i h25) (hfu42 i h25)), (fun i h21 h23 h24 => Eq.trans (hfa_zu76 i h21) (Eq.trans (hfa_zu56 i h23 h24) (hfa42 i h21 h23 h24))), hP, hD, hS, lv_sub hl [0, 1, 2, 3, 4] rfl⟩
    · refine lv_if_ne (tgt := 26) hx hb dX10_fits_21 (by decide) (fun c_78 => absurd c_78 (by decide)) (fun _ => ?_)
      refine lv_iconst (v := (-1)) hx hb dX10_fits_24 (by decide) ?_
      exact wIret hx hb hr hlocks (v := (-1)) (u, a) (⟨by unfold aFits; rw [cif_neg (by omega), cif_neg b_4], hI⟩) hK hP hD hS dX10_fits_25
  · refine lv_bipush (v := (-3)) hx hb dX10_fits_7 (by decide) ?_
    exact wIret hx hb hr hlocks (v := (-3)) (u, a) (⟨by unfold aFits; rw [cif_pos (by omega)], hI⟩) hK hP hD hS dX10_fits_9
