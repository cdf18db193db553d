theorem RdI.keep {u u' : Nat → Int32} {a a' : Nat → Nat → Int32} {g : Nat → Nat} {R : Nat → Nat → Nat} (h : RdI u a g R) (h30 : u' 30 = u 30) (a31 : a' 31 = a 31) (a32 : a' 32 = a 32) (a33 : a' 33 = a 33) : RdI u' a' g R := by unfold RdI; rw [h30, a31, a32, a33]; exact h
theorem isL_of {x : Int32} (h : inR x 0 2) : isL x := by
  obtain ⟨j, rfl, -, h2, -⟩ := inR_of h (by decide) (by decide)
  rcases (show j = 0 ∨ j = 1 ∨ j = 2 by omega) with w | w | w
  · exact Or.inl (by rw [w])
  · exact Or.inr (Or.inl (by rw [w]))
  · exact Or.inr (Or.inr (by rw [w]))
theorem in_lt {l : Nat} {i : Int32} (hl : l ≤ 60) : (nI 0 ≤ i ∧ i ≤ nI l - nI 1) ↔ isT l i := by
  constructor
  · rintro ⟨h1, h2⟩
    rcases Nat.eq_zero_or_pos l with q | q
    · rw [q, show nI 0 - nI 1 = -1 by decide] at h2
      exact absurd (Int32.le_trans h1 h2) (by decide)
    · rw [pk_sub (by omega)] at h2
      obtain ⟨j, e, -, h3, -⟩ := inR_of (show inR i 0 (l - 1) from ⟨h1, h2⟩) (by decide) (by omega)
      exact ⟨j, by omega, e⟩
  · rintro ⟨j, hj, rfl⟩
    exact ⟨nI_pos' (by omega), by rw [pk_sub (by omega)]; exact (nI_leI (by omega) (by omega)).mpr (by omega)⟩
theorem isT_of2 {n : Nat} {x : Int32} (h : isT n x) (hn : n < 2 ^ 31) : x = nI x.toNatClampNeg ∧ x.toNatClampNeg < n := by
  obtain ⟨j, hj, rfl⟩ := h
  rw [nI_clamp (by omega)]; exact ⟨rfl, hj⟩
-- sheets
abbrev shOK (sh lane n : Int32) : Prop := inR sh 0 3 ∧ inR lane 0 2 ∧ 0 ≤ n ∧ n ≤ nI 60
noncomputable def aSheet (sh lane n : Int32) : Int32 := cif (inR sh 0 3) (cif (inR lane 0 2 ∧ n ≤ nI 60) (cif (0 ≤ n) (nI 1) (-14)) (-2)) (-1)
noncomputable def fSheet (sh lane n : Int32) : Int32 := cif (inR sh 0 3) (cif (inR lane 0 2 ∧ n ≤ nI 60) (cif (0 ≤ n) (nI 0) (nI 4)) (nI 0)) (nI 0)
noncomputable def soSheet (so : Nat → Int32) (sh lane n : Int32) : Nat → Int32 := cif (shOK sh lane n) (upd so sh.toNatClampNeg lane) so
noncomputable def lnSheet (ln : Nat → Nat) (sh lane n : Int32) : Nat → Nat := cif (shOK sh lane n) (gu ln sh.toNatClampNeg n.toNatClampNeg) ln
noncomputable def ceSheet (ce : Nat → Nat → Int32) (sh lane n : Int32) : Nat → Nat → Int32 := cif (shOK sh lane n) (va_up ce sh.toNatClampNeg (fun _ => 0)) ce
noncomputable def aLose (so : Nat → Int32) (sh : Int32) : Int32 := cif (inR sh 0 3) (cif (so sh.toNatClampNeg = -9) (nI 0) (nI 1)) (-1)
noncomputable def soLose (so : Nat → Int32) (sh : Int32) : Nat → Int32 := cif (inR sh 0 3) (upd so sh.toNatClampNeg (-9)) so
noncomputable def aPut (so : Nat → Int32) (ln : Nat → Nat) (sh i : Int32) : Int32 := cif (inR sh 0 3) (cif (so sh.toNatClampNeg = -9) (-11) (cif (isT (ln sh.toNatClampNeg) i) (nI 1) (-13))) (-1)
noncomputable def fPut (so : Nat → Int32) (ln : Nat → Nat) (sh i : Int32) : Int32 := cif (inR sh 0 3) (cif (so sh.toNatClampNeg = -9) (nI 1) (cif (isT (ln sh.toNatClampNeg) i) (nI 0) (nI 3))) (nI 0)
def cut (s w : Int32) : Int32 := if s = 0 then w.toInt8.toInt32 else if s = nI 1 then w.toInt16.toInt32 else w
noncomputable def cePut (so : Nat → Int32) (ln : Nat → Nat) (ce : Nat → Nat → Int32) (sh i w : Int32) : Nat → Nat → Int32 := cif (inR sh 0 3 ∧ so sh.toNatClampNeg ≠ -9 ∧ isT (ln sh.toNatClampNeg) i) (va_up ce sh.toNatClampNeg (upd (ce sh.toNatClampNeg) i.toNatClampNeg (cut (so sh.toNatClampNeg) w))) ce
noncomputable def aCell (so : Nat → Int32) (ln : Nat → Nat) (ce : Nat → Nat → Int32) (sh i lane : Int32) : Int64 := cif (inR sh 0 3 ∧ inR lane 0 2) (cif (so sh.toNatClampNeg ≠ -9 ∧ so sh.toNatClampNeg ≠ lane) (-9223372036854775808) (cif (so sh.toNatClampNeg = -9) (-9223372036854775808) (cif (isT (ln sh.toNatClampNeg) i) ((ce sh.toNatClampNeg i.toNatClampNeg).toInt64) (-9223372036854775808)))) (-9223372036854775808)
noncomputable def fCell (so : Nat → Int32) (ln : Nat → Nat) (sh i lane : Int32) : Int32 := cif (inR sh 0 3 ∧ inR lane 0 2) (cif (so sh.toNatClampNeg ≠ -9 ∧ so sh.toNatClampNeg ≠ lane) (nI 2) (cif (so sh.toNatClampNeg = -9) (nI 1) (cif (isT (ln sh.toNatClampNeg) i) (nI 0) (nI 3)))) (nI 0)
theorem vup_ne' {a : Nat → Nat → Int32} {k j : Nat} {f : Nat → Int32} (h : j ≠ k) : va_up a k f j = a j := vup_ne h
theorem sh_set {a a' : Nat → Nat → Int32} {so : Nat → Int32} {ln : Nat → Nat} {ce : Nat → Nat → Int32} {k n0 : Nat} {lane : Int32} (h : ShI a so ln ce) (hk : k < 4) (hl : isL lane) (hn : n0 ≤ 60) (e2 : a' 2 = upd (a 2) k lane) (e3 : a' 3 = upd (a 3) k (nI n0)) (hz : ∀ i, i < 60 → a' 4 (60 * k + i) = 0) (ho : ∀ p, ¬ (60 * k ≤ p ∧ p < 60 * k + 60) → a' 4 p = a 4 p) : ShI a' (upd so k lane) (gu ln k n0) (va_up ce k (fun _ => 0)) := by
  intro j hj
  have hq := h j hj
  rw [e2, e3]
  by_cases e : j = k
  · rw [e, up_eq, up_eq, up_eq, gu_eq, vup_eq]
    exact ⟨rfl, Or.inr hl, rfl, hn, fun i hi => hz i hi⟩
  · rw [up_ne e, up_ne e, up_ne e, gu_ne e, vup_ne e]
    exact ⟨hq.1, hq.2.1, hq.2.2.1, hq.2.2.2.1, fun i hi => (ho _ (by omega)).trans (hq.2.2.2.2 i hi)⟩
theorem sh_lose {a a' : Nat → Nat → Int32} {so : Nat → Int32} {ln : Nat → Nat} {ce : Nat → Nat → Int32} {k : Nat} (h : ShI a so ln ce) (hk : k < 4) (e2 : a' 2 = upd (a 2) k (-9)) (e3 : a' 3 = a 3) (e4 : a' 4 = a 4) : ShI a' (upd so k (-9)) ln ce := by
  intro j hj
  have hq := h j hj
  rw [e2, e3, e4]
  by_cases e : j = k
  · rw [e, up_eq, up_eq]; rw [e] at hq
    exact ⟨rfl, Or.inl rfl, hq.2.2⟩
  · rw [up_ne e, up_ne e]; exact hq
theorem sh_put {a a' : Nat → Nat → Int32} {so : Nat → Int32} {ln : Nat → Nat} {ce : Nat → Nat → Int32} {k i : Nat} {w : Int32} (h : ShI a so ln ce) (hk : k < 4) (hi : i < 60) (e2 : a' 2 = a 2) (e3 : a' 3 = a 3) (e4 : a' 4 = upd (a 4) (60 * k + i) w) : ShI a' so ln (va_up ce k (upd (ce k) i w)) := by
  intro j hj
  have hq := h j hj
  rw [e2, e3, e4]
  refine ⟨hq.1, hq.2.1, hq.2.2.1, hq.2.2.2.1, fun i' hi' => ?_⟩
  by_cases e : j = k
  · rw [e, vup_eq]
    by_cases e' : i' = i
    · rw [e', up_eq, up_eq]
    · rw [up_ne (by omega), up_ne e']; rw [e] at hq; exact hq.2.2.2.2 i' hi'
  · rw [vup_ne e, up_ne (by omega)]; exact hq.2.2.2.2 i' hi'
set_option maxHeartbeats 4000000 in
set_option maxRecDepth 100000 in
theorem kX10_sheet (l : Launch) (D : va_G) (cA : Nat → ClassId) (r : Nat → Nat) (sz : Nat) (u : Nat → Int32) (a : Nat → Nat → Int32) (g : Nat → Nat) (T : Nat → Nat → Nat) (R : Nat → Nat → Nat) (so : Nat → Int32) (ln : Nat → Nat) (ce : Nat → Nat → Int32) (f tr : Int32) (sh lane n : Int32) (hI : MI u a g T R so ln ce f tr) : Met l yX10_sheet wsX10_sheet ({ frames := 2, cells := 0, slots := 0, locals := 42 } : Room) (va_Pc [.ref (r 0), .int sh, .int lane, .int n] (wA D vwCl (tyA cA) e0 (xM cA r) (u, a) sz)) (va_Qi (fun (v : Int32) (z : sM) => v = aSheet sh lane n ∧ MI z.1 z.2 g T R (soSheet so sh lane n) (lnSheet ln sh lane n) (ceSheet ce sh lane n) (fSheet sh lane n) tr) (wB D vwCl (tyA cA) (xM cA r) (va_A (xM cA r (u, a)) sz)) (va_A (xM cA r (u, a)) sz)) 0 0 (va_A (xM cA r (u, a)) sz) := by
  refine Met.ofW (cc := cX10_sheet) (maxL := 5) (ret := (some .int)) (by decide) rfl ?_
  intro p e s m args below meth c s₁ B hml hv
  obtain ⟨rfl, hsz, hP, hK, hD0, hE⟩ := hv
  have hx := B.exec
  have hb := B.bytes
  have hr := B.returns
  have hts := atoms_spec (ws := wsX10_sheet) B.pre
  have hown : s.vm.findClass RX10 = some m.cls := findClass_of_methodNamed B.named
  have hlocks := B.notSynchronized
  subst hsz
  have hD := hD0.self (sz := s.heap.size)
  generalize hAe : va_A (xM cA r (u, a)) s.heap.size = A at hD hE ⊢
  have hA : ∀ q : Nat, s.heap.size ≤ q → A q := fun q h => by rw [← hAe]; exact Or.inr h
  have hS : va_S A s.heap s.heap [] := va_S.rf
  have hinX10 : ∀ w ∈ u_ws RX10 TX10 34, w ∈ wsX10_sheet := by decide +kernel
  have hl := lv_entry ([.ref (r 0), .int sh, .int lane, .int n]) (n := 5) (Nat.le_of_ble_eq_true rfl)
  rw [lg_entry_eq]
  generalize (lg_sl ([.ref (r 0), .int sh, .int lane, .int n]) ++ List.replicate (5 - (lg_sl ([.ref (r 0), .int sh, .int lane, .int n])).length) Slot.unset).toArray = ls at hl ⊢
  have hl : lv_has ls 5 [(0, .ref (r 0)), (1, .int sh), (2, .int lane), (3, .int n)] := hl
  have hM := hI.1
  have hB := hI.2.1
  have hg6 := hB.1
  have hRd := hI.2.2.1
  have hSh := hI.2.2.2.1
  have hf0 := hI.2.2.2.2.1
  have htr := hI.2.2.2.2.2
  refine lv_aload_n hx hb dX10_sheet_0 rfl (lv_at hl 0 rfl) ?_
  refine lv_iconst (v := (nI 0)) hx hb dX10_sheet_1 rfl ?_
  refine va_put (D := D) (ci := 10) (v := .int (nI 0)) (ty := .int) (C := RX10) (T := TX10) (N := 34) hx hb hts hinX10 tyX10 tyX10_ok nmX10 hown hK hP hD hS 0 rfl rfl 0 (by decide) (hts (.fieldLink RX10 80 "OneNailModel" "fault" "I") (by decide +kernel)) (fun _ h9 => h9) rfl (by decide +kernel) rfl rfl (Nat.le_of_ble_eq_true rfl) dX10_sheet_2 (fun H locs hP hD hS => ?_)
  have hP : va_P D vwCl (xM cA r ((upd u 0 (nI 0)), a)) H := hP
  have hD : va_D A (xM cA r ((upd u 0 (nI 0)), a)) := hD
  refine lv_iload_n hx hb dX10_sheet_5 rfl (lv_at hl 1 rfl) ?_
  refine wSi (As := [.int sh]) (rest := []) ⟨hx, hb, hml, hown, hts⟩ (kX10_isSheet l sh) (va_cwS 1 hts gX10_sheet_X10_isSheet rfl rfl rfl (by decide +kernel) ⟨Nat.le_of_ble_eq_true rfl, Nat.le_of_ble_eq_true rfl⟩) rfl hl.1 rfl (Nat.le_of_ble_eq_true rfl) dX10_sheet_6 ⟨Nat.zero_le _, Nat.zero_le _⟩ (fun rv_1 hw_2 => ?_)
  rcases hw_2 with ⟨rfl, b_3⟩ | ⟨rfl, b_3⟩
  · obtain ⟨j1, hj1, hj2, hj3, hj4⟩ := inR_of (show inR sh 0 3 from b_3) (by decide) (by decide)
    have hk4 : sh.toNatClampNeg < 4 := by omega
    have hsk := hSh _ hk4
    have hl : lv_has ls 5 [(0, .ref (r 0)), (1, .int (nI (sh.toNatClampNeg))), (2, .int lane), (3, .int n)] := lv_re hl 1 ⟨rfl, rfl⟩ (by rw [hj4]; exact hj1)
    refine lv_if_ne (tgt := 14) hx hb dX10_sheet_9 (by decide) (fun _ => ?_) (fun c_4 => absurd c_4 (by decide))
    refine lv_iload_n hx hb dX10_sheet_14 rfl (lv_at hl 2 rfl) ?_
    refine wSi (As := [.int lane]) (rest := []) ⟨hx, hb, hml, hown, hts⟩ (kX10_isSort l lane) (va_cwS 1 hts gX10_sheet_X10_isSort rfl rfl rfl (by decide +kernel) ⟨Nat.le_of_ble_eq_true rfl, Nat.le_of_ble_eq_true rfl⟩) rfl hl.1 rfl (Nat.le_of_ble_eq_true rfl) dX10_sheet_15 ⟨Nat.zero_le _, Nat.zero_le _⟩ (fun rv_5 hw_6 => ?_)
    rcases hw_6 with ⟨rfl, b_7⟩ | ⟨rfl, b_7⟩
    · refine lv_if_eq (tgt := 27) hx hb dX10_sheet_18 (by decide) (fun c_8 => absurd c_8 (by decide)) (fun _ => ?_)
      refine lv_iload_n hx hb dX10_sheet_21 rfl (lv_at hl 3 rfl) ?_
      refine lv_bipush (v := (nI 60)) hx hb dX10_sheet_22 rfl ?_
      refine lv_icmp_le (tgt := 30) hx hb dX10_sheet_24 (by decide) (fun c_9 => ?_) (fun c_9 => ?_)
      · refine lv_iload_n hx hb dX10_sheet_30 rfl (lv_at hl 3 rfl) ?_
        refine lv_if_ge (tgt := 40) hx hb dX10_sheet_31 (by decide) (fun c_10 => ?_) (fun c_10 => ?_)
        · obtain ⟨n0, hn1, hn2, hn3, hn4⟩ := inR_of (show inR n 0 60 from ⟨c_10, c_9⟩) (by decide) (by decide)
          have hl : lv_has ls 5 [(0, .ref (r 0)), (1, .int (nI (sh.toNatClampNeg))), (2, .int lane), (3, .int (nI n0))] := lv_re hl 3 ⟨rfl, rfl⟩ (hn1)
          refine lv_aload_n hx hb dX10_sheet_40 rfl (lv_at hl 0 rfl) ?_
          refine va_get (D := D) (ci := 10) (v := .ref (r 2)) (C := RX10) (T := TX10) (N := 34) hx hb hts hinX10 hown hK hP 0 rfl rfl 2 (by decide) (hts (.fieldLink RX10 9 "OneNailModel" "sorts" "[I") (by decide +kernel)) (fun _ h9 => h9) rfl dX10_sheet_41 ?_
          refine lv_iload_n hx hb dX10_sheet_44 rfl (lv_at hl 1 rfl) ?_
          refine lv_iload_n hx hb dX10_sheet_45 rfl (lv_at hl 2 rfl) ?_
          refine ra_iast hx hb hK hP hD hS 1 0 (n := 4) (f := (a 2)) (j := sh.toNatClampNeg) (x := lane) rfl rfl (by omega) (by decide) dX10_sheet_46 (fun H locs hP hD hS => ?_)
          have hP : va_P D vwCl (xM cA r ((upd u 0 (nI 0)), (va_up a 2 (upd (a 2) (sh.toNatClampNeg) lane)))) H := hP
          have hD : va_D A (xM cA r ((upd u 0 (nI 0)), (va_up a 2 (upd (a 2) (sh.toNatClampNeg) lane)))) := hD
          refine lv_aload_n hx hb dX10_sheet_47 rfl (lv_at hl 0 rfl) ?_
          refine va_get (D := D) (ci := 10) (v := .ref (r 3)) (C := RX10) (T := TX10) (N := 34) hx hb hts hinX10 hown hK hP 0 rfl rfl 3 (by decide) (hts (.fieldLink RX10 13 "OneNailModel" "sheetLong" "[I") (by decide +kernel)) (fun _ h9 => h9) rfl dX10_sheet_48 ?_
          refine lv_iload_n hx hb dX10_sheet_51 rfl (lv_at hl 1 rfl) ?_
          refine lv_iload_n hx hb dX10_sheet_52 rfl (lv_at hl 3 rfl) ?_
          refine ra_iast hx hb hK hP hD hS 2 0 (n := 4) (f := (a 3)) (j := sh.toNatClampNeg) (x := (nI n0)) rfl rfl (by omega) (by decide) dX10_sheet_53 (fun H locs hP hD hS => ?_)
          have hP : va_P D vwCl (xM cA r ((upd u 0 (nI 0)), (va_up (va_up a 2 (upd (a 2) (sh.toNatClampNeg) lane)) 3 (upd (a 3) (sh.toNatClampNeg) (nI n0))))) H := hP
          have hD : va_D A (xM cA r ((upd u 0 (nI 0)), (va_up (va_up a 2 (upd (a 2) (sh.toNatClampNeg) lane)) 3 (upd (a 3) (sh.toNatClampNeg) (nI n0))))) := hD
          obtain ⟨za11, hza11⟩ : ∃ z, z = (va_up (va_up a 2 (upd (a 2) (sh.toNatClampNeg) lane)) 3 (upd (a 3) (sh.toNatClampNeg) (nI n0))) := ⟨_, rfl⟩
          rw [← hza11] at hP hD
          have hfa_za11 : ∀ i, i ≠ 2 → i ≠ 3 → za11 i = a i := fun i h2 h3 => by rw [hza11]; exact Eq.trans (vup_ne h3) (vup_ne h2)
          have hv2_za11 : za11 2 = (upd (a 2) (sh.toNatClampNeg) lane) := by rw [hza11]; rfl
          have hv3_za11 : za11 3 = (upd (a 3) (sh.toNatClampNeg) (nI n0)) := by rw [hza11]; rfl
          have hP : va_P D vwCl (xM cA r ((upd u 0 (nI 0)), za11)) H := hP
          have hD : va_D A (xM cA r ((upd u 0 (nI 0)), za11)) := hD
          refine lv_iconst (v := (nI 0)) hx hb dX10_sheet_54 rfl ?_
          refine lv_istore (lv' := [(4, .int (nI 0)), (0, .ref (r 0)), (1, .int (nI (sh.toNatClampNeg))), (2, .int lane), (3, .int (nI n0))]) hx hb dX10_sheet_55 hl (by decide) rfl (fun ls hl => ?_)
          refine wLoop (τ := Nat × (Nat → Nat → Int32)) (fun z H locs ls => (fun (q : Nat) (a1057 : (Nat → Nat → Int32)) => (q ≤ 60) ∧ (∀ i9, i9 < q → a1057 4 (60 * sh.toNatClampNeg + i9) = 0) ∧ (∀ p9, ¬ (60 * sh.toNatClampNeg ≤ p9 ∧ p9 < 60 * sh.toNatClampNeg + 60) → a1057 4 p9 = a 4 p9) ∧ (∀ i : Nat, i ≠ 4 → a1057 i = za11 i) ∧ (va_P D vwCl (xM cA r ((upd u 0 (nI 0)), a1057)) H) ∧ (va_D A (xM cA r ((upd u 0 (nI 0)), a1057))) ∧ (va_S A s.heap H locs) ∧ (lv_has ls 5 [(4, .int (nI q)), (0, .ref (r 0)), (1, .int (nI (sh.toNatClampNeg)))])) z.1 z.2) (fun z => (fun (q : Nat) (a1057 : (Nat → Nat → Int32)) => 60 - q) z.1 z.2) (0, za11) ⟨(show 0 ≤ 60 from Nat.zero_le _), (show ∀ i9, i9 < 0 → za11 4 (60 * sh.toNatClampNeg + i9) = 0 from (fun i h => absurd h (Nat.not_lt_zero i))), (show ∀ p9, ¬ (60 * sh.toNatClampNeg ≤ p9 ∧ p9 < 60 * sh.toNatClampNeg + 60) → za11 4 p9 = a 4 p9 from (fun p9 hp => congrFun (hfa_za11 4 (by decide) (by decide)) p9)), (fun i h4 => rfl), hP, hD, hS, lv_sub hl [0, 1, 2] rfl⟩ ?_
          rintro ⟨q, a1057⟩ H locs ls ⟨hq, hz, hoth, hfa57, hP, hD, hS, hl⟩ ih57
          have hq : q ≤ 60 := hq
          have hz : ∀ i9, i9 < q → a1057 4 (60 * sh.toNatClampNeg + i9) = 0 := hz
          have hoth : ∀ p9, ¬ (60 * sh.toNatClampNeg ≤ p9 ∧ p9 < 60 * sh.toNatClampNeg + 60) → a1057 4 p9 = a 4 p9 := hoth
          have hfa57 : ∀ i : Nat, i ≠ 4 → a1057 i = za11 i := hfa57
          have hP : va_P D vwCl (xM cA r ((upd u 0 (nI 0)), a1057)) H := hP
          have hD : va_D A (xM cA r ((upd u 0 (nI 0)), a1057)) := hD
          have hl : lv_has ls 5 [(4, .int (nI q)), (0, .ref (r 0)), (1, .int (nI (sh.toNatClampNeg)))] := hl
          refine lv_iload hx hb dX10_sheet_57 (lv_at hl 0 rfl) ?_
          refine lv_bipush (v := (nI 60)) hx hb dX10_sheet_59 rfl ?_
          refine rn_ge (x := q) (y := 60) (tgt := 83) hx hb (by omega) (by omega) dX10_sheet_61 (by decide) (fun c_12 => ?_) (fun c_12 => ?_)
          · refine lv_iconst (v := (nI 1)) hx hb dX10_sheet_83 rfl ?_
            exact wIret hx hb hr hlocks (v := (nI 1)) ((upd u 0 (nI 0)), a1057) (⟨by unfold aSheet; rw [cif_pos b_3, cif_pos ⟨b_7, c_9⟩, cif_pos c_10], by unfold soSheet lnSheet ceSheet fSheet; rw [cif_pos ⟨b_3, b_7, c_10, c_9⟩, cif_pos ⟨b_3, b_7, c_10, c_9⟩, cif_pos ⟨b_3, b_7, c_10, c_9⟩, cif_pos b_3, cif_pos ⟨b_7, c_9⟩, cif_pos c_10, hn4]; exact ⟨MT.keep hM rfl rfl rfl (Eq.trans (hfa57 8 (by decide)) (hfa_za11 8 (by decide) (by decide))) (Eq.trans (hfa57 9 (by decide)) (hfa_za11 9 (by decide) (by decide))) (Eq.trans (hfa57 10 (by decide)) (hfa_za11 10 (by decide) (by decide))) (Eq.trans (hfa57 11 (by decide)) (hfa_za11 11 (by decide) (by decide))) (Eq.trans (hfa57 12 (by decide)) (hfa_za11 12 (by decide) (by decide))), hB, RdI.keep hRd rfl (Eq.trans (hfa57 31 (by decide)) (hfa_za11 31 (by decide) (by decide))) (Eq.trans (hfa57 32 (by decide)) (hfa_za11 32 (by decide) (by decide))) (Eq.trans (hfa57 33 (by decide)) (hfa_za11 33 (by decide) (by decide))), sh_set hSh hk4 (isL_of b_7) hn3 ((hfa57 2 (by decide)).trans hv2_za11) ((hfa57 3 (by decide)).trans hv3_za11) (fun i hi => hz i (by omega)) hoth, rfl, htr⟩⟩) hK hP hD hS dX10_sheet_84
          · refine lv_aload_n hx hb dX10_sheet_64 rfl (lv_at hl 1 rfl) ?_
            refine va_get (D := D) (ci := 10) (v := .ref (r 4)) (C := RX10) (T := TX10) (N := 34) hx hb hts hinX10 hown hK hP 0 rfl rfl 4 (by decide) (hts (.fieldLink RX10 16 "OneNailModel" "cells" "[I") (by decide +kernel)) (fun _ h9 => h9) rfl dX10_sheet_65 ?_
            refine lv_bipush (v := (nI 60)) hx hb dX10_sheet_68 rfl ?_
            refine lv_iload_n hx hb dX10_sheet_70 rfl (lv_at hl 2 rfl) ?_
            refine rn_imul (x := 60) (y := sh.toNatClampNeg) hx hb dX10_sheet_71 ?_
            refine lv_iload hx hb dX10_sheet_72 (lv_at hl 0 rfl) ?_
            refine rn_iadd (x := 60 * (sh.toNatClampNeg)) (y := q) hx hb dX10_sheet_74 ?_
            refine lv_iconst (v := (nI 0)) hx hb dX10_sheet_75 rfl ?_
            refine ra_iast hx hb hK hP hD hS 3 0 (n := 240) (f := (a1057 4)) (j := (60 * (sh.toNatClampNeg)) + q) (x := (nI 0)) rfl rfl (by omega) (by decide) dX10_sheet_76 (fun H locs hP hD hS => ?_)
            have hP : va_P D vwCl (xM cA r ((upd u 0 (nI 0)), (va_up a1057 4 (upd (a1057 4) ((60 * (sh.toNatClampNeg)) + q) (nI 0))))) H := hP
            have hD : va_D A (xM cA r ((upd u 0 (nI 0)), (va_up a1057 4 (upd (a1057 4) ((60 * (sh.toNatClampNeg)) + q) (nI 0))))) := hD
            refine rn_iinc (x := q) (d := 1) (lv' := [(4, .int (nI (q + 1))), (0, .ref (r 0)), (1, .int (nI (sh.toNatClampNeg)))]) hx hb rfl dX10_sheet_77 hl (k := 0) rfl (by decide) rfl (fun ls hl => ?_)
            refine lv_goto (tgt := 57) hx hb dX10_sheet_80 (by decide) ?_
            exact ih57 ((q + 1), (va_up a1057 4 (upd (a1057 4) ((60 * (sh.toNatClampNeg)) + q) (nI 0)))) _ _ _ (show 60 - (q + 1) < 60 - q from by omega) ⟨(show (q + 1) ≤ 60 from by omega), (show ∀ i9, i9 < (q + 1) → (va_up a1057 4 (upd (a1057 4) ((60 * (sh.toNatClampNeg)) + q) (nI 0))) 4 (60 * sh.toNatClampNeg + i9) = 0 from (fun i hi => by show (upd (a1057 4) ((60 * (sh.toNatClampNeg)) + q) (nI 0)) (60 * sh.toNatClampNeg + i) = 0; rcases Nat.lt_or_ge i q with w | w; rw [up_ne (by omega)]; exact hz i w; rw [show i = q by omega, up_eq]; rfl)), (show ∀ p9, ¬ (60 * sh.toNatClampNeg ≤ p9 ∧ p9 < 60 * sh.toNatClampNeg + 60) → (va_up a1057 4 (upd (a1057 4) ((60 * (sh.toNatClampNeg)) + q) (nI 0))) 4 p9 = a 4 p9 from (fun p9 hp => by show (upd (a1057 4) ((60 * (sh.toNatClampNeg)) + q) (nI 0)) p9 = _; rw [up_ne (by omega)]; exact hoth p9 hp)), (fun i h4 => Eq.trans (vup_ne h4) (hfa57 i h4)), hP, hD, hS, lv_sub hl [0, 1, 2] rfl⟩
        · refine lv_aload_n hx hb dX10_sheet_34 rfl (lv_at hl 0 rfl) ?_
          refine lv_iconst (v := (nI 4)) hx hb dX10_sheet_35 rfl ?_
          refine wVi e0_S (As := [.int (nI 4)]) (rest := []) ⟨hx, hb, hml, hown, hts⟩ (kX10_fails l D cA r _ (upd u 0 (nI 0)) a (nI 4)) (cwV 1 hts gX10_sheet_X10_fails rfl rfl rfl (by decide +kernel) ⟨Nat.le_of_ble_eq_true rfl, Nat.le_of_ble_eq_true rfl⟩) (va_recv hK hP (ci := 10) (q0 := 0) rfl rfl) hK hP hD hS hA hE rfl hl.1 rfl (Nat.le_of_ble_eq_true rfl) dX10_sheet_36 ⟨Nat.zero_le _, Nat.zero_le _⟩ (fun rv_13 z_15 H locs hw_14 hP hD hS => ?_)
          obtain ⟨rfl, rfl⟩ := hw_14
          have hP : va_P D vwCl (xM cA r ((upd u 0 (nI 4)), a)) H := hP
          have hD : va_D A (xM cA r ((upd u 0 (nI 4)), a)) := hD
          exact wIret hx hb hr hlocks (v := ((-10) - (nI 4))) ((upd u 0 (nI 4)), a) (⟨by unfold aSheet; rw [cif_pos b_3, cif_pos ⟨b_7, c_9⟩, cif_neg c_10]; decide, by unfold soSheet lnSheet ceSheet fSheet; rw [cif_neg (fun q => c_10 q.2.2.1), cif_neg (fun q => c_10 q.2.2.1), cif_neg (fun q => c_10 q.2.2.1), cif_pos b_3, cif_pos ⟨b_7, c_9⟩, cif_neg c_10]; exact (MI.keep hI rfl htr rfl rfl rfl rfl rfl rfl rfl rfl rfl rfl rfl rfl rfl rfl rfl)⟩) hK hP hD hS dX10_sheet_39
      · refine lv_bipush (v := (-2)) hx hb dX10_sheet_27 (by decide) ?_
        exact wIret hx hb hr hlocks (v := (-2)) ((upd u 0 (nI 0)), a) (⟨by unfold aSheet; rw [cif_pos b_3, cif_neg (fun q => c_9 q.2)], by unfold soSheet lnSheet ceSheet fSheet; rw [cif_neg (fun q => c_9 q.2.2.2), cif_neg (fun q => c_9 q.2.2.2), cif_neg (fun q => c_9 q.2.2.2), cif_pos b_3, cif_neg (fun q => c_9 q.2)]; exact (MI.keep hI rfl htr rfl rfl rfl rfl rfl rfl rfl rfl rfl rfl rfl rfl rfl rfl rfl)⟩) hK hP hD hS dX10_sheet_29
    · refine lv_if_eq (tgt := 27) hx hb dX10_sheet_18 (by decide) (fun _ => ?_) (fun c_16 => absurd c_16 (by decide))
      refine lv_bipush (v := (-2)) hx hb dX10_sheet_27 (by decide) ?_
      exact wIret hx hb hr hlocks (v := (-2)) ((upd u 0 (nI 0)), a) (⟨by unfold aSheet; rw [cif_pos b_3, cif_neg (fun q => b_7 q.1)], by unfold soSheet lnSheet ceSheet fSheet; rw [cif_neg (fun q => b_7 q.2.1), cif_neg (fun q => b_7 q.2.1), cif_neg (fun q => b_7 q.2.1), cif_pos b_3, cif_neg (fun q => b_7 q.1)]; exact (MI.keep hI rfl htr rfl rfl rfl rfl rfl rfl rfl rfl rfl rfl rfl rfl rfl rfl rfl)⟩) hK hP hD hS dX10_sheet_29
  · refine lv_if_ne (tgt := 14) hx hb dX10_sheet_9 (by decide) (fun c_17 => absurd c_17 (by decide)) (fun _ => ?_)
    refine lv_iconst (v := (-1)) hx hb dX10_sheet_12 (by decide) ?_
    exact wIret hx hb hr hlocks (v := (-1)) ((upd u 0 (nI 0)), a) (⟨by unfold aSheet; rw [cif_neg b_3], by unfold soSheet lnSheet ceSheet fSheet; rw [cif_neg (fun q => b_3 q.1), cif_neg (fun q => b_3 q.1), cif_neg (fun q => b_3 q.1), cif_neg b_3]; exact (MI.keep hI rfl htr rfl rfl rfl rfl rfl rfl rfl rfl rfl rfl rfl rfl rfl rfl rfl)⟩) hK hP hD hS dX10_sheet_13

set_option maxHeartbeats 4000000 in
set_option maxRecDepth 100000 in
theorem kX10_lose (l : Launch) (D : va_G) (cA : Nat → ClassId) (r : Nat → Nat) (sz : Nat) (u : Nat → Int32) (a : Nat → Nat → Int32) (g : Nat → Nat) (T : Nat → Nat → Nat) (R : Nat → Nat → Nat) (so : Nat → Int32) (ln : Nat → Nat) (ce : Nat → Nat → Int32) (f tr : Int32) (sh : Int32) (hI : MI u a g T R so ln ce f tr) : Met l yX10_lose wsX10_lose ({ frames := 2, cells := 0, slots := 0, locals := 42 } : Room) (va_Pc [.ref (r 0), .int sh] (wA D vwCl (tyA cA) e0 (xM cA r) (u, a) sz)) (va_Qi (fun (v : Int32) (z : sM) => v = aLose so sh ∧ MI z.1 z.2 g T R (soLose so sh) ln ce f tr) (wB D vwCl (tyA cA) (xM cA r) (va_A (xM cA r (u, a)) sz)) (va_A (xM cA r (u, a)) sz)) 0 0 (va_A (xM cA r (u, a)) sz) := by
  refine Met.ofW (cc := cX10_lose) (maxL := 3) (ret := (some .int)) (by decide) rfl ?_
  intro p e s m args below meth c s₁ B hml hv
  obtain ⟨rfl, hsz, hP, hK, hD0, hE⟩ := hv
  have hx := B.exec
  have hb := B.bytes
  have hr := B.returns
  have hts := atoms_spec (ws := wsX10_lose) B.pre
  have hown : s.vm.findClass RX10 = some m.cls := findClass_of_methodNamed B.named
  have hlocks := B.notSynchronized
  subst hsz
  have hD := hD0.self (sz := s.heap.size)
  generalize hAe : va_A (xM cA r (u, a)) s.heap.size = A at hD hE ⊢
  have hA : ∀ q : Nat, s.heap.size ≤ q → A q := fun q h => by rw [← hAe]; exact Or.inr h
  have hS : va_S A s.heap s.heap [] := va_S.rf
  have hinX10 : ∀ w ∈ u_ws RX10 TX10 34, w ∈ wsX10_lose := by decide +kernel
  have hl := lv_entry ([.ref (r 0), .int sh]) (n := 3) (Nat.le_of_ble_eq_true rfl)
  rw [lg_entry_eq]
  generalize (lg_sl ([.ref (r 0), .int sh]) ++ List.replicate (3 - (lg_sl ([.ref (r 0), .int sh])).length) Slot.unset).toArray = ls at hl ⊢
  have hl : lv_has ls 3 [(0, .ref (r 0)), (1, .int sh)] := hl
  have hM := hI.1
  have hB := hI.2.1
  have hg6 := hB.1
  have hRd := hI.2.2.1
  have hSh := hI.2.2.2.1
  have hf0 := hI.2.2.2.2.1
  have htr := hI.2.2.2.2.2
  refine lv_iload_n hx hb dX10_lose_0 rfl (lv_at hl 1 rfl) ?_
  refine wSi (As := [.int sh]) (rest := []) ⟨hx, hb, hml, hown, hts⟩ (kX10_isSheet l sh) (va_cwS 1 hts gX10_lose_X10_isSheet rfl rfl rfl (by decide +kernel) ⟨Nat.le_of_ble_eq_true rfl, Nat.le_of_ble_eq_true rfl⟩) rfl hl.1 rfl (Nat.le_of_ble_eq_true rfl) dX10_lose_1 ⟨Nat.zero_le _, Nat.zero_le _⟩ (fun rv_1 hw_2 => ?_)
  rcases hw_2 with ⟨rfl, b_3⟩ | ⟨rfl, b_3⟩
  · obtain ⟨j1, hj1, hj2, hj3, hj4⟩ := inR_of (show inR sh 0 3 from b_3) (by decide) (by decide)
    have hk4 : sh.toNatClampNeg < 4 := by omega
    have hsk := hSh _ hk4
    have hl : lv_has ls 3 [(0, .ref (r 0)), (1, .int (nI (sh.toNatClampNeg)))] := lv_re hl 1 ⟨rfl, rfl⟩ (by rw [hj4]; exact hj1)
    refine lv_if_ne (tgt := 9) hx hb dX10_lose_4 (by decide) (fun _ => ?_) (fun c_4 => absurd c_4 (by decide))
    refine lv_aload_n hx hb dX10_lose_9 rfl (lv_at hl 0 rfl) ?_
    refine va_get (D := D) (ci := 10) (v := .ref (r 2)) (C := RX10) (T := TX10) (N := 34) hx hb hts hinX10 hown hK hP 0 rfl rfl 2 (by decide) (hts (.fieldLink RX10 9 "OneNailModel" "sorts" "[I") (by decide +kernel)) (fun _ h9 => h9) rfl dX10_lose_10 ?_
    refine lv_iload_n hx hb dX10_lose_13 rfl (lv_at hl 1 rfl) ?_
    refine ra_iald hx hb hK hP 1 0 (n := 4) (f := (a 2)) (j := sh.toNatClampNeg) (v := (so sh.toNatClampNeg)) rfl rfl (by omega) (by decide) (hsk.1) dX10_lose_14 ?_
    refine lv_bipush (v := (-9)) hx hb dX10_lose_15 (by decide) ?_
    refine lv_icmp_ne (tgt := 24) hx hb dX10_lose_17 (by decide) (fun c_5 => ?_) (fun c_5 => ?_)
    · refine lv_iconst (v := (nI 1)) hx hb dX10_lose_24 rfl ?_
      refine lv_istore_n (lv' := [(2, .int (nI 1)), (0, .ref (r 0)), (1, .int (nI (sh.toNatClampNeg)))]) hx hb dX10_lose_25 rfl hl (by decide) rfl (fun ls hl => ?_)
      refine lv_aload_n hx hb dX10_lose_26 rfl (lv_at hl 1 rfl) ?_
      refine va_get (D := D) (ci := 10) (v := .ref (r 2)) (C := RX10) (T := TX10) (N := 34) hx hb hts hinX10 hown hK hP 0 rfl rfl 2 (by decide) (hts (.fieldLink RX10 9 "OneNailModel" "sorts" "[I") (by decide +kernel)) (fun _ h9 => h9) rfl dX10_lose_27 ?_
      refine lv_iload_n hx hb dX10_lose_30 rfl (lv_at hl 2 rfl) ?_
      refine lv_bipush (v := (-9)) hx hb dX10_lose_31 (by decide) ?_
      refine ra_iast hx hb hK hP hD hS 1 0 (n := 4) (f := (a 2)) (j := sh.toNatClampNeg) (x := (-9)) rfl rfl (by omega) (by decide) dX10_lose_33 (fun H locs hP hD hS => ?_)
      have hP : va_P D vwCl (xM cA r (u, (va_up a 2 (upd (a 2) (sh.toNatClampNeg) (-9))))) H := hP
      have hD : va_D A (xM cA r (u, (va_up a 2 (upd (a 2) (sh.toNatClampNeg) (-9))))) := hD
      refine lv_iload_n hx hb dX10_lose_34 rfl (lv_at hl 0 rfl) ?_
      exact wIret hx hb hr hlocks (v := (nI 1)) (u, (va_up a 2 (upd (a 2) (sh.toNatClampNeg) (-9)))) (⟨by unfold aLose; rw [cif_pos b_3, cif_neg c_5], by unfold soLose; rw [cif_pos b_3]; exact ⟨MT.keep hM rfl rfl rfl rfl rfl rfl rfl rfl, hB, RdI.keep hRd rfl rfl rfl rfl, sh_lose hSh hk4 rfl rfl rfl, hf0, htr⟩⟩) hK hP hD hS dX10_lose_35
    · refine lv_iconst (v := (nI 0)) hx hb dX10_lose_20 rfl ?_
      refine lv_goto (tgt := 25) hx hb dX10_lose_21 (by decide) ?_
      refine lv_istore_n (lv' := [(2, .int (nI 0)), (0, .ref (r 0)), (1, .int (nI (sh.toNatClampNeg)))]) hx hb dX10_lose_25 rfl hl (by decide) rfl (fun ls hl => ?_)
      refine lv_aload_n hx hb dX10_lose_26 rfl (lv_at hl 1 rfl) ?_
      refine va_get (D := D) (ci := 10) (v := .ref (r 2)) (C := RX10) (T := TX10) (N := 34) hx hb hts hinX10 hown hK hP 0 rfl rfl 2 (by decide) (hts (.fieldLink RX10 9 "OneNailModel" "sorts" "[I") (by decide +kernel)) (fun _ h9 => h9) rfl dX10_lose_27 ?_
      refine lv_iload_n hx hb dX10_lose_30 rfl (lv_at hl 2 rfl) ?_
      refine lv_bipush (v := (-9)) hx hb dX10_lose_31 (by decide) ?_
      refine ra_iast hx hb hK hP hD hS 1 0 (n := 4) (f := (a 2)) (j := sh.toNatClampNeg) (x := (-9)) rfl rfl (by omega) (by decide) dX10_lose_33 (fun H locs hP hD hS => ?_)
      have hP : va_P D vwCl (xM cA r (u, (va_up a 2 (upd (a 2) (sh.toNatClampNeg) (-9))))) H := hP
      have hD : va_D A (xM cA r (u, (va_up a 2 (upd (a 2) (sh.toNatClampNeg) (-9))))) := hD
      refine lv_iload_n hx hb dX10_lose_34 rfl (lv_at hl 0 rfl) ?_
      exact wIret hx hb hr hlocks (v := (nI 0)) (u, (va_up a 2 (upd (a 2) (sh.toNatClampNeg) (-9)))) (⟨by unfold aLose; rw [cif_pos b_3, cif_pos c_5], by unfold soLose; rw [cif_pos b_3]; exact ⟨MT.keep hM rfl rfl rfl rfl rfl rfl rfl rfl, hB, RdI.keep hRd rfl rfl rfl rfl, sh_lose hSh hk4 rfl rfl rfl, hf0, htr⟩⟩) hK hP hD hS dX10_lose_35
  · refine lv_if_ne (tgt := 9) hx hb dX10_lose_4 (by decide) (fun c_6 => absurd c_6 (by decide)) (fun _ => ?_)
    refine lv_iconst (v := (-1)) hx hb dX10_lose_7 (by decide) ?_
    exact wIret hx hb hr hlocks (v := (-1)) (u, a) (⟨by unfold aLose; rw [cif_neg b_3], by unfold soLose; rw [cif_neg b_3]; exact hI⟩) hK hP hD hS dX10_lose_8

set_option maxHeartbeats 4000000 in
set_option maxRecDepth 100000 in
theorem kX10_put (l : Launch) (D : va_G) (cA : Nat → ClassId) (r : Nat → Nat) (sz : Nat) (u : Nat → Int32) (a : Nat → Nat → Int32) (g : Nat → Nat) (T : Nat → Nat → Nat) (R : Nat → Nat → Nat) (so : Nat → Int32) (ln : Nat → Nat) (ce : Nat → Nat → Int32) (f tr : Int32) (sh i w : Int32) (hI : MI u a g T R so ln ce f tr) : Met l yX10_put wsX10_put ({ frames := 2, cells := 0, slots := 0, locals := 42 } : Room) (va_Pc [.ref (r 0), .int sh, .int i, .int w] (wA D vwCl (tyA cA) e0 (xM cA r) (u, a) sz)) (va_Qi (fun (v : Int32) (z : sM) => v = aPut so ln sh i ∧ MI z.1 z.2 g T R so ln (cePut so ln ce sh i w) (fPut so ln sh i) tr) (wB D vwCl (tyA cA) (xM cA r) (va_A (xM cA r (u, a)) sz)) (va_A (xM cA r (u, a)) sz)) 0 0 (va_A (xM cA r (u, a)) sz) := by
  refine Met.ofW (cc := cX10_put) (maxL := 4) (ret := (some .int)) (by decide) rfl ?_
  intro p e s m args below meth c s₁ B hml hv
  obtain ⟨rfl, hsz, hP, hK, hD0, hE⟩ := hv
  have hx := B.exec
  have hb := B.bytes
  have hr := B.returns
  have hts := atoms_spec (ws := wsX10_put) B.pre
  have hown : s.vm.findClass RX10 = some m.cls := findClass_of_methodNamed B.named
  have hlocks := B.notSynchronized
  subst hsz
  have hD := hD0.self (sz := s.heap.size)
  generalize hAe : va_A (xM cA r (u, a)) s.heap.size = A at hD hE ⊢
  have hA : ∀ q : Nat, s.heap.size ≤ q → A q := fun q h => by rw [← hAe]; exact Or.inr h
  have hS : va_S A s.heap s.heap [] := va_S.rf
  have hinX10 : ∀ w ∈ u_ws RX10 TX10 34, w ∈ wsX10_put := by decide +kernel
  have hl := lv_entry ([.ref (r 0), .int sh, .int i, .int w]) (n := 4) (Nat.le_of_ble_eq_true rfl)
  rw [lg_entry_eq]
  generalize (lg_sl ([.ref (r 0), .int sh, .int i, .int w]) ++ List.replicate (4 - (lg_sl ([.ref (r 0), .int sh, .int i, .int w])).length) Slot.unset).toArray = ls at hl ⊢
  have hl : lv_has ls 4 [(0, .ref (r 0)), (1, .int sh), (2, .int i), (3, .int w)] := hl
  have hM := hI.1
  have hB := hI.2.1
  have hg6 := hB.1
  have hRd := hI.2.2.1
  have hSh := hI.2.2.2.1
  have hf0 := hI.2.2.2.2.1
  have htr := hI.2.2.2.2.2
  refine lv_aload_n hx hb dX10_put_0 rfl (lv_at hl 0 rfl) ?_
  refine lv_iconst (v := (nI 0)) hx hb dX10_put_1 rfl ?_
  refine va_put (D := D) (ci := 10) (v := .int (nI 0)) (ty := .int) (C := RX10) (T := TX10) (N := 34) hx hb hts hinX10 tyX10 tyX10_ok nmX10 hown hK hP hD hS 0 rfl rfl 0 (by decide) (hts (.fieldLink RX10 80 "OneNailModel" "fault" "I") (by decide +kernel)) (fun _ h9 => h9) rfl (by decide +kernel) rfl rfl (Nat.le_of_ble_eq_true rfl) dX10_put_2 (fun H locs hP hD hS => ?_)
  have hP : va_P D vwCl (xM cA r ((upd u 0 (nI 0)), a)) H := hP
  have hD : va_D A (xM cA r ((upd u 0 (nI 0)), a)) := hD
  refine lv_iload_n hx hb dX10_put_5 rfl (lv_at hl 1 rfl) ?_
  refine wSi (As := [.int sh]) (rest := []) ⟨hx, hb, hml, hown, hts⟩ (kX10_isSheet l sh) (va_cwS 1 hts gX10_put_X10_isSheet rfl rfl rfl (by decide +kernel) ⟨Nat.le_of_ble_eq_true rfl, Nat.le_of_ble_eq_true rfl⟩) rfl hl.1 rfl (Nat.le_of_ble_eq_true rfl) dX10_put_6 ⟨Nat.zero_le _, Nat.zero_le _⟩ (fun rv_1 hw_2 => ?_)
  rcases hw_2 with ⟨rfl, b_3⟩ | ⟨rfl, b_3⟩
  · obtain ⟨j1, hj1, hj2, hj3, hj4⟩ := inR_of (show inR sh 0 3 from b_3) (by decide) (by decide)
    have hk4 : sh.toNatClampNeg < 4 := by omega
    have hsk := hSh _ hk4
    have hl : lv_has ls 4 [(0, .ref (r 0)), (1, .int (nI (sh.toNatClampNeg))), (2, .int i), (3, .int w)] := lv_re hl 1 ⟨rfl, rfl⟩ (by rw [hj4]; exact hj1)
    refine lv_if_ne (tgt := 14) hx hb dX10_put_9 (by decide) (fun _ => ?_) (fun c_4 => absurd c_4 (by decide))
    refine lv_aload_n hx hb dX10_put_14 rfl (lv_at hl 0 rfl) ?_
    refine va_get (D := D) (ci := 10) (v := .ref (r 2)) (C := RX10) (T := TX10) (N := 34) hx hb hts hinX10 hown hK hP 0 rfl rfl 2 (by decide) (hts (.fieldLink RX10 9 "OneNailModel" "sorts" "[I") (by decide +kernel)) (fun _ h9 => h9) rfl dX10_put_15 ?_
    refine lv_iload_n hx hb dX10_put_18 rfl (lv_at hl 1 rfl) ?_
    refine ra_iald hx hb hK hP 1 0 (n := 4) (f := (a 2)) (j := sh.toNatClampNeg) (v := (so sh.toNatClampNeg)) rfl rfl (by omega) (by decide) (hsk.1) dX10_put_19 ?_
    refine lv_bipush (v := (-9)) hx hb dX10_put_20 (by decide) ?_
    refine lv_icmp_ne (tgt := 31) hx hb dX10_put_22 (by decide) (fun c_5 => ?_) (fun c_5 => ?_)
    · refine lv_iload_n hx hb dX10_put_31 rfl (lv_at hl 2 rfl) ?_
      refine lv_iconst (v := (nI 0)) hx hb dX10_put_32 rfl ?_
      refine lv_aload_n hx hb dX10_put_33 rfl (lv_at hl 0 rfl) ?_
      refine va_get (D := D) (ci := 10) (v := .ref (r 3)) (C := RX10) (T := TX10) (N := 34) hx hb hts hinX10 hown hK hP 0 rfl rfl 3 (by decide) (hts (.fieldLink RX10 13 "OneNailModel" "sheetLong" "[I") (by decide +kernel)) (fun _ h9 => h9) rfl dX10_put_34 ?_
      refine lv_iload_n hx hb dX10_put_37 rfl (lv_at hl 1 rfl) ?_
      refine ra_iald hx hb hK hP 2 0 (n := 4) (f := (a 3)) (j := sh.toNatClampNeg) (v := (nI (ln sh.toNatClampNeg))) rfl rfl (by omega) (by decide) (hsk.2.2.1) dX10_put_38 ?_
      refine lv_iconst (v := (nI 1)) hx hb dX10_put_39 rfl ?_
      refine lv_isub hx hb dX10_put_40 ?_
      refine wSi (As := [.int i, .int (nI 0), .int ((nI (ln sh.toNatClampNeg)) - (nI 1))]) (rest := []) ⟨hx, hb, hml, hown, hts⟩ (kX10_within l i (nI 0) ((nI (ln sh.toNatClampNeg)) - (nI 1))) (va_cwS 3 hts gX10_put_X10_within rfl rfl rfl (by decide +kernel) ⟨Nat.le_of_ble_eq_true rfl, Nat.le_of_ble_eq_true rfl⟩) rfl hl.1 rfl (Nat.le_of_ble_eq_true rfl) dX10_put_41 ⟨Nat.zero_le _, Nat.zero_le _⟩ (fun rv_6 hw_7 => ?_)
      rcases hw_7 with ⟨rfl, b_8⟩ | ⟨rfl, b_8⟩
      · have hi7 : isT (ln sh.toNatClampNeg) i := (in_lt hsk.2.2.2.1).mp b_8
        have hl60 := hsk.2.2.2.1
        have hi8 := isT_of2 hi7 (by omega)
        have hl : lv_has ls 4 [(0, .ref (r 0)), (1, .int (nI (sh.toNatClampNeg))), (2, .int (nI (i.toNatClampNeg))), (3, .int w)] := lv_re hl 2 ⟨rfl, rfl⟩ (hi8.1)
        refine lv_if_ne (tgt := 53) hx hb dX10_put_44 (by decide) (fun _ => ?_) (fun c_9 => absurd c_9 (by decide))
        refine lv_aload_n hx hb dX10_put_53 rfl (lv_at hl 0 rfl) ?_
        refine va_get (D := D) (ci := 10) (v := .ref (r 4)) (C := RX10) (T := TX10) (N := 34) hx hb hts hinX10 hown hK hP 0 rfl rfl 4 (by decide) (hts (.fieldLink RX10 16 "OneNailModel" "cells" "[I") (by decide +kernel)) (fun _ h9 => h9) rfl dX10_put_54 ?_
        refine lv_bipush (v := (nI 60)) hx hb dX10_put_57 rfl ?_
        refine lv_iload_n hx hb dX10_put_59 rfl (lv_at hl 1 rfl) ?_
        refine rn_imul (x := 60) (y := sh.toNatClampNeg) hx hb dX10_put_60 ?_
        refine lv_iload_n hx hb dX10_put_61 rfl (lv_at hl 2 rfl) ?_
        refine rn_iadd (x := 60 * (sh.toNatClampNeg)) (y := i.toNatClampNeg) hx hb dX10_put_62 ?_
        refine lv_aload_n hx hb dX10_put_63 rfl (lv_at hl 0 rfl) ?_
        refine va_get (D := D) (ci := 10) (v := .ref (r 2)) (C := RX10) (T := TX10) (N := 34) hx hb hts hinX10 hown hK hP 0 rfl rfl 2 (by decide) (hts (.fieldLink RX10 9 "OneNailModel" "sorts" "[I") (by decide +kernel)) (fun _ h9 => h9) rfl dX10_put_64 ?_
        refine lv_iload_n hx hb dX10_put_67 rfl (lv_at hl 1 rfl) ?_
        refine ra_iald hx hb hK hP 1 0 (n := 4) (f := (a 2)) (j := sh.toNatClampNeg) (v := (so sh.toNatClampNeg)) rfl rfl (by omega) (by decide) (hsk.1) dX10_put_68 ?_
        refine lv_if_ne (tgt := 77) hx hb dX10_put_69 (by decide) (fun c_10 => ?_) (fun c_10 => ?_)
        · refine lv_aload_n hx hb dX10_put_77 rfl (lv_at hl 0 rfl) ?_
          refine va_get (D := D) (ci := 10) (v := .ref (r 2)) (C := RX10) (T := TX10) (N := 34) hx hb hts hinX10 hown hK hP 0 rfl rfl 2 (by decide) (hts (.fieldLink RX10 9 "OneNailModel" "sorts" "[I") (by decide +kernel)) (fun _ h9 => h9) rfl dX10_put_78 ?_
          refine lv_iload_n hx hb dX10_put_81 rfl (lv_at hl 1 rfl) ?_
          refine ra_iald hx hb hK hP 1 0 (n := 4) (f := (a 2)) (j := sh.toNatClampNeg) (v := (so sh.toNatClampNeg)) rfl rfl (by omega) (by decide) (hsk.1) dX10_put_82 ?_
          refine lv_iconst (v := (nI 1)) hx hb dX10_put_83 rfl ?_
          refine lv_icmp_ne (tgt := 92) hx hb dX10_put_84 (by decide) (fun c_11 => ?_) (fun c_11 => ?_)
          · refine lv_iload_n hx hb dX10_put_92 rfl (lv_at hl 3 rfl) ?_
            refine ra_iast hx hb hK hP hD hS 3 0 (n := 240) (f := (a 4)) (j := (60 * (sh.toNatClampNeg)) + (i.toNatClampNeg)) (x := w) rfl rfl (by omega) (by decide) dX10_put_93 (fun H locs hP hD hS => ?_)
            have hP : va_P D vwCl (xM cA r ((upd u 0 (nI 0)), (va_up a 4 (upd (a 4) ((60 * (sh.toNatClampNeg)) + (i.toNatClampNeg)) w)))) H := hP
            have hD : va_D A (xM cA r ((upd u 0 (nI 0)), (va_up a 4 (upd (a 4) ((60 * (sh.toNatClampNeg)) + (i.toNatClampNeg)) w)))) := hD
            refine lv_iconst (v := (nI 1)) hx hb dX10_put_94 rfl ?_
            exact wIret hx hb hr hlocks (v := (nI 1)) ((upd u 0 (nI 0)), (va_up a 4 (upd (a 4) ((60 * (sh.toNatClampNeg)) + (i.toNatClampNeg)) w))) (⟨by unfold aPut; rw [cif_pos b_3, cif_neg c_5, cif_pos hi7], by unfold cePut fPut; rw [cif_pos ⟨b_3, c_5, hi7⟩, cif_pos b_3, cif_neg c_5, cif_pos hi7]; exact ⟨MT.keep hM rfl rfl rfl rfl rfl rfl rfl rfl, hB, RdI.keep hRd rfl rfl rfl rfl, sh_put hSh hk4 (show i.toNatClampNeg < 60 by omega) rfl rfl (by unfold cut; rw [if_neg c_10, if_neg c_11]; rfl), rfl, htr⟩⟩) hK hP hD hS dX10_put_95
          · refine lv_iload_n hx hb dX10_put_87 rfl (lv_at hl 3 rfl) ?_
            refine lv_i2s (v := (w.toInt16.toInt32)) hx hb dX10_put_88 rfl ?_
            refine lv_goto (tgt := 93) hx hb dX10_put_89 (by decide) ?_
            refine ra_iast hx hb hK hP hD hS 3 0 (n := 240) (f := (a 4)) (j := (60 * (sh.toNatClampNeg)) + (i.toNatClampNeg)) (x := (w.toInt16.toInt32)) rfl rfl (by omega) (by decide) dX10_put_93 (fun H locs hP hD hS => ?_)
            have hP : va_P D vwCl (xM cA r ((upd u 0 (nI 0)), (va_up a 4 (upd (a 4) ((60 * (sh.toNatClampNeg)) + (i.toNatClampNeg)) (w.toInt16.toInt32))))) H := hP
            have hD : va_D A (xM cA r ((upd u 0 (nI 0)), (va_up a 4 (upd (a 4) ((60 * (sh.toNatClampNeg)) + (i.toNatClampNeg)) (w.toInt16.toInt32))))) := hD
            refine lv_iconst (v := (nI 1)) hx hb dX10_put_94 rfl ?_
            exact wIret hx hb hr hlocks (v := (nI 1)) ((upd u 0 (nI 0)), (va_up a 4 (upd (a 4) ((60 * (sh.toNatClampNeg)) + (i.toNatClampNeg)) (w.toInt16.toInt32)))) (⟨by unfold aPut; rw [cif_pos b_3, cif_neg c_5, cif_pos hi7], by unfold cePut fPut; rw [cif_pos ⟨b_3, c_5, hi7⟩, cif_pos b_3, cif_neg c_5, cif_pos hi7]; exact ⟨MT.keep hM rfl rfl rfl rfl rfl rfl rfl rfl, hB, RdI.keep hRd rfl rfl rfl rfl, sh_put hSh hk4 (show i.toNatClampNeg < 60 by omega) rfl rfl (by unfold cut; rw [if_neg c_10, if_pos c_11]; rfl), rfl, htr⟩⟩) hK hP hD hS dX10_put_95
        · refine lv_iload_n hx hb dX10_put_72 rfl (lv_at hl 3 rfl) ?_
          refine lv_i2b (v := (w.toInt8.toInt32)) hx hb dX10_put_73 rfl ?_
          refine lv_goto (tgt := 93) hx hb dX10_put_74 (by decide) ?_
          refine ra_iast hx hb hK hP hD hS 3 0 (n := 240) (f := (a 4)) (j := (60 * (sh.toNatClampNeg)) + (i.toNatClampNeg)) (x := (w.toInt8.toInt32)) rfl rfl (by omega) (by decide) dX10_put_93 (fun H locs hP hD hS => ?_)
          have hP : va_P D vwCl (xM cA r ((upd u 0 (nI 0)), (va_up a 4 (upd (a 4) ((60 * (sh.toNatClampNeg)) + (i.toNatClampNeg)) (w.toInt8.toInt32))))) H := hP
          have hD : va_D A (xM cA r ((upd u 0 (nI 0)), (va_up a 4 (upd (a 4) ((60 * (sh.toNatClampNeg)) + (i.toNatClampNeg)) (w.toInt8.toInt32))))) := hD
          refine lv_iconst (v := (nI 1)) hx hb dX10_put_94 rfl ?_
          exact wIret hx hb hr hlocks (v := (nI 1)) ((upd u 0 (nI 0)), (va_up a 4 (upd (a 4) ((60 * (sh.toNatClampNeg)) + (i.toNatClampNeg)) (w.toInt8.toInt32)))) (⟨by unfold aPut; rw [cif_pos b_3, cif_neg c_5, cif_pos hi7], by unfold cePut fPut; rw [cif_pos ⟨b_3, c_5, hi7⟩, cif_pos b_3, cif_neg c_5, cif_pos hi7]; exact ⟨MT.keep hM rfl rfl rfl rfl rfl rfl rfl rfl, hB, RdI.keep hRd rfl rfl rfl rfl, sh_put hSh hk4 (show i.toNatClampNeg < 60 by omega) rfl rfl (by unfold cut; rw [if_pos c_10]; rfl), rfl, htr⟩⟩) hK hP hD hS dX10_put_95
      · have hi7 : ¬ isT (ln sh.toNatClampNeg) i := fun q => b_8 ((in_lt hsk.2.2.2.1).mpr q)
        refine lv_if_ne (tgt := 53) hx hb dX10_put_44 (by decide) (fun c_12 => absurd c_12 (by decide)) (fun _ => ?_)
        refine lv_aload_n hx hb dX10_put_47 rfl (lv_at hl 0 rfl) ?_
        refine lv_iconst (v := (nI 3)) hx hb dX10_put_48 rfl ?_
        refine wVi e0_S (As := [.int (nI 3)]) (rest := []) ⟨hx, hb, hml, hown, hts⟩ (kX10_fails l D cA r _ (upd u 0 (nI 0)) a (nI 3)) (cwV 1 hts gX10_put_X10_fails rfl rfl rfl (by decide +kernel) ⟨Nat.le_of_ble_eq_true rfl, Nat.le_of_ble_eq_true rfl⟩) (va_recv hK hP (ci := 10) (q0 := 0) rfl rfl) hK hP hD hS hA hE rfl hl.1 rfl (Nat.le_of_ble_eq_true rfl) dX10_put_49 ⟨Nat.zero_le _, Nat.zero_le _⟩ (fun rv_13 z_15 H locs hw_14 hP hD hS => ?_)
        obtain ⟨rfl, rfl⟩ := hw_14
        have hP : va_P D vwCl (xM cA r ((upd u 0 (nI 3)), a)) H := hP
        have hD : va_D A (xM cA r ((upd u 0 (nI 3)), a)) := hD
        exact wIret hx hb hr hlocks (v := ((-10) - (nI 3))) ((upd u 0 (nI 3)), a) (⟨by unfold aPut; rw [cif_pos b_3, cif_neg c_5, cif_neg hi7]; decide, by unfold cePut fPut; rw [cif_neg (fun q => hi7 q.2.2), cif_pos b_3, cif_neg c_5, cif_neg hi7]; exact (MI.keep hI rfl htr rfl rfl rfl rfl rfl rfl rfl rfl rfl rfl rfl rfl rfl rfl rfl)⟩) hK hP hD hS dX10_put_52
    · refine lv_aload_n hx hb dX10_put_25 rfl (lv_at hl 0 rfl) ?_
      refine lv_iconst (v := (nI 1)) hx hb dX10_put_26 rfl ?_
      refine wVi e0_S (As := [.int (nI 1)]) (rest := []) ⟨hx, hb, hml, hown, hts⟩ (kX10_fails l D cA r _ (upd u 0 (nI 0)) a (nI 1)) (cwV 1 hts gX10_put_X10_fails rfl rfl rfl (by decide +kernel) ⟨Nat.le_of_ble_eq_true rfl, Nat.le_of_ble_eq_true rfl⟩) (va_recv hK hP (ci := 10) (q0 := 0) rfl rfl) hK hP hD hS hA hE rfl hl.1 rfl (Nat.le_of_ble_eq_true rfl) dX10_put_27 ⟨Nat.zero_le _, Nat.zero_le _⟩ (fun rv_16 z_18 H locs hw_17 hP hD hS => ?_)
      obtain ⟨rfl, rfl⟩ := hw_17
      have hP : va_P D vwCl (xM cA r ((upd u 0 (nI 1)), a)) H := hP
      have hD : va_D A (xM cA r ((upd u 0 (nI 1)), a)) := hD
      exact wIret hx hb hr hlocks (v := ((-10) - (nI 1))) ((upd u 0 (nI 1)), a) (⟨by unfold aPut; rw [cif_pos b_3, cif_pos c_5]; decide, by unfold cePut fPut; rw [cif_neg (fun q => q.2.1 c_5), cif_pos b_3, cif_pos c_5]; exact (MI.keep hI rfl htr rfl rfl rfl rfl rfl rfl rfl rfl rfl rfl rfl rfl rfl rfl rfl)⟩) hK hP hD hS dX10_put_30
  · refine lv_if_ne (tgt := 14) hx hb dX10_put_9 (by decide) (fun c_19 => absurd c_19 (by decide)) (fun _ => ?_)
    refine lv_iconst (v := (-1)) hx hb dX10_put_12 (by decide) ?_
    exact wIret hx hb hr hlocks (v := (-1)) ((upd u 0 (nI 0)), a) (⟨by unfold aPut; rw [cif_neg b_3], by unfold cePut fPut; rw [cif_neg (fun q => b_3 q.1), cif_neg b_3]; exact (MI.keep hI rfl htr rfl rfl rfl rfl rfl rfl rfl rfl rfl rfl rfl rfl rfl rfl rfl)⟩) hK hP hD hS dX10_put_13

set_option maxHeartbeats 4000000 in
set_option maxRecDepth 100000 in
theorem kX10_cell (l : Launch) (D : va_G) (cA : Nat → ClassId) (r : Nat → Nat) (sz : Nat) (u : Nat → Int32) (a : Nat → Nat → Int32) (g : Nat → Nat) (T : Nat → Nat → Nat) (R : Nat → Nat → Nat) (so : Nat → Int32) (ln : Nat → Nat) (ce : Nat → Nat → Int32) (f tr : Int32) (sh i lane : Int32) (hI : MI u a g T R so ln ce f tr) : Met l yX10_cell wsX10_cell ({ frames := 2, cells := 0, slots := 0, locals := 42 } : Room) (va_Pc [.ref (r 0), .int sh, .int i, .int lane] (wA D vwCl (tyA cA) e0 (xM cA r) (u, a) sz)) (va_Ql (fun (v : Int64) (z : sM) => v = aCell so ln ce sh i lane ∧ MI z.1 z.2 g T R so ln ce (fCell so ln sh i lane) tr) (wB D vwCl (tyA cA) (xM cA r) (va_A (xM cA r (u, a)) sz)) (va_A (xM cA r (u, a)) sz)) 0 0 (va_A (xM cA r (u, a)) sz) := by
  refine Met.ofW (cc := cX10_cell) (maxL := 4) (ret := (some .long)) (by decide) rfl ?_
  intro p e s m args below meth c s₁ B hml hv
  obtain ⟨rfl, hsz, hP, hK, hD0, hE⟩ := hv
  have hx := B.exec
  have hb := B.bytes
  have hr := B.returns
  have hts := atoms_spec (ws := wsX10_cell) B.pre
  have hown : s.vm.findClass RX10 = some m.cls := findClass_of_methodNamed B.named
  have hlocks := B.notSynchronized
  subst hsz
  have hD := hD0.self (sz := s.heap.size)
  generalize hAe : va_A (xM cA r (u, a)) s.heap.size = A at hD hE ⊢
  have hA : ∀ q : Nat, s.heap.size ≤ q → A q := fun q h => by rw [← hAe]; exact Or.inr h
  have hS : va_S A s.heap s.heap [] := va_S.rf
  have hinX10 : ∀ w ∈ u_ws RX10 TX10 34, w ∈ wsX10_cell := by decide +kernel
  have hl := lv_entry ([.ref (r 0), .int sh, .int i, .int lane]) (n := 4) (Nat.le_of_ble_eq_true rfl)
  rw [lg_entry_eq]
  generalize (lg_sl ([.ref (r 0), .int sh, .int i, .int lane]) ++ List.replicate (4 - (lg_sl ([.ref (r 0), .int sh, .int i, .int lane])).length) Slot.unset).toArray = ls at hl ⊢
  have hl : lv_has ls 4 [(0, .ref (r 0)), (1, .int sh), (2, .int i), (3, .int lane)] := hl
  have hM := hI.1
  have hB := hI.2.1
  have hg6 := hB.1
  have hRd := hI.2.2.1
  have hSh := hI.2.2.2.1
  have hf0 := hI.2.2.2.2.1
  have htr := hI.2.2.2.2.2
  refine lv_aload_n hx hb dX10_cell_0 rfl (lv_at hl 0 rfl) ?_
  refine lv_iconst (v := (nI 0)) hx hb dX10_cell_1 rfl ?_
  refine va_put (D := D) (ci := 10) (v := .int (nI 0)) (ty := .int) (C := RX10) (T := TX10) (N := 34) hx hb hts hinX10 tyX10 tyX10_ok nmX10 hown hK hP hD hS 0 rfl rfl 0 (by decide) (hts (.fieldLink RX10 80 "OneNailModel" "fault" "I") (by decide +kernel)) (fun _ h9 => h9) rfl (by decide +kernel) rfl rfl (Nat.le_of_ble_eq_true rfl) dX10_cell_2 (fun H locs hP hD hS => ?_)
  have hP : va_P D vwCl (xM cA r ((upd u 0 (nI 0)), a)) H := hP
  have hD : va_D A (xM cA r ((upd u 0 (nI 0)), a)) := hD
  refine lv_iload_n hx hb dX10_cell_5 rfl (lv_at hl 1 rfl) ?_
  refine wSi (As := [.int sh]) (rest := []) ⟨hx, hb, hml, hown, hts⟩ (kX10_isSheet l sh) (va_cwS 1 hts gX10_cell_X10_isSheet rfl rfl rfl (by decide +kernel) ⟨Nat.le_of_ble_eq_true rfl, Nat.le_of_ble_eq_true rfl⟩) rfl hl.1 rfl (Nat.le_of_ble_eq_true rfl) dX10_cell_6 ⟨Nat.zero_le _, Nat.zero_le _⟩ (fun rv_1 hw_2 => ?_)
  rcases hw_2 with ⟨rfl, b_3⟩ | ⟨rfl, b_3⟩
  · obtain ⟨j1, hj1, hj2, hj3, hj4⟩ := inR_of (show inR sh 0 3 from b_3) (by decide) (by decide)
    have hk4 : sh.toNatClampNeg < 4 := by omega
    have hsk := hSh _ hk4
    have hl : lv_has ls 4 [(0, .ref (r 0)), (1, .int (nI (sh.toNatClampNeg))), (2, .int i), (3, .int lane)] := lv_re hl 1 ⟨rfl, rfl⟩ (by rw [hj4]; exact hj1)
    refine lv_if_eq (tgt := 19) hx hb dX10_cell_9 (by decide) (fun c_4 => absurd c_4 (by decide)) (fun _ => ?_)
    refine lv_iload_n hx hb dX10_cell_12 rfl (lv_at hl 3 rfl) ?_
    refine wSi (As := [.int lane]) (rest := []) ⟨hx, hb, hml, hown, hts⟩ (kX10_isSort l lane) (va_cwS 1 hts gX10_cell_X10_isSort rfl rfl rfl (by decide +kernel) ⟨Nat.le_of_ble_eq_true rfl, Nat.le_of_ble_eq_true rfl⟩) rfl hl.1 rfl (Nat.le_of_ble_eq_true rfl) dX10_cell_13 ⟨Nat.zero_le _, Nat.zero_le _⟩ (fun rv_5 hw_6 => ?_)
    rcases hw_6 with ⟨rfl, b_7⟩ | ⟨rfl, b_7⟩
    · refine lv_if_ne (tgt := 23) hx hb dX10_cell_16 (by decide) (fun _ => ?_) (fun c_8 => absurd c_8 (by decide))
      refine lv_aload_n hx hb dX10_cell_23 rfl (lv_at hl 0 rfl) ?_
      refine va_get (D := D) (ci := 10) (v := .ref (r 2)) (C := RX10) (T := TX10) (N := 34) hx hb hts hinX10 hown hK hP 0 rfl rfl 2 (by decide) (hts (.fieldLink RX10 9 "OneNailModel" "sorts" "[I") (by decide +kernel)) (fun _ h9 => h9) rfl dX10_cell_24 ?_
      refine lv_iload_n hx hb dX10_cell_27 rfl (lv_at hl 1 rfl) ?_
      refine ra_iald hx hb hK hP 1 0 (n := 4) (f := (a 2)) (j := sh.toNatClampNeg) (v := (so sh.toNatClampNeg)) rfl rfl (by omega) (by decide) (hsk.1) dX10_cell_28 ?_
      refine lv_bipush (v := (-9)) hx hb dX10_cell_29 (by decide) ?_
      refine lv_icmp_eq (tgt := 50) hx hb dX10_cell_31 (by decide) (fun c_9 => ?_) (fun c_9 => ?_)
      · refine lv_aload_n hx hb dX10_cell_50 rfl (lv_at hl 0 rfl) ?_
        refine va_get (D := D) (ci := 10) (v := .ref (r 2)) (C := RX10) (T := TX10) (N := 34) hx hb hts hinX10 hown hK hP 0 rfl rfl 2 (by decide) (hts (.fieldLink RX10 9 "OneNailModel" "sorts" "[I") (by decide +kernel)) (fun _ h9 => h9) rfl dX10_cell_51 ?_
        refine lv_iload_n hx hb dX10_cell_54 rfl (lv_at hl 1 rfl) ?_
        refine ra_iald hx hb hK hP 1 0 (n := 4) (f := (a 2)) (j := sh.toNatClampNeg) (v := (so sh.toNatClampNeg)) rfl rfl (by omega) (by decide) (hsk.1) dX10_cell_55 ?_
        refine lv_bipush (v := (-9)) hx hb dX10_cell_56 (by decide) ?_
        refine lv_icmp_ne (tgt := 67) hx hb dX10_cell_58 (by decide) (fun c_10 => ?_) (fun c_10 => ?_)
        · refine lv_iload_n hx hb dX10_cell_67 rfl (lv_at hl 2 rfl) ?_
          refine lv_iconst (v := (nI 0)) hx hb dX10_cell_68 rfl ?_
          refine lv_aload_n hx hb dX10_cell_69 rfl (lv_at hl 0 rfl) ?_
          refine va_get (D := D) (ci := 10) (v := .ref (r 3)) (C := RX10) (T := TX10) (N := 34) hx hb hts hinX10 hown hK hP 0 rfl rfl 3 (by decide) (hts (.fieldLink RX10 13 "OneNailModel" "sheetLong" "[I") (by decide +kernel)) (fun _ h9 => h9) rfl dX10_cell_70 ?_
          refine lv_iload_n hx hb dX10_cell_73 rfl (lv_at hl 1 rfl) ?_
          refine ra_iald hx hb hK hP 2 0 (n := 4) (f := (a 3)) (j := sh.toNatClampNeg) (v := (nI (ln sh.toNatClampNeg))) rfl rfl (by omega) (by decide) (hsk.2.2.1) dX10_cell_74 ?_
          refine lv_iconst (v := (nI 1)) hx hb dX10_cell_75 rfl ?_
          refine lv_isub hx hb dX10_cell_76 ?_
          refine wSi (As := [.int i, .int (nI 0), .int ((nI (ln sh.toNatClampNeg)) - (nI 1))]) (rest := []) ⟨hx, hb, hml, hown, hts⟩ (kX10_within l i (nI 0) ((nI (ln sh.toNatClampNeg)) - (nI 1))) (va_cwS 3 hts gX10_cell_X10_within rfl rfl rfl (by decide +kernel) ⟨Nat.le_of_ble_eq_true rfl, Nat.le_of_ble_eq_true rfl⟩) rfl hl.1 rfl (Nat.le_of_ble_eq_true rfl) dX10_cell_77 ⟨Nat.zero_le _, Nat.zero_le _⟩ (fun rv_11 hw_12 => ?_)
          rcases hw_12 with ⟨rfl, b_13⟩ | ⟨rfl, b_13⟩
          · have hi7 : isT (ln sh.toNatClampNeg) i := (in_lt hsk.2.2.2.1).mp b_13
            have hl60 := hsk.2.2.2.1
            have hi8 := isT_of2 hi7 (by omega)
            have hl : lv_has ls 4 [(0, .ref (r 0)), (1, .int (nI (sh.toNatClampNeg))), (2, .int (nI (i.toNatClampNeg))), (3, .int lane)] := lv_re hl 2 ⟨rfl, rfl⟩ (hi8.1)
            refine lv_if_ne (tgt := 89) hx hb dX10_cell_80 (by decide) (fun _ => ?_) (fun c_14 => absurd c_14 (by decide))
            refine lv_aload_n hx hb dX10_cell_89 rfl (lv_at hl 0 rfl) ?_
            refine va_get (D := D) (ci := 10) (v := .ref (r 4)) (C := RX10) (T := TX10) (N := 34) hx hb hts hinX10 hown hK hP 0 rfl rfl 4 (by decide) (hts (.fieldLink RX10 16 "OneNailModel" "cells" "[I") (by decide +kernel)) (fun _ h9 => h9) rfl dX10_cell_90 ?_
            refine lv_bipush (v := (nI 60)) hx hb dX10_cell_93 rfl ?_
            refine lv_iload_n hx hb dX10_cell_95 rfl (lv_at hl 1 rfl) ?_
            refine rn_imul (x := 60) (y := sh.toNatClampNeg) hx hb dX10_cell_96 ?_
            refine lv_iload_n hx hb dX10_cell_97 rfl (lv_at hl 2 rfl) ?_
            refine rn_iadd (x := 60 * (sh.toNatClampNeg)) (y := i.toNatClampNeg) hx hb dX10_cell_98 ?_
            refine ra_iald hx hb hK hP 3 0 (n := 240) (f := (a 4)) (j := (60 * (sh.toNatClampNeg)) + (i.toNatClampNeg)) (v := (ce sh.toNatClampNeg i.toNatClampNeg)) rfl rfl (by omega) (by decide) (hsk.2.2.2.2 _ (by omega)) dX10_cell_99 ?_
            refine lv_i2l (v := ((ce sh.toNatClampNeg i.toNatClampNeg).toInt64)) hx hb dX10_cell_100 rfl ?_
            exact wLret hx hb hr hlocks (v := ((ce sh.toNatClampNeg i.toNatClampNeg).toInt64)) ((upd u 0 (nI 0)), a) (False.elim (c_10 c_9)) hK hP hD hS dX10_cell_101
          · have hi7 : ¬ isT (ln sh.toNatClampNeg) i := fun q => b_13 ((in_lt hsk.2.2.2.1).mpr q)
            refine lv_if_ne (tgt := 89) hx hb dX10_cell_80 (by decide) (fun c_15 => absurd c_15 (by decide)) (fun _ => ?_)
            refine lv_aload_n hx hb dX10_cell_83 rfl (lv_at hl 0 rfl) ?_
            refine lv_iconst (v := (nI 3)) hx hb dX10_cell_84 rfl ?_
            refine wVl e0_S (As := [.int (nI 3)]) (rest := []) ⟨hx, hb, hml, hown, hts⟩ (kX10_lost l D cA r _ (upd u 0 (nI 0)) a (nI 3)) (cwV 1 hts gX10_cell_X10_lost rfl rfl rfl (by decide +kernel) ⟨Nat.le_of_ble_eq_true rfl, Nat.le_of_ble_eq_true rfl⟩) (va_recv hK hP (ci := 10) (q0 := 0) rfl rfl) hK hP hD hS hA hE rfl hl.1 rfl (Nat.le_of_ble_eq_true rfl) dX10_cell_85 ⟨Nat.zero_le _, Nat.zero_le _⟩ (fun rv_16 z_18 H locs hw_17 hP hD hS => ?_)
            obtain ⟨rfl, rfl⟩ := hw_17
            have hP : va_P D vwCl (xM cA r ((upd u 0 (nI 3)), a)) H := hP
            have hD : va_D A (xM cA r ((upd u 0 (nI 3)), a)) := hD
            exact wLret hx hb hr hlocks (v := (-9223372036854775808)) ((upd u 0 (nI 3)), a) (False.elim (c_10 c_9)) hK hP hD hS dX10_cell_88
        · refine lv_aload_n hx hb dX10_cell_61 rfl (lv_at hl 0 rfl) ?_
          refine lv_iconst (v := (nI 1)) hx hb dX10_cell_62 rfl ?_
          refine wVl e0_S (As := [.int (nI 1)]) (rest := []) ⟨hx, hb, hml, hown, hts⟩ (kX10_lost l D cA r _ (upd u 0 (nI 0)) a (nI 1)) (cwV 1 hts gX10_cell_X10_lost rfl rfl rfl (by decide +kernel) ⟨Nat.le_of_ble_eq_true rfl, Nat.le_of_ble_eq_true rfl⟩) (va_recv hK hP (ci := 10) (q0 := 0) rfl rfl) hK hP hD hS hA hE rfl hl.1 rfl (Nat.le_of_ble_eq_true rfl) dX10_cell_63 ⟨Nat.zero_le _, Nat.zero_le _⟩ (fun rv_19 z_21 H locs hw_20 hP hD hS => ?_)
          obtain ⟨rfl, rfl⟩ := hw_20
          have hP : va_P D vwCl (xM cA r ((upd u 0 (nI 1)), a)) H := hP
          have hD : va_D A (xM cA r ((upd u 0 (nI 1)), a)) := hD
          exact wLret hx hb hr hlocks (v := (-9223372036854775808)) ((upd u 0 (nI 1)), a) (⟨by unfold aCell; rw [cif_pos ⟨b_3, b_7⟩, cif_neg (fun q => q.1 c_10), cif_pos c_10], by unfold fCell; rw [cif_pos ⟨b_3, b_7⟩, cif_neg (fun q => q.1 c_10), cif_pos c_10]; exact (MI.keep hI rfl htr rfl rfl rfl rfl rfl rfl rfl rfl rfl rfl rfl rfl rfl rfl rfl)⟩) hK hP hD hS dX10_cell_66
      · refine lv_aload_n hx hb dX10_cell_34 rfl (lv_at hl 0 rfl) ?_
        refine va_get (D := D) (ci := 10) (v := .ref (r 2)) (C := RX10) (T := TX10) (N := 34) hx hb hts hinX10 hown hK hP 0 rfl rfl 2 (by decide) (hts (.fieldLink RX10 9 "OneNailModel" "sorts" "[I") (by decide +kernel)) (fun _ h9 => h9) rfl dX10_cell_35 ?_
        refine lv_iload_n hx hb dX10_cell_38 rfl (lv_at hl 1 rfl) ?_
        refine ra_iald hx hb hK hP 1 0 (n := 4) (f := (a 2)) (j := sh.toNatClampNeg) (v := (so sh.toNatClampNeg)) rfl rfl (by omega) (by decide) (hsk.1) dX10_cell_39 ?_
        refine lv_iload_n hx hb dX10_cell_40 rfl (lv_at hl 3 rfl) ?_
        refine lv_icmp_eq (tgt := 50) hx hb dX10_cell_41 (by decide) (fun c_22 => ?_) (fun c_22 => ?_)
        · refine lv_aload_n hx hb dX10_cell_50 rfl (lv_at hl 0 rfl) ?_
          refine va_get (D := D) (ci := 10) (v := .ref (r 2)) (C := RX10) (T := TX10) (N := 34) hx hb hts hinX10 hown hK hP 0 rfl rfl 2 (by decide) (hts (.fieldLink RX10 9 "OneNailModel" "sorts" "[I") (by decide +kernel)) (fun _ h9 => h9) rfl dX10_cell_51 ?_
          refine lv_iload_n hx hb dX10_cell_54 rfl (lv_at hl 1 rfl) ?_
          refine ra_iald hx hb hK hP 1 0 (n := 4) (f := (a 2)) (j := sh.toNatClampNeg) (v := (so sh.toNatClampNeg)) rfl rfl (by omega) (by decide) (hsk.1) dX10_cell_55 ?_
          refine lv_bipush (v := (-9)) hx hb dX10_cell_56 (by decide) ?_
          refine lv_icmp_ne (tgt := 67) hx hb dX10_cell_58 (by decide) (fun c_23 => ?_) (fun c_23 => ?_)
          · refine lv_iload_n hx hb dX10_cell_67 rfl (lv_at hl 2 rfl) ?_
            refine lv_iconst (v := (nI 0)) hx hb dX10_cell_68 rfl ?_
            refine lv_aload_n hx hb dX10_cell_69 rfl (lv_at hl 0 rfl) ?_
            refine va_get (D := D) (ci := 10) (v := .ref (r 3)) (C := RX10) (T := TX10) (N := 34) hx hb hts hinX10 hown hK hP 0 rfl rfl 3 (by decide) (hts (.fieldLink RX10 13 "OneNailModel" "sheetLong" "[I") (by decide +kernel)) (fun _ h9 => h9) rfl dX10_cell_70 ?_
            refine lv_iload_n hx hb dX10_cell_73 rfl (lv_at hl 1 rfl) ?_
            refine ra_iald hx hb hK hP 2 0 (n := 4) (f := (a 3)) (j := sh.toNatClampNeg) (v := (nI (ln sh.toNatClampNeg))) rfl rfl (by omega) (by decide) (hsk.2.2.1) dX10_cell_74 ?_
            refine lv_iconst (v := (nI 1)) hx hb dX10_cell_75 rfl ?_
            refine lv_isub hx hb dX10_cell_76 ?_
            refine wSi (As := [.int i, .int (nI 0), .int ((nI (ln sh.toNatClampNeg)) - (nI 1))]) (rest := []) ⟨hx, hb, hml, hown, hts⟩ (kX10_within l i (nI 0) ((nI (ln sh.toNatClampNeg)) - (nI 1))) (va_cwS 3 hts gX10_cell_X10_within rfl rfl rfl (by decide +kernel) ⟨Nat.le_of_ble_eq_true rfl, Nat.le_of_ble_eq_true rfl⟩) rfl hl.1 rfl (Nat.le_of_ble_eq_true rfl) dX10_cell_77 ⟨Nat.zero_le _, Nat.zero_le _⟩ (fun rv_24 hw_25 => ?_)
            rcases hw_25 with ⟨rfl, b_26⟩ | ⟨rfl, b_26⟩
            · have hi7 : isT (ln sh.toNatClampNeg) i := (in_lt hsk.2.2.2.1).mp b_26
              have hl60 := hsk.2.2.2.1
              have hi8 := isT_of2 hi7 (by omega)
              have hl : lv_has ls 4 [(0, .ref (r 0)), (1, .int (nI (sh.toNatClampNeg))), (2, .int (nI (i.toNatClampNeg))), (3, .int lane)] := lv_re hl 2 ⟨rfl, rfl⟩ (hi8.1)
              refine lv_if_ne (tgt := 89) hx hb dX10_cell_80 (by decide) (fun _ => ?_) (fun c_27 => absurd c_27 (by decide))
              refine lv_aload_n hx hb dX10_cell_89 rfl (lv_at hl 0 rfl) ?_
              refine va_get (D := D) (ci := 10) (v := .ref (r 4)) (C := RX10) (T := TX10) (N := 34) hx hb hts hinX10 hown hK hP 0 rfl rfl 4 (by decide) (hts (.fieldLink RX10 16 "OneNailModel" "cells" "[I") (by decide +kernel)) (fun _ h9 => h9) rfl dX10_cell_90 ?_
              refine lv_bipush (v := (nI 60)) hx hb dX10_cell_93 rfl ?_
              refine lv_iload_n hx hb dX10_cell_95 rfl (lv_at hl 1 rfl) ?_
              refine rn_imul (x := 60) (y := sh.toNatClampNeg) hx hb dX10_cell_96 ?_
              refine lv_iload_n hx hb dX10_cell_97 rfl (lv_at hl 2 rfl) ?_
              refine rn_iadd (x := 60 * (sh.toNatClampNeg)) (y := i.toNatClampNeg) hx hb dX10_cell_98 ?_
              refine ra_iald hx hb hK hP 3 0 (n := 240) (f := (a 4)) (j := (60 * (sh.toNatClampNeg)) + (i.toNatClampNeg)) (v := (ce sh.toNatClampNeg i.toNatClampNeg)) rfl rfl (by omega) (by decide) (hsk.2.2.2.2 _ (by omega)) dX10_cell_99 ?_
              refine lv_i2l (v := ((ce sh.toNatClampNeg i.toNatClampNeg).toInt64)) hx hb dX10_cell_100 rfl ?_
              exact wLret hx hb hr hlocks (v := ((ce sh.toNatClampNeg i.toNatClampNeg).toInt64)) ((upd u 0 (nI 0)), a) (⟨by unfold aCell; rw [cif_pos ⟨b_3, b_7⟩, cif_neg (fun q => q.2 c_22), cif_neg c_23, cif_pos hi7], by unfold fCell; rw [cif_pos ⟨b_3, b_7⟩, cif_neg (fun q => q.2 c_22), cif_neg c_23, cif_pos hi7]; exact (MI.keep hI rfl htr rfl rfl rfl rfl rfl rfl rfl rfl rfl rfl rfl rfl rfl rfl rfl)⟩) hK hP hD hS dX10_cell_101
            · have hi7 : ¬ isT (ln sh.toNatClampNeg) i := fun q => b_26 ((in_lt hsk.2.2.2.1).mpr q)
              refine lv_if_ne (tgt := 89) hx hb dX10_cell_80 (by decide) (fun c_28 => absurd c_28 (by decide)) (fun _ => ?_)
              refine lv_aload_n hx hb dX10_cell_83 rfl (lv_at hl 0 rfl) ?_
              refine lv_iconst (v := (nI 3)) hx hb dX10_cell_84 rfl ?_
              refine wVl e0_S (As := [.int (nI 3)]) (rest := []) ⟨hx, hb, hml, hown, hts⟩ (kX10_lost l D cA r _ (upd u 0 (nI 0)) a (nI 3)) (cwV 1 hts gX10_cell_X10_lost rfl rfl rfl (by decide +kernel) ⟨Nat.le_of_ble_eq_true rfl, Nat.le_of_ble_eq_true rfl⟩) (va_recv hK hP (ci := 10) (q0 := 0) rfl rfl) hK hP hD hS hA hE rfl hl.1 rfl (Nat.le_of_ble_eq_true rfl) dX10_cell_85 ⟨Nat.zero_le _, Nat.zero_le _⟩ (fun rv_29 z_31 H locs hw_30 hP hD hS => ?_)
              obtain ⟨rfl, rfl⟩ := hw_30
              have hP : va_P D vwCl (xM cA r ((upd u 0 (nI 3)), a)) H := hP
              have hD : va_D A (xM cA r ((upd u 0 (nI 3)), a)) := hD
              exact wLret hx hb hr hlocks (v := (-9223372036854775808)) ((upd u 0 (nI 3)), a) (⟨by unfold aCell; rw [cif_pos ⟨b_3, b_7⟩, cif_neg (fun q => q.2 c_22), cif_neg c_23, cif_neg hi7], by unfold fCell; rw [cif_pos ⟨b_3, b_7⟩, cif_neg (fun q => q.2 c_22), cif_neg c_23, cif_neg hi7]; exact (MI.keep hI rfl htr rfl rfl rfl rfl rfl rfl rfl rfl rfl rfl rfl rfl rfl rfl rfl)⟩) hK hP hD hS dX10_cell_88
          · refine lv_aload_n hx hb dX10_cell_61 rfl (lv_at hl 0 rfl) ?_
            refine lv_iconst (v := (nI 1)) hx hb dX10_cell_62 rfl ?_
            refine wVl e0_S (As := [.int (nI 1)]) (rest := []) ⟨hx, hb, hml, hown, hts⟩ (kX10_lost l D cA r _ (upd u 0 (nI 0)) a (nI 1)) (cwV 1 hts gX10_cell_X10_lost rfl rfl rfl (by decide +kernel) ⟨Nat.le_of_ble_eq_true rfl, Nat.le_of_ble_eq_true rfl⟩) (va_recv hK hP (ci := 10) (q0 := 0) rfl rfl) hK hP hD hS hA hE rfl hl.1 rfl (Nat.le_of_ble_eq_true rfl) dX10_cell_63 ⟨Nat.zero_le _, Nat.zero_le _⟩ (fun rv_32 z_34 H locs hw_33 hP hD hS => ?_)
            obtain ⟨rfl, rfl⟩ := hw_33
            have hP : va_P D vwCl (xM cA r ((upd u 0 (nI 1)), a)) H := hP
            have hD : va_D A (xM cA r ((upd u 0 (nI 1)), a)) := hD
            exact wLret hx hb hr hlocks (v := (-9223372036854775808)) ((upd u 0 (nI 1)), a) (⟨by unfold aCell; rw [cif_pos ⟨b_3, b_7⟩, cif_neg (fun q => q.1 c_23), cif_pos c_23], by unfold fCell; rw [cif_pos ⟨b_3, b_7⟩, cif_neg (fun q => q.1 c_23), cif_pos c_23]; exact (MI.keep hI rfl htr rfl rfl rfl rfl rfl rfl rfl rfl rfl rfl rfl rfl rfl rfl rfl)⟩) hK hP hD hS dX10_cell_66
        · refine lv_aload_n hx hb dX10_cell_44 rfl (lv_at hl 0 rfl) ?_
          refine lv_iconst (v := (nI 2)) hx hb dX10_cell_45 rfl ?_
          refine wVl e0_S (As := [.int (nI 2)]) (rest := []) ⟨hx, hb, hml, hown, hts⟩ (kX10_lost l D cA r _ (upd u 0 (nI 0)) a (nI 2)) (cwV 1 hts gX10_cell_X10_lost rfl rfl rfl (by decide +kernel) ⟨Nat.le_of_ble_eq_true rfl, Nat.le_of_ble_eq_true rfl⟩) (va_recv hK hP (ci := 10) (q0 := 0) rfl rfl) hK hP hD hS hA hE rfl hl.1 rfl (Nat.le_of_ble_eq_true rfl) dX10_cell_46 ⟨Nat.zero_le _, Nat.zero_le _⟩ (fun rv_35 z_37 H locs hw_36 hP hD hS => ?_)
          obtain ⟨rfl, rfl⟩ := hw_36
          have hP : va_P D vwCl (xM cA r ((upd u 0 (nI 2)), a)) H := hP
          have hD : va_D A (xM cA r ((upd u 0 (nI 2)), a)) := hD
          exact wLret hx hb hr hlocks (v := (-9223372036854775808)) ((upd u 0 (nI 2)), a) (⟨by unfold aCell; rw [cif_pos ⟨b_3, b_7⟩, cif_pos ⟨c_9, c_22⟩], by unfold fCell; rw [cif_pos ⟨b_3, b_7⟩, cif_pos ⟨c_9, c_22⟩]; exact (MI.keep hI rfl htr rfl rfl rfl rfl rfl rfl rfl rfl rfl rfl rfl rfl rfl rfl rfl)⟩) hK hP hD hS dX10_cell_49
    · refine lv_if_ne (tgt := 23) hx hb dX10_cell_16 (by decide) (fun c_38 => absurd c_38 (by decide)) (fun _ => ?_)
      refine lv_ldc2 (v := (-9223372036854775808)) hx hb hown (hts (.constantLong RX10 84 (-9223372036854775808)) (by decide +kernel)) dX10_cell_19 ?_
      exact wLret hx hb hr hlocks (v := (-9223372036854775808)) ((upd u 0 (nI 0)), a) (⟨by unfold aCell; rw [cif_neg (fun q => b_7 q.2)], by unfold fCell; rw [cif_neg (fun q => b_7 q.2)]; exact (MI.keep hI rfl htr rfl rfl rfl rfl rfl rfl rfl rfl rfl rfl rfl rfl rfl rfl rfl)⟩) hK hP hD hS dX10_cell_22
  · refine lv_if_eq (tgt := 19) hx hb dX10_cell_9 (by decide) (fun _ => ?_) (fun c_39 => absurd c_39 (by decide))
    refine lv_ldc2 (v := (-9223372036854775808)) hx hb hown (hts (.constantLong RX10 84 (-9223372036854775808)) (by decide +kernel)) dX10_cell_19 ?_
    exact wLret hx hb hr hlocks (v := (-9223372036854775808)) ((upd u 0 (nI 0)), a) (⟨by unfold aCell; rw [cif_neg (fun q => b_3 q.1)], by unfold fCell; rw [cif_neg (fun q => b_3 q.1)]; exact (MI.keep hI rfl htr rfl rfl rfl rfl rfl rfl rfl rfl rfl rfl rfl rfl rfl rfl rfl)⟩) hK hP hD hS dX10_cell_22
