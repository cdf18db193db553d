theorem MT_gu3 {u : Nat → Int32} {a : Nat → Nat → Int32} {g : Nat → Nat} {T : Nat → Nat → Nat} {x : Nat} (h : MT u a g T) : MT u a (gu g 3 x) T := h
theorem ShI.keep {a a' : Nat → Nat → Int32} {so : Nat → Int32} {ln : Nat → Nat} {ce : Nat → Nat → Int32} (h : ShI a so ln ce) (a2 : a' 2 = a 2) (a3 : a' 3 = a 3) (a4 : a' 4 = a 4) : ShI a' so ln ce := by unfold ShI; rw [a2, a3, a4]; exact h
theorem b01 {b : Int32} (h : b = 0 ∨ b = 1) : b = nI b.toNatClampNeg ∧ b.toNatClampNeg ≤ 1 := by
  rcases h with rfl | rfl
  · show nI 0 = nI (nI 0).toNatClampNeg ∧ (nI 0).toNatClampNeg ≤ 1
    rw [nI_clamp (by decide)]; exact ⟨rfl, by omega⟩
  · show nI 1 = nI (nI 1).toNatClampNeg ∧ (nI 1).toNatClampNeg ≤ 1
    rw [nI_clamp (by decide)]; exact ⟨rfl, by omega⟩
theorem rd_push {u u' : Nat → Int32} {a a' : Nat → Nat → Int32} {g : Nat → Nat} {R : Nat → Nat → Nat} {x w b : Int32} (h : RdI u a g R) (h8 : g 3 < 8) (hx : x.toNatClampNeg < g 0) (hw : w.toNatClampNeg < 300) (hb : b = nI b.toNatClampNeg ∧ b.toNatClampNeg ≤ 1) (e30 : u' 30 = nI (g 3 + 1)) (e31 : a' 31 = upd (a 31) (g 3) (nI x.toNatClampNeg)) (e32 : a' 32 = upd (a 32) (g 3) (nI w.toNatClampNeg)) (e33 : a' 33 = upd (a 33) (g 3) b) : RdI u' a' (gu g 3 (g 3 + 1)) (fun f q => if q = g 3 then (if f = 0 then x.toNatClampNeg else if f = 1 then w.toNatClampNeg else b.toNatClampNeg) else R f q) := by
  obtain ⟨-, -, h1, h2, h3⟩ := h
  unfold RdI
  rw [e31, e32, e33]
  refine ⟨e30, show g 3 + 1 ≤ 8 by omega, ?_, ?_, ?_⟩
  · intro q hq
    have hq : q < g 3 + 1 := hq
    show upd (a 31) (g 3) (nI x.toNatClampNeg) q = nI (if q = g 3 then x.toNatClampNeg else R 0 q) ∧ (if q = g 3 then x.toNatClampNeg else R 0 q) < g 0
    by_cases e : q = g 3
    · rw [if_pos e, e, up_eq]; exact ⟨rfl, hx⟩
    · rw [if_neg e, up_ne e]; exact h1 q (by omega)
  · intro q hq
    have hq : q < g 3 + 1 := hq
    show upd (a 32) (g 3) (nI w.toNatClampNeg) q = nI (if q = g 3 then w.toNatClampNeg else R 1 q) ∧ (if q = g 3 then w.toNatClampNeg else R 1 q) < 300
    by_cases e : q = g 3
    · rw [if_pos e, e, up_eq]; exact ⟨rfl, hw⟩
    · rw [if_neg e, up_ne e]; exact h2 q (by omega)
  · intro q hq
    have hq : q < g 3 + 1 := hq
    show upd (a 33) (g 3) b q = nI (if q = g 3 then b.toNatClampNeg else R 2 q) ∧ (if q = g 3 then b.toNatClampNeg else R 2 q) ≤ 1
    by_cases e : q = g 3
    · rw [if_pos e, e, up_eq]; exact hb
    · rw [if_neg e, up_ne e]; exact h3 q (by omega)
set_option maxHeartbeats 4000000 in
set_option maxRecDepth 100000 in
theorem kX10_reading (l : Launch) (D : va_G) (cA : Nat → ClassId) (r : Nat → Nat) (sz : Nat) (u : Nat → Int32) (a : Nat → Nat → Int32) (g : Nat → Nat) (T : Nat → Nat → Nat) (R : Nat → Nat → Nat) (so : Nat → Int32) (ln : Nat → Nat) (ce : Nat → Nat → Int32) (f tr : Int32) (x w b : Int32) (hI : MI u a g T R so ln ce f tr) (hb01 : b = 0 ∨ b = 1) : Met l yX10_reading wsX10_reading ({ frames := 1, cells := 0, slots := 0, locals := 22 } : Room) (va_Pc [.ref (r 0), .int x, .int w, .int b] (wA D vwCl (tyA cA) e0 (xM cA r) (u, a) sz)) (va_Qi (fun (v : Int32) (z : sM) => v = aRead g x w ∧ MI z.1 z.2 (gRead g x w) T (rRead g R x w b) so ln ce f tr) (wB D vwCl (tyA cA) (xM cA r) (va_A (xM cA r (u, a)) sz)) (va_A (xM cA r (u, a)) sz)) 0 0 (va_A (xM cA r (u, a)) sz) := by
  refine Met.ofW (cc := cX10_reading) (maxL := 4) (ret := (some .int)) (by decide) rfl ?_
  intro p e s m args below meth c s₁ B hml hv
  obtain ⟨rfl, hsz, hP, hK, hD0, hE⟩ := hv
  have hx := B.exec
  have hb := B.bytes
  have hr := B.returns
  have hts := atoms_spec (ws := wsX10_reading) B.pre
  have hown : s.vm.findClass RX10 = some m.cls := findClass_of_methodNamed B.named
  have hlocks := B.notSynchronized
  subst hsz
  have hD := hD0.self (sz := s.heap.size)
  generalize hAe : va_A (xM cA r (u, a)) s.heap.size = A at hD hE ⊢
  have hA : ∀ q : Nat, s.heap.size ≤ q → A q := fun q h => by rw [← hAe]; exact Or.inr h
  have hS : va_S A s.heap s.heap [] := va_S.rf
  have hinX10 : ∀ w ∈ u_ws RX10 TX10 34, w ∈ wsX10_reading := by decide +kernel
  have hl := lv_entry ([.ref (r 0), .int x, .int w, .int b]) (n := 4) (Nat.le_of_ble_eq_true rfl)
  rw [lg_entry_eq]
  generalize (lg_sl ([.ref (r 0), .int x, .int w, .int b]) ++ List.replicate (4 - (lg_sl ([.ref (r 0), .int x, .int w, .int b])).length) Slot.unset).toArray = ls at hl ⊢
  have hl : lv_has ls 4 [(0, .ref (r 0)), (1, .int x), (2, .int w), (3, .int b)] := hl
  have hM := hI.1
  have hB := hI.2.1
  have hg6 := hB.1
  have hRd := hI.2.2.1
  have hSh := hI.2.2.2.1
  have hf0 := hI.2.2.2.2.1
  have htr := hI.2.2.2.2.2
  have hr8 := hRd.2.1
  have hb1 := b01 hb01
  refine lv_aload_n hx hb dX10_reading_0 rfl (lv_at hl 0 rfl) ?_
  refine lv_iload_n hx hb dX10_reading_1 rfl (lv_at hl 1 rfl) ?_
  refine wVi e0_S (As := [.int x]) (rest := []) ⟨hx, hb, hml, hown, hts⟩ (kX10_isThing l D cA r _ u a g T x hM hB) (cwV 1 hts gX10_reading_X10_isThing rfl rfl rfl (by decide +kernel) ⟨Nat.le_of_ble_eq_true rfl, Nat.le_of_ble_eq_true rfl⟩) (va_recv hK hP (ci := 10) (q0 := 0) rfl rfl) hK hP hD hS hA hE rfl hl.1 rfl (Nat.le_of_ble_eq_true rfl) dX10_reading_2 ⟨Nat.zero_le _, Nat.zero_le _⟩ (fun rv_1 z_3 H locs hw_2 hP hD hS => ?_)
  obtain ⟨hz_4, hw_2⟩ := hw_2
  subst hz_4
  have hP : va_P D vwCl (xM cA r (u, a)) H := hP
  have hD : va_D A (xM cA r (u, a)) := hD
  rcases hw_2 with ⟨rfl, b_5⟩ | ⟨rfl, b_5⟩
  · have hxt := isT_of b_5 hg6
    have hTx := hB.2.2.2 _ hxt.2
    have hl : lv_has ls 4 [(0, .ref (r 0)), (1, .int (nI (x.toNatClampNeg))), (2, .int w), (3, .int b)] := lv_re hl 1 ⟨rfl, rfl⟩ (hxt.1)
    refine lv_if_ne (tgt := 10) hx hb dX10_reading_5 (by decide) (fun _ => ?_) (fun c_6 => absurd c_6 (by decide))
    refine lv_iload_n hx hb dX10_reading_10 rfl (lv_at hl 2 rfl) ?_
    refine lv_iconst (v := (nI 0)) hx hb dX10_reading_11 rfl ?_
    refine lv_sipush (v := (nI 299)) hx hb dX10_reading_12 rfl ?_
    refine wSi (As := [.int w, .int (nI 0), .int (nI 299)]) (rest := []) ⟨hx, hb, hml, hown, hts⟩ (kX10_within l w (nI 0) (nI 299)) (va_cwS 3 hts gX10_reading_X10_within rfl rfl rfl (by decide +kernel) ⟨Nat.le_of_ble_eq_true rfl, Nat.le_of_ble_eq_true rfl⟩) rfl hl.1 rfl (Nat.le_of_ble_eq_true rfl) dX10_reading_15 ⟨Nat.zero_le _, Nat.zero_le _⟩ (fun rv_7 hw_8 => ?_)
    rcases hw_8 with ⟨rfl, b_9⟩ | ⟨rfl, b_9⟩
    · obtain ⟨j, hj1, hj2, hj3, hj4⟩ := inR_of (show inR w 0 299 from b_9) (by decide) (by decide)
      have hl : lv_has ls 4 [(0, .ref (r 0)), (1, .int (nI (x.toNatClampNeg))), (2, .int (nI (w.toNatClampNeg))), (3, .int b)] := lv_re hl 2 ⟨rfl, rfl⟩ (by rw [hj4]; exact hj1)
      refine lv_if_ne (tgt := 24) hx hb dX10_reading_18 (by decide) (fun _ => ?_) (fun c_10 => absurd c_10 (by decide))
      refine lv_aload_n hx hb dX10_reading_24 rfl (lv_at hl 0 rfl) ?_
      refine va_get (D := D) (ci := 10) (v := .int (nI (g 3))) (C := RX10) (T := TX10) (N := 34) hx hb hts hinX10 hown hK hP 0 rfl rfl 30 (by decide) (hts (.fieldLink RX10 126 "OneNailModel" "readings" "I") (by decide +kernel)) (fun _ h9 => h9) (congrArg (fun z => some (Value.int z)) (hRd.1)) dX10_reading_25 ?_
      refine lv_bipush (v := (nI 8)) hx hb dX10_reading_28 rfl ?_
      refine rn_ne (x := g 3) (y := 8) (tgt := 36) hx hb (by omega) (by omega) dX10_reading_30 (by decide) (fun c_11 => ?_) (fun c_11 => ?_)
      · refine lv_aload_n hx hb dX10_reading_36 rfl (lv_at hl 0 rfl) ?_
        refine va_get (D := D) (ci := 10) (v := .ref (r 31)) (C := RX10) (T := TX10) (N := 34) hx hb hts hinX10 hown hK hP 0 rfl rfl 31 (by decide) (hts (.fieldLink RX10 71 "OneNailModel" "readThing" "[I") (by decide +kernel)) (fun _ h9 => h9) rfl dX10_reading_37 ?_
        refine lv_aload_n hx hb dX10_reading_40 rfl (lv_at hl 0 rfl) ?_
        refine va_get (D := D) (ci := 10) (v := .int (nI (g 3))) (C := RX10) (T := TX10) (N := 34) hx hb hts hinX10 hown hK hP 0 rfl rfl 30 (by decide) (hts (.fieldLink RX10 126 "OneNailModel" "readings" "I") (by decide +kernel)) (fun _ h9 => h9) (congrArg (fun z => some (Value.int z)) (hRd.1)) dX10_reading_41 ?_
        refine lv_iload_n hx hb dX10_reading_44 rfl (lv_at hl 1 rfl) ?_
        refine ra_iast hx hb hK hP hD hS 21 0 (n := 8) (f := (a 31)) (j := g 3) (x := (nI (x.toNatClampNeg))) rfl rfl (by omega) (by decide) dX10_reading_45 (fun H locs hP hD hS => ?_)
        have hP : va_P D vwCl (xM cA r (u, (va_up a 31 (upd (a 31) (g 3) (nI (x.toNatClampNeg)))))) H := hP
        have hD : va_D A (xM cA r (u, (va_up a 31 (upd (a 31) (g 3) (nI (x.toNatClampNeg)))))) := hD
        obtain ⟨za12, hza12⟩ : ∃ z, z = (va_up a 31 (upd (a 31) (g 3) (nI (x.toNatClampNeg)))) := ⟨_, rfl⟩
        rw [← hza12] at hP hD
        have hfa_za12 : ∀ i, i ≠ 31 → za12 i = a i := fun i h31 => by rw [hza12]; exact vup_ne h31
        have hv31_za12 : za12 31 = (upd (a 31) (g 3) (nI (x.toNatClampNeg))) := by rw [hza12]; rfl
        have hP : va_P D vwCl (xM cA r (u, za12)) H := hP
        have hD : va_D A (xM cA r (u, za12)) := hD
        refine lv_aload_n hx hb dX10_reading_46 rfl (lv_at hl 0 rfl) ?_
        refine va_get (D := D) (ci := 10) (v := .ref (r 32)) (C := RX10) (T := TX10) (N := 34) hx hb hts hinX10 hown hK hP 0 rfl rfl 32 (by decide) (hts (.fieldLink RX10 74 "OneNailModel" "readMinute" "[I") (by decide +kernel)) (fun _ h9 => h9) rfl dX10_reading_47 ?_
        refine lv_aload_n hx hb dX10_reading_50 rfl (lv_at hl 0 rfl) ?_
        refine va_get (D := D) (ci := 10) (v := .int (nI (g 3))) (C := RX10) (T := TX10) (N := 34) hx hb hts hinX10 hown hK hP 0 rfl rfl 30 (by decide) (hts (.fieldLink RX10 126 "OneNailModel" "readings" "I") (by decide +kernel)) (fun _ h9 => h9) (congrArg (fun z => some (Value.int z)) (hRd.1)) dX10_reading_51 ?_
        refine lv_iload_n hx hb dX10_reading_54 rfl (lv_at hl 2 rfl) ?_
        refine ra_iast hx hb hK hP hD hS 22 0 (n := 8) (f := (za12 32)) (j := g 3) (x := (nI (w.toNatClampNeg))) rfl rfl (by omega) (by decide) dX10_reading_55 (fun H locs hP hD hS => ?_)
        have hP : va_P D vwCl (xM cA r (u, (va_up za12 32 (upd (za12 32) (g 3) (nI (w.toNatClampNeg)))))) H := hP
        have hD : va_D A (xM cA r (u, (va_up za12 32 (upd (za12 32) (g 3) (nI (w.toNatClampNeg)))))) := hD
        obtain ⟨za13, hza13⟩ : ∃ z, z = (va_up za12 32 (upd (za12 32) (g 3) (nI (w.toNatClampNeg)))) := ⟨_, rfl⟩
        rw [← hza13] at hP hD
        have hfa_za13 : ∀ i, i ≠ 32 → za13 i = za12 i := fun i h32 => by rw [hza13]; exact vup_ne h32
        have hv32_za13 : za13 32 = (upd (za12 32) (g 3) (nI (w.toNatClampNeg))) := by rw [hza13]; rfl
        have hP : va_P D vwCl (xM cA r (u, za13)) H := hP
        have hD : va_D A (xM cA r (u, za13)) := hD
        refine lv_aload_n hx hb dX10_reading_56 rfl (lv_at hl 0 rfl) ?_
        refine va_get (D := D) (ci := 10) (v := .ref (r 33)) (C := RX10) (T := TX10) (N := 34) hx hb hts hinX10 hown hK hP 0 rfl rfl 33 (by decide) (hts (.fieldLink RX10 77 "OneNailModel" "readUp" "[Z") (by decide +kernel)) (fun _ h9 => h9) rfl dX10_reading_57 ?_
        refine lv_aload_n hx hb dX10_reading_60 rfl (lv_at hl 0 rfl) ?_
        refine va_get (D := D) (ci := 10) (v := .int (nI (g 3))) (C := RX10) (T := TX10) (N := 34) hx hb hts hinX10 hown hK hP 0 rfl rfl 30 (by decide) (hts (.fieldLink RX10 126 "OneNailModel" "readings" "I") (by decide +kernel)) (fun _ h9 => h9) (congrArg (fun z => some (Value.int z)) (hRd.1)) dX10_reading_61 ?_
        refine lv_iload_n hx hb dX10_reading_64 rfl (lv_at hl 3 rfl) ?_
        refine ra_zast hx hb hK hP hD hS 23 1 (n := 8) (f := (za13 33)) (j := g 3) (x := b) rfl rfl (by first | exact Or.inl rfl | exact Or.inr rfl | assumption) (by omega) (by decide) dX10_reading_65 (fun H locs hP hD hS => ?_)
        have hP : va_P D vwCl (xM cA r (u, (va_up za13 33 (upd (za13 33) (g 3) b)))) H := hP
        have hD : va_D A (xM cA r (u, (va_up za13 33 (upd (za13 33) (g 3) b)))) := hD
        refine lv_aload_n hx hb dX10_reading_66 rfl (lv_at hl 0 rfl) ?_
        refine lv_dup hx hb dX10_reading_67 rfl ?_
        refine va_get (D := D) (ci := 10) (v := .int (nI (g 3))) (C := RX10) (T := TX10) (N := 34) hx hb hts hinX10 hown hK hP 0 rfl rfl 30 (by decide) (hts (.fieldLink RX10 126 "OneNailModel" "readings" "I") (by decide +kernel)) (fun _ h9 => h9) (congrArg (fun z => some (Value.int z)) (hRd.1)) dX10_reading_68 ?_
        refine lv_iconst (v := (nI 1)) hx hb dX10_reading_71 rfl ?_
        refine rn_iadd (x := g 3) (y := 1) hx hb dX10_reading_72 ?_
        refine va_put (D := D) (ci := 10) (v := .int (nI ((g 3) + 1))) (ty := .int) (C := RX10) (T := TX10) (N := 34) hx hb hts hinX10 tyX10 tyX10_ok nmX10 hown hK hP hD hS 0 rfl rfl 30 (by decide) (hts (.fieldLink RX10 126 "OneNailModel" "readings" "I") (by decide +kernel)) (fun _ h9 => h9) rfl (by decide +kernel) rfl rfl (Nat.le_of_ble_eq_true rfl) dX10_reading_73 (fun H locs hP hD hS => ?_)
        have hP : va_P D vwCl (xM cA r ((upd u 30 (nI ((g 3) + 1))), (va_up za13 33 (upd (za13 33) (g 3) b)))) H := hP
        have hD : va_D A (xM cA r ((upd u 30 (nI ((g 3) + 1))), (va_up za13 33 (upd (za13 33) (g 3) b)))) := hD
        refine lv_aload_n hx hb dX10_reading_76 rfl (lv_at hl 0 rfl) ?_
        refine va_get (D := D) (ci := 10) (v := .int (nI ((g 3) + 1))) (C := RX10) (T := TX10) (N := 34) hx hb hts hinX10 hown hK hP 0 rfl rfl 30 (by decide) (hts (.fieldLink RX10 126 "OneNailModel" "readings" "I") (by decide +kernel)) (fun _ h9 => h9) rfl dX10_reading_77 ?_
        refine lv_iconst (v := (nI 1)) hx hb dX10_reading_80 rfl ?_
        refine rn_isub (x := (g 3) + 1) (y := 1) hx hb (by omega) dX10_reading_81 ?_
        exact wIret hx hb hr hlocks (v := (nI (((g 3) + 1) - 1))) ((upd u 30 (nI ((g 3) + 1))), (va_up za13 33 (upd (za13 33) (g 3) b))) (⟨by unfold aRead; rw [cif_pos b_5, cif_pos b_9, cif_neg (by omega)]; exact congrArg nI (by omega), by unfold gRead rRead; rw [cif_pos b_5, cif_pos b_9, cif_neg (by omega), cif_pos b_5, cif_pos b_9, cif_neg (by omega)]; exact ⟨MT_gu3 (MT.keep hM rfl rfl rfl (Eq.trans (hfa_za13 8 (by decide)) (hfa_za12 8 (by decide))) (Eq.trans (hfa_za13 9 (by decide)) (hfa_za12 9 (by decide))) (Eq.trans (hfa_za13 10 (by decide)) (hfa_za12 10 (by decide))) (Eq.trans (hfa_za13 11 (by decide)) (hfa_za12 11 (by decide))) (Eq.trans (hfa_za13 12 (by decide)) (hfa_za12 12 (by decide)))), TB_gu3 hB, rd_push hRd (by omega) hxt.2 (by omega) hb1 rfl (Eq.trans (hfa_za13 31 (by decide)) hv31_za12) (Eq.trans hv32_za13 (by rw [hfa_za12 32 (by decide)])) (congrArg (fun z => upd z (g 3) b) (Eq.trans (hfa_za13 33 (by decide)) (hfa_za12 33 (by decide)))), ShI.keep hSh (Eq.trans (hfa_za13 2 (by decide)) (hfa_za12 2 (by decide))) (Eq.trans (hfa_za13 3 (by decide)) (hfa_za12 3 (by decide))) (Eq.trans (hfa_za13 4 (by decide)) (hfa_za12 4 (by decide))), hf0, htr⟩⟩) hK hP hD hS dX10_reading_82
      · refine lv_bipush (v := (-4)) hx hb dX10_reading_33 (by decide) ?_
        exact wIret hx hb hr hlocks (v := (-4)) (u, a) (⟨by unfold aRead; rw [cif_pos b_5, cif_pos b_9, cif_pos (by omega)], by unfold gRead rRead; rw [cif_pos b_5, cif_pos b_9, cif_pos (by omega), cif_pos b_5, cif_pos b_9, cif_pos (by omega)]; exact hI⟩) hK hP hD hS dX10_reading_35
    · refine lv_if_ne (tgt := 24) hx hb dX10_reading_18 (by decide) (fun c_14 => absurd c_14 (by decide)) (fun _ => ?_)
      refine lv_bipush (v := (-2)) hx hb dX10_reading_21 (by decide) ?_
      exact wIret hx hb hr hlocks (v := (-2)) (u, a) (⟨by unfold aRead; rw [cif_pos b_5, cif_neg b_9], by unfold gRead rRead; rw [cif_pos b_5, cif_neg b_9, cif_pos b_5, cif_neg b_9]; exact hI⟩) hK hP hD hS dX10_reading_23
  · refine lv_if_ne (tgt := 10) hx hb dX10_reading_5 (by decide) (fun c_15 => absurd c_15 (by decide)) (fun _ => ?_)
    refine lv_iconst (v := (-1)) hx hb dX10_reading_8 (by decide) ?_
    exact wIret hx hb hr hlocks (v := (-1)) (u, a) (⟨by unfold aRead; rw [cif_neg b_5], by unfold gRead rRead; rw [cif_neg b_5, cif_neg b_5]; exact hI⟩) hK hP hD hS dX10_reading_9
