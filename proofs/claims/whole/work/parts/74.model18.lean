set_option maxHeartbeats 4000000 in
set_option maxRecDepth 100000 in
theorem kX10_readStreet (l : Launch) (D : va_G) (cA : Nat → ClassId) (r : Nat → Nat) (sz : Nat) (u : Nat → Int32) (a : Nat → Nat → Int32) (b n : Nat) (cd : Nat → Int32) (hbn : b + n ≤ 240) (hcd : ∀ q, q < n → a 4 (b + q) = cd q) (hat : u 13 = nI b) : Met l yX10_readStreet wsX10_readStreet ({ frames := 3, cells := 0, slots := 0, locals := 69 } : Room) (va_Pc [.ref (r 0), .int (nI (b + n))] (wA D vwCl (tyA cA) e0 (xM cA r) (u, a) sz)) (va_Qi (fun (v : Int32) (z : sM) => (v = nI 1 ∧ PASS cd n ∧ z.1 14 = nI (vl (cd 1)) ∧ z.1 15 = nI ((n - 2) / 7) ∧ (∀ y9, y9 < (n - 2) / 7 → z.2 16 y9 = nI (TP cd 0 y9) ∧ z.2 17 y9 = nI (TP cd 1 y9) ∧ z.2 18 y9 = nI (TP cd 2 y9) ∧ z.2 19 y9 = nI (TP cd 3 y9) ∧ z.2 20 y9 = nI (TP cd 4 y9)) ∧ (∀ i, i ≠ 13 → i ≠ 14 → i ≠ 15 → z.1 i = u i) ∧ (∀ i, i ≠ 16 → i ≠ 17 → i ≠ 18 → i ≠ 19 → i ≠ 20 → z.2 i = a i)) ∨ (v = nI 0 ∧ (∃ F, FR cd n F ∧ z.1 13 = nI (b + F)) ∧ (∀ i, i ≠ 13 → i ≠ 14 → i ≠ 15 → z.1 i = u i) ∧ (∀ i, i ≠ 16 → i ≠ 17 → i ≠ 18 → i ≠ 19 → i ≠ 20 → z.2 i = a i))) (wB D vwCl (tyA cA) (xM cA r) (va_A (xM cA r (u, a)) sz)) (va_A (xM cA r (u, a)) sz)) 0 0 (va_A (xM cA r (u, a)) sz) := by
  refine Met.ofW (cc := cX10_readStreet) (maxL := 2) (ret := (some .boolean)) (by decide) rfl ?_
  intro p e s m args below meth c s₁ B hml hv
  obtain ⟨rfl, hsz, hP, hK, hD0, hE⟩ := hv
  have hx := B.exec
  have hb := B.bytes
  have hr := B.returns
  have hts := atoms_spec (ws := wsX10_readStreet) B.pre
  have hown : s.vm.findClass RX10 = some m.cls := findClass_of_methodNamed B.named
  have hlocks := B.notSynchronized
  subst hsz
  have hD := hD0.self (sz := s.heap.size)
  generalize hAe : va_A (xM cA r (u, a)) s.heap.size = A at hD hE ⊢
  have hA : ∀ q : Nat, s.heap.size ≤ q → A q := fun q h => by rw [← hAe]; exact Or.inr h
  have hS : va_S A s.heap s.heap [] := va_S.rf
  have hinX10 : ∀ w ∈ u_ws RX10 TX10 34, w ∈ wsX10_readStreet := by decide +kernel
  have hl := lv_entry ([.ref (r 0), .int (nI (b + n))]) (n := 2) (Nat.le_of_ble_eq_true rfl)
  rw [lg_entry_eq]
  generalize (lg_sl ([.ref (r 0), .int (nI (b + n))]) ++ List.replicate (2 - (lg_sl ([.ref (r 0), .int (nI (b + n))])).length) Slot.unset).toArray = ls at hl ⊢
  have hl : lv_has ls 2 [(0, .ref (r 0)), (1, .int (nI (b + n)))] := hl
  refine lv_aload_n hx hb dX10_readStreet_0 rfl (lv_at hl 0 rfl) ?_
  refine va_get (D := D) (ci := 10) (v := .int (nI b)) (C := RX10) (T := TX10) (N := 34) hx hb hts hinX10 hown hK hP 0 rfl rfl 13 (by decide) (hts (.fieldLink RX10 93 "OneNailModel" "at" "I") (by decide +kernel)) (fun _ h9 => h9) (congrArg (fun z => some (Value.int z)) (hat)) dX10_readStreet_1 ?_
  refine lv_iload_n hx hb dX10_readStreet_4 rfl (lv_at hl 1 rfl) ?_
  refine rn_ge (x := b) (y := b + n) (tgt := 22) hx hb (by omega) (by omega) dX10_readStreet_5 (by decide) (fun c_1 => ?_) (fun c_1 => ?_)
  · refine lv_iconst (v := (nI 0)) hx hb dX10_readStreet_22 rfl ?_
    exact wZret hx hb hr hlocks (v := (nI 0)) (by first | exact Or.inl rfl | exact Or.inr rfl) (u, a) (Or.inr ⟨rfl, ⟨0, FR_at (Nat.zero_le _) (fun j hj => absurd hj (Nat.not_lt_zero j)) (fun h => by omega) (fun e => whole_no e (Or.inl rfl)), hat⟩, (fun i h13 h14 h15 => rfl), (fun i h16 h17 h18 h19 h20 => rfl)⟩) hK hP hD hS dX10_readStreet_23
  · refine lv_aload_n hx hb dX10_readStreet_8 rfl (lv_at hl 0 rfl) ?_
    refine va_get (D := D) (ci := 10) (v := .ref (r 4)) (C := RX10) (T := TX10) (N := 34) hx hb hts hinX10 hown hK hP 0 rfl rfl 4 (by decide) (hts (.fieldLink RX10 16 "OneNailModel" "cells" "[I") (by decide +kernel)) (fun _ h9 => h9) rfl dX10_readStreet_9 ?_
    refine lv_aload_n hx hb dX10_readStreet_12 rfl (lv_at hl 0 rfl) ?_
    refine va_get (D := D) (ci := 10) (v := .int (nI b)) (C := RX10) (T := TX10) (N := 34) hx hb hts hinX10 hown hK hP 0 rfl rfl 13 (by decide) (hts (.fieldLink RX10 93 "OneNailModel" "at" "I") (by decide +kernel)) (fun _ h9 => h9) (congrArg (fun z => some (Value.int z)) (hat)) dX10_readStreet_13 ?_
    refine ra_iald hx hb hK hP 3 0 (n := 240) (f := (a 4)) (j := b) (v := (cd 0)) rfl rfl (by omega) (by decide) (hcd 0 (by omega)) dX10_readStreet_16 ?_
    refine lv_bipush (v := (nI 115)) hx hb dX10_readStreet_17 rfl ?_
    refine lv_icmp_eq (tgt := 24) hx hb dX10_readStreet_19 (by decide) (fun c_2 => ?_) (fun c_2 => ?_)
    · have hG1 : ∀ j, j < 1 → Gd cd j := fun j hj => by rw [show j = 0 by omega]; exact ⟨GO_0.mpr c_2, Zr_no (Or.inl (by decide))⟩
      refine lv_aload_n hx hb dX10_readStreet_24 rfl (lv_at hl 0 rfl) ?_
      refine lv_dup hx hb dX10_readStreet_25 rfl ?_
      refine va_get (D := D) (ci := 10) (v := .int (nI b)) (C := RX10) (T := TX10) (N := 34) hx hb hts hinX10 hown hK hP 0 rfl rfl 13 (by decide) (hts (.fieldLink RX10 93 "OneNailModel" "at" "I") (by decide +kernel)) (fun _ h9 => h9) (congrArg (fun z => some (Value.int z)) (hat)) dX10_readStreet_26 ?_
      refine lv_iconst (v := (nI 1)) hx hb dX10_readStreet_29 rfl ?_
      refine rn_iadd (x := b) (y := 1) hx hb dX10_readStreet_30 ?_
      refine va_put (D := D) (ci := 10) (v := .int (nI (b + 1))) (ty := .int) (C := RX10) (T := TX10) (N := 34) hx hb hts hinX10 tyX10 tyX10_ok nmX10 hown hK hP hD hS 0 rfl rfl 13 (by decide) (hts (.fieldLink RX10 93 "OneNailModel" "at" "I") (by decide +kernel)) (fun _ h9 => h9) rfl (by decide +kernel) rfl rfl (Nat.le_of_ble_eq_true rfl) dX10_readStreet_31 (fun H locs hP hD hS => ?_)
      have hP : va_P D vwCl (xM cA r ((upd u 13 (nI (b + 1))), a)) H := hP
      have hD : va_D A (xM cA r ((upd u 13 (nI (b + 1))), a)) := hD
      refine lv_aload_n hx hb dX10_readStreet_34 rfl (lv_at hl 0 rfl) ?_
      refine lv_aload_n hx hb dX10_readStreet_35 rfl (lv_at hl 0 rfl) ?_
      refine lv_iload_n hx hb dX10_readStreet_36 rfl (lv_at hl 1 rfl) ?_
      refine lv_iconst (v := (nI 0)) hx hb dX10_readStreet_37 rfl ?_
      refine wVi e0_S (As := [.int (nI (b + n)), .int (nI 0)]) (rest := [.ref (r 0)]) ⟨hx, hb, hml, hown, hts⟩ (kX10_digit l D cA r _ (upd u 13 (nI (b + 1))) a b n cd (1) 0 hbn (fun q hq => (congrFun rfl (b + q)).trans (hcd q hq)) (by omega) (by omega) (show (nI (b + 1)) = nI (b + (1)) from congrArg nI (by omega))) (cwV 2 hts gX10_readStreet_X10_digit rfl rfl rfl (by decide +kernel) ⟨Nat.le_of_ble_eq_true rfl, Nat.le_of_ble_eq_true rfl⟩) (va_recv hK hP (ci := 10) (q0 := 0) rfl rfl) hK hP hD hS hA hE rfl hl.1 rfl (Nat.le_of_ble_eq_true rfl) dX10_readStreet_38 ⟨Nat.zero_le _, Nat.zero_le _⟩ (fun rv_3 z_5 H locs hw_4 hP hD hS => ?_)
      rcases hw_4 with ⟨d6, rfl, hpn_d6, hcdp_d6, hld_d6, hd9_d6, rfl⟩ | ⟨rfl, hno_d6, rfl⟩
      · have hP : va_P D vwCl (xM cA r ((upd u 13 (nI (b + (1) + 1))), a)) H := hP
        have hD : va_D A (xM cA r ((upd u 13 (nI (b + (1) + 1))), a)) := hD
        have hG2 : ∀ j, j < 2 → Gd cd j := Gd_ext hG1 ⟨GO_1.mpr ⟨d6, hld_d6, hd9_d6, hcdp_d6⟩, Zr_no (Or.inl (by decide))⟩ rfl
        refine va_put (D := D) (ci := 10) (v := .int (nI d6)) (ty := .int) (C := RX10) (T := TX10) (N := 34) hx hb hts hinX10 tyX10 tyX10_ok nmX10 hown hK hP hD hS 0 rfl rfl 14 (by decide) (hts (.fieldLink RX10 114 "OneNailModel" "readHome" "I") (by decide +kernel)) (fun _ h9 => h9) rfl (by decide +kernel) rfl rfl (Nat.le_of_ble_eq_true rfl) dX10_readStreet_41 (fun H locs hP hD hS => ?_)
        have hP : va_P D vwCl (xM cA r ((upd (upd u 13 (nI (b + (1) + 1))) 14 (nI d6)), a)) H := hP
        have hD : va_D A (xM cA r ((upd (upd u 13 (nI (b + (1) + 1))) 14 (nI d6)), a)) := hD
        refine lv_aload_n hx hb dX10_readStreet_44 rfl (lv_at hl 0 rfl) ?_
        refine va_get (D := D) (ci := 10) (v := .int (nI d6)) (C := RX10) (T := TX10) (N := 34) hx hb hts hinX10 hown hK hP 0 rfl rfl 14 (by decide) (hts (.fieldLink RX10 114 "OneNailModel" "readHome" "I") (by decide +kernel)) (fun _ h9 => h9) rfl dX10_readStreet_45 ?_
        refine lv_bipush (v := (-9)) hx hb dX10_readStreet_48 (by decide) ?_
        refine lv_icmp_ne (tgt := 55) hx hb dX10_readStreet_50 (by decide) (fun c_7 => ?_) (fun c_7 => absurd c_7 (nI_ne9 (by omega)))
        refine lv_aload_n hx hb dX10_readStreet_55 rfl (lv_at hl 0 rfl) ?_
        refine lv_iconst (v := (nI 0)) hx hb dX10_readStreet_56 rfl ?_
        refine va_put (D := D) (ci := 10) (v := .int (nI 0)) (ty := .int) (C := RX10) (T := TX10) (N := 34) hx hb hts hinX10 tyX10 tyX10_ok nmX10 hown hK hP hD hS 0 rfl rfl 15 (by decide) (hts (.fieldLink RX10 120 "OneNailModel" "readThings" "I") (by decide +kernel)) (fun _ h9 => h9) rfl (by decide +kernel) rfl rfl (Nat.le_of_ble_eq_true rfl) dX10_readStreet_57 (fun H locs hP hD hS => ?_)
        have hP : va_P D vwCl (xM cA r ((upd (upd (upd u 13 (nI (b + (1) + 1))) 14 (nI d6)) 15 (nI 0)), a)) H := hP
        have hD : va_D A (xM cA r ((upd (upd (upd u 13 (nI (b + (1) + 1))) 14 (nI d6)) 15 (nI 0)), a)) := hD
        refine wLoop (τ := Nat × (Nat → Int32) × (Nat → Nat → Int32)) (fun z H locs ls => (fun (x : Nat) (u1060 : (Nat → Int32)) (a1060 : (Nat → Nat → Int32)) => (x ≤ 6) ∧ (2 + 7 * x ≤ n) ∧ (∀ j9, j9 < 2 + 7 * x → Gd cd j9) ∧ (u1060 13 = nI (b + (2 + 7 * x))) ∧ (u1060 14 = nI (vl (cd 1))) ∧ (u1060 15 = nI x) ∧ (∀ y9, y9 < x → a1060 16 y9 = nI (TP cd 0 y9) ∧ a1060 17 y9 = nI (TP cd 1 y9) ∧ a1060 18 y9 = nI (TP cd 2 y9) ∧ a1060 19 y9 = nI (TP cd 3 y9) ∧ a1060 20 y9 = nI (TP cd 4 y9)) ∧ (∀ i : Nat, i ≠ 13 → i ≠ 14 → i ≠ 15 → u1060 i = u i) ∧ (∀ i : Nat, i ≠ 16 → i ≠ 17 → i ≠ 18 → i ≠ 19 → i ≠ 20 → a1060 i = a i) ∧ (va_P D vwCl (xM cA r (u1060, a1060)) H) ∧ (va_D A (xM cA r (u1060, a1060))) ∧ (va_S A s.heap H locs) ∧ (lv_has ls 2 [(0, .ref (r 0)), (1, .int (nI (b + n)))])) z.1 z.2.1 z.2.2) (fun z => (fun (x : Nat) (u1060 : (Nat → Int32)) (a1060 : (Nat → Nat → Int32)) => 7 - x) z.1 z.2.1 z.2.2) (0, (upd (upd (upd u 13 (nI (b + (1) + 1))) 14 (nI d6)) 15 (nI 0)), a) ⟨(show 0 ≤ 6 from Nat.zero_le _), (show 2 + 7 * 0 ≤ n from by omega), (show ∀ j9, j9 < 2 + 7 * 0 → Gd cd j9 from hG2), (show (upd (upd (upd u 13 (nI (b + (1) + 1))) 14 (nI d6)) 15 (nI 0)) 13 = nI (b + (2 + 7 * 0)) from (show (nI (b + (1) + 1)) = nI (b + (2 + 7 * 0)) from congrArg nI (by omega))), (show (upd (upd (upd u 13 (nI (b + (1) + 1))) 14 (nI d6)) 15 (nI 0)) 14 = nI (vl (cd 1)) from (show (nI d6) = nI (vl (cd 1)) from congrArg nI (vl_eq hcdp_d6 hd9_d6).symm)), (show (upd (upd (upd u 13 (nI (b + (1) + 1))) 14 (nI d6)) 15 (nI 0)) 15 = nI 0 from rfl), (show ∀ y9, y9 < 0 → a 16 y9 = nI (TP cd 0 y9) ∧ a 17 y9 = nI (TP cd 1 y9) ∧ a 18 y9 = nI (TP cd 2 y9) ∧ a 19 y9 = nI (TP cd 3 y9) ∧ a 20 y9 = nI (TP cd 4 y9) from (fun y h => absurd h (Nat.not_lt_zero y))), (fun i h13 h14 h15 => Eq.trans (up_ne h15) (Eq.trans (up_ne h14) (up_ne h13))), (fun i h16 h17 h18 h19 h20 => rfl), hP, hD, hS, lv_sub hl [0, 1] rfl⟩ ?_
        rintro ⟨x, u1060, a1060⟩ H locs ls ⟨hxA, h2, hG, hu13, hu14, hu15, hT, hfu60, hfa60, hP, hD, hS, hl⟩ ih60
        have hxA : x ≤ 6 := hxA
        have h2 : 2 + 7 * x ≤ n := h2
        have hG : ∀ j9, j9 < 2 + 7 * x → Gd cd j9 := hG
        have hu13 : u1060 13 = nI (b + (2 + 7 * x)) := hu13
        have hu14 : u1060 14 = nI (vl (cd 1)) := hu14
        have hu15 : u1060 15 = nI x := hu15
        have hT : ∀ y9, y9 < x → a1060 16 y9 = nI (TP cd 0 y9) ∧ a1060 17 y9 = nI (TP cd 1 y9) ∧ a1060 18 y9 = nI (TP cd 2 y9) ∧ a1060 19 y9 = nI (TP cd 3 y9) ∧ a1060 20 y9 = nI (TP cd 4 y9) := hT
        have hfu60 : ∀ i : Nat, i ≠ 13 → i ≠ 14 → i ≠ 15 → u1060 i = u i := hfu60
        have hfa60 : ∀ i : Nat, i ≠ 16 → i ≠ 17 → i ≠ 18 → i ≠ 19 → i ≠ 20 → a1060 i = a i := hfa60
        have hP : va_P D vwCl (xM cA r (u1060, a1060)) H := hP
        have hD : va_D A (xM cA r (u1060, a1060)) := hD
        have hl : lv_has ls 2 [(0, .ref (r 0)), (1, .int (nI (b + n)))] := hl
        refine lv_aload_n hx hb dX10_readStreet_60 rfl (lv_at hl 0 rfl) ?_
        refine va_get (D := D) (ci := 10) (v := .int (nI x)) (C := RX10) (T := TX10) (N := 34) hx hb hts hinX10 hown hK hP 0 rfl rfl 15 (by decide) (hts (.fieldLink RX10 120 "OneNailModel" "readThings" "I") (by decide +kernel)) (fun _ h9 => h9) (congrArg (fun z => some (Value.int z)) (hu15)) dX10_readStreet_61 ?_
        refine rz_eq (x := x) (tgt := 75) hx hb (by omega) dX10_readStreet_64 (by decide) (fun c_8 => ?_) (fun c_8 => ?_)
        · refine lv_aload_n hx hb dX10_readStreet_75 rfl (lv_at hl 0 rfl) ?_
          refine va_get (D := D) (ci := 10) (v := .int (nI x)) (C := RX10) (T := TX10) (N := 34) hx hb hts hinX10 hown hK hP 0 rfl rfl 15 (by decide) (hts (.fieldLink RX10 120 "OneNailModel" "readThings" "I") (by decide +kernel)) (fun _ h9 => h9) (congrArg (fun z => some (Value.int z)) (hu15)) dX10_readStreet_76 ?_
          refine lv_bipush (v := (nI 6)) hx hb dX10_readStreet_79 rfl ?_
          refine rn_eq (x := x) (y := 6) (tgt := 106) hx hb (by omega) (by omega) dX10_readStreet_81 (by decide) (fun c_9 => ?_) (fun c_9 => ?_)
          · refine lv_iconst (v := (nI 0)) hx hb dX10_readStreet_106 rfl ?_
            exact wZret hx hb hr hlocks (v := (nI 0)) (by first | exact Or.inl rfl | exact Or.inr rfl) (u1060, a1060) (Or.inr ⟨rfl, ⟨2 + 7 * x, FR_at h2 hG (fun h q => by have := ((GO_s rfl).mp q).2; omega) (fun e w => by omega), hu13⟩, (fun i h13 h14 h15 => hfu60 i h13 h14 h15), (fun i h16 h17 h18 h19 h20 => hfa60 i h16 h17 h18 h19 h20)⟩) hK hP hD hS dX10_readStreet_107
          · refine lv_aload_n hx hb dX10_readStreet_84 rfl (lv_at hl 0 rfl) ?_
            refine va_get (D := D) (ci := 10) (v := .int (nI (b + (2 + 7 * x)))) (C := RX10) (T := TX10) (N := 34) hx hb hts hinX10 hown hK hP 0 rfl rfl 13 (by decide) (hts (.fieldLink RX10 93 "OneNailModel" "at" "I") (by decide +kernel)) (fun _ h9 => h9) (congrArg (fun z => some (Value.int z)) (hu13)) dX10_readStreet_85 ?_
            refine lv_iload_n hx hb dX10_readStreet_88 rfl (lv_at hl 1 rfl) ?_
            refine rn_ge (x := b + (2 + 7 * x)) (y := b + n) (tgt := 106) hx hb (by omega) (by omega) dX10_readStreet_89 (by decide) (fun c_10 => ?_) (fun c_10 => ?_)
            · refine lv_iconst (v := (nI 0)) hx hb dX10_readStreet_106 rfl ?_
              exact wZret hx hb hr hlocks (v := (nI 0)) (by first | exact Or.inl rfl | exact Or.inr rfl) (u1060, a1060) (Or.inr ⟨rfl, ⟨2 + 7 * x, FR_at h2 hG (fun h => by omega) (fun e w => by omega), hu13⟩, (fun i h13 h14 h15 => hfu60 i h13 h14 h15), (fun i h16 h17 h18 h19 h20 => hfa60 i h16 h17 h18 h19 h20)⟩) hK hP hD hS dX10_readStreet_107
            · refine lv_aload_n hx hb dX10_readStreet_92 rfl (lv_at hl 0 rfl) ?_
              refine va_get (D := D) (ci := 10) (v := .ref (r 4)) (C := RX10) (T := TX10) (N := 34) hx hb hts hinX10 hown hK hP 0 rfl rfl 4 (by decide) (hts (.fieldLink RX10 16 "OneNailModel" "cells" "[I") (by decide +kernel)) (fun _ h9 => h9) rfl dX10_readStreet_93 ?_
              refine lv_aload_n hx hb dX10_readStreet_96 rfl (lv_at hl 0 rfl) ?_
              refine va_get (D := D) (ci := 10) (v := .int (nI (b + (2 + 7 * x)))) (C := RX10) (T := TX10) (N := 34) hx hb hts hinX10 hown hK hP 0 rfl rfl 13 (by decide) (hts (.fieldLink RX10 93 "OneNailModel" "at" "I") (by decide +kernel)) (fun _ h9 => h9) (congrArg (fun z => some (Value.int z)) (hu13)) dX10_readStreet_97 ?_
              refine ra_iald hx hb hK hP 3 0 (n := 240) (f := (a1060 4)) (j := b + (2 + 7 * x)) (v := (cd (2 + 7 * x))) rfl rfl (by omega) (by decide) ((congrFun (hfa60 4 (by decide) (by decide) (by decide) (by decide) (by decide)) _).trans (hcd (2 + 7 * x) (by omega))) dX10_readStreet_100 ?_
              refine lv_bipush (v := (nI 59)) hx hb dX10_readStreet_101 rfl ?_
              refine lv_icmp_eq (tgt := 108) hx hb dX10_readStreet_103 (by decide) (fun c_11 => ?_) (fun c_11 => ?_)
              · refine lv_aload_n hx hb dX10_readStreet_108 rfl (lv_at hl 0 rfl) ?_
                refine lv_dup hx hb dX10_readStreet_109 rfl ?_
                refine va_get (D := D) (ci := 10) (v := .int (nI (b + (2 + 7 * x)))) (C := RX10) (T := TX10) (N := 34) hx hb hts hinX10 hown hK hP 0 rfl rfl 13 (by decide) (hts (.fieldLink RX10 93 "OneNailModel" "at" "I") (by decide +kernel)) (fun _ h9 => h9) (congrArg (fun z => some (Value.int z)) (hu13)) dX10_readStreet_110 ?_
                refine lv_iconst (v := (nI 1)) hx hb dX10_readStreet_113 rfl ?_
                refine rn_iadd (x := b + (2 + 7 * x)) (y := 1) hx hb dX10_readStreet_114 ?_
                refine va_put (D := D) (ci := 10) (v := .int (nI ((b + (2 + 7 * x)) + 1))) (ty := .int) (C := RX10) (T := TX10) (N := 34) hx hb hts hinX10 tyX10 tyX10_ok nmX10 hown hK hP hD hS 0 rfl rfl 13 (by decide) (hts (.fieldLink RX10 93 "OneNailModel" "at" "I") (by decide +kernel)) (fun _ h9 => h9) rfl (by decide +kernel) rfl rfl (Nat.le_of_ble_eq_true rfl) dX10_readStreet_115 (fun H locs hP hD hS => ?_)
                have hP : va_P D vwCl (xM cA r ((upd u1060 13 (nI ((b + (2 + 7 * x)) + 1))), a1060)) H := hP
                have hD : va_D A (xM cA r ((upd u1060 13 (nI ((b + (2 + 7 * x)) + 1))), a1060)) := hD
                have hG3 : ∀ j, j < 3 + 7 * x → Gd cd j := Gd_ext hG ⟨(GO_s rfl).mpr ⟨c_11, by omega⟩, Zr_no (by omega)⟩ (by omega)
                refine lv_aload_n hx hb dX10_readStreet_118 rfl (lv_at hl 0 rfl) ?_
                refine lv_iload_n hx hb dX10_readStreet_119 rfl (lv_at hl 1 rfl) ?_
                refine lv_aload_n hx hb dX10_readStreet_120 rfl (lv_at hl 0 rfl) ?_
                refine va_get (D := D) (ci := 10) (v := .int (nI x)) (C := RX10) (T := TX10) (N := 34) hx hb hts hinX10 hown hK hP 0 rfl rfl 15 (by decide) (hts (.fieldLink RX10 120 "OneNailModel" "readThings" "I") (by decide +kernel)) (fun _ h9 => h9) (congrArg (fun z => some (Value.int z)) (hu15)) dX10_readStreet_121 ?_
                refine wVi e0_S (As := [.int (nI (b + n)), .int (nI x)]) (rest := []) ⟨hx, hb, hml, hown, hts⟩ (kX10_readThing l D cA r _ (upd u1060 13 (nI ((b + (2 + 7 * x)) + 1))) a1060 b n cd x hbn (fun q hq => (congrFun (hfa60 4 (by decide) (by decide) (by decide) (by decide) (by decide)) (b + q)).trans (hcd q hq)) (by omega) (by omega) hG3 (show (nI ((b + (2 + 7 * x)) + 1)) = nI (b + (3 + 7 * x)) from congrArg nI (by omega))) (cwV 2 hts gX10_readStreet_X10_readThing rfl rfl rfl (by decide +kernel) ⟨Nat.le_of_ble_eq_true rfl, Nat.le_of_ble_eq_true rfl⟩) (va_recv hK hP (ci := 10) (q0 := 0) rfl rfl) hK hP hD hS hA hE rfl hl.1 rfl (Nat.le_of_ble_eq_true rfl) dX10_readStreet_124 ⟨Nat.zero_le _, Nat.zero_le _⟩ (fun rv_12 z_14 H locs hw_13 hP hD hS => ?_)
                obtain ⟨zu15, za16⟩ := z_14
                rcases hw_13 with ⟨rfl, hn9, hG9, h13_zu15, hfu_zu15, h16, h17, h18, h19, h20, hfa_zu15⟩ | ⟨rfl, ⟨F, hF, h13_zu15⟩, hfu_zu15, hfa_zu15⟩
                · have h16 : za16 16 = upd (a1060 16) x (nI (TP cd 0 x)) := h16
                  have h17 : za16 17 = upd (a1060 17) x (nI (TP cd 1 x)) := h17
                  have h18 : za16 18 = upd (a1060 18) x (nI (TP cd 2 x)) := h18
                  have h19 : za16 19 = upd (a1060 19) x (nI (TP cd 3 x)) := h19
                  have h20 : za16 20 = upd (a1060 20) x (nI (TP cd 4 x)) := h20
                  have h13_zu15 : zu15 13 = nI (b + (9 + 7 * x)) := h13_zu15
                  have hfu_zu15 : ∀ i, i ≠ 13 → zu15 i = u1060 i := fun i h => Eq.trans (hfu_zu15 i h) (up_ne h)
                  have hfa_zu15 : ∀ i, i ≠ 16 → i ≠ 17 → i ≠ 18 → i ≠ 19 → i ≠ 20 → za16 i = a1060 i := hfa_zu15
                  have hP : va_P D vwCl (xM cA r (zu15, za16)) H := hP
                  have hD : va_D A (xM cA r (zu15, za16)) := hD
                  refine lv_if_ne (tgt := 132) hx hb dX10_readStreet_127 (by decide) (fun _ => ?_) (fun c_17 => absurd c_17 (by decide))
                  refine lv_aload_n hx hb dX10_readStreet_132 rfl (lv_at hl 0 rfl) ?_
                  refine lv_dup hx hb dX10_readStreet_133 rfl ?_
                  refine va_get (D := D) (ci := 10) (v := .int (nI x)) (C := RX10) (T := TX10) (N := 34) hx hb hts hinX10 hown hK hP 0 rfl rfl 15 (by decide) (hts (.fieldLink RX10 120 "OneNailModel" "readThings" "I") (by decide +kernel)) (fun _ h9 => h9) (congrArg (fun z => some (Value.int z)) ((hfu_zu15 15 (by decide)).trans (hu15))) dX10_readStreet_134 ?_
                  refine lv_iconst (v := (nI 1)) hx hb dX10_readStreet_137 rfl ?_
                  refine rn_iadd (x := x) (y := 1) hx hb dX10_readStreet_138 ?_
                  refine va_put (D := D) (ci := 10) (v := .int (nI (x + 1))) (ty := .int) (C := RX10) (T := TX10) (N := 34) hx hb hts hinX10 tyX10 tyX10_ok nmX10 hown hK hP hD hS 0 rfl rfl 15 (by decide) (hts (.fieldLink RX10 120 "OneNailModel" "readThings" "I") (by decide +kernel)) (fun _ h9 => h9) rfl (by decide +kernel) rfl rfl (Nat.le_of_ble_eq_true rfl) dX10_readStreet_139 (fun H locs hP hD hS => ?_)
                  have hP : va_P D vwCl (xM cA r ((upd zu15 15 (nI (x + 1))), za16)) H := hP
                  have hD : va_D A (xM cA r ((upd zu15 15 (nI (x + 1))), za16)) := hD
                  refine lv_goto (tgt := 60) hx hb dX10_readStreet_142 (by decide) ?_
                  exact ih60 ((x + 1), (upd zu15 15 (nI (x + 1))), za16) _ _ _ (show 7 - (x + 1) < 7 - x from by omega) ⟨(show (x + 1) ≤ 6 from by omega), (show 2 + 7 * (x + 1) ≤ n from by omega), (show ∀ j9, j9 < 2 + 7 * (x + 1) → Gd cd j9 from (fun j hj => hG9 j (by omega))), (show (upd zu15 15 (nI (x + 1))) 13 = nI (b + (2 + 7 * (x + 1))) from (h13_zu15.trans (congrArg nI (by omega)))), (show (upd zu15 15 (nI (x + 1))) 14 = nI (vl (cd 1)) from ((hfu_zu15 14 (by decide)).trans (hu14))), (show (upd zu15 15 (nI (x + 1))) 15 = nI (x + 1) from rfl), (show ∀ y9, y9 < (x + 1) → za16 16 y9 = nI (TP cd 0 y9) ∧ za16 17 y9 = nI (TP cd 1 y9) ∧ za16 18 y9 = nI (TP cd 2 y9) ∧ za16 19 y9 = nI (TP cd 3 y9) ∧ za16 20 y9 = nI (TP cd 4 y9) from (fun y hy => by rcases Nat.lt_or_ge y x with w | w; rw [h16, h17, h18, h19, h20, up_ne (by omega), up_ne (by omega), up_ne (by omega), up_ne (by omega), up_ne (by omega)]; exact hT y w; rw [show y = x by omega, h16, h17, h18, h19, h20, up_eq, up_eq, up_eq, up_eq, up_eq]; exact ⟨rfl, rfl, rfl, rfl, rfl⟩)), (fun i h13 h14 h15 => Eq.trans (up_ne h15) (Eq.trans (hfu_zu15 i h13) (hfu60 i h13 h14 h15))), (fun i h16 h17 h18 h19 h20 => Eq.trans (hfa_zu15 i h16 h17 h18 h19 h20) (hfa60 i h16 h17 h18 h19 h20)), hP, hD, hS, lv_sub hl [0, 1] rfl⟩
                · have h13_zu15 : zu15 13 = nI (b + (F)) := h13_zu15
                  have hfu_zu15 : ∀ i, i ≠ 13 → zu15 i = u1060 i := fun i h => Eq.trans (hfu_zu15 i h) (up_ne h)
                  have hfa_zu15 : ∀ i, i ≠ 16 → i ≠ 17 → i ≠ 18 → i ≠ 19 → i ≠ 20 → za16 i = a1060 i := hfa_zu15
                  have hP : va_P D vwCl (xM cA r (zu15, za16)) H := hP
                  have hD : va_D A (xM cA r (zu15, za16)) := hD
                  refine lv_if_ne (tgt := 132) hx hb dX10_readStreet_127 (by decide) (fun c_18 => absurd c_18 (by decide)) (fun _ => ?_)
                  refine lv_iconst (v := (nI 0)) hx hb dX10_readStreet_130 rfl ?_
                  exact wZret hx hb hr hlocks (v := (nI 0)) (by first | exact Or.inl rfl | exact Or.inr rfl) (zu15, za16) (Or.inr ⟨rfl, ⟨F, hF, h13_zu15⟩, (fun i h13 h14 h15 => Eq.trans (hfu_zu15 i h13) (hfu60 i h13 h14 h15)), (fun i h16 h17 h18 h19 h20 => Eq.trans (hfa_zu15 i h16 h17 h18 h19 h20) (hfa60 i h16 h17 h18 h19 h20))⟩) hK hP hD hS dX10_readStreet_131
              · refine lv_iconst (v := (nI 0)) hx hb dX10_readStreet_106 rfl ?_
                exact wZret hx hb hr hlocks (v := (nI 0)) (by first | exact Or.inl rfl | exact Or.inr rfl) (u1060, a1060) (Or.inr ⟨rfl, ⟨2 + 7 * x, FR_at h2 hG (fun h q => c_11 ((GO_s rfl).mp q).1) (fun e w => by omega), hu13⟩, (fun i h13 h14 h15 => hfu60 i h13 h14 h15), (fun i h16 h17 h18 h19 h20 => hfa60 i h16 h17 h18 h19 h20)⟩) hK hP hD hS dX10_readStreet_107
        · refine lv_aload_n hx hb dX10_readStreet_67 rfl (lv_at hl 0 rfl) ?_
          refine va_get (D := D) (ci := 10) (v := .int (nI (b + (2 + 7 * x)))) (C := RX10) (T := TX10) (N := 34) hx hb hts hinX10 hown hK hP 0 rfl rfl 13 (by decide) (hts (.fieldLink RX10 93 "OneNailModel" "at" "I") (by decide +kernel)) (fun _ h9 => h9) (congrArg (fun z => some (Value.int z)) (hu13)) dX10_readStreet_68 ?_
          refine lv_iload_n hx hb dX10_readStreet_71 rfl (lv_at hl 1 rfl) ?_
          refine rn_ge (x := b + (2 + 7 * x)) (y := b + n) (tgt := 145) hx hb (by omega) (by omega) dX10_readStreet_72 (by decide) (fun c_19 => ?_) (fun c_19 => ?_)
          · refine lv_iconst (v := (nI 1)) hx hb dX10_readStreet_145 rfl ?_
            exact wZret hx hb hr hlocks (v := (nI 1)) (by first | exact Or.inl rfl | exact Or.inr rfl) (u1060, a1060) (Or.inl ⟨rfl, ⟨fun j hj => hG j (by omega), by omega, by omega⟩, hu14, hu15.trans (congrArg nI (by omega)), fun y hy => hT y (by omega), (fun i h13 h14 h15 => hfu60 i h13 h14 h15), (fun i h16 h17 h18 h19 h20 => hfa60 i h16 h17 h18 h19 h20)⟩) hK hP hD hS dX10_readStreet_146
          · refine lv_aload_n hx hb dX10_readStreet_75 rfl (lv_at hl 0 rfl) ?_
            refine va_get (D := D) (ci := 10) (v := .int (nI x)) (C := RX10) (T := TX10) (N := 34) hx hb hts hinX10 hown hK hP 0 rfl rfl 15 (by decide) (hts (.fieldLink RX10 120 "OneNailModel" "readThings" "I") (by decide +kernel)) (fun _ h9 => h9) (congrArg (fun z => some (Value.int z)) (hu15)) dX10_readStreet_76 ?_
            refine lv_bipush (v := (nI 6)) hx hb dX10_readStreet_79 rfl ?_
            refine rn_eq (x := x) (y := 6) (tgt := 106) hx hb (by omega) (by omega) dX10_readStreet_81 (by decide) (fun c_20 => ?_) (fun c_20 => ?_)
            · refine lv_iconst (v := (nI 0)) hx hb dX10_readStreet_106 rfl ?_
              exact wZret hx hb hr hlocks (v := (nI 0)) (by first | exact Or.inl rfl | exact Or.inr rfl) (u1060, a1060) (Or.inr ⟨rfl, ⟨2 + 7 * x, FR_at h2 hG (fun h q => by have := ((GO_s rfl).mp q).2; omega) (fun e w => by omega), hu13⟩, (fun i h13 h14 h15 => hfu60 i h13 h14 h15), (fun i h16 h17 h18 h19 h20 => hfa60 i h16 h17 h18 h19 h20)⟩) hK hP hD hS dX10_readStreet_107
            · refine lv_aload_n hx hb dX10_readStreet_84 rfl (lv_at hl 0 rfl) ?_
              refine va_get (D := D) (ci := 10) (v := .int (nI (b + (2 + 7 * x)))) (C := RX10) (T := TX10) (N := 34) hx hb hts hinX10 hown hK hP 0 rfl rfl 13 (by decide) (hts (.fieldLink RX10 93 "OneNailModel" "at" "I") (by decide +kernel)) (fun _ h9 => h9) (congrArg (fun z => some (Value.int z)) (hu13)) dX10_readStreet_85 ?_
              refine lv_iload_n hx hb dX10_readStreet_88 rfl (lv_at hl 1 rfl) ?_
              refine rn_ge (x := b + (2 + 7 * x)) (y := b + n) (tgt := 106) hx hb (by omega) (by omega) dX10_readStreet_89 (by decide) (fun c_21 => ?_) (fun c_21 => ?_)
              · refine lv_iconst (v := (nI 0)) hx hb dX10_readStreet_106 rfl ?_
                exact wZret hx hb hr hlocks (v := (nI 0)) (by first | exact Or.inl rfl | exact Or.inr rfl) (u1060, a1060) (Or.inr ⟨rfl, ⟨2 + 7 * x, FR_at h2 hG (fun h => by omega) (fun e w => by omega), hu13⟩, (fun i h13 h14 h15 => hfu60 i h13 h14 h15), (fun i h16 h17 h18 h19 h20 => hfa60 i h16 h17 h18 h19 h20)⟩) hK hP hD hS dX10_readStreet_107
              · refine lv_aload_n hx hb dX10_readStreet_92 rfl (lv_at hl 0 rfl) ?_
                refine va_get (D := D) (ci := 10) (v := .ref (r 4)) (C := RX10) (T := TX10) (N := 34) hx hb hts hinX10 hown hK hP 0 rfl rfl 4 (by decide) (hts (.fieldLink RX10 16 "OneNailModel" "cells" "[I") (by decide +kernel)) (fun _ h9 => h9) rfl dX10_readStreet_93 ?_
                refine lv_aload_n hx hb dX10_readStreet_96 rfl (lv_at hl 0 rfl) ?_
                refine va_get (D := D) (ci := 10) (v := .int (nI (b + (2 + 7 * x)))) (C := RX10) (T := TX10) (N := 34) hx hb hts hinX10 hown hK hP 0 rfl rfl 13 (by decide) (hts (.fieldLink RX10 93 "OneNailModel" "at" "I") (by decide +kernel)) (fun _ h9 => h9) (congrArg (fun z => some (Value.int z)) (hu13)) dX10_readStreet_97 ?_
                refine ra_iald hx hb hK hP 3 0 (n := 240) (f := (a1060 4)) (j := b + (2 + 7 * x)) (v := (cd (2 + 7 * x))) rfl rfl (by omega) (by decide) ((congrFun (hfa60 4 (by decide) (by decide) (by decide) (by decide) (by decide)) _).trans (hcd (2 + 7 * x) (by omega))) dX10_readStreet_100 ?_
                refine lv_bipush (v := (nI 59)) hx hb dX10_readStreet_101 rfl ?_
                refine lv_icmp_eq (tgt := 108) hx hb dX10_readStreet_103 (by decide) (fun c_22 => ?_) (fun c_22 => ?_)
                · refine lv_aload_n hx hb dX10_readStreet_108 rfl (lv_at hl 0 rfl) ?_
                  refine lv_dup hx hb dX10_readStreet_109 rfl ?_
                  refine va_get (D := D) (ci := 10) (v := .int (nI (b + (2 + 7 * x)))) (C := RX10) (T := TX10) (N := 34) hx hb hts hinX10 hown hK hP 0 rfl rfl 13 (by decide) (hts (.fieldLink RX10 93 "OneNailModel" "at" "I") (by decide +kernel)) (fun _ h9 => h9) (congrArg (fun z => some (Value.int z)) (hu13)) dX10_readStreet_110 ?_
                  refine lv_iconst (v := (nI 1)) hx hb dX10_readStreet_113 rfl ?_
                  refine rn_iadd (x := b + (2 + 7 * x)) (y := 1) hx hb dX10_readStreet_114 ?_
                  refine va_put (D := D) (ci := 10) (v := .int (nI ((b + (2 + 7 * x)) + 1))) (ty := .int) (C := RX10) (T := TX10) (N := 34) hx hb hts hinX10 tyX10 tyX10_ok nmX10 hown hK hP hD hS 0 rfl rfl 13 (by decide) (hts (.fieldLink RX10 93 "OneNailModel" "at" "I") (by decide +kernel)) (fun _ h9 => h9) rfl (by decide +kernel) rfl rfl (Nat.le_of_ble_eq_true rfl) dX10_readStreet_115 (fun H locs hP hD hS => ?_)
                  have hP : va_P D vwCl (xM cA r ((upd u1060 13 (nI ((b + (2 + 7 * x)) + 1))), a1060)) H := hP
                  have hD : va_D A (xM cA r ((upd u1060 13 (nI ((b + (2 + 7 * x)) + 1))), a1060)) := hD
                  have hG3 : ∀ j, j < 3 + 7 * x → Gd cd j := Gd_ext hG ⟨(GO_s rfl).mpr ⟨c_22, by omega⟩, Zr_no (by omega)⟩ (by omega)
                  refine lv_aload_n hx hb dX10_readStreet_118 rfl (lv_at hl 0 rfl) ?_
                  refine lv_iload_n hx hb dX10_readStreet_119 rfl (lv_at hl 1 rfl) ?_
                  refine lv_aload_n hx hb dX10_readStreet_120 rfl (lv_at hl 0 rfl) ?_
                  refine va_get (D := D) (ci := 10) (v := .int (nI x)) (C := RX10) (T := TX10) (N := 34) hx hb hts hinX10 hown hK hP 0 rfl rfl 15 (by decide) (hts (.fieldLink RX10 120 "OneNailModel" "readThings" "I") (by decide +kernel)) (fun _ h9 => h9) (congrArg (fun z => some (Value.int z)) (hu15)) dX10_readStreet_121 ?_
                  refine wVi e0_S (As := [.int (nI (b + n)), .int (nI x)]) (rest := []) ⟨hx, hb, hml, hown, hts⟩ (kX10_readThing l D cA r _ (upd u1060 13 (nI ((b + (2 + 7 * x)) + 1))) a1060 b n cd x hbn (fun q hq => (congrFun (hfa60 4 (by decide) (by decide) (by decide) (by decide) (by decide)) (b + q)).trans (hcd q hq)) (by omega) (by omega) hG3 (show (nI ((b + (2 + 7 * x)) + 1)) = nI (b + (3 + 7 * x)) from congrArg nI (by omega))) (cwV 2 hts gX10_readStreet_X10_readThing rfl rfl rfl (by decide +kernel) ⟨Nat.le_of_ble_eq_true rfl, Nat.le_of_ble_eq_true rfl⟩) (va_recv hK hP (ci := 10) (q0 := 0) rfl rfl) hK hP hD hS hA hE rfl hl.1 rfl (Nat.le_of_ble_eq_true rfl) dX10_readStreet_124 ⟨Nat.zero_le _, Nat.zero_le _⟩ (fun rv_23 z_25 H locs hw_24 hP hD hS => ?_)
                  obtain ⟨zu26, za27⟩ := z_25
                  rcases hw_24 with ⟨rfl, hn9, hG9, h13_zu26, hfu_zu26, h16, h17, h18, h19, h20, hfa_zu26⟩ | ⟨rfl, ⟨F, hF, h13_zu26⟩, hfu_zu26, hfa_zu26⟩
                  · have h16 : za27 16 = upd (a1060 16) x (nI (TP cd 0 x)) := h16
                    have h17 : za27 17 = upd (a1060 17) x (nI (TP cd 1 x)) := h17
                    have h18 : za27 18 = upd (a1060 18) x (nI (TP cd 2 x)) := h18
                    have h19 : za27 19 = upd (a1060 19) x (nI (TP cd 3 x)) := h19
                    have h20 : za27 20 = upd (a1060 20) x (nI (TP cd 4 x)) := h20
                    have h13_zu26 : zu26 13 = nI (b + (9 + 7 * x)) := h13_zu26
                    have hfu_zu26 : ∀ i, i ≠ 13 → zu26 i = u1060 i := fun i h => Eq.trans (hfu_zu26 i h) (up_ne h)
                    have hfa_zu26 : ∀ i, i ≠ 16 → i ≠ 17 → i ≠ 18 → i ≠ 19 → i ≠ 20 → za27 i = a1060 i := hfa_zu26
                    have hP : va_P D vwCl (xM cA r (zu26, za27)) H := hP
                    have hD : va_D A (xM cA r (zu26, za27)) := hD
                    refine lv_if_ne (tgt := 132) hx hb dX10_readStreet_127 (by decide) (fun _ => ?_) (fun c_28 => absurd c_28 (by decide))
                    refine lv_aload_n hx hb dX10_readStreet_132 rfl (lv_at hl 0 rfl) ?_
                    refine lv_dup hx hb dX10_readStreet_133 rfl ?_
                    refine va_get (D := D) (ci := 10) (v := .int (nI x)) (C := RX10) (T := TX10) (N := 34) hx hb hts hinX10 hown hK hP 0 rfl rfl 15 (by decide) (hts (.fieldLink RX10 120 "OneNailModel" "readThings" "I") (by decide +kernel)) (fun _ h9 => h9) (congrArg (fun z => some (Value.int z)) ((hfu_zu26 15 (by decide)).trans (hu15))) dX10_readStreet_134 ?_
                    refine lv_iconst (v := (nI 1)) hx hb dX10_readStreet_137 rfl ?_
                    refine rn_iadd (x := x) (y := 1) hx hb dX10_readStreet_138 ?_
                    refine va_put (D := D) (ci := 10) (v := .int (nI (x + 1))) (ty := .int) (C := RX10) (T := TX10) (N := 34) hx hb hts hinX10 tyX10 tyX10_ok nmX10 hown hK hP hD hS 0 rfl rfl 15 (by decide) (hts (.fieldLink RX10 120 "OneNailModel" "readThings" "I") (by decide +kernel)) (fun _ h9 => h9) rfl (by decide +kernel) rfl rfl (Nat.le_of_ble_eq_true rfl) dX10_readStreet_139 (fun H locs hP hD hS => ?_)
                    have hP : va_P D vwCl (xM cA r ((upd zu26 15 (nI (x + 1))), za27)) H := hP
                    have hD : va_D A (xM cA r ((upd zu26 15 (nI (x + 1))), za27)) := hD
                    refine lv_goto (tgt := 60) hx hb dX10_readStreet_142 (by decide) ?_
                    exact ih60 ((x + 1), (upd zu26 15 (nI (x + 1))), za27) _ _ _ (show 7 - (x + 1) < 7 - x from by omega) ⟨(show (x + 1) ≤ 6 from by omega), (show 2 + 7 * (x + 1) ≤ n from by omega), (show ∀ j9, j9 < 2 + 7 * (x + 1) → Gd cd j9 from (fun j hj => hG9 j (by omega))), (show (upd zu26 15 (nI (x + 1))) 13 = nI (b + (2 + 7 * (x + 1))) from (h13_zu26.trans (congrArg nI (by omega)))), (show (upd zu26 15 (nI (x + 1))) 14 = nI (vl (cd 1)) from ((hfu_zu26 14 (by decide)).trans (hu14))), (show (upd zu26 15 (nI (x + 1))) 15 = nI (x + 1) from rfl), (show ∀ y9, y9 < (x + 1) → za27 16 y9 = nI (TP cd 0 y9) ∧ za27 17 y9 = nI (TP cd 1 y9) ∧ za27 18 y9 = nI (TP cd 2 y9) ∧ za27 19 y9 = nI (TP cd 3 y9) ∧ za27 20 y9 = nI (TP cd 4 y9) from (fun y hy => by rcases Nat.lt_or_ge y x with w | w; rw [h16, h17, h18, h19, h20, up_ne (by omega), up_ne (by omega), up_ne (by omega), up_ne (by omega), up_ne (by omega)]; exact hT y w; rw [show y = x by omega, h16, h17, h18, h19, h20, up_eq, up_eq, up_eq, up_eq, up_eq]; exact ⟨rfl, rfl, rfl, rfl, rfl⟩)), (fun i h13 h14 h15 => Eq.trans (up_ne h15) (Eq.trans (hfu_zu26 i h13) (hfu60 i h13 h14 h15))), (fun i h16 h17 h18 h19 h20 => Eq.trans (hfa_zu26 i h16 h17 h18 h19 h20) (hfa60 i h16 h17 h18 h19 h20)), hP, hD, hS, lv_sub hl [0, 1] rfl⟩
                  · have h13_zu26 : zu26 13 = nI (b + (F)) := h13_zu26
                    have hfu_zu26 : ∀ i, i ≠ 13 → zu26 i = u1060 i := fun i h => Eq.trans (hfu_zu26 i h) (up_ne h)
                    have hfa_zu26 : ∀ i, i ≠ 16 → i ≠ 17 → i ≠ 18 → i ≠ 19 → i ≠ 20 → za27 i = a1060 i := hfa_zu26
                    have hP : va_P D vwCl (xM cA r (zu26, za27)) H := hP
                    have hD : va_D A (xM cA r (zu26, za27)) := hD
                    refine lv_if_ne (tgt := 132) hx hb dX10_readStreet_127 (by decide) (fun c_29 => absurd c_29 (by decide)) (fun _ => ?_)
                    refine lv_iconst (v := (nI 0)) hx hb dX10_readStreet_130 rfl ?_
                    exact wZret hx hb hr hlocks (v := (nI 0)) (by first | exact Or.inl rfl | exact Or.inr rfl) (zu26, za27) (Or.inr ⟨rfl, ⟨F, hF, h13_zu26⟩, (fun i h13 h14 h15 => Eq.trans (hfu_zu26 i h13) (hfu60 i h13 h14 h15)), (fun i h16 h17 h18 h19 h20 => Eq.trans (hfa_zu26 i h16 h17 h18 h19 h20) (hfa60 i h16 h17 h18 h19 h20))⟩) hK hP hD hS dX10_readStreet_131
                · refine lv_iconst (v := (nI 0)) hx hb dX10_readStreet_106 rfl ?_
                  exact wZret hx hb hr hlocks (v := (nI 0)) (by first | exact Or.inl rfl | exact Or.inr rfl) (u1060, a1060) (Or.inr ⟨rfl, ⟨2 + 7 * x, FR_at h2 hG (fun h q => c_22 ((GO_s rfl).mp q).1) (fun e w => by omega), hu13⟩, (fun i h13 h14 h15 => hfu60 i h13 h14 h15), (fun i h16 h17 h18 h19 h20 => hfa60 i h16 h17 h18 h19 h20)⟩) hK hP hD hS dX10_readStreet_107
      · have hP : va_P D vwCl (xM cA r ((upd u 13 (nI (b + 1))), a)) H := hP
        have hD : va_D A (xM cA r ((upd u 13 (nI (b + 1))), a)) := hD
        refine va_put (D := D) (ci := 10) (v := .int (-9)) (ty := .int) (C := RX10) (T := TX10) (N := 34) hx hb hts hinX10 tyX10 tyX10_ok nmX10 hown hK hP hD hS 0 rfl rfl 14 (by decide) (hts (.fieldLink RX10 114 "OneNailModel" "readHome" "I") (by decide +kernel)) (fun _ h9 => h9) rfl (by decide +kernel) rfl rfl (Nat.le_of_ble_eq_true rfl) dX10_readStreet_41 (fun H locs hP hD hS => ?_)
        have hP : va_P D vwCl (xM cA r ((upd (upd u 13 (nI (b + 1))) 14 (-9)), a)) H := hP
        have hD : va_D A (xM cA r ((upd (upd u 13 (nI (b + 1))) 14 (-9)), a)) := hD
        refine lv_aload_n hx hb dX10_readStreet_44 rfl (lv_at hl 0 rfl) ?_
        refine va_get (D := D) (ci := 10) (v := .int (-9)) (C := RX10) (T := TX10) (N := 34) hx hb hts hinX10 hown hK hP 0 rfl rfl 14 (by decide) (hts (.fieldLink RX10 114 "OneNailModel" "readHome" "I") (by decide +kernel)) (fun _ h9 => h9) rfl dX10_readStreet_45 ?_
        refine lv_bipush (v := (-9)) hx hb dX10_readStreet_48 (by decide) ?_
        refine lv_icmp_ne (tgt := 55) hx hb dX10_readStreet_50 (by decide) (fun c_30 => absurd c_30 (by decide)) (fun _ => ?_)
        refine lv_iconst (v := (nI 0)) hx hb dX10_readStreet_53 rfl ?_
        exact wZret hx hb hr hlocks (v := (nI 0)) (by first | exact Or.inl rfl | exact Or.inr rfl) ((upd (upd u 13 (nI (b + 1))) 14 (-9)), a) (Or.inr ⟨rfl, ⟨1, FR_at (by omega) hG1 (fun h q => hno_d6 ⟨h, GO_1.mp q⟩) (fun e => whole_no e (Or.inr (Or.inl rfl))), rfl⟩, (fun i h13 h14 h15 => Eq.trans (up_ne h14) (up_ne h13)), (fun i h16 h17 h18 h19 h20 => rfl)⟩) hK hP hD hS dX10_readStreet_54
    · refine lv_iconst (v := (nI 0)) hx hb dX10_readStreet_22 rfl ?_
      exact wZret hx hb hr hlocks (v := (nI 0)) (by first | exact Or.inl rfl | exact Or.inr rfl) (u, a) (Or.inr ⟨rfl, ⟨0, FR_at (Nat.zero_le _) (fun j hj => absurd hj (Nat.not_lt_zero j)) (fun h q => c_2 (GO_0.mp q)) (fun e => whole_no e (Or.inl rfl)), hat⟩, (fun i h13 h14 h15 => rfl), (fun i h16 h17 h18 h19 h20 => rfl)⟩) hK hP hD hS dX10_readStreet_23
