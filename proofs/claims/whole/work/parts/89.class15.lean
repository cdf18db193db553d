theorem dg0 {c : Int32} : inR c 48 57 ↔ dgt 0 c := by
  constructor
  · intro h
    obtain ⟨j, rfl, h1, h2, -⟩ := inR_of h (by decide) (by decide)
    exact ⟨j - 48, Nat.zero_le _, by omega, congrArg nI (by omega)⟩
  · rintro ⟨d, -, h2, rfl⟩
    exact ⟨(nI_leI (by decide) (by omega)).mpr (by omega), (nI_leI (by omega) (by decide)).mpr (by omega)⟩
theorem dg1 {c : Int32} : dgt 1 c ↔ (inR c 48 57 ∧ ¬ c = nI 48) := by
  constructor
  · rintro ⟨d, h1, h2, rfl⟩
    exact ⟨dg0.mpr ⟨d, Nat.zero_le _, h2, rfl⟩, fun q => by have := (nI_eq (by omega) (by decide)).mp q; omega⟩
  · rintro ⟨h, hn⟩
    obtain ⟨d, -, h2, rfl⟩ := dg0.mp h
    refine ⟨d, ?_, h2, rfl⟩
    rcases Nat.eq_zero_or_pos d with w | w
    · exact absurd (by rw [w]) hn
    · exact w
set_option maxHeartbeats 4000000 in
set_option maxRecDepth 100000 in
theorem kX9_goesOn (l : Launch) (p0 : Nat) (x : Int32) (hp60 : p0 ≤ 60) : Met l yX9_goesOn wsX9_goesOn ({ frames := 1, cells := 0, slots := 0, locals := 20 } : Room) (va_Pc [.int (nI p0), .int x] (fun _ => True)) (vp_Si (fun v => (v = nI 1 ∧ GO p0 x) ∨ (v = nI 0 ∧ ¬ GO p0 x))) 0 0 (fun _ => False) := by
  refine Met.ofW (cc := cX9_goesOn) (maxL := 2) (ret := (some .boolean)) (by decide) rfl ?_
  intro p e s m args below meth c s₁ B hml hv
  obtain ⟨rfl, -⟩ := hv
  have hx := B.exec
  have hb := B.bytes
  have hr := B.returns
  have hts := atoms_spec (ws := wsX9_goesOn) B.pre
  have hown : s.vm.findClass RX9 = some m.cls := findClass_of_methodNamed B.named
  have hlocks := B.notSynchronized
  have hl := lv_entry ([.int (nI p0), .int x]) (n := 2) (Nat.le_of_ble_eq_true rfl)
  rw [lg_entry_eq]
  generalize (lg_sl ([.int (nI p0), .int x]) ++ List.replicate (2 - (lg_sl ([.int (nI p0), .int x])).length) Slot.unset).toArray = ls at hl ⊢
  have hl : lv_has ls 2 [(0, .int (nI p0)), (1, .int x)] := hl
  refine lv_iload_n hx hb dX9_goesOn_0 rfl (lv_at hl 0 rfl) ?_
  refine lv_iconst (v := (nI 2)) hx hb dX9_goesOn_1 rfl ?_
  refine rn_ge (x := p0) (y := 2) (tgt := 28) hx hb (by omega) (by omega) dX9_goesOn_2 (by decide) (fun c_1 => ?_) (fun c_1 => ?_)
  · refine lv_iload_n hx hb dX9_goesOn_28 rfl (lv_at hl 0 rfl) ?_
    refine lv_iconst (v := (nI 2)) hx hb dX9_goesOn_29 rfl ?_
    refine rn_isub (x := p0) (y := 2) hx hb (by omega) dX9_goesOn_30 ?_
    refine lv_bipush (v := (nI 7)) hx hb dX9_goesOn_31 rfl ?_
    refine rn_irem (x := p0 - 2) (y := 7) hx hb (by omega) (by omega) (by omega) dX9_goesOn_33 ?_
    rcases (show (p0 - 2) % 7 = 0 ∨ (p0 - 2) % 7 = 1 ∨ (p0 - 2) % 7 = 2 ∨ (p0 - 2) % 7 = 3 ∨ (p0 - 2) % 7 = 4 ∨ (p0 - 2) % 7 = 5 ∨ (p0 - 2) % 7 = 6 by omega) with hm7 | hm7 | hm7 | hm7 | hm7 | hm7 | hm7
    · refine lv_topi (fun y_2 ey_2 => ?_)
      obtain rfl : y_2 = (nI 0) := ey_2.trans (congrArg nI hm7)
      refine lv_tableIn (off := 42) (tgt := 76) hx hb dX9_goesOn_34 (by decide) (by decide) (by decide) (by decide) ?_
      refine lv_iload_n hx hb dX9_goesOn_76 rfl (lv_at hl 1 rfl) ?_
      refine lv_bipush (v := (nI 59)) hx hb dX9_goesOn_77 rfl ?_
      refine lv_icmp_ne (tgt := 97) hx hb dX9_goesOn_79 (by decide) (fun c_3 => ?_) (fun c_3 => ?_)
      · refine lv_iconst (v := (nI 0)) hx hb dX9_goesOn_97 rfl ?_
        exact wSzret hx hb hr hlocks (v := (nI 0)) (by first | exact Or.inl rfl | exact Or.inr rfl) (Or.inr ⟨rfl, fun q => c_3 ((GO_s (x := (p0 - 2) / 7) (by omega)).mp q).1⟩) dX9_goesOn_98
      · refine lv_iload_n hx hb dX9_goesOn_82 rfl (lv_at hl 0 rfl) ?_
        refine lv_iconst (v := (nI 2)) hx hb dX9_goesOn_83 rfl ?_
        refine rn_isub (x := p0) (y := 2) hx hb (by omega) dX9_goesOn_84 ?_
        refine lv_bipush (v := (nI 7)) hx hb dX9_goesOn_85 rfl ?_
        refine rn_idiv (x := p0 - 2) (y := 7) hx hb (by omega) (by omega) (by omega) dX9_goesOn_87 ?_
        refine lv_bipush (v := (nI 6)) hx hb dX9_goesOn_88 rfl ?_
        refine rn_ge (x := (p0 - 2) / 7) (y := 6) (tgt := 97) hx hb (by omega) (by omega) dX9_goesOn_90 (by decide) (fun c_4 => ?_) (fun c_4 => ?_)
        · refine lv_iconst (v := (nI 0)) hx hb dX9_goesOn_97 rfl ?_
          exact wSzret hx hb hr hlocks (v := (nI 0)) (by first | exact Or.inl rfl | exact Or.inr rfl) (Or.inr ⟨rfl, fun q => (by have := ((GO_s (x := (p0 - 2) / 7) (by omega)).mp q).2; omega)⟩) dX9_goesOn_98
        · refine lv_iconst (v := (nI 1)) hx hb dX9_goesOn_93 rfl ?_
          refine lv_goto (tgt := 98) hx hb dX9_goesOn_94 (by decide) ?_
          exact wSzret hx hb hr hlocks (v := (nI 1)) (by first | exact Or.inl rfl | exact Or.inr rfl) (Or.inl ⟨rfl, (GO_s (x := (p0 - 2) / 7) (by omega)).mpr ⟨c_3, by omega⟩⟩) dX9_goesOn_98
    · refine lv_topi (fun y_5 ey_5 => ?_)
      obtain rfl : y_5 = (nI 1) := ey_5.trans (congrArg nI hm7)
      refine lv_tableIn (off := 65) (tgt := 99) hx hb dX9_goesOn_34 (by decide) (by decide) (by decide) (by decide) ?_
      refine lv_iload_n hx hb dX9_goesOn_99 rfl (lv_at hl 1 rfl) ?_
      refine lv_bipush (v := (nI 116)) hx hb dX9_goesOn_100 rfl ?_
      refine lv_icmp_eq (tgt := 117) hx hb dX9_goesOn_102 (by decide) (fun c_6 => ?_) (fun c_6 => ?_)
      · refine lv_iconst (v := (nI 1)) hx hb dX9_goesOn_117 rfl ?_
        refine lv_goto (tgt := 122) hx hb dX9_goesOn_118 (by decide) ?_
        exact wSzret hx hb hr hlocks (v := (nI 1)) (by first | exact Or.inl rfl | exact Or.inr rfl) (Or.inl ⟨rfl, (GO_k (x := (p0 - 2) / 7) (by omega)).mpr (Or.inl c_6)⟩) dX9_goesOn_122
      · refine lv_iload_n hx hb dX9_goesOn_105 rfl (lv_at hl 1 rfl) ?_
        refine lv_bipush (v := (nI 100)) hx hb dX9_goesOn_106 rfl ?_
        refine lv_icmp_eq (tgt := 117) hx hb dX9_goesOn_108 (by decide) (fun c_7 => ?_) (fun c_7 => ?_)
        · refine lv_iconst (v := (nI 1)) hx hb dX9_goesOn_117 rfl ?_
          refine lv_goto (tgt := 122) hx hb dX9_goesOn_118 (by decide) ?_
          exact wSzret hx hb hr hlocks (v := (nI 1)) (by first | exact Or.inl rfl | exact Or.inr rfl) (Or.inl ⟨rfl, (GO_k (x := (p0 - 2) / 7) (by omega)).mpr (Or.inr (Or.inl c_7))⟩) dX9_goesOn_122
        · refine lv_iload_n hx hb dX9_goesOn_111 rfl (lv_at hl 1 rfl) ?_
          refine lv_bipush (v := (nI 99)) hx hb dX9_goesOn_112 rfl ?_
          refine lv_icmp_ne (tgt := 121) hx hb dX9_goesOn_114 (by decide) (fun c_8 => ?_) (fun c_8 => ?_)
          · refine lv_iconst (v := (nI 0)) hx hb dX9_goesOn_121 rfl ?_
            exact wSzret hx hb hr hlocks (v := (nI 0)) (by first | exact Or.inl rfl | exact Or.inr rfl) (Or.inr ⟨rfl, fun q => ((GO_k (x := (p0 - 2) / 7) (by omega)).mp q).elim c_6 (fun q => q.elim c_7 c_8)⟩) dX9_goesOn_122
          · refine lv_iconst (v := (nI 1)) hx hb dX9_goesOn_117 rfl ?_
            refine lv_goto (tgt := 122) hx hb dX9_goesOn_118 (by decide) ?_
            exact wSzret hx hb hr hlocks (v := (nI 1)) (by first | exact Or.inl rfl | exact Or.inr rfl) (Or.inl ⟨rfl, (GO_k (x := (p0 - 2) / 7) (by omega)).mpr (Or.inr (Or.inr c_8))⟩) dX9_goesOn_122
    · refine lv_topi (fun y_9 ey_9 => ?_)
      obtain rfl : y_9 = (nI 2) := ey_9.trans (congrArg nI hm7)
      refine lv_tableIn (off := 108) (tgt := 142) hx hb dX9_goesOn_34 (by decide) (by decide) (by decide) (by decide) ?_
      refine lv_iload_n hx hb dX9_goesOn_142 rfl (lv_at hl 1 rfl) ?_
      refine wSi (As := [.int x]) (rest := []) ⟨hx, hb, hml, hown, hts⟩ (kX9_isDigit l x) (va_cwS 1 hts gX9_goesOn_X9_isDigit rfl rfl rfl (by decide +kernel) ⟨Nat.le_of_ble_eq_true rfl, Nat.le_of_ble_eq_true rfl⟩) rfl hl.1 rfl (Nat.le_of_ble_eq_true rfl) dX9_goesOn_143 ⟨Nat.zero_le _, Nat.zero_le _⟩ (fun rv_10 hw_11 => ?_)
      rcases hw_11 with ⟨rfl, b_12⟩ | ⟨rfl, b_12⟩
      · exact wSzret hx hb hr hlocks (v := (nI 1)) (by first | exact Or.inl rfl | exact Or.inr rfl) (Or.inl ⟨rfl, (GO_d0 (x := (p0 - 2) / 7) (Or.inl (by omega))).mpr (dg0.mp b_12)⟩) dX9_goesOn_146
      · exact wSzret hx hb hr hlocks (v := (nI 0)) (by first | exact Or.inl rfl | exact Or.inr rfl) (Or.inr ⟨rfl, fun q => b_12 (dg0.mpr ((GO_d0 (x := (p0 - 2) / 7) (Or.inl (by omega))).mp q))⟩) dX9_goesOn_146
    · refine lv_topi (fun y_13 ey_13 => ?_)
      obtain rfl : y_13 = (nI 3) := ey_13.trans (congrArg nI hm7)
      refine lv_tableIn (off := 89) (tgt := 123) hx hb dX9_goesOn_34 (by decide) (by decide) (by decide) (by decide) ?_
      refine lv_iload_n hx hb dX9_goesOn_123 rfl (lv_at hl 1 rfl) ?_
      refine wSi (As := [.int x]) (rest := []) ⟨hx, hb, hml, hown, hts⟩ (kX9_isDigit l x) (va_cwS 1 hts gX9_goesOn_X9_isDigit rfl rfl rfl (by decide +kernel) ⟨Nat.le_of_ble_eq_true rfl, Nat.le_of_ble_eq_true rfl⟩) rfl hl.1 rfl (Nat.le_of_ble_eq_true rfl) dX9_goesOn_124 ⟨Nat.zero_le _, Nat.zero_le _⟩ (fun rv_14 hw_15 => ?_)
      rcases hw_15 with ⟨rfl, b_16⟩ | ⟨rfl, b_16⟩
      · refine lv_if_eq (tgt := 140) hx hb dX9_goesOn_127 (by decide) (fun c_17 => absurd c_17 (by decide)) (fun _ => ?_)
        refine lv_iload_n hx hb dX9_goesOn_130 rfl (lv_at hl 1 rfl) ?_
        refine lv_bipush (v := (nI 48)) hx hb dX9_goesOn_131 rfl ?_
        refine lv_icmp_eq (tgt := 140) hx hb dX9_goesOn_133 (by decide) (fun c_18 => ?_) (fun c_18 => ?_)
        · refine lv_iconst (v := (nI 0)) hx hb dX9_goesOn_140 rfl ?_
          exact wSzret hx hb hr hlocks (v := (nI 0)) (by first | exact Or.inl rfl | exact Or.inr rfl) (Or.inr ⟨rfl, fun q => (dg1.mp ((GO_d1 (x := (p0 - 2) / 7) (Or.inl (by omega))).mp q)).2 c_18⟩) dX9_goesOn_141
        · refine lv_iconst (v := (nI 1)) hx hb dX9_goesOn_136 rfl ?_
          refine lv_goto (tgt := 141) hx hb dX9_goesOn_137 (by decide) ?_
          exact wSzret hx hb hr hlocks (v := (nI 1)) (by first | exact Or.inl rfl | exact Or.inr rfl) (Or.inl ⟨rfl, (GO_d1 (x := (p0 - 2) / 7) (Or.inl (by omega))).mpr (dg1.mpr ⟨b_16, c_18⟩)⟩) dX9_goesOn_141
      · refine lv_if_eq (tgt := 140) hx hb dX9_goesOn_127 (by decide) (fun _ => ?_) (fun c_19 => absurd c_19 (by decide))
        refine lv_iconst (v := (nI 0)) hx hb dX9_goesOn_140 rfl ?_
        exact wSzret hx hb hr hlocks (v := (nI 0)) (by first | exact Or.inl rfl | exact Or.inr rfl) (Or.inr ⟨rfl, fun q => b_16 (dg1.mp ((GO_d1 (x := (p0 - 2) / 7) (Or.inl (by omega))).mp q)).1⟩) dX9_goesOn_141
    · refine lv_topi (fun y_20 ey_20 => ?_)
      obtain rfl : y_20 = (nI 4) := ey_20.trans (congrArg nI hm7)
      refine lv_tableIn (off := 108) (tgt := 142) hx hb dX9_goesOn_34 (by decide) (by decide) (by decide) (by decide) ?_
      refine lv_iload_n hx hb dX9_goesOn_142 rfl (lv_at hl 1 rfl) ?_
      refine wSi (As := [.int x]) (rest := []) ⟨hx, hb, hml, hown, hts⟩ (kX9_isDigit l x) (va_cwS 1 hts gX9_goesOn_X9_isDigit rfl rfl rfl (by decide +kernel) ⟨Nat.le_of_ble_eq_true rfl, Nat.le_of_ble_eq_true rfl⟩) rfl hl.1 rfl (Nat.le_of_ble_eq_true rfl) dX9_goesOn_143 ⟨Nat.zero_le _, Nat.zero_le _⟩ (fun rv_21 hw_22 => ?_)
      rcases hw_22 with ⟨rfl, b_23⟩ | ⟨rfl, b_23⟩
      · exact wSzret hx hb hr hlocks (v := (nI 1)) (by first | exact Or.inl rfl | exact Or.inr rfl) (Or.inl ⟨rfl, (GO_d0 (x := (p0 - 2) / 7) (Or.inr (Or.inl (by omega)))).mpr (dg0.mp b_23)⟩) dX9_goesOn_146
      · exact wSzret hx hb hr hlocks (v := (nI 0)) (by first | exact Or.inl rfl | exact Or.inr rfl) (Or.inr ⟨rfl, fun q => b_23 (dg0.mpr ((GO_d0 (x := (p0 - 2) / 7) (Or.inr (Or.inl (by omega)))).mp q))⟩) dX9_goesOn_146
    · refine lv_topi (fun y_24 ey_24 => ?_)
      obtain rfl : y_24 = (nI 5) := ey_24.trans (congrArg nI hm7)
      refine lv_tableIn (off := 108) (tgt := 142) hx hb dX9_goesOn_34 (by decide) (by decide) (by decide) (by decide) ?_
      refine lv_iload_n hx hb dX9_goesOn_142 rfl (lv_at hl 1 rfl) ?_
      refine wSi (As := [.int x]) (rest := []) ⟨hx, hb, hml, hown, hts⟩ (kX9_isDigit l x) (va_cwS 1 hts gX9_goesOn_X9_isDigit rfl rfl rfl (by decide +kernel) ⟨Nat.le_of_ble_eq_true rfl, Nat.le_of_ble_eq_true rfl⟩) rfl hl.1 rfl (Nat.le_of_ble_eq_true rfl) dX9_goesOn_143 ⟨Nat.zero_le _, Nat.zero_le _⟩ (fun rv_25 hw_26 => ?_)
      rcases hw_26 with ⟨rfl, b_27⟩ | ⟨rfl, b_27⟩
      · exact wSzret hx hb hr hlocks (v := (nI 1)) (by first | exact Or.inl rfl | exact Or.inr rfl) (Or.inl ⟨rfl, (GO_d0 (x := (p0 - 2) / 7) (Or.inr (Or.inr (by omega)))).mpr (dg0.mp b_27)⟩) dX9_goesOn_146
      · exact wSzret hx hb hr hlocks (v := (nI 0)) (by first | exact Or.inl rfl | exact Or.inr rfl) (Or.inr ⟨rfl, fun q => b_27 (dg0.mpr ((GO_d0 (x := (p0 - 2) / 7) (Or.inr (Or.inr (by omega)))).mp q))⟩) dX9_goesOn_146
    · refine lv_topi (fun y_28 ey_28 => ?_)
      obtain rfl : y_28 = (nI 6) := ey_28.trans (congrArg nI hm7)
      refine lv_tableIn (off := 89) (tgt := 123) hx hb dX9_goesOn_34 (by decide) (by decide) (by decide) (by decide) ?_
      refine lv_iload_n hx hb dX9_goesOn_123 rfl (lv_at hl 1 rfl) ?_
      refine wSi (As := [.int x]) (rest := []) ⟨hx, hb, hml, hown, hts⟩ (kX9_isDigit l x) (va_cwS 1 hts gX9_goesOn_X9_isDigit rfl rfl rfl (by decide +kernel) ⟨Nat.le_of_ble_eq_true rfl, Nat.le_of_ble_eq_true rfl⟩) rfl hl.1 rfl (Nat.le_of_ble_eq_true rfl) dX9_goesOn_124 ⟨Nat.zero_le _, Nat.zero_le _⟩ (fun rv_29 hw_30 => ?_)
      rcases hw_30 with ⟨rfl, b_31⟩ | ⟨rfl, b_31⟩
      · refine lv_if_eq (tgt := 140) hx hb dX9_goesOn_127 (by decide) (fun c_32 => absurd c_32 (by decide)) (fun _ => ?_)
        refine lv_iload_n hx hb dX9_goesOn_130 rfl (lv_at hl 1 rfl) ?_
        refine lv_bipush (v := (nI 48)) hx hb dX9_goesOn_131 rfl ?_
        refine lv_icmp_eq (tgt := 140) hx hb dX9_goesOn_133 (by decide) (fun c_33 => ?_) (fun c_33 => ?_)
        · refine lv_iconst (v := (nI 0)) hx hb dX9_goesOn_140 rfl ?_
          exact wSzret hx hb hr hlocks (v := (nI 0)) (by first | exact Or.inl rfl | exact Or.inr rfl) (Or.inr ⟨rfl, fun q => (dg1.mp ((GO_d1 (x := (p0 - 2) / 7) (Or.inr (by omega))).mp q)).2 c_33⟩) dX9_goesOn_141
        · refine lv_iconst (v := (nI 1)) hx hb dX9_goesOn_136 rfl ?_
          refine lv_goto (tgt := 141) hx hb dX9_goesOn_137 (by decide) ?_
          exact wSzret hx hb hr hlocks (v := (nI 1)) (by first | exact Or.inl rfl | exact Or.inr rfl) (Or.inl ⟨rfl, (GO_d1 (x := (p0 - 2) / 7) (Or.inr (by omega))).mpr (dg1.mpr ⟨b_31, c_33⟩)⟩) dX9_goesOn_141
      · refine lv_if_eq (tgt := 140) hx hb dX9_goesOn_127 (by decide) (fun _ => ?_) (fun c_34 => absurd c_34 (by decide))
        refine lv_iconst (v := (nI 0)) hx hb dX9_goesOn_140 rfl ?_
        exact wSzret hx hb hr hlocks (v := (nI 0)) (by first | exact Or.inl rfl | exact Or.inr rfl) (Or.inr ⟨rfl, fun q => b_31 (dg1.mp ((GO_d1 (x := (p0 - 2) / 7) (Or.inr (by omega))).mp q)).1⟩) dX9_goesOn_141
  · refine lv_iload_n hx hb dX9_goesOn_5 rfl (lv_at hl 0 rfl) ?_
    refine rz_ne (x := p0) (tgt := 23) hx hb (by omega) dX9_goesOn_6 (by decide) (fun c_35 => ?_) (fun c_35 => ?_)
    · refine lv_iload_n hx hb dX9_goesOn_23 rfl (lv_at hl 1 rfl) ?_
      refine wSi (As := [.int x]) (rest := []) ⟨hx, hb, hml, hown, hts⟩ (kX9_isDigit l x) (va_cwS 1 hts gX9_goesOn_X9_isDigit rfl rfl rfl (by decide +kernel) ⟨Nat.le_of_ble_eq_true rfl, Nat.le_of_ble_eq_true rfl⟩) rfl hl.1 rfl (Nat.le_of_ble_eq_true rfl) dX9_goesOn_24 ⟨Nat.zero_le _, Nat.zero_le _⟩ (fun rv_36 hw_37 => ?_)
      rcases hw_37 with ⟨rfl, b_38⟩ | ⟨rfl, b_38⟩
      · exact wSzret hx hb hr hlocks (v := (nI 1)) (by first | exact Or.inl rfl | exact Or.inr rfl) (Or.inl ⟨rfl, by rw [show p0 = 1 by omega]; exact GO_1.mpr (dg0.mp b_38)⟩) dX9_goesOn_27
      · exact wSzret hx hb hr hlocks (v := (nI 0)) (by first | exact Or.inl rfl | exact Or.inr rfl) (Or.inr ⟨rfl, fun q => b_38 (dg0.mpr (GO_1.mp (by rw [show p0 = 1 by omega] at q; exact q)))⟩) dX9_goesOn_27
    · refine lv_iload_n hx hb dX9_goesOn_9 rfl (lv_at hl 1 rfl) ?_
      refine lv_bipush (v := (nI 115)) hx hb dX9_goesOn_10 rfl ?_
      refine lv_icmp_ne (tgt := 19) hx hb dX9_goesOn_12 (by decide) (fun c_39 => ?_) (fun c_39 => ?_)
      · refine lv_iconst (v := (nI 0)) hx hb dX9_goesOn_19 rfl ?_
        refine lv_goto (tgt := 27) hx hb dX9_goesOn_20 (by decide) ?_
        exact wSzret hx hb hr hlocks (v := (nI 0)) (by first | exact Or.inl rfl | exact Or.inr rfl) (Or.inr ⟨rfl, fun q => c_39 (GO_0.mp (by rw [show p0 = 0 by omega] at q; exact q))⟩) dX9_goesOn_27
      · refine lv_iconst (v := (nI 1)) hx hb dX9_goesOn_15 rfl ?_
        refine lv_goto (tgt := 27) hx hb dX9_goesOn_16 (by decide) ?_
        exact wSzret hx hb hr hlocks (v := (nI 1)) (by first | exact Or.inl rfl | exact Or.inr rfl) (Or.inl ⟨rfl, by rw [show p0 = 0 by omega]; exact GO_0.mpr c_39⟩) dX9_goesOn_27

set_option maxHeartbeats 4000000 in
set_option maxRecDepth 100000 in
theorem kX9_firstFault (l : Launch) (D : va_G) (cA : Nat → ClassId) (r : Nat → Nat) (sz : Nat) (u : Nat → Int32) (a : Nat → Nat → Int32) (th : Nat → Option Nat) (LP : List Nat) (tf : Nat → va_E) (tO : Nat) (k9 Ln i0 n0 : Nat) (cd : Nat → Int32) (hk9 : k9 < 4) (hln : u (18 + k9) = nI Ln) (hl60 : Ln ≤ 60) (hin : i0 + n0 ≤ Ln) (hcd : ∀ q, q < n0 → a (26 + k9) (i0 + q) = cd q) : Met l yX9_firstFault wsX9_firstFault ({ frames := 2, cells := 0, slots := 0, locals := 42 } : Room) (va_Pc [.ref (r (6 + k9)), .int (nI i0), .int (nI n0)] (wA D vwCl (tyA cA) (eO tO) (xN cA r) (u, a, th, LP, tf) sz)) (va_Qi (fun (v : Int32) (z : sN) => ((v = -1 ∧ PASS cd n0) ∨ ∃ F : Nat, v = nI F ∧ FR cd n0 F ∧ F ≤ n0) ∧ z = (u, a, th, LP, tf)) (wB D vwCl (tyA cA) (xN cA r) (va_A (xN cA r (u, a, th, LP, tf)) sz)) (va_A (xN cA r (u, a, th, LP, tf)) sz)) 0 0 (va_A (xN cA r (u, a, th, LP, tf)) sz) := by
  refine Met.ofW (cc := cX9_firstFault) (maxL := 6) (ret := (some .int)) (by decide) rfl ?_
  intro p e s m args below meth c s₁ B hml hv
  obtain ⟨rfl, hsz, hP, hK, hD0, hE⟩ := hv
  have hx := B.exec
  have hb := B.bytes
  have hr := B.returns
  have hts := atoms_spec (ws := wsX9_firstFault) B.pre
  have hown : s.vm.findClass RX9 = some m.cls := findClass_of_methodNamed B.named
  have hlocks := B.notSynchronized
  subst hsz
  have hD := hD0.self (sz := s.heap.size)
  generalize hAe : va_A (xN cA r (u, a, th, LP, tf)) s.heap.size = A at hD hE ⊢
  have hA : ∀ q : Nat, s.heap.size ≤ q → A q := fun q h => by rw [← hAe]; exact Or.inr h
  have hS : va_S A s.heap s.heap [] := va_S.rf
  have hl := lv_entry ([.ref (r (6 + k9)), .int (nI i0), .int (nI n0)]) (n := 6) (Nat.le_of_ble_eq_true rfl)
  rw [lg_entry_eq]
  generalize (lg_sl ([.ref (r (6 + k9)), .int (nI i0), .int (nI n0)]) ++ List.replicate (6 - (lg_sl ([.ref (r (6 + k9)), .int (nI i0), .int (nI n0)])).length) Slot.unset).toArray = ls at hl ⊢
  have hl : lv_has ls 6 [(0, .ref (r (6 + k9))), (1, .int (nI i0)), (2, .int (nI n0))] := hl
  refine lv_iconst (v := (nI 0)) hx hb dX9_firstFault_0 rfl ?_
  refine lv_istore_n (lv' := [(3, .int (nI 0)), (0, .ref (r (6 + k9))), (1, .int (nI i0)), (2, .int (nI n0))]) hx hb dX9_firstFault_1 rfl hl (by decide) rfl (fun ls hl => ?_)
  refine wLoop (τ := Nat) (fun z H locs ls => (fun (q : Nat) => (q ≤ n0) ∧ (∀ j9, j9 < q → Gd cd j9) ∧ (va_P D vwCl (xN cA r (u, a, th, LP, tf)) H) ∧ (va_D A (xN cA r (u, a, th, LP, tf))) ∧ (va_S A s.heap H locs) ∧ (lv_has ls 6 [(3, .int (nI q)), (0, .ref (r (6 + k9))), (1, .int (nI i0)), (2, .int (nI n0))])) z) (fun z => (fun (q : Nat) => n0 - q) z) (0) ⟨(show 0 ≤ n0 from Nat.zero_le _), (show ∀ j9, j9 < 0 → Gd cd j9 from (fun j h => absurd h (Nat.not_lt_zero j))), hP, hD, hS, lv_sub hl [0, 1, 2, 3] rfl⟩ ?_
  rintro q H locs ls ⟨hq, hG, hP, hD, hS, hl⟩ ih2
  have hq : q ≤ n0 := hq
  have hG : ∀ j9, j9 < q → Gd cd j9 := hG
  have hP : va_P D vwCl (xN cA r (u, a, th, LP, tf)) H := hP
  have hD : va_D A (xN cA r (u, a, th, LP, tf)) := hD
  have hl : lv_has ls 6 [(3, .int (nI q)), (0, .ref (r (6 + k9))), (1, .int (nI i0)), (2, .int (nI n0))] := hl
  refine lv_iload_n hx hb dX9_firstFault_2 rfl (lv_at hl 0 rfl) ?_
  refine lv_iload_n hx hb dX9_firstFault_3 rfl (lv_at hl 3 rfl) ?_
  refine rn_ge (x := q) (y := n0) (tgt := 85) hx hb (by omega) (by omega) dX9_firstFault_4 (by decide) (fun c_1 => ?_) (fun c_1 => ?_)
  · refine lv_iload_n hx hb dX9_firstFault_85 rfl (lv_at hl 3 rfl) ?_
    refine lv_bipush (v := (nI 9)) hx hb dX9_firstFault_86 rfl ?_
    refine rn_lt (x := n0) (y := 9) (tgt := 104) hx hb (by omega) (by omega) dX9_firstFault_88 (by decide) (fun c_2 => ?_) (fun c_2 => ?_)
    · refine lv_iconst (v := (nI 0)) hx hb dX9_firstFault_104 rfl ?_
      refine lv_istore_n (lv' := [(3, .int (nI 0)), (0, .ref (r (6 + k9))), (1, .int (nI i0)), (2, .int (nI n0))]) hx hb dX9_firstFault_105 rfl hl (by decide) rfl (fun ls hl => ?_)
      refine lv_iload_n hx hb dX9_firstFault_106 rfl (lv_at hl 0 rfl) ?_
      refine lv_if_eq (tgt := 114) hx hb dX9_firstFault_107 (by decide) (fun _ => ?_) (fun c_3 => absurd c_3 (by decide))
      refine lv_iload_n hx hb dX9_firstFault_114 rfl (lv_at hl 3 rfl) ?_
      exact wIret hx hb hr hlocks (v := (nI n0)) (u, a, th, LP, tf) (⟨Or.inr ⟨n0, rfl, ⟨n0, Nat.le_refl _, fun j hj => hG j (by omega), Or.inr (Or.inr ⟨rfl, fun w => by omega, rfl⟩)⟩, Nat.le_refl _⟩, rfl⟩) hK hP hD hS dX9_firstFault_115
    · refine lv_iload_n hx hb dX9_firstFault_91 rfl (lv_at hl 3 rfl) ?_
      refine lv_iconst (v := (nI 2)) hx hb dX9_firstFault_92 rfl ?_
      refine rn_isub (x := n0) (y := 2) hx hb (by omega) dX9_firstFault_93 ?_
      refine lv_bipush (v := (nI 7)) hx hb dX9_firstFault_94 rfl ?_
      refine rn_irem (x := n0 - 2) (y := 7) hx hb (by omega) (by omega) (by omega) dX9_firstFault_96 ?_
      refine rz_ne (x := (n0 - 2) % 7) (tgt := 104) hx hb (by omega) dX9_firstFault_97 (by decide) (fun c_4 => ?_) (fun c_4 => ?_)
      · refine lv_iconst (v := (nI 0)) hx hb dX9_firstFault_104 rfl ?_
        refine lv_istore_n (lv' := [(3, .int (nI 0)), (0, .ref (r (6 + k9))), (1, .int (nI i0)), (2, .int (nI n0))]) hx hb dX9_firstFault_105 rfl hl (by decide) rfl (fun ls hl => ?_)
        refine lv_iload_n hx hb dX9_firstFault_106 rfl (lv_at hl 0 rfl) ?_
        refine lv_if_eq (tgt := 114) hx hb dX9_firstFault_107 (by decide) (fun _ => ?_) (fun c_5 => absurd c_5 (by decide))
        refine lv_iload_n hx hb dX9_firstFault_114 rfl (lv_at hl 3 rfl) ?_
        exact wIret hx hb hr hlocks (v := (nI n0)) (u, a, th, LP, tf) (⟨Or.inr ⟨n0, rfl, ⟨n0, Nat.le_refl _, fun j hj => hG j (by omega), Or.inr (Or.inr ⟨rfl, fun w => by omega, rfl⟩)⟩, Nat.le_refl _⟩, rfl⟩) hK hP hD hS dX9_firstFault_115
      · refine lv_iconst (v := (nI 1)) hx hb dX9_firstFault_100 rfl ?_
        refine lv_goto (tgt := 105) hx hb dX9_firstFault_101 (by decide) ?_
        refine lv_istore_n (lv' := [(3, .int (nI 1)), (0, .ref (r (6 + k9))), (1, .int (nI i0)), (2, .int (nI n0))]) hx hb dX9_firstFault_105 rfl hl (by decide) rfl (fun ls hl => ?_)
        refine lv_iload_n hx hb dX9_firstFault_106 rfl (lv_at hl 0 rfl) ?_
        refine lv_if_eq (tgt := 114) hx hb dX9_firstFault_107 (by decide) (fun c_6 => absurd c_6 (by decide)) (fun _ => ?_)
        refine lv_iconst (v := (-1)) hx hb dX9_firstFault_110 (by decide) ?_
        refine lv_goto (tgt := 115) hx hb dX9_firstFault_111 (by decide) ?_
        exact wIret hx hb hr hlocks (v := (-1)) (u, a, th, LP, tf) (⟨Or.inl ⟨rfl, fun j hj => hG j (by omega), by omega⟩, rfl⟩) hK hP hD hS dX9_firstFault_115
  · refine lv_aload_n hx hb dX9_firstFault_7 rfl (lv_at hl 1 rfl) ?_
    refine lv_iload_n hx hb dX9_firstFault_8 rfl (lv_at hl 2 rfl) ?_
    refine lv_iload_n hx hb dX9_firstFault_9 rfl (lv_at hl 0 rfl) ?_
    refine rn_iadd (x := i0) (y := q) hx hb dX9_firstFault_10 ?_
    refine wVi (eO_S tO) (As := [.int (nI (i0 + q))]) (rest := []) ⟨hx, hb, hml, hown, hts⟩ (kX4_read l D cA r _ u a th LP tf tO k9 Ln (i0 + q) hk9 hln hl60 (by omega)) (cwV 1 hts gX9_firstFault_X4_read rfl rfl rfl (by decide +kernel) ⟨Nat.le_of_ble_eq_true rfl, Nat.le_of_ble_eq_true rfl⟩) (va_recv hK hP (ci := 4) (q0 := (6 + k9)) rfl (WN_o hk9)) hK hP hD hS hA hE rfl hl.1 rfl (Nat.le_of_ble_eq_true rfl) dX9_firstFault_11 ⟨Nat.zero_le _, Nat.zero_le _⟩ (fun rv_7 z_9 H locs hw_8 hP hD hS => ?_)
    obtain ⟨rfl, rfl⟩ := hw_8
    have hP : va_P D vwCl (xN cA r (u, a, th, LP, tf)) H := hP
    have hD : va_D A (xN cA r (u, a, th, LP, tf)) := hD
    refine lv_topi (fun y_10 ey_10 => ?_)
    obtain rfl : y_10 = (cd q) := ey_10.trans (hcd q (by omega))
    refine lv_istore (lv' := [(4, .int (cd q)), (3, .int (nI q)), (0, .ref (r (6 + k9))), (1, .int (nI i0)), (2, .int (nI n0))]) hx hb dX9_firstFault_14 hl (by decide) rfl (fun ls hl => ?_)
    refine lv_iload_n hx hb dX9_firstFault_16 rfl (lv_at hl 1 rfl) ?_
    refine lv_iload hx hb dX9_firstFault_17 (lv_at hl 0 rfl) ?_
    refine wSi (As := [.int (nI q), .int (cd q)]) (rest := []) ⟨hx, hb, hml, hown, hts⟩ (kX9_goesOn l q (cd q) (by omega)) (va_cwS 2 hts gX9_firstFault_X9_goesOn rfl rfl rfl (by decide +kernel) ⟨Nat.le_of_ble_eq_true rfl, Nat.le_of_ble_eq_true rfl⟩) rfl hl.1 rfl (Nat.le_of_ble_eq_true rfl) dX9_firstFault_19 ⟨Nat.zero_le _, Nat.zero_le _⟩ (fun rv_11 hw_12 => ?_)
    rcases hw_12 with ⟨rfl, b_13⟩ | ⟨rfl, b_13⟩
    · refine lv_if_ne (tgt := 27) hx hb dX9_firstFault_22 (by decide) (fun _ => ?_) (fun c_14 => absurd c_14 (by decide))
      refine lv_iload_n hx hb dX9_firstFault_27 rfl (lv_at hl 1 rfl) ?_
      refine lv_iconst (v := (nI 2)) hx hb dX9_firstFault_28 rfl ?_
      refine rn_lt (x := q) (y := 2) (tgt := 46) hx hb (by omega) (by omega) dX9_firstFault_29 (by decide) (fun c_15 => ?_) (fun c_15 => ?_)
      · refine lv_iconst (v := (nI 0)) hx hb dX9_firstFault_46 rfl ?_
        refine lv_istore (lv' := [(5, .int (nI 0)), (4, .int (cd q)), (3, .int (nI q)), (0, .ref (r (6 + k9))), (1, .int (nI i0)), (2, .int (nI n0))]) hx hb dX9_firstFault_47 hl (by decide) rfl (fun ls hl => ?_)
        refine lv_iload hx hb dX9_firstFault_49 (lv_at hl 0 rfl) ?_
        refine lv_if_eq (tgt := 79) hx hb dX9_firstFault_51 (by decide) (fun _ => ?_) (fun c_16 => absurd c_16 (by decide))
        refine rn_iinc (x := q) (d := 1) (lv' := [(3, .int (nI (q + 1))), (5, .int (nI 0)), (4, .int (cd q)), (0, .ref (r (6 + k9))), (1, .int (nI i0)), (2, .int (nI n0))]) hx hb rfl dX9_firstFault_79 hl (k := 2) rfl (by decide) rfl (fun ls hl => ?_)
        refine lv_goto (tgt := 2) hx hb dX9_firstFault_82 (by decide) ?_
        exact ih2 ((q + 1)) _ _ _ (show n0 - (q + 1) < n0 - q from by omega) ⟨(show (q + 1) ≤ n0 from by omega), (show ∀ j9, j9 < (q + 1) → Gd cd j9 from (Gd_ext hG ⟨b_13, Zr_no (by omega)⟩ rfl)), hP, hD, hS, lv_sub hl [0, 3, 4, 5] rfl⟩
      · refine lv_iload_n hx hb dX9_firstFault_32 rfl (lv_at hl 1 rfl) ?_
        refine lv_iconst (v := (nI 2)) hx hb dX9_firstFault_33 rfl ?_
        refine rn_isub (x := q) (y := 2) hx hb (by omega) dX9_firstFault_34 ?_
        refine lv_bipush (v := (nI 7)) hx hb dX9_firstFault_35 rfl ?_
        refine rn_irem (x := q - 2) (y := 7) hx hb (by omega) (by omega) (by omega) dX9_firstFault_37 ?_
        refine lv_iconst (v := (nI 5)) hx hb dX9_firstFault_38 rfl ?_
        refine rn_ne (x := (q - 2) % 7) (y := 5) (tgt := 46) hx hb (by omega) (by omega) dX9_firstFault_39 (by decide) (fun c_17 => ?_) (fun c_17 => ?_)
        · refine lv_iconst (v := (nI 0)) hx hb dX9_firstFault_46 rfl ?_
          refine lv_istore (lv' := [(5, .int (nI 0)), (4, .int (cd q)), (3, .int (nI q)), (0, .ref (r (6 + k9))), (1, .int (nI i0)), (2, .int (nI n0))]) hx hb dX9_firstFault_47 hl (by decide) rfl (fun ls hl => ?_)
          refine lv_iload hx hb dX9_firstFault_49 (lv_at hl 0 rfl) ?_
          refine lv_if_eq (tgt := 79) hx hb dX9_firstFault_51 (by decide) (fun _ => ?_) (fun c_18 => absurd c_18 (by decide))
          refine rn_iinc (x := q) (d := 1) (lv' := [(3, .int (nI (q + 1))), (5, .int (nI 0)), (4, .int (cd q)), (0, .ref (r (6 + k9))), (1, .int (nI i0)), (2, .int (nI n0))]) hx hb rfl dX9_firstFault_79 hl (k := 2) rfl (by decide) rfl (fun ls hl => ?_)
          refine lv_goto (tgt := 2) hx hb dX9_firstFault_82 (by decide) ?_
          exact ih2 ((q + 1)) _ _ _ (show n0 - (q + 1) < n0 - q from by omega) ⟨(show (q + 1) ≤ n0 from by omega), (show ∀ j9, j9 < (q + 1) → Gd cd j9 from (Gd_ext hG ⟨b_13, Zr_no (by omega)⟩ rfl)), hP, hD, hS, lv_sub hl [0, 3, 4, 5] rfl⟩
        · refine lv_iconst (v := (nI 1)) hx hb dX9_firstFault_42 rfl ?_
          refine lv_goto (tgt := 47) hx hb dX9_firstFault_43 (by decide) ?_
          refine lv_istore (lv' := [(5, .int (nI 1)), (4, .int (cd q)), (3, .int (nI q)), (0, .ref (r (6 + k9))), (1, .int (nI i0)), (2, .int (nI n0))]) hx hb dX9_firstFault_47 hl (by decide) rfl (fun ls hl => ?_)
          refine lv_iload hx hb dX9_firstFault_49 (lv_at hl 0 rfl) ?_
          refine lv_if_eq (tgt := 79) hx hb dX9_firstFault_51 (by decide) (fun c_19 => absurd c_19 (by decide)) (fun _ => ?_)
          refine lv_iload hx hb dX9_firstFault_54 (lv_at hl 1 rfl) ?_
          refine lv_bipush (v := (nI 48)) hx hb dX9_firstFault_56 rfl ?_
          refine lv_icmp_ne (tgt := 79) hx hb dX9_firstFault_58 (by decide) (fun c_20 => ?_) (fun c_20 => ?_)
          · refine rn_iinc (x := q) (d := 1) (lv' := [(3, .int (nI (q + 1))), (5, .int (nI 1)), (4, .int (cd q)), (0, .ref (r (6 + k9))), (1, .int (nI i0)), (2, .int (nI n0))]) hx hb rfl dX9_firstFault_79 hl (k := 2) rfl (by decide) rfl (fun ls hl => ?_)
            refine lv_goto (tgt := 2) hx hb dX9_firstFault_82 (by decide) ?_
            exact ih2 ((q + 1)) _ _ _ (show n0 - (q + 1) < n0 - q from by omega) ⟨(show (q + 1) ≤ n0 from by omega), (show ∀ j9, j9 < (q + 1) → Gd cd j9 from (Gd_ext hG ⟨b_13, (fun z => c_20 z.2.2.1)⟩ rfl)), hP, hD, hS, lv_sub hl [0, 3, 4, 5] rfl⟩
          · refine lv_aload_n hx hb dX9_firstFault_61 rfl (lv_at hl 3 rfl) ?_
            refine lv_iload_n hx hb dX9_firstFault_62 rfl (lv_at hl 4 rfl) ?_
            refine lv_iload_n hx hb dX9_firstFault_63 rfl (lv_at hl 2 rfl) ?_
            refine rn_iadd (x := i0) (y := q) hx hb dX9_firstFault_64 ?_
            refine lv_iconst (v := (nI 1)) hx hb dX9_firstFault_65 rfl ?_
            refine rn_isub (x := i0 + q) (y := 1) hx hb (by omega) dX9_firstFault_66 ?_
            refine wVi (eO_S tO) (As := [.int (nI ((i0 + q) - 1))]) (rest := []) ⟨hx, hb, hml, hown, hts⟩ (kX4_read l D cA r _ u a th LP tf tO k9 Ln ((i0 + q) - 1) hk9 hln hl60 (by omega)) (cwV 1 hts gX9_firstFault_X4_read rfl rfl rfl (by decide +kernel) ⟨Nat.le_of_ble_eq_true rfl, Nat.le_of_ble_eq_true rfl⟩) (va_recv hK hP (ci := 4) (q0 := (6 + k9)) rfl (WN_o hk9)) hK hP hD hS hA hE rfl hl.1 rfl (Nat.le_of_ble_eq_true rfl) dX9_firstFault_67 ⟨Nat.zero_le _, Nat.zero_le _⟩ (fun rv_21 z_23 H locs hw_22 hP hD hS => ?_)
            obtain ⟨rfl, rfl⟩ := hw_22
            have hP : va_P D vwCl (xN cA r (u, a, th, LP, tf)) H := hP
            have hD : va_D A (xN cA r (u, a, th, LP, tf)) := hD
            refine lv_topi (fun y_24 ey_24 => ?_)
            obtain rfl : y_24 = (cd (q - 1)) := ey_24.trans (by rw [show (i0 + q) - 1 = i0 + (q - 1) by omega]; exact hcd (q - 1) (by omega))
            refine lv_bipush (v := (nI 48)) hx hb dX9_firstFault_70 rfl ?_
            refine lv_icmp_ne (tgt := 79) hx hb dX9_firstFault_72 (by decide) (fun c_25 => ?_) (fun c_25 => ?_)
            · refine rn_iinc (x := q) (d := 1) (lv' := [(3, .int (nI (q + 1))), (5, .int (nI 1)), (4, .int (cd q)), (0, .ref (r (6 + k9))), (1, .int (nI i0)), (2, .int (nI n0))]) hx hb rfl dX9_firstFault_79 hl (k := 2) rfl (by decide) rfl (fun ls hl => ?_)
              refine lv_goto (tgt := 2) hx hb dX9_firstFault_82 (by decide) ?_
              exact ih2 ((q + 1)) _ _ _ (show n0 - (q + 1) < n0 - q from by omega) ⟨(show (q + 1) ≤ n0 from by omega), (show ∀ j9, j9 < (q + 1) → Gd cd j9 from (Gd_ext hG ⟨b_13, (fun z => c_25 z.2.2.2)⟩ rfl)), hP, hD, hS, lv_sub hl [0, 3, 4, 5] rfl⟩
            · refine lv_iload_n hx hb dX9_firstFault_75 rfl (lv_at hl 2 rfl) ?_
              refine lv_iconst (v := (nI 1)) hx hb dX9_firstFault_76 rfl ?_
              refine rn_isub (x := q) (y := 1) hx hb (by omega) dX9_firstFault_77 ?_
              exact wIret hx hb hr hlocks (v := (nI (q - 1))) (u, a, th, LP, tf) (⟨Or.inr ⟨q - 1, rfl, ⟨q, by omega, hG, Or.inr (Or.inl ⟨by omega, b_13, ⟨by omega, by omega, c_20, c_25⟩, rfl⟩)⟩, by omega⟩, rfl⟩) hK hP hD hS dX9_firstFault_78
    · refine lv_if_ne (tgt := 27) hx hb dX9_firstFault_22 (by decide) (fun c_26 => absurd c_26 (by decide)) (fun _ => ?_)
      refine lv_iload_n hx hb dX9_firstFault_25 rfl (lv_at hl 1 rfl) ?_
      exact wIret hx hb hr hlocks (v := (nI q)) (u, a, th, LP, tf) (⟨Or.inr ⟨q, rfl, ⟨q, by omega, hG, Or.inl ⟨by omega, b_13, rfl⟩⟩, by omega⟩, rfl⟩) hK hP hD hS dX9_firstFault_26
