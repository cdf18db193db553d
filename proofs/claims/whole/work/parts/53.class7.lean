theorem bc_row : ∀ b, b < 64 → (((((((((nI b) - (((Int32.toUInt32 (nI b) >>> (Int32.toUInt32 (nI 1) &&& Int32.toUInt32 31)).toInt32) &&& (nI 1431655765))) &&& (nI 858993459)) + (((Int32.toUInt32 ((nI b) - (((Int32.toUInt32 (nI b) >>> (Int32.toUInt32 (nI 1) &&& Int32.toUInt32 31)).toInt32) &&& (nI 1431655765))) >>> (Int32.toUInt32 (nI 2) &&& Int32.toUInt32 31)).toInt32) &&& (nI 858993459))) + ((Int32.toUInt32 ((((nI b) - (((Int32.toUInt32 (nI b) >>> (Int32.toUInt32 (nI 1) &&& Int32.toUInt32 31)).toInt32) &&& (nI 1431655765))) &&& (nI 858993459)) + (((Int32.toUInt32 ((nI b) - (((Int32.toUInt32 (nI b) >>> (Int32.toUInt32 (nI 1) &&& Int32.toUInt32 31)).toInt32) &&& (nI 1431655765))) >>> (Int32.toUInt32 (nI 2) &&& Int32.toUInt32 31)).toInt32) &&& (nI 858993459))) >>> (Int32.toUInt32 (nI 4) &&& Int32.toUInt32 31)).toInt32)) &&& (nI 252645135)) + ((Int32.toUInt32 ((((((nI b) - (((Int32.toUInt32 (nI b) >>> (Int32.toUInt32 (nI 1) &&& Int32.toUInt32 31)).toInt32) &&& (nI 1431655765))) &&& (nI 858993459)) + (((Int32.toUInt32 ((nI b) - (((Int32.toUInt32 (nI b) >>> (Int32.toUInt32 (nI 1) &&& Int32.toUInt32 31)).toInt32) &&& (nI 1431655765))) >>> (Int32.toUInt32 (nI 2) &&& Int32.toUInt32 31)).toInt32) &&& (nI 858993459))) + ((Int32.toUInt32 ((((nI b) - (((Int32.toUInt32 (nI b) >>> (Int32.toUInt32 (nI 1) &&& Int32.toUInt32 31)).toInt32) &&& (nI 1431655765))) &&& (nI 858993459)) + (((Int32.toUInt32 ((nI b) - (((Int32.toUInt32 (nI b) >>> (Int32.toUInt32 (nI 1) &&& Int32.toUInt32 31)).toInt32) &&& (nI 1431655765))) >>> (Int32.toUInt32 (nI 2) &&& Int32.toUInt32 31)).toInt32) &&& (nI 858993459))) >>> (Int32.toUInt32 (nI 4) &&& Int32.toUInt32 31)).toInt32)) &&& (nI 252645135)) >>> (Int32.toUInt32 (nI 8) &&& Int32.toUInt32 31)).toInt32)) + ((Int32.toUInt32 (((((((nI b) - (((Int32.toUInt32 (nI b) >>> (Int32.toUInt32 (nI 1) &&& Int32.toUInt32 31)).toInt32) &&& (nI 1431655765))) &&& (nI 858993459)) + (((Int32.toUInt32 ((nI b) - (((Int32.toUInt32 (nI b) >>> (Int32.toUInt32 (nI 1) &&& Int32.toUInt32 31)).toInt32) &&& (nI 1431655765))) >>> (Int32.toUInt32 (nI 2) &&& Int32.toUInt32 31)).toInt32) &&& (nI 858993459))) + ((Int32.toUInt32 ((((nI b) - (((Int32.toUInt32 (nI b) >>> (Int32.toUInt32 (nI 1) &&& Int32.toUInt32 31)).toInt32) &&& (nI 1431655765))) &&& (nI 858993459)) + (((Int32.toUInt32 ((nI b) - (((Int32.toUInt32 (nI b) >>> (Int32.toUInt32 (nI 1) &&& Int32.toUInt32 31)).toInt32) &&& (nI 1431655765))) >>> (Int32.toUInt32 (nI 2) &&& Int32.toUInt32 31)).toInt32) &&& (nI 858993459))) >>> (Int32.toUInt32 (nI 4) &&& Int32.toUInt32 31)).toInt32)) &&& (nI 252645135)) + ((Int32.toUInt32 ((((((nI b) - (((Int32.toUInt32 (nI b) >>> (Int32.toUInt32 (nI 1) &&& Int32.toUInt32 31)).toInt32) &&& (nI 1431655765))) &&& (nI 858993459)) + (((Int32.toUInt32 ((nI b) - (((Int32.toUInt32 (nI b) >>> (Int32.toUInt32 (nI 1) &&& Int32.toUInt32 31)).toInt32) &&& (nI 1431655765))) >>> (Int32.toUInt32 (nI 2) &&& Int32.toUInt32 31)).toInt32) &&& (nI 858993459))) + ((Int32.toUInt32 ((((nI b) - (((Int32.toUInt32 (nI b) >>> (Int32.toUInt32 (nI 1) &&& Int32.toUInt32 31)).toInt32) &&& (nI 1431655765))) &&& (nI 858993459)) + (((Int32.toUInt32 ((nI b) - (((Int32.toUInt32 (nI b) >>> (Int32.toUInt32 (nI 1) &&& Int32.toUInt32 31)).toInt32) &&& (nI 1431655765))) >>> (Int32.toUInt32 (nI 2) &&& Int32.toUInt32 31)).toInt32) &&& (nI 858993459))) >>> (Int32.toUInt32 (nI 4) &&& Int32.toUInt32 31)).toInt32)) &&& (nI 252645135)) >>> (Int32.toUInt32 (nI 8) &&& Int32.toUInt32 31)).toInt32)) >>> (Int32.toUInt32 (nI 16) &&& Int32.toUInt32 31)).toInt32)) &&& (nI 63)) = nI (sb b 6) := by decide +kernel
theorem cb_push {cb k L : Nat} {ro : Nat → Nat} (hcb : cb < 64) (h : ∀ x, x < 6 → (bi cb x = 1 ↔ ∃ j, j < k ∧ ro (j % L) = x)) (hr : ro (k % L) < 6) : ∀ x, x < 6 → (bi (cb ||| 2 ^ (ro (k % L))) x = 1 ↔ ∃ j, j < k + 1 ∧ ro (j % L) = x) := fun x hx => by
  rw [or_bi _ hcb _ hr x hx]
  by_cases e : x = ro (k % L)
  · rw [if_pos e]; exact ⟨fun _ => ⟨k, by omega, e.symm⟩, fun _ => rfl⟩
  · rw [if_neg e, h x hx]
    constructor
    · rintro ⟨j, hj, q⟩; exact ⟨j, by omega, q⟩
    · rintro ⟨j, hj, q⟩
      refine ⟨j, ?_, q⟩
      rcases Nat.lt_or_ge j k with w | w
      · exact w
      · exact absurd (by rw [← q, show j = k by omega]) e
set_option maxHeartbeats 4000000 in
set_option maxRecDepth 100000 in
theorem kJ6_bitCount_0f7a4 (l : Launch) (b : Nat) (hb64 : b < 64) : Met l yJ6_bitCount_0f7a4 wsJ6_bitCount_0f7a4 ({ frames := 0, cells := 0, slots := 0, locals := 0 } : Room) (va_Pc [.int (nI b)] (fun _ => True)) (vp_Si (fun v => v = nI (sb b 6))) 0 0 (fun _ => False) := by
  refine Met.ofW (cc := cJ6_bitCount_0f7a4) (maxL := 1) (ret := (some .int)) (by decide) rfl ?_
  intro p e s m args below meth c s₁ B hml hv
  obtain ⟨rfl, -⟩ := hv
  have hx := B.exec
  have hb := B.bytes
  have hr := B.returns
  have hts := atoms_spec (ws := wsJ6_bitCount_0f7a4) B.pre
  have hown : s.vm.findClass RJ6 = some m.cls := findClass_of_methodNamed B.named
  have hlocks := B.notSynchronized
  have hl := lv_entry ([.int (nI b)]) (n := 1) (Nat.le_of_ble_eq_true rfl)
  rw [lg_entry_eq]
  generalize (lg_sl ([.int (nI b)]) ++ List.replicate (1 - (lg_sl ([.int (nI b)])).length) Slot.unset).toArray = ls at hl ⊢
  have hl : lv_has ls 1 [(0, .int (nI b))] := hl
  refine lv_iload_n hx hb dJ6_bitCount_0f7a4_0 rfl (lv_at hl 0 rfl) ?_
  refine lv_iload_n hx hb dJ6_bitCount_0f7a4_1 rfl (lv_at hl 0 rfl) ?_
  refine lv_iconst (v := (nI 1)) hx hb dJ6_bitCount_0f7a4_2 rfl ?_
  refine lv_iushr (v := ((Int32.toUInt32 (nI b) >>> (Int32.toUInt32 (nI 1) &&& Int32.toUInt32 31)).toInt32)) hx hb dJ6_bitCount_0f7a4_3 rfl ?_
  refine lv_ldcw (v := 1431655765) hx hb hown (hts (.constant RJ6 265 (1431655765)) (by decide +kernel)) dJ6_bitCount_0f7a4_4 ?_
  refine lv_iand hx hb dJ6_bitCount_0f7a4_7 ?_
  refine lv_isub hx hb dJ6_bitCount_0f7a4_8 ?_
  refine lv_istore_n (lv' := [(0, .int ((nI b) - (((Int32.toUInt32 (nI b) >>> (Int32.toUInt32 (nI 1) &&& Int32.toUInt32 31)).toInt32) &&& (nI 1431655765))))]) hx hb dJ6_bitCount_0f7a4_9 rfl hl (by decide) rfl (fun ls hl => ?_)
  refine lv_iload_n hx hb dJ6_bitCount_0f7a4_10 rfl (lv_at hl 0 rfl) ?_
  refine lv_ldcw (v := 858993459) hx hb hown (hts (.constant RJ6 266 (858993459)) (by decide +kernel)) dJ6_bitCount_0f7a4_11 ?_
  refine lv_iand hx hb dJ6_bitCount_0f7a4_14 ?_
  refine lv_iload_n hx hb dJ6_bitCount_0f7a4_15 rfl (lv_at hl 0 rfl) ?_
  refine lv_iconst (v := (nI 2)) hx hb dJ6_bitCount_0f7a4_16 rfl ?_
  refine lv_iushr (v := ((Int32.toUInt32 ((nI b) - (((Int32.toUInt32 (nI b) >>> (Int32.toUInt32 (nI 1) &&& Int32.toUInt32 31)).toInt32) &&& (nI 1431655765))) >>> (Int32.toUInt32 (nI 2) &&& Int32.toUInt32 31)).toInt32)) hx hb dJ6_bitCount_0f7a4_17 rfl ?_
  refine lv_ldcw (v := 858993459) hx hb hown (hts (.constant RJ6 266 (858993459)) (by decide +kernel)) dJ6_bitCount_0f7a4_18 ?_
  refine lv_iand hx hb dJ6_bitCount_0f7a4_21 ?_
  refine lv_iadd hx hb dJ6_bitCount_0f7a4_22 ?_
  refine lv_istore_n (lv' := [(0, .int ((((nI b) - (((Int32.toUInt32 (nI b) >>> (Int32.toUInt32 (nI 1) &&& Int32.toUInt32 31)).toInt32) &&& (nI 1431655765))) &&& (nI 858993459)) + (((Int32.toUInt32 ((nI b) - (((Int32.toUInt32 (nI b) >>> (Int32.toUInt32 (nI 1) &&& Int32.toUInt32 31)).toInt32) &&& (nI 1431655765))) >>> (Int32.toUInt32 (nI 2) &&& Int32.toUInt32 31)).toInt32) &&& (nI 858993459))))]) hx hb dJ6_bitCount_0f7a4_23 rfl hl (by decide) rfl (fun ls hl => ?_)
  refine lv_iload_n hx hb dJ6_bitCount_0f7a4_24 rfl (lv_at hl 0 rfl) ?_
  refine lv_iload_n hx hb dJ6_bitCount_0f7a4_25 rfl (lv_at hl 0 rfl) ?_
  refine lv_iconst (v := (nI 4)) hx hb dJ6_bitCount_0f7a4_26 rfl ?_
  refine lv_iushr (v := ((Int32.toUInt32 ((((nI b) - (((Int32.toUInt32 (nI b) >>> (Int32.toUInt32 (nI 1) &&& Int32.toUInt32 31)).toInt32) &&& (nI 1431655765))) &&& (nI 858993459)) + (((Int32.toUInt32 ((nI b) - (((Int32.toUInt32 (nI b) >>> (Int32.toUInt32 (nI 1) &&& Int32.toUInt32 31)).toInt32) &&& (nI 1431655765))) >>> (Int32.toUInt32 (nI 2) &&& Int32.toUInt32 31)).toInt32) &&& (nI 858993459))) >>> (Int32.toUInt32 (nI 4) &&& Int32.toUInt32 31)).toInt32)) hx hb dJ6_bitCount_0f7a4_27 rfl ?_
  refine lv_iadd hx hb dJ6_bitCount_0f7a4_28 ?_
  refine lv_ldcw (v := 252645135) hx hb hown (hts (.constant RJ6 267 (252645135)) (by decide +kernel)) dJ6_bitCount_0f7a4_29 ?_
  refine lv_iand hx hb dJ6_bitCount_0f7a4_32 ?_
  refine lv_istore_n (lv' := [(0, .int ((((((nI b) - (((Int32.toUInt32 (nI b) >>> (Int32.toUInt32 (nI 1) &&& Int32.toUInt32 31)).toInt32) &&& (nI 1431655765))) &&& (nI 858993459)) + (((Int32.toUInt32 ((nI b) - (((Int32.toUInt32 (nI b) >>> (Int32.toUInt32 (nI 1) &&& Int32.toUInt32 31)).toInt32) &&& (nI 1431655765))) >>> (Int32.toUInt32 (nI 2) &&& Int32.toUInt32 31)).toInt32) &&& (nI 858993459))) + ((Int32.toUInt32 ((((nI b) - (((Int32.toUInt32 (nI b) >>> (Int32.toUInt32 (nI 1) &&& Int32.toUInt32 31)).toInt32) &&& (nI 1431655765))) &&& (nI 858993459)) + (((Int32.toUInt32 ((nI b) - (((Int32.toUInt32 (nI b) >>> (Int32.toUInt32 (nI 1) &&& Int32.toUInt32 31)).toInt32) &&& (nI 1431655765))) >>> (Int32.toUInt32 (nI 2) &&& Int32.toUInt32 31)).toInt32) &&& (nI 858993459))) >>> (Int32.toUInt32 (nI 4) &&& Int32.toUInt32 31)).toInt32)) &&& (nI 252645135)))]) hx hb dJ6_bitCount_0f7a4_33 rfl hl (by decide) rfl (fun ls hl => ?_)
  refine lv_iload_n hx hb dJ6_bitCount_0f7a4_34 rfl (lv_at hl 0 rfl) ?_
  refine lv_iload_n hx hb dJ6_bitCount_0f7a4_35 rfl (lv_at hl 0 rfl) ?_
  refine lv_bipush (v := (nI 8)) hx hb dJ6_bitCount_0f7a4_36 rfl ?_
  refine lv_iushr (v := ((Int32.toUInt32 ((((((nI b) - (((Int32.toUInt32 (nI b) >>> (Int32.toUInt32 (nI 1) &&& Int32.toUInt32 31)).toInt32) &&& (nI 1431655765))) &&& (nI 858993459)) + (((Int32.toUInt32 ((nI b) - (((Int32.toUInt32 (nI b) >>> (Int32.toUInt32 (nI 1) &&& Int32.toUInt32 31)).toInt32) &&& (nI 1431655765))) >>> (Int32.toUInt32 (nI 2) &&& Int32.toUInt32 31)).toInt32) &&& (nI 858993459))) + ((Int32.toUInt32 ((((nI b) - (((Int32.toUInt32 (nI b) >>> (Int32.toUInt32 (nI 1) &&& Int32.toUInt32 31)).toInt32) &&& (nI 1431655765))) &&& (nI 858993459)) + (((Int32.toUInt32 ((nI b) - (((Int32.toUInt32 (nI b) >>> (Int32.toUInt32 (nI 1) &&& Int32.toUInt32 31)).toInt32) &&& (nI 1431655765))) >>> (Int32.toUInt32 (nI 2) &&& Int32.toUInt32 31)).toInt32) &&& (nI 858993459))) >>> (Int32.toUInt32 (nI 4) &&& Int32.toUInt32 31)).toInt32)) &&& (nI 252645135)) >>> (Int32.toUInt32 (nI 8) &&& Int32.toUInt32 31)).toInt32)) hx hb dJ6_bitCount_0f7a4_38 rfl ?_
  refine lv_iadd hx hb dJ6_bitCount_0f7a4_39 ?_
  refine lv_istore_n (lv' := [(0, .int (((((((nI b) - (((Int32.toUInt32 (nI b) >>> (Int32.toUInt32 (nI 1) &&& Int32.toUInt32 31)).toInt32) &&& (nI 1431655765))) &&& (nI 858993459)) + (((Int32.toUInt32 ((nI b) - (((Int32.toUInt32 (nI b) >>> (Int32.toUInt32 (nI 1) &&& Int32.toUInt32 31)).toInt32) &&& (nI 1431655765))) >>> (Int32.toUInt32 (nI 2) &&& Int32.toUInt32 31)).toInt32) &&& (nI 858993459))) + ((Int32.toUInt32 ((((nI b) - (((Int32.toUInt32 (nI b) >>> (Int32.toUInt32 (nI 1) &&& Int32.toUInt32 31)).toInt32) &&& (nI 1431655765))) &&& (nI 858993459)) + (((Int32.toUInt32 ((nI b) - (((Int32.toUInt32 (nI b) >>> (Int32.toUInt32 (nI 1) &&& Int32.toUInt32 31)).toInt32) &&& (nI 1431655765))) >>> (Int32.toUInt32 (nI 2) &&& Int32.toUInt32 31)).toInt32) &&& (nI 858993459))) >>> (Int32.toUInt32 (nI 4) &&& Int32.toUInt32 31)).toInt32)) &&& (nI 252645135)) + ((Int32.toUInt32 ((((((nI b) - (((Int32.toUInt32 (nI b) >>> (Int32.toUInt32 (nI 1) &&& Int32.toUInt32 31)).toInt32) &&& (nI 1431655765))) &&& (nI 858993459)) + (((Int32.toUInt32 ((nI b) - (((Int32.toUInt32 (nI b) >>> (Int32.toUInt32 (nI 1) &&& Int32.toUInt32 31)).toInt32) &&& (nI 1431655765))) >>> (Int32.toUInt32 (nI 2) &&& Int32.toUInt32 31)).toInt32) &&& (nI 858993459))) + ((Int32.toUInt32 ((((nI b) - (((Int32.toUInt32 (nI b) >>> (Int32.toUInt32 (nI 1) &&& Int32.toUInt32 31)).toInt32) &&& (nI 1431655765))) &&& (nI 858993459)) + (((Int32.toUInt32 ((nI b) - (((Int32.toUInt32 (nI b) >>> (Int32.toUInt32 (nI 1) &&& Int32.toUInt32 31)).toInt32) &&& (nI 1431655765))) >>> (Int32.toUInt32 (nI 2) &&& Int32.toUInt32 31)).toInt32) &&& (nI 858993459))) >>> (Int32.toUInt32 (nI 4) &&& Int32.toUInt32 31)).toInt32)) &&& (nI 252645135)) >>> (Int32.toUInt32 (nI 8) &&& Int32.toUInt32 31)).toInt32)))]) hx hb dJ6_bitCount_0f7a4_40 rfl hl (by decide) rfl (fun ls hl => ?_)
  refine lv_iload_n hx hb dJ6_bitCount_0f7a4_41 rfl (lv_at hl 0 rfl) ?_
  refine lv_iload_n hx hb dJ6_bitCount_0f7a4_42 rfl (lv_at hl 0 rfl) ?_
  refine lv_bipush (v := (nI 16)) hx hb dJ6_bitCount_0f7a4_43 rfl ?_
  refine lv_iushr (v := ((Int32.toUInt32 (((((((nI b) - (((Int32.toUInt32 (nI b) >>> (Int32.toUInt32 (nI 1) &&& Int32.toUInt32 31)).toInt32) &&& (nI 1431655765))) &&& (nI 858993459)) + (((Int32.toUInt32 ((nI b) - (((Int32.toUInt32 (nI b) >>> (Int32.toUInt32 (nI 1) &&& Int32.toUInt32 31)).toInt32) &&& (nI 1431655765))) >>> (Int32.toUInt32 (nI 2) &&& Int32.toUInt32 31)).toInt32) &&& (nI 858993459))) + ((Int32.toUInt32 ((((nI b) - (((Int32.toUInt32 (nI b) >>> (Int32.toUInt32 (nI 1) &&& Int32.toUInt32 31)).toInt32) &&& (nI 1431655765))) &&& (nI 858993459)) + (((Int32.toUInt32 ((nI b) - (((Int32.toUInt32 (nI b) >>> (Int32.toUInt32 (nI 1) &&& Int32.toUInt32 31)).toInt32) &&& (nI 1431655765))) >>> (Int32.toUInt32 (nI 2) &&& Int32.toUInt32 31)).toInt32) &&& (nI 858993459))) >>> (Int32.toUInt32 (nI 4) &&& Int32.toUInt32 31)).toInt32)) &&& (nI 252645135)) + ((Int32.toUInt32 ((((((nI b) - (((Int32.toUInt32 (nI b) >>> (Int32.toUInt32 (nI 1) &&& Int32.toUInt32 31)).toInt32) &&& (nI 1431655765))) &&& (nI 858993459)) + (((Int32.toUInt32 ((nI b) - (((Int32.toUInt32 (nI b) >>> (Int32.toUInt32 (nI 1) &&& Int32.toUInt32 31)).toInt32) &&& (nI 1431655765))) >>> (Int32.toUInt32 (nI 2) &&& Int32.toUInt32 31)).toInt32) &&& (nI 858993459))) + ((Int32.toUInt32 ((((nI b) - (((Int32.toUInt32 (nI b) >>> (Int32.toUInt32 (nI 1) &&& Int32.toUInt32 31)).toInt32) &&& (nI 1431655765))) &&& (nI 858993459)) + (((Int32.toUInt32 ((nI b) - (((Int32.toUInt32 (nI b) >>> (Int32.toUInt32 (nI 1) &&& Int32.toUInt32 31)).toInt32) &&& (nI 1431655765))) >>> (Int32.toUInt32 (nI 2) &&& Int32.toUInt32 31)).toInt32) &&& (nI 858993459))) >>> (Int32.toUInt32 (nI 4) &&& Int32.toUInt32 31)).toInt32)) &&& (nI 252645135)) >>> (Int32.toUInt32 (nI 8) &&& Int32.toUInt32 31)).toInt32)) >>> (Int32.toUInt32 (nI 16) &&& Int32.toUInt32 31)).toInt32)) hx hb dJ6_bitCount_0f7a4_45 rfl ?_
  refine lv_iadd hx hb dJ6_bitCount_0f7a4_46 ?_
  refine lv_istore_n (lv' := [(0, .int ((((((((nI b) - (((Int32.toUInt32 (nI b) >>> (Int32.toUInt32 (nI 1) &&& Int32.toUInt32 31)).toInt32) &&& (nI 1431655765))) &&& (nI 858993459)) + (((Int32.toUInt32 ((nI b) - (((Int32.toUInt32 (nI b) >>> (Int32.toUInt32 (nI 1) &&& Int32.toUInt32 31)).toInt32) &&& (nI 1431655765))) >>> (Int32.toUInt32 (nI 2) &&& Int32.toUInt32 31)).toInt32) &&& (nI 858993459))) + ((Int32.toUInt32 ((((nI b) - (((Int32.toUInt32 (nI b) >>> (Int32.toUInt32 (nI 1) &&& Int32.toUInt32 31)).toInt32) &&& (nI 1431655765))) &&& (nI 858993459)) + (((Int32.toUInt32 ((nI b) - (((Int32.toUInt32 (nI b) >>> (Int32.toUInt32 (nI 1) &&& Int32.toUInt32 31)).toInt32) &&& (nI 1431655765))) >>> (Int32.toUInt32 (nI 2) &&& Int32.toUInt32 31)).toInt32) &&& (nI 858993459))) >>> (Int32.toUInt32 (nI 4) &&& Int32.toUInt32 31)).toInt32)) &&& (nI 252645135)) + ((Int32.toUInt32 ((((((nI b) - (((Int32.toUInt32 (nI b) >>> (Int32.toUInt32 (nI 1) &&& Int32.toUInt32 31)).toInt32) &&& (nI 1431655765))) &&& (nI 858993459)) + (((Int32.toUInt32 ((nI b) - (((Int32.toUInt32 (nI b) >>> (Int32.toUInt32 (nI 1) &&& Int32.toUInt32 31)).toInt32) &&& (nI 1431655765))) >>> (Int32.toUInt32 (nI 2) &&& Int32.toUInt32 31)).toInt32) &&& (nI 858993459))) + ((Int32.toUInt32 ((((nI b) - (((Int32.toUInt32 (nI b) >>> (Int32.toUInt32 (nI 1) &&& Int32.toUInt32 31)).toInt32) &&& (nI 1431655765))) &&& (nI 858993459)) + (((Int32.toUInt32 ((nI b) - (((Int32.toUInt32 (nI b) >>> (Int32.toUInt32 (nI 1) &&& Int32.toUInt32 31)).toInt32) &&& (nI 1431655765))) >>> (Int32.toUInt32 (nI 2) &&& Int32.toUInt32 31)).toInt32) &&& (nI 858993459))) >>> (Int32.toUInt32 (nI 4) &&& Int32.toUInt32 31)).toInt32)) &&& (nI 252645135)) >>> (Int32.toUInt32 (nI 8) &&& Int32.toUInt32 31)).toInt32)) + ((Int32.toUInt32 (((((((nI b) - (((Int32.toUInt32 (nI b) >>> (Int32.toUInt32 (nI 1) &&& Int32.toUInt32 31)).toInt32) &&& (nI 1431655765))) &&& (nI 858993459)) + (((Int32.toUInt32 ((nI b) - (((Int32.toUInt32 (nI b) >>> (Int32.toUInt32 (nI 1) &&& Int32.toUInt32 31)).toInt32) &&& (nI 1431655765))) >>> (Int32.toUInt32 (nI 2) &&& Int32.toUInt32 31)).toInt32) &&& (nI 858993459))) + ((Int32.toUInt32 ((((nI b) - (((Int32.toUInt32 (nI b) >>> (Int32.toUInt32 (nI 1) &&& Int32.toUInt32 31)).toInt32) &&& (nI 1431655765))) &&& (nI 858993459)) + (((Int32.toUInt32 ((nI b) - (((Int32.toUInt32 (nI b) >>> (Int32.toUInt32 (nI 1) &&& Int32.toUInt32 31)).toInt32) &&& (nI 1431655765))) >>> (Int32.toUInt32 (nI 2) &&& Int32.toUInt32 31)).toInt32) &&& (nI 858993459))) >>> (Int32.toUInt32 (nI 4) &&& Int32.toUInt32 31)).toInt32)) &&& (nI 252645135)) + ((Int32.toUInt32 ((((((nI b) - (((Int32.toUInt32 (nI b) >>> (Int32.toUInt32 (nI 1) &&& Int32.toUInt32 31)).toInt32) &&& (nI 1431655765))) &&& (nI 858993459)) + (((Int32.toUInt32 ((nI b) - (((Int32.toUInt32 (nI b) >>> (Int32.toUInt32 (nI 1) &&& Int32.toUInt32 31)).toInt32) &&& (nI 1431655765))) >>> (Int32.toUInt32 (nI 2) &&& Int32.toUInt32 31)).toInt32) &&& (nI 858993459))) + ((Int32.toUInt32 ((((nI b) - (((Int32.toUInt32 (nI b) >>> (Int32.toUInt32 (nI 1) &&& Int32.toUInt32 31)).toInt32) &&& (nI 1431655765))) &&& (nI 858993459)) + (((Int32.toUInt32 ((nI b) - (((Int32.toUInt32 (nI b) >>> (Int32.toUInt32 (nI 1) &&& Int32.toUInt32 31)).toInt32) &&& (nI 1431655765))) >>> (Int32.toUInt32 (nI 2) &&& Int32.toUInt32 31)).toInt32) &&& (nI 858993459))) >>> (Int32.toUInt32 (nI 4) &&& Int32.toUInt32 31)).toInt32)) &&& (nI 252645135)) >>> (Int32.toUInt32 (nI 8) &&& Int32.toUInt32 31)).toInt32)) >>> (Int32.toUInt32 (nI 16) &&& Int32.toUInt32 31)).toInt32)))]) hx hb dJ6_bitCount_0f7a4_47 rfl hl (by decide) rfl (fun ls hl => ?_)
  refine lv_iload_n hx hb dJ6_bitCount_0f7a4_48 rfl (lv_at hl 0 rfl) ?_
  refine lv_bipush (v := (nI 63)) hx hb dJ6_bitCount_0f7a4_49 rfl ?_
  refine lv_iand hx hb dJ6_bitCount_0f7a4_51 ?_
  refine lv_topi (fun y_1 ey_1 => ?_)
  obtain rfl : y_1 = (nI (sb b 6)) := ey_1.trans (bc_row b hb64)
  exact wSret hx hb hr hlocks (v := (nI (sb b 6))) (rfl) dJ6_bitCount_0f7a4_52

set_option maxHeartbeats 4000000 in
set_option maxRecDepth 100000 in
theorem kX5_all (l : Launch) (D : va_G) (cA : Nat → ClassId) (r : Nat → Nat) (sz : Nat) (u : Nat → Int32) (a : Nat → Nat → Int32) (th : Nat → Option Nat) (LP : List Nat) (tf : Nat → va_E) (tO : Nat) (g : Nat → Nat) (T : Nat → Nat → Nat) (hM : NT u a g T) (hB : TB g T) : Met l yX5_all wsX5_all ({ frames := 0, cells := 0, slots := 0, locals := 0 } : Room) (va_Pc [.ref (r 1)] (wA D vwCl (tyA cA) (eO tO) (xN cA r) (u, a, th, LP, tf) sz)) (va_Qi (fun (v : Int32) (z : sN) => v = nI (2 ^ g 0 - 1) ∧ z = (u, a, th, LP, tf)) (wB D vwCl (tyA cA) (xN cA r) (va_A (xN cA r (u, a, th, LP, tf)) sz)) (va_A (xN cA r (u, a, th, LP, tf)) sz)) 0 0 (va_A (xN cA r (u, a, th, LP, tf)) sz) := by
  refine Met.ofW (cc := cX5_all) (maxL := 1) (ret := (some .int)) (by decide) rfl ?_
  intro p e s m args below meth c s₁ B hml hv
  obtain ⟨rfl, hsz, hP, hK, hD0, hE⟩ := hv
  have hx := B.exec
  have hb := B.bytes
  have hr := B.returns
  have hts := atoms_spec (ws := wsX5_all) B.pre
  have hown : s.vm.findClass RX5 = some m.cls := findClass_of_methodNamed B.named
  have hlocks := B.notSynchronized
  subst hsz
  have hD := hD0.self (sz := s.heap.size)
  generalize hAe : va_A (xN cA r (u, a, th, LP, tf)) s.heap.size = A at hD hE ⊢
  have hA : ∀ q : Nat, s.heap.size ≤ q → A q := fun q h => by rw [← hAe]; exact Or.inr h
  have hS : va_S A s.heap s.heap [] := va_S.rf
  have hinX5 : ∀ w ∈ u_ws RX5 TX5 8, w ∈ wsX5_all := by decide +kernel
  have hl := lv_entry ([.ref (r 1)]) (n := 1) (Nat.le_of_ble_eq_true rfl)
  rw [lg_entry_eq]
  generalize (lg_sl ([.ref (r 1)]) ++ List.replicate (1 - (lg_sl ([.ref (r 1)])).length) Slot.unset).toArray = ls at hl ⊢
  have hl : lv_has ls 1 [(0, .ref (r 1))] := hl
  refine lv_iconst (v := (nI 1)) hx hb dX5_all_0 rfl ?_
  refine lv_aload_n hx hb dX5_all_1 rfl (lv_at hl 0 rfl) ?_
  refine va_get (D := D) (ci := 5) (v := .int (nI (g 0))) (C := RX5) (T := TX5) (N := 8) hx hb hts hinX5 hown hK hP 1 rfl rfl 0 (by decide) (hts (.fieldLink RX5 9 "OneNail$Street" "count" "I") (by decide +kernel)) (fun _ h9 => h9) (congrArg (fun z => some (Value.int z)) (hM.1)) dX5_all_2 ?_
  refine lv_ishl hx hb dX5_all_5 ?_
  refine lv_iconst (v := (nI 1)) hx hb dX5_all_6 rfl ?_
  refine lv_isub hx hb dX5_all_7 ?_
  exact wIret hx hb hr hlocks (v := (((nI 1) <<< ((nI (g 0)) &&& 31)) - (nI 1))) (u, a, th, LP, tf) (⟨all_row (g 0) hB.1, rfl⟩) hK hP hD hS dX5_all_8

set_option maxHeartbeats 4000000 in
set_option maxRecDepth 100000 in
theorem kX5_has (l : Launch) (D : va_G) (cA : Nat → ClassId) (r : Nat → Nat) (sz : Nat) (u : Nat → Int32) (a : Nat → Nat → Int32) (th : Nat → Option Nat) (LP : List Nat) (tf : Nat → va_E) (tO : Nat) (g : Nat → Nat) (T : Nat → Nat → Nat) (x : Int32) (hM : NT u a g T) (hB : TB g T) : Met l yX5_has wsX5_has ({ frames := 0, cells := 0, slots := 0, locals := 0 } : Room) (va_Pc [.ref (r 1), .int x] (wA D vwCl (tyA cA) (eO tO) (xN cA r) (u, a, th, LP, tf) sz)) (va_Qi (fun (v : Int32) (z : sN) => z = (u, a, th, LP, tf) ∧ ((v = nI 1 ∧ ∃ j : Nat, j < g 0 ∧ x = nI j) ∨ (v = nI 0 ∧ ¬ ∃ j : Nat, j < g 0 ∧ x = nI j))) (wB D vwCl (tyA cA) (xN cA r) (va_A (xN cA r (u, a, th, LP, tf)) sz)) (va_A (xN cA r (u, a, th, LP, tf)) sz)) 0 0 (va_A (xN cA r (u, a, th, LP, tf)) sz) := by
  refine Met.ofW (cc := cX5_has) (maxL := 2) (ret := (some .boolean)) (by decide) rfl ?_
  intro p e s m args below meth c s₁ B hml hv
  obtain ⟨rfl, hsz, hP, hK, hD0, hE⟩ := hv
  have hx := B.exec
  have hb := B.bytes
  have hr := B.returns
  have hts := atoms_spec (ws := wsX5_has) B.pre
  have hown : s.vm.findClass RX5 = some m.cls := findClass_of_methodNamed B.named
  have hlocks := B.notSynchronized
  subst hsz
  have hD := hD0.self (sz := s.heap.size)
  generalize hAe : va_A (xN cA r (u, a, th, LP, tf)) s.heap.size = A at hD hE ⊢
  have hA : ∀ q : Nat, s.heap.size ≤ q → A q := fun q h => by rw [← hAe]; exact Or.inr h
  have hS : va_S A s.heap s.heap [] := va_S.rf
  have hinX5 : ∀ w ∈ u_ws RX5 TX5 8, w ∈ wsX5_has := by decide +kernel
  have hl := lv_entry ([.ref (r 1), .int x]) (n := 2) (Nat.le_of_ble_eq_true rfl)
  rw [lg_entry_eq]
  generalize (lg_sl ([.ref (r 1), .int x]) ++ List.replicate (2 - (lg_sl ([.ref (r 1), .int x])).length) Slot.unset).toArray = ls at hl ⊢
  have hl : lv_has ls 2 [(0, .ref (r 1)), (1, .int x)] := hl
  have hg6 := hB.1
  refine lv_iload_n hx hb dX5_has_0 rfl (lv_at hl 1 rfl) ?_
  refine lv_if_lt (tgt := 16) hx hb dX5_has_1 (by decide) (fun c_1 => ?_) (fun c_1 => ?_)
  · refine lv_iconst (v := (nI 0)) hx hb dX5_has_16 rfl ?_
    exact wZret hx hb hr hlocks (v := (nI 0)) (by first | exact Or.inl rfl | exact Or.inr rfl) (u, a, th, LP, tf) (⟨rfl, by first | exact Or.inl ⟨rfl, th_in (by omega) (by assumption) (by assumption)⟩ | exact Or.inr ⟨rfl, th_out1 (by omega) (by assumption)⟩ | exact Or.inr ⟨rfl, th_out2 (by omega) (by assumption)⟩⟩) hK hP hD hS dX5_has_17
  · refine lv_iload_n hx hb dX5_has_4 rfl (lv_at hl 1 rfl) ?_
    refine lv_aload_n hx hb dX5_has_5 rfl (lv_at hl 0 rfl) ?_
    refine va_get (D := D) (ci := 5) (v := .int (nI (g 0))) (C := RX5) (T := TX5) (N := 8) hx hb hts hinX5 hown hK hP 1 rfl rfl 0 (by decide) (hts (.fieldLink RX5 9 "OneNail$Street" "count" "I") (by decide +kernel)) (fun _ h9 => h9) (congrArg (fun z => some (Value.int z)) (hM.1)) dX5_has_6 ?_
    refine lv_icmp_ge (tgt := 16) hx hb dX5_has_9 (by decide) (fun c_2 => ?_) (fun c_2 => ?_)
    · refine lv_iconst (v := (nI 0)) hx hb dX5_has_16 rfl ?_
      exact wZret hx hb hr hlocks (v := (nI 0)) (by first | exact Or.inl rfl | exact Or.inr rfl) (u, a, th, LP, tf) (⟨rfl, by first | exact Or.inl ⟨rfl, th_in (by omega) (by assumption) (by assumption)⟩ | exact Or.inr ⟨rfl, th_out1 (by omega) (by assumption)⟩ | exact Or.inr ⟨rfl, th_out2 (by omega) (by assumption)⟩⟩) hK hP hD hS dX5_has_17
    · refine lv_iconst (v := (nI 1)) hx hb dX5_has_12 rfl ?_
      refine lv_goto (tgt := 17) hx hb dX5_has_13 (by decide) ?_
      exact wZret hx hb hr hlocks (v := (nI 1)) (by first | exact Or.inl rfl | exact Or.inr rfl) (u, a, th, LP, tf) (⟨rfl, by first | exact Or.inl ⟨rfl, th_in (by omega) (by assumption) (by assumption)⟩ | exact Or.inr ⟨rfl, th_out1 (by omega) (by assumption)⟩ | exact Or.inr ⟨rfl, th_out2 (by omega) (by assumption)⟩⟩) hK hP hD hS dX5_has_17

set_option maxHeartbeats 4000000 in
set_option maxRecDepth 100000 in
theorem kX8_countFalls (l : Launch) (D : va_G) (cA : Nat → ClassId) (r : Nat → Nat) (sz : Nat) (u : Nat → Int32) (a : Nat → Nat → Int32) (th : Nat → Option Nat) (LP : List Nat) (tf : Nat → va_E) (tO : Nat) (fm : Nat → Nat) (hfm : ∀ q, q < 300 → a 22 q = nI (fm q)) (hf6 : ∀ q, q < 300 → fm q < 64) : Met l yX8_countFalls wsX8_countFalls ({ frames := 1, cells := 0, slots := 0, locals := 20 } : Room) (va_Pc [.ref (r 3)] (wA D vwCl (tyA cA) (eO tO) (xN cA r) (u, a, th, LP, tf) sz)) (va_Qi (fun (v : Int32) (z : sN) => v = nI (sm (fun q => sb (fm q) 6) 300) ∧ z = (u, a, th, LP, tf)) (wB D vwCl (tyA cA) (xN cA r) (va_A (xN cA r (u, a, th, LP, tf)) sz)) (va_A (xN cA r (u, a, th, LP, tf)) sz)) 0 0 (va_A (xN cA r (u, a, th, LP, tf)) sz) := by
  refine Met.ofW (cc := cX8_countFalls) (maxL := 3) (ret := (some .int)) (by decide) rfl ?_
  intro p e s m args below meth c s₁ B hml hv
  obtain ⟨rfl, hsz, hP, hK, hD0, hE⟩ := hv
  have hx := B.exec
  have hb := B.bytes
  have hr := B.returns
  have hts := atoms_spec (ws := wsX8_countFalls) B.pre
  have hown : s.vm.findClass RX8 = some m.cls := findClass_of_methodNamed B.named
  have hlocks := B.notSynchronized
  subst hsz
  have hD := hD0.self (sz := s.heap.size)
  generalize hAe : va_A (xN cA r (u, a, th, LP, tf)) s.heap.size = A at hD hE ⊢
  have hA : ∀ q : Nat, s.heap.size ≤ q → A q := fun q h => by rw [← hAe]; exact Or.inr h
  have hS : va_S A s.heap s.heap [] := va_S.rf
  have hinX8 : ∀ w ∈ u_ws RX8 TX8 10, w ∈ wsX8_countFalls := by decide +kernel
  have hl := lv_entry ([.ref (r 3)]) (n := 3) (Nat.le_of_ble_eq_true rfl)
  rw [lg_entry_eq]
  generalize (lg_sl ([.ref (r 3)]) ++ List.replicate (3 - (lg_sl ([.ref (r 3)])).length) Slot.unset).toArray = ls at hl ⊢
  have hl : lv_has ls 3 [(0, .ref (r 3))] := hl
  refine lv_iconst (v := (nI 0)) hx hb dX8_countFalls_0 rfl ?_
  refine lv_istore_n (lv' := [(1, .int (nI 0)), (0, .ref (r 3))]) hx hb dX8_countFalls_1 rfl hl (by decide) rfl (fun ls hl => ?_)
  refine lv_iconst (v := (nI 0)) hx hb dX8_countFalls_2 rfl ?_
  refine lv_istore_n (lv' := [(2, .int (nI 0)), (1, .int (nI 0)), (0, .ref (r 3))]) hx hb dX8_countFalls_3 rfl hl (by decide) rfl (fun ls hl => ?_)
  refine wLoop (τ := Nat) (fun z H locs ls => (fun (m1 : Nat) => (m1 ≤ 300) ∧ (va_P D vwCl (xN cA r (u, a, th, LP, tf)) H) ∧ (va_D A (xN cA r (u, a, th, LP, tf))) ∧ (va_S A s.heap H locs) ∧ (lv_has ls 3 [(2, .int (nI m1)), (1, .int (nI (sm (fun q => sb (fm q) 6) m1))), (0, .ref (r 3))])) z) (fun z => (fun (m1 : Nat) => 300 - m1) z) (0) ⟨(show 0 ≤ 300 from by omega), hP, hD, hS, lv_sub hl [0, 1, 2] rfl⟩ ?_
  rintro m1 H locs ls ⟨hm1, hP, hD, hS, hl⟩ ih4
  have hm1 : m1 ≤ 300 := hm1
  have hP : va_P D vwCl (xN cA r (u, a, th, LP, tf)) H := hP
  have hD : va_D A (xN cA r (u, a, th, LP, tf)) := hD
  have hl : lv_has ls 3 [(2, .int (nI m1)), (1, .int (nI (sm (fun q => sb (fm q) 6) m1))), (0, .ref (r 3))] := hl
  refine lv_iload_n hx hb dX8_countFalls_4 rfl (lv_at hl 0 rfl) ?_
  refine lv_sipush (v := (nI 300)) hx hb dX8_countFalls_5 rfl ?_
  refine rn_ge (x := m1) (y := 300) (tgt := 29) hx hb (by omega) (by omega) dX8_countFalls_8 (by decide) (fun c_1 => ?_) (fun c_1 => ?_)
  · have hme : m1 = 300 := by omega
    refine lv_iload_n hx hb dX8_countFalls_29 rfl (lv_at hl 1 rfl) ?_
    exact wIret hx hb hr hlocks (v := (nI (sm (fun q => sb (fm q) 6) m1))) (u, a, th, LP, tf) (⟨congrArg nI (by rw [hme]), rfl⟩) hK hP hD hS dX8_countFalls_30
  · refine lv_iload_n hx hb dX8_countFalls_11 rfl (lv_at hl 1 rfl) ?_
    refine lv_aload_n hx hb dX8_countFalls_12 rfl (lv_at hl 2 rfl) ?_
    refine va_get (D := D) (ci := 8) (v := .ref (r 22)) (C := RX8) (T := TX8) (N := 10) hx hb hts hinX8 hown hK hP 3 rfl rfl 4 (by decide) (hts (.fieldLink RX8 22 "OneNail$Walk" "fallen" "[I") (by decide +kernel)) (fun _ h9 => h9) rfl dX8_countFalls_13 ?_
    refine lv_iload_n hx hb dX8_countFalls_16 rfl (lv_at hl 0 rfl) ?_
    refine ra_iald hx hb hK hP 22 0 (n := 300) (f := (a 22)) (j := m1) (v := (nI (fm m1))) rfl rfl (by omega) (by decide) (hfm m1 (by omega)) dX8_countFalls_17 ?_
    refine wSi (As := [.int (nI (fm m1))]) (rest := [.int (nI (sm (fun q => sb (fm q) 6) m1))]) ⟨hx, hb, hml, hown, hts⟩ (kJ6_bitCount_0f7a4 l (fm m1) (hf6 _ (by omega))) (va_cwS 1 hts gX8_countFalls_J6_bitCount_0f7a4 rfl rfl rfl (by decide +kernel) ⟨Nat.le_of_ble_eq_true rfl, Nat.le_of_ble_eq_true rfl⟩) rfl hl.1 rfl (Nat.le_of_ble_eq_true rfl) dX8_countFalls_18 ⟨Nat.zero_le _, Nat.zero_le _⟩ (fun rv_2 hw_3 => ?_)
    obtain rfl := hw_3
    refine rn_iadd (x := sm (fun q => sb (fm q) 6) m1) (y := sb (fm m1) 6) hx hb dX8_countFalls_21 ?_
    refine lv_istore_n (lv' := [(1, .int (nI ((sm (fun q => sb (fm q) 6) m1) + (sb (fm m1) 6)))), (2, .int (nI m1)), (0, .ref (r 3))]) hx hb dX8_countFalls_22 rfl hl (by decide) rfl (fun ls hl => ?_)
    refine rn_iinc (x := m1) (d := 1) (lv' := [(2, .int (nI (m1 + 1))), (1, .int (nI ((sm (fun q => sb (fm q) 6) m1) + (sb (fm m1) 6)))), (0, .ref (r 3))]) hx hb rfl dX8_countFalls_23 hl (k := 1) rfl (by decide) rfl (fun ls hl => ?_)
    refine lv_goto (tgt := 4) hx hb dX8_countFalls_26 (by decide) ?_
    exact ih4 ((m1 + 1)) _ _ _ (show 300 - (m1 + 1) < 300 - m1 from by omega) ⟨(show (m1 + 1) ≤ 300 from by omega), hP, hD, hS, lv_sub hl [0, 1, 2] rfl⟩

set_option maxHeartbeats 4000000 in
set_option maxRecDepth 100000 in
theorem kX8_whereAt (l : Launch) (D : va_G) (cA : Nat → ClassId) (r : Nat → Nat) (sz : Nat) (u : Nat → Int32) (a : Nat → Nat → Int32) (th : Nat → Option Nat) (LP : List Nat) (tf : Nat → va_E) (tO : Nat) (g : Nat → Nat) (T : Nat → Nat → Nat) (ro : Nat → Nat) (L t : Nat) (hM : NT u a g T) (hB : TB g T) (hsm : u 2 = nI (g 1)) (hL0 : 0 < L) (hL8 : L ≤ 8) (hLw : u 5 = nI L) (hrow : ∀ j, j < L → a 20 j = nI (ro j)) (hrg : ∀ j, j < L → ro j < g 0) (ht3 : t < 300) : Met l yX8_whereAt wsX8_whereAt ({ frames := 2, cells := 0, slots := 0, locals := 45 } : Room) (va_Pc [.ref (r 3), .int (nI t)] (wA D vwCl (tyA cA) (eO tO) (xN cA r) (u, a, th, LP, tf) sz)) (va_Qi (fun (v : Int32) (z : sN) => whR g T ro L t v ∧ (∀ i, i ≠ 6 → i ≠ 7 → i ≠ 8 → i ≠ 9 → i ≠ 10 → z.1 i = u i) ∧ (∀ i, i ≠ 21 → z.2.1 i = a i) ∧ z.2.2 = (th, LP, tf)) (wB D vwCl (tyA cA) (xN cA r) (va_A (xN cA r (u, a, th, LP, tf)) sz)) (va_A (xN cA r (u, a, th, LP, tf)) sz)) 0 0 (va_A (xN cA r (u, a, th, LP, tf)) sz) := by
  refine Met.ofW (cc := cX8_whereAt) (maxL := 3) (ret := (some .int)) (by decide) rfl ?_
  intro p e s m args below meth c s₁ B hml hv
  obtain ⟨rfl, hsz, hP, hK, hD0, hE⟩ := hv
  have hx := B.exec
  have hb := B.bytes
  have hr := B.returns
  have hts := atoms_spec (ws := wsX8_whereAt) B.pre
  have hown : s.vm.findClass RX8 = some m.cls := findClass_of_methodNamed B.named
  have hlocks := B.notSynchronized
  subst hsz
  have hD := hD0.self (sz := s.heap.size)
  generalize hAe : va_A (xN cA r (u, a, th, LP, tf)) s.heap.size = A at hD hE ⊢
  have hA : ∀ q : Nat, s.heap.size ≤ q → A q := fun q h => by rw [← hAe]; exact Or.inr h
  have hS : va_S A s.heap s.heap [] := va_S.rf
  have hinX8 : ∀ w ∈ u_ws RX8 TX8 10, w ∈ wsX8_whereAt := by decide +kernel
  have hl := lv_entry ([.ref (r 3), .int (nI t)]) (n := 3) (Nat.le_of_ble_eq_true rfl)
  rw [lg_entry_eq]
  generalize (lg_sl ([.ref (r 3), .int (nI t)]) ++ List.replicate (3 - (lg_sl ([.ref (r 3), .int (nI t)])).length) Slot.unset).toArray = ls at hl ⊢
  have hl : lv_has ls 3 [(0, .ref (r 3)), (1, .int (nI t))] := hl
  have hg6 := hB.1
  refine lv_aload_n hx hb dX8_whereAt_0 rfl (lv_at hl 0 rfl) ?_
  refine wVv (eO_S tO) (As := []) (rest := []) ⟨hx, hb, hml, hown, hts⟩ (kX8_begin l D cA r _ u a th LP tf tO g T hM hB (hsm)) (cwV 0 hts gX8_whereAt_X8_begin rfl rfl rfl (by decide +kernel) ⟨Nat.le_of_ble_eq_true rfl, Nat.le_of_ble_eq_true rfl⟩) (va_recv hK hP (ci := 8) (q0 := 3) rfl rfl) hK hP hD hS hA hE rfl hl.1 rfl (Nat.le_of_ble_eq_true rfl) dX8_whereAt_1 ⟨Nat.zero_le _, Nat.zero_le _⟩ (fun z_3 H locs hw_2 hP hD hS => ?_)
  obtain ⟨zu4, za5, zq6⟩ := z_3
  obtain ⟨h6_zu4, h7_zu4, h8_zu4, hun_zu4, hfu_zu4, hfa_zu4, hzq_zu4⟩ := hw_2
  have hzq_zu4 : zq6 = (th, LP, tf) := hzq_zu4
  subst hzq_zu4
  have h6_zu4 : zu4 6 = nI 0 := h6_zu4
  have h7_zu4 : zu4 7 = nI (g 1) := h7_zu4
  have h8_zu4 : zu4 8 = nI 0 := h8_zu4
  have hun_zu4 : ∀ x, x < g 0 → za5 21 x = nI (hd g T x) := hun_zu4
  have hfu_zu4 : ∀ i, i ≠ 6 → i ≠ 7 → i ≠ 8 → zu4 i = u i := hfu_zu4
  have hfa_zu4 : ∀ i, i ≠ 21 → za5 i = a i := hfa_zu4
  have hP : va_P D vwCl (xN cA r (zu4, za5, th, LP, tf)) H := hP
  have hD : va_D A (xN cA r (zu4, za5, th, LP, tf)) := hD
  refine lv_iconst (v := (nI 0)) hx hb dX8_whereAt_4 rfl ?_
  refine lv_istore_n (lv' := [(2, .int (nI 0)), (0, .ref (r 3)), (1, .int (nI t))]) hx hb dX8_whereAt_5 rfl hl (by decide) rfl (fun ls hl => ?_)
  refine wLoop (τ := Nat × Nat × Nat × (Nat → Int32)) (fun z H locs ls => (fun (k : Nat) (fr : Nat) (lv : Nat) (u1006 : (Nat → Int32)) => (k ≤ 300) ∧ (u1006 6 = nI (k % L)) ∧ (u1006 7 = nI fr) ∧ (u1006 8 = nI lv) ∧ (wI g T ro L k fr lv) ∧ (∀ j, j < k → ct g T ro L j + T 2 (ro (j % L)) ≤ t) ∧ (∀ i : Nat, i ≠ 6 → i ≠ 7 → i ≠ 8 → i ≠ 9 → i ≠ 10 → u1006 i = zu4 i) ∧ (va_P D vwCl (xN cA r (u1006, za5, th, LP, tf)) H) ∧ (va_D A (xN cA r (u1006, za5, th, LP, tf))) ∧ (va_S A s.heap H locs) ∧ (lv_has ls 3 [(2, .int (nI k)), (0, .ref (r 3)), (1, .int (nI t))])) z.1 z.2.1 z.2.2.1 z.2.2.2) (fun z => (fun (k : Nat) (fr : Nat) (lv : Nat) (u1006 : (Nat → Int32)) => 300 - k) z.1 z.2.1 z.2.2.1 z.2.2.2) (0, (g 1), 0, zu4) ⟨(show 0 ≤ 300 from Nat.zero_le _), (show zu4 6 = nI (0 % L) from ((h6_zu4).trans (by rw [Nat.zero_mod]))), (show zu4 7 = nI (g 1) from (h7_zu4)), (show zu4 8 = nI 0 from (h8_zu4)), (show wI g T ro L 0 (g 1) 0 from (Or.inl ⟨rfl, rfl, rfl⟩)), (show ∀ j, j < 0 → ct g T ro L j + T 2 (ro (j % L)) ≤ t from (fun j h => absurd h (Nat.not_lt_zero j))), (fun i h6 h7 h8 h9 h10 => rfl), hP, hD, hS, lv_sub hl [0, 1, 2] rfl⟩ ?_
  rintro ⟨k, fr, lv, u1006⟩ H locs ls ⟨hk, h6, h7, h8, hwi, hps, hfu6, hP, hD, hS, hl⟩ ih6
  have hk : k ≤ 300 := hk
  have h6 : u1006 6 = nI (k % L) := h6
  have h7 : u1006 7 = nI fr := h7
  have h8 : u1006 8 = nI lv := h8
  have hwi : wI g T ro L k fr lv := hwi
  have hps : ∀ j, j < k → ct g T ro L j + T 2 (ro (j % L)) ≤ t := hps
  have hfu6 : ∀ i : Nat, i ≠ 6 → i ≠ 7 → i ≠ 8 → i ≠ 9 → i ≠ 10 → u1006 i = zu4 i := hfu6
  have hP : va_P D vwCl (xN cA r (u1006, za5, th, LP, tf)) H := hP
  have hD : va_D A (xN cA r (u1006, za5, th, LP, tf)) := hD
  have hl : lv_has ls 3 [(2, .int (nI k)), (0, .ref (r 3)), (1, .int (nI t))] := hl
  refine lv_iload_n hx hb dX8_whereAt_6 rfl (lv_at hl 0 rfl) ?_
  refine lv_sipush (v := (nI 300)) hx hb dX8_whereAt_7 rfl ?_
  refine rn_gt (x := k) (y := 300) (tgt := 47) hx hb (by omega) (by omega) dX8_whereAt_10 (by decide) (fun c_7 => absurd c_7 (by omega)) (fun c_7 => ?_)
  have hkm := Nat.mod_lt k hL0
  have hrk := hrg _ hkm
  have hTk := hB.2.2.2 _ hrk
  have hcl := ct_le hB hL0 hrg k
  have hcg := ct_ge hB hL0 hrg k
  refine lv_aload_n hx hb dX8_whereAt_13 rfl (lv_at hl 1 rfl) ?_
  refine wVv (eO_S tO) (As := []) (rest := []) ⟨hx, hb, hml, hown, hts⟩ (kX8_goOn l D cA r _ u1006 za5 th LP tf tO g T ro L k fr lv (NT.keep (NT.keep hM (hfu_zu4 1 (by decide) (by decide) (by decide)) (hfa_zu4 13 (by decide)) (hfa_zu4 14 (by decide)) (hfa_zu4 15 (by decide)) (hfa_zu4 16 (by decide))) (hfu6 1 (by decide) (by decide) (by decide) (by decide) (by decide)) rfl rfl rfl rfl) hB hL0 hL8 ((hfu6 5 (by decide) (by decide) (by decide) (by decide) (by decide)).trans ((hfu_zu4 5 (by decide) (by decide) (by decide)).trans (hLw))) (fun j hj => (congrFun (hfa_zu4 20 (by decide)) (j)).trans (hrow (j) hj)) hrg (by omega) (h6) (h7) (h8) hwi) (cwV 0 hts gX8_whereAt_X8_goOn rfl rfl rfl (by decide +kernel) ⟨Nat.le_of_ble_eq_true rfl, Nat.le_of_ble_eq_true rfl⟩) (va_recv hK hP (ci := 8) (q0 := 3) rfl rfl) hK hP hD hS hA hE rfl hl.1 rfl (Nat.le_of_ble_eq_true rfl) dX8_whereAt_14 ⟨Nat.zero_le _, Nat.zero_le _⟩ (fun z_10 H locs hw_9 hP hD hS => ?_)
  obtain ⟨zu11, za12, zq13⟩ := z_10
  obtain ⟨h9_zu11, h10_zu11, h6_zu11, h7_zu11, h8_zu11, hfu_zu11, hfa_zu11, hzq_zu11⟩ := hw_9
  have hzq_zu11 : zq13 = (th, LP, tf) := hzq_zu11
  subst hzq_zu11
  have h9_zu11 : zu11 9 = nI (ro (k % L)) := h9_zu11
  have h10_zu11 : zu11 10 = nI (ct g T ro L k) := h10_zu11
  have h6_zu11 : zu11 6 = nI ((k + 1) % L) := h6_zu11
  have h7_zu11 : zu11 7 = nI (T 1 (ro (k % L))) := h7_zu11
  have h8_zu11 : zu11 8 = nI (ct g T ro L k + T 2 (ro (k % L))) := h8_zu11
  have hfu_zu11 : ∀ i, i ≠ 6 → i ≠ 7 → i ≠ 8 → i ≠ 9 → i ≠ 10 → zu11 i = u1006 i := hfu_zu11
  have hfa_zu11 : ∀ i, za12 i = za5 i := hfa_zu11
  have hae_zu11 : za5 = za12 := Eq.symm (funext hfa_zu11)
  subst hae_zu11
  have hP : va_P D vwCl (xN cA r (zu11, za5, th, LP, tf)) H := hP
  have hD : va_D A (xN cA r (zu11, za5, th, LP, tf)) := hD
  refine lv_iload_n hx hb dX8_whereAt_17 rfl (lv_at hl 2 rfl) ?_
  refine lv_aload_n hx hb dX8_whereAt_18 rfl (lv_at hl 1 rfl) ?_
  refine va_get (D := D) (ci := 8) (v := .int (nI (ct g T ro L k))) (C := RX8) (T := TX8) (N := 10) hx hb hts hinX8 hown hK hP 3 rfl rfl 9 (by decide) (hts (.fieldLink RX8 37 "OneNail$Walk" "comes" "I") (by decide +kernel)) (fun _ h9 => h9) (congrArg (fun z => some (Value.int z)) (h10_zu11)) dX8_whereAt_19 ?_
  refine rn_ge (x := t) (y := ct g T ro L k) (tgt := 28) hx hb (by omega) (by omega) dX8_whereAt_22 (by decide) (fun c_14 => ?_) (fun c_14 => ?_)
  · refine lv_iload_n hx hb dX8_whereAt_28 rfl (lv_at hl 2 rfl) ?_
    refine lv_aload_n hx hb dX8_whereAt_29 rfl (lv_at hl 1 rfl) ?_
    refine va_get (D := D) (ci := 8) (v := .int (nI (ct g T ro L k + T 2 (ro (k % L))))) (C := RX8) (T := TX8) (N := 10) hx hb hts hinX8 hown hK hP 3 rfl rfl 7 (by decide) (hts (.fieldLink RX8 31 "OneNail$Walk" "leaves" "I") (by decide +kernel)) (fun _ h9 => h9) (congrArg (fun z => some (Value.int z)) (h8_zu11)) dX8_whereAt_30 ?_
    refine rn_ge (x := t) (y := ct g T ro L k + T 2 (ro (k % L))) (tgt := 41) hx hb (by omega) (by omega) dX8_whereAt_33 (by decide) (fun c_15 => ?_) (fun c_15 => ?_)
    · refine rn_iinc (x := k) (d := 1) (lv' := [(2, .int (nI (k + 1))), (0, .ref (r 3)), (1, .int (nI t))]) hx hb rfl dX8_whereAt_41 hl (k := 0) rfl (by decide) rfl (fun ls hl => ?_)
      refine lv_goto (tgt := 6) hx hb dX8_whereAt_44 (by decide) ?_
      exact ih6 ((k + 1), (T 1 (ro (k % L))), (ct g T ro L k + T 2 (ro (k % L))), zu11) _ _ _ (show 300 - (k + 1) < 300 - k from by omega) ⟨(show (k + 1) ≤ 300 from by omega), (show zu11 6 = nI ((k + 1) % L) from (h6_zu11)), (show zu11 7 = nI (T 1 (ro (k % L))) from (h7_zu11)), (show zu11 8 = nI (ct g T ro L k + T 2 (ro (k % L))) from (h8_zu11)), (show wI g T ro L (k + 1) (T 1 (ro (k % L))) (ct g T ro L k + T 2 (ro (k % L))) from (Or.inr ⟨Nat.succ_pos k, rfl, rfl⟩)), (show ∀ j, j < (k + 1) → ct g T ro L j + T 2 (ro (j % L)) ≤ t from (lt_s (p := fun j => ct g T ro L j + T 2 (ro (j % L)) ≤ t) hps (by omega))), (fun i h6 h7 h8 h9 h10 => Eq.trans (hfu_zu11 i h6 h7 h8 h9 h10) (hfu6 i h6 h7 h8 h9 h10)), hP, hD, hS, lv_sub hl [0, 1, 2] rfl⟩
    · refine lv_aload_n hx hb dX8_whereAt_36 rfl (lv_at hl 1 rfl) ?_
      refine va_get (D := D) (ci := 8) (v := .int (nI (ro (k % L)))) (C := RX8) (T := TX8) (N := 10) hx hb hts hinX8 hown hK hP 3 rfl rfl 8 (by decide) (hts (.fieldLink RX8 34 "OneNail$Walk" "thing" "I") (by decide +kernel)) (fun _ h9 => h9) (congrArg (fun z => some (Value.int z)) (h9_zu11)) dX8_whereAt_37 ?_
      exact wIret hx hb hr hlocks (v := (nI (ro (k % L)))) (zu11, za5, th, LP, tf) (⟨Or.inr ⟨k, by omega, by omega, rfl⟩, (fun i h6 h7 h8 h9 h10 => Eq.trans (hfu_zu11 i h6 h7 h8 h9 h10) (Eq.trans (hfu6 i h6 h7 h8 h9 h10) (hfu_zu4 i h6 h7 h8))), (fun i h21 => hfa_zu4 i h21), rfl⟩) hK hP hD hS dX8_whereAt_40
  · refine lv_bipush (v := (-9)) hx hb dX8_whereAt_25 (by decide) ?_
    exact wIret hx hb hr hlocks (v := (-9)) (zu11, za5, th, LP, tf) (⟨Or.inl ⟨rfl, fun j hj => by rcases Nat.lt_or_ge j k with q | q; have := hps j q; omega; have := ct_le2 hB hL0 hrg q; omega⟩, (fun i h6 h7 h8 h9 h10 => Eq.trans (hfu_zu11 i h6 h7 h8 h9 h10) (Eq.trans (hfu6 i h6 h7 h8 h9 h10) (hfu_zu4 i h6 h7 h8))), (fun i h21 => hfa_zu4 i h21), rfl⟩) hK hP hD hS dX8_whereAt_27

set_option maxHeartbeats 4000000 in
set_option maxRecDepth 100000 in
theorem kX8_nothingEverFalls (l : Launch) (D : va_G) (cA : Nat → ClassId) (r : Nat → Nat) (sz : Nat) (u : Nat → Int32) (a : Nat → Nat → Int32) (th : Nat → Option Nat) (LP : List Nat) (tf : Nat → va_E) (tO : Nat) (g : Nat → Nat) (T : Nat → Nat → Nat) (ro : Nat → Nat) (L : Nat) (hM : NT u a g T) (hB : TB g T) (hsm : u 2 = nI (g 1)) (hL0 : 0 < L) (hL8 : L ≤ 8) (hLw : u 5 = nI L) (hrow : ∀ j, j < L → a 20 j = nI (ro j)) (hrg : ∀ j, j < L → ro j < g 0) : Met l yX8_nothingEverFalls wsX8_nothingEverFalls ({ frames := 2, cells := 0, slots := 0, locals := 45 } : Room) (va_Pc [.ref (r 3)] (wA D vwCl (tyA cA) (eO tO) (xN cA r) (u, a, th, LP, tf) sz)) (va_Qi (fun (v : Int32) (z : sN) => ((v = nI 1 ∧ nv2 g T ro L) ∨ (v = nI 0 ∧ ¬ nv2 g T ro L)) ∧ (∀ i, i ≠ 6 → i ≠ 7 → i ≠ 8 → i ≠ 9 → i ≠ 10 → z.1 i = u i) ∧ (∀ i, i ≠ 21 → z.2.1 i = a i) ∧ z.2.2 = (th, LP, tf)) (wB D vwCl (tyA cA) (xN cA r) (va_A (xN cA r (u, a, th, LP, tf)) sz)) (va_A (xN cA r (u, a, th, LP, tf)) sz)) 0 0 (va_A (xN cA r (u, a, th, LP, tf)) sz) := by
  refine Met.ofW (cc := cX8_nothingEverFalls) (maxL := 3) (ret := (some .boolean)) (by decide) rfl ?_
  intro p e s m args below meth c s₁ B hml hv
  obtain ⟨rfl, hsz, hP, hK, hD0, hE⟩ := hv
  have hx := B.exec
  have hb := B.bytes
  have hr := B.returns
  have hts := atoms_spec (ws := wsX8_nothingEverFalls) B.pre
  have hown : s.vm.findClass RX8 = some m.cls := findClass_of_methodNamed B.named
  have hlocks := B.notSynchronized
  subst hsz
  have hD := hD0.self (sz := s.heap.size)
  generalize hAe : va_A (xN cA r (u, a, th, LP, tf)) s.heap.size = A at hD hE ⊢
  have hA : ∀ q : Nat, s.heap.size ≤ q → A q := fun q h => by rw [← hAe]; exact Or.inr h
  have hS : va_S A s.heap s.heap [] := va_S.rf
  have hinX8 : ∀ w ∈ u_ws RX8 TX8 10, w ∈ wsX8_nothingEverFalls := by decide +kernel
  have hl := lv_entry ([.ref (r 3)]) (n := 3) (Nat.le_of_ble_eq_true rfl)
  rw [lg_entry_eq]
  generalize (lg_sl ([.ref (r 3)]) ++ List.replicate (3 - (lg_sl ([.ref (r 3)])).length) Slot.unset).toArray = ls at hl ⊢
  have hl : lv_has ls 3 [(0, .ref (r 3))] := hl
  have hg6 := hB.1
  refine lv_aload_n hx hb dX8_nothingEverFalls_0 rfl (lv_at hl 0 rfl) ?_
  refine wVv (eO_S tO) (As := []) (rest := []) ⟨hx, hb, hml, hown, hts⟩ (kX8_begin l D cA r _ u a th LP tf tO g T hM hB (hsm)) (cwV 0 hts gX8_nothingEverFalls_X8_begin rfl rfl rfl (by decide +kernel) ⟨Nat.le_of_ble_eq_true rfl, Nat.le_of_ble_eq_true rfl⟩) (va_recv hK hP (ci := 8) (q0 := 3) rfl rfl) hK hP hD hS hA hE rfl hl.1 rfl (Nat.le_of_ble_eq_true rfl) dX8_nothingEverFalls_1 ⟨Nat.zero_le _, Nat.zero_le _⟩ (fun z_3 H locs hw_2 hP hD hS => ?_)
  obtain ⟨zu4, za5, zq6⟩ := z_3
  obtain ⟨h6_zu4, h7_zu4, h8_zu4, hun_zu4, hfu_zu4, hfa_zu4, hzq_zu4⟩ := hw_2
  have hzq_zu4 : zq6 = (th, LP, tf) := hzq_zu4
  subst hzq_zu4
  have h6_zu4 : zu4 6 = nI 0 := h6_zu4
  have h7_zu4 : zu4 7 = nI (g 1) := h7_zu4
  have h8_zu4 : zu4 8 = nI 0 := h8_zu4
  have hun_zu4 : ∀ x, x < g 0 → za5 21 x = nI (hd g T x) := hun_zu4
  have hfu_zu4 : ∀ i, i ≠ 6 → i ≠ 7 → i ≠ 8 → zu4 i = u i := hfu_zu4
  have hfa_zu4 : ∀ i, i ≠ 21 → za5 i = a i := hfa_zu4
  have hP : va_P D vwCl (xN cA r (zu4, za5, th, LP, tf)) H := hP
  have hD : va_D A (xN cA r (zu4, za5, th, LP, tf)) := hD
  refine lv_iconst (v := (nI 0)) hx hb dX8_nothingEverFalls_4 rfl ?_
  refine lv_istore_n (lv' := [(1, .int (nI 0)), (0, .ref (r 3))]) hx hb dX8_nothingEverFalls_5 rfl hl (by decide) rfl (fun ls hl => ?_)
  refine lv_iconst (v := (nI 0)) hx hb dX8_nothingEverFalls_6 rfl ?_
  refine lv_istore_n (lv' := [(2, .int (nI 0)), (1, .int (nI 0)), (0, .ref (r 3))]) hx hb dX8_nothingEverFalls_7 rfl hl (by decide) rfl (fun ls hl => ?_)
  refine wLoop (τ := Nat × Nat × Nat × Nat × (Nat → Int32) × (Nat → Nat → Int32)) (fun z H locs ls => (fun (k : Nat) (fr : Nat) (lv : Nat) (cb : Nat) (u1008 : (Nat → Int32)) (a1008 : (Nat → Nat → Int32)) => (k ≤ 2 * L) ∧ (u1008 6 = nI (k % L)) ∧ (u1008 7 = nI fr) ∧ (u1008 8 = nI lv) ∧ (wI g T ro L k fr lv) ∧ (∀ x, x < g 0 → a1008 21 x = nI (uk g T ro L k x)) ∧ (cb < 64) ∧ (∀ x, x < 6 → (bi cb x = 1 ↔ ∃ j, j < k ∧ ro (j % L) = x)) ∧ (∀ j, j < k → ct g T ro L j ≤ uk g T ro L j (ro (j % L))) ∧ (∀ i : Nat, i ≠ 6 → i ≠ 7 → i ≠ 8 → i ≠ 9 → i ≠ 10 → u1008 i = zu4 i) ∧ (∀ i : Nat, i ≠ 21 → a1008 i = za5 i) ∧ (va_P D vwCl (xN cA r (u1008, a1008, th, LP, tf)) H) ∧ (va_D A (xN cA r (u1008, a1008, th, LP, tf))) ∧ (va_S A s.heap H locs) ∧ (lv_has ls 3 [(2, .int (nI k)), (1, .int (nI cb)), (0, .ref (r 3))])) z.1 z.2.1 z.2.2.1 z.2.2.2.1 z.2.2.2.2.1 z.2.2.2.2.2) (fun z => (fun (k : Nat) (fr : Nat) (lv : Nat) (cb : Nat) (u1008 : (Nat → Int32)) (a1008 : (Nat → Nat → Int32)) => 2 * L - k) z.1 z.2.1 z.2.2.1 z.2.2.2.1 z.2.2.2.2.1 z.2.2.2.2.2) (0, (g 1), 0, 0, zu4, za5) ⟨(show 0 ≤ 2 * L from Nat.zero_le _), (show zu4 6 = nI (0 % L) from ((h6_zu4).trans (by rw [Nat.zero_mod]))), (show zu4 7 = nI (g 1) from (h7_zu4)), (show zu4 8 = nI 0 from (h8_zu4)), (show wI g T ro L 0 (g 1) 0 from (Or.inl ⟨rfl, rfl, rfl⟩)), (show ∀ x, x < g 0 → za5 21 x = nI (uk g T ro L 0 x) from (fun x hx => hun_zu4 (x) hx)), (show 0 < 64 from by decide), (show ∀ x, x < 6 → (bi 0 x = 1 ↔ ∃ j, j < 0 ∧ ro (j % L) = x) from (fun x hx => by rw [bi_0 x hx]; exact ⟨fun e => absurd e (by decide), fun ⟨j, h, _⟩ => absurd h (Nat.not_lt_zero j)⟩)), (show ∀ j, j < 0 → ct g T ro L j ≤ uk g T ro L j (ro (j % L)) from (fun j h => absurd h (Nat.not_lt_zero j))), (fun i h6 h7 h8 h9 h10 => rfl), (fun i h21 => rfl), hP, hD, hS, lv_sub hl [0, 1, 2] rfl⟩ ?_
  rintro ⟨k, fr, lv, cb, u1008, a1008⟩ H locs ls ⟨hk, h6, h7, h8, hwi, hun, hcb, hcm, hok, hfu8, hfa8, hP, hD, hS, hl⟩ ih8
  have hk : k ≤ 2 * L := hk
  have h6 : u1008 6 = nI (k % L) := h6
  have h7 : u1008 7 = nI fr := h7
  have h8 : u1008 8 = nI lv := h8
  have hwi : wI g T ro L k fr lv := hwi
  have hun : ∀ x, x < g 0 → a1008 21 x = nI (uk g T ro L k x) := hun
  have hcb : cb < 64 := hcb
  have hcm : ∀ x, x < 6 → (bi cb x = 1 ↔ ∃ j, j < k ∧ ro (j % L) = x) := hcm
  have hok : ∀ j, j < k → ct g T ro L j ≤ uk g T ro L j (ro (j % L)) := hok
  have hfu8 : ∀ i : Nat, i ≠ 6 → i ≠ 7 → i ≠ 8 → i ≠ 9 → i ≠ 10 → u1008 i = zu4 i := hfu8
  have hfa8 : ∀ i : Nat, i ≠ 21 → a1008 i = za5 i := hfa8
  have hP : va_P D vwCl (xN cA r (u1008, a1008, th, LP, tf)) H := hP
  have hD : va_D A (xN cA r (u1008, a1008, th, LP, tf)) := hD
  have hl : lv_has ls 3 [(2, .int (nI k)), (1, .int (nI cb)), (0, .ref (r 3))] := hl
  refine lv_iload_n hx hb dX8_nothingEverFalls_8 rfl (lv_at hl 0 rfl) ?_
  refine lv_iconst (v := (nI 2)) hx hb dX8_nothingEverFalls_9 rfl ?_
  refine lv_aload_n hx hb dX8_nothingEverFalls_10 rfl (lv_at hl 2 rfl) ?_
  refine va_get (D := D) (ci := 8) (v := .int (nI L)) (C := RX8) (T := TX8) (N := 10) hx hb hts hinX8 hown hK hP 3 rfl rfl 2 (by decide) (hts (.fieldLink RX8 15 "OneNail$Walk" "length" "I") (by decide +kernel)) (fun _ h9 => h9) (congrArg (fun z => some (Value.int z)) ((hfu8 5 (by decide) (by decide) (by decide) (by decide) (by decide)).trans ((hfu_zu4 5 (by decide) (by decide) (by decide)).trans (hLw)))) dX8_nothingEverFalls_11 ?_
  refine rn_imul (x := 2) (y := L) hx hb dX8_nothingEverFalls_14 ?_
  refine rn_ge (x := k) (y := 2 * L) (tgt := 59) hx hb (by omega) (by omega) dX8_nothingEverFalls_15 (by decide) (fun c_7 => ?_) (fun c_7 => ?_)
  · have hca := came_all (g 0) hg6 cb hcb (fun x hx h7 => by obtain ⟨j, -, e7⟩ := (hcm x hx).mp h7; rw [← e7]; exact hrg _ (Nat.mod_lt j hL0))
    have hp6 : 2 ^ g 0 ≤ 64 := Nat.pow_le_pow_right (n := 2) (by decide) hg6
    refine lv_iload_n hx hb dX8_nothingEverFalls_59 rfl (lv_at hl 1 rfl) ?_
    refine lv_aload_n hx hb dX8_nothingEverFalls_60 rfl (lv_at hl 2 rfl) ?_
    refine va_get (D := D) (ci := 8) (v := .ref (r 1)) (C := RX8) (T := TX8) (N := 10) hx hb hts hinX8 hown hK hP 3 rfl rfl 0 (by decide) (hts (.fieldLink RX8 40 "OneNail$Walk" "town" "LOneNail$Street;") (by decide +kernel)) (fun _ h9 => h9) rfl dX8_nothingEverFalls_61 ?_
    refine wVi (eO_S tO) (As := []) (rest := [.int (nI cb)]) ⟨hx, hb, hml, hown, hts⟩ (kX5_all l D cA r _ u1008 a1008 th LP tf tO g T (NT.keep (NT.keep hM (hfu_zu4 1 (by decide) (by decide) (by decide)) (hfa_zu4 13 (by decide)) (hfa_zu4 14 (by decide)) (hfa_zu4 15 (by decide)) (hfa_zu4 16 (by decide))) (hfu8 1 (by decide) (by decide) (by decide) (by decide) (by decide)) (hfa8 13 (by decide)) (hfa8 14 (by decide)) (hfa8 15 (by decide)) (hfa8 16 (by decide))) hB) (cwV 0 hts gX8_nothingEverFalls_X5_all rfl rfl rfl (by decide +kernel) ⟨Nat.le_of_ble_eq_true rfl, Nat.le_of_ble_eq_true rfl⟩) (va_recv hK hP (ci := 5) (q0 := 1) rfl rfl) hK hP hD hS hA hE rfl hl.1 rfl (Nat.le_of_ble_eq_true rfl) dX8_nothingEverFalls_64 ⟨Nat.zero_le _, Nat.zero_le _⟩ (fun rv_8 z_10 H locs hw_9 hP hD hS => ?_)
    obtain ⟨rfl, rfl⟩ := hw_9
    have hP : va_P D vwCl (xN cA r (u1008, a1008, th, LP, tf)) H := hP
    have hD : va_D A (xN cA r (u1008, a1008, th, LP, tf)) := hD
    refine rn_ne (x := cb) (y := 2 ^ g 0 - 1) (tgt := 74) hx hb (by omega) (by omega) dX8_nothingEverFalls_67 (by decide) (fun c_11 => ?_) (fun c_11 => ?_)
    · refine lv_iconst (v := (nI 0)) hx hb dX8_nothingEverFalls_74 rfl ?_
      exact wZret hx hb hr hlocks (v := (nI 0)) (by first | exact Or.inl rfl | exact Or.inr rfl) (u1008, a1008, th, LP, tf) (⟨Or.inr ⟨rfl, fun q => absurd (hca.mpr (fun x hx => (hcm x (by omega)).mpr (by obtain ⟨j, h1, h2⟩ := q.1 x hx; exact ⟨j, by omega, h2⟩))) (by omega)⟩, (fun i h6 h7 h8 h9 h10 => Eq.trans (hfu8 i h6 h7 h8 h9 h10) (hfu_zu4 i h6 h7 h8)), (fun i h21 => Eq.trans (hfa8 i h21) (hfa_zu4 i h21)), rfl⟩) hK hP hD hS dX8_nothingEverFalls_75
    · refine lv_iconst (v := (nI 1)) hx hb dX8_nothingEverFalls_70 rfl ?_
      refine lv_goto (tgt := 75) hx hb dX8_nothingEverFalls_71 (by decide) ?_
      exact wZret hx hb hr hlocks (v := (nI 1)) (by first | exact Or.inl rfl | exact Or.inr rfl) (u1008, a1008, th, LP, tf) (⟨Or.inl ⟨rfl, ⟨fun x hx => by obtain ⟨j, h1, h2⟩ := (hcm x (by omega)).mp (hca.mp (by omega) x hx); exact ⟨j, by omega, h2⟩, fun j hj => hok j (by omega)⟩⟩, (fun i h6 h7 h8 h9 h10 => Eq.trans (hfu8 i h6 h7 h8 h9 h10) (hfu_zu4 i h6 h7 h8)), (fun i h21 => Eq.trans (hfa8 i h21) (hfa_zu4 i h21)), rfl⟩) hK hP hD hS dX8_nothingEverFalls_75
  · have hkm := Nat.mod_lt k hL0
    have hrk := hrg _ hkm
    have hTk := hB.2.2.2 _ hrk
    have hcl := ct_le hB hL0 hrg k
    have huk := uk_le hB hL0 hrg (show k ≤ 400 by omega) hrk
    refine lv_aload_n hx hb dX8_nothingEverFalls_18 rfl (lv_at hl 2 rfl) ?_
    refine wVv (eO_S tO) (As := []) (rest := []) ⟨hx, hb, hml, hown, hts⟩ (kX8_goOn l D cA r _ u1008 a1008 th LP tf tO g T ro L k fr lv (NT.keep (NT.keep hM (hfu_zu4 1 (by decide) (by decide) (by decide)) (hfa_zu4 13 (by decide)) (hfa_zu4 14 (by decide)) (hfa_zu4 15 (by decide)) (hfa_zu4 16 (by decide))) (hfu8 1 (by decide) (by decide) (by decide) (by decide) (by decide)) (hfa8 13 (by decide)) (hfa8 14 (by decide)) (hfa8 15 (by decide)) (hfa8 16 (by decide))) hB hL0 hL8 ((hfu8 5 (by decide) (by decide) (by decide) (by decide) (by decide)).trans ((hfu_zu4 5 (by decide) (by decide) (by decide)).trans (hLw))) (fun j hj => (congrFun (hfa8 20 (by decide)) (j)).trans ((congrFun (hfa_zu4 20 (by decide)) (j)).trans (hrow (j) hj))) hrg (by omega) (h6) (h7) (h8) hwi) (cwV 0 hts gX8_nothingEverFalls_X8_goOn rfl rfl rfl (by decide +kernel) ⟨Nat.le_of_ble_eq_true rfl, Nat.le_of_ble_eq_true rfl⟩) (va_recv hK hP (ci := 8) (q0 := 3) rfl rfl) hK hP hD hS hA hE rfl hl.1 rfl (Nat.le_of_ble_eq_true rfl) dX8_nothingEverFalls_19 ⟨Nat.zero_le _, Nat.zero_le _⟩ (fun z_14 H locs hw_13 hP hD hS => ?_)
    obtain ⟨zu15, za16, zq17⟩ := z_14
    obtain ⟨h9_zu15, h10_zu15, h6_zu15, h7_zu15, h8_zu15, hfu_zu15, hfa_zu15, hzq_zu15⟩ := hw_13
    have hzq_zu15 : zq17 = (th, LP, tf) := hzq_zu15
    subst hzq_zu15
    have h9_zu15 : zu15 9 = nI (ro (k % L)) := h9_zu15
    have h10_zu15 : zu15 10 = nI (ct g T ro L k) := h10_zu15
    have h6_zu15 : zu15 6 = nI ((k + 1) % L) := h6_zu15
    have h7_zu15 : zu15 7 = nI (T 1 (ro (k % L))) := h7_zu15
    have h8_zu15 : zu15 8 = nI (ct g T ro L k + T 2 (ro (k % L))) := h8_zu15
    have hfu_zu15 : ∀ i, i ≠ 6 → i ≠ 7 → i ≠ 8 → i ≠ 9 → i ≠ 10 → zu15 i = u1008 i := hfu_zu15
    have hfa_zu15 : ∀ i, za16 i = a1008 i := hfa_zu15
    have hae_zu15 : a1008 = za16 := Eq.symm (funext hfa_zu15)
    subst hae_zu15
    have hP : va_P D vwCl (xN cA r (zu15, a1008, th, LP, tf)) H := hP
    have hD : va_D A (xN cA r (zu15, a1008, th, LP, tf)) := hD
    refine lv_aload_n hx hb dX8_nothingEverFalls_22 rfl (lv_at hl 2 rfl) ?_
    refine va_get (D := D) (ci := 8) (v := .ref (r 21)) (C := RX8) (T := TX8) (N := 10) hx hb hts hinX8 hown hK hP 3 rfl rfl 3 (by decide) (hts (.fieldLink RX8 19 "OneNail$Walk" "until" "[I") (by decide +kernel)) (fun _ h9 => h9) rfl dX8_nothingEverFalls_23 ?_
    refine lv_aload_n hx hb dX8_nothingEverFalls_26 rfl (lv_at hl 2 rfl) ?_
    refine va_get (D := D) (ci := 8) (v := .int (nI (ro (k % L)))) (C := RX8) (T := TX8) (N := 10) hx hb hts hinX8 hown hK hP 3 rfl rfl 8 (by decide) (hts (.fieldLink RX8 34 "OneNail$Walk" "thing" "I") (by decide +kernel)) (fun _ h9 => h9) (congrArg (fun z => some (Value.int z)) (h9_zu15)) dX8_nothingEverFalls_27 ?_
    refine ra_iald hx hb hK hP 21 0 (n := 6) (f := (a1008 21)) (j := ro (k % L)) (v := (nI (uk g T ro L k (ro (k % L))))) rfl rfl (by omega) (by decide) (hun (ro (k % L)) (by omega)) dX8_nothingEverFalls_30 ?_
    refine lv_aload_n hx hb dX8_nothingEverFalls_31 rfl (lv_at hl 2 rfl) ?_
    refine va_get (D := D) (ci := 8) (v := .int (nI (ct g T ro L k))) (C := RX8) (T := TX8) (N := 10) hx hb hts hinX8 hown hK hP 3 rfl rfl 9 (by decide) (hts (.fieldLink RX8 37 "OneNail$Walk" "comes" "I") (by decide +kernel)) (fun _ h9 => h9) (congrArg (fun z => some (Value.int z)) (h10_zu15)) dX8_nothingEverFalls_32 ?_
    refine rn_ge (x := uk g T ro L k (ro (k % L))) (y := ct g T ro L k) (tgt := 40) hx hb (by omega) (by omega) dX8_nothingEverFalls_35 (by decide) (fun c_18 => ?_) (fun c_18 => ?_)
    · refine lv_iload_n hx hb dX8_nothingEverFalls_40 rfl (lv_at hl 1 rfl) ?_
      refine lv_iconst (v := (nI 1)) hx hb dX8_nothingEverFalls_41 rfl ?_
      refine lv_aload_n hx hb dX8_nothingEverFalls_42 rfl (lv_at hl 2 rfl) ?_
      refine va_get (D := D) (ci := 8) (v := .int (nI (ro (k % L)))) (C := RX8) (T := TX8) (N := 10) hx hb hts hinX8 hown hK hP 3 rfl rfl 8 (by decide) (hts (.fieldLink RX8 34 "OneNail$Walk" "thing" "I") (by decide +kernel)) (fun _ h9 => h9) (congrArg (fun z => some (Value.int z)) (h9_zu15)) dX8_nothingEverFalls_43 ?_
      refine lv_ishl hx hb dX8_nothingEverFalls_46 ?_
      refine lv_ior hx hb dX8_nothingEverFalls_47 ?_
      refine lv_topi (fun y_19 ey_19 => ?_)
      obtain rfl : y_19 = (nI (cb ||| 2 ^ (ro (k % L)))) := ey_19.trans (or_row _ hcb _ (by omega))
      refine lv_istore_n (lv' := [(1, .int (nI (cb ||| 2 ^ (ro (k % L))))), (2, .int (nI k)), (0, .ref (r 3))]) hx hb dX8_nothingEverFalls_48 rfl hl (by decide) rfl (fun ls hl => ?_)
      refine lv_aload_n hx hb dX8_nothingEverFalls_49 rfl (lv_at hl 2 rfl) ?_
      refine wVv (eO_S tO) (As := []) (rest := []) ⟨hx, hb, hml, hown, hts⟩ (kX8_nailed l D cA r _ zu15 a1008 th LP tf tO g T (ro (k % L)) (ct g T ro L k + T 2 (ro (k % L))) (NT.keep (NT.keep (NT.keep hM (hfu_zu4 1 (by decide) (by decide) (by decide)) (hfa_zu4 13 (by decide)) (hfa_zu4 14 (by decide)) (hfa_zu4 15 (by decide)) (hfa_zu4 16 (by decide))) (hfu8 1 (by decide) (by decide) (by decide) (by decide) (by decide)) (hfa8 13 (by decide)) (hfa8 14 (by decide)) (hfa8 15 (by decide)) (hfa8 16 (by decide))) (hfu_zu15 1 (by decide) (by decide) (by decide) (by decide) (by decide)) rfl rfl rfl rfl) hB (h9_zu15) (h8_zu15) (by omega)) (cwV 0 hts gX8_nothingEverFalls_X8_nailed rfl rfl rfl (by decide +kernel) ⟨Nat.le_of_ble_eq_true rfl, Nat.le_of_ble_eq_true rfl⟩) (va_recv hK hP (ci := 8) (q0 := 3) rfl rfl) hK hP hD hS hA hE rfl hl.1 rfl (Nat.le_of_ble_eq_true rfl) dX8_nothingEverFalls_50 ⟨Nat.zero_le _, Nat.zero_le _⟩ (fun z_22 H locs hw_21 hP hD hS => ?_)
      obtain rfl := hw_21
      have hP : va_P D vwCl (xN cA r (zu15, (va_up a1008 21 (upd (a1008 21) (ro (k % L)) (nI ((ct g T ro L k + T 2 (ro (k % L))) + hd g T (ro (k % L)))))), th, LP, tf)) H := hP
      have hD : va_D A (xN cA r (zu15, (va_up a1008 21 (upd (a1008 21) (ro (k % L)) (nI ((ct g T ro L k + T 2 (ro (k % L))) + hd g T (ro (k % L)))))), th, LP, tf)) := hD
      refine rn_iinc (x := k) (d := 1) (lv' := [(2, .int (nI (k + 1))), (1, .int (nI (cb ||| 2 ^ (ro (k % L))))), (0, .ref (r 3))]) hx hb rfl dX8_nothingEverFalls_53 hl (k := 1) rfl (by decide) rfl (fun ls hl => ?_)
      refine lv_goto (tgt := 8) hx hb dX8_nothingEverFalls_56 (by decide) ?_
      exact ih8 ((k + 1), (T 1 (ro (k % L))), (ct g T ro L k + T 2 (ro (k % L))), (cb ||| 2 ^ (ro (k % L))), zu15, (va_up a1008 21 (upd (a1008 21) (ro (k % L)) (nI ((ct g T ro L k + T 2 (ro (k % L))) + hd g T (ro (k % L))))))) _ _ _ (show 2 * L - (k + 1) < 2 * L - k from by omega) ⟨(show (k + 1) ≤ 2 * L from by omega), (show zu15 6 = nI ((k + 1) % L) from (h6_zu15)), (show zu15 7 = nI (T 1 (ro (k % L))) from (h7_zu15)), (show zu15 8 = nI (ct g T ro L k + T 2 (ro (k % L))) from (h8_zu15)), (show wI g T ro L (k + 1) (T 1 (ro (k % L))) (ct g T ro L k + T 2 (ro (k % L))) from (Or.inr ⟨Nat.succ_pos k, rfl, rfl⟩)), (show ∀ x, x < g 0 → (va_up a1008 21 (upd (a1008 21) (ro (k % L)) (nI ((ct g T ro L k + T 2 (ro (k % L))) + hd g T (ro (k % L)))))) 21 x = nI (uk g T ro L (k + 1) x) from (show ∀ x, x < g 0 → (upd (a1008 21) (ro (k % L)) (nI ((ct g T ro L k + T 2 (ro (k % L))) + hd g T (ro (k % L))))) x = nI (uk g T ro L (k + 1) x) from un_push (fun x hx => hun (x) hx))), (show (cb ||| 2 ^ (ro (k % L))) < 64 from (or_lt _ hcb _ (by omega))), (show ∀ x, x < 6 → (bi (cb ||| 2 ^ (ro (k % L))) x = 1 ↔ ∃ j, j < (k + 1) ∧ ro (j % L) = x) from (cb_push hcb hcm (by omega))), (show ∀ j, j < (k + 1) → ct g T ro L j ≤ uk g T ro L j (ro (j % L)) from (lt_s (p := fun j => ct g T ro L j ≤ uk g T ro L j (ro (j % L))) hok (by omega))), (fun i h6 h7 h8 h9 h10 => Eq.trans (hfu_zu15 i h6 h7 h8 h9 h10) (hfu8 i h6 h7 h8 h9 h10)), (fun i h21 => Eq.trans (vup_ne h21) (hfa8 i h21)), hP, hD, hS, lv_sub hl [0, 1, 2] rfl⟩
    · refine lv_iconst (v := (nI 0)) hx hb dX8_nothingEverFalls_38 rfl ?_
      exact wZret hx hb hr hlocks (v := (nI 0)) (by first | exact Or.inl rfl | exact Or.inr rfl) (zu15, a1008, th, LP, tf) (⟨Or.inr ⟨rfl, fun q => by have := q.2 k (by omega); omega⟩, (fun i h6 h7 h8 h9 h10 => Eq.trans (hfu_zu15 i h6 h7 h8 h9 h10) (Eq.trans (hfu8 i h6 h7 h8 h9 h10) (hfu_zu4 i h6 h7 h8))), (fun i h21 => Eq.trans (hfa8 i h21) (hfa_zu4 i h21)), rfl⟩) hK hP hD hS dX8_nothingEverFalls_39
