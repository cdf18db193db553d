set_option maxHeartbeats 4000000 in
set_option maxRecDepth 100000 in
theorem kX10_harmOf (l : Launch) (D : va_G) (cA : Nat → ClassId) (r : Nat → Nat) (sz : Nat) (u : Nat → Int32) (a : Nat → Nat → Int32) (g : Nat → Nat) (T : Nat → Nat → Nat) (ro : Nat → Nat) (L : Nat) (S till : Nat) (hM : MT u a g T) (hB : TB g T) (hL : u 22 = nI L) (hL8 : L ≤ 8) (hro : ∀ k, k < L → a 21 k = nI (ro k)) (hrg : ∀ k, k < L → ro k < g 0) (hS64 : S < 64) (hSL : ∀ x, x < g 0 → bi S x = 1 → 0 < L) (htl : till ≤ 300) : Met l yX10_harmOf wsX10_harmOf ({ frames := 2, cells := 0, slots := 0, locals := 47 } : Room) (va_Pc [.ref (r 0), .int (nI S), .int (nI till)] (wA D vwCl (tyA cA) e0 (xM cA r) (u, a) sz)) (va_Qi (fun (v : Int32) (z : sM) => v = nI (hv g T ro L S till) ∧ (∀ i, i ≠ 25 → z.1 i = u i) ∧ (∀ i, i ≠ 23 → i ≠ 24 → i ≠ 26 → z.2 i = a i)) (wB D vwCl (tyA cA) (xM cA r) (va_A (xM cA r (u, a)) sz)) (va_A (xM cA r (u, a)) sz)) 0 0 (va_A (xM cA r (u, a)) sz) := by
  refine Met.ofW (cc := cX10_harmOf) (maxL := 5) (ret := (some .int)) (by decide) rfl ?_
  intro p e s m args below meth c s₁ B hml hv
  obtain ⟨rfl, hsz, hP, hK, hD0, hE⟩ := hv
  have hx := B.exec
  have hb := B.bytes
  have hr := B.returns
  have hts := atoms_spec (ws := wsX10_harmOf) B.pre
  have hown : s.vm.findClass RX10 = some m.cls := findClass_of_methodNamed B.named
  have hlocks := B.notSynchronized
  subst hsz
  have hD := hD0.self (sz := s.heap.size)
  generalize hAe : va_A (xM cA r (u, a)) s.heap.size = A at hD hE ⊢
  have hA : ∀ q : Nat, s.heap.size ≤ q → A q := fun q h => by rw [← hAe]; exact Or.inr h
  have hS : va_S A s.heap s.heap [] := va_S.rf
  have hinX10 : ∀ w ∈ u_ws RX10 TX10 34, w ∈ wsX10_harmOf := by decide +kernel
  have hl := lv_entry ([.ref (r 0), .int (nI S), .int (nI till)]) (n := 5) (Nat.le_of_ble_eq_true rfl)
  rw [lg_entry_eq]
  generalize (lg_sl ([.ref (r 0), .int (nI S), .int (nI till)]) ++ List.replicate (5 - (lg_sl ([.ref (r 0), .int (nI S), .int (nI till)])).length) Slot.unset).toArray = ls at hl ⊢
  have hl : lv_has ls 5 [(0, .ref (r 0)), (1, .int (nI S)), (2, .int (nI till))] := hl
  have hg6 := hB.1
  refine lv_aload_n hx hb dX10_harmOf_0 rfl (lv_at hl 0 rfl) ?_
  refine lv_sipush (v := (nI 300)) hx hb dX10_harmOf_1 rfl ?_
  refine lv_sipush (v := (nI 400)) hx hb dX10_harmOf_4 rfl ?_
  refine wVv e0_S (As := [.int (nI 300), .int (nI 400)]) (rest := []) ⟨hx, hb, hml, hown, hts⟩ (kX10_layComings l D cA r _ u a g T ro L 300 400 hM hB (hL) hL8 (fun k hk => hro (k) hk) hrg (by decide) (by omega)) (cwV 2 hts gX10_harmOf_X10_layComings rfl rfl rfl (by decide +kernel) ⟨Nat.le_of_ble_eq_true rfl, Nat.le_of_ble_eq_true rfl⟩) (va_recv hK hP (ci := 10) (q0 := 0) rfl rfl) hK hP hD hS hA hE rfl hl.1 rfl (Nat.le_of_ble_eq_true rfl) dX10_harmOf_7 ⟨Nat.zero_le _, Nat.zero_le _⟩ (fun z_3 H locs hw_2 hP hD hS => ?_)
  obtain ⟨zu4, za5⟩ := z_3
  obtain ⟨cN, hLC, hcu_zu4, hc23_zu4, hc24_zu4, hfu_zu4, hfa_zu4⟩ := hw_2
  have hcu_zu4 : zu4 25 = nI cN := hcu_zu4
  have hc23_zu4 : ∀ k, k < cN → za5 23 k = nI (ct g T ro L k) := hc23_zu4
  have hc24_zu4 : ∀ k, k < cN → za5 24 k = nI (ro (k % L)) := hc24_zu4
  have hfu_zu4 : ∀ i, i ≠ 25 → zu4 i = u i := hfu_zu4
  have hfa_zu4 : ∀ i, i ≠ 23 → i ≠ 24 → za5 i = a i := hfa_zu4
  have hP : va_P D vwCl (xM cA r (zu4, za5)) H := hP
  have hD : va_D A (xM cA r (zu4, za5)) := hD
  have hcN := LC_300 hLC hB hrg
  refine lv_iconst (v := (nI 0)) hx hb dX10_harmOf_10 rfl ?_
  refine lv_istore_n (lv' := [(3, .int (nI 0)), (0, .ref (r 0)), (1, .int (nI S)), (2, .int (nI till))]) hx hb dX10_harmOf_11 rfl hl (by decide) rfl (fun ls hl => ?_)
  refine lv_iconst (v := (nI 0)) hx hb dX10_harmOf_12 rfl ?_
  refine lv_istore (lv' := [(4, .int (nI 0)), (3, .int (nI 0)), (0, .ref (r 0)), (1, .int (nI S)), (2, .int (nI till))]) hx hb dX10_harmOf_13 hl (by decide) rfl (fun ls hl => ?_)
  refine wLoop (τ := Nat × (Nat → Nat → Int32)) (fun z H locs ls => (fun (x : Nat) (a1015 : (Nat → Nat → Int32)) => (x ≤ g 0) ∧ (∀ i : Nat, i ≠ 26 → a1015 i = za5 i) ∧ (va_P D vwCl (xM cA r (zu4, a1015)) H) ∧ (va_D A (xM cA r (zu4, a1015))) ∧ (va_S A s.heap H locs) ∧ (lv_has ls 5 [(3, .int (nI (hs T (fun x => (fa (ct g T ro L) (fun k => ro (k % L)) x (hd g T x) (T 2 x) till cN).length) S x))), (4, .int (nI x)), (0, .ref (r 0)), (1, .int (nI S)), (2, .int (nI till))])) z.1 z.2) (fun z => (fun (x : Nat) (a1015 : (Nat → Nat → Int32)) => g 0 - x) z.1 z.2) (0, za5) ⟨(show 0 ≤ g 0 from Nat.zero_le _), (fun i h26 => rfl), hP, hD, hS, lv_sub hl [1, 0, 2, 3, 4] rfl⟩ ?_
  rintro ⟨x, a1015⟩ H locs ls ⟨hx1, hfa15, hP, hD, hS, hl⟩ ih15
  have hx1 : x ≤ g 0 := hx1
  have hfa15 : ∀ i : Nat, i ≠ 26 → a1015 i = za5 i := hfa15
  have hP : va_P D vwCl (xM cA r (zu4, a1015)) H := hP
  have hD : va_D A (xM cA r (zu4, a1015)) := hD
  have hl : lv_has ls 5 [(3, .int (nI (hs T (fun x => (fa (ct g T ro L) (fun k => ro (k % L)) x (hd g T x) (T 2 x) till cN).length) S x))), (4, .int (nI x)), (0, .ref (r 0)), (1, .int (nI S)), (2, .int (nI till))] := hl
  refine lv_iload hx hb dX10_harmOf_15 (lv_at hl 1 rfl) ?_
  refine lv_aload_n hx hb dX10_harmOf_17 rfl (lv_at hl 2 rfl) ?_
  refine va_get (D := D) (ci := 10) (v := .int (nI (g 0))) (C := RX10) (T := TX10) (N := 34) hx hb hts hinX10 hown hK hP 0 rfl rfl 5 (by decide) (hts (.fieldLink RX10 90 "OneNailModel" "things" "I") (by decide +kernel)) (fun _ h9 => h9) (congrArg (fun z => some (Value.int z)) ((hfu_zu4 5 (by decide)).trans (hM.1))) dX10_harmOf_18 ?_
  refine rn_ge (x := x) (y := g 0) (tgt := 62) hx hb (by omega) (by omega) dX10_harmOf_21 (by decide) (fun c_6 => ?_) (fun c_6 => ?_)
  · have hxe : x = g 0 := by omega
    have hl : lv_has ls 5 [(3, .int (nI (hs T (fun x => (fa (ct g T ro L) (fun k => ro (k % L)) x (hd g T x) (T 2 x) till cN).length) S (g 0)))), (4, .int (nI x)), (0, .ref (r 0)), (1, .int (nI S)), (2, .int (nI till))] := lv_re hl 0 ⟨rfl, rfl⟩ (congrArg nI (by rw [hxe]))
    refine lv_iload_n hx hb dX10_harmOf_62 rfl (lv_at hl 0 rfl) ?_
    exact wIret hx hb hr hlocks (v := (nI (hs T (fun x => (fa (ct g T ro L) (fun k => ro (k % L)) x (hd g T x) (T 2 x) till cN).length) S (g 0)))) (zu4, a1015) (⟨congrArg nI (hs_congr (fun y hy hb => by rw [LC_cnf hLC hB (hSL y hy hb) hrg]; rfl)), (fun i h25 => hfu_zu4 i h25), (fun i h23 h24 h26 => Eq.trans (hfa15 i h26) (hfa_zu4 i h23 h24))⟩) hK hP hD hS dX10_harmOf_63
  · have hbx := bi_lt S x
    refine lv_iload_n hx hb dX10_harmOf_24 rfl (lv_at hl 0 rfl) ?_
    refine lv_iload_n hx hb dX10_harmOf_25 rfl (lv_at hl 3 rfl) ?_
    refine lv_iload hx hb dX10_harmOf_26 (lv_at hl 1 rfl) ?_
    refine lv_ishr hx hb dX10_harmOf_28 ?_
    refine lv_iconst (v := (nI 1)) hx hb dX10_harmOf_29 rfl ?_
    refine lv_iand hx hb dX10_harmOf_30 ?_
    refine lv_topi (fun y_7 ey_7 => ?_)
    obtain rfl : y_7 = (nI (bi S x)) := ey_7.trans (bi_row S hS64 x (by omega))
    refine lv_iconst (v := (nI 1)) hx hb dX10_harmOf_31 rfl ?_
    refine rn_ne (x := bi S x) (y := 1) (tgt := 53) hx hb (by omega) (by omega) dX10_harmOf_32 (by decide) (fun c_8 => ?_) (fun c_8 => ?_)
    · refine lv_iconst (v := (nI 0)) hx hb dX10_harmOf_53 rfl ?_
      refine rn_iadd (x := hs T (fun x => (fa (ct g T ro L) (fun k => ro (k % L)) x (hd g T x) (T 2 x) till cN).length) S x) (y := 0) hx hb dX10_harmOf_54 ?_
      refine lv_istore_n (lv' := [(3, .int (nI ((hs T (fun x => (fa (ct g T ro L) (fun k => ro (k % L)) x (hd g T x) (T 2 x) till cN).length) S x) + 0))), (4, .int (nI x)), (0, .ref (r 0)), (1, .int (nI S)), (2, .int (nI till))]) hx hb dX10_harmOf_55 rfl hl (by decide) rfl (fun ls hl => ?_)
      refine rn_iinc (x := x) (d := 1) (lv' := [(4, .int (nI (x + 1))), (3, .int (nI ((hs T (fun x => (fa (ct g T ro L) (fun k => ro (k % L)) x (hd g T x) (T 2 x) till cN).length) S x) + 0))), (0, .ref (r 0)), (1, .int (nI S)), (2, .int (nI till))]) hx hb rfl dX10_harmOf_56 hl (k := 1) rfl (by decide) rfl (fun ls hl => ?_)
      refine lv_goto (tgt := 15) hx hb dX10_harmOf_59 (by decide) ?_
      have hl : lv_has ls 5 [(4, .int (nI (x + 1))), (3, .int (nI (hs T (fun x => (fa (ct g T ro L) (fun k => ro (k % L)) x (hd g T x) (T 2 x) till cN).length) S (x + 1)))), (0, .ref (r 0)), (1, .int (nI S)), (2, .int (nI till))] := lv_re hl 1 ⟨rfl, rfl⟩ (congrArg nI (by rw [hs]; first | rw [if_pos (by omega)] | rw [if_neg (by omega)]))
      exact ih15 ((x + 1), a1015) _ _ _ (show g 0 - (x + 1) < g 0 - x from by omega) ⟨(show (x + 1) ≤ g 0 from by omega), (fun i h26 => hfa15 i h26), hP, hD, hS, lv_sub hl [1, 0, 2, 3, 4] rfl⟩
    · have hL0 : 0 < L := hSL x (by omega) (by omega)
      have hTx := hB.2.2.2 x (by omega)
      have hfl := fa_len (ct g T ro L) (fun k => ro (k % L)) x (hd g T x) (T 2 x) till cN
      refine lv_aload_n hx hb dX10_harmOf_35 rfl (lv_at hl 2 rfl) ?_
      refine va_get (D := D) (ci := 10) (v := .ref (r 12)) (C := RX10) (T := TX10) (N := 34) hx hb hts hinX10 hown hK hP 0 rfl rfl 12 (by decide) (hts (.fieldLink RX10 31 "OneNailModel" "harms" "[I") (by decide +kernel)) (fun _ h9 => h9) rfl dX10_harmOf_36 ?_
      refine lv_iload hx hb dX10_harmOf_39 (lv_at hl 1 rfl) ?_
      refine ra_iald hx hb hK hP 8 0 (n := 6) (f := (a1015 12)) (j := x) (v := (nI (T 4 x))) rfl rfl (by omega) (by decide) ((congrFun (hfa15 12 (by decide)) (x)).trans ((congrFun (hfa_zu4 12 (by decide) (by decide)) (x)).trans ((hM.2.2.2 (x) (by omega)).2.2.2.2))) dX10_harmOf_41 ?_
      refine lv_aload_n hx hb dX10_harmOf_42 rfl (lv_at hl 2 rfl) ?_
      refine lv_iload hx hb dX10_harmOf_43 (lv_at hl 1 rfl) ?_
      refine lv_iload_n hx hb dX10_harmOf_45 rfl (lv_at hl 4 rfl) ?_
      refine wVi e0_S (As := [.int (nI x), .int (nI till)]) (rest := [.int (nI (T 4 x)), .int (nI (hs T (fun x => (fa (ct g T ro L) (fun k => ro (k % L)) x (hd g T x) (T 2 x) till cN).length) S x))]) ⟨hx, hb, hml, hown, hts⟩ (kX10_fallsOf l D cA r _ zu4 a1015 g T (ct g T ro L) (fun k => ro (k % L)) cN x till (MT.keep (MT.keep hM (hfu_zu4 5 (by decide)) (hfu_zu4 6 (by decide)) (hfu_zu4 7 (by decide)) (hfa_zu4 8 (by decide) (by decide)) (hfa_zu4 9 (by decide) (by decide)) (hfa_zu4 10 (by decide) (by decide)) (hfa_zu4 11 (by decide) (by decide)) (hfa_zu4 12 (by decide) (by decide))) rfl rfl rfl (hfa15 8 (by decide)) (hfa15 9 (by decide)) (hfa15 10 (by decide)) (hfa15 11 (by decide)) (hfa15 12 (by decide))) hB (hcu_zu4) hcN (fun k hk => (congrFun (hfa15 23 (by decide)) (k)).trans (hc23_zu4 (k) hk)) (fun k hk => (congrFun (hfa15 24 (by decide)) (k)).trans (hc24_zu4 (k) hk)) (fun k hk => by have := ct_le hB hL0 hrg k; omega) (fun k hk => by have := hrg _ (Nat.mod_lt k hL0); omega) (by omega) (by omega)) (cwV 2 hts gX10_harmOf_X10_fallsOf rfl rfl rfl (by decide +kernel) ⟨Nat.le_of_ble_eq_true rfl, Nat.le_of_ble_eq_true rfl⟩) (va_recv hK hP (ci := 10) (q0 := 0) rfl rfl) hK hP hD hS hA hE rfl hl.1 rfl (Nat.le_of_ble_eq_true rfl) dX10_harmOf_46 ⟨Nat.zero_le _, Nat.zero_le _⟩ (fun rv_9 z_11 H locs hw_10 hP hD hS => ?_)
      obtain ⟨zu13, za12⟩ := z_11
      obtain ⟨rfl, hu_za12, hfa_za12, hF_za12⟩ := hw_10
      have hu_za12 : zu4 = zu13 := Eq.symm hu_za12
      subst hu_za12
      have hfa_za12 : ∀ i, i ≠ 26 → za12 i = a1015 i := hfa_za12
      have hF_za12 : ∀ j, j < (fa (ct g T ro L) (fun k => ro (k % L)) x (hd g T x) (T 2 x) till cN).length → za12 26 j = nI ((fa (ct g T ro L) (fun k => ro (k % L)) x (hd g T x) (T 2 x) till cN).getD j 0) := hF_za12
      have hFl_za12 := fa_len (ct g T ro L) (fun k => ro (k % L)) x (hd g T x) (T 2 x) till cN
      have hP : va_P D vwCl (xM cA r (zu4, za12)) H := hP
      have hD : va_D A (xM cA r (zu4, za12)) := hD
      refine rn_imul (x := T 4 x) (y := (fa (ct g T ro L) (fun k => ro (k % L)) x (hd g T x) (T 2 x) till cN).length) hx hb dX10_harmOf_49 ?_
      refine lv_goto (tgt := 54) hx hb dX10_harmOf_50 (by decide) ?_
      refine rn_iadd (x := hs T (fun x => (fa (ct g T ro L) (fun k => ro (k % L)) x (hd g T x) (T 2 x) till cN).length) S x) (y := (T 4 x) * ((fa (ct g T ro L) (fun k => ro (k % L)) x (hd g T x) (T 2 x) till cN).length)) hx hb dX10_harmOf_54 ?_
      refine lv_istore_n (lv' := [(3, .int (nI ((hs T (fun x => (fa (ct g T ro L) (fun k => ro (k % L)) x (hd g T x) (T 2 x) till cN).length) S x) + ((T 4 x) * ((fa (ct g T ro L) (fun k => ro (k % L)) x (hd g T x) (T 2 x) till cN).length))))), (4, .int (nI x)), (0, .ref (r 0)), (1, .int (nI S)), (2, .int (nI till))]) hx hb dX10_harmOf_55 rfl hl (by decide) rfl (fun ls hl => ?_)
      refine rn_iinc (x := x) (d := 1) (lv' := [(4, .int (nI (x + 1))), (3, .int (nI ((hs T (fun x => (fa (ct g T ro L) (fun k => ro (k % L)) x (hd g T x) (T 2 x) till cN).length) S x) + ((T 4 x) * ((fa (ct g T ro L) (fun k => ro (k % L)) x (hd g T x) (T 2 x) till cN).length))))), (0, .ref (r 0)), (1, .int (nI S)), (2, .int (nI till))]) hx hb rfl dX10_harmOf_56 hl (k := 1) rfl (by decide) rfl (fun ls hl => ?_)
      refine lv_goto (tgt := 15) hx hb dX10_harmOf_59 (by decide) ?_
      have hl : lv_has ls 5 [(4, .int (nI (x + 1))), (3, .int (nI (hs T (fun x => (fa (ct g T ro L) (fun k => ro (k % L)) x (hd g T x) (T 2 x) till cN).length) S (x + 1)))), (0, .ref (r 0)), (1, .int (nI S)), (2, .int (nI till))] := lv_re hl 1 ⟨rfl, rfl⟩ (congrArg nI (by rw [hs]; first | rw [if_pos (by omega)] | rw [if_neg (by omega)]))
      exact ih15 ((x + 1), za12) _ _ _ (show g 0 - (x + 1) < g 0 - x from by omega) ⟨(show (x + 1) ≤ g 0 from by omega), (fun i h26 => Eq.trans (hfa_za12 i h26) (hfa15 i h26)), hP, hD, hS, lv_sub hl [1, 0, 2, 3, 4] rfl⟩
