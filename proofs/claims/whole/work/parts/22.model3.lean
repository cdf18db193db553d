set_option maxHeartbeats 4000000 in
set_option maxRecDepth 100000 in
theorem kX10_fallsOf (l : Launch) (D : va_G) (cA : Nat → ClassId) (r : Nat → Nat) (sz : Nat) (u : Nat → Int32) (a : Nat → Nat → Int32) (g : Nat → Nat) (T : Nat → Nat → Nat) (cf tg : Nat → Nat) (cN x till : Nat) (hM : MT u a g T) (hB : TB g T) (hc : u 25 = nI cN) (hcN : cN ≤ 300) (hcf : ∀ k, k < cN → a 23 k = nI (cf k)) (hct : ∀ k, k < cN → a 24 k = nI (tg k)) (hcb : ∀ k, k < cN → cf k ≤ 10000) (htb : ∀ k, k < cN → tg k < 8) (hx0 : x < g 0) (htl : till ≤ 300) : Met l yX10_fallsOf wsX10_fallsOf ({ frames := 1, cells := 0, slots := 0, locals := 22 } : Room) (va_Pc [.ref (r 0), .int (nI x), .int (nI till)] (wA D vwCl (tyA cA) e0 (xM cA r) (u, a) sz)) (va_Qi (fun (v : Int32) (z : sM) => v = nI (fa cf tg x (hd g T x) (T 2 x) till cN).length ∧ z.1 = u ∧ (∀ i, i ≠ 26 → z.2 i = a i) ∧ ∀ j, j < (fa cf tg x (hd g T x) (T 2 x) till cN).length → z.2 26 j = nI ((fa cf tg x (hd g T x) (T 2 x) till cN).getD j 0)) (wB D vwCl (tyA cA) (xM cA r) (va_A (xM cA r (u, a)) sz)) (va_A (xM cA r (u, a)) sz)) 0 0 (va_A (xM cA r (u, a)) sz) := by
  refine Met.ofW (cc := cX10_fallsOf) (maxL := 6) (ret := (some .int)) (by decide) rfl ?_
  intro p e s m args below meth c s₁ B hml hv
  obtain ⟨rfl, hsz, hP, hK, hD0, hE⟩ := hv
  have hx := B.exec
  have hb := B.bytes
  have hr := B.returns
  have hts := atoms_spec (ws := wsX10_fallsOf) B.pre
  have hown : s.vm.findClass RX10 = some m.cls := findClass_of_methodNamed B.named
  have hlocks := B.notSynchronized
  subst hsz
  have hD := hD0.self (sz := s.heap.size)
  generalize hAe : va_A (xM cA r (u, a)) s.heap.size = A at hD hE ⊢
  have hA : ∀ q : Nat, s.heap.size ≤ q → A q := fun q h => by rw [← hAe]; exact Or.inr h
  have hS : va_S A s.heap s.heap [] := va_S.rf
  have hinX10 : ∀ w ∈ u_ws RX10 TX10 34, w ∈ wsX10_fallsOf := by decide +kernel
  have hl := lv_entry ([.ref (r 0), .int (nI x), .int (nI till)]) (n := 6) (Nat.le_of_ble_eq_true rfl)
  rw [lg_entry_eq]
  generalize (lg_sl ([.ref (r 0), .int (nI x), .int (nI till)]) ++ List.replicate (6 - (lg_sl ([.ref (r 0), .int (nI x), .int (nI till)])).length) Slot.unset).toArray = ls at hl ⊢
  have hl : lv_has ls 6 [(0, .ref (r 0)), (1, .int (nI x)), (2, .int (nI till))] := hl
  have hg6 := hB.1
  have hTx := hB.2.2.2 x hx0
  have hdx := hd_le hB hx0
  refine lv_iconst (v := (nI 0)) hx hb dX10_fallsOf_0 rfl ?_
  refine lv_istore_n (lv' := [(3, .int (nI 0)), (0, .ref (r 0)), (1, .int (nI x)), (2, .int (nI till))]) hx hb dX10_fallsOf_1 rfl hl (by decide) rfl (fun ls hl => ?_)
  refine lv_aload_n hx hb dX10_fallsOf_2 rfl (lv_at hl 1 rfl) ?_
  refine lv_iload_n hx hb dX10_fallsOf_3 rfl (lv_at hl 2 rfl) ?_
  refine wVi e0_S (As := [.int (nI x)]) (rest := []) ⟨hx, hb, hml, hown, hts⟩ (kX10_holds l D cA r _ u a g T x hM hB (by omega)) (cwV 1 hts gX10_fallsOf_X10_holds rfl rfl rfl (by decide +kernel) ⟨Nat.le_of_ble_eq_true rfl, Nat.le_of_ble_eq_true rfl⟩) (va_recv hK hP (ci := 10) (q0 := 0) rfl rfl) hK hP hD hS hA hE rfl hl.1 rfl (Nat.le_of_ble_eq_true rfl) dX10_fallsOf_4 ⟨Nat.zero_le _, Nat.zero_le _⟩ (fun rv_1 z_3 H locs hw_2 hP hD hS => ?_)
  obtain ⟨rfl, rfl⟩ := hw_2
  have hP : va_P D vwCl (xM cA r (u, a)) H := hP
  have hD : va_D A (xM cA r (u, a)) := hD
  refine lv_istore (lv' := [(4, .int (nI (hd g T x))), (3, .int (nI 0)), (0, .ref (r 0)), (1, .int (nI x)), (2, .int (nI till))]) hx hb dX10_fallsOf_7 hl (by decide) rfl (fun ls hl => ?_)
  refine lv_iconst (v := (nI 0)) hx hb dX10_fallsOf_9 rfl ?_
  refine lv_istore (lv' := [(5, .int (nI 0)), (4, .int (nI (hd g T x))), (3, .int (nI 0)), (0, .ref (r 0)), (1, .int (nI x)), (2, .int (nI till))]) hx hb dX10_fallsOf_10 hl (by decide) rfl (fun ls hl => ?_)
  refine wLoop (τ := Nat × (Nat → Nat → Int32)) (fun z H locs ls => (fun (k : Nat) (a1012 : (Nat → Nat → Int32)) => (k ≤ cN) ∧ (∀ j, j < (fl cf tg x (hd g T x) (T 2 x) till k).length → a1012 26 j = nI ((fl cf tg x (hd g T x) (T 2 x) till k).getD j 0)) ∧ (∀ i : Nat, i ≠ 26 → a1012 i = a i) ∧ (va_P D vwCl (xM cA r (u, a1012)) H) ∧ (va_D A (xM cA r (u, a1012))) ∧ (va_S A s.heap H locs) ∧ (lv_has ls 6 [(5, .int (nI k)), (4, .int (nI (up cf tg x (hd g T x) (T 2 x) k))), (3, .int (nI ((fl cf tg x (hd g T x) (T 2 x) till k).length))), (0, .ref (r 0)), (1, .int (nI x)), (2, .int (nI till))])) z.1 z.2) (fun z => (fun (k : Nat) (a1012 : (Nat → Nat → Int32)) => cN - k) z.1 z.2) (0, a) ⟨(show 0 ≤ cN from Nat.zero_le _), (show ∀ j, j < (fl cf tg x (hd g T x) (T 2 x) till 0).length → a 26 j = nI ((fl cf tg x (hd g T x) (T 2 x) till 0).getD j 0) from (fun j h => absurd h (Nat.not_lt_zero j))), (fun i h26 => rfl), hP, hD, hS, lv_sub hl [0, 1, 2, 3, 4, 5] rfl⟩ ?_
  rintro ⟨k, a1012⟩ H locs ls ⟨hk, hF, hfa12, hP, hD, hS, hl⟩ ih12
  have hk : k ≤ cN := hk
  have hF : ∀ j, j < (fl cf tg x (hd g T x) (T 2 x) till k).length → a1012 26 j = nI ((fl cf tg x (hd g T x) (T 2 x) till k).getD j 0) := hF
  have hfa12 : ∀ i : Nat, i ≠ 26 → a1012 i = a i := hfa12
  have hP : va_P D vwCl (xM cA r (u, a1012)) H := hP
  have hD : va_D A (xM cA r (u, a1012)) := hD
  have hl : lv_has ls 6 [(5, .int (nI k)), (4, .int (nI (up cf tg x (hd g T x) (T 2 x) k))), (3, .int (nI ((fl cf tg x (hd g T x) (T 2 x) till k).length))), (0, .ref (r 0)), (1, .int (nI x)), (2, .int (nI till))] := hl
  have hul := up_le (tg := tg) (x := x) (h := hd g T x) (y := T 2 x) hcb k hk
  have hfl := fl_len cf tg x (hd g T x) (T 2 x) till k
  refine lv_iload hx hb dX10_fallsOf_12 (lv_at hl 0 rfl) ?_
  refine lv_aload_n hx hb dX10_fallsOf_14 rfl (lv_at hl 3 rfl) ?_
  refine va_get (D := D) (ci := 10) (v := .int (nI cN)) (C := RX10) (T := TX10) (N := 34) hx hb hts hinX10 hown hK hP 0 rfl rfl 25 (by decide) (hts (.fieldLink RX10 142 "OneNailModel" "comings" "I") (by decide +kernel)) (fun _ h9 => h9) (congrArg (fun z => some (Value.int z)) (hc)) dX10_fallsOf_15 ?_
  refine rn_ge (x := k) (y := cN) (tgt := 89) hx hb (by omega) (by omega) dX10_fallsOf_18 (by decide) (fun c_4 => ?_) (fun c_4 => ?_)
  · obtain rfl : k = cN := by omega
    refine lv_iload hx hb dX10_fallsOf_89 (lv_at hl 1 rfl) ?_
    refine lv_iload_n hx hb dX10_fallsOf_91 rfl (lv_at hl 5 rfl) ?_
    refine rn_ge (x := up cf tg x (hd g T x) (T 2 x) k) (y := till) (tgt := 106) hx hb (by omega) (by omega) dX10_fallsOf_92 (by decide) (fun c_5 => ?_) (fun c_5 => ?_)
    · refine lv_iload_n hx hb dX10_fallsOf_106 rfl (lv_at hl 2 rfl) ?_
      exact wIret hx hb hr hlocks (v := (nI ((fl cf tg x (hd g T x) (T 2 x) till k).length))) (u, a1012) (⟨by rw [fa_no (by omega)], rfl, hfa12, by rw [fa_no (by omega)]; exact hF⟩) hK hP hD hS dX10_fallsOf_107
    · refine lv_aload_n hx hb dX10_fallsOf_95 rfl (lv_at hl 3 rfl) ?_
      refine va_get (D := D) (ci := 10) (v := .ref (r 26)) (C := RX10) (T := TX10) (N := 34) hx hb hts hinX10 hown hK hP 0 rfl rfl 26 (by decide) (hts (.fieldLink RX10 58 "OneNailModel" "falls" "[I") (by decide +kernel)) (fun _ h9 => h9) rfl dX10_fallsOf_96 ?_
      refine lv_iload_n hx hb dX10_fallsOf_99 rfl (lv_at hl 2 rfl) ?_
      refine lv_iload hx hb dX10_fallsOf_100 (lv_at hl 1 rfl) ?_
      refine ra_iast hx hb hK hP hD hS 17 0 (n := 400) (f := (a1012 26)) (j := (fl cf tg x (hd g T x) (T 2 x) till k).length) (x := (nI (up cf tg x (hd g T x) (T 2 x) k))) rfl rfl (by omega) (by decide) dX10_fallsOf_102 (fun H locs hP hD hS => ?_)
      have hP : va_P D vwCl (xM cA r (u, (va_up a1012 26 (upd (a1012 26) ((fl cf tg x (hd g T x) (T 2 x) till k).length) (nI (up cf tg x (hd g T x) (T 2 x) k)))))) H := hP
      have hD : va_D A (xM cA r (u, (va_up a1012 26 (upd (a1012 26) ((fl cf tg x (hd g T x) (T 2 x) till k).length) (nI (up cf tg x (hd g T x) (T 2 x) k)))))) := hD
      refine rn_iinc (x := (fl cf tg x (hd g T x) (T 2 x) till k).length) (d := 1) (lv' := [(3, .int (nI ((fl cf tg x (hd g T x) (T 2 x) till k).length + 1))), (5, .int (nI k)), (4, .int (nI (up cf tg x (hd g T x) (T 2 x) k))), (0, .ref (r 0)), (1, .int (nI x)), (2, .int (nI till))]) hx hb rfl dX10_fallsOf_103 hl (k := 2) rfl (by decide) rfl (fun ls hl => ?_)
      refine lv_iload_n hx hb dX10_fallsOf_106 rfl (lv_at hl 0 rfl) ?_
      exact wIret hx hb hr hlocks (v := (nI ((fl cf tg x (hd g T x) (T 2 x) till k).length + 1))) (u, (va_up a1012 26 (upd (a1012 26) ((fl cf tg x (hd g T x) (T 2 x) till k).length) (nI (up cf tg x (hd g T x) (T 2 x) k))))) (⟨by rw [fa_yes (by omega), len_push], rfl, fun i h => (vup_ne h).trans (hfa12 i h), by rw [fa_yes (by omega)]; exact fl_push hF _⟩) hK hP hD hS dX10_fallsOf_107
  · have hcbk := hcb k (by omega)
    have htbk := htb k (by omega)
    refine lv_aload_n hx hb dX10_fallsOf_21 rfl (lv_at hl 3 rfl) ?_
    refine va_get (D := D) (ci := 10) (v := .ref (r 24)) (C := RX10) (T := TX10) (N := 34) hx hb hts hinX10 hown hK hP 0 rfl rfl 24 (by decide) (hts (.fieldLink RX10 55 "OneNailModel" "comesTo" "[I") (by decide +kernel)) (fun _ h9 => h9) rfl dX10_fallsOf_22 ?_
    refine lv_iload hx hb dX10_fallsOf_25 (lv_at hl 0 rfl) ?_
    refine ra_iald hx hb hK hP 16 0 (n := 400) (f := (a1012 24)) (j := k) (v := (nI (tg k))) rfl rfl (by omega) (by decide) ((congrFun (hfa12 24 (by decide)) (k)).trans (hct (k) (by omega))) dX10_fallsOf_27 ?_
    refine lv_iload_n hx hb dX10_fallsOf_28 rfl (lv_at hl 4 rfl) ?_
    refine rn_ne (x := tg k) (y := x) (tgt := 83) hx hb (by omega) (by omega) dX10_fallsOf_29 (by decide) (fun c_6 => ?_) (fun c_6 => ?_)
    · refine rn_iinc (x := k) (d := 1) (lv' := [(5, .int (nI (k + 1))), (4, .int (nI (up cf tg x (hd g T x) (T 2 x) k))), (3, .int (nI ((fl cf tg x (hd g T x) (T 2 x) till k).length))), (0, .ref (r 0)), (1, .int (nI x)), (2, .int (nI till))]) hx hb rfl dX10_fallsOf_83 hl (k := 0) rfl (by decide) rfl (fun ls hl => ?_)
      refine lv_goto (tgt := 12) hx hb dX10_fallsOf_86 (by decide) ?_
      have hl : lv_has ls 6 [(5, .int (nI (k + 1))), (4, .int (nI (up cf tg x (hd g T x) (T 2 x) (k + 1)))), (3, .int (nI ((fl cf tg x (hd g T x) (T 2 x) till k).length))), (0, .ref (r 0)), (1, .int (nI x)), (2, .int (nI till))] := lv_re hl 1 ⟨rfl, rfl⟩ (congrArg nI (up_no (by omega)).symm)
      have hl : lv_has ls 6 [(5, .int (nI (k + 1))), (4, .int (nI (up cf tg x (hd g T x) (T 2 x) (k + 1)))), (3, .int (nI ((fl cf tg x (hd g T x) (T 2 x) till (k + 1)).length))), (0, .ref (r 0)), (1, .int (nI x)), (2, .int (nI till))] := lv_re hl 2 ⟨rfl, rfl⟩ (congrArg nI (by rw [fl_no (by omega)]))
      exact ih12 ((k + 1), a1012) _ _ _ (show cN - (k + 1) < cN - k from by omega) ⟨(show (k + 1) ≤ cN from by omega), (show ∀ j, j < (fl cf tg x (hd g T x) (T 2 x) till (k + 1)).length → a1012 26 j = nI ((fl cf tg x (hd g T x) (T 2 x) till (k + 1)).getD j 0) from (by rw [fl_no (by omega)]; exact hF)), (fun i h26 => hfa12 i h26), hP, hD, hS, lv_sub hl [0, 1, 2, 3, 4, 5] rfl⟩
    · refine lv_iload hx hb dX10_fallsOf_32 (lv_at hl 1 rfl) ?_
      refine lv_aload_n hx hb dX10_fallsOf_34 rfl (lv_at hl 3 rfl) ?_
      refine va_get (D := D) (ci := 10) (v := .ref (r 23)) (C := RX10) (T := TX10) (N := 34) hx hb hts hinX10 hown hK hP 0 rfl rfl 23 (by decide) (hts (.fieldLink RX10 52 "OneNailModel" "comesAt" "[I") (by decide +kernel)) (fun _ h9 => h9) rfl dX10_fallsOf_35 ?_
      refine lv_iload hx hb dX10_fallsOf_38 (lv_at hl 0 rfl) ?_
      refine ra_iald hx hb hK hP 15 0 (n := 400) (f := (a1012 23)) (j := k) (v := (nI (cf k))) rfl rfl (by omega) (by decide) ((congrFun (hfa12 23 (by decide)) (k)).trans (hcf (k) (by omega))) dX10_fallsOf_40 ?_
      refine rn_ge (x := up cf tg x (hd g T x) (T 2 x) k) (y := cf k) (tgt := 61) hx hb (by omega) (by omega) dX10_fallsOf_41 (by decide) (fun c_7 => ?_) (fun c_7 => ?_)
      · refine lv_aload_n hx hb dX10_fallsOf_61 rfl (lv_at hl 3 rfl) ?_
        refine va_get (D := D) (ci := 10) (v := .ref (r 23)) (C := RX10) (T := TX10) (N := 34) hx hb hts hinX10 hown hK hP 0 rfl rfl 23 (by decide) (hts (.fieldLink RX10 52 "OneNailModel" "comesAt" "[I") (by decide +kernel)) (fun _ h9 => h9) rfl dX10_fallsOf_62 ?_
        refine lv_iload hx hb dX10_fallsOf_65 (lv_at hl 0 rfl) ?_
        refine ra_iald hx hb hK hP 15 0 (n := 400) (f := (a1012 23)) (j := k) (v := (nI (cf k))) rfl rfl (by omega) (by decide) ((congrFun (hfa12 23 (by decide)) (k)).trans (hcf (k) (by omega))) dX10_fallsOf_67 ?_
        refine lv_aload_n hx hb dX10_fallsOf_68 rfl (lv_at hl 3 rfl) ?_
        refine va_get (D := D) (ci := 10) (v := .ref (r 10)) (C := RX10) (T := TX10) (N := 34) hx hb hts hinX10 hown hK hP 0 rfl rfl 10 (by decide) (hts (.fieldLink RX10 25 "OneNailModel" "stays" "[I") (by decide +kernel)) (fun _ h9 => h9) rfl dX10_fallsOf_69 ?_
        refine lv_iload_n hx hb dX10_fallsOf_72 rfl (lv_at hl 4 rfl) ?_
        refine ra_iald hx hb hK hP 6 0 (n := 6) (f := (a1012 10)) (j := x) (v := (nI (T 2 x))) rfl rfl (by omega) (by decide) ((congrFun (hfa12 10 (by decide)) (x)).trans ((hM.2.2.2 (x) (by omega)).2.2.1)) dX10_fallsOf_73 ?_
        refine rn_iadd (x := cf k) (y := T 2 x) hx hb dX10_fallsOf_74 ?_
        refine lv_aload_n hx hb dX10_fallsOf_75 rfl (lv_at hl 3 rfl) ?_
        refine lv_iload_n hx hb dX10_fallsOf_76 rfl (lv_at hl 4 rfl) ?_
        refine wVi e0_S (As := [.int (nI x)]) (rest := [.int (nI ((cf k) + (T 2 x)))]) ⟨hx, hb, hml, hown, hts⟩ (kX10_holds l D cA r _ u a1012 g T x (MT.keep hM rfl rfl rfl (hfa12 8 (by decide)) (hfa12 9 (by decide)) (hfa12 10 (by decide)) (hfa12 11 (by decide)) (hfa12 12 (by decide))) hB (by omega)) (cwV 1 hts gX10_fallsOf_X10_holds rfl rfl rfl (by decide +kernel) ⟨Nat.le_of_ble_eq_true rfl, Nat.le_of_ble_eq_true rfl⟩) (va_recv hK hP (ci := 10) (q0 := 0) rfl rfl) hK hP hD hS hA hE rfl hl.1 rfl (Nat.le_of_ble_eq_true rfl) dX10_fallsOf_77 ⟨Nat.zero_le _, Nat.zero_le _⟩ (fun rv_8 z_10 H locs hw_9 hP hD hS => ?_)
        obtain ⟨rfl, rfl⟩ := hw_9
        have hP : va_P D vwCl (xM cA r (u, a1012)) H := hP
        have hD : va_D A (xM cA r (u, a1012)) := hD
        refine rn_iadd (x := (cf k) + (T 2 x)) (y := hd g T x) hx hb dX10_fallsOf_80 ?_
        refine lv_istore (lv' := [(4, .int (nI (((cf k) + (T 2 x)) + (hd g T x)))), (5, .int (nI k)), (3, .int (nI ((fl cf tg x (hd g T x) (T 2 x) till k).length))), (0, .ref (r 0)), (1, .int (nI x)), (2, .int (nI till))]) hx hb dX10_fallsOf_81 hl (by decide) rfl (fun ls hl => ?_)
        refine rn_iinc (x := k) (d := 1) (lv' := [(5, .int (nI (k + 1))), (4, .int (nI (((cf k) + (T 2 x)) + (hd g T x)))), (3, .int (nI ((fl cf tg x (hd g T x) (T 2 x) till k).length))), (0, .ref (r 0)), (1, .int (nI x)), (2, .int (nI till))]) hx hb rfl dX10_fallsOf_83 hl (k := 1) rfl (by decide) rfl (fun ls hl => ?_)
        refine lv_goto (tgt := 12) hx hb dX10_fallsOf_86 (by decide) ?_
        have hl : lv_has ls 6 [(5, .int (nI (k + 1))), (4, .int (nI (up cf tg x (hd g T x) (T 2 x) (k + 1)))), (3, .int (nI ((fl cf tg x (hd g T x) (T 2 x) till k).length))), (0, .ref (r 0)), (1, .int (nI x)), (2, .int (nI till))] := lv_re hl 1 ⟨rfl, rfl⟩ (congrArg nI (up_yes (by omega)).symm)
        have hl : lv_has ls 6 [(5, .int (nI (k + 1))), (4, .int (nI (up cf tg x (hd g T x) (T 2 x) (k + 1)))), (3, .int (nI ((fl cf tg x (hd g T x) (T 2 x) till (k + 1)).length))), (0, .ref (r 0)), (1, .int (nI x)), (2, .int (nI till))] := lv_re hl 2 ⟨rfl, rfl⟩ (congrArg nI (by rw [fl_no (by omega)]))
        exact ih12 ((k + 1), a1012) _ _ _ (show cN - (k + 1) < cN - k from by omega) ⟨(show (k + 1) ≤ cN from by omega), (show ∀ j, j < (fl cf tg x (hd g T x) (T 2 x) till (k + 1)).length → a1012 26 j = nI ((fl cf tg x (hd g T x) (T 2 x) till (k + 1)).getD j 0) from (by rw [fl_no (by omega)]; exact hF)), (fun i h26 => hfa12 i h26), hP, hD, hS, lv_sub hl [0, 1, 2, 3, 4, 5] rfl⟩
      · refine lv_iload hx hb dX10_fallsOf_44 (lv_at hl 1 rfl) ?_
        refine lv_iload_n hx hb dX10_fallsOf_46 rfl (lv_at hl 5 rfl) ?_
        refine rn_ge (x := up cf tg x (hd g T x) (T 2 x) k) (y := till) (tgt := 61) hx hb (by omega) (by omega) dX10_fallsOf_47 (by decide) (fun c_11 => ?_) (fun c_11 => ?_)
        · refine lv_aload_n hx hb dX10_fallsOf_61 rfl (lv_at hl 3 rfl) ?_
          refine va_get (D := D) (ci := 10) (v := .ref (r 23)) (C := RX10) (T := TX10) (N := 34) hx hb hts hinX10 hown hK hP 0 rfl rfl 23 (by decide) (hts (.fieldLink RX10 52 "OneNailModel" "comesAt" "[I") (by decide +kernel)) (fun _ h9 => h9) rfl dX10_fallsOf_62 ?_
          refine lv_iload hx hb dX10_fallsOf_65 (lv_at hl 0 rfl) ?_
          refine ra_iald hx hb hK hP 15 0 (n := 400) (f := (a1012 23)) (j := k) (v := (nI (cf k))) rfl rfl (by omega) (by decide) ((congrFun (hfa12 23 (by decide)) (k)).trans (hcf (k) (by omega))) dX10_fallsOf_67 ?_
          refine lv_aload_n hx hb dX10_fallsOf_68 rfl (lv_at hl 3 rfl) ?_
          refine va_get (D := D) (ci := 10) (v := .ref (r 10)) (C := RX10) (T := TX10) (N := 34) hx hb hts hinX10 hown hK hP 0 rfl rfl 10 (by decide) (hts (.fieldLink RX10 25 "OneNailModel" "stays" "[I") (by decide +kernel)) (fun _ h9 => h9) rfl dX10_fallsOf_69 ?_
          refine lv_iload_n hx hb dX10_fallsOf_72 rfl (lv_at hl 4 rfl) ?_
          refine ra_iald hx hb hK hP 6 0 (n := 6) (f := (a1012 10)) (j := x) (v := (nI (T 2 x))) rfl rfl (by omega) (by decide) ((congrFun (hfa12 10 (by decide)) (x)).trans ((hM.2.2.2 (x) (by omega)).2.2.1)) dX10_fallsOf_73 ?_
          refine rn_iadd (x := cf k) (y := T 2 x) hx hb dX10_fallsOf_74 ?_
          refine lv_aload_n hx hb dX10_fallsOf_75 rfl (lv_at hl 3 rfl) ?_
          refine lv_iload_n hx hb dX10_fallsOf_76 rfl (lv_at hl 4 rfl) ?_
          refine wVi e0_S (As := [.int (nI x)]) (rest := [.int (nI ((cf k) + (T 2 x)))]) ⟨hx, hb, hml, hown, hts⟩ (kX10_holds l D cA r _ u a1012 g T x (MT.keep hM rfl rfl rfl (hfa12 8 (by decide)) (hfa12 9 (by decide)) (hfa12 10 (by decide)) (hfa12 11 (by decide)) (hfa12 12 (by decide))) hB (by omega)) (cwV 1 hts gX10_fallsOf_X10_holds rfl rfl rfl (by decide +kernel) ⟨Nat.le_of_ble_eq_true rfl, Nat.le_of_ble_eq_true rfl⟩) (va_recv hK hP (ci := 10) (q0 := 0) rfl rfl) hK hP hD hS hA hE rfl hl.1 rfl (Nat.le_of_ble_eq_true rfl) dX10_fallsOf_77 ⟨Nat.zero_le _, Nat.zero_le _⟩ (fun rv_12 z_14 H locs hw_13 hP hD hS => ?_)
          obtain ⟨rfl, rfl⟩ := hw_13
          have hP : va_P D vwCl (xM cA r (u, a1012)) H := hP
          have hD : va_D A (xM cA r (u, a1012)) := hD
          refine rn_iadd (x := (cf k) + (T 2 x)) (y := hd g T x) hx hb dX10_fallsOf_80 ?_
          refine lv_istore (lv' := [(4, .int (nI (((cf k) + (T 2 x)) + (hd g T x)))), (5, .int (nI k)), (3, .int (nI ((fl cf tg x (hd g T x) (T 2 x) till k).length))), (0, .ref (r 0)), (1, .int (nI x)), (2, .int (nI till))]) hx hb dX10_fallsOf_81 hl (by decide) rfl (fun ls hl => ?_)
          refine rn_iinc (x := k) (d := 1) (lv' := [(5, .int (nI (k + 1))), (4, .int (nI (((cf k) + (T 2 x)) + (hd g T x)))), (3, .int (nI ((fl cf tg x (hd g T x) (T 2 x) till k).length))), (0, .ref (r 0)), (1, .int (nI x)), (2, .int (nI till))]) hx hb rfl dX10_fallsOf_83 hl (k := 1) rfl (by decide) rfl (fun ls hl => ?_)
          refine lv_goto (tgt := 12) hx hb dX10_fallsOf_86 (by decide) ?_
          have hl : lv_has ls 6 [(5, .int (nI (k + 1))), (4, .int (nI (up cf tg x (hd g T x) (T 2 x) (k + 1)))), (3, .int (nI ((fl cf tg x (hd g T x) (T 2 x) till k).length))), (0, .ref (r 0)), (1, .int (nI x)), (2, .int (nI till))] := lv_re hl 1 ⟨rfl, rfl⟩ (congrArg nI (up_yes (by omega)).symm)
          have hl : lv_has ls 6 [(5, .int (nI (k + 1))), (4, .int (nI (up cf tg x (hd g T x) (T 2 x) (k + 1)))), (3, .int (nI ((fl cf tg x (hd g T x) (T 2 x) till (k + 1)).length))), (0, .ref (r 0)), (1, .int (nI x)), (2, .int (nI till))] := lv_re hl 2 ⟨rfl, rfl⟩ (congrArg nI (by rw [fl_no (by omega)]))
          exact ih12 ((k + 1), a1012) _ _ _ (show cN - (k + 1) < cN - k from by omega) ⟨(show (k + 1) ≤ cN from by omega), (show ∀ j, j < (fl cf tg x (hd g T x) (T 2 x) till (k + 1)).length → a1012 26 j = nI ((fl cf tg x (hd g T x) (T 2 x) till (k + 1)).getD j 0) from (by rw [fl_no (by omega)]; exact hF)), (fun i h26 => hfa12 i h26), hP, hD, hS, lv_sub hl [0, 1, 2, 3, 4, 5] rfl⟩
        · refine lv_aload_n hx hb dX10_fallsOf_50 rfl (lv_at hl 3 rfl) ?_
          refine va_get (D := D) (ci := 10) (v := .ref (r 26)) (C := RX10) (T := TX10) (N := 34) hx hb hts hinX10 hown hK hP 0 rfl rfl 26 (by decide) (hts (.fieldLink RX10 58 "OneNailModel" "falls" "[I") (by decide +kernel)) (fun _ h9 => h9) rfl dX10_fallsOf_51 ?_
          refine lv_iload_n hx hb dX10_fallsOf_54 rfl (lv_at hl 2 rfl) ?_
          refine lv_iload hx hb dX10_fallsOf_55 (lv_at hl 1 rfl) ?_
          refine ra_iast hx hb hK hP hD hS 17 0 (n := 400) (f := (a1012 26)) (j := (fl cf tg x (hd g T x) (T 2 x) till k).length) (x := (nI (up cf tg x (hd g T x) (T 2 x) k))) rfl rfl (by omega) (by decide) dX10_fallsOf_57 (fun H locs hP hD hS => ?_)
          have hP : va_P D vwCl (xM cA r (u, (va_up a1012 26 (upd (a1012 26) ((fl cf tg x (hd g T x) (T 2 x) till k).length) (nI (up cf tg x (hd g T x) (T 2 x) k)))))) H := hP
          have hD : va_D A (xM cA r (u, (va_up a1012 26 (upd (a1012 26) ((fl cf tg x (hd g T x) (T 2 x) till k).length) (nI (up cf tg x (hd g T x) (T 2 x) k)))))) := hD
          refine rn_iinc (x := (fl cf tg x (hd g T x) (T 2 x) till k).length) (d := 1) (lv' := [(3, .int (nI ((fl cf tg x (hd g T x) (T 2 x) till k).length + 1))), (5, .int (nI k)), (4, .int (nI (up cf tg x (hd g T x) (T 2 x) k))), (0, .ref (r 0)), (1, .int (nI x)), (2, .int (nI till))]) hx hb rfl dX10_fallsOf_58 hl (k := 2) rfl (by decide) rfl (fun ls hl => ?_)
          refine lv_aload_n hx hb dX10_fallsOf_61 rfl (lv_at hl 3 rfl) ?_
          refine va_get (D := D) (ci := 10) (v := .ref (r 23)) (C := RX10) (T := TX10) (N := 34) hx hb hts hinX10 hown hK hP 0 rfl rfl 23 (by decide) (hts (.fieldLink RX10 52 "OneNailModel" "comesAt" "[I") (by decide +kernel)) (fun _ h9 => h9) rfl dX10_fallsOf_62 ?_
          refine lv_iload hx hb dX10_fallsOf_65 (lv_at hl 1 rfl) ?_
          refine ra_iald hx hb hK hP 15 0 (n := 400) (f := (a1012 23)) (j := k) (v := (nI (cf k))) rfl rfl (by omega) (by decide) ((congrFun (hfa12 23 (by decide)) (k)).trans (hcf (k) (by omega))) dX10_fallsOf_67 ?_
          refine lv_aload_n hx hb dX10_fallsOf_68 rfl (lv_at hl 3 rfl) ?_
          refine va_get (D := D) (ci := 10) (v := .ref (r 10)) (C := RX10) (T := TX10) (N := 34) hx hb hts hinX10 hown hK hP 0 rfl rfl 10 (by decide) (hts (.fieldLink RX10 25 "OneNailModel" "stays" "[I") (by decide +kernel)) (fun _ h9 => h9) rfl dX10_fallsOf_69 ?_
          refine lv_iload_n hx hb dX10_fallsOf_72 rfl (lv_at hl 4 rfl) ?_
          refine ra_iald hx hb hK hP 6 0 (n := 6) (f := (a1012 10)) (j := x) (v := (nI (T 2 x))) rfl rfl (by omega) (by decide) ((congrFun (hfa12 10 (by decide)) (x)).trans ((hM.2.2.2 (x) (by omega)).2.2.1)) dX10_fallsOf_73 ?_
          refine rn_iadd (x := cf k) (y := T 2 x) hx hb dX10_fallsOf_74 ?_
          refine lv_aload_n hx hb dX10_fallsOf_75 rfl (lv_at hl 3 rfl) ?_
          refine lv_iload_n hx hb dX10_fallsOf_76 rfl (lv_at hl 4 rfl) ?_
          refine wVi e0_S (As := [.int (nI x)]) (rest := [.int (nI ((cf k) + (T 2 x)))]) ⟨hx, hb, hml, hown, hts⟩ (kX10_holds l D cA r _ u (va_up a1012 26 (upd (a1012 26) ((fl cf tg x (hd g T x) (T 2 x) till k).length) (nI (up cf tg x (hd g T x) (T 2 x) k)))) g T x (MT.keep (MT.keep hM rfl rfl rfl (hfa12 8 (by decide)) (hfa12 9 (by decide)) (hfa12 10 (by decide)) (hfa12 11 (by decide)) (hfa12 12 (by decide))) rfl rfl rfl rfl rfl rfl rfl rfl) hB (by omega)) (cwV 1 hts gX10_fallsOf_X10_holds rfl rfl rfl (by decide +kernel) ⟨Nat.le_of_ble_eq_true rfl, Nat.le_of_ble_eq_true rfl⟩) (va_recv hK hP (ci := 10) (q0 := 0) rfl rfl) hK hP hD hS hA hE rfl hl.1 rfl (Nat.le_of_ble_eq_true rfl) dX10_fallsOf_77 ⟨Nat.zero_le _, Nat.zero_le _⟩ (fun rv_15 z_17 H locs hw_16 hP hD hS => ?_)
          obtain ⟨rfl, rfl⟩ := hw_16
          have hP : va_P D vwCl (xM cA r (u, (va_up a1012 26 (upd (a1012 26) ((fl cf tg x (hd g T x) (T 2 x) till k).length) (nI (up cf tg x (hd g T x) (T 2 x) k)))))) H := hP
          have hD : va_D A (xM cA r (u, (va_up a1012 26 (upd (a1012 26) ((fl cf tg x (hd g T x) (T 2 x) till k).length) (nI (up cf tg x (hd g T x) (T 2 x) k)))))) := hD
          refine rn_iadd (x := (cf k) + (T 2 x)) (y := hd g T x) hx hb dX10_fallsOf_80 ?_
          refine lv_istore (lv' := [(4, .int (nI (((cf k) + (T 2 x)) + (hd g T x)))), (3, .int (nI ((fl cf tg x (hd g T x) (T 2 x) till k).length + 1))), (5, .int (nI k)), (0, .ref (r 0)), (1, .int (nI x)), (2, .int (nI till))]) hx hb dX10_fallsOf_81 hl (by decide) rfl (fun ls hl => ?_)
          refine rn_iinc (x := k) (d := 1) (lv' := [(5, .int (nI (k + 1))), (4, .int (nI (((cf k) + (T 2 x)) + (hd g T x)))), (3, .int (nI ((fl cf tg x (hd g T x) (T 2 x) till k).length + 1))), (0, .ref (r 0)), (1, .int (nI x)), (2, .int (nI till))]) hx hb rfl dX10_fallsOf_83 hl (k := 2) rfl (by decide) rfl (fun ls hl => ?_)
          refine lv_goto (tgt := 12) hx hb dX10_fallsOf_86 (by decide) ?_
          have hl : lv_has ls 6 [(5, .int (nI (k + 1))), (4, .int (nI (up cf tg x (hd g T x) (T 2 x) (k + 1)))), (3, .int (nI ((fl cf tg x (hd g T x) (T 2 x) till k).length + 1))), (0, .ref (r 0)), (1, .int (nI x)), (2, .int (nI till))] := lv_re hl 1 ⟨rfl, rfl⟩ (congrArg nI (up_yes (by omega)).symm)
          have hl : lv_has ls 6 [(5, .int (nI (k + 1))), (4, .int (nI (up cf tg x (hd g T x) (T 2 x) (k + 1)))), (3, .int (nI ((fl cf tg x (hd g T x) (T 2 x) till (k + 1)).length))), (0, .ref (r 0)), (1, .int (nI x)), (2, .int (nI till))] := lv_re hl 2 ⟨rfl, rfl⟩ (congrArg nI (by rw [fl_yes ⟨by omega, by omega, by omega⟩, len_push]))
          exact ih12 ((k + 1), (va_up a1012 26 (upd (a1012 26) ((fl cf tg x (hd g T x) (T 2 x) till k).length) (nI (up cf tg x (hd g T x) (T 2 x) k))))) _ _ _ (show cN - (k + 1) < cN - k from by omega) ⟨(show (k + 1) ≤ cN from by omega), (show ∀ j, j < (fl cf tg x (hd g T x) (T 2 x) till (k + 1)).length → (va_up a1012 26 (upd (a1012 26) ((fl cf tg x (hd g T x) (T 2 x) till k).length) (nI (up cf tg x (hd g T x) (T 2 x) k)))) 26 j = nI ((fl cf tg x (hd g T x) (T 2 x) till (k + 1)).getD j 0) from (by rw [fl_yes ⟨by omega, by omega, by omega⟩]; exact fl_push hF _)), (fun i h26 => Eq.trans (vup_ne h26) (hfa12 i h26)), hP, hD, hS, lv_sub hl [0, 1, 2, 3, 4, 5] rfl⟩
