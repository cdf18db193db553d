set_option maxHeartbeats 4000000 in
set_option maxRecDepth 100000 in
theorem kX8_markFalls (l : Launch) (D : va_G) (cA : Nat → ClassId) (r : Nat → Nat) (sz : Nat) (u : Nat → Int32) (a : Nat → Nat → Int32) (th : Nat → Option Nat) (LP : List Nat) (tf : Nat → va_E) (tO : Nat) (g : Nat → Nat) (T : Nat → Nat → Nat) (ro : Nat → Nat) (L : Nat) (hM : NT u a g T) (hB : TB g T) (hsm : u 2 = nI (g 1)) (hL0 : 0 < L) (hL8 : L ≤ 8) (hLw : u 5 = nI L) (hrow : ∀ j, j < L → a 20 j = nI (ro j)) (hrg : ∀ j, j < L → ro j < g 0) : Met l yX8_markFalls wsX8_markFalls ({ frames := 2, cells := 0, slots := 0, locals := 45 } : Room) (va_Pc [.ref (r 3)] (wA D vwCl (tyA cA) (eO tO) (xN cA r) (u, a, th, LP, tf) sz)) (va_Qv (fun (z : sN) => (∃ fm : Nat → Nat, (∀ q, q < 300 → z.2.1 22 q = nI (fm q)) ∧ fmI (g 0) fm (fs g T ro L 300)) ∧ (∀ i, i ≠ 6 → i ≠ 7 → i ≠ 8 → i ≠ 9 → i ≠ 10 → z.1 i = u i) ∧ (∀ i, i ≠ 21 → i ≠ 22 → z.2.1 i = a i) ∧ z.2.2 = (th, LP, tf)) (wB D vwCl (tyA cA) (xN cA r) (va_A (xN cA r (u, a, th, LP, tf)) sz)) (va_A (xN cA r (u, a, th, LP, tf)) sz)) 0 0 (va_A (xN cA r (u, a, th, LP, tf)) sz) := by
  refine Met.ofW (cc := cX8_markFalls) (maxL := 2) (ret := none) (by decide) rfl ?_
  intro p e s m args below meth c s₁ B hml hv
  obtain ⟨rfl, hsz, hP, hK, hD0, hE⟩ := hv
  have hx := B.exec
  have hb := B.bytes
  have hr := B.returns
  have hts := atoms_spec (ws := wsX8_markFalls) B.pre
  have hown : s.vm.findClass RX8 = some m.cls := findClass_of_methodNamed B.named
  have hlocks := B.notSynchronized
  subst hsz
  have hD := hD0.self (sz := s.heap.size)
  generalize hAe : va_A (xN cA r (u, a, th, LP, tf)) s.heap.size = A at hD hE ⊢
  have hA : ∀ q : Nat, s.heap.size ≤ q → A q := fun q h => by rw [← hAe]; exact Or.inr h
  have hS : va_S A s.heap s.heap [] := va_S.rf
  have hinX5 : ∀ w ∈ u_ws RX5 TX5 8, w ∈ wsX8_markFalls := by decide +kernel
  have hinX8 : ∀ w ∈ u_ws RX8 TX8 10, w ∈ wsX8_markFalls := by decide +kernel
  have hl := lv_entry ([.ref (r 3)]) (n := 2) (Nat.le_of_ble_eq_true rfl)
  rw [lg_entry_eq]
  generalize (lg_sl ([.ref (r 3)]) ++ List.replicate (2 - (lg_sl ([.ref (r 3)])).length) Slot.unset).toArray = ls at hl ⊢
  have hl : lv_has ls 2 [(0, .ref (r 3))] := hl
  have hg6 := hB.1
  refine lv_iconst (v := (nI 0)) hx hb dX8_markFalls_0 rfl ?_
  refine lv_istore_n (lv' := [(1, .int (nI 0)), (0, .ref (r 3))]) hx hb dX8_markFalls_1 rfl hl (by decide) rfl (fun ls hl => ?_)
  refine wLoop (τ := Nat × (Nat → Nat → Int32)) (fun z H locs ls => (fun (q : Nat) (a1002 : (Nat → Nat → Int32)) => (q ≤ 300) ∧ (∀ j, j < q → a1002 22 j = nI 0) ∧ (∀ i : Nat, i ≠ 22 → a1002 i = a i) ∧ (va_P D vwCl (xN cA r (u, a1002, th, LP, tf)) H) ∧ (va_D A (xN cA r (u, a1002, th, LP, tf))) ∧ (va_S A s.heap H locs) ∧ (lv_has ls 2 [(1, .int (nI q)), (0, .ref (r 3))])) z.1 z.2) (fun z => (fun (q : Nat) (a1002 : (Nat → Nat → Int32)) => 300 - q) z.1 z.2) (0, a) ⟨(show 0 ≤ 300 from Nat.zero_le _), (show ∀ j, j < 0 → a 22 j = nI 0 from (fun j h => absurd h (Nat.not_lt_zero j))), (fun i h22 => rfl), hP, hD, hS, lv_sub hl [0, 1] rfl⟩ ?_
  rintro ⟨q, a1002⟩ H locs ls ⟨hq, hze, hfa2, hP, hD, hS, hl⟩ ih2
  have hq : q ≤ 300 := hq
  have hze : ∀ j, j < q → a1002 22 j = nI 0 := hze
  have hfa2 : ∀ i : Nat, i ≠ 22 → a1002 i = a i := hfa2
  have hP : va_P D vwCl (xN cA r (u, a1002, th, LP, tf)) H := hP
  have hD : va_D A (xN cA r (u, a1002, th, LP, tf)) := hD
  have hl : lv_has ls 2 [(1, .int (nI q)), (0, .ref (r 3))] := hl
  refine lv_iload_n hx hb dX8_markFalls_2 rfl (lv_at hl 0 rfl) ?_
  refine lv_sipush (v := (nI 300)) hx hb dX8_markFalls_3 rfl ?_
  refine rn_ge (x := q) (y := 300) (tgt := 22) hx hb (by omega) (by omega) dX8_markFalls_6 (by decide) (fun c_1 => ?_) (fun c_1 => ?_)
  · have hze3 : ∀ j, j < 300 → a1002 22 j = nI 0 := fun j hj => hze j (by omega)
    refine lv_aload_n hx hb dX8_markFalls_22 rfl (lv_at hl 1 rfl) ?_
    refine wVv (eO_S tO) (As := []) (rest := []) ⟨hx, hb, hml, hown, hts⟩ (kX8_begin l D cA r _ u a1002 th LP tf tO g T (NT.keep hM rfl (hfa2 13 (by decide)) (hfa2 14 (by decide)) (hfa2 15 (by decide)) (hfa2 16 (by decide))) hB (hsm)) (cwV 0 hts gX8_markFalls_X8_begin rfl rfl rfl (by decide +kernel) ⟨Nat.le_of_ble_eq_true rfl, Nat.le_of_ble_eq_true rfl⟩) (va_recv hK hP (ci := 8) (q0 := 3) rfl rfl) hK hP hD hS hA hE rfl hl.1 rfl (Nat.le_of_ble_eq_true rfl) dX8_markFalls_23 ⟨Nat.zero_le _, Nat.zero_le _⟩ (fun z_4 H locs hw_3 hP hD hS => ?_)
    obtain ⟨zu5, za6, zq7⟩ := z_4
    obtain ⟨h6_zu5, h7_zu5, h8_zu5, hun_zu5, hfu_zu5, hfa_zu5, hzq_zu5⟩ := hw_3
    have hzq_zu5 : zq7 = (th, LP, tf) := hzq_zu5
    subst hzq_zu5
    have h6_zu5 : zu5 6 = nI 0 := h6_zu5
    have h7_zu5 : zu5 7 = nI (g 1) := h7_zu5
    have h8_zu5 : zu5 8 = nI 0 := h8_zu5
    have hun_zu5 : ∀ x, x < g 0 → za6 21 x = nI (hd g T x) := hun_zu5
    have hfu_zu5 : ∀ i, i ≠ 6 → i ≠ 7 → i ≠ 8 → zu5 i = u i := hfu_zu5
    have hfa_zu5 : ∀ i, i ≠ 21 → za6 i = a1002 i := hfa_zu5
    have hP : va_P D vwCl (xN cA r (zu5, za6, th, LP, tf)) H := hP
    have hD : va_D A (xN cA r (zu5, za6, th, LP, tf)) := hD
    refine lv_iconst (v := (nI 0)) hx hb dX8_markFalls_26 rfl ?_
    refine lv_istore_n (lv' := [(1, .int (nI 0)), (0, .ref (r 3))]) hx hb dX8_markFalls_27 rfl hl (by decide) rfl (fun ls hl => ?_)
    refine wLoop (τ := Nat × Nat × Nat × (Nat → Nat) × (Nat → Int32) × (Nat → Nat → Int32)) (fun z H locs ls => (fun (k : Nat) (fr : Nat) (lv : Nat) (fm : (Nat → Nat)) (u1028 : (Nat → Int32)) (a1028 : (Nat → Nat → Int32)) => (k ≤ 300) ∧ (u1028 6 = nI (k % L)) ∧ (u1028 7 = nI fr) ∧ (u1028 8 = nI lv) ∧ (wI g T ro L k fr lv) ∧ (∀ x, x < g 0 → a1028 21 x = nI (uk g T ro L k x)) ∧ (∀ q, q < 300 → a1028 22 q = nI (fm q)) ∧ (fmI (g 0) fm (lk g T ro L k)) ∧ (∀ j, j < k → ct g T ro L j < 300) ∧ (∀ i : Nat, i ≠ 6 → i ≠ 7 → i ≠ 8 → i ≠ 9 → i ≠ 10 → u1028 i = zu5 i) ∧ (∀ i : Nat, i ≠ 21 → i ≠ 22 → a1028 i = za6 i) ∧ (va_P D vwCl (xN cA r (u1028, a1028, th, LP, tf)) H) ∧ (va_D A (xN cA r (u1028, a1028, th, LP, tf))) ∧ (va_S A s.heap H locs) ∧ (lv_has ls 2 [(1, .int (nI k)), (0, .ref (r 3))])) z.1 z.2.1 z.2.2.1 z.2.2.2.1 z.2.2.2.2.1 z.2.2.2.2.2) (fun z => (fun (k : Nat) (fr : Nat) (lv : Nat) (fm : (Nat → Nat)) (u1028 : (Nat → Int32)) (a1028 : (Nat → Nat → Int32)) => 300 - k) z.1 z.2.1 z.2.2.1 z.2.2.2.1 z.2.2.2.2.1 z.2.2.2.2.2) (0, (g 1), 0, (fun _ => 0), zu5, za6) ⟨(show 0 ≤ 300 from Nat.zero_le _), (show zu5 6 = nI (0 % L) from ((h6_zu5).trans (by rw [Nat.zero_mod]))), (show zu5 7 = nI (g 1) from (h7_zu5)), (show zu5 8 = nI 0 from (h8_zu5)), (show wI g T ro L 0 (g 1) 0 from (Or.inl ⟨rfl, rfl, rfl⟩)), (show ∀ x, x < g 0 → za6 21 x = nI (uk g T ro L 0 x) from (fun x hx => hun_zu5 (x) hx)), (show ∀ q, q < 300 → za6 22 q = nI ((fun _ => 0) q) from (fun q hq => (congrFun (hfa_zu5 22 (by decide)) (q)).trans (hze3 (q) hq))), (show fmI (g 0) (fun _ => 0) (lk g T ro L 0) from (fmI_same (fmI_0 (g 0)) (fun y _ => rfl))), (show ∀ j, j < 0 → ct g T ro L j < 300 from (fun j h => absurd h (Nat.not_lt_zero j))), (fun i h6 h7 h8 h9 h10 => rfl), (fun i h21 h22 => rfl), hP, hD, hS, lv_sub hl [0, 1] rfl⟩ ?_
    rintro ⟨k, fr, lv, fm, u1028, a1028⟩ H locs ls ⟨hk, h6, h7, h8, hwi, hun, hfm, hfi, hlt, hfu28, hfa28, hP, hD, hS, hl⟩ ih28
    have hk : k ≤ 300 := hk
    have h6 : u1028 6 = nI (k % L) := h6
    have h7 : u1028 7 = nI fr := h7
    have h8 : u1028 8 = nI lv := h8
    have hwi : wI g T ro L k fr lv := hwi
    have hun : ∀ x, x < g 0 → a1028 21 x = nI (uk g T ro L k x) := hun
    have hfm : ∀ q, q < 300 → a1028 22 q = nI (fm q) := hfm
    have hfi : fmI (g 0) fm (lk g T ro L k) := hfi
    have hlt : ∀ j, j < k → ct g T ro L j < 300 := hlt
    have hfu28 : ∀ i : Nat, i ≠ 6 → i ≠ 7 → i ≠ 8 → i ≠ 9 → i ≠ 10 → u1028 i = zu5 i := hfu28
    have hfa28 : ∀ i : Nat, i ≠ 21 → i ≠ 22 → a1028 i = za6 i := hfa28
    have hP : va_P D vwCl (xN cA r (u1028, a1028, th, LP, tf)) H := hP
    have hD : va_D A (xN cA r (u1028, a1028, th, LP, tf)) := hD
    have hl : lv_has ls 2 [(1, .int (nI k)), (0, .ref (r 3))] := hl
    refine lv_iload_n hx hb dX8_markFalls_28 rfl (lv_at hl 0 rfl) ?_
    refine lv_sipush (v := (nI 300)) hx hb dX8_markFalls_29 rfl ?_
    refine rn_ge (x := k) (y := 300) (tgt := 86) hx hb (by omega) (by omega) dX8_markFalls_32 (by decide) (fun c_8 => ?_) (fun c_8 => ?_)
    · refine lv_iconst (v := (nI 0)) hx hb dX8_markFalls_86 rfl ?_
      refine lv_istore_n (lv' := [(1, .int (nI 0)), (0, .ref (r 3))]) hx hb dX8_markFalls_87 rfl hl (by decide) rfl (fun ls hl => ?_)
      have hkc := cn_eq hB hL0 hrg (by omega) hlt (by have := ct_ge hB hL0 hrg k; omega)
      refine wLoop (τ := Nat × (Nat → Nat) × (Nat → Nat → Int32)) (fun z H locs ls => (fun (j : Nat) (fm2 : (Nat → Nat)) (a1088 : (Nat → Nat → Int32)) => (j ≤ g 0) ∧ (∀ q, q < 300 → a1088 22 q = nI (fm2 q)) ∧ (fmI (g 0) fm2 (lz g T ro L k j)) ∧ (∀ i : Nat, i ≠ 22 → a1088 i = a1028 i) ∧ (va_P D vwCl (xN cA r (u1028, a1088, th, LP, tf)) H) ∧ (va_D A (xN cA r (u1028, a1088, th, LP, tf))) ∧ (va_S A s.heap H locs) ∧ (lv_has ls 2 [(1, .int (nI j)), (0, .ref (r 3))])) z.1 z.2.1 z.2.2) (fun z => (fun (j : Nat) (fm2 : (Nat → Nat)) (a1088 : (Nat → Nat → Int32)) => g 0 - j) z.1 z.2.1 z.2.2) (0, fm, a1028) ⟨(show 0 ≤ g 0 from Nat.zero_le _), (show ∀ q, q < 300 → a1028 22 q = nI (fm q) from (fun q hq => hfm q hq)), (show fmI (g 0) fm (lz g T ro L k 0) from (by rw [lz_0]; exact hfi)), (fun i h22 => rfl), hP, hD, hS, lv_sub hl [0, 1] rfl⟩ ?_
      rintro ⟨j, fm2, a1088⟩ H locs ls ⟨hj, hfm2, hfi2, hfa88, hP, hD, hS, hl⟩ ih88
      have hj : j ≤ g 0 := hj
      have hfm2 : ∀ q, q < 300 → a1088 22 q = nI (fm2 q) := hfm2
      have hfi2 : fmI (g 0) fm2 (lz g T ro L k j) := hfi2
      have hfa88 : ∀ i : Nat, i ≠ 22 → a1088 i = a1028 i := hfa88
      have hP : va_P D vwCl (xN cA r (u1028, a1088, th, LP, tf)) H := hP
      have hD : va_D A (xN cA r (u1028, a1088, th, LP, tf)) := hD
      have hl : lv_has ls 2 [(1, .int (nI j)), (0, .ref (r 3))] := hl
      refine lv_iload_n hx hb dX8_markFalls_88 rfl (lv_at hl 0 rfl) ?_
      refine lv_aload_n hx hb dX8_markFalls_89 rfl (lv_at hl 1 rfl) ?_
      refine va_get (D := D) (ci := 8) (v := .ref (r 1)) (C := RX8) (T := TX8) (N := 10) hx hb hts hinX8 hown hK hP 3 rfl rfl 0 (by decide) (hts (.fieldLink RX8 40 "OneNail$Walk" "town" "LOneNail$Street;") (by decide +kernel)) (fun _ h9 => h9) rfl dX8_markFalls_90 ?_
      refine va_get (D := D) (ci := 5) (v := .int (nI (g 0))) (C := RX5) (T := TX5) (N := 8) hx hb hts hinX5 hown hK hP 1 rfl rfl 0 (by decide) (hts (.fieldLink RX8 61 "OneNail$Street" "count" "I") (by decide +kernel)) (fun _ h9 => h9) (congrArg (fun z => some (Value.int z)) ((hfu28 1 (by decide) (by decide) (by decide) (by decide) (by decide)).trans ((hfu_zu5 1 (by decide) (by decide) (by decide)).trans (hM.1)))) dX8_markFalls_93 ?_
      refine rn_ge (x := j) (y := g 0) (tgt := 110) hx hb (by omega) (by omega) dX8_markFalls_96 (by decide) (fun c_9 => ?_) (fun c_9 => ?_)
      · have hje : j = g 0 := by omega
        exact wVret hx hb hr hlocks (u1028, a1088, th, LP, tf) (⟨⟨fm2, hfm2, fmI_same hfi2 (fun y hy => by rw [hje, hkc]; exact (lz_fs hy).symm)⟩, (fun i h6 h7 h8 h9 h10 => Eq.trans (hfu28 i h6 h7 h8 h9 h10) (hfu_zu5 i h6 h7 h8)), (fun i h21 h22 => Eq.trans (hfa88 i h22) (Eq.trans (hfa28 i h21 h22) (Eq.trans (hfa_zu5 i h21) (hfa2 i h22)))), rfl⟩) hK hP hD hS dX8_markFalls_110
      · have hukj := uk_le hB hL0 hrg (show k ≤ 400 by omega) (show j < g 0 by omega)
        refine lv_aload_n hx hb dX8_markFalls_99 rfl (lv_at hl 1 rfl) ?_
        refine lv_iload_n hx hb dX8_markFalls_100 rfl (lv_at hl 0 rfl) ?_
        refine wVv (eO_S tO) (As := [.int (nI j)]) (rest := []) ⟨hx, hb, hml, hown, hts⟩ (kX8_markFall l D cA r _ u1028 a1088 th LP tf tO j (uk g T ro L k j) fm2 (by omega) ((congrFun (hfa88 21 (by decide)) (j)).trans (hun (j) (by omega))) (by omega) (fun q hq => hfm2 q hq) (fun q hq => (hfi2 q hq).1)) (cwV 1 hts gX8_markFalls_X8_markFall rfl rfl rfl (by decide +kernel) ⟨Nat.le_of_ble_eq_true rfl, Nat.le_of_ble_eq_true rfl⟩) (va_recv hK hP (ci := 8) (q0 := 3) rfl rfl) hK hP hD hS hA hE rfl hl.1 rfl (Nat.le_of_ble_eq_true rfl) dX8_markFalls_101 ⟨Nat.zero_le _, Nat.zero_le _⟩ (fun z_12 H locs hw_11 hP hD hS => ?_)
        obtain ⟨zu13, za14, zq15⟩ := z_12
        obtain ⟨hfm_zu13, hfu_zu13, hfa_zu13, hzq_zu13⟩ := hw_11
        have hzq_zu13 : zq15 = (th, LP, tf) := hzq_zu13
        subst hzq_zu13
        have hfm_zu13 : ∀ q, q < 300 → za14 22 q = nI (if q = uk g T ro L k j then fm2 q ||| 2 ^ (j) else fm2 q) := hfm_zu13
        have hfu_zu13 : ∀ i, zu13 i = u1028 i := hfu_zu13
        have hfa_zu13 : ∀ i, i ≠ 22 → za14 i = a1088 i := hfa_zu13
        have hue_zu13 : u1028 = zu13 := Eq.symm (funext hfu_zu13)
        subst hue_zu13
        have hP : va_P D vwCl (xN cA r (u1028, za14, th, LP, tf)) H := hP
        have hD : va_D A (xN cA r (u1028, za14, th, LP, tf)) := hD
        refine rn_iinc (x := j) (d := 1) (lv' := [(1, .int (nI (j + 1))), (0, .ref (r 3))]) hx hb rfl dX8_markFalls_104 hl (k := 0) rfl (by decide) rfl (fun ls hl => ?_)
        refine lv_goto (tgt := 88) hx hb dX8_markFalls_107 (by decide) ?_
        exact ih88 ((j + 1), (fun q => if q = uk g T ro L k j then fm2 q ||| 2 ^ j else fm2 q), za14) _ _ _ (show g 0 - (j + 1) < g 0 - j from by omega) ⟨(show (j + 1) ≤ g 0 from by omega), (show ∀ q, q < 300 → za14 22 q = nI ((fun q => if q = uk g T ro L k j then fm2 q ||| 2 ^ j else fm2 q) q) from hfm_zu13), (show fmI (g 0) (fun q => if q = uk g T ro L k j then fm2 q ||| 2 ^ j else fm2 q) (lz g T ro L k (j + 1)) from (fi_lz hfi2 hg6 (by omega))), (fun i h22 => Eq.trans (hfa_zu13 i h22) (hfa88 i h22)), hP, hD, hS, lv_sub hl [0, 1] rfl⟩
    · have hkm := Nat.mod_lt k hL0
      have hrk := hrg _ hkm
      have hTk := hB.2.2.2 _ hrk
      have hdk := hd_le hB hrk
      have hcl := ct_le hB hL0 hrg k
      have huk := uk_le hB hL0 hrg (show k ≤ 400 by omega) hrk
      refine lv_aload_n hx hb dX8_markFalls_35 rfl (lv_at hl 1 rfl) ?_
      refine wVv (eO_S tO) (As := []) (rest := []) ⟨hx, hb, hml, hown, hts⟩ (kX8_goOn l D cA r _ u1028 a1028 th LP tf tO g T ro L k fr lv (NT.keep (NT.keep (NT.keep hM rfl (hfa2 13 (by decide)) (hfa2 14 (by decide)) (hfa2 15 (by decide)) (hfa2 16 (by decide))) (hfu_zu5 1 (by decide) (by decide) (by decide)) (hfa_zu5 13 (by decide)) (hfa_zu5 14 (by decide)) (hfa_zu5 15 (by decide)) (hfa_zu5 16 (by decide))) (hfu28 1 (by decide) (by decide) (by decide) (by decide) (by decide)) (hfa28 13 (by decide) (by decide)) (hfa28 14 (by decide) (by decide)) (hfa28 15 (by decide) (by decide)) (hfa28 16 (by decide) (by decide))) hB hL0 hL8 ((hfu28 5 (by decide) (by decide) (by decide) (by decide) (by decide)).trans ((hfu_zu5 5 (by decide) (by decide) (by decide)).trans (hLw))) (fun j hj => (congrFun (hfa28 20 (by decide) (by decide)) (j)).trans ((congrFun (hfa_zu5 20 (by decide)) (j)).trans ((congrFun (hfa2 20 (by decide)) (j)).trans (hrow (j) hj)))) hrg (by omega) (h6) (h7) (h8) hwi) (cwV 0 hts gX8_markFalls_X8_goOn rfl rfl rfl (by decide +kernel) ⟨Nat.le_of_ble_eq_true rfl, Nat.le_of_ble_eq_true rfl⟩) (va_recv hK hP (ci := 8) (q0 := 3) rfl rfl) hK hP hD hS hA hE rfl hl.1 rfl (Nat.le_of_ble_eq_true rfl) dX8_markFalls_36 ⟨Nat.zero_le _, Nat.zero_le _⟩ (fun z_18 H locs hw_17 hP hD hS => ?_)
      obtain ⟨zu19, za20, zq21⟩ := z_18
      obtain ⟨h9_zu19, h10_zu19, h6_zu19, h7_zu19, h8_zu19, hfu_zu19, hfa_zu19, hzq_zu19⟩ := hw_17
      have hzq_zu19 : zq21 = (th, LP, tf) := hzq_zu19
      subst hzq_zu19
      have h9_zu19 : zu19 9 = nI (ro (k % L)) := h9_zu19
      have h10_zu19 : zu19 10 = nI (ct g T ro L k) := h10_zu19
      have h6_zu19 : zu19 6 = nI ((k + 1) % L) := h6_zu19
      have h7_zu19 : zu19 7 = nI (T 1 (ro (k % L))) := h7_zu19
      have h8_zu19 : zu19 8 = nI (ct g T ro L k + T 2 (ro (k % L))) := h8_zu19
      have hfu_zu19 : ∀ i, i ≠ 6 → i ≠ 7 → i ≠ 8 → i ≠ 9 → i ≠ 10 → zu19 i = u1028 i := hfu_zu19
      have hfa_zu19 : ∀ i, za20 i = a1028 i := hfa_zu19
      have hae_zu19 : a1028 = za20 := Eq.symm (funext hfa_zu19)
      subst hae_zu19
      have hP : va_P D vwCl (xN cA r (zu19, a1028, th, LP, tf)) H := hP
      have hD : va_D A (xN cA r (zu19, a1028, th, LP, tf)) := hD
      refine lv_aload_n hx hb dX8_markFalls_39 rfl (lv_at hl 1 rfl) ?_
      refine va_get (D := D) (ci := 8) (v := .int (nI (ct g T ro L k))) (C := RX8) (T := TX8) (N := 10) hx hb hts hinX8 hown hK hP 3 rfl rfl 9 (by decide) (hts (.fieldLink RX8 37 "OneNail$Walk" "comes" "I") (by decide +kernel)) (fun _ h9 => h9) (congrArg (fun z => some (Value.int z)) (h10_zu19)) dX8_markFalls_40 ?_
      refine lv_sipush (v := (nI 300)) hx hb dX8_markFalls_43 rfl ?_
      refine rn_lt (x := ct g T ro L k) (y := 300) (tgt := 52) hx hb (by omega) (by omega) dX8_markFalls_46 (by decide) (fun c_22 => ?_) (fun c_22 => ?_)
      · have hct3 : ct g T ro L k < 300 := by omega
        refine lv_aload_n hx hb dX8_markFalls_52 rfl (lv_at hl 1 rfl) ?_
        refine va_get (D := D) (ci := 8) (v := .ref (r 21)) (C := RX8) (T := TX8) (N := 10) hx hb hts hinX8 hown hK hP 3 rfl rfl 3 (by decide) (hts (.fieldLink RX8 19 "OneNail$Walk" "until" "[I") (by decide +kernel)) (fun _ h9 => h9) rfl dX8_markFalls_53 ?_
        refine lv_aload_n hx hb dX8_markFalls_56 rfl (lv_at hl 1 rfl) ?_
        refine va_get (D := D) (ci := 8) (v := .int (nI (ro (k % L)))) (C := RX8) (T := TX8) (N := 10) hx hb hts hinX8 hown hK hP 3 rfl rfl 8 (by decide) (hts (.fieldLink RX8 34 "OneNail$Walk" "thing" "I") (by decide +kernel)) (fun _ h9 => h9) (congrArg (fun z => some (Value.int z)) (h9_zu19)) dX8_markFalls_57 ?_
        refine ra_iald hx hb hK hP 21 0 (n := 6) (f := (a1028 21)) (j := ro (k % L)) (v := (nI (uk g T ro L k (ro (k % L))))) rfl rfl (by omega) (by decide) (hun (ro (k % L)) (by omega)) dX8_markFalls_60 ?_
        refine lv_aload_n hx hb dX8_markFalls_61 rfl (lv_at hl 1 rfl) ?_
        refine va_get (D := D) (ci := 8) (v := .int (nI (ct g T ro L k))) (C := RX8) (T := TX8) (N := 10) hx hb hts hinX8 hown hK hP 3 rfl rfl 9 (by decide) (hts (.fieldLink RX8 37 "OneNail$Walk" "comes" "I") (by decide +kernel)) (fun _ h9 => h9) (congrArg (fun z => some (Value.int z)) (h10_zu19)) dX8_markFalls_62 ?_
        refine rn_ge (x := uk g T ro L k (ro (k % L))) (y := ct g T ro L k) (tgt := 76) hx hb (by omega) (by omega) dX8_markFalls_65 (by decide) (fun c_23 => ?_) (fun c_23 => ?_)
        · refine lv_aload_n hx hb dX8_markFalls_76 rfl (lv_at hl 1 rfl) ?_
          refine wVv (eO_S tO) (As := []) (rest := []) ⟨hx, hb, hml, hown, hts⟩ (kX8_nailed l D cA r _ zu19 a1028 th LP tf tO g T (ro (k % L)) (ct g T ro L k + T 2 (ro (k % L))) (NT.keep (NT.keep (NT.keep (NT.keep hM rfl (hfa2 13 (by decide)) (hfa2 14 (by decide)) (hfa2 15 (by decide)) (hfa2 16 (by decide))) (hfu_zu5 1 (by decide) (by decide) (by decide)) (hfa_zu5 13 (by decide)) (hfa_zu5 14 (by decide)) (hfa_zu5 15 (by decide)) (hfa_zu5 16 (by decide))) (hfu28 1 (by decide) (by decide) (by decide) (by decide) (by decide)) (hfa28 13 (by decide) (by decide)) (hfa28 14 (by decide) (by decide)) (hfa28 15 (by decide) (by decide)) (hfa28 16 (by decide) (by decide))) (hfu_zu19 1 (by decide) (by decide) (by decide) (by decide) (by decide)) rfl rfl rfl rfl) hB (h9_zu19) (h8_zu19) (by omega)) (cwV 0 hts gX8_markFalls_X8_nailed rfl rfl rfl (by decide +kernel) ⟨Nat.le_of_ble_eq_true rfl, Nat.le_of_ble_eq_true rfl⟩) (va_recv hK hP (ci := 8) (q0 := 3) rfl rfl) hK hP hD hS hA hE rfl hl.1 rfl (Nat.le_of_ble_eq_true rfl) dX8_markFalls_77 ⟨Nat.zero_le _, Nat.zero_le _⟩ (fun z_26 H locs hw_25 hP hD hS => ?_)
          obtain rfl := hw_25
          have hP : va_P D vwCl (xN cA r (zu19, (va_up a1028 21 (upd (a1028 21) (ro (k % L)) (nI ((ct g T ro L k + T 2 (ro (k % L))) + hd g T (ro (k % L)))))), th, LP, tf)) H := hP
          have hD : va_D A (xN cA r (zu19, (va_up a1028 21 (upd (a1028 21) (ro (k % L)) (nI ((ct g T ro L k + T 2 (ro (k % L))) + hd g T (ro (k % L)))))), th, LP, tf)) := hD
          refine rn_iinc (x := k) (d := 1) (lv' := [(1, .int (nI (k + 1))), (0, .ref (r 3))]) hx hb rfl dX8_markFalls_80 hl (k := 0) rfl (by decide) rfl (fun ls hl => ?_)
          refine lv_goto (tgt := 28) hx hb dX8_markFalls_83 (by decide) ?_
          exact ih28 ((k + 1), (T 1 (ro (k % L))), (ct g T ro L k + T 2 (ro (k % L))), fm, zu19, (va_up a1028 21 (upd (a1028 21) (ro (k % L)) (nI ((ct g T ro L k + T 2 (ro (k % L))) + hd g T (ro (k % L))))))) _ _ _ (show 300 - (k + 1) < 300 - k from by omega) ⟨(show (k + 1) ≤ 300 from by omega), (show zu19 6 = nI ((k + 1) % L) from (h6_zu19)), (show zu19 7 = nI (T 1 (ro (k % L))) from (h7_zu19)), (show zu19 8 = nI (ct g T ro L k + T 2 (ro (k % L))) from (h8_zu19)), (show wI g T ro L (k + 1) (T 1 (ro (k % L))) (ct g T ro L k + T 2 (ro (k % L))) from (Or.inr ⟨Nat.succ_pos k, rfl, rfl⟩)), (show ∀ x, x < g 0 → (va_up a1028 21 (upd (a1028 21) (ro (k % L)) (nI ((ct g T ro L k + T 2 (ro (k % L))) + hd g T (ro (k % L)))))) 21 x = nI (uk g T ro L (k + 1) x) from (show ∀ x, x < g 0 → (upd (a1028 21) (ro (k % L)) (nI ((ct g T ro L k + T 2 (ro (k % L))) + hd g T (ro (k % L))))) x = nI (uk g T ro L (k + 1) x) from un_push (fun x hx => hun (x) hx))), (show ∀ q, q < 300 → (va_up a1028 21 (upd (a1028 21) (ro (k % L)) (nI ((ct g T ro L k + T 2 (ro (k % L))) + hd g T (ro (k % L)))))) 22 q = nI (fm q) from (fun q hq => hfm q hq)), (show fmI (g 0) fm (lk g T ro L (k + 1)) from (fi_up hfi (by omega))), (show ∀ j, j < (k + 1) → ct g T ro L j < 300 from (lt_s hlt (by omega))), (fun i h6 h7 h8 h9 h10 => Eq.trans (hfu_zu19 i h6 h7 h8 h9 h10) (hfu28 i h6 h7 h8 h9 h10)), (fun i h21 h22 => Eq.trans (vup_ne h21) (hfa28 i h21 h22)), hP, hD, hS, lv_sub hl [0, 1] rfl⟩
        · refine lv_aload_n hx hb dX8_markFalls_68 rfl (lv_at hl 1 rfl) ?_
          refine lv_aload_n hx hb dX8_markFalls_69 rfl (lv_at hl 1 rfl) ?_
          refine va_get (D := D) (ci := 8) (v := .int (nI (ro (k % L)))) (C := RX8) (T := TX8) (N := 10) hx hb hts hinX8 hown hK hP 3 rfl rfl 8 (by decide) (hts (.fieldLink RX8 34 "OneNail$Walk" "thing" "I") (by decide +kernel)) (fun _ h9 => h9) (congrArg (fun z => some (Value.int z)) (h9_zu19)) dX8_markFalls_70 ?_
          refine wVv (eO_S tO) (As := [.int (nI (ro (k % L)))]) (rest := []) ⟨hx, hb, hml, hown, hts⟩ (kX8_markFall l D cA r _ zu19 a1028 th LP tf tO (ro (k % L)) (uk g T ro L k (ro (k % L))) fm (by omega) (hun (ro (k % L)) (by omega)) (by omega) (fun q hq => hfm q hq) (fun q hq => (hfi q hq).1)) (cwV 1 hts gX8_markFalls_X8_markFall rfl rfl rfl (by decide +kernel) ⟨Nat.le_of_ble_eq_true rfl, Nat.le_of_ble_eq_true rfl⟩) (va_recv hK hP (ci := 8) (q0 := 3) rfl rfl) hK hP hD hS hA hE rfl hl.1 rfl (Nat.le_of_ble_eq_true rfl) dX8_markFalls_73 ⟨Nat.zero_le _, Nat.zero_le _⟩ (fun z_29 H locs hw_28 hP hD hS => ?_)
          obtain ⟨zu30, za31, zq32⟩ := z_29
          obtain ⟨hfm_zu30, hfu_zu30, hfa_zu30, hzq_zu30⟩ := hw_28
          have hzq_zu30 : zq32 = (th, LP, tf) := hzq_zu30
          subst hzq_zu30
          have hfm_zu30 : ∀ q, q < 300 → za31 22 q = nI (if q = uk g T ro L k (ro (k % L)) then fm q ||| 2 ^ (ro (k % L)) else fm q) := hfm_zu30
          have hfu_zu30 : ∀ i, zu30 i = zu19 i := hfu_zu30
          have hfa_zu30 : ∀ i, i ≠ 22 → za31 i = a1028 i := hfa_zu30
          have hue_zu30 : zu19 = zu30 := Eq.symm (funext hfu_zu30)
          subst hue_zu30
          have hP : va_P D vwCl (xN cA r (zu19, za31, th, LP, tf)) H := hP
          have hD : va_D A (xN cA r (zu19, za31, th, LP, tf)) := hD
          refine lv_aload_n hx hb dX8_markFalls_76 rfl (lv_at hl 1 rfl) ?_
          refine wVv (eO_S tO) (As := []) (rest := []) ⟨hx, hb, hml, hown, hts⟩ (kX8_nailed l D cA r _ zu19 za31 th LP tf tO g T (ro (k % L)) (ct g T ro L k + T 2 (ro (k % L))) (NT.keep (NT.keep (NT.keep (NT.keep (NT.keep hM rfl (hfa2 13 (by decide)) (hfa2 14 (by decide)) (hfa2 15 (by decide)) (hfa2 16 (by decide))) (hfu_zu5 1 (by decide) (by decide) (by decide)) (hfa_zu5 13 (by decide)) (hfa_zu5 14 (by decide)) (hfa_zu5 15 (by decide)) (hfa_zu5 16 (by decide))) (hfu28 1 (by decide) (by decide) (by decide) (by decide) (by decide)) (hfa28 13 (by decide) (by decide)) (hfa28 14 (by decide) (by decide)) (hfa28 15 (by decide) (by decide)) (hfa28 16 (by decide) (by decide))) (hfu_zu19 1 (by decide) (by decide) (by decide) (by decide) (by decide)) rfl rfl rfl rfl) rfl (hfa_zu30 13 (by decide)) (hfa_zu30 14 (by decide)) (hfa_zu30 15 (by decide)) (hfa_zu30 16 (by decide))) hB (h9_zu19) (h8_zu19) (by omega)) (cwV 0 hts gX8_markFalls_X8_nailed rfl rfl rfl (by decide +kernel) ⟨Nat.le_of_ble_eq_true rfl, Nat.le_of_ble_eq_true rfl⟩) (va_recv hK hP (ci := 8) (q0 := 3) rfl rfl) hK hP hD hS hA hE rfl hl.1 rfl (Nat.le_of_ble_eq_true rfl) dX8_markFalls_77 ⟨Nat.zero_le _, Nat.zero_le _⟩ (fun z_35 H locs hw_34 hP hD hS => ?_)
          obtain rfl := hw_34
          have hP : va_P D vwCl (xN cA r (zu19, (va_up za31 21 (upd (za31 21) (ro (k % L)) (nI ((ct g T ro L k + T 2 (ro (k % L))) + hd g T (ro (k % L)))))), th, LP, tf)) H := hP
          have hD : va_D A (xN cA r (zu19, (va_up za31 21 (upd (za31 21) (ro (k % L)) (nI ((ct g T ro L k + T 2 (ro (k % L))) + hd g T (ro (k % L)))))), th, LP, tf)) := hD
          refine rn_iinc (x := k) (d := 1) (lv' := [(1, .int (nI (k + 1))), (0, .ref (r 3))]) hx hb rfl dX8_markFalls_80 hl (k := 0) rfl (by decide) rfl (fun ls hl => ?_)
          refine lv_goto (tgt := 28) hx hb dX8_markFalls_83 (by decide) ?_
          exact ih28 ((k + 1), (T 1 (ro (k % L))), (ct g T ro L k + T 2 (ro (k % L))), (fun q => if q = uk g T ro L k (ro (k % L)) then fm q ||| 2 ^ (ro (k % L)) else fm q), zu19, (va_up za31 21 (upd (za31 21) (ro (k % L)) (nI ((ct g T ro L k + T 2 (ro (k % L))) + hd g T (ro (k % L))))))) _ _ _ (show 300 - (k + 1) < 300 - k from by omega) ⟨(show (k + 1) ≤ 300 from by omega), (show zu19 6 = nI ((k + 1) % L) from (h6_zu19)), (show zu19 7 = nI (T 1 (ro (k % L))) from (h7_zu19)), (show zu19 8 = nI (ct g T ro L k + T 2 (ro (k % L))) from (h8_zu19)), (show wI g T ro L (k + 1) (T 1 (ro (k % L))) (ct g T ro L k + T 2 (ro (k % L))) from (Or.inr ⟨Nat.succ_pos k, rfl, rfl⟩)), (show ∀ x, x < g 0 → (va_up za31 21 (upd (za31 21) (ro (k % L)) (nI ((ct g T ro L k + T 2 (ro (k % L))) + hd g T (ro (k % L)))))) 21 x = nI (uk g T ro L (k + 1) x) from (show ∀ x, x < g 0 → (upd (za31 21) (ro (k % L)) (nI ((ct g T ro L k + T 2 (ro (k % L))) + hd g T (ro (k % L))))) x = nI (uk g T ro L (k + 1) x) from un_push (fun x hx => (congrFun (hfa_zu30 21 (by decide)) (x)).trans (hun (x) hx)))), (show ∀ q, q < 300 → (va_up za31 21 (upd (za31 21) (ro (k % L)) (nI ((ct g T ro L k + T 2 (ro (k % L))) + hd g T (ro (k % L)))))) 22 q = nI ((fun q => if q = uk g T ro L k (ro (k % L)) then fm q ||| 2 ^ (ro (k % L)) else fm q) q) from (hfm_zu30)), (show fmI (g 0) (fun q => if q = uk g T ro L k (ro (k % L)) then fm q ||| 2 ^ (ro (k % L)) else fm q) (lk g T ro L (k + 1)) from (fi_fall hfi hg6 hrk (by omega))), (show ∀ j, j < (k + 1) → ct g T ro L j < 300 from (lt_s hlt (by omega))), (fun i h6 h7 h8 h9 h10 => Eq.trans (hfu_zu19 i h6 h7 h8 h9 h10) (hfu28 i h6 h7 h8 h9 h10)), (fun i h21 h22 => Eq.trans (vup_ne h21) (Eq.trans (hfa_zu30 i h22) (hfa28 i h21 h22))), hP, hD, hS, lv_sub hl [0, 1] rfl⟩
      · refine lv_goto (tgt := 86) hx hb dX8_markFalls_49 (by decide) ?_
        refine lv_iconst (v := (nI 0)) hx hb dX8_markFalls_86 rfl ?_
        refine lv_istore_n (lv' := [(1, .int (nI 0)), (0, .ref (r 3))]) hx hb dX8_markFalls_87 rfl hl (by decide) rfl (fun ls hl => ?_)
        have hkc := cn_eq hB hL0 hrg (by omega) hlt (by omega)
        refine wLoop (τ := Nat × (Nat → Nat) × (Nat → Nat → Int32)) (fun z H locs ls => (fun (j : Nat) (fm2 : (Nat → Nat)) (a1088 : (Nat → Nat → Int32)) => (j ≤ g 0) ∧ (∀ q, q < 300 → a1088 22 q = nI (fm2 q)) ∧ (fmI (g 0) fm2 (lz g T ro L k j)) ∧ (∀ i : Nat, i ≠ 22 → a1088 i = a1028 i) ∧ (va_P D vwCl (xN cA r (zu19, a1088, th, LP, tf)) H) ∧ (va_D A (xN cA r (zu19, a1088, th, LP, tf))) ∧ (va_S A s.heap H locs) ∧ (lv_has ls 2 [(1, .int (nI j)), (0, .ref (r 3))])) z.1 z.2.1 z.2.2) (fun z => (fun (j : Nat) (fm2 : (Nat → Nat)) (a1088 : (Nat → Nat → Int32)) => g 0 - j) z.1 z.2.1 z.2.2) (0, fm, a1028) ⟨(show 0 ≤ g 0 from Nat.zero_le _), (show ∀ q, q < 300 → a1028 22 q = nI (fm q) from (fun q hq => hfm q hq)), (show fmI (g 0) fm (lz g T ro L k 0) from (by rw [lz_0]; exact hfi)), (fun i h22 => rfl), hP, hD, hS, lv_sub hl [0, 1] rfl⟩ ?_
        rintro ⟨j, fm2, a1088⟩ H locs ls ⟨hj, hfm2, hfi2, hfa88, hP, hD, hS, hl⟩ ih88
        have hj : j ≤ g 0 := hj
        have hfm2 : ∀ q, q < 300 → a1088 22 q = nI (fm2 q) := hfm2
        have hfi2 : fmI (g 0) fm2 (lz g T ro L k j) := hfi2
        have hfa88 : ∀ i : Nat, i ≠ 22 → a1088 i = a1028 i := hfa88
        have hP : va_P D vwCl (xN cA r (zu19, a1088, th, LP, tf)) H := hP
        have hD : va_D A (xN cA r (zu19, a1088, th, LP, tf)) := hD
        have hl : lv_has ls 2 [(1, .int (nI j)), (0, .ref (r 3))] := hl
        refine lv_iload_n hx hb dX8_markFalls_88 rfl (lv_at hl 0 rfl) ?_
        refine lv_aload_n hx hb dX8_markFalls_89 rfl (lv_at hl 1 rfl) ?_
        refine va_get (D := D) (ci := 8) (v := .ref (r 1)) (C := RX8) (T := TX8) (N := 10) hx hb hts hinX8 hown hK hP 3 rfl rfl 0 (by decide) (hts (.fieldLink RX8 40 "OneNail$Walk" "town" "LOneNail$Street;") (by decide +kernel)) (fun _ h9 => h9) rfl dX8_markFalls_90 ?_
        refine va_get (D := D) (ci := 5) (v := .int (nI (g 0))) (C := RX5) (T := TX5) (N := 8) hx hb hts hinX5 hown hK hP 1 rfl rfl 0 (by decide) (hts (.fieldLink RX8 61 "OneNail$Street" "count" "I") (by decide +kernel)) (fun _ h9 => h9) (congrArg (fun z => some (Value.int z)) ((hfu_zu19 1 (by decide) (by decide) (by decide) (by decide) (by decide)).trans ((hfu28 1 (by decide) (by decide) (by decide) (by decide) (by decide)).trans ((hfu_zu5 1 (by decide) (by decide) (by decide)).trans (hM.1))))) dX8_markFalls_93 ?_
        refine rn_ge (x := j) (y := g 0) (tgt := 110) hx hb (by omega) (by omega) dX8_markFalls_96 (by decide) (fun c_36 => ?_) (fun c_36 => ?_)
        · have hje : j = g 0 := by omega
          exact wVret hx hb hr hlocks (zu19, a1088, th, LP, tf) (⟨⟨fm2, hfm2, fmI_same hfi2 (fun y hy => by rw [hje, hkc]; exact (lz_fs hy).symm)⟩, (fun i h6 h7 h8 h9 h10 => Eq.trans (hfu_zu19 i h6 h7 h8 h9 h10) (Eq.trans (hfu28 i h6 h7 h8 h9 h10) (hfu_zu5 i h6 h7 h8))), (fun i h21 h22 => Eq.trans (hfa88 i h22) (Eq.trans (hfa28 i h21 h22) (Eq.trans (hfa_zu5 i h21) (hfa2 i h22)))), rfl⟩) hK hP hD hS dX8_markFalls_110
        · have hukj := uk_le hB hL0 hrg (show k ≤ 400 by omega) (show j < g 0 by omega)
          refine lv_aload_n hx hb dX8_markFalls_99 rfl (lv_at hl 1 rfl) ?_
          refine lv_iload_n hx hb dX8_markFalls_100 rfl (lv_at hl 0 rfl) ?_
          refine wVv (eO_S tO) (As := [.int (nI j)]) (rest := []) ⟨hx, hb, hml, hown, hts⟩ (kX8_markFall l D cA r _ zu19 a1088 th LP tf tO j (uk g T ro L k j) fm2 (by omega) ((congrFun (hfa88 21 (by decide)) (j)).trans (hun (j) (by omega))) (by omega) (fun q hq => hfm2 q hq) (fun q hq => (hfi2 q hq).1)) (cwV 1 hts gX8_markFalls_X8_markFall rfl rfl rfl (by decide +kernel) ⟨Nat.le_of_ble_eq_true rfl, Nat.le_of_ble_eq_true rfl⟩) (va_recv hK hP (ci := 8) (q0 := 3) rfl rfl) hK hP hD hS hA hE rfl hl.1 rfl (Nat.le_of_ble_eq_true rfl) dX8_markFalls_101 ⟨Nat.zero_le _, Nat.zero_le _⟩ (fun z_39 H locs hw_38 hP hD hS => ?_)
          obtain ⟨zu40, za41, zq42⟩ := z_39
          obtain ⟨hfm_zu40, hfu_zu40, hfa_zu40, hzq_zu40⟩ := hw_38
          have hzq_zu40 : zq42 = (th, LP, tf) := hzq_zu40
          subst hzq_zu40
          have hfm_zu40 : ∀ q, q < 300 → za41 22 q = nI (if q = uk g T ro L k j then fm2 q ||| 2 ^ (j) else fm2 q) := hfm_zu40
          have hfu_zu40 : ∀ i, zu40 i = zu19 i := hfu_zu40
          have hfa_zu40 : ∀ i, i ≠ 22 → za41 i = a1088 i := hfa_zu40
          have hue_zu40 : zu19 = zu40 := Eq.symm (funext hfu_zu40)
          subst hue_zu40
          have hP : va_P D vwCl (xN cA r (zu19, za41, th, LP, tf)) H := hP
          have hD : va_D A (xN cA r (zu19, za41, th, LP, tf)) := hD
          refine rn_iinc (x := j) (d := 1) (lv' := [(1, .int (nI (j + 1))), (0, .ref (r 3))]) hx hb rfl dX8_markFalls_104 hl (k := 0) rfl (by decide) rfl (fun ls hl => ?_)
          refine lv_goto (tgt := 88) hx hb dX8_markFalls_107 (by decide) ?_
          exact ih88 ((j + 1), (fun q => if q = uk g T ro L k j then fm2 q ||| 2 ^ j else fm2 q), za41) _ _ _ (show g 0 - (j + 1) < g 0 - j from by omega) ⟨(show (j + 1) ≤ g 0 from by omega), (show ∀ q, q < 300 → za41 22 q = nI ((fun q => if q = uk g T ro L k j then fm2 q ||| 2 ^ j else fm2 q) q) from hfm_zu40), (show fmI (g 0) (fun q => if q = uk g T ro L k j then fm2 q ||| 2 ^ j else fm2 q) (lz g T ro L k (j + 1)) from (fi_lz hfi2 hg6 (by omega))), (fun i h22 => Eq.trans (hfa_zu40 i h22) (hfa88 i h22)), hP, hD, hS, lv_sub hl [0, 1] rfl⟩
  · refine lv_aload_n hx hb dX8_markFalls_9 rfl (lv_at hl 1 rfl) ?_
    refine va_get (D := D) (ci := 8) (v := .ref (r 22)) (C := RX8) (T := TX8) (N := 10) hx hb hts hinX8 hown hK hP 3 rfl rfl 4 (by decide) (hts (.fieldLink RX8 22 "OneNail$Walk" "fallen" "[I") (by decide +kernel)) (fun _ h9 => h9) rfl dX8_markFalls_10 ?_
    refine lv_iload_n hx hb dX8_markFalls_13 rfl (lv_at hl 0 rfl) ?_
    refine lv_iconst (v := (nI 0)) hx hb dX8_markFalls_14 rfl ?_
    refine ra_iast hx hb hK hP hD hS 22 0 (n := 300) (f := (a1002 22)) (j := q) (x := (nI 0)) rfl rfl (by omega) (by decide) dX8_markFalls_15 (fun H locs hP hD hS => ?_)
    have hP : va_P D vwCl (xN cA r (u, (va_up a1002 22 (upd (a1002 22) q (nI 0))), th, LP, tf)) H := hP
    have hD : va_D A (xN cA r (u, (va_up a1002 22 (upd (a1002 22) q (nI 0))), th, LP, tf)) := hD
    refine rn_iinc (x := q) (d := 1) (lv' := [(1, .int (nI (q + 1))), (0, .ref (r 3))]) hx hb rfl dX8_markFalls_16 hl (k := 0) rfl (by decide) rfl (fun ls hl => ?_)
    refine lv_goto (tgt := 2) hx hb dX8_markFalls_19 (by decide) ?_
    exact ih2 ((q + 1), (va_up a1002 22 (upd (a1002 22) q (nI 0)))) _ _ _ (show 300 - (q + 1) < 300 - q from by omega) ⟨(show (q + 1) ≤ 300 from by omega), (show ∀ j, j < (q + 1) → (va_up a1002 22 (upd (a1002 22) q (nI 0))) 22 j = nI 0 from (show ∀ j, j < q + 1 → (upd (a1002 22) q (nI 0)) j = nI 0 from arr_push (F := fun _ => nI 0) hze rfl)), (fun i h22 => Eq.trans (vup_ne h22) (hfa2 i h22)), hP, hD, hS, lv_sub hl [0, 1] rfl⟩

set_option maxHeartbeats 4000000 in
set_option maxRecDepth 100000 in
theorem kX8_harmBelow (l : Launch) (D : va_G) (cA : Nat → ClassId) (r : Nat → Nat) (sz : Nat) (u : Nat → Int32) (a : Nat → Nat → Int32) (th : Nat → Option Nat) (LP : List Nat) (tf : Nat → va_E) (tO : Nat) (g : Nat → Nat) (T : Nat → Nat → Nat) (fm : Nat → Nat) (t : Nat) (hM : NT u a g T) (hB : TB g T) (hfm : ∀ q, q < 300 → a 22 q = nI (fm q)) (hf6 : ∀ q, q < 300 → fm q < 64) (htl : t ≤ 300) : Met l yX8_harmBelow wsX8_harmBelow ({ frames := 0, cells := 0, slots := 0, locals := 0 } : Room) (va_Pc [.ref (r 3), .int (nI t)] (wA D vwCl (tyA cA) (eO tO) (xN cA r) (u, a, th, LP, tf) sz)) (va_Qi (fun (v : Int32) (z : sN) => v = nI (sm (hJ T fm (g 0)) t) ∧ z = (u, a, th, LP, tf)) (wB D vwCl (tyA cA) (xN cA r) (va_A (xN cA r (u, a, th, LP, tf)) sz)) (va_A (xN cA r (u, a, th, LP, tf)) sz)) 0 0 (va_A (xN cA r (u, a, th, LP, tf)) sz) := by
  refine Met.ofW (cc := cX8_harmBelow) (maxL := 5) (ret := (some .int)) (by decide) rfl ?_
  intro p e s m args below meth c s₁ B hml hv
  obtain ⟨rfl, hsz, hP, hK, hD0, hE⟩ := hv
  have hx := B.exec
  have hb := B.bytes
  have hr := B.returns
  have hts := atoms_spec (ws := wsX8_harmBelow) B.pre
  have hown : s.vm.findClass RX8 = some m.cls := findClass_of_methodNamed B.named
  have hlocks := B.notSynchronized
  subst hsz
  have hD := hD0.self (sz := s.heap.size)
  generalize hAe : va_A (xN cA r (u, a, th, LP, tf)) s.heap.size = A at hD hE ⊢
  have hA : ∀ q : Nat, s.heap.size ≤ q → A q := fun q h => by rw [← hAe]; exact Or.inr h
  have hS : va_S A s.heap s.heap [] := va_S.rf
  have hinX5 : ∀ w ∈ u_ws RX5 TX5 8, w ∈ wsX8_harmBelow := by decide +kernel
  have hinX8 : ∀ w ∈ u_ws RX8 TX8 10, w ∈ wsX8_harmBelow := by decide +kernel
  have hl := lv_entry ([.ref (r 3), .int (nI t)]) (n := 5) (Nat.le_of_ble_eq_true rfl)
  rw [lg_entry_eq]
  generalize (lg_sl ([.ref (r 3), .int (nI t)]) ++ List.replicate (5 - (lg_sl ([.ref (r 3), .int (nI t)])).length) Slot.unset).toArray = ls at hl ⊢
  have hl : lv_has ls 5 [(0, .ref (r 3)), (1, .int (nI t))] := hl
  have hg6 := hB.1
  refine lv_iconst (v := (nI 0)) hx hb dX8_harmBelow_0 rfl ?_
  refine lv_istore_n (lv' := [(2, .int (nI 0)), (0, .ref (r 3)), (1, .int (nI t))]) hx hb dX8_harmBelow_1 rfl hl (by decide) rfl (fun ls hl => ?_)
  refine lv_iconst (v := (nI 0)) hx hb dX8_harmBelow_2 rfl ?_
  refine lv_istore_n (lv' := [(3, .int (nI 0)), (2, .int (nI 0)), (0, .ref (r 3)), (1, .int (nI t))]) hx hb dX8_harmBelow_3 rfl hl (by decide) rfl (fun ls hl => ?_)
  refine wLoop (τ := Nat) (fun z H locs ls => (fun (m1 : Nat) => (m1 ≤ t) ∧ (va_P D vwCl (xN cA r (u, a, th, LP, tf)) H) ∧ (va_D A (xN cA r (u, a, th, LP, tf))) ∧ (va_S A s.heap H locs) ∧ (lv_has ls 5 [(3, .int (nI m1)), (2, .int (nI (sm (hJ T fm (g 0)) m1))), (0, .ref (r 3)), (1, .int (nI t))])) z) (fun z => (fun (m1 : Nat) => t - m1) z) (0) ⟨(show 0 ≤ t from by omega), hP, hD, hS, lv_sub hl [0, 1, 2, 3] rfl⟩ ?_
  rintro m1 H locs ls ⟨hm1, hP, hD, hS, hl⟩ ih4
  have hm1 : m1 ≤ t := hm1
  have hP : va_P D vwCl (xN cA r (u, a, th, LP, tf)) H := hP
  have hD : va_D A (xN cA r (u, a, th, LP, tf)) := hD
  have hl : lv_has ls 5 [(3, .int (nI m1)), (2, .int (nI (sm (hJ T fm (g 0)) m1))), (0, .ref (r 3)), (1, .int (nI t))] := hl
  refine lv_iload_n hx hb dX8_harmBelow_4 rfl (lv_at hl 0 rfl) ?_
  refine lv_iload_n hx hb dX8_harmBelow_5 rfl (lv_at hl 3 rfl) ?_
  refine rn_ge (x := m1) (y := t) (tgt := 77) hx hb (by omega) (by omega) dX8_harmBelow_6 (by decide) (fun c_1 => ?_) (fun c_1 => ?_)
  · have hsl := sm_le (F := hJ T fm (g 0)) (M := 54) (n := m1) (fun y _ => hJ_le hB y)
    refine lv_iload_n hx hb dX8_harmBelow_77 rfl (lv_at hl 1 rfl) ?_
    exact wIret hx hb hr hlocks (v := (nI (sm (hJ T fm (g 0)) m1))) (u, a, th, LP, tf) (⟨congrArg nI (by rw [show m1 = t by omega]), rfl⟩) hK hP hD hS dX8_harmBelow_78
  · refine lv_iload_n hx hb dX8_harmBelow_9 rfl (lv_at hl 0 rfl) ?_
    refine lv_sipush (v := (nI 300)) hx hb dX8_harmBelow_10 rfl ?_
    refine rn_ge (x := m1) (y := 300) (tgt := 77) hx hb (by omega) (by omega) dX8_harmBelow_13 (by decide) (fun c_2 => ?_) (fun c_2 => ?_)
    · have hsl := sm_le (F := hJ T fm (g 0)) (M := 54) (n := m1) (fun y _ => hJ_le hB y)
      refine lv_iload_n hx hb dX8_harmBelow_77 rfl (lv_at hl 1 rfl) ?_
      exact wIret hx hb hr hlocks (v := (nI (sm (hJ T fm (g 0)) m1))) (u, a, th, LP, tf) (⟨congrArg nI (by rw [show m1 = t by omega]), rfl⟩) hK hP hD hS dX8_harmBelow_78
    · have hsl := sm_le (F := hJ T fm (g 0)) (M := 54) (n := m1) (fun y _ => hJ_le hB y)
      have hf7 := hf6 m1 (by omega)
      refine lv_iconst (v := (nI 0)) hx hb dX8_harmBelow_16 rfl ?_
      refine lv_istore (lv' := [(4, .int (nI 0)), (3, .int (nI m1)), (2, .int (nI (sm (hJ T fm (g 0)) m1))), (0, .ref (r 3)), (1, .int (nI t))]) hx hb dX8_harmBelow_17 hl (by decide) rfl (fun ls hl => ?_)
      have hl : lv_has ls 5 [(4, .int (nI 0)), (3, .int (nI m1)), (2, .int (nI (sm (hJ T fm (g 0)) m1 + sm (hI T fm m1) 0))), (0, .ref (r 3)), (1, .int (nI t))] := lv_re hl 2 ⟨rfl, rfl⟩ (congrArg nI (Nat.add_zero _).symm)
      refine wLoop (τ := Nat) (fun z H locs ls => (fun (x : Nat) => (x ≤ g 0) ∧ (va_P D vwCl (xN cA r (u, a, th, LP, tf)) H) ∧ (va_D A (xN cA r (u, a, th, LP, tf))) ∧ (va_S A s.heap H locs) ∧ (lv_has ls 5 [(4, .int (nI x)), (2, .int (nI (sm (hJ T fm (g 0)) m1 + sm (hI T fm m1) x))), (3, .int (nI m1)), (0, .ref (r 3)), (1, .int (nI t))])) z) (fun z => (fun (x : Nat) => g 0 - x) z) (0) ⟨(show 0 ≤ g 0 from Nat.zero_le _), hP, hD, hS, lv_sub hl [0, 2, 1, 3, 4] rfl⟩ ?_
      rintro x H locs ls ⟨hx1, hP, hD, hS, hl⟩ ih19
      have hx1 : x ≤ g 0 := hx1
      have hP : va_P D vwCl (xN cA r (u, a, th, LP, tf)) H := hP
      have hD : va_D A (xN cA r (u, a, th, LP, tf)) := hD
      have hl : lv_has ls 5 [(4, .int (nI x)), (2, .int (nI (sm (hJ T fm (g 0)) m1 + sm (hI T fm m1) x))), (3, .int (nI m1)), (0, .ref (r 3)), (1, .int (nI t))] := hl
      have hil := sm_le (F := hI T fm m1) (M := 9) (n := x) (fun y hy => hI_le (hB.2.2.2 y (by omega)).2.2.2.2.2.2.2)
      refine lv_aload_n hx hb dX8_harmBelow_19 rfl (lv_at hl 3 rfl) ?_
      refine va_get (D := D) (ci := 8) (v := .ref (r 22)) (C := RX8) (T := TX8) (N := 10) hx hb hts hinX8 hown hK hP 3 rfl rfl 4 (by decide) (hts (.fieldLink RX8 22 "OneNail$Walk" "fallen" "[I") (by decide +kernel)) (fun _ h9 => h9) rfl dX8_harmBelow_20 ?_
      refine lv_iload_n hx hb dX8_harmBelow_23 rfl (lv_at hl 2 rfl) ?_
      refine ra_iald hx hb hK hP 22 0 (n := 300) (f := (a 22)) (j := m1) (v := (nI (fm m1))) rfl rfl (by omega) (by decide) (hfm m1 (by omega)) dX8_harmBelow_24 ?_
      refine rz_eq (x := fm m1) (tgt := 71) hx hb (by omega) dX8_harmBelow_25 (by decide) (fun c_3 => ?_) (fun c_3 => ?_)
      · refine rn_iinc (x := m1) (d := 1) (lv' := [(3, .int (nI (m1 + 1))), (4, .int (nI x)), (2, .int (nI (sm (hJ T fm (g 0)) m1 + sm (hI T fm m1) x))), (0, .ref (r 3)), (1, .int (nI t))]) hx hb rfl dX8_harmBelow_71 hl (k := 2) rfl (by decide) rfl (fun ls hl => ?_)
        refine lv_goto (tgt := 4) hx hb dX8_harmBelow_74 (by decide) ?_
        have hl : lv_has ls 5 [(3, .int (nI (m1 + 1))), (4, .int (nI x)), (2, .int (nI (sm (hJ T fm (g 0)) (m1 + 1)))), (0, .ref (r 3)), (1, .int (nI t))] := lv_re hl 2 ⟨rfl, rfl⟩ (congrArg nI (by rw [sm]; unfold hJ; rw [hI_0 (by omega) x (by omega), hI_0 (by omega) (g 0) (by omega)]))
        exact ih4 ((m1 + 1)) _ _ _ (show t - (m1 + 1) < t - m1 from by omega) ⟨(show (m1 + 1) ≤ t from by omega), hP, hD, hS, lv_sub hl [0, 2, 3, 4] rfl⟩
      · refine lv_iload hx hb dX8_harmBelow_28 (lv_at hl 0 rfl) ?_
        refine lv_aload_n hx hb dX8_harmBelow_30 rfl (lv_at hl 3 rfl) ?_
        refine va_get (D := D) (ci := 8) (v := .ref (r 1)) (C := RX8) (T := TX8) (N := 10) hx hb hts hinX8 hown hK hP 3 rfl rfl 0 (by decide) (hts (.fieldLink RX8 40 "OneNail$Walk" "town" "LOneNail$Street;") (by decide +kernel)) (fun _ h9 => h9) rfl dX8_harmBelow_31 ?_
        refine va_get (D := D) (ci := 5) (v := .int (nI (g 0))) (C := RX5) (T := TX5) (N := 8) hx hb hts hinX5 hown hK hP 1 rfl rfl 0 (by decide) (hts (.fieldLink RX8 61 "OneNail$Street" "count" "I") (by decide +kernel)) (fun _ h9 => h9) (congrArg (fun z => some (Value.int z)) (hM.1)) dX8_harmBelow_34 ?_
        refine rn_ge (x := x) (y := g 0) (tgt := 71) hx hb (by omega) (by omega) dX8_harmBelow_37 (by decide) (fun c_4 => ?_) (fun c_4 => ?_)
        · refine rn_iinc (x := m1) (d := 1) (lv' := [(3, .int (nI (m1 + 1))), (4, .int (nI x)), (2, .int (nI (sm (hJ T fm (g 0)) m1 + sm (hI T fm m1) x))), (0, .ref (r 3)), (1, .int (nI t))]) hx hb rfl dX8_harmBelow_71 hl (k := 2) rfl (by decide) rfl (fun ls hl => ?_)
          refine lv_goto (tgt := 4) hx hb dX8_harmBelow_74 (by decide) ?_
          have hl : lv_has ls 5 [(3, .int (nI (m1 + 1))), (4, .int (nI x)), (2, .int (nI (sm (hJ T fm (g 0)) (m1 + 1)))), (0, .ref (r 3)), (1, .int (nI t))] := lv_re hl 2 ⟨rfl, rfl⟩ (congrArg nI (by rw [sm]; unfold hJ; rw [show x = g 0 by omega]))
          exact ih4 ((m1 + 1)) _ _ _ (show t - (m1 + 1) < t - m1 from by omega) ⟨(show (m1 + 1) ≤ t from by omega), hP, hD, hS, lv_sub hl [0, 2, 3, 4] rfl⟩
        · have hTx := hB.2.2.2 x (by omega)
          have hbx := bi_lt (fm m1) x
          have hpr := hI_le (fm := fm) (m := m1) hTx.2.2.2.2.2.2.2
          have hpe : bi (fm m1) x * T 4 x = hI T fm m1 x := rfl
          refine lv_iload_n hx hb dX8_harmBelow_40 rfl (lv_at hl 1 rfl) ?_
          refine lv_aload_n hx hb dX8_harmBelow_41 rfl (lv_at hl 3 rfl) ?_
          refine va_get (D := D) (ci := 8) (v := .ref (r 22)) (C := RX8) (T := TX8) (N := 10) hx hb hts hinX8 hown hK hP 3 rfl rfl 4 (by decide) (hts (.fieldLink RX8 22 "OneNail$Walk" "fallen" "[I") (by decide +kernel)) (fun _ h9 => h9) rfl dX8_harmBelow_42 ?_
          refine lv_iload_n hx hb dX8_harmBelow_45 rfl (lv_at hl 2 rfl) ?_
          refine ra_iald hx hb hK hP 22 0 (n := 300) (f := (a 22)) (j := m1) (v := (nI (fm m1))) rfl rfl (by omega) (by decide) (hfm m1 (by omega)) dX8_harmBelow_46 ?_
          refine lv_iload hx hb dX8_harmBelow_47 (lv_at hl 0 rfl) ?_
          refine lv_ishr hx hb dX8_harmBelow_49 ?_
          refine lv_iconst (v := (nI 1)) hx hb dX8_harmBelow_50 rfl ?_
          refine lv_iand hx hb dX8_harmBelow_51 ?_
          refine lv_topi (fun y_5 ey_5 => ?_)
          obtain rfl : y_5 = (nI (bi (fm m1) x)) := ey_5.trans (bi_row _ hf7 x (by omega))
          refine lv_aload_n hx hb dX8_harmBelow_52 rfl (lv_at hl 3 rfl) ?_
          refine va_get (D := D) (ci := 8) (v := .ref (r 1)) (C := RX8) (T := TX8) (N := 10) hx hb hts hinX8 hown hK hP 3 rfl rfl 0 (by decide) (hts (.fieldLink RX8 40 "OneNail$Walk" "town" "LOneNail$Street;") (by decide +kernel)) (fun _ h9 => h9) rfl dX8_harmBelow_53 ?_
          refine va_get (D := D) (ci := 5) (v := .ref (r 15)) (C := RX5) (T := TX5) (N := 8) hx hb hts hinX5 hown hK hP 1 rfl rfl 6 (by decide) (hts (.fieldLink RX8 89 "OneNail$Street" "harms" "[I") (by decide +kernel)) (fun _ h9 => h9) rfl dX8_harmBelow_56 ?_
          refine lv_iload hx hb dX8_harmBelow_59 (lv_at hl 0 rfl) ?_
          refine ra_iald hx hb hK hP 15 0 (n := 6) (f := (a 15)) (j := x) (v := (nI (T 4 x))) rfl rfl (by omega) (by decide) ((hM.2 (x) (by omega)).2.2.1) dX8_harmBelow_61 ?_
          refine rn_imul (x := bi (fm m1) x) (y := T 4 x) hx hb dX8_harmBelow_62 ?_
          refine rn_iadd (x := sm (hJ T fm (g 0)) m1 + sm (hI T fm m1) x) (y := (bi (fm m1) x) * (T 4 x)) hx hb dX8_harmBelow_63 ?_
          refine lv_istore_n (lv' := [(2, .int (nI ((sm (hJ T fm (g 0)) m1 + sm (hI T fm m1) x) + ((bi (fm m1) x) * (T 4 x))))), (4, .int (nI x)), (3, .int (nI m1)), (0, .ref (r 3)), (1, .int (nI t))]) hx hb dX8_harmBelow_64 rfl hl (by decide) rfl (fun ls hl => ?_)
          refine rn_iinc (x := x) (d := 1) (lv' := [(4, .int (nI (x + 1))), (2, .int (nI ((sm (hJ T fm (g 0)) m1 + sm (hI T fm m1) x) + ((bi (fm m1) x) * (T 4 x))))), (3, .int (nI m1)), (0, .ref (r 3)), (1, .int (nI t))]) hx hb rfl dX8_harmBelow_65 hl (k := 1) rfl (by decide) rfl (fun ls hl => ?_)
          refine lv_goto (tgt := 19) hx hb dX8_harmBelow_68 (by decide) ?_
          have hl : lv_has ls 5 [(4, .int (nI (x + 1))), (2, .int (nI (sm (hJ T fm (g 0)) m1 + sm (hI T fm m1) (x + 1)))), (3, .int (nI m1)), (0, .ref (r 3)), (1, .int (nI t))] := lv_re hl 1 ⟨rfl, rfl⟩ (congrArg nI (by rw [sm]; unfold hI; omega))
          exact ih19 ((x + 1)) _ _ _ (show g 0 - (x + 1) < g 0 - x from by omega) ⟨(show (x + 1) ≤ g 0 from by omega), hP, hD, hS, lv_sub hl [0, 1, 2, 3, 4] rfl⟩
