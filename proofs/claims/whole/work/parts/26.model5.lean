set_option maxHeartbeats 4000000 in
set_option maxRecDepth 100000 in
theorem kX10_isSafe (l : Launch) (D : va_G) (cA : Nat → ClassId) (r : Nat → Nat) (sz : Nat) (u : Nat → Int32) (a : Nat → Nat → Int32) (g : Nat → Nat) (T : Nat → Nat → Nat) (ro : Nat → Nat) (L : Nat) (S : Nat) (hM : MT u a g T) (hB : TB g T) (hL : u 22 = nI L) (hL8 : L ≤ 8) (hro : ∀ k, k < L → a 21 k = nI (ro k)) (hrg : ∀ k, k < L → ro k < g 0) (hS64 : S < 64) : Met l yX10_isSafe wsX10_isSafe ({ frames := 2, cells := 0, slots := 0, locals := 46 } : Room) (va_Pc [.ref (r 0), .int (nI S)] (wA D vwCl (tyA cA) e0 (xM cA r) (u, a) sz)) (va_Qi (fun (v : Int32) (z : sM) => ((v = nI 1 ∧ sf g T ro L S) ∨ (v = nI 0 ∧ ¬ sf g T ro L S)) ∧ (∀ i, i ≠ 25 → z.1 i = u i) ∧ (∀ i, i ≠ 23 → i ≠ 24 → z.2 i = a i)) (wB D vwCl (tyA cA) (xM cA r) (va_A (xM cA r (u, a)) sz)) (va_A (xM cA r (u, a)) sz)) 0 0 (va_A (xM cA r (u, a)) sz) := by
  refine Met.ofW (cc := cX10_isSafe) (maxL := 6) (ret := (some .boolean)) (by decide) rfl ?_
  intro p e s m args below meth c s₁ B hml hv
  obtain ⟨rfl, hsz, hP, hK, hD0, hE⟩ := hv
  have hx := B.exec
  have hb := B.bytes
  have hr := B.returns
  have hts := atoms_spec (ws := wsX10_isSafe) B.pre
  have hown : s.vm.findClass RX10 = some m.cls := findClass_of_methodNamed B.named
  have hlocks := B.notSynchronized
  subst hsz
  have hD := hD0.self (sz := s.heap.size)
  generalize hAe : va_A (xM cA r (u, a)) s.heap.size = A at hD hE ⊢
  have hA : ∀ q : Nat, s.heap.size ≤ q → A q := fun q h => by rw [← hAe]; exact Or.inr h
  have hS : va_S A s.heap s.heap [] := va_S.rf
  have hinX10 : ∀ w ∈ u_ws RX10 TX10 34, w ∈ wsX10_isSafe := by decide +kernel
  have hl := lv_entry ([.ref (r 0), .int (nI S)]) (n := 6) (Nat.le_of_ble_eq_true rfl)
  rw [lg_entry_eq]
  generalize (lg_sl ([.ref (r 0), .int (nI S)]) ++ List.replicate (6 - (lg_sl ([.ref (r 0), .int (nI S)])).length) Slot.unset).toArray = ls at hl ⊢
  have hl : lv_has ls 6 [(0, .ref (r 0)), (1, .int (nI S))] := hl
  have hg6 := hB.1
  refine lv_aload_n hx hb dX10_isSafe_0 rfl (lv_at hl 0 rfl) ?_
  refine lv_ldc (v := 100000) hx hb hown (hts (.constant RX10 158 (100000)) (by decide +kernel)) dX10_isSafe_1 ?_
  refine lv_iconst (v := (nI 3)) hx hb dX10_isSafe_3 rfl ?_
  refine lv_aload_n hx hb dX10_isSafe_4 rfl (lv_at hl 0 rfl) ?_
  refine va_get (D := D) (ci := 10) (v := .int (nI L)) (C := RX10) (T := TX10) (N := 34) hx hb hts hinX10 hown hK hP 0 rfl rfl 22 (by decide) (hts (.fieldLink RX10 145 "OneNailModel" "rowLong" "I") (by decide +kernel)) (fun _ h9 => h9) (congrArg (fun z => some (Value.int z)) (hL)) dX10_isSafe_5 ?_
  refine rn_imul (x := 3) (y := L) hx hb dX10_isSafe_8 ?_
  refine wVv e0_S (As := [.int (nI 100000), .int (nI (3 * L))]) (rest := []) ⟨hx, hb, hml, hown, hts⟩ (kX10_layComings l D cA r _ u a g T ro L 100000 (3 * L) hM hB (hL) hL8 (fun k hk => hro (k) hk) hrg (by decide) (by omega)) (cwV 2 hts gX10_isSafe_X10_layComings rfl rfl rfl (by decide +kernel) ⟨Nat.le_of_ble_eq_true rfl, Nat.le_of_ble_eq_true rfl⟩) (va_recv hK hP (ci := 10) (q0 := 0) rfl rfl) hK hP hD hS hA hE rfl hl.1 rfl (Nat.le_of_ble_eq_true rfl) dX10_isSafe_9 ⟨Nat.zero_le _, Nat.zero_le _⟩ (fun z_3 H locs hw_2 hP hD hS => ?_)
  obtain ⟨zu4, za5⟩ := z_3
  obtain ⟨cN, hLC, hcu_zu4, hc23_zu4, hc24_zu4, hfu_zu4, hfa_zu4⟩ := hw_2
  have hcu_zu4 : zu4 25 = nI cN := hcu_zu4
  have hc23_zu4 : ∀ k, k < cN → za5 23 k = nI (ct g T ro L k) := hc23_zu4
  have hc24_zu4 : ∀ k, k < cN → za5 24 k = nI (ro (k % L)) := hc24_zu4
  have hfu_zu4 : ∀ i, i ≠ 25 → zu4 i = u i := hfu_zu4
  have hfa_zu4 : ∀ i, i ≠ 23 → i ≠ 24 → za5 i = a i := hfa_zu4
  have hP : va_P D vwCl (xM cA r (zu4, za5)) H := hP
  have hD : va_D A (xM cA r (zu4, za5)) := hD
  have hc3 := LC_3L hLC hB hL8 hrg
  refine lv_iconst (v := (nI 0)) hx hb dX10_isSafe_12 rfl ?_
  refine lv_istore_n (lv' := [(2, .int (nI 0)), (0, .ref (r 0)), (1, .int (nI S))]) hx hb dX10_isSafe_13 rfl hl (by decide) rfl (fun ls hl => ?_)
  refine wLoop (τ := Nat) (fun z H locs ls => (fun (x : Nat) => (x ≤ g 0) ∧ (∀ y, y < x → bi S y = 1 → ((∃ k, k < 3 * L ∧ ro (k % L) = y) ∧ ∀ k, k < 3 * L → ro (k % L) = y → ct g T ro L k ≤ up (ct g T ro L) (fun k => ro (k % L)) y (hd g T y) (T 2 y) k)) ∧ (va_P D vwCl (xM cA r (zu4, za5)) H) ∧ (va_D A (xM cA r (zu4, za5))) ∧ (va_S A s.heap H locs) ∧ (lv_has ls 6 [(2, .int (nI x)), (0, .ref (r 0)), (1, .int (nI S))])) z) (fun z => (fun (x : Nat) => g 0 - x) z) (0) ⟨(show 0 ≤ g 0 from Nat.zero_le _), (show ∀ y, y < 0 → bi S y = 1 → ((∃ k, k < 3 * L ∧ ro (k % L) = y) ∧ ∀ k, k < 3 * L → ro (k % L) = y → ct g T ro L k ≤ up (ct g T ro L) (fun k => ro (k % L)) y (hd g T y) (T 2 y) k) from (fun y h => absurd h (Nat.not_lt_zero y))), hP, hD, hS, lv_sub hl [0, 1, 2] rfl⟩ ?_
  rintro x H locs ls ⟨hx1, hso, hP, hD, hS, hl⟩ ih14
  have hx1 : x ≤ g 0 := hx1
  have hso : ∀ y, y < x → bi S y = 1 → ((∃ k, k < 3 * L ∧ ro (k % L) = y) ∧ ∀ k, k < 3 * L → ro (k % L) = y → ct g T ro L k ≤ up (ct g T ro L) (fun k => ro (k % L)) y (hd g T y) (T 2 y) k) := hso
  have hP : va_P D vwCl (xM cA r (zu4, za5)) H := hP
  have hD : va_D A (xM cA r (zu4, za5)) := hD
  have hl : lv_has ls 6 [(2, .int (nI x)), (0, .ref (r 0)), (1, .int (nI S))] := hl
  refine lv_iload_n hx hb dX10_isSafe_14 rfl (lv_at hl 0 rfl) ?_
  refine lv_aload_n hx hb dX10_isSafe_15 rfl (lv_at hl 1 rfl) ?_
  refine va_get (D := D) (ci := 10) (v := .int (nI (g 0))) (C := RX10) (T := TX10) (N := 34) hx hb hts hinX10 hown hK hP 0 rfl rfl 5 (by decide) (hts (.fieldLink RX10 90 "OneNailModel" "things" "I") (by decide +kernel)) (fun _ h9 => h9) (congrArg (fun z => some (Value.int z)) ((hfu_zu4 5 (by decide)).trans (hM.1))) dX10_isSafe_16 ?_
  refine rn_ge (x := x) (y := g 0) (tgt := 128) hx hb (by omega) (by omega) dX10_isSafe_19 (by decide) (fun c_6 => ?_) (fun c_6 => ?_)
  · refine lv_iconst (v := (nI 1)) hx hb dX10_isSafe_128 rfl ?_
    exact wZret hx hb hr hlocks (v := (nI 1)) (by first | exact Or.inl rfl | exact Or.inr rfl) (zu4, za5) (⟨Or.inl ⟨rfl, fun y hy hb1 => hso y (by omega) hb1⟩, (fun i h25 => hfu_zu4 i h25), (fun i h23 h24 => hfa_zu4 i h23 h24)⟩) hK hP hD hS dX10_isSafe_129
  · have hTx := hB.2.2.2 x (by omega)
    have hdx := hd_le hB (show x < g 0 by omega)
    have hbx := bi_lt S x
    refine lv_iconst (v := (nI 0)) hx hb dX10_isSafe_22 rfl ?_
    refine lv_istore_n (lv' := [(3, .int (nI 0)), (2, .int (nI x)), (0, .ref (r 0)), (1, .int (nI S))]) hx hb dX10_isSafe_23 rfl hl (by decide) rfl (fun ls hl => ?_)
    refine lv_aload_n hx hb dX10_isSafe_24 rfl (lv_at hl 2 rfl) ?_
    refine lv_iload_n hx hb dX10_isSafe_25 rfl (lv_at hl 1 rfl) ?_
    refine wVi e0_S (As := [.int (nI x)]) (rest := []) ⟨hx, hb, hml, hown, hts⟩ (kX10_holds l D cA r _ zu4 za5 g T x (MT.keep (MT.keep hM (hfu_zu4 5 (by decide)) (hfu_zu4 6 (by decide)) (hfu_zu4 7 (by decide)) (hfa_zu4 8 (by decide) (by decide)) (hfa_zu4 9 (by decide) (by decide)) (hfa_zu4 10 (by decide) (by decide)) (hfa_zu4 11 (by decide) (by decide)) (hfa_zu4 12 (by decide) (by decide))) rfl rfl rfl rfl rfl rfl rfl rfl) hB (by omega)) (cwV 1 hts gX10_isSafe_X10_holds rfl rfl rfl (by decide +kernel) ⟨Nat.le_of_ble_eq_true rfl, Nat.le_of_ble_eq_true rfl⟩) (va_recv hK hP (ci := 10) (q0 := 0) rfl rfl) hK hP hD hS hA hE rfl hl.1 rfl (Nat.le_of_ble_eq_true rfl) dX10_isSafe_26 ⟨Nat.zero_le _, Nat.zero_le _⟩ (fun rv_7 z_9 H locs hw_8 hP hD hS => ?_)
    obtain ⟨rfl, rfl⟩ := hw_8
    have hP : va_P D vwCl (xM cA r (zu4, za5)) H := hP
    have hD : va_D A (xM cA r (zu4, za5)) := hD
    refine lv_istore (lv' := [(4, .int (nI (hd g T x))), (3, .int (nI 0)), (2, .int (nI x)), (0, .ref (r 0)), (1, .int (nI S))]) hx hb dX10_isSafe_29 hl (by decide) rfl (fun ls hl => ?_)
    refine lv_iconst (v := (nI 0)) hx hb dX10_isSafe_31 rfl ?_
    refine lv_istore (lv' := [(5, .int (nI 0)), (4, .int (nI (hd g T x))), (3, .int (nI 0)), (2, .int (nI x)), (0, .ref (r 0)), (1, .int (nI S))]) hx hb dX10_isSafe_32 hl (by decide) rfl (fun ls hl => ?_)
    refine wLoop (τ := Nat × Nat) (fun z H locs ls => (fun (k : Nat) (q : Nat) => (k ≤ cN) ∧ (q ≤ 1) ∧ (q = 1 → ∃ j, j < k ∧ ro (j % L) = x) ∧ (q = 0 → ∀ j, j < k → ro (j % L) ≠ x) ∧ (bi S x = 1 → ∀ j, j < k → ro (j % L) = x → ct g T ro L j ≤ up (ct g T ro L) (fun n9 => ro (n9 % L)) x (hd g T x) (T 2 x) j) ∧ (va_P D vwCl (xM cA r (zu4, za5)) H) ∧ (va_D A (xM cA r (zu4, za5))) ∧ (va_S A s.heap H locs) ∧ (lv_has ls 6 [(5, .int (nI k)), (4, .int (nI (up (ct g T ro L) (fun n9 => ro (n9 % L)) x (hd g T x) (T 2 x) k))), (3, .int (nI q)), (2, .int (nI x)), (0, .ref (r 0)), (1, .int (nI S))])) z.1 z.2) (fun z => (fun (k : Nat) (q : Nat) => cN - k) z.1 z.2) (0, 0) ⟨(show 0 ≤ cN from Nat.zero_le _), (show 0 ≤ 1 from Nat.zero_le _), (show 0 = 1 → ∃ j, j < 0 ∧ ro (j % L) = x from (fun h => absurd h (by decide))), (show 0 = 0 → ∀ j, j < 0 → ro (j % L) ≠ x from (fun _ j h => absurd h (Nat.not_lt_zero j))), (show bi S x = 1 → ∀ j, j < 0 → ro (j % L) = x → ct g T ro L j ≤ up (ct g T ro L) (fun n9 => ro (n9 % L)) x (hd g T x) (T 2 x) j from (fun _ j h => absurd h (Nat.not_lt_zero j))), hP, hD, hS, lv_sub hl [0, 1, 2, 3, 4, 5] rfl⟩ ?_
    rintro ⟨k, q⟩ H locs ls ⟨hk, hq, hq1, hq0, hup, hP, hD, hS, hl⟩ ih34
    have hk : k ≤ cN := hk
    have hq : q ≤ 1 := hq
    have hq1 : q = 1 → ∃ j, j < k ∧ ro (j % L) = x := hq1
    have hq0 : q = 0 → ∀ j, j < k → ro (j % L) ≠ x := hq0
    have hup : bi S x = 1 → ∀ j, j < k → ro (j % L) = x → ct g T ro L j ≤ up (ct g T ro L) (fun n9 => ro (n9 % L)) x (hd g T x) (T 2 x) j := hup
    have hP : va_P D vwCl (xM cA r (zu4, za5)) H := hP
    have hD : va_D A (xM cA r (zu4, za5)) := hD
    have hl : lv_has ls 6 [(5, .int (nI k)), (4, .int (nI (up (ct g T ro L) (fun n9 => ro (n9 % L)) x (hd g T x) (T 2 x) k))), (3, .int (nI q)), (2, .int (nI x)), (0, .ref (r 0)), (1, .int (nI S))] := hl
    have hul : up (ct g T ro L) (fun n9 => ro (n9 % L)) x (hd g T x) (T 2 x) k ≤ 10000 + T 2 x + hd g T x := by
      rcases Nat.eq_zero_or_pos L with q0 | q0
      · obtain rfl : k = 0 := by omega
        show hd g T x ≤ _; omega
      · exact up_le (n := cN) (fun j hj => by have := ct_le hB q0 hrg j; omega) k hk
    refine lv_iload hx hb dX10_isSafe_34 (lv_at hl 0 rfl) ?_
    refine lv_aload_n hx hb dX10_isSafe_36 rfl (lv_at hl 4 rfl) ?_
    refine va_get (D := D) (ci := 10) (v := .int (nI cN)) (C := RX10) (T := TX10) (N := 34) hx hb hts hinX10 hown hK hP 0 rfl rfl 25 (by decide) (hts (.fieldLink RX10 142 "OneNailModel" "comings" "I") (by decide +kernel)) (fun _ h9 => h9) (congrArg (fun z => some (Value.int z)) (hcu_zu4)) dX10_isSafe_37 ?_
    refine rn_ge (x := k) (y := cN) (tgt := 107) hx hb (by omega) (by omega) dX10_isSafe_40 (by decide) (fun c_10 => ?_) (fun c_10 => ?_)
    · refine lv_iload_n hx hb dX10_isSafe_107 rfl (lv_at hl 5 rfl) ?_
      refine lv_iload_n hx hb dX10_isSafe_108 rfl (lv_at hl 3 rfl) ?_
      refine lv_ishr hx hb dX10_isSafe_109 ?_
      refine lv_iconst (v := (nI 1)) hx hb dX10_isSafe_110 rfl ?_
      refine lv_iand hx hb dX10_isSafe_111 ?_
      refine lv_topi (fun y_11 ey_11 => ?_)
      obtain rfl : y_11 = (nI (bi S x)) := ey_11.trans (bi_row S hS64 x (by omega))
      refine lv_iconst (v := (nI 1)) hx hb dX10_isSafe_112 rfl ?_
      refine rn_ne (x := bi S x) (y := 1) (tgt := 122) hx hb (by omega) (by omega) dX10_isSafe_113 (by decide) (fun c_12 => ?_) (fun c_12 => ?_)
      · refine rn_iinc (x := x) (d := 1) (lv' := [(2, .int (nI (x + 1))), (5, .int (nI k)), (4, .int (nI (up (ct g T ro L) (fun n9 => ro (n9 % L)) x (hd g T x) (T 2 x) k))), (3, .int (nI q)), (0, .ref (r 0)), (1, .int (nI S))]) hx hb rfl dX10_isSafe_122 hl (k := 3) rfl (by decide) rfl (fun ls hl => ?_)
        refine lv_goto (tgt := 14) hx hb dX10_isSafe_125 (by decide) ?_
        exact ih14 ((x + 1)) _ _ _ (show g 0 - (x + 1) < g 0 - x from by omega) ⟨(show (x + 1) ≤ g 0 from by omega), (show ∀ y, y < (x + 1) → bi S y = 1 → ((∃ k, k < 3 * L ∧ ro (k % L) = y) ∧ ∀ k, k < 3 * L → ro (k % L) = y → ct g T ro L k ≤ up (ct g T ro L) (fun k => ro (k % L)) y (hd g T y) (T 2 y) k) from (lt_s (p := fun y => bi S y = 1 → ((∃ k, k < 3 * L ∧ ro (k % L) = y) ∧ ∀ k, k < 3 * L → ro (k % L) = y → ct g T ro L k ≤ up (ct g T ro L) (fun k => ro (k % L)) y (hd g T y) (T 2 y) k)) hso (fun hb1 => ⟨by obtain ⟨j, h1, h2⟩ := hq1 (by omega); exact ⟨j, by omega, h2⟩, fun j hj e => hup hb1 j (by omega) e⟩))), hP, hD, hS, lv_sub hl [0, 4, 5] rfl⟩
      · refine lv_iload_n hx hb dX10_isSafe_116 rfl (lv_at hl 2 rfl) ?_
        refine rz_ne (x := q) (tgt := 122) hx hb (by omega) dX10_isSafe_117 (by decide) (fun c_13 => ?_) (fun c_13 => ?_)
        · refine rn_iinc (x := x) (d := 1) (lv' := [(2, .int (nI (x + 1))), (5, .int (nI k)), (4, .int (nI (up (ct g T ro L) (fun n9 => ro (n9 % L)) x (hd g T x) (T 2 x) k))), (3, .int (nI q)), (0, .ref (r 0)), (1, .int (nI S))]) hx hb rfl dX10_isSafe_122 hl (k := 3) rfl (by decide) rfl (fun ls hl => ?_)
          refine lv_goto (tgt := 14) hx hb dX10_isSafe_125 (by decide) ?_
          exact ih14 ((x + 1)) _ _ _ (show g 0 - (x + 1) < g 0 - x from by omega) ⟨(show (x + 1) ≤ g 0 from by omega), (show ∀ y, y < (x + 1) → bi S y = 1 → ((∃ k, k < 3 * L ∧ ro (k % L) = y) ∧ ∀ k, k < 3 * L → ro (k % L) = y → ct g T ro L k ≤ up (ct g T ro L) (fun k => ro (k % L)) y (hd g T y) (T 2 y) k) from (lt_s (p := fun y => bi S y = 1 → ((∃ k, k < 3 * L ∧ ro (k % L) = y) ∧ ∀ k, k < 3 * L → ro (k % L) = y → ct g T ro L k ≤ up (ct g T ro L) (fun k => ro (k % L)) y (hd g T y) (T 2 y) k)) hso (fun hb1 => ⟨by obtain ⟨j, h1, h2⟩ := hq1 (by omega); exact ⟨j, by omega, h2⟩, fun j hj e => hup hb1 j (by omega) e⟩))), hP, hD, hS, lv_sub hl [0, 4, 5] rfl⟩
        · refine lv_iconst (v := (nI 0)) hx hb dX10_isSafe_120 rfl ?_
          exact wZret hx hb hr hlocks (v := (nI 0)) (by first | exact Or.inl rfl | exact Or.inr rfl) (zu4, za5) (⟨Or.inr ⟨rfl, fun hs => by obtain ⟨⟨j, h1, h2⟩, -⟩ := hs x (by omega) (by omega); exact hq0 (by omega) j (by omega) h2⟩, (fun i h25 => hfu_zu4 i h25), (fun i h23 h24 => hfa_zu4 i h23 h24)⟩) hK hP hD hS dX10_isSafe_121
    · have hL0 : 0 < L := by omega
      have hrk := hrg _ (Nat.mod_lt k hL0)
      have hck := ct_le hB hL0 hrg k
      refine lv_aload_n hx hb dX10_isSafe_43 rfl (lv_at hl 4 rfl) ?_
      refine va_get (D := D) (ci := 10) (v := .ref (r 24)) (C := RX10) (T := TX10) (N := 34) hx hb hts hinX10 hown hK hP 0 rfl rfl 24 (by decide) (hts (.fieldLink RX10 55 "OneNailModel" "comesTo" "[I") (by decide +kernel)) (fun _ h9 => h9) rfl dX10_isSafe_44 ?_
      refine lv_iload hx hb dX10_isSafe_47 (lv_at hl 0 rfl) ?_
      refine ra_iald hx hb hK hP 16 0 (n := 400) (f := (za5 24)) (j := k) (v := (nI (ro ((k) % L)))) rfl rfl (by omega) (by decide) (hc24_zu4 (k) (by omega)) dX10_isSafe_49 ?_
      refine lv_iload_n hx hb dX10_isSafe_50 rfl (lv_at hl 3 rfl) ?_
      refine rn_ne (x := ro ((k) % L)) (y := x) (tgt := 101) hx hb (by omega) (by omega) dX10_isSafe_51 (by decide) (fun c_14 => ?_) (fun c_14 => ?_)
      · refine rn_iinc (x := k) (d := 1) (lv' := [(5, .int (nI (k + 1))), (4, .int (nI (up (ct g T ro L) (fun n9 => ro (n9 % L)) x (hd g T x) (T 2 x) k))), (3, .int (nI q)), (2, .int (nI x)), (0, .ref (r 0)), (1, .int (nI S))]) hx hb rfl dX10_isSafe_101 hl (k := 0) rfl (by decide) rfl (fun ls hl => ?_)
        refine lv_goto (tgt := 34) hx hb dX10_isSafe_104 (by decide) ?_
        have hl : lv_has ls 6 [(5, .int (nI (k + 1))), (4, .int (nI (up (ct g T ro L) (fun n9 => ro (n9 % L)) x (hd g T x) (T 2 x) (k + 1)))), (3, .int (nI q)), (2, .int (nI x)), (0, .ref (r 0)), (1, .int (nI S))] := lv_re hl 1 ⟨rfl, rfl⟩ (congrArg nI (up_no (tg := fun k => ro (k % L)) (show ¬ ro (k % L) = x by omega)).symm)
        exact ih34 ((k + 1), q) _ _ _ (show cN - (k + 1) < cN - k from by omega) ⟨(show (k + 1) ≤ cN from by omega), (show q ≤ 1 from hq), (show q = 1 → ∃ j, j < (k + 1) ∧ ro (j % L) = x from (fun h => by obtain ⟨j, h1, h2⟩ := hq1 h; exact ⟨j, by omega, h2⟩)), (show q = 0 → ∀ j, j < (k + 1) → ro (j % L) ≠ x from (fun h => lt_s (p := fun j => ro (j % L) ≠ x) (hq0 h) (by omega))), (show bi S x = 1 → ∀ j, j < (k + 1) → ro (j % L) = x → ct g T ro L j ≤ up (ct g T ro L) (fun n9 => ro (n9 % L)) x (hd g T x) (T 2 x) j from (fun hb1 => lt_s (p := fun j => ro (j % L) = x → ct g T ro L j ≤ up (ct g T ro L) (fun n9 => ro (n9 % L)) x (hd g T x) (T 2 x) j) (hup hb1) (fun e => absurd e (by omega)))), hP, hD, hS, lv_sub hl [0, 1, 2, 3, 4, 5] rfl⟩
      · refine lv_iload_n hx hb dX10_isSafe_54 rfl (lv_at hl 5 rfl) ?_
        refine lv_iload_n hx hb dX10_isSafe_55 rfl (lv_at hl 3 rfl) ?_
        refine lv_ishr hx hb dX10_isSafe_56 ?_
        refine lv_iconst (v := (nI 1)) hx hb dX10_isSafe_57 rfl ?_
        refine lv_iand hx hb dX10_isSafe_58 ?_
        refine lv_topi (fun y_15 ey_15 => ?_)
        obtain rfl : y_15 = (nI (bi S x)) := ey_15.trans (bi_row S hS64 x (by omega))
        refine lv_iconst (v := (nI 1)) hx hb dX10_isSafe_59 rfl ?_
        refine rn_ne (x := bi S x) (y := 1) (tgt := 77) hx hb (by omega) (by omega) dX10_isSafe_60 (by decide) (fun c_16 => ?_) (fun c_16 => ?_)
        · refine lv_iconst (v := (nI 1)) hx hb dX10_isSafe_77 rfl ?_
          refine lv_istore_n (lv' := [(3, .int (nI 1)), (5, .int (nI k)), (4, .int (nI (up (ct g T ro L) (fun n9 => ro (n9 % L)) x (hd g T x) (T 2 x) k))), (2, .int (nI x)), (0, .ref (r 0)), (1, .int (nI S))]) hx hb dX10_isSafe_78 rfl hl (by decide) rfl (fun ls hl => ?_)
          refine lv_aload_n hx hb dX10_isSafe_79 rfl (lv_at hl 4 rfl) ?_
          refine va_get (D := D) (ci := 10) (v := .ref (r 23)) (C := RX10) (T := TX10) (N := 34) hx hb hts hinX10 hown hK hP 0 rfl rfl 23 (by decide) (hts (.fieldLink RX10 52 "OneNailModel" "comesAt" "[I") (by decide +kernel)) (fun _ h9 => h9) rfl dX10_isSafe_80 ?_
          refine lv_iload hx hb dX10_isSafe_83 (lv_at hl 1 rfl) ?_
          refine ra_iald hx hb hK hP 15 0 (n := 400) (f := (za5 23)) (j := k) (v := (nI (ct g T ro L (k)))) rfl rfl (by omega) (by decide) (hc23_zu4 (k) (by omega)) dX10_isSafe_85 ?_
          refine lv_aload_n hx hb dX10_isSafe_86 rfl (lv_at hl 4 rfl) ?_
          refine va_get (D := D) (ci := 10) (v := .ref (r 10)) (C := RX10) (T := TX10) (N := 34) hx hb hts hinX10 hown hK hP 0 rfl rfl 10 (by decide) (hts (.fieldLink RX10 25 "OneNailModel" "stays" "[I") (by decide +kernel)) (fun _ h9 => h9) rfl dX10_isSafe_87 ?_
          refine lv_iload_n hx hb dX10_isSafe_90 rfl (lv_at hl 3 rfl) ?_
          refine ra_iald hx hb hK hP 6 0 (n := 6) (f := (za5 10)) (j := x) (v := (nI (T 2 x))) rfl rfl (by omega) (by decide) ((congrFun (hfa_zu4 10 (by decide) (by decide)) (x)).trans ((hM.2.2.2 (x) (by omega)).2.2.1)) dX10_isSafe_91 ?_
          refine rn_iadd (x := ct g T ro L (k)) (y := T 2 x) hx hb dX10_isSafe_92 ?_
          refine lv_aload_n hx hb dX10_isSafe_93 rfl (lv_at hl 4 rfl) ?_
          refine lv_iload_n hx hb dX10_isSafe_94 rfl (lv_at hl 3 rfl) ?_
          refine wVi e0_S (As := [.int (nI x)]) (rest := [.int (nI ((ct g T ro L (k)) + (T 2 x)))]) ⟨hx, hb, hml, hown, hts⟩ (kX10_holds l D cA r _ zu4 za5 g T x (MT.keep (MT.keep (MT.keep hM (hfu_zu4 5 (by decide)) (hfu_zu4 6 (by decide)) (hfu_zu4 7 (by decide)) (hfa_zu4 8 (by decide) (by decide)) (hfa_zu4 9 (by decide) (by decide)) (hfa_zu4 10 (by decide) (by decide)) (hfa_zu4 11 (by decide) (by decide)) (hfa_zu4 12 (by decide) (by decide))) rfl rfl rfl rfl rfl rfl rfl rfl) rfl rfl rfl rfl rfl rfl rfl rfl) hB (by omega)) (cwV 1 hts gX10_isSafe_X10_holds rfl rfl rfl (by decide +kernel) ⟨Nat.le_of_ble_eq_true rfl, Nat.le_of_ble_eq_true rfl⟩) (va_recv hK hP (ci := 10) (q0 := 0) rfl rfl) hK hP hD hS hA hE rfl hl.1 rfl (Nat.le_of_ble_eq_true rfl) dX10_isSafe_95 ⟨Nat.zero_le _, Nat.zero_le _⟩ (fun rv_17 z_19 H locs hw_18 hP hD hS => ?_)
          obtain ⟨rfl, rfl⟩ := hw_18
          have hP : va_P D vwCl (xM cA r (zu4, za5)) H := hP
          have hD : va_D A (xM cA r (zu4, za5)) := hD
          refine rn_iadd (x := (ct g T ro L (k)) + (T 2 x)) (y := hd g T x) hx hb dX10_isSafe_98 ?_
          refine lv_istore (lv' := [(4, .int (nI (((ct g T ro L (k)) + (T 2 x)) + (hd g T x)))), (3, .int (nI 1)), (5, .int (nI k)), (2, .int (nI x)), (0, .ref (r 0)), (1, .int (nI S))]) hx hb dX10_isSafe_99 hl (by decide) rfl (fun ls hl => ?_)
          refine rn_iinc (x := k) (d := 1) (lv' := [(5, .int (nI (k + 1))), (4, .int (nI (((ct g T ro L (k)) + (T 2 x)) + (hd g T x)))), (3, .int (nI 1)), (2, .int (nI x)), (0, .ref (r 0)), (1, .int (nI S))]) hx hb rfl dX10_isSafe_101 hl (k := 2) rfl (by decide) rfl (fun ls hl => ?_)
          refine lv_goto (tgt := 34) hx hb dX10_isSafe_104 (by decide) ?_
          have hl : lv_has ls 6 [(5, .int (nI (k + 1))), (4, .int (nI (up (ct g T ro L) (fun n9 => ro (n9 % L)) x (hd g T x) (T 2 x) (k + 1)))), (3, .int (nI 1)), (2, .int (nI x)), (0, .ref (r 0)), (1, .int (nI S))] := lv_re hl 1 ⟨rfl, rfl⟩ (congrArg nI (up_yes (tg := fun k => ro (k % L)) (show ro (k % L) = x by omega)).symm)
          exact ih34 ((k + 1), 1) _ _ _ (show cN - (k + 1) < cN - k from by omega) ⟨(show (k + 1) ≤ cN from by omega), (show 1 ≤ 1 from Nat.le_refl 1), (show 1 = 1 → ∃ j, j < (k + 1) ∧ ro (j % L) = x from (fun _ => ⟨k, by omega, by omega⟩)), (show 1 = 0 → ∀ j, j < (k + 1) → ro (j % L) ≠ x from (fun h => absurd h (by decide))), (show bi S x = 1 → ∀ j, j < (k + 1) → ro (j % L) = x → ct g T ro L j ≤ up (ct g T ro L) (fun n9 => ro (n9 % L)) x (hd g T x) (T 2 x) j from (fun hb1 => lt_s (p := fun j => ro (j % L) = x → ct g T ro L j ≤ up (ct g T ro L) (fun n9 => ro (n9 % L)) x (hd g T x) (T 2 x) j) (hup hb1) (fun _ => by omega))), hP, hD, hS, lv_sub hl [0, 1, 2, 3, 4, 5] rfl⟩
        · refine lv_iload hx hb dX10_isSafe_63 (lv_at hl 1 rfl) ?_
          refine lv_aload_n hx hb dX10_isSafe_65 rfl (lv_at hl 4 rfl) ?_
          refine va_get (D := D) (ci := 10) (v := .ref (r 23)) (C := RX10) (T := TX10) (N := 34) hx hb hts hinX10 hown hK hP 0 rfl rfl 23 (by decide) (hts (.fieldLink RX10 52 "OneNailModel" "comesAt" "[I") (by decide +kernel)) (fun _ h9 => h9) rfl dX10_isSafe_66 ?_
          refine lv_iload hx hb dX10_isSafe_69 (lv_at hl 0 rfl) ?_
          refine ra_iald hx hb hK hP 15 0 (n := 400) (f := (za5 23)) (j := k) (v := (nI (ct g T ro L (k)))) rfl rfl (by omega) (by decide) (hc23_zu4 (k) (by omega)) dX10_isSafe_71 ?_
          refine rn_ge (x := up (ct g T ro L) (fun n9 => ro (n9 % L)) x (hd g T x) (T 2 x) k) (y := ct g T ro L (k)) (tgt := 77) hx hb (by omega) (by omega) dX10_isSafe_72 (by decide) (fun c_20 => ?_) (fun c_20 => ?_)
          · refine lv_iconst (v := (nI 1)) hx hb dX10_isSafe_77 rfl ?_
            refine lv_istore_n (lv' := [(3, .int (nI 1)), (5, .int (nI k)), (4, .int (nI (up (ct g T ro L) (fun n9 => ro (n9 % L)) x (hd g T x) (T 2 x) k))), (2, .int (nI x)), (0, .ref (r 0)), (1, .int (nI S))]) hx hb dX10_isSafe_78 rfl hl (by decide) rfl (fun ls hl => ?_)
            refine lv_aload_n hx hb dX10_isSafe_79 rfl (lv_at hl 4 rfl) ?_
            refine va_get (D := D) (ci := 10) (v := .ref (r 23)) (C := RX10) (T := TX10) (N := 34) hx hb hts hinX10 hown hK hP 0 rfl rfl 23 (by decide) (hts (.fieldLink RX10 52 "OneNailModel" "comesAt" "[I") (by decide +kernel)) (fun _ h9 => h9) rfl dX10_isSafe_80 ?_
            refine lv_iload hx hb dX10_isSafe_83 (lv_at hl 1 rfl) ?_
            refine ra_iald hx hb hK hP 15 0 (n := 400) (f := (za5 23)) (j := k) (v := (nI (ct g T ro L (k)))) rfl rfl (by omega) (by decide) (hc23_zu4 (k) (by omega)) dX10_isSafe_85 ?_
            refine lv_aload_n hx hb dX10_isSafe_86 rfl (lv_at hl 4 rfl) ?_
            refine va_get (D := D) (ci := 10) (v := .ref (r 10)) (C := RX10) (T := TX10) (N := 34) hx hb hts hinX10 hown hK hP 0 rfl rfl 10 (by decide) (hts (.fieldLink RX10 25 "OneNailModel" "stays" "[I") (by decide +kernel)) (fun _ h9 => h9) rfl dX10_isSafe_87 ?_
            refine lv_iload_n hx hb dX10_isSafe_90 rfl (lv_at hl 3 rfl) ?_
            refine ra_iald hx hb hK hP 6 0 (n := 6) (f := (za5 10)) (j := x) (v := (nI (T 2 x))) rfl rfl (by omega) (by decide) ((congrFun (hfa_zu4 10 (by decide) (by decide)) (x)).trans ((hM.2.2.2 (x) (by omega)).2.2.1)) dX10_isSafe_91 ?_
            refine rn_iadd (x := ct g T ro L (k)) (y := T 2 x) hx hb dX10_isSafe_92 ?_
            refine lv_aload_n hx hb dX10_isSafe_93 rfl (lv_at hl 4 rfl) ?_
            refine lv_iload_n hx hb dX10_isSafe_94 rfl (lv_at hl 3 rfl) ?_
            refine wVi e0_S (As := [.int (nI x)]) (rest := [.int (nI ((ct g T ro L (k)) + (T 2 x)))]) ⟨hx, hb, hml, hown, hts⟩ (kX10_holds l D cA r _ zu4 za5 g T x (MT.keep (MT.keep (MT.keep hM (hfu_zu4 5 (by decide)) (hfu_zu4 6 (by decide)) (hfu_zu4 7 (by decide)) (hfa_zu4 8 (by decide) (by decide)) (hfa_zu4 9 (by decide) (by decide)) (hfa_zu4 10 (by decide) (by decide)) (hfa_zu4 11 (by decide) (by decide)) (hfa_zu4 12 (by decide) (by decide))) rfl rfl rfl rfl rfl rfl rfl rfl) rfl rfl rfl rfl rfl rfl rfl rfl) hB (by omega)) (cwV 1 hts gX10_isSafe_X10_holds rfl rfl rfl (by decide +kernel) ⟨Nat.le_of_ble_eq_true rfl, Nat.le_of_ble_eq_true rfl⟩) (va_recv hK hP (ci := 10) (q0 := 0) rfl rfl) hK hP hD hS hA hE rfl hl.1 rfl (Nat.le_of_ble_eq_true rfl) dX10_isSafe_95 ⟨Nat.zero_le _, Nat.zero_le _⟩ (fun rv_21 z_23 H locs hw_22 hP hD hS => ?_)
            obtain ⟨rfl, rfl⟩ := hw_22
            have hP : va_P D vwCl (xM cA r (zu4, za5)) H := hP
            have hD : va_D A (xM cA r (zu4, za5)) := hD
            refine rn_iadd (x := (ct g T ro L (k)) + (T 2 x)) (y := hd g T x) hx hb dX10_isSafe_98 ?_
            refine lv_istore (lv' := [(4, .int (nI (((ct g T ro L (k)) + (T 2 x)) + (hd g T x)))), (3, .int (nI 1)), (5, .int (nI k)), (2, .int (nI x)), (0, .ref (r 0)), (1, .int (nI S))]) hx hb dX10_isSafe_99 hl (by decide) rfl (fun ls hl => ?_)
            refine rn_iinc (x := k) (d := 1) (lv' := [(5, .int (nI (k + 1))), (4, .int (nI (((ct g T ro L (k)) + (T 2 x)) + (hd g T x)))), (3, .int (nI 1)), (2, .int (nI x)), (0, .ref (r 0)), (1, .int (nI S))]) hx hb rfl dX10_isSafe_101 hl (k := 2) rfl (by decide) rfl (fun ls hl => ?_)
            refine lv_goto (tgt := 34) hx hb dX10_isSafe_104 (by decide) ?_
            have hl : lv_has ls 6 [(5, .int (nI (k + 1))), (4, .int (nI (up (ct g T ro L) (fun n9 => ro (n9 % L)) x (hd g T x) (T 2 x) (k + 1)))), (3, .int (nI 1)), (2, .int (nI x)), (0, .ref (r 0)), (1, .int (nI S))] := lv_re hl 1 ⟨rfl, rfl⟩ (congrArg nI (up_yes (tg := fun k => ro (k % L)) (show ro (k % L) = x by omega)).symm)
            exact ih34 ((k + 1), 1) _ _ _ (show cN - (k + 1) < cN - k from by omega) ⟨(show (k + 1) ≤ cN from by omega), (show 1 ≤ 1 from Nat.le_refl 1), (show 1 = 1 → ∃ j, j < (k + 1) ∧ ro (j % L) = x from (fun _ => ⟨k, by omega, by omega⟩)), (show 1 = 0 → ∀ j, j < (k + 1) → ro (j % L) ≠ x from (fun h => absurd h (by decide))), (show bi S x = 1 → ∀ j, j < (k + 1) → ro (j % L) = x → ct g T ro L j ≤ up (ct g T ro L) (fun n9 => ro (n9 % L)) x (hd g T x) (T 2 x) j from (fun hb1 => lt_s (p := fun j => ro (j % L) = x → ct g T ro L j ≤ up (ct g T ro L) (fun n9 => ro (n9 % L)) x (hd g T x) (T 2 x) j) (hup hb1) (fun _ => by omega))), hP, hD, hS, lv_sub hl [0, 1, 2, 3, 4, 5] rfl⟩
          · refine lv_iconst (v := (nI 0)) hx hb dX10_isSafe_75 rfl ?_
            exact wZret hx hb hr hlocks (v := (nI 0)) (by first | exact Or.inl rfl | exact Or.inr rfl) (zu4, za5) (⟨Or.inr ⟨rfl, fun hs => by have := (hs x (by omega) (by omega)).2 k (by omega) (by omega); omega⟩, (fun i h25 => hfu_zu4 i h25), (fun i h23 h24 => hfa_zu4 i h23 h24)⟩) hK hP hD hS dX10_isSafe_76

set_option maxHeartbeats 4000000 in
set_option maxRecDepth 100000 in
theorem kX10_isUp (l : Launch) (D : va_G) (cA : Nat → ClassId) (r : Nat → Nat) (sz : Nat) (u : Nat → Int32) (a : Nat → Nat → Int32) (g : Nat → Nat) (T : Nat → Nat → Nat) (cf tg : Nat → Nat) (cN x w : Nat) (hM : MT u a g T) (hB : TB g T) (hc : u 25 = nI cN) (hcN : cN ≤ 400) (hcf : ∀ k, k < cN → a 23 k = nI (cf k)) (hct : ∀ k, k < cN → a 24 k = nI (tg k)) (hcb : ∀ k, k < cN → cf k ≤ 10000) (htb : ∀ k, k < cN → tg k < 8) (hx0 : x < g 0) (hw3 : w ≤ 300) : Met l yX10_isUp wsX10_isUp ({ frames := 1, cells := 0, slots := 0, locals := 22 } : Room) (va_Pc [.ref (r 0), .int (nI x), .int (nI w)] (wA D vwCl (tyA cA) e0 (xM cA r) (u, a) sz)) (va_Qi (fun (v : Int32) (z : sM) => z = (u, a) ∧ ((v = nI 1 ∧ w < ua cf tg x (hd g T x) (T 2 x) w cN) ∨ (v = nI 0 ∧ ¬ w < ua cf tg x (hd g T x) (T 2 x) w cN))) (wB D vwCl (tyA cA) (xM cA r) (va_A (xM cA r (u, a)) sz)) (va_A (xM cA r (u, a)) sz)) 0 0 (va_A (xM cA r (u, a)) sz) := by
  refine Met.ofW (cc := cX10_isUp) (maxL := 5) (ret := (some .boolean)) (by decide) rfl ?_
  intro p e s m args below meth c s₁ B hml hv
  obtain ⟨rfl, hsz, hP, hK, hD0, hE⟩ := hv
  have hx := B.exec
  have hb := B.bytes
  have hr := B.returns
  have hts := atoms_spec (ws := wsX10_isUp) B.pre
  have hown : s.vm.findClass RX10 = some m.cls := findClass_of_methodNamed B.named
  have hlocks := B.notSynchronized
  subst hsz
  have hD := hD0.self (sz := s.heap.size)
  generalize hAe : va_A (xM cA r (u, a)) s.heap.size = A at hD hE ⊢
  have hA : ∀ q : Nat, s.heap.size ≤ q → A q := fun q h => by rw [← hAe]; exact Or.inr h
  have hS : va_S A s.heap s.heap [] := va_S.rf
  have hinX10 : ∀ w ∈ u_ws RX10 TX10 34, w ∈ wsX10_isUp := by decide +kernel
  have hl := lv_entry ([.ref (r 0), .int (nI x), .int (nI w)]) (n := 5) (Nat.le_of_ble_eq_true rfl)
  rw [lg_entry_eq]
  generalize (lg_sl ([.ref (r 0), .int (nI x), .int (nI w)]) ++ List.replicate (5 - (lg_sl ([.ref (r 0), .int (nI x), .int (nI w)])).length) Slot.unset).toArray = ls at hl ⊢
  have hl : lv_has ls 5 [(0, .ref (r 0)), (1, .int (nI x)), (2, .int (nI w))] := hl
  have hg6 := hB.1
  have hTx := hB.2.2.2 x hx0
  have hdx := hd_le hB hx0
  refine lv_aload_n hx hb dX10_isUp_0 rfl (lv_at hl 0 rfl) ?_
  refine lv_iload_n hx hb dX10_isUp_1 rfl (lv_at hl 1 rfl) ?_
  refine wVi e0_S (As := [.int (nI x)]) (rest := []) ⟨hx, hb, hml, hown, hts⟩ (kX10_holds l D cA r _ u a g T x hM hB (by omega)) (cwV 1 hts gX10_isUp_X10_holds rfl rfl rfl (by decide +kernel) ⟨Nat.le_of_ble_eq_true rfl, Nat.le_of_ble_eq_true rfl⟩) (va_recv hK hP (ci := 10) (q0 := 0) rfl rfl) hK hP hD hS hA hE rfl hl.1 rfl (Nat.le_of_ble_eq_true rfl) dX10_isUp_2 ⟨Nat.zero_le _, Nat.zero_le _⟩ (fun rv_1 z_3 H locs hw_2 hP hD hS => ?_)
  obtain ⟨rfl, rfl⟩ := hw_2
  have hP : va_P D vwCl (xM cA r (u, a)) H := hP
  have hD : va_D A (xM cA r (u, a)) := hD
  refine lv_istore_n (lv' := [(3, .int (nI (hd g T x))), (0, .ref (r 0)), (1, .int (nI x)), (2, .int (nI w))]) hx hb dX10_isUp_5 rfl hl (by decide) rfl (fun ls hl => ?_)
  refine lv_iconst (v := (nI 0)) hx hb dX10_isUp_6 rfl ?_
  refine lv_istore (lv' := [(4, .int (nI 0)), (3, .int (nI (hd g T x))), (0, .ref (r 0)), (1, .int (nI x)), (2, .int (nI w))]) hx hb dX10_isUp_7 hl (by decide) rfl (fun ls hl => ?_)
  refine wLoop (τ := Nat) (fun z H locs ls => (fun (k : Nat) => (k ≤ cN) ∧ (va_P D vwCl (xM cA r (u, a)) H) ∧ (va_D A (xM cA r (u, a))) ∧ (va_S A s.heap H locs) ∧ (lv_has ls 5 [(4, .int (nI k)), (3, .int (nI (ua cf tg x (hd g T x) (T 2 x) w k))), (0, .ref (r 0)), (1, .int (nI x)), (2, .int (nI w))])) z) (fun z => (fun (k : Nat) => cN - k) z) (0) ⟨(show 0 ≤ cN from Nat.zero_le _), hP, hD, hS, lv_sub hl [0, 1, 2, 3, 4] rfl⟩ ?_
  rintro k H locs ls ⟨hk, hP, hD, hS, hl⟩ ih9
  have hk : k ≤ cN := hk
  have hP : va_P D vwCl (xM cA r (u, a)) H := hP
  have hD : va_D A (xM cA r (u, a)) := hD
  have hl : lv_has ls 5 [(4, .int (nI k)), (3, .int (nI (ua cf tg x (hd g T x) (T 2 x) w k))), (0, .ref (r 0)), (1, .int (nI x)), (2, .int (nI w))] := hl
  have hul := ua_le (tg := tg) (x := x) (h := hd g T x) (y := T 2 x) (w := w) hcb k hk
  refine lv_iload hx hb dX10_isUp_9 (lv_at hl 0 rfl) ?_
  refine lv_aload_n hx hb dX10_isUp_11 rfl (lv_at hl 2 rfl) ?_
  refine va_get (D := D) (ci := 10) (v := .int (nI cN)) (C := RX10) (T := TX10) (N := 34) hx hb hts hinX10 hown hK hP 0 rfl rfl 25 (by decide) (hts (.fieldLink RX10 142 "OneNailModel" "comings" "I") (by decide +kernel)) (fun _ h9 => h9) (congrArg (fun z => some (Value.int z)) (hc)) dX10_isUp_12 ?_
  refine rn_ge (x := k) (y := cN) (tgt := 71) hx hb (by omega) (by omega) dX10_isUp_15 (by decide) (fun c_4 => ?_) (fun c_4 => ?_)
  · have hke : k = cN := by omega
    refine lv_iload_n hx hb dX10_isUp_71 rfl (lv_at hl 4 rfl) ?_
    refine lv_iload_n hx hb dX10_isUp_72 rfl (lv_at hl 1 rfl) ?_
    refine rn_ge (x := w) (y := ua cf tg x (hd g T x) (T 2 x) w k) (tgt := 80) hx hb (by omega) (by omega) dX10_isUp_73 (by decide) (fun c_5 => ?_) (fun c_5 => ?_)
    · refine lv_iconst (v := (nI 0)) hx hb dX10_isUp_80 rfl ?_
      exact wZret hx hb hr hlocks (v := (nI 0)) (by first | exact Or.inl rfl | exact Or.inr rfl) (u, a) (⟨rfl, by first | exact Or.inl ⟨rfl, by rw [← hke]; omega⟩ | exact Or.inr ⟨rfl, by rw [← hke]; omega⟩⟩) hK hP hD hS dX10_isUp_81
    · refine lv_iconst (v := (nI 1)) hx hb dX10_isUp_76 rfl ?_
      refine lv_goto (tgt := 81) hx hb dX10_isUp_77 (by decide) ?_
      exact wZret hx hb hr hlocks (v := (nI 1)) (by first | exact Or.inl rfl | exact Or.inr rfl) (u, a) (⟨rfl, by first | exact Or.inl ⟨rfl, by rw [← hke]; omega⟩ | exact Or.inr ⟨rfl, by rw [← hke]; omega⟩⟩) hK hP hD hS dX10_isUp_81
  · have hcbk := hcb k (by omega)
    have htbk := htb k (by omega)
    refine lv_aload_n hx hb dX10_isUp_18 rfl (lv_at hl 2 rfl) ?_
    refine va_get (D := D) (ci := 10) (v := .ref (r 24)) (C := RX10) (T := TX10) (N := 34) hx hb hts hinX10 hown hK hP 0 rfl rfl 24 (by decide) (hts (.fieldLink RX10 55 "OneNailModel" "comesTo" "[I") (by decide +kernel)) (fun _ h9 => h9) rfl dX10_isUp_19 ?_
    refine lv_iload hx hb dX10_isUp_22 (lv_at hl 0 rfl) ?_
    refine ra_iald hx hb hK hP 16 0 (n := 400) (f := (a 24)) (j := k) (v := (nI (tg k))) rfl rfl (by omega) (by decide) (hct (k) (by omega)) dX10_isUp_24 ?_
    refine lv_iload_n hx hb dX10_isUp_25 rfl (lv_at hl 3 rfl) ?_
    refine rn_ne (x := tg k) (y := x) (tgt := 63) hx hb (by omega) (by omega) dX10_isUp_26 (by decide) (fun c_6 => ?_) (fun c_6 => ?_)
    · refine lv_iload_n hx hb dX10_isUp_63 rfl (lv_at hl 1 rfl) ?_
      refine lv_istore_n (lv' := [(3, .int (nI (ua cf tg x (hd g T x) (T 2 x) w k))), (4, .int (nI k)), (0, .ref (r 0)), (1, .int (nI x)), (2, .int (nI w))]) hx hb dX10_isUp_64 rfl hl (by decide) rfl (fun ls hl => ?_)
      refine rn_iinc (x := k) (d := 1) (lv' := [(4, .int (nI (k + 1))), (3, .int (nI (ua cf tg x (hd g T x) (T 2 x) w k))), (0, .ref (r 0)), (1, .int (nI x)), (2, .int (nI w))]) hx hb rfl dX10_isUp_65 hl (k := 1) rfl (by decide) rfl (fun ls hl => ?_)
      refine lv_goto (tgt := 9) hx hb dX10_isUp_68 (by decide) ?_
      have hl : lv_has ls 5 [(4, .int (nI (k + 1))), (3, .int (nI (ua cf tg x (hd g T x) (T 2 x) w (k + 1)))), (0, .ref (r 0)), (1, .int (nI x)), (2, .int (nI w))] := lv_re hl 1 ⟨rfl, rfl⟩ (congrArg nI (ua_no (by omega)).symm)
      exact ih9 ((k + 1)) _ _ _ (show cN - (k + 1) < cN - k from by omega) ⟨(show (k + 1) ≤ cN from by omega), hP, hD, hS, lv_sub hl [0, 1, 2, 3, 4] rfl⟩
    · refine lv_aload_n hx hb dX10_isUp_29 rfl (lv_at hl 2 rfl) ?_
      refine va_get (D := D) (ci := 10) (v := .ref (r 23)) (C := RX10) (T := TX10) (N := 34) hx hb hts hinX10 hown hK hP 0 rfl rfl 23 (by decide) (hts (.fieldLink RX10 52 "OneNailModel" "comesAt" "[I") (by decide +kernel)) (fun _ h9 => h9) rfl dX10_isUp_30 ?_
      refine lv_iload hx hb dX10_isUp_33 (lv_at hl 0 rfl) ?_
      refine ra_iald hx hb hK hP 15 0 (n := 400) (f := (a 23)) (j := k) (v := (nI (cf k))) rfl rfl (by omega) (by decide) (hcf (k) (by omega)) dX10_isUp_35 ?_
      refine lv_iload_n hx hb dX10_isUp_36 rfl (lv_at hl 4 rfl) ?_
      refine rn_gt (x := cf k) (y := w) (tgt := 63) hx hb (by omega) (by omega) dX10_isUp_37 (by decide) (fun c_7 => ?_) (fun c_7 => ?_)
      · refine lv_iload_n hx hb dX10_isUp_63 rfl (lv_at hl 1 rfl) ?_
        refine lv_istore_n (lv' := [(3, .int (nI (ua cf tg x (hd g T x) (T 2 x) w k))), (4, .int (nI k)), (0, .ref (r 0)), (1, .int (nI x)), (2, .int (nI w))]) hx hb dX10_isUp_64 rfl hl (by decide) rfl (fun ls hl => ?_)
        refine rn_iinc (x := k) (d := 1) (lv' := [(4, .int (nI (k + 1))), (3, .int (nI (ua cf tg x (hd g T x) (T 2 x) w k))), (0, .ref (r 0)), (1, .int (nI x)), (2, .int (nI w))]) hx hb rfl dX10_isUp_65 hl (k := 1) rfl (by decide) rfl (fun ls hl => ?_)
        refine lv_goto (tgt := 9) hx hb dX10_isUp_68 (by decide) ?_
        have hl : lv_has ls 5 [(4, .int (nI (k + 1))), (3, .int (nI (ua cf tg x (hd g T x) (T 2 x) w (k + 1)))), (0, .ref (r 0)), (1, .int (nI x)), (2, .int (nI w))] := lv_re hl 1 ⟨rfl, rfl⟩ (congrArg nI (ua_no (by omega)).symm)
        exact ih9 ((k + 1)) _ _ _ (show cN - (k + 1) < cN - k from by omega) ⟨(show (k + 1) ≤ cN from by omega), hP, hD, hS, lv_sub hl [0, 1, 2, 3, 4] rfl⟩
      · refine lv_aload_n hx hb dX10_isUp_40 rfl (lv_at hl 2 rfl) ?_
        refine va_get (D := D) (ci := 10) (v := .ref (r 23)) (C := RX10) (T := TX10) (N := 34) hx hb hts hinX10 hown hK hP 0 rfl rfl 23 (by decide) (hts (.fieldLink RX10 52 "OneNailModel" "comesAt" "[I") (by decide +kernel)) (fun _ h9 => h9) rfl dX10_isUp_41 ?_
        refine lv_iload hx hb dX10_isUp_44 (lv_at hl 0 rfl) ?_
        refine ra_iald hx hb hK hP 15 0 (n := 400) (f := (a 23)) (j := k) (v := (nI (cf k))) rfl rfl (by omega) (by decide) (hcf (k) (by omega)) dX10_isUp_46 ?_
        refine lv_aload_n hx hb dX10_isUp_47 rfl (lv_at hl 2 rfl) ?_
        refine va_get (D := D) (ci := 10) (v := .ref (r 10)) (C := RX10) (T := TX10) (N := 34) hx hb hts hinX10 hown hK hP 0 rfl rfl 10 (by decide) (hts (.fieldLink RX10 25 "OneNailModel" "stays" "[I") (by decide +kernel)) (fun _ h9 => h9) rfl dX10_isUp_48 ?_
        refine lv_iload_n hx hb dX10_isUp_51 rfl (lv_at hl 3 rfl) ?_
        refine ra_iald hx hb hK hP 6 0 (n := 6) (f := (a 10)) (j := x) (v := (nI (T 2 x))) rfl rfl (by omega) (by decide) ((hM.2.2.2 (x) (by omega)).2.2.1) dX10_isUp_52 ?_
        refine rn_iadd (x := cf k) (y := T 2 x) hx hb dX10_isUp_53 ?_
        refine lv_aload_n hx hb dX10_isUp_54 rfl (lv_at hl 2 rfl) ?_
        refine lv_iload_n hx hb dX10_isUp_55 rfl (lv_at hl 3 rfl) ?_
        refine wVi e0_S (As := [.int (nI x)]) (rest := [.int (nI ((cf k) + (T 2 x)))]) ⟨hx, hb, hml, hown, hts⟩ (kX10_holds l D cA r _ u a g T x (MT.keep hM rfl rfl rfl rfl rfl rfl rfl rfl) hB (by omega)) (cwV 1 hts gX10_isUp_X10_holds rfl rfl rfl (by decide +kernel) ⟨Nat.le_of_ble_eq_true rfl, Nat.le_of_ble_eq_true rfl⟩) (va_recv hK hP (ci := 10) (q0 := 0) rfl rfl) hK hP hD hS hA hE rfl hl.1 rfl (Nat.le_of_ble_eq_true rfl) dX10_isUp_56 ⟨Nat.zero_le _, Nat.zero_le _⟩ (fun rv_8 z_10 H locs hw_9 hP hD hS => ?_)
        obtain ⟨rfl, rfl⟩ := hw_9
        have hP : va_P D vwCl (xM cA r (u, a)) H := hP
        have hD : va_D A (xM cA r (u, a)) := hD
        refine rn_iadd (x := (cf k) + (T 2 x)) (y := hd g T x) hx hb dX10_isUp_59 ?_
        refine lv_goto (tgt := 64) hx hb dX10_isUp_60 (by decide) ?_
        refine lv_istore_n (lv' := [(3, .int (nI (((cf k) + (T 2 x)) + (hd g T x)))), (4, .int (nI k)), (0, .ref (r 0)), (1, .int (nI x)), (2, .int (nI w))]) hx hb dX10_isUp_64 rfl hl (by decide) rfl (fun ls hl => ?_)
        refine rn_iinc (x := k) (d := 1) (lv' := [(4, .int (nI (k + 1))), (3, .int (nI (((cf k) + (T 2 x)) + (hd g T x)))), (0, .ref (r 0)), (1, .int (nI x)), (2, .int (nI w))]) hx hb rfl dX10_isUp_65 hl (k := 1) rfl (by decide) rfl (fun ls hl => ?_)
        refine lv_goto (tgt := 9) hx hb dX10_isUp_68 (by decide) ?_
        have hl : lv_has ls 5 [(4, .int (nI (k + 1))), (3, .int (nI (ua cf tg x (hd g T x) (T 2 x) w (k + 1)))), (0, .ref (r 0)), (1, .int (nI x)), (2, .int (nI w))] := lv_re hl 1 ⟨rfl, rfl⟩ (congrArg nI (ua_yes ⟨by omega, by omega⟩).symm)
        exact ih9 ((k + 1)) _ _ _ (show cN - (k + 1) < cN - k from by omega) ⟨(show (k + 1) ≤ cN from by omega), hP, hD, hS, lv_sub hl [0, 1, 2, 3, 4] rfl⟩

set_option maxHeartbeats 4000000 in
set_option maxRecDepth 100000 in
theorem kX10_areSo (l : Launch) (D : va_G) (cA : Nat → ClassId) (r : Nat → Nat) (sz : Nat) (u : Nat → Int32) (a : Nat → Nat → Int32) (g : Nat → Nat) (T : Nat → Nat → Nat) (ro : Nat → Nat) (L : Nat) (nr : Nat) (rx rm rb : Nat → Nat) (hM : MT u a g T) (hB : TB g T) (hL : u 22 = nI L) (hL8 : L ≤ 8) (hro : ∀ k, k < L → a 21 k = nI (ro k)) (hrg : ∀ k, k < L → ro k < g 0) (hL0 : 0 < L) (hnr : u 30 = nI nr) (hnr8 : nr ≤ 8) (hrx : ∀ q, q < nr → a 31 q = nI (rx q) ∧ rx q < g 0) (hrm : ∀ q, q < nr → a 32 q = nI (rm q) ∧ rm q < 300) (hrb : ∀ q, q < nr → a 33 q = nI (rb q) ∧ rb q ≤ 1) : Met l yX10_areSo wsX10_areSo ({ frames := 2, cells := 0, slots := 0, locals := 46 } : Room) (va_Pc [.ref (r 0)] (wA D vwCl (tyA cA) e0 (xM cA r) (u, a) sz)) (va_Qi (fun (v : Int32) (z : sM) => ((v = nI 1 ∧ ∀ q, q < nr → (rm q < ua (ct g T ro L) (fun k => ro (k % L)) (rx q) (hd g T (rx q)) (T 2 (rx q)) (rm q) (cnf (ct g T ro L) 300 400) ↔ rb q = 1)) ∨ (v = nI 0 ∧ ¬ ∀ q, q < nr → (rm q < ua (ct g T ro L) (fun k => ro (k % L)) (rx q) (hd g T (rx q)) (T 2 (rx q)) (rm q) (cnf (ct g T ro L) 300 400) ↔ rb q = 1))) ∧ (∀ i, i ≠ 25 → z.1 i = u i) ∧ (∀ i, i ≠ 23 → i ≠ 24 → z.2 i = a i)) (wB D vwCl (tyA cA) (xM cA r) (va_A (xM cA r (u, a)) sz)) (va_A (xM cA r (u, a)) sz)) 0 0 (va_A (xM cA r (u, a)) sz) := by
  refine Met.ofW (cc := cX10_areSo) (maxL := 2) (ret := (some .boolean)) (by decide) rfl ?_
  intro p e s m args below meth c s₁ B hml hv
  obtain ⟨rfl, hsz, hP, hK, hD0, hE⟩ := hv
  have hx := B.exec
  have hb := B.bytes
  have hr := B.returns
  have hts := atoms_spec (ws := wsX10_areSo) B.pre
  have hown : s.vm.findClass RX10 = some m.cls := findClass_of_methodNamed B.named
  have hlocks := B.notSynchronized
  subst hsz
  have hD := hD0.self (sz := s.heap.size)
  generalize hAe : va_A (xM cA r (u, a)) s.heap.size = A at hD hE ⊢
  have hA : ∀ q : Nat, s.heap.size ≤ q → A q := fun q h => by rw [← hAe]; exact Or.inr h
  have hS : va_S A s.heap s.heap [] := va_S.rf
  have hinX10 : ∀ w ∈ u_ws RX10 TX10 34, w ∈ wsX10_areSo := by decide +kernel
  have hl := lv_entry ([.ref (r 0)]) (n := 2) (Nat.le_of_ble_eq_true rfl)
  rw [lg_entry_eq]
  generalize (lg_sl ([.ref (r 0)]) ++ List.replicate (2 - (lg_sl ([.ref (r 0)])).length) Slot.unset).toArray = ls at hl ⊢
  have hl : lv_has ls 2 [(0, .ref (r 0))] := hl
  have hg6 := hB.1
  refine lv_aload_n hx hb dX10_areSo_0 rfl (lv_at hl 0 rfl) ?_
  refine lv_sipush (v := (nI 300)) hx hb dX10_areSo_1 rfl ?_
  refine lv_sipush (v := (nI 400)) hx hb dX10_areSo_4 rfl ?_
  refine wVv e0_S (As := [.int (nI 300), .int (nI 400)]) (rest := []) ⟨hx, hb, hml, hown, hts⟩ (kX10_layComings l D cA r _ u a g T ro L 300 400 hM hB (hL) hL8 (fun k hk => hro (k) hk) hrg (by decide) (by omega)) (cwV 2 hts gX10_areSo_X10_layComings rfl rfl rfl (by decide +kernel) ⟨Nat.le_of_ble_eq_true rfl, Nat.le_of_ble_eq_true rfl⟩) (va_recv hK hP (ci := 10) (q0 := 0) rfl rfl) hK hP hD hS hA hE rfl hl.1 rfl (Nat.le_of_ble_eq_true rfl) dX10_areSo_7 ⟨Nat.zero_le _, Nat.zero_le _⟩ (fun z_3 H locs hw_2 hP hD hS => ?_)
  obtain ⟨zu4, za5⟩ := z_3
  obtain ⟨cN, hLC, hcu_zu4, hc23_zu4, hc24_zu4, hfu_zu4, hfa_zu4⟩ := hw_2
  have hcu_zu4 : zu4 25 = nI cN := hcu_zu4
  have hc23_zu4 : ∀ k, k < cN → za5 23 k = nI (ct g T ro L k) := hc23_zu4
  have hc24_zu4 : ∀ k, k < cN → za5 24 k = nI (ro (k % L)) := hc24_zu4
  have hfu_zu4 : ∀ i, i ≠ 25 → zu4 i = u i := hfu_zu4
  have hfa_zu4 : ∀ i, i ≠ 23 → i ≠ 24 → za5 i = a i := hfa_zu4
  have hP : va_P D vwCl (xM cA r (zu4, za5)) H := hP
  have hD : va_D A (xM cA r (zu4, za5)) := hD
  have hcN := LC_300 hLC hB hrg
  have hce := LC_cnf hLC hB hL0 hrg
  refine lv_iconst (v := (nI 0)) hx hb dX10_areSo_10 rfl ?_
  refine lv_istore_n (lv' := [(1, .int (nI 0)), (0, .ref (r 0))]) hx hb dX10_areSo_11 rfl hl (by decide) rfl (fun ls hl => ?_)
  refine wLoop (τ := Nat) (fun z H locs ls => (fun (q : Nat) => (q ≤ nr) ∧ (∀ q1, q1 < q → (rm q1 < ua (ct g T ro L) (fun k => ro (k % L)) (rx q1) (hd g T (rx q1)) (T 2 (rx q1)) (rm q1) cN ↔ rb q1 = 1)) ∧ (va_P D vwCl (xM cA r (zu4, za5)) H) ∧ (va_D A (xM cA r (zu4, za5))) ∧ (va_S A s.heap H locs) ∧ (lv_has ls 2 [(1, .int (nI q)), (0, .ref (r 0))])) z) (fun z => (fun (q : Nat) => nr - q) z) (0) ⟨(show 0 ≤ nr from Nat.zero_le _), (show ∀ q1, q1 < 0 → (rm q1 < ua (ct g T ro L) (fun k => ro (k % L)) (rx q1) (hd g T (rx q1)) (T 2 (rx q1)) (rm q1) cN ↔ rb q1 = 1) from (fun y h => absurd h (Nat.not_lt_zero y))), hP, hD, hS, lv_sub hl [0, 1] rfl⟩ ?_
  rintro q H locs ls ⟨hq, has, hP, hD, hS, hl⟩ ih12
  have hq : q ≤ nr := hq
  have has : ∀ q1, q1 < q → (rm q1 < ua (ct g T ro L) (fun k => ro (k % L)) (rx q1) (hd g T (rx q1)) (T 2 (rx q1)) (rm q1) cN ↔ rb q1 = 1) := has
  have hP : va_P D vwCl (xM cA r (zu4, za5)) H := hP
  have hD : va_D A (xM cA r (zu4, za5)) := hD
  have hl : lv_has ls 2 [(1, .int (nI q)), (0, .ref (r 0))] := hl
  refine lv_iload_n hx hb dX10_areSo_12 rfl (lv_at hl 0 rfl) ?_
  refine lv_aload_n hx hb dX10_areSo_13 rfl (lv_at hl 1 rfl) ?_
  refine va_get (D := D) (ci := 10) (v := .int (nI nr)) (C := RX10) (T := TX10) (N := 34) hx hb hts hinX10 hown hK hP 0 rfl rfl 30 (by decide) (hts (.fieldLink RX10 126 "OneNailModel" "readings" "I") (by decide +kernel)) (fun _ h9 => h9) (congrArg (fun z => some (Value.int z)) ((hfu_zu4 30 (by decide)).trans (hnr))) dX10_areSo_14 ?_
  refine rn_ge (x := q) (y := nr) (tgt := 53) hx hb (by omega) (by omega) dX10_areSo_17 (by decide) (fun c_6 => ?_) (fun c_6 => ?_)
  · refine lv_iconst (v := (nI 1)) hx hb dX10_areSo_53 rfl ?_
    exact wZret hx hb hr hlocks (v := (nI 1)) (by first | exact Or.inl rfl | exact Or.inr rfl) (zu4, za5) (⟨Or.inl ⟨rfl, fun y hy => by rw [← hce]; exact has y (by omega)⟩, (fun i h25 => hfu_zu4 i h25), (fun i h23 h24 => hfa_zu4 i h23 h24)⟩) hK hP hD hS dX10_areSo_54
  · have hqx := hrx q (by omega)
    have hqm := hrm q (by omega)
    have hqb := hrb q (by omega)
    refine lv_aload_n hx hb dX10_areSo_20 rfl (lv_at hl 1 rfl) ?_
    refine lv_aload_n hx hb dX10_areSo_21 rfl (lv_at hl 1 rfl) ?_
    refine va_get (D := D) (ci := 10) (v := .ref (r 31)) (C := RX10) (T := TX10) (N := 34) hx hb hts hinX10 hown hK hP 0 rfl rfl 31 (by decide) (hts (.fieldLink RX10 71 "OneNailModel" "readThing" "[I") (by decide +kernel)) (fun _ h9 => h9) rfl dX10_areSo_22 ?_
    refine lv_iload_n hx hb dX10_areSo_25 rfl (lv_at hl 0 rfl) ?_
    refine ra_iald hx hb hK hP 21 0 (n := 8) (f := (za5 31)) (j := q) (v := (nI (rx q))) rfl rfl (by omega) (by decide) ((congrFun (hfa_zu4 31 (by decide) (by decide)) (q)).trans ((hrx (q) (by omega)).1)) dX10_areSo_26 ?_
    refine lv_aload_n hx hb dX10_areSo_27 rfl (lv_at hl 1 rfl) ?_
    refine va_get (D := D) (ci := 10) (v := .ref (r 32)) (C := RX10) (T := TX10) (N := 34) hx hb hts hinX10 hown hK hP 0 rfl rfl 32 (by decide) (hts (.fieldLink RX10 74 "OneNailModel" "readMinute" "[I") (by decide +kernel)) (fun _ h9 => h9) rfl dX10_areSo_28 ?_
    refine lv_iload_n hx hb dX10_areSo_31 rfl (lv_at hl 0 rfl) ?_
    refine ra_iald hx hb hK hP 22 0 (n := 8) (f := (za5 32)) (j := q) (v := (nI (rm q))) rfl rfl (by omega) (by decide) ((congrFun (hfa_zu4 32 (by decide) (by decide)) (q)).trans ((hrm (q) (by omega)).1)) dX10_areSo_32 ?_
    refine wVi e0_S (As := [.int (nI (rx q)), .int (nI (rm q))]) (rest := []) ⟨hx, hb, hml, hown, hts⟩ (kX10_isUp l D cA r _ zu4 za5 g T (ct g T ro L) (fun k => ro (k % L)) cN (rx q) (rm q) (MT.keep (MT.keep hM (hfu_zu4 5 (by decide)) (hfu_zu4 6 (by decide)) (hfu_zu4 7 (by decide)) (hfa_zu4 8 (by decide) (by decide)) (hfa_zu4 9 (by decide) (by decide)) (hfa_zu4 10 (by decide) (by decide)) (hfa_zu4 11 (by decide) (by decide)) (hfa_zu4 12 (by decide) (by decide))) rfl rfl rfl rfl rfl rfl rfl rfl) hB (hcu_zu4) (by omega) (fun k hk => hc23_zu4 (k) hk) (fun k hk => hc24_zu4 (k) hk) (fun k hk => by have := ct_le hB hL0 hrg k; omega) (fun k hk => by have := hrg _ (Nat.mod_lt k hL0); omega) (by omega) (by omega)) (cwV 2 hts gX10_areSo_X10_isUp rfl rfl rfl (by decide +kernel) ⟨Nat.le_of_ble_eq_true rfl, Nat.le_of_ble_eq_true rfl⟩) (va_recv hK hP (ci := 10) (q0 := 0) rfl rfl) hK hP hD hS hA hE rfl hl.1 rfl (Nat.le_of_ble_eq_true rfl) dX10_areSo_33 ⟨Nat.zero_le _, Nat.zero_le _⟩ (fun rv_7 z_9 H locs hw_8 hP hD hS => ?_)
    obtain ⟨hz_10, hw_8⟩ := hw_8
    subst hz_10
    have hP : va_P D vwCl (xM cA r (zu4, za5)) H := hP
    have hD : va_D A (xM cA r (zu4, za5)) := hD
    rcases hw_8 with ⟨rfl, b_11⟩ | ⟨rfl, b_11⟩
    · refine lv_aload_n hx hb dX10_areSo_36 rfl (lv_at hl 1 rfl) ?_
      refine va_get (D := D) (ci := 10) (v := .ref (r 33)) (C := RX10) (T := TX10) (N := 34) hx hb hts hinX10 hown hK hP 0 rfl rfl 33 (by decide) (hts (.fieldLink RX10 77 "OneNailModel" "readUp" "[Z") (by decide +kernel)) (fun _ h9 => h9) rfl dX10_areSo_37 ?_
      refine lv_iload_n hx hb dX10_areSo_40 rfl (lv_at hl 0 rfl) ?_
      refine ra_zald hx hb hK hP 23 1 (n := 8) (f := (za5 33)) (j := q) (v := (nI (rb q))) rfl rfl (by omega) (by decide) ((congrFun (hfa_zu4 33 (by decide) (by decide)) (q)).trans ((hrb (q) (by omega)).1)) dX10_areSo_41 ?_
      refine rn_eq (x := 1) (y := rb q) (tgt := 47) hx hb (by omega) (by omega) dX10_areSo_42 (by decide) (fun c_12 => ?_) (fun c_12 => ?_)
      · refine rn_iinc (x := q) (d := 1) (lv' := [(1, .int (nI (q + 1))), (0, .ref (r 0))]) hx hb rfl dX10_areSo_47 hl (k := 0) rfl (by decide) rfl (fun ls hl => ?_)
        refine lv_goto (tgt := 12) hx hb dX10_areSo_50 (by decide) ?_
        exact ih12 ((q + 1)) _ _ _ (show nr - (q + 1) < nr - q from by omega) ⟨(show (q + 1) ≤ nr from by omega), (show ∀ q1, q1 < (q + 1) → (rm q1 < ua (ct g T ro L) (fun k => ro (k % L)) (rx q1) (hd g T (rx q1)) (T 2 (rx q1)) (rm q1) cN ↔ rb q1 = 1) from (lt_s (p := fun q => (rm q < ua (ct g T ro L) (fun k => ro (k % L)) (rx q) (hd g T (rx q)) (T 2 (rx q)) (rm q) cN ↔ rb q = 1)) has (by constructor <;> omega))), hP, hD, hS, lv_sub hl [0, 1] rfl⟩
      · refine lv_iconst (v := (nI 0)) hx hb dX10_areSo_45 rfl ?_
        exact wZret hx hb hr hlocks (v := (nI 0)) (by first | exact Or.inl rfl | exact Or.inr rfl) (zu4, za5) (⟨Or.inr ⟨rfl, fun h => by have := h q (by omega); rw [← hce] at this; omega⟩, (fun i h25 => hfu_zu4 i h25), (fun i h23 h24 => hfa_zu4 i h23 h24)⟩) hK hP hD hS dX10_areSo_46
    · refine lv_aload_n hx hb dX10_areSo_36 rfl (lv_at hl 1 rfl) ?_
      refine va_get (D := D) (ci := 10) (v := .ref (r 33)) (C := RX10) (T := TX10) (N := 34) hx hb hts hinX10 hown hK hP 0 rfl rfl 33 (by decide) (hts (.fieldLink RX10 77 "OneNailModel" "readUp" "[Z") (by decide +kernel)) (fun _ h9 => h9) rfl dX10_areSo_37 ?_
      refine lv_iload_n hx hb dX10_areSo_40 rfl (lv_at hl 0 rfl) ?_
      refine ra_zald hx hb hK hP 23 1 (n := 8) (f := (za5 33)) (j := q) (v := (nI (rb q))) rfl rfl (by omega) (by decide) ((congrFun (hfa_zu4 33 (by decide) (by decide)) (q)).trans ((hrb (q) (by omega)).1)) dX10_areSo_41 ?_
      refine rn_eq (x := 0) (y := rb q) (tgt := 47) hx hb (by omega) (by omega) dX10_areSo_42 (by decide) (fun c_13 => ?_) (fun c_13 => ?_)
      · refine rn_iinc (x := q) (d := 1) (lv' := [(1, .int (nI (q + 1))), (0, .ref (r 0))]) hx hb rfl dX10_areSo_47 hl (k := 0) rfl (by decide) rfl (fun ls hl => ?_)
        refine lv_goto (tgt := 12) hx hb dX10_areSo_50 (by decide) ?_
        exact ih12 ((q + 1)) _ _ _ (show nr - (q + 1) < nr - q from by omega) ⟨(show (q + 1) ≤ nr from by omega), (show ∀ q1, q1 < (q + 1) → (rm q1 < ua (ct g T ro L) (fun k => ro (k % L)) (rx q1) (hd g T (rx q1)) (T 2 (rx q1)) (rm q1) cN ↔ rb q1 = 1) from (lt_s (p := fun q => (rm q < ua (ct g T ro L) (fun k => ro (k % L)) (rx q) (hd g T (rx q)) (T 2 (rx q)) (rm q) cN ↔ rb q = 1)) has (by constructor <;> omega))), hP, hD, hS, lv_sub hl [0, 1] rfl⟩
      · refine lv_iconst (v := (nI 0)) hx hb dX10_areSo_45 rfl ?_
        exact wZret hx hb hr hlocks (v := (nI 0)) (by first | exact Or.inl rfl | exact Or.inr rfl) (zu4, za5) (⟨Or.inr ⟨rfl, fun h => by have := h q (by omega); rw [← hce] at this; omega⟩, (fun i h25 => hfu_zu4 i h25), (fun i h23 h24 => hfa_zu4 i h23 h24)⟩) hK hP hD hS dX10_areSo_46
