theorem po_push {th : Nat → Option Nat} {LP : List Nat} {tf : Nat → va_E} {T : Nat → Nat → Nat} {q x : Nat} {E : va_E} (h : ∀ j, j < x → ∃ q', th j = some q' ∧ q' ∈ LP ∧ tf q' = thE T j) (hq : q ∉ LP) (hE : E = thE T x) : ∀ j, j < x + 1 → ∃ q', va_up th x (some q) j = some q' ∧ q' ∈ LP ++ [q] ∧ va_up tf q E q' = thE T j := fun j hj => by
  rcases Nat.lt_or_ge j x with w | w
  · obtain ⟨q', h1, h2, h3⟩ := h j w
    have hne : q' ≠ q := fun e => hq (by rw [← e]; exact h2)
    exact ⟨q', by rw [vup_ne (by omega)]; exact h1, List.mem_append_left _ h2, by rw [vup_ne hne]; exact h3⟩
  · have e : j = x := by omega
    exact ⟨q, by rw [e, vup_eq], List.mem_append_right _ List.mem_cons_self, by rw [vup_eq, e]; exact hE⟩
theorem st_no {so : Nat → Int32} {ln : Nat → Nat} {ce : Nat → Nat → Int32} {sh lane i n : Int32} (h : ¬ cif (inR sh 0 3) (cif (inR lane 0 2) (rcA (AG so ln sh lane i n)) (-2)) (-1) = 0) : cif (inR sh 0 3) (cif (inR lane 0 2) (rcA (AG so ln sh lane i n)) (-2)) (-1) = aStreet so ln ce sh lane i n ∧ ¬ stOK so ln ce sh lane i n := by
  unfold aStreet
  by_cases h1 : inR sh 0 3
  · rw [cif_pos h1] at h; rw [cif_pos h1, cif_pos h1]
    by_cases h2 : inR lane 0 2
    · rw [cif_pos h2] at h; rw [cif_pos h2, cif_pos h2]
      by_cases h3 : AG so ln sh lane i n = 0
      · exact absurd (by unfold rcA; rw [cif_pos h3]; rfl) h
      · unfold rcA; rw [cif_neg h3, cif_neg h3]; exact ⟨rfl, fun q => h3 q.2.2.1⟩
    · rw [cif_neg h2, cif_neg h2]; exact ⟨rfl, fun q => h2 q.2.1⟩
  · rw [cif_neg h1, cif_neg h1]; exact ⟨rfl, fun q => h1 q.1⟩
set_option maxHeartbeats 4000000 in
set_option maxRecDepth 100000 in
theorem kX9_takeText (l : Launch) (D : va_G) (cA : Nat → ClassId) (r : Nat → Nat) (sz : Nat) (u : Nat → Int32) (a : Nat → Nat → Int32) (th : Nat → Option Nat) (LP : List Nat) (tf : Nat → va_E) (tO : Nat) (g : Nat → Nat) (T : Nat → Nat → Nat) (R : Nat → Nat → Nat) (so : Nat → Int32) (ln : Nat → Nat) (ce : Nat → Nat → Int32) (f tr : Int32) (k9 i0 n0 : Nat) (cd : Nat → Int32) (hI : CI u a th LP tf g T R so ln ce f tr) (hk9 : k9 < 4) (hs9 : ¬ so k9 = -9) (hin : i0 + n0 ≤ ln k9) (hcd : ∀ q, q < n0 → ce k9 (i0 + q) = cd q) (hpass : PASS cd n0) : Met l yX9_takeText wsX9_takeText ({ frames := 5, cells := 6, slots := 30, locals := 125 } : Room) (va_Pc [.ref (r 0), .ref (r (6 + k9)), .int (nI i0), .int (nI n0)] (wA D vwCl (tyA cA) (eO tO) (xN cA r) (u, a, th, LP, tf) sz)) (va_Qv (fun (z : sN) => CI z.1 z.2.1 z.2.2.1 z.2.2.2.1 z.2.2.2.2 (gP cd n0) (TP cd) R so ln ce f tr) (wB D vwCl (tyA cA) (xN cA r) (va_A (xN cA r (u, a, th, LP, tf)) sz)) (va_A (xN cA r (u, a, th, LP, tf)) sz)) 6 30 (va_A (xN cA r (u, a, th, LP, tf)) sz) := by
  refine Met.ofW (cc := cX9_takeText) (maxL := 6) (ret := none) (by decide) rfl ?_
  intro p e s m args below meth c s₁ B hml hv
  obtain ⟨rfl, hsz, hP, hK, hD0, hE⟩ := hv
  have hx := B.exec
  have hb := B.bytes
  have hr := B.returns
  have hts := atoms_spec (ws := wsX9_takeText) B.pre
  have hown : s.vm.findClass RX9 = some m.cls := findClass_of_methodNamed B.named
  have hlocks := B.notSynchronized
  subst hsz
  have hD := hD0.self (sz := s.heap.size)
  generalize hAe : va_A (xN cA r (u, a, th, LP, tf)) s.heap.size = A at hD hE ⊢
  have hA : ∀ q : Nat, s.heap.size ≤ q → A q := fun q h => by rw [← hAe]; exact Or.inr h
  have hS : va_S A s.heap s.heap [] := va_S.rf
  have hinX3 : ∀ w ∈ u_ws RX3 TX3 4, w ∈ wsX9_takeText := by decide +kernel
  have hinX9 : ∀ w ∈ u_ws RX9 TX9 8, w ∈ wsX9_takeText := by decide +kernel
  have hl := lv_entry ([.ref (r 0), .ref (r (6 + k9)), .int (nI i0), .int (nI n0)]) (n := 6) (Nat.le_of_ble_eq_true rfl)
  rw [lg_entry_eq]
  generalize (lg_sl ([.ref (r 0), .ref (r (6 + k9)), .int (nI i0), .int (nI n0)]) ++ List.replicate (6 - (lg_sl ([.ref (r 0), .ref (r (6 + k9)), .int (nI i0), .int (nI n0)])).length) Slot.unset).toArray = ls at hl ⊢
  have hl : lv_has ls 6 [(0, .ref (r 0)), (1, .ref (r (6 + k9))), (2, .int (nI i0)), (3, .int (nI n0))] := hl
  have hSh := hI.2.2.2.2.2.1
  have hf0 := hI.2.2.2.2.2.2.1
  have htr := hI.2.2.2.2.2.2.2.1
  have hsk := hSh k9 hk9
  have hl60 := hsk.2.2.2.1
  have hlnk : u (18 + k9) = nI (ln k9) := hsk.2.2.1.trans (congrArg nI (if_neg hs9))
  have ht6 : ((n0 - 2) / 7) ≤ 6 := (TB_P hpass).1
  have hwh := hpass.2
  have hcda : ∀ q, q < n0 → a (26 + k9) (i0 + q) = cd q := fun q hq => (hsk.2.2.2.2 hs9 _ (by omega)).trans (hcd q hq)
  have hk1s := dgt_vl (GO_1.mp (hpass.1 1 (by omega)).1)
  refine lv_aload_n hx hb dX9_takeText_0 rfl (lv_at hl 0 rfl) ?_
  refine va_get (D := D) (ci := 9) (v := .ref (r 1)) (C := RX9) (T := TX9) (N := 8) hx hb hts hinX9 hown hK hP 0 rfl rfl 0 (by decide) (hts (.fieldLink RX9 12 "OneNail" "town" "LOneNail$Street;") (by decide +kernel)) (fun _ h9 => h9) rfl dX9_takeText_1 ?_
  refine lv_aload_n hx hb dX9_takeText_4 rfl (lv_at hl 1 rfl) ?_
  refine lv_iload_n hx hb dX9_takeText_5 rfl (lv_at hl 2 rfl) ?_
  refine lv_iconst (v := (nI 1)) hx hb dX9_takeText_6 rfl ?_
  refine rn_iadd (x := i0) (y := 1) hx hb dX9_takeText_7 ?_
  refine wVi (eO_S tO) (As := [.int (nI (i0 + 1))]) (rest := [.ref (r 1)]) ⟨hx, hb, hml, hown, hts⟩ (kX4_read l D cA r _ u a th LP tf tO k9 (ln k9) (i0 + 1) hk9 hlnk hl60 (by omega)) (cwV 1 hts gX9_takeText_X4_read rfl rfl rfl (by decide +kernel) ⟨Nat.le_of_ble_eq_true rfl, Nat.le_of_ble_eq_true rfl⟩) (va_recv hK hP (ci := 4) (q0 := (6 + k9)) rfl (WN_o hk9)) hK hP hD hS hA hE rfl hl.1 rfl (Nat.le_of_ble_eq_true rfl) dX9_takeText_8 ⟨Nat.zero_le _, Nat.zero_le _⟩ (fun rv_1 z_3 H locs hw_2 hP hD hS => ?_)
  obtain ⟨rfl, rfl⟩ := hw_2
  have hP : va_P D vwCl (xN cA r (u, a, th, LP, tf)) H := hP
  have hD : va_D A (xN cA r (u, a, th, LP, tf)) := hD
  refine lv_topi (fun y_4 ey_4 => ?_)
  obtain rfl : y_4 = (nI (48 + vl (cd 1))) := ey_4.trans ((hcda 1 (by omega)).trans hk1s.2.2)
  refine lv_bipush (v := (nI 48)) hx hb dX9_takeText_11 rfl ?_
  refine rn_isub (x := 48 + vl (cd 1)) (y := 48) hx hb (by omega) dX9_takeText_13 ?_
  refine lv_topi (fun y_5 ey_5 => ?_)
  obtain rfl : y_5 = (nI (vl (cd 1))) := ey_5.trans (congrArg nI (by omega))
  refine wVv (eO_S tO) (As := [.int (nI (vl (cd 1)))]) (rest := []) ⟨hx, hb, hml, hown, hts⟩ (kX5_empty l D cA r _ u a th LP tf tO (nI (vl (cd 1)))) (cwV 1 hts gX9_takeText_X5_empty rfl rfl rfl (by decide +kernel) ⟨Nat.le_of_ble_eq_true rfl, Nat.le_of_ble_eq_true rfl⟩) (va_recv hK hP (ci := 5) (q0 := 1) rfl rfl) hK hP hD hS hA hE rfl hl.1 rfl (Nat.le_of_ble_eq_true rfl) dX9_takeText_14 ⟨Nat.zero_le _, Nat.zero_le _⟩ (fun z_8 H locs hw_7 hP hD hS => ?_)
  obtain rfl := hw_7
  have hP : va_P D vwCl (xN cA r ((upd (upd u 1 (nI 0)) 2 (nI (vl (cd 1)))), a, th, LP, tf)) H := hP
  have hD : va_D A (xN cA r ((upd (upd u 1 (nI 0)) 2 (nI (vl (cd 1)))), a, th, LP, tf)) := hD
  refine lv_iload_n hx hb dX9_takeText_17 rfl (lv_at hl 3 rfl) ?_
  refine lv_iconst (v := (nI 2)) hx hb dX9_takeText_18 rfl ?_
  refine rn_isub (x := n0) (y := 2) hx hb (by omega) dX9_takeText_19 ?_
  refine lv_bipush (v := (nI 7)) hx hb dX9_takeText_20 rfl ?_
  refine rn_idiv (x := n0 - 2) (y := 7) hx hb (by omega) (by omega) (by omega) dX9_takeText_22 ?_
  refine lv_istore (lv' := [(4, .int (nI ((n0 - 2) / 7))), (0, .ref (r 0)), (1, .ref (r (6 + k9))), (2, .int (nI i0)), (3, .int (nI n0))]) hx hb dX9_takeText_23 hl (by decide) rfl (fun ls hl => ?_)
  refine lv_iconst (v := (nI 0)) hx hb dX9_takeText_25 rfl ?_
  refine lv_istore (lv' := [(5, .int (nI 0)), (4, .int (nI ((n0 - 2) / 7))), (0, .ref (r 0)), (1, .ref (r (6 + k9))), (2, .int (nI i0)), (3, .int (nI n0))]) hx hb dX9_takeText_26 hl (by decide) rfl (fun ls hl => ?_)
  refine W.widen (k := 0) (n := 0) (Nat.le_of_ble_eq_true rfl) (Nat.le_of_ble_eq_true rfl) ?_
  refine wLoopC (τ := Nat × (Nat → Int32) × (Nat → Nat → Int32) × (Nat → Option Nat) × List Nat × (Nat → va_E)) (fun z => z.1) (fun z => 5 * z.1) (fun z H locs ls => (fun (x7 : Nat) (u1028 : (Nat → Int32)) (a1028 : (Nat → Nat → Int32)) (th1 : (Nat → Option Nat)) (LP1 : List Nat) (tf1 : (Nat → va_E)) => (x7 ≤ ((n0 - 2) / 7)) ∧ (u1028 1 = nI x7) ∧ (u1028 2 = nI (vl (cd 1))) ∧ (∀ j9, j9 < x7 → a1028 13 j9 = nI (TP cd 1 j9)) ∧ (∀ j9, j9 < x7 → a1028 14 j9 = nI (TP cd 2 j9)) ∧ (∀ j9, j9 < x7 → a1028 15 j9 = nI (TP cd 4 j9)) ∧ (∀ j9, j9 < x7 → ∃ q9, th1 j9 = some q9 ∧ q9 ∈ LP1 ∧ tf1 q9 = thE (TP cd) j9) ∧ (∀ i9, i9 ≠ 1 → i9 ≠ 2 → u1028 i9 = u i9) ∧ (∀ i9, i9 ≠ 13 → i9 ≠ 14 → i9 ≠ 15 → a1028 i9 = a i9) ∧ (va_P D vwCl (xN cA r (u1028, a1028, th1, LP1, tf1)) H) ∧ (va_D A (xN cA r (u1028, a1028, th1, LP1, tf1))) ∧ (va_S A s.heap H locs) ∧ (lv_has ls 6 [(5, .int (nI x7)), (4, .int (nI ((n0 - 2) / 7))), (0, .ref (r 0)), (1, .ref (r (6 + k9))), (2, .int (nI i0)), (3, .int (nI n0))])) z.1 z.2.1 z.2.2.1 z.2.2.2.1 z.2.2.2.2.1 z.2.2.2.2.2) (fun z => ((n0 - 2) / 7) - z.1) (0, (upd (upd u 1 (nI 0)) 2 (nI (vl (cd 1)))), a, th, LP, tf) ⟨Nat.zero_le _, rfl, rfl, (fun j h => absurd h (Nat.not_lt_zero j)), (fun j h => absurd h (Nat.not_lt_zero j)), (fun j h => absurd h (Nat.not_lt_zero j)), (fun j h => absurd h (Nat.not_lt_zero j)), (fun i h1 h2 => (up_ne h2).trans (up_ne h1)), (fun i h1 h2 h3 => rfl), hP, hD, hS, lv_sub hl [0, 1, 2, 3, 4, 5] rfl⟩ ?_
  rintro ⟨x7, u1028, a1028, th1, LP1, tf1⟩ H locs ls ⟨hx7, hu1, hu2, h13, h14, h15, hpo, hfu28, hfa28, hP, hD, hS, hl⟩ ih28
  have hx7 : x7 ≤ ((n0 - 2) / 7) := hx7
  have hu1 : u1028 1 = nI x7 := hu1
  have hu2 : u1028 2 = nI (vl (cd 1)) := hu2
  have h13 : ∀ j9, j9 < x7 → a1028 13 j9 = nI (TP cd 1 j9) := h13
  have h14 : ∀ j9, j9 < x7 → a1028 14 j9 = nI (TP cd 2 j9) := h14
  have h15 : ∀ j9, j9 < x7 → a1028 15 j9 = nI (TP cd 4 j9) := h15
  have hpo : ∀ j9, j9 < x7 → ∃ q9, th1 j9 = some q9 ∧ q9 ∈ LP1 ∧ tf1 q9 = thE (TP cd) j9 := hpo
  have hfu28 : ∀ i9, i9 ≠ 1 → i9 ≠ 2 → u1028 i9 = u i9 := hfu28
  have hfa28 : ∀ i9, i9 ≠ 13 → i9 ≠ 14 → i9 ≠ 15 → a1028 i9 = a i9 := hfa28
  have hP : va_P D vwCl (xN cA r (u1028, a1028, th1, LP1, tf1)) H := hP
  have hD : va_D A (xN cA r (u1028, a1028, th1, LP1, tf1)) := hD
  have hl : lv_has ls 6 [(5, .int (nI x7)), (4, .int (nI ((n0 - 2) / 7))), (0, .ref (r 0)), (1, .ref (r (6 + k9))), (2, .int (nI i0)), (3, .int (nI n0))] := hl
  have ih28 : ∀ (z' : Nat × (Nat → Int32) × (Nat → Nat → Int32) × (Nat → Option Nat) × List Nat × (Nat → va_E)) (H' : Heap) (locs' : List Loc) (ls' : Array Slot), ((n0 - 2) / 7) - z'.1 < ((n0 - 2) / 7) - x7 → (fun z H locs ls => (fun (x7 : Nat) (u1028 : (Nat → Int32)) (a1028 : (Nat → Nat → Int32)) (th1 : (Nat → Option Nat)) (LP1 : List Nat) (tf1 : (Nat → va_E)) => (x7 ≤ ((n0 - 2) / 7)) ∧ (u1028 1 = nI x7) ∧ (u1028 2 = nI (vl (cd 1))) ∧ (∀ j9, j9 < x7 → a1028 13 j9 = nI (TP cd 1 j9)) ∧ (∀ j9, j9 < x7 → a1028 14 j9 = nI (TP cd 2 j9)) ∧ (∀ j9, j9 < x7 → a1028 15 j9 = nI (TP cd 4 j9)) ∧ (∀ j9, j9 < x7 → ∃ q9, th1 j9 = some q9 ∧ q9 ∈ LP1 ∧ tf1 q9 = thE (TP cd) j9) ∧ (∀ i9, i9 ≠ 1 → i9 ≠ 2 → u1028 i9 = u i9) ∧ (∀ i9, i9 ≠ 13 → i9 ≠ 14 → i9 ≠ 15 → a1028 i9 = a i9) ∧ (va_P D vwCl (xN cA r (u1028, a1028, th1, LP1, tf1)) H) ∧ (va_D A (xN cA r (u1028, a1028, th1, LP1, tf1))) ∧ (va_S A s.heap H locs) ∧ (lv_has ls 6 [(5, .int (nI x7)), (4, .int (nI ((n0 - 2) / 7))), (0, .ref (r 0)), (1, .ref (r (6 + k9))), (2, .int (nI i0)), (3, .int (nI n0))])) z.1 z.2.1 z.2.2.1 z.2.2.2.1 z.2.2.2.2.1 z.2.2.2.2.2) z' H' locs' ls' → W p l e _ s m _ below meth c H' locs' z'.1 (5 * z'.1) _ (F0 m 28 ls' []) := ih28
  refine lv_iload hx hb dX9_takeText_28 (lv_at hl 0 rfl) ?_
  refine lv_iload hx hb dX9_takeText_30 (lv_at hl 1 rfl) ?_
  refine rn_ge (x := x7) (y := (n0 - 2) / 7) (tgt := 63) hx hb (by omega) (by omega) dX9_takeText_32 (by decide) (fun c_9 => ?_) (fun c_9 => ?_)
  · refine W.widen (k := 6) (n := 30) (by omega) (by omega) ?_
    have hxe : x7 = ((n0 - 2) / 7) := by omega
    have hu1g : u1028 1 = nI (gP cd n0 0) := hu1.trans (congrArg nI hxe)
    have hPoN : PoN th1 LP1 tf1 (gP cd n0) (TP cd) := fun x hx => hpo x (by rw [hxe]; exact hx)
    refine lv_aload_n hx hb dX9_takeText_63 rfl (lv_at hl 2 rfl) ?_
    refine va_get (D := D) (ci := 9) (v := .ref (r 1)) (C := RX9) (T := TX9) (N := 8) hx hb hts hinX9 hown hK hP 0 rfl rfl 0 (by decide) (hts (.fieldLink RX9 12 "OneNail" "town" "LOneNail$Street;") (by decide +kernel)) (fun _ h9 => h9) rfl dX9_takeText_64 ?_
    refine lv_iconst (v := (nI 0)) hx hb dX9_takeText_67 rfl ?_
    refine wVv (eO_S tO) (As := [.int (nI 0)]) (rest := []) ⟨hx, hb, hml, hown, hts⟩ (kX5_becomeRusty l D cA r _ u1028 a1028 th1 LP1 tf1 tO (gP cd n0) (TP cd) 0 (hu1g) (TB_P hpass) hPoN (by omega)) (cwV 1 hts gX9_takeText_X5_becomeRusty rfl rfl rfl (by decide +kernel) ⟨Nat.le_of_ble_eq_true rfl, Nat.le_of_ble_eq_true rfl⟩) (va_recv hK hP (ci := 5) (q0 := 1) rfl rfl) hK hP hD hS hA hE rfl hl.1 rfl (Nat.le_of_ble_eq_true rfl) dX9_takeText_68 ⟨Nat.le_of_ble_eq_true rfl, Nat.le_of_ble_eq_true rfl⟩ (fun z_12 H locs hw_11 hP hD hS => ?_)
    obtain ⟨zu13, za14, zq15⟩ := z_12
    obtain ⟨h3_zu13, hho_zu13, hfu_zu13, hfa_zu13, hzq_zu13⟩ := hw_11
    have hzq_zu13 : zq15 = (th1, LP1, tf1) := hzq_zu13
    subst hzq_zu13
    have h3_zu13 : zu13 3 = nI 0 := h3_zu13
    have hho_zu13 : ∀ x, x < (gP cd n0) 0 → za14 16 x = nI (hd (gu (gP cd n0) 2 0) (TP cd) x) := hho_zu13
    have hfu_zu13 : ∀ i, i ≠ 3 → zu13 i = u1028 i := hfu_zu13
    have hfa_zu13 : ∀ i, i ≠ 16 → za14 i = a1028 i := hfa_zu13
    have hP : va_P D vwCl (xN cA r (zu13, za14, th1, LP1, tf1)) H := hP
    have hD : va_D A (xN cA r (zu13, za14, th1, LP1, tf1)) := hD
    refine lv_aload_n hx hb dX9_takeText_71 rfl (lv_at hl 2 rfl) ?_
    refine va_get (D := D) (ci := 9) (v := .ref (r 2)) (C := RX9) (T := TX9) (N := 8) hx hb hts hinX9 hown hK hP 0 rfl rfl 1 (by decide) (hts (.fieldLink RX9 21 "OneNail" "seen" "LOneNail$Readings;") (by decide +kernel)) (fun _ h9 => h9) rfl dX9_takeText_72 ?_
    refine lv_iconst (v := (nI 0)) hx hb dX9_takeText_75 rfl ?_
    refine va_put (D := D) (ci := 3) (v := .int (nI 0)) (ty := .int) (C := RX3) (T := TX3) (N := 4) hx hb hts hinX3 tyX3 tyX3_ok nmX3 hown hK hP hD hS 2 rfl rfl 0 (by decide) (hts (.fieldLink RX9 183 "OneNail$Readings" "count" "I") (by decide +kernel)) (fun _ h9 => h9) rfl (by decide +kernel) rfl rfl (Nat.le_of_ble_eq_true rfl) dX9_takeText_76 (fun H locs hP hD hS => ?_)
    have hP : va_P D vwCl (xN cA r ((upd zu13 4 (nI 0)), za14, th1, LP1, tf1)) H := hP
    have hD : va_D A (xN cA r ((upd zu13 4 (nI 0)), za14, th1, LP1, tf1)) := hD
    refine W.widen (k := 6) (n := 30) (Nat.le_of_ble_eq_true rfl) (Nat.le_of_ble_eq_true rfl) ?_
    exact wVret hx hb hr hlocks ((upd zu13 4 (nI 0)), za14, th1, LP1, tf1) (⟨⟨(hfu_zu13 1 (by decide)).trans hu1g, fun x hx => ⟨(congrFun (hfa_zu13 13 (by decide)) x).trans (h13 x (by rw [hxe]; exact hx)), (congrFun (hfa_zu13 14 (by decide)) x).trans (h14 x (by rw [hxe]; exact hx)), (congrFun (hfa_zu13 15 (by decide)) x).trans (h15 x (by rw [hxe]; exact hx)), (hho_zu13 x hx).trans (congrArg nI rfl)⟩⟩, TB_P hpass, (hfu_zu13 2 (by decide)).trans hu2, h3_zu13, ⟨rfl, Nat.zero_le _, fun q hq => absurd hq (Nat.not_lt_zero q), fun q hq => absurd hq (Nat.not_lt_zero q), fun q hq => absurd hq (Nat.not_lt_zero q)⟩, ShN.keep hSh (fun i hi => (up_ne (by omega)).trans ((hfu_zu13 i (by omega)).trans (hfu28 i (by omega) (by omega)))) (fun i hi => (hfa_zu13 i (by omega)).trans (hfa28 i (by omega) (by omega) (by omega))), (((hfu_zu13 0 (by decide))).trans (hfu28 0 (by decide) (by decide))).trans hf0, (((hfu_zu13 13 (by decide))).trans (hfu28 13 (by decide) (by decide))).trans htr, hPoN⟩) hK hP hD hS dX9_takeText_79
  · have hgl : x7 < ((n0 - 2) / 7) := by omega
    have hkL := (GO_k (x := x7) rfl).mp (hpass.1 (3 + 7 * x7) (by omega)).1
    have hk1 := dgt_vl ((GO_d0 (x := x7) (Or.inl rfl)).mp (hpass.1 (4 + 7 * x7) (by omega)).1)
    have hk2 := dgt_vl ((GO_d1 (x := x7) (Or.inl rfl)).mp (hpass.1 (5 + 7 * x7) (by omega)).1)
    have hk3 := dgt_vl ((GO_d0 (x := x7) (Or.inr (Or.inl rfl))).mp (hpass.1 (6 + 7 * x7) (by omega)).1)
    have hk4 := dgt_vl ((GO_d0 (x := x7) (Or.inr (Or.inr rfl))).mp (hpass.1 (7 + 7 * x7) (by omega)).1)
    have hk5 := dgt_vl ((GO_d1 (x := x7) (Or.inr rfl)).mp (hpass.1 (8 + 7 * x7) (by omega)).1)
    have hca : ∀ q, q < n0 → a1028 (26 + k9) (i0 + q) = cd q := fun q hq => (congrFun (hfa28 (26 + k9) (by omega) (by omega) (by omega)) _).trans (hcda q hq)
    refine lv_aload_n hx hb dX9_takeText_35 rfl (lv_at hl 2 rfl) ?_
    refine va_get (D := D) (ci := 9) (v := .ref (r 1)) (C := RX9) (T := TX9) (N := 8) hx hb hts hinX9 hown hK hP 0 rfl rfl 0 (by decide) (hts (.fieldLink RX9 12 "OneNail" "town" "LOneNail$Street;") (by decide +kernel)) (fun _ h9 => h9) rfl dX9_takeText_36 ?_
    refine lv_aload_n hx hb dX9_takeText_39 rfl (lv_at hl 3 rfl) ?_
    refine lv_iload_n hx hb dX9_takeText_40 rfl (lv_at hl 4 rfl) ?_
    refine lv_iconst (v := (nI 2)) hx hb dX9_takeText_41 rfl ?_
    refine rn_iadd (x := i0) (y := 2) hx hb dX9_takeText_42 ?_
    refine lv_iload hx hb dX9_takeText_43 (lv_at hl 0 rfl) ?_
    refine lv_bipush (v := (nI 7)) hx hb dX9_takeText_45 rfl ?_
    refine rn_imul (x := x7) (y := 7) hx hb dX9_takeText_47 ?_
    refine rn_iadd (x := i0 + 2) (y := x7 * 7) hx hb dX9_takeText_48 ?_
    refine lv_iload hx hb dX9_takeText_49 (lv_at hl 0 rfl) ?_
    refine wTq (eO_S tO) (As := [.ref (r (6 + k9)), .int (nI ((i0 + 2) + (x7 * 7))), .int (nI x7)]) (rest := [.ref (r 1)]) ⟨hx, hb, hml, hown, hts⟩ (kX9_readThing l D cA r _ u1028 a1028 th1 LP1 tf1 tO k9 (ln k9) ((i0 + 2) + (x7 * 7)) x7 (vl (cd (4 + 7 * x7))) (vl (cd (5 + 7 * x7))) (vl (cd (6 + 7 * x7))) (vl (cd (7 + 7 * x7))) (vl (cd (8 + 7 * x7))) (cd (3 + 7 * x7)) hk9 (Eq.trans (hfu28 (18 + k9) (by omega) (by omega)) (hlnk)) hl60 (by omega) (by rw [show (i0 + 2) + (x7 * 7) + 1 = i0 + (3 + 7 * x7) by omega]; exact hca _ (by omega)) hkL (by rw [show (i0 + 2) + (x7 * 7) + 2 = i0 + (4 + 7 * x7) by omega]; exact (hca _ (by omega)).trans hk1.2.2) (by rw [show (i0 + 2) + (x7 * 7) + 3 = i0 + (5 + 7 * x7) by omega]; exact (hca _ (by omega)).trans hk2.2.2) (by rw [show (i0 + 2) + (x7 * 7) + 4 = i0 + (6 + 7 * x7) by omega]; exact (hca _ (by omega)).trans hk3.2.2) (by rw [show (i0 + 2) + (x7 * 7) + 5 = i0 + (7 + 7 * x7) by omega]; exact (hca _ (by omega)).trans hk4.2.2) (by rw [show (i0 + 2) + (x7 * 7) + 6 = i0 + (8 + 7 * x7) by omega]; exact (hca _ (by omega)).trans hk5.2.2) hk1.2.1 hk2.2.1 hk3.2.1 hk4.2.1 hk5.2.1) (va_cwS 3 hts gX9_takeText_X9_readThing rfl rfl rfl (by decide +kernel) ⟨Nat.le_of_ble_eq_true rfl, Nat.le_of_ble_eq_true rfl⟩) hK hP hD hS hA hE rfl hl.1 rfl (Nat.le_of_ble_eq_true rfl) dX9_takeText_51 ⟨by show x7 + 1 ≤ 6; omega, by show 5 * x7 + 5 ≤ 30; omega⟩ (fun rv_16 z_18 H locs hw_17 hP hD hS => ?_)
    obtain ⟨qN, hv9, hqn, hz9⟩ := hw_17
    subst hv9
    obtain ⟨zL, hzL⟩ : ∃ z, z = LP1 ++ [qN] := ⟨_, rfl⟩
    obtain ⟨zf, hzf⟩ : ∃ z, z = va_up tf1 qN (thE (TP cd) x7) := ⟨_, rfl⟩
    have hz9 : z_18 = (u1028, a1028, th1, zL, zf) := by rw [hzL, hzf]; exact hz9
    subst hz9
    have hP : va_P D vwCl (xN cA r (u1028, a1028, th1, zL, zf)) H := hP
    have hD : va_D A (xN cA r (u1028, a1028, th1, zL, zf)) := hD
    have hqin : qN ∈ zL := by rw [hzL]; exact List.mem_append_right _ List.mem_cons_self
    have hqe : zf qN = thE (TP cd) x7 := by rw [hzf, vup_eq]
    have hT0 : TP cd 0 x7 ≤ 2 := ((TB_P hpass).2.2.2 x7 hgl).1
    rcases (show TP cd 0 x7 = 0 ∨ TP cd 0 x7 = 1 ∨ TP cd 0 x7 = 2 by omega) with hkd | hkd | hkd
    · have htf9 : zf qN = .inr (6, [.int (nI x7), .int (nI (TP cd 1 x7)), .int (nI (TP cd 2 x7)), .int (nI (TP cd 3 x7)), .int (nI (TP cd 4 x7))]) := by rw [hqe]; unfold thE kc; rw [hkd]; rfl
      refine wVv (eO_S tO) (As := [.ref (qN)]) (rest := []) ⟨hx, hb, hml, hown, hts⟩ (kX5_addThing_t6 l D cA r _ u1028 a1028 th1 zL zf tO qN x7 (TP cd 1 x7) (TP cd 2 x7) (TP cd 3 x7) (TP cd 4 x7) x7 hqin htf9 hu1 (by omega)) (cwV 1 hts gX9_takeText_X5_addThing2 rfl rfl rfl (by decide +kernel) ⟨Nat.le_of_ble_eq_true rfl, Nat.le_of_ble_eq_true rfl⟩) (va_recv hK hP (ci := 5) (q0 := 1) rfl rfl) hK hP hD hS hA hE rfl hl.1 rfl (Nat.le_of_ble_eq_true rfl) dX9_takeText_54 ⟨by show x7 + 1 + 0 ≤ 6; omega, by show 5 * x7 + 5 + 0 ≤ 30; omega⟩ (fun z_9 H locs hw_9 hP hD hS => ?_)
      obtain rfl := hw_9
      have hP : va_P D vwCl (xN cA r ((upd u1028 1 (nI (x7 + 1))), (va_up (va_up (va_up a1028 13 (upd (a1028 13) x7 (nI (TP cd 1 x7)))) 14 (upd (a1028 14) x7 (nI (TP cd 2 x7)))) 15 (upd (a1028 15) x7 (nI (TP cd 4 x7)))), (va_up th1 x7 (some qN)), zL, zf)) H := hP
      have hD : va_D A (xN cA r ((upd u1028 1 (nI (x7 + 1))), (va_up (va_up (va_up a1028 13 (upd (a1028 13) x7 (nI (TP cd 1 x7)))) 14 (upd (a1028 14) x7 (nI (TP cd 2 x7)))) 15 (upd (a1028 15) x7 (nI (TP cd 4 x7)))), (va_up th1 x7 (some qN)), zL, zf)) := hD
      refine rn_iinc (x := x7) (d := 1) (lv' := [(5, .int (nI (x7 + 1))), (4, .int (nI ((n0 - 2) / 7))), (0, .ref (r 0)), (1, .ref (r (6 + k9))), (2, .int (nI i0)), (3, .int (nI n0))]) hx hb rfl dX9_takeText_57 hl (k := 0) rfl (by decide) rfl (fun ls hl => ?_)
      refine lv_goto (tgt := 28) hx hb dX9_takeText_60 (by decide) ?_
      refine W.widen (k := x7 + 1) (n := 5 * (x7 + 1)) (by omega) (by omega) ?_
      exact ih28 (x7 + 1, (upd u1028 1 (nI (x7 + 1))), (va_up (va_up (va_up a1028 13 (upd (a1028 13) x7 (nI (TP cd 1 x7)))) 14 (upd (a1028 14) x7 (nI (TP cd 2 x7)))) 15 (upd (a1028 15) x7 (nI (TP cd 4 x7)))), (va_up th1 x7 (some qN)), zL, zf) _ _ _ (by show ((n0 - 2) / 7) - (x7 + 1) < ((n0 - 2) / 7) - x7; omega) ⟨(show x7 + 1 ≤ ((n0 - 2) / 7) by omega), rfl, (show upd u1028 1 (nI (x7 + 1)) 2 = nI (vl (cd 1)) from (up_ne (show (2 : Nat) ≠ 1 by decide)).trans hu2), (show ∀ j9, j9 < x7 + 1 → upd (a1028 13) x7 (nI (TP cd 1 x7)) j9 = nI (TP cd 1 j9) from arr_push (F := fun j9 => nI (TP cd 1 j9)) h13 rfl), (show ∀ j9, j9 < x7 + 1 → upd (a1028 14) x7 (nI (TP cd 2 x7)) j9 = nI (TP cd 2 j9) from arr_push (F := fun j9 => nI (TP cd 2 j9)) h14 rfl), (show ∀ j9, j9 < x7 + 1 → upd (a1028 15) x7 (nI (TP cd 4 x7)) j9 = nI (TP cd 4 j9) from arr_push (F := fun j9 => nI (TP cd 4 j9)) h15 rfl), (by show ∀ j9, j9 < x7 + 1 → ∃ q9, (va_up th1 x7 (some qN)) j9 = some q9 ∧ q9 ∈ zL ∧ zf q9 = thE (TP cd) j9; rw [hzL, hzf]; exact po_push hpo hqn rfl), (fun i h1 h2 => (up_ne h1).trans (hfu28 i h1 h2)), (fun i h1 h2 h3 => (vup_ne h3).trans ((vup_ne h2).trans ((vup_ne h1).trans (hfa28 i h1 h2 h3)))), hP, hD, hS, lv_sub hl [0, 1, 2, 3, 4, 5] rfl⟩
    · have htf9 : zf qN = .inr (1, [.int (nI x7), .int (nI (TP cd 1 x7)), .int (nI (TP cd 2 x7)), .int (nI (TP cd 3 x7)), .int (nI (TP cd 4 x7))]) := by rw [hqe]; unfold thE kc; rw [hkd]; rfl
      refine wVv (eO_S tO) (As := [.ref (qN)]) (rest := []) ⟨hx, hb, hml, hown, hts⟩ (kX5_addThing_t1 l D cA r _ u1028 a1028 th1 zL zf tO qN x7 (TP cd 1 x7) (TP cd 2 x7) (TP cd 3 x7) (TP cd 4 x7) x7 hqin htf9 hu1 (by omega)) (cwV 1 hts gX9_takeText_X5_addThing2 rfl rfl rfl (by decide +kernel) ⟨Nat.le_of_ble_eq_true rfl, Nat.le_of_ble_eq_true rfl⟩) (va_recv hK hP (ci := 5) (q0 := 1) rfl rfl) hK hP hD hS hA hE rfl hl.1 rfl (Nat.le_of_ble_eq_true rfl) dX9_takeText_54 ⟨by show x7 + 1 + 0 ≤ 6; omega, by show 5 * x7 + 5 + 0 ≤ 30; omega⟩ (fun z_9 H locs hw_9 hP hD hS => ?_)
      obtain rfl := hw_9
      have hP : va_P D vwCl (xN cA r ((upd u1028 1 (nI (x7 + 1))), (va_up (va_up (va_up a1028 13 (upd (a1028 13) x7 (nI (TP cd 1 x7)))) 14 (upd (a1028 14) x7 (nI (TP cd 2 x7)))) 15 (upd (a1028 15) x7 (nI (TP cd 4 x7)))), (va_up th1 x7 (some qN)), zL, zf)) H := hP
      have hD : va_D A (xN cA r ((upd u1028 1 (nI (x7 + 1))), (va_up (va_up (va_up a1028 13 (upd (a1028 13) x7 (nI (TP cd 1 x7)))) 14 (upd (a1028 14) x7 (nI (TP cd 2 x7)))) 15 (upd (a1028 15) x7 (nI (TP cd 4 x7)))), (va_up th1 x7 (some qN)), zL, zf)) := hD
      refine rn_iinc (x := x7) (d := 1) (lv' := [(5, .int (nI (x7 + 1))), (4, .int (nI ((n0 - 2) / 7))), (0, .ref (r 0)), (1, .ref (r (6 + k9))), (2, .int (nI i0)), (3, .int (nI n0))]) hx hb rfl dX9_takeText_57 hl (k := 0) rfl (by decide) rfl (fun ls hl => ?_)
      refine lv_goto (tgt := 28) hx hb dX9_takeText_60 (by decide) ?_
      refine W.widen (k := x7 + 1) (n := 5 * (x7 + 1)) (by omega) (by omega) ?_
      exact ih28 (x7 + 1, (upd u1028 1 (nI (x7 + 1))), (va_up (va_up (va_up a1028 13 (upd (a1028 13) x7 (nI (TP cd 1 x7)))) 14 (upd (a1028 14) x7 (nI (TP cd 2 x7)))) 15 (upd (a1028 15) x7 (nI (TP cd 4 x7)))), (va_up th1 x7 (some qN)), zL, zf) _ _ _ (by show ((n0 - 2) / 7) - (x7 + 1) < ((n0 - 2) / 7) - x7; omega) ⟨(show x7 + 1 ≤ ((n0 - 2) / 7) by omega), rfl, (show upd u1028 1 (nI (x7 + 1)) 2 = nI (vl (cd 1)) from (up_ne (show (2 : Nat) ≠ 1 by decide)).trans hu2), (show ∀ j9, j9 < x7 + 1 → upd (a1028 13) x7 (nI (TP cd 1 x7)) j9 = nI (TP cd 1 j9) from arr_push (F := fun j9 => nI (TP cd 1 j9)) h13 rfl), (show ∀ j9, j9 < x7 + 1 → upd (a1028 14) x7 (nI (TP cd 2 x7)) j9 = nI (TP cd 2 j9) from arr_push (F := fun j9 => nI (TP cd 2 j9)) h14 rfl), (show ∀ j9, j9 < x7 + 1 → upd (a1028 15) x7 (nI (TP cd 4 x7)) j9 = nI (TP cd 4 j9) from arr_push (F := fun j9 => nI (TP cd 4 j9)) h15 rfl), (by show ∀ j9, j9 < x7 + 1 → ∃ q9, (va_up th1 x7 (some qN)) j9 = some q9 ∧ q9 ∈ zL ∧ zf q9 = thE (TP cd) j9; rw [hzL, hzf]; exact po_push hpo hqn rfl), (fun i h1 h2 => (up_ne h1).trans (hfu28 i h1 h2)), (fun i h1 h2 h3 => (vup_ne h3).trans ((vup_ne h2).trans ((vup_ne h1).trans (hfa28 i h1 h2 h3)))), hP, hD, hS, lv_sub hl [0, 1, 2, 3, 4, 5] rfl⟩
    · have htf9 : zf qN = .inr (0, [.int (nI x7), .int (nI (TP cd 1 x7)), .int (nI (TP cd 2 x7)), .int (nI (TP cd 3 x7)), .int (nI (TP cd 4 x7))]) := by rw [hqe]; unfold thE kc; rw [hkd]; rfl
      refine wVv (eO_S tO) (As := [.ref (qN)]) (rest := []) ⟨hx, hb, hml, hown, hts⟩ (kX5_addThing_t0 l D cA r _ u1028 a1028 th1 zL zf tO qN x7 (TP cd 1 x7) (TP cd 2 x7) (TP cd 3 x7) (TP cd 4 x7) x7 hqin htf9 hu1 (by omega)) (cwV 1 hts gX9_takeText_X5_addThing2 rfl rfl rfl (by decide +kernel) ⟨Nat.le_of_ble_eq_true rfl, Nat.le_of_ble_eq_true rfl⟩) (va_recv hK hP (ci := 5) (q0 := 1) rfl rfl) hK hP hD hS hA hE rfl hl.1 rfl (Nat.le_of_ble_eq_true rfl) dX9_takeText_54 ⟨by show x7 + 1 + 0 ≤ 6; omega, by show 5 * x7 + 5 + 0 ≤ 30; omega⟩ (fun z_9 H locs hw_9 hP hD hS => ?_)
      obtain rfl := hw_9
      have hP : va_P D vwCl (xN cA r ((upd u1028 1 (nI (x7 + 1))), (va_up (va_up (va_up a1028 13 (upd (a1028 13) x7 (nI (TP cd 1 x7)))) 14 (upd (a1028 14) x7 (nI (TP cd 2 x7)))) 15 (upd (a1028 15) x7 (nI (TP cd 4 x7)))), (va_up th1 x7 (some qN)), zL, zf)) H := hP
      have hD : va_D A (xN cA r ((upd u1028 1 (nI (x7 + 1))), (va_up (va_up (va_up a1028 13 (upd (a1028 13) x7 (nI (TP cd 1 x7)))) 14 (upd (a1028 14) x7 (nI (TP cd 2 x7)))) 15 (upd (a1028 15) x7 (nI (TP cd 4 x7)))), (va_up th1 x7 (some qN)), zL, zf)) := hD
      refine rn_iinc (x := x7) (d := 1) (lv' := [(5, .int (nI (x7 + 1))), (4, .int (nI ((n0 - 2) / 7))), (0, .ref (r 0)), (1, .ref (r (6 + k9))), (2, .int (nI i0)), (3, .int (nI n0))]) hx hb rfl dX9_takeText_57 hl (k := 0) rfl (by decide) rfl (fun ls hl => ?_)
      refine lv_goto (tgt := 28) hx hb dX9_takeText_60 (by decide) ?_
      refine W.widen (k := x7 + 1) (n := 5 * (x7 + 1)) (by omega) (by omega) ?_
      exact ih28 (x7 + 1, (upd u1028 1 (nI (x7 + 1))), (va_up (va_up (va_up a1028 13 (upd (a1028 13) x7 (nI (TP cd 1 x7)))) 14 (upd (a1028 14) x7 (nI (TP cd 2 x7)))) 15 (upd (a1028 15) x7 (nI (TP cd 4 x7)))), (va_up th1 x7 (some qN)), zL, zf) _ _ _ (by show ((n0 - 2) / 7) - (x7 + 1) < ((n0 - 2) / 7) - x7; omega) ⟨(show x7 + 1 ≤ ((n0 - 2) / 7) by omega), rfl, (show upd u1028 1 (nI (x7 + 1)) 2 = nI (vl (cd 1)) from (up_ne (show (2 : Nat) ≠ 1 by decide)).trans hu2), (show ∀ j9, j9 < x7 + 1 → upd (a1028 13) x7 (nI (TP cd 1 x7)) j9 = nI (TP cd 1 j9) from arr_push (F := fun j9 => nI (TP cd 1 j9)) h13 rfl), (show ∀ j9, j9 < x7 + 1 → upd (a1028 14) x7 (nI (TP cd 2 x7)) j9 = nI (TP cd 2 j9) from arr_push (F := fun j9 => nI (TP cd 2 j9)) h14 rfl), (show ∀ j9, j9 < x7 + 1 → upd (a1028 15) x7 (nI (TP cd 4 x7)) j9 = nI (TP cd 4 j9) from arr_push (F := fun j9 => nI (TP cd 4 j9)) h15 rfl), (by show ∀ j9, j9 < x7 + 1 → ∃ q9, (va_up th1 x7 (some qN)) j9 = some q9 ∧ q9 ∈ zL ∧ zf q9 = thE (TP cd) j9; rw [hzL, hzf]; exact po_push hpo hqn rfl), (fun i h1 h2 => (up_ne h1).trans (hfu28 i h1 h2)), (fun i h1 h2 h3 => (vup_ne h3).trans ((vup_ne h2).trans ((vup_ne h1).trans (hfa28 i h1 h2 h3)))), hP, hD, hS, lv_sub hl [0, 1, 2, 3, 4, 5] rfl⟩

set_option maxHeartbeats 4000000 in
set_option maxRecDepth 100000 in
theorem kX9_street (l : Launch) (D : va_G) (cA : Nat → ClassId) (r : Nat → Nat) (sz : Nat) (u : Nat → Int32) (a : Nat → Nat → Int32) (th : Nat → Option Nat) (LP : List Nat) (tf : Nat → va_E) (tO : Nat) (g : Nat → Nat) (T : Nat → Nat → Nat) (R : Nat → Nat → Nat) (so : Nat → Int32) (ln : Nat → Nat) (ce : Nat → Nat → Int32) (f tr : Int32) (sh lane i n : Int32) (hI : CI u a th LP tf g T R so ln ce f tr) : Met l yX9_street wsX9_street ({ frames := 6, cells := 6, slots := 30, locals := 150 } : Room) (va_Pc [.ref (r 0), .int sh, .int lane, .int i, .int n] (wA D vwCl (tyA cA) (eO tO) (xN cA r) (u, a, th, LP, tf) sz)) (va_Qi (fun (v : Int32) (z : sN) => v = aStreet so ln ce sh lane i n ∧ CI z.1 z.2.1 z.2.2.1 z.2.2.2.1 z.2.2.2.2 (gStreet g so ln ce sh lane i n) (tStreet T so ln ce sh lane i n) R so ln ce (fStreet so ln sh lane i n) tr) (wB D vwCl (tyA cA) (xN cA r) (va_A (xN cA r (u, a, th, LP, tf)) sz)) (va_A (xN cA r (u, a, th, LP, tf)) sz)) 6 30 (va_A (xN cA r (u, a, th, LP, tf)) sz) := by
  refine Met.ofW (cc := cX9_street) (maxL := 8) (ret := (some .int)) (by decide) rfl ?_
  intro p e s m args below meth c s₁ B hml hv
  obtain ⟨rfl, hsz, hP, hK, hD0, hE⟩ := hv
  have hx := B.exec
  have hb := B.bytes
  have hr := B.returns
  have hts := atoms_spec (ws := wsX9_street) B.pre
  have hown : s.vm.findClass RX9 = some m.cls := findClass_of_methodNamed B.named
  have hlocks := B.notSynchronized
  subst hsz
  have hD := hD0.self (sz := s.heap.size)
  generalize hAe : va_A (xN cA r (u, a, th, LP, tf)) s.heap.size = A at hD hE ⊢
  have hA : ∀ q : Nat, s.heap.size ≤ q → A q := fun q h => by rw [← hAe]; exact Or.inr h
  have hS : va_S A s.heap s.heap [] := va_S.rf
  have hinX5 : ∀ w ∈ u_ws RX5 TX5 8, w ∈ wsX9_street := by decide +kernel
  have hinX9 : ∀ w ∈ u_ws RX9 TX9 8, w ∈ wsX9_street := by decide +kernel
  have hl := lv_entry ([.ref (r 0), .int sh, .int lane, .int i, .int n]) (n := 8) (Nat.le_of_ble_eq_true rfl)
  rw [lg_entry_eq]
  generalize (lg_sl ([.ref (r 0), .int sh, .int lane, .int i, .int n]) ++ List.replicate (8 - (lg_sl ([.ref (r 0), .int sh, .int lane, .int i, .int n])).length) Slot.unset).toArray = ls at hl ⊢
  have hl : lv_has ls 8 [(0, .ref (r 0)), (1, .int sh), (2, .int lane), (3, .int i), (4, .int n)] := hl
  have hM := hI.1
  have hB := hI.2.1
  have hg6 := hB.1
  have hsm := hI.2.2.1
  have hrs := hI.2.2.2.1
  have hRd := hI.2.2.2.2.1
  have hSh := hI.2.2.2.2.2.1
  have hf0 := hI.2.2.2.2.2.2.1
  have htr := hI.2.2.2.2.2.2.2.1
  have hPo := hI.2.2.2.2.2.2.2.2
  refine lv_aload_n hx hb dX9_street_0 rfl (lv_at hl 0 rfl) ?_
  refine lv_iload_n hx hb dX9_street_1 rfl (lv_at hl 1 rfl) ?_
  refine lv_iload_n hx hb dX9_street_2 rfl (lv_at hl 2 rfl) ?_
  refine wSi (As := [.int lane]) (rest := [.int sh, .ref (r 0)]) ⟨hx, hb, hml, hown, hts⟩ (kX9_isLane l lane) (va_cwS 1 hts gX9_street_X9_isLane rfl rfl rfl (by decide +kernel) ⟨Nat.le_of_ble_eq_true rfl, Nat.le_of_ble_eq_true rfl⟩) rfl hl.1 rfl (Nat.le_of_ble_eq_true rfl) dX9_street_3 ⟨Nat.zero_le _, Nat.zero_le _⟩ (fun rv_1 hw_2 => ?_)
  rcases hw_2 with ⟨rfl, b_3⟩ | ⟨rfl, b_3⟩
  · refine lv_iload_n hx hb dX9_street_6 rfl (lv_at hl 2 rfl) ?_
    refine lv_iload_n hx hb dX9_street_7 rfl (lv_at hl 3 rfl) ?_
    refine lv_iload hx hb dX9_street_8 (lv_at hl 4 rfl) ?_
    refine wVi (eO_S tO) (As := [.int sh, .int (nI 1), .int lane, .int i, .int n]) (rest := []) ⟨hx, hb, hml, hown, hts⟩ (kX9_refuseCells l D cA r _ u a th LP tf tO g T R so ln ce f tr sh (nI 1) lane i n (inR lane 0 2) hI (Or.inl ⟨rfl, b_3⟩)) (cwV 5 hts gX9_street_X9_refuseCells rfl rfl rfl (by decide +kernel) ⟨Nat.le_of_ble_eq_true rfl, Nat.le_of_ble_eq_true rfl⟩) (va_recv hK hP (ci := 9) (q0 := 0) rfl rfl) hK hP hD hS hA hE rfl hl.1 rfl (Nat.le_of_ble_eq_true rfl) dX9_street_10 ⟨Nat.zero_le _, Nat.zero_le _⟩ (fun rv_4 z_6 H locs hw_5 hP hD hS => ?_)
    obtain ⟨ff, hff⟩ : ∃ z, z = fRnd so ln (inR sh 0 3) (inR lane 0 2) sh lane i n := ⟨_, rfl⟩
    rw [← hff] at hw_5
    obtain ⟨hrv, rfl⟩ := hw_5
    have hP : va_P D vwCl (xN cA r ((upd u 0 ff), a, th, LP, tf)) H := hP
    have hD : va_D A (xN cA r ((upd u 0 ff), a, th, LP, tf)) := hD
    have hrv : rv_4 = cif (inR sh 0 3) (cif (inR lane 0 2) (rcA (AG so ln sh lane i n)) (-2)) (-1) := hrv
    refine lv_istore (lv' := [(5, .int rv_4), (0, .ref (r 0)), (1, .int sh), (2, .int lane), (3, .int i), (4, .int n)]) hx hb dX9_street_13 hl (by decide) rfl (fun ls hl => ?_)
    refine lv_aload_n hx hb dX9_street_15 rfl (lv_at hl 1 rfl) ?_
    refine lv_iload_n hx hb dX9_street_16 rfl (lv_at hl 2 rfl) ?_
    refine wVq (eO_S tO) (As := [.int sh]) (rest := []) ⟨hx, hb, hml, hown, hts⟩ (kX9_sheetAt l D cA r _ (upd u 0 ff) a th LP tf tO sh) (cwV 1 hts gX9_street_X9_sheetAt rfl rfl rfl (by decide +kernel) ⟨Nat.le_of_ble_eq_true rfl, Nat.le_of_ble_eq_true rfl⟩) (va_recv hK hP (ci := 9) (q0 := 0) rfl rfl) hK hP hD hS hA hE rfl hl.1 rfl (Nat.le_of_ble_eq_true rfl) dX9_street_17 ⟨Nat.zero_le _, Nat.zero_le _⟩ (fun rv_7 z_9 H locs hw_8 hP hD hS => ?_)
    obtain ⟨hz_10, hw_8⟩ := hw_8
    subst hz_10
    have hP : va_P D vwCl (xN cA r ((upd u 0 ff), a, th, LP, tf)) H := hP
    have hD : va_D A (xN cA r ((upd u 0 ff), a, th, LP, tf)) := hD
    rcases hw_8 with ⟨k11, hk12, hxk13, rfl⟩ | ⟨hxk13, rfl⟩
    · have hkc_k11 : sh.toNatClampNeg = k11 := by rw [hxk13]; exact nI_clamp (by omega)
      have hsk_k11 := hSh k11 hk12
      have hlk_k11 := hsk_k11.2.2.2.1
      have hll_k11 : (if so k11 = -9 then 0 else ln k11) ≤ 60 := by split <;> omega
      have hin_k11 : inR sh 0 3 := by rw [hxk13]; exact ⟨nI_pos' (by omega), (nI_leI (by omega) (by decide)).mpr (by omega)⟩
      refine lv_astore (lv' := [(6, .ref (r (6 + k11))), (5, .int rv_4), (0, .ref (r 0)), (1, .int sh), (2, .int lane), (3, .int i), (4, .int n)]) hx hb dX9_street_20 hl (by decide) rfl (fun ls hl => ?_)
      refine lv_iload hx hb dX9_street_22 (lv_at hl 1 rfl) ?_
      refine lv_if_ne (tgt := 32) hx hb dX9_street_24 (by decide) (fun c_14 => ?_) (fun c_14 => ?_)
      · refine lv_iload hx hb dX9_street_32 (lv_at hl 1 rfl) ?_
        refine W.widen (k := 6) (n := 30) (Nat.le_of_ble_eq_true rfl) (Nat.le_of_ble_eq_true rfl) ?_
        exact wIret hx hb hr hlocks (v := rv_4) ((upd u 0 ff), a, th, LP, tf) (⟨hrv.trans (st_no (fun q => c_14 (hrv.trans q))).1, by have hno := (st_no (ce := ce) (fun q => c_14 (hrv.trans q))).2; unfold gStreet tStreet; rw [cif_neg hno, cif_neg hno]; exact (CI.keep hI hff htr (fun i hi9 => up_ne (by omega)) (fun i hi9 => rfl))⟩) hK hP hD hS dX9_street_34
      · refine lv_aload hx hb dX9_street_27 (lv_at hl 0 rfl) ?_
        refine lv_ifnonnull (tgt := 35) hx hb dX9_street_29 (by decide) ?_
        obtain ⟨hC1, hC2, hag⟩ := rr_yes (hrv.symm.trans c_14)
        obtain ⟨i0, n0, hi0, hn0, hin0, hsl, hs9⟩ := ag_ok (hSh sh.toNatClampNeg (by omega)).2.2.2.1 hag
        rw [hkc_k11] at hin0 hsl hs9
        have hic : i.toNatClampNeg = i0 := by rw [hi0]; exact nI_clamp (by omega)
        have hnc : n.toNatClampNeg = n0 := by rw [hn0]; exact nI_clamp (by omega)
        have hl : lv_has ls 8 [(6, .ref (r (6 + k11))), (5, .int rv_4), (0, .ref (r 0)), (1, .int sh), (2, .int lane), (3, .int (nI i0)), (4, .int n)] := lv_re hl 5 ⟨rfl, rfl⟩ (hi0)
        have hl : lv_has ls 8 [(6, .ref (r (6 + k11))), (5, .int rv_4), (0, .ref (r 0)), (1, .int sh), (2, .int lane), (3, .int (nI i0)), (4, .int (nI n0))] := lv_re hl 6 ⟨rfl, rfl⟩ (hn0)
        obtain ⟨cd, hcde⟩ : ∃ z, z = CD ce sh i := ⟨_, rfl⟩
        have hcd : ∀ q, q < n0 → ce k11 (i0 + q) = cd q := fun q hq => by rw [hcde]; unfold CD; rw [hkc_k11, hic]
        have hcda : ∀ q, q < n0 → a (26 + k11) (i0 + q) = cd q := fun q hq => (hsk_k11.2.2.2.2 hs9 _ (by omega)).trans (hcd q hq)
        refine lv_aload hx hb dX9_street_35 (lv_at hl 0 rfl) ?_
        refine lv_iload_n hx hb dX9_street_37 rfl (lv_at hl 5 rfl) ?_
        refine lv_iload hx hb dX9_street_38 (lv_at hl 6 rfl) ?_
        refine wTi (eO_S tO) (As := [.ref (r (6 + k11)), .int (nI i0), .int (nI n0)]) (rest := []) ⟨hx, hb, hml, hown, hts⟩ (kX9_firstFault l D cA r _ (upd u 0 ff) a th LP tf tO k11 (ln k11) i0 n0 cd hk12 (Eq.trans (up_ne (by omega)) ((hsk_k11.2.2.1.trans (congrArg nI (if_neg hs9))))) hlk_k11 (by omega) hcda) (va_cwS 3 hts gX9_street_X9_firstFault rfl rfl rfl (by decide +kernel) ⟨Nat.le_of_ble_eq_true rfl, Nat.le_of_ble_eq_true rfl⟩) hK hP hD hS hA hE rfl hl.1 rfl (Nat.le_of_ble_eq_true rfl) dX9_street_40 ⟨Nat.zero_le _, Nat.zero_le _⟩ (fun rv_15 z_17 H locs hw_16 hP hD hS => ?_)
        obtain ⟨hw_16, rfl⟩ := hw_16
        have hP : va_P D vwCl (xN cA r ((upd u 0 ff), a, th, LP, tf)) H := hP
        have hD : va_D A (xN cA r ((upd u 0 ff), a, th, LP, tf)) := hD
        rcases hw_16 with ⟨rfl, hpass⟩ | ⟨F, rfl, hF, hFn⟩
        · have hpass : PASS cd n0 := hpass
          refine lv_istore (lv' := [(7, .int (-1)), (6, .ref (r (6 + k11))), (5, .int rv_4), (0, .ref (r 0)), (1, .int sh), (2, .int lane), (3, .int (nI i0)), (4, .int (nI n0))]) hx hb dX9_street_43 hl (by decide) rfl (fun ls hl => ?_)
          refine lv_iload hx hb dX9_street_45 (lv_at hl 0 rfl) ?_
          refine lv_if_lt (tgt := 56) hx hb dX9_street_47 (by decide) (fun _ => ?_) (fun c_18 => absurd c_18 (by decide))
          refine lv_aload_n hx hb dX9_street_56 rfl (lv_at hl 3 rfl) ?_
          refine lv_aload hx hb dX9_street_57 (lv_at hl 1 rfl) ?_
          refine lv_iload_n hx hb dX9_street_59 rfl (lv_at hl 6 rfl) ?_
          refine lv_iload hx hb dX9_street_60 (lv_at hl 7 rfl) ?_
          refine wVv (eO_S tO) (As := [.ref (r (6 + k11)), .int (nI i0), .int (nI n0)]) (rest := []) ⟨hx, hb, hml, hown, hts⟩ (kX9_takeText l D cA r _ (upd u 0 ff) a th LP tf tO g T R so ln ce ff tr k11 i0 n0 cd (CI.keep hI rfl htr (fun i hi9 => up_ne (by omega)) (fun i hi9 => rfl)) hk12 hs9 hin0 hcd hpass) (cwV 3 hts gX9_street_X9_takeText rfl rfl rfl (by decide +kernel) ⟨Nat.le_of_ble_eq_true rfl, Nat.le_of_ble_eq_true rfl⟩) (va_recv hK hP (ci := 9) (q0 := 0) rfl rfl) hK hP hD hS hA hE rfl hl.1 rfl (Nat.le_of_ble_eq_true rfl) dX9_street_62 ⟨Nat.le_of_ble_eq_true rfl, Nat.le_of_ble_eq_true rfl⟩ (fun z_21 H locs hw_20 hP hD hS => ?_)
          obtain ⟨zu22, za23, th24, LP25, tf26⟩ := z_21
          have hI9 : CI zu22 za23 th24 LP25 tf26 (gP cd n0) (TP cd) R so ln ce ff tr := hw_20
          have hP : va_P D vwCl (xN cA r (zu22, za23, th24, LP25, tf26)) H := hP
          have hD : va_D A (xN cA r (zu22, za23, th24, LP25, tf26)) := hD
          refine lv_aload_n hx hb dX9_street_65 rfl (lv_at hl 3 rfl) ?_
          refine va_get (D := D) (ci := 9) (v := .ref (r 1)) (C := RX9) (T := TX9) (N := 8) hx hb hts hinX9 hown hK hP 0 rfl rfl 0 (by decide) (hts (.fieldLink RX9 12 "OneNail" "town" "LOneNail$Street;") (by decide +kernel)) (fun _ h9 => h9) rfl dX9_street_66 ?_
          refine va_get (D := D) (ci := 5) (v := .int (nI (gP cd n0 0))) (C := RX5) (T := TX5) (N := 8) hx hb hts hinX5 hown hK hP 1 rfl rfl 0 (by decide) (hts (.fieldLink RX9 83 "OneNail$Street" "count" "I") (by decide +kernel)) (fun _ h9 => h9) (congrArg (fun z => some (Value.int z)) (hI9.1.1)) dX9_street_69 ?_
          refine W.widen (k := 6) (n := 30) (Nat.le_of_ble_eq_true rfl) (Nat.le_of_ble_eq_true rfl) ?_
          exact wIret hx hb hr hlocks (v := (nI (gP cd n0 0))) (zu22, za23, th24, LP25, tf26) (⟨by unfold aStreet; rw [cif_pos hC1, cif_pos hC2, cif_pos hag, hnc, ← hcde, cif_pos hpass]; rfl, by have hok : stOK so ln ce sh lane i n := ⟨hC1, hC2, hag, (by rw [hnc, ← hcde]; exact hpass)⟩; unfold gStreet tStreet; rw [cif_pos hok, cif_pos hok, hnc, ← hcde]; exact (show ff = fStreet so ln sh lane i n from hff) ▸ hI9⟩) hK hP hD hS dX9_street_72
        · have hF : FR cd n0 F := hF
          refine lv_istore (lv' := [(7, .int (nI F)), (6, .ref (r (6 + k11))), (5, .int rv_4), (0, .ref (r 0)), (1, .int sh), (2, .int lane), (3, .int (nI i0)), (4, .int (nI n0))]) hx hb dX9_street_43 hl (by decide) rfl (fun ls hl => ?_)
          refine lv_iload hx hb dX9_street_45 (lv_at hl 0 rfl) ?_
          refine rz_lt (x := F) (tgt := 56) hx hb (by omega) dX9_street_47 (by decide) ?_
          refine lv_bipush (v := (-100)) hx hb dX9_street_50 (by decide) ?_
          refine lv_iload hx hb dX9_street_52 (lv_at hl 0 rfl) ?_
          refine lv_isub hx hb dX9_street_54 ?_
          refine W.widen (k := 6) (n := 30) (Nat.le_of_ble_eq_true rfl) (Nat.le_of_ble_eq_true rfl) ?_
          exact wIret hx hb hr hlocks (v := ((-100) - (nI F))) ((upd u 0 ff), a, th, LP, tf) (⟨by unfold aStreet; rw [cif_pos hC1, cif_pos hC2, cif_pos hag, hnc, ← hcde, cif_neg (FR_np hF), ← FV_eq hF], by have hnp : ¬ PASS (CD ce sh i) n.toNatClampNeg := (by rw [hnc, ← hcde]; exact FR_np hF); unfold gStreet tStreet; rw [cif_neg (fun q => hnp q.2.2.2), cif_neg (fun q => hnp q.2.2.2)]; exact (CI.keep hI hff htr (fun i hi9 => up_ne (by omega)) (fun i hi9 => rfl))⟩) hK hP hD hS dX9_street_55
    · refine lv_astoreN (lv' := [(6, .null), (5, .int rv_4), (0, .ref (r 0)), (1, .int sh), (2, .int lane), (3, .int i), (4, .int n)]) hx hb dX9_street_20 hl (by decide) rfl (fun ls hl => ?_)
      refine lv_iload hx hb dX9_street_22 (lv_at hl 1 rfl) ?_
      refine lv_if_ne (tgt := 32) hx hb dX9_street_24 (by decide) (fun c_28 => ?_) (fun c_28 => ?_)
      · refine lv_iload hx hb dX9_street_32 (lv_at hl 1 rfl) ?_
        refine W.widen (k := 6) (n := 30) (Nat.le_of_ble_eq_true rfl) (Nat.le_of_ble_eq_true rfl) ?_
        exact wIret hx hb hr hlocks (v := rv_4) ((upd u 0 ff), a, th, LP, tf) (⟨hrv.trans (st_no (fun q => c_28 (hrv.trans q))).1, by have hno := (st_no (ce := ce) (fun q => c_28 (hrv.trans q))).2; unfold gStreet tStreet; rw [cif_neg hno, cif_neg hno]; exact (CI.keep hI hff htr (fun i hi9 => up_ne (by omega)) (fun i hi9 => rfl))⟩) hK hP hD hS dX9_street_34
      · refine lv_aloadN hx hb dX9_street_27 (lv_at hl 0 rfl) ?_
        refine lv_ifnonnullN hx hb dX9_street_29 ?_
        refine lv_iload hx hb dX9_street_32 (lv_at hl 1 rfl) ?_
        refine W.widen (k := 6) (n := 30) (Nat.le_of_ble_eq_true rfl) (Nat.le_of_ble_eq_true rfl) ?_
        exact wIret hx hb hr hlocks (v := rv_4) ((upd u 0 ff), a, th, LP, tf) (False.elim (absurd ((hrv.symm.trans c_28).symm.trans (cif_neg hxk13)) (by decide))) hK hP hD hS dX9_street_34
  · refine lv_iload_n hx hb dX9_street_6 rfl (lv_at hl 2 rfl) ?_
    refine lv_iload_n hx hb dX9_street_7 rfl (lv_at hl 3 rfl) ?_
    refine lv_iload hx hb dX9_street_8 (lv_at hl 4 rfl) ?_
    refine wVi (eO_S tO) (As := [.int sh, .int (nI 0), .int lane, .int i, .int n]) (rest := []) ⟨hx, hb, hml, hown, hts⟩ (kX9_refuseCells l D cA r _ u a th LP tf tO g T R so ln ce f tr sh (nI 0) lane i n (inR lane 0 2) hI (Or.inr ⟨rfl, b_3⟩)) (cwV 5 hts gX9_street_X9_refuseCells rfl rfl rfl (by decide +kernel) ⟨Nat.le_of_ble_eq_true rfl, Nat.le_of_ble_eq_true rfl⟩) (va_recv hK hP (ci := 9) (q0 := 0) rfl rfl) hK hP hD hS hA hE rfl hl.1 rfl (Nat.le_of_ble_eq_true rfl) dX9_street_10 ⟨Nat.zero_le _, Nat.zero_le _⟩ (fun rv_29 z_31 H locs hw_30 hP hD hS => ?_)
    obtain ⟨ff, hff⟩ : ∃ z, z = fRnd so ln (inR sh 0 3) (inR lane 0 2) sh lane i n := ⟨_, rfl⟩
    rw [← hff] at hw_30
    obtain ⟨hrv, rfl⟩ := hw_30
    have hP : va_P D vwCl (xN cA r ((upd u 0 ff), a, th, LP, tf)) H := hP
    have hD : va_D A (xN cA r ((upd u 0 ff), a, th, LP, tf)) := hD
    have hrv : rv_29 = cif (inR sh 0 3) (cif (inR lane 0 2) (rcA (AG so ln sh lane i n)) (-2)) (-1) := hrv
    refine lv_istore (lv' := [(5, .int rv_29), (0, .ref (r 0)), (1, .int sh), (2, .int lane), (3, .int i), (4, .int n)]) hx hb dX9_street_13 hl (by decide) rfl (fun ls hl => ?_)
    refine lv_aload_n hx hb dX9_street_15 rfl (lv_at hl 1 rfl) ?_
    refine lv_iload_n hx hb dX9_street_16 rfl (lv_at hl 2 rfl) ?_
    refine wVq (eO_S tO) (As := [.int sh]) (rest := []) ⟨hx, hb, hml, hown, hts⟩ (kX9_sheetAt l D cA r _ (upd u 0 ff) a th LP tf tO sh) (cwV 1 hts gX9_street_X9_sheetAt rfl rfl rfl (by decide +kernel) ⟨Nat.le_of_ble_eq_true rfl, Nat.le_of_ble_eq_true rfl⟩) (va_recv hK hP (ci := 9) (q0 := 0) rfl rfl) hK hP hD hS hA hE rfl hl.1 rfl (Nat.le_of_ble_eq_true rfl) dX9_street_17 ⟨Nat.zero_le _, Nat.zero_le _⟩ (fun rv_32 z_34 H locs hw_33 hP hD hS => ?_)
    obtain ⟨hz_35, hw_33⟩ := hw_33
    subst hz_35
    have hP : va_P D vwCl (xN cA r ((upd u 0 ff), a, th, LP, tf)) H := hP
    have hD : va_D A (xN cA r ((upd u 0 ff), a, th, LP, tf)) := hD
    rcases hw_33 with ⟨k36, hk37, hxk38, rfl⟩ | ⟨hxk38, rfl⟩
    · have hkc_k36 : sh.toNatClampNeg = k36 := by rw [hxk38]; exact nI_clamp (by omega)
      have hsk_k36 := hSh k36 hk37
      have hlk_k36 := hsk_k36.2.2.2.1
      have hll_k36 : (if so k36 = -9 then 0 else ln k36) ≤ 60 := by split <;> omega
      have hin_k36 : inR sh 0 3 := by rw [hxk38]; exact ⟨nI_pos' (by omega), (nI_leI (by omega) (by decide)).mpr (by omega)⟩
      refine lv_astore (lv' := [(6, .ref (r (6 + k36))), (5, .int rv_29), (0, .ref (r 0)), (1, .int sh), (2, .int lane), (3, .int i), (4, .int n)]) hx hb dX9_street_20 hl (by decide) rfl (fun ls hl => ?_)
      refine lv_iload hx hb dX9_street_22 (lv_at hl 1 rfl) ?_
      refine lv_if_ne (tgt := 32) hx hb dX9_street_24 (by decide) (fun c_39 => ?_) (fun c_39 => ?_)
      · refine lv_iload hx hb dX9_street_32 (lv_at hl 1 rfl) ?_
        refine W.widen (k := 6) (n := 30) (Nat.le_of_ble_eq_true rfl) (Nat.le_of_ble_eq_true rfl) ?_
        exact wIret hx hb hr hlocks (v := rv_29) ((upd u 0 ff), a, th, LP, tf) (⟨hrv.trans (st_no (fun q => c_39 (hrv.trans q))).1, by have hno := (st_no (ce := ce) (fun q => c_39 (hrv.trans q))).2; unfold gStreet tStreet; rw [cif_neg hno, cif_neg hno]; exact (CI.keep hI hff htr (fun i hi9 => up_ne (by omega)) (fun i hi9 => rfl))⟩) hK hP hD hS dX9_street_34
      · refine lv_aload hx hb dX9_street_27 (lv_at hl 0 rfl) ?_
        refine lv_ifnonnull (tgt := 35) hx hb dX9_street_29 (by decide) ?_
        obtain ⟨hC1, hC2, hag⟩ := rr_yes (hrv.symm.trans c_39)
        obtain ⟨i0, n0, hi0, hn0, hin0, hsl, hs9⟩ := ag_ok (hSh sh.toNatClampNeg (by omega)).2.2.2.1 hag
        rw [hkc_k36] at hin0 hsl hs9
        have hic : i.toNatClampNeg = i0 := by rw [hi0]; exact nI_clamp (by omega)
        have hnc : n.toNatClampNeg = n0 := by rw [hn0]; exact nI_clamp (by omega)
        have hl : lv_has ls 8 [(6, .ref (r (6 + k36))), (5, .int rv_29), (0, .ref (r 0)), (1, .int sh), (2, .int lane), (3, .int (nI i0)), (4, .int n)] := lv_re hl 5 ⟨rfl, rfl⟩ (hi0)
        have hl : lv_has ls 8 [(6, .ref (r (6 + k36))), (5, .int rv_29), (0, .ref (r 0)), (1, .int sh), (2, .int lane), (3, .int (nI i0)), (4, .int (nI n0))] := lv_re hl 6 ⟨rfl, rfl⟩ (hn0)
        obtain ⟨cd, hcde⟩ : ∃ z, z = CD ce sh i := ⟨_, rfl⟩
        have hcd : ∀ q, q < n0 → ce k36 (i0 + q) = cd q := fun q hq => by rw [hcde]; unfold CD; rw [hkc_k36, hic]
        have hcda : ∀ q, q < n0 → a (26 + k36) (i0 + q) = cd q := fun q hq => (hsk_k36.2.2.2.2 hs9 _ (by omega)).trans (hcd q hq)
        refine lv_aload hx hb dX9_street_35 (lv_at hl 0 rfl) ?_
        refine lv_iload_n hx hb dX9_street_37 rfl (lv_at hl 5 rfl) ?_
        refine lv_iload hx hb dX9_street_38 (lv_at hl 6 rfl) ?_
        refine wTi (eO_S tO) (As := [.ref (r (6 + k36)), .int (nI i0), .int (nI n0)]) (rest := []) ⟨hx, hb, hml, hown, hts⟩ (kX9_firstFault l D cA r _ (upd u 0 ff) a th LP tf tO k36 (ln k36) i0 n0 cd hk37 (Eq.trans (up_ne (by omega)) ((hsk_k36.2.2.1.trans (congrArg nI (if_neg hs9))))) hlk_k36 (by omega) hcda) (va_cwS 3 hts gX9_street_X9_firstFault rfl rfl rfl (by decide +kernel) ⟨Nat.le_of_ble_eq_true rfl, Nat.le_of_ble_eq_true rfl⟩) hK hP hD hS hA hE rfl hl.1 rfl (Nat.le_of_ble_eq_true rfl) dX9_street_40 ⟨Nat.zero_le _, Nat.zero_le _⟩ (fun rv_40 z_42 H locs hw_41 hP hD hS => ?_)
        obtain ⟨hw_41, rfl⟩ := hw_41
        have hP : va_P D vwCl (xN cA r ((upd u 0 ff), a, th, LP, tf)) H := hP
        have hD : va_D A (xN cA r ((upd u 0 ff), a, th, LP, tf)) := hD
        rcases hw_41 with ⟨rfl, hpass⟩ | ⟨F, rfl, hF, hFn⟩
        · have hpass : PASS cd n0 := hpass
          refine lv_istore (lv' := [(7, .int (-1)), (6, .ref (r (6 + k36))), (5, .int rv_29), (0, .ref (r 0)), (1, .int sh), (2, .int lane), (3, .int (nI i0)), (4, .int (nI n0))]) hx hb dX9_street_43 hl (by decide) rfl (fun ls hl => ?_)
          refine lv_iload hx hb dX9_street_45 (lv_at hl 0 rfl) ?_
          refine lv_if_lt (tgt := 56) hx hb dX9_street_47 (by decide) (fun _ => ?_) (fun c_43 => absurd c_43 (by decide))
          refine lv_aload_n hx hb dX9_street_56 rfl (lv_at hl 3 rfl) ?_
          refine lv_aload hx hb dX9_street_57 (lv_at hl 1 rfl) ?_
          refine lv_iload_n hx hb dX9_street_59 rfl (lv_at hl 6 rfl) ?_
          refine lv_iload hx hb dX9_street_60 (lv_at hl 7 rfl) ?_
          refine wVv (eO_S tO) (As := [.ref (r (6 + k36)), .int (nI i0), .int (nI n0)]) (rest := []) ⟨hx, hb, hml, hown, hts⟩ (kX9_takeText l D cA r _ (upd u 0 ff) a th LP tf tO g T R so ln ce ff tr k36 i0 n0 cd (CI.keep hI rfl htr (fun i hi9 => up_ne (by omega)) (fun i hi9 => rfl)) hk37 hs9 hin0 hcd hpass) (cwV 3 hts gX9_street_X9_takeText rfl rfl rfl (by decide +kernel) ⟨Nat.le_of_ble_eq_true rfl, Nat.le_of_ble_eq_true rfl⟩) (va_recv hK hP (ci := 9) (q0 := 0) rfl rfl) hK hP hD hS hA hE rfl hl.1 rfl (Nat.le_of_ble_eq_true rfl) dX9_street_62 ⟨Nat.le_of_ble_eq_true rfl, Nat.le_of_ble_eq_true rfl⟩ (fun z_46 H locs hw_45 hP hD hS => ?_)
          obtain ⟨zu47, za48, th49, LP50, tf51⟩ := z_46
          have hI9 : CI zu47 za48 th49 LP50 tf51 (gP cd n0) (TP cd) R so ln ce ff tr := hw_45
          have hP : va_P D vwCl (xN cA r (zu47, za48, th49, LP50, tf51)) H := hP
          have hD : va_D A (xN cA r (zu47, za48, th49, LP50, tf51)) := hD
          refine lv_aload_n hx hb dX9_street_65 rfl (lv_at hl 3 rfl) ?_
          refine va_get (D := D) (ci := 9) (v := .ref (r 1)) (C := RX9) (T := TX9) (N := 8) hx hb hts hinX9 hown hK hP 0 rfl rfl 0 (by decide) (hts (.fieldLink RX9 12 "OneNail" "town" "LOneNail$Street;") (by decide +kernel)) (fun _ h9 => h9) rfl dX9_street_66 ?_
          refine va_get (D := D) (ci := 5) (v := .int (nI (gP cd n0 0))) (C := RX5) (T := TX5) (N := 8) hx hb hts hinX5 hown hK hP 1 rfl rfl 0 (by decide) (hts (.fieldLink RX9 83 "OneNail$Street" "count" "I") (by decide +kernel)) (fun _ h9 => h9) (congrArg (fun z => some (Value.int z)) (hI9.1.1)) dX9_street_69 ?_
          refine W.widen (k := 6) (n := 30) (Nat.le_of_ble_eq_true rfl) (Nat.le_of_ble_eq_true rfl) ?_
          exact wIret hx hb hr hlocks (v := (nI (gP cd n0 0))) (zu47, za48, th49, LP50, tf51) (⟨by unfold aStreet; rw [cif_pos hC1, cif_pos hC2, cif_pos hag, hnc, ← hcde, cif_pos hpass]; rfl, by have hok : stOK so ln ce sh lane i n := ⟨hC1, hC2, hag, (by rw [hnc, ← hcde]; exact hpass)⟩; unfold gStreet tStreet; rw [cif_pos hok, cif_pos hok, hnc, ← hcde]; exact (show ff = fStreet so ln sh lane i n from hff) ▸ hI9⟩) hK hP hD hS dX9_street_72
        · have hF : FR cd n0 F := hF
          refine lv_istore (lv' := [(7, .int (nI F)), (6, .ref (r (6 + k36))), (5, .int rv_29), (0, .ref (r 0)), (1, .int sh), (2, .int lane), (3, .int (nI i0)), (4, .int (nI n0))]) hx hb dX9_street_43 hl (by decide) rfl (fun ls hl => ?_)
          refine lv_iload hx hb dX9_street_45 (lv_at hl 0 rfl) ?_
          refine rz_lt (x := F) (tgt := 56) hx hb (by omega) dX9_street_47 (by decide) ?_
          refine lv_bipush (v := (-100)) hx hb dX9_street_50 (by decide) ?_
          refine lv_iload hx hb dX9_street_52 (lv_at hl 0 rfl) ?_
          refine lv_isub hx hb dX9_street_54 ?_
          refine W.widen (k := 6) (n := 30) (Nat.le_of_ble_eq_true rfl) (Nat.le_of_ble_eq_true rfl) ?_
          exact wIret hx hb hr hlocks (v := ((-100) - (nI F))) ((upd u 0 ff), a, th, LP, tf) (⟨by unfold aStreet; rw [cif_pos hC1, cif_pos hC2, cif_pos hag, hnc, ← hcde, cif_neg (FR_np hF), ← FV_eq hF], by have hnp : ¬ PASS (CD ce sh i) n.toNatClampNeg := (by rw [hnc, ← hcde]; exact FR_np hF); unfold gStreet tStreet; rw [cif_neg (fun q => hnp q.2.2.2), cif_neg (fun q => hnp q.2.2.2)]; exact (CI.keep hI hff htr (fun i hi9 => up_ne (by omega)) (fun i hi9 => rfl))⟩) hK hP hD hS dX9_street_55
    · refine lv_astoreN (lv' := [(6, .null), (5, .int rv_29), (0, .ref (r 0)), (1, .int sh), (2, .int lane), (3, .int i), (4, .int n)]) hx hb dX9_street_20 hl (by decide) rfl (fun ls hl => ?_)
      refine lv_iload hx hb dX9_street_22 (lv_at hl 1 rfl) ?_
      refine lv_if_ne (tgt := 32) hx hb dX9_street_24 (by decide) (fun c_53 => ?_) (fun c_53 => ?_)
      · refine lv_iload hx hb dX9_street_32 (lv_at hl 1 rfl) ?_
        refine W.widen (k := 6) (n := 30) (Nat.le_of_ble_eq_true rfl) (Nat.le_of_ble_eq_true rfl) ?_
        exact wIret hx hb hr hlocks (v := rv_29) ((upd u 0 ff), a, th, LP, tf) (⟨hrv.trans (st_no (fun q => c_53 (hrv.trans q))).1, by have hno := (st_no (ce := ce) (fun q => c_53 (hrv.trans q))).2; unfold gStreet tStreet; rw [cif_neg hno, cif_neg hno]; exact (CI.keep hI hff htr (fun i hi9 => up_ne (by omega)) (fun i hi9 => rfl))⟩) hK hP hD hS dX9_street_34
      · refine lv_aloadN hx hb dX9_street_27 (lv_at hl 0 rfl) ?_
        refine lv_ifnonnullN hx hb dX9_street_29 ?_
        refine lv_iload hx hb dX9_street_32 (lv_at hl 1 rfl) ?_
        refine W.widen (k := 6) (n := 30) (Nat.le_of_ble_eq_true rfl) (Nat.le_of_ble_eq_true rfl) ?_
        exact wIret hx hb hr hlocks (v := rv_29) ((upd u 0 ff), a, th, LP, tf) (False.elim (absurd ((hrv.symm.trans c_53).symm.trans (cif_neg hxk38)) (by decide))) hK hP hD hS dX9_street_34
