theorem OK_cq (g : Nat → Nat) (T : Nat → Nat → Nat) (s : Nat) : OK g T s ↔ 0 < cq (pS g T (ol (2 ^ g 0 - 1 - s) (g 0)) (2 ^ g 0 - 1 - s)) (ol (2 ^ g 0 - 1 - s) (g 0)) (fct (ol (2 ^ g 0 - 1 - s) (g 0)) - 1) (f1c (2 ^ g 0 - 1 - s) (g 0)) :=
  an_cq (P := fun n9 => sf g T (dg n9) (ol (2 ^ g 0 - 1 - s) (g 0)) (2 ^ g 0 - 1 - s)) (p := pS g T (ol (2 ^ g 0 - 1 - s) (g 0)) (2 ^ g 0 - 1 - s)) (fun N h => cif_pos h) (fun N h => cif_neg h) _ _ _
theorem all_bi {n : Nat} (h : n ≤ 6) : ∀ x, x < n → bi (2 ^ n - 1) x = 1 := by
  have key : ∀ n, n ≤ 6 → ∀ x, x < n → bi (2 ^ n - 1) x = 1 := by decide +kernel
  exact key n h
theorem cfF_le {g : Nat → Nat} (h : g 0 ≤ 6) (T R : Nat → Nat → Nat) : cfF g T R ≤ 720 := by
  have h1 := cq_le (pF_le g T (ol (2 ^ g 0 - 1) (g 0)) (g 3) (R 0) (R 1) (R 2)) (ol (2 ^ g 0 - 1) (g 0)) (fct (ol (2 ^ g 0 - 1) (g 0)) - 1) (f1c (2 ^ g 0 - 1) (g 0))
  have h2 := fct_le (ol (2 ^ g 0 - 1) (g 0))
  unfold cfF; omega
set_option maxHeartbeats 4000000 in
set_option maxRecDepth 100000 in
theorem kX9_best (l : Launch) (D : va_G) (cA : Nat → ClassId) (r : Nat → Nat) (sz : Nat) (u : Nat → Int32) (a : Nat → Nat → Int32) (th : Nat → Option Nat) (LP : List Nat) (tf : Nat → va_E) (tO : Nat) (g : Nat → Nat) (T : Nat → Nat → Nat) (R : Nat → Nat → Nat) (so : Nat → Int32) (ln : Nat → Nat) (ce : Nat → Nat → Int32) (f tr : Int32) (t q : Int32) (hI : CI u a th LP tf g T R so ln ce f tr) : Met l yX9_best wsX9_best ({ frames := 3, cells := 0, slots := 0, locals := 77 } : Room) (va_Pc [.ref (r 0), .int t, .int q] (wA D vwCl (tyA cA) (eO tO) (xN cA r) (u, a, th, LP, tf) sz)) (va_Qi (fun (v : Int32) (z : sN) => v = aBest g T t q ∧ CI z.1 z.2.1 z.2.2.1 z.2.2.2.1 z.2.2.2.2 g T R so ln ce f tr) (wB D vwCl (tyA cA) (xN cA r) (va_A (xN cA r (u, a, th, LP, tf)) sz)) (va_A (xN cA r (u, a, th, LP, tf)) sz)) 0 0 (va_A (xN cA r (u, a, th, LP, tf)) sz) := by
  refine Met.ofW (cc := cX9_best) (maxL := 4) (ret := (some .int)) (by decide) rfl ?_
  intro p e s m args below meth c s₁ B hml hv
  obtain ⟨rfl, hsz, hP, hK, hD0, hE⟩ := hv
  have hx := B.exec
  have hb := B.bytes
  have hr := B.returns
  have hts := atoms_spec (ws := wsX9_best) B.pre
  have hown : s.vm.findClass RX9 = some m.cls := findClass_of_methodNamed B.named
  have hlocks := B.notSynchronized
  subst hsz
  have hD := hD0.self (sz := s.heap.size)
  generalize hAe : va_A (xN cA r (u, a, th, LP, tf)) s.heap.size = A at hD hE ⊢
  have hA : ∀ q : Nat, s.heap.size ≤ q → A q := fun q h => by rw [← hAe]; exact Or.inr h
  have hS : va_S A s.heap s.heap [] := va_S.rf
  have hinX5 : ∀ w ∈ u_ws RX5 TX5 8, w ∈ wsX9_best := by decide +kernel
  have hinX9 : ∀ w ∈ u_ws RX9 TX9 8, w ∈ wsX9_best := by decide +kernel
  have hl := lv_entry ([.ref (r 0), .int t, .int q]) (n := 4) (Nat.le_of_ble_eq_true rfl)
  rw [lg_entry_eq]
  generalize (lg_sl ([.ref (r 0), .int t, .int q]) ++ List.replicate (4 - (lg_sl ([.ref (r 0), .int t, .int q])).length) Slot.unset).toArray = ls at hl ⊢
  have hl : lv_has ls 4 [(0, .ref (r 0)), (1, .int t), (2, .int q)] := hl
  have hM := hI.1
  have hB := hI.2.1
  have hg6 := hB.1
  have hsm := hI.2.2.1
  have hrs := hI.2.2.2.1
  have hRd := hI.2.2.2.2.1
  have hSh := hI.2.2.2.2.2.1
  have hf0 := hI.2.2.2.2.2.2.1
  have htr := hI.2.2.2.2.2.2.2.1
  have hPo := hI.2.2.2.2.2.2.2.2
  refine lv_aload_n hx hb dX9_best_0 rfl (lv_at hl 0 rfl) ?_
  refine va_get (D := D) (ci := 9) (v := .ref (r 1)) (C := RX9) (T := TX9) (N := 8) hx hb hts hinX9 hown hK hP 0 rfl rfl 0 (by decide) (hts (.fieldLink RX9 12 "OneNail" "town" "LOneNail$Street;") (by decide +kernel)) (fun _ h9 => h9) rfl dX9_best_1 ?_
  refine va_get (D := D) (ci := 5) (v := .int (nI (g 0))) (C := RX5) (T := TX5) (N := 8) hx hb hts hinX5 hown hK hP 1 rfl rfl 0 (by decide) (hts (.fieldLink RX9 83 "OneNail$Street" "count" "I") (by decide +kernel)) (fun _ h9 => h9) (congrArg (fun z => some (Value.int z)) (hM.1)) dX9_best_4 ?_
  refine rz_ne (x := g 0) (tgt := 13) hx hb (by omega) dX9_best_7 (by decide) (fun c_1 => ?_) (fun c_1 => ?_)
  · refine lv_iload_n hx hb dX9_best_13 rfl (lv_at hl 1 rfl) ?_
    refine wSi (As := [.int t]) (rest := []) ⟨hx, hb, hml, hown, hts⟩ (kX9_isSpan l t) (va_cwS 1 hts gX9_best_X9_isSpan rfl rfl rfl (by decide +kernel) ⟨Nat.le_of_ble_eq_true rfl, Nat.le_of_ble_eq_true rfl⟩) rfl hl.1 rfl (Nat.le_of_ble_eq_true rfl) dX9_best_14 ⟨Nat.zero_le _, Nat.zero_le _⟩ (fun rv_2 hw_3 => ?_)
    rcases hw_3 with ⟨rfl, b_4⟩ | ⟨rfl, b_4⟩
    · obtain ⟨t0, ht1, ht2, ht3, ht4⟩ := inR_of (show inR t 1 300 from b_4) (by decide) (by decide)
      have hl : lv_has ls 4 [(0, .ref (r 0)), (1, .int (nI t0)), (2, .int q)] := lv_re hl 1 ⟨rfl, rfl⟩ (ht1)
      refine lv_if_ne (tgt := 23) hx hb dX9_best_17 (by decide) (fun _ => ?_) (fun c_5 => absurd c_5 (by decide))
      refine lv_iload_n hx hb dX9_best_23 rfl (lv_at hl 2 rfl) ?_
      refine lv_iconst (v := (-1)) hx hb dX9_best_24 (by decide) ?_
      refine lv_icmp_lt (tgt := 39) hx hb dX9_best_25 (by decide) (fun c_6 => ?_) (fun c_6 => ?_)
      · refine lv_iconst (v := (-1)) hx hb dX9_best_39 (by decide) ?_
        exact wIret hx hb hr hlocks (v := (-1)) (u, a, th, LP, tf) (⟨by unfold aBest; rw [cif_neg (by omega), cif_pos b_4, cif_neg (fun w => ((m1_lt (by omega) hg6).mp w).1 c_6)], hI⟩) hK hP hD hS dX9_best_40
      · refine lv_iload_n hx hb dX9_best_28 rfl (lv_at hl 2 rfl) ?_
        refine lv_aload_n hx hb dX9_best_29 rfl (lv_at hl 0 rfl) ?_
        refine va_get (D := D) (ci := 9) (v := .ref (r 1)) (C := RX9) (T := TX9) (N := 8) hx hb hts hinX9 hown hK hP 0 rfl rfl 0 (by decide) (hts (.fieldLink RX9 12 "OneNail" "town" "LOneNail$Street;") (by decide +kernel)) (fun _ h9 => h9) rfl dX9_best_30 ?_
        refine va_get (D := D) (ci := 5) (v := .int (nI (g 0))) (C := RX5) (T := TX5) (N := 8) hx hb hts hinX5 hown hK hP 1 rfl rfl 0 (by decide) (hts (.fieldLink RX9 83 "OneNail$Street" "count" "I") (by decide +kernel)) (fun _ h9 => h9) (congrArg (fun z => some (Value.int z)) (hM.1)) dX9_best_33 ?_
        refine lv_icmp_lt (tgt := 41) hx hb dX9_best_36 (by decide) (fun c_7 => ?_) (fun c_7 => ?_)
        · have hbq : (-1) ≤ q ∧ q ≤ nI (g 0 - 1) := (m1_lt (by omega) hg6).mpr ⟨c_6, c_7⟩
          refine lv_aload_n hx hb dX9_best_41 rfl (lv_at hl 0 rfl) ?_
          refine va_get (D := D) (ci := 9) (v := .ref (r 4)) (C := RX9) (T := TX9) (N := 8) hx hb hts hinX9 hown hK hP 0 rfl rfl 3 (by decide) (hts (.fieldLink RX9 37 "OneNail" "orders" "LOneNail$Orders;") (by decide +kernel)) (fun _ h9 => h9) rfl dX9_best_42 ?_
          refine lv_aload_n hx hb dX9_best_45 rfl (lv_at hl 0 rfl) ?_
          refine va_get (D := D) (ci := 9) (v := .ref (r 1)) (C := RX9) (T := TX9) (N := 8) hx hb hts hinX9 hown hK hP 0 rfl rfl 0 (by decide) (hts (.fieldLink RX9 12 "OneNail" "town" "LOneNail$Street;") (by decide +kernel)) (fun _ h9 => h9) rfl dX9_best_46 ?_
          refine wVi (eO_S tO) (As := []) (rest := [.ref (r 4)]) ⟨hx, hb, hml, hown, hts⟩ (kX5_all l D cA r _ u a th LP tf tO g T hM hB) (cwV 0 hts gX9_best_X5_all rfl rfl rfl (by decide +kernel) ⟨Nat.le_of_ble_eq_true rfl, Nat.le_of_ble_eq_true rfl⟩) (va_recv hK hP (ci := 5) (q0 := 1) rfl rfl) hK hP hD hS hA hE rfl hl.1 rfl (Nat.le_of_ble_eq_true rfl) dX9_best_49 ⟨Nat.zero_le _, Nat.zero_le _⟩ (fun rv_8 z_10 H locs hw_9 hP hD hS => ?_)
          obtain ⟨rfl, rfl⟩ := hw_9
          have hP : va_P D vwCl (xN cA r (u, a, th, LP, tf)) H := hP
          have hD : va_D A (xN cA r (u, a, th, LP, tf)) := hD
          refine lv_aload_n hx hb dX9_best_52 rfl (lv_at hl 0 rfl) ?_
          refine va_get (D := D) (ci := 9) (v := .ref (r 1)) (C := RX9) (T := TX9) (N := 8) hx hb hts hinX9 hown hK hP 0 rfl rfl 0 (by decide) (hts (.fieldLink RX9 12 "OneNail" "town" "LOneNail$Street;") (by decide +kernel)) (fun _ h9 => h9) rfl dX9_best_53 ?_
          refine va_get (D := D) (ci := 5) (v := .int (nI (g 1))) (C := RX5) (T := TX5) (N := 8) hx hb hts hinX5 hown hK hP 1 rfl rfl 1 (by decide) (hts (.fieldLink RX9 115 "OneNail$Street" "smithyPlace" "I") (by decide +kernel)) (fun _ h9 => h9) (congrArg (fun z => some (Value.int z)) (hsm)) dX9_best_56 ?_
          refine lv_iload_n hx hb dX9_best_59 rfl (lv_at hl 1 rfl) ?_
          refine wVi (eO_S tO) (As := [.int (nI (2 ^ g 0 - 1)), .int (nI (g 1)), .int (nI t0)]) (rest := []) ⟨hx, hb, hml, hown, hts⟩ (kX2_leastHarm l D cA r _ u a th LP tf tO g T (2 ^ g 0 - 1) t0 hM hB (by omega) (all_lt _) (ol (2 ^ g 0 - 1) (g 0)) rfl) (cwV 3 hts gX9_best_X2_leastHarm rfl rfl rfl (by decide +kernel) ⟨Nat.le_of_ble_eq_true rfl, Nat.le_of_ble_eq_true rfl⟩) (va_recv hK hP (ci := 2) (q0 := 4) rfl rfl) hK hP hD hS hA hE rfl hl.1 rfl (Nat.le_of_ble_eq_true rfl) dX9_best_60 ⟨Nat.zero_le _, Nat.zero_le _⟩ (fun rv_11 z_13 H locs hw_12 hP hD hS => ?_)
          obtain ⟨zu14, za15, zq16⟩ := z_13
          obtain ⟨rfl, hbr_zu14, hu11_zu14, hfu_zu14, hfa_zu14, hzq_zu14⟩ := hw_12
          have hzq_zu14 : zq16 = (th, LP, tf) := hzq_zu14
          subst hzq_zu14
          have hbr_zu14 : ∀ i, i < ol (2 ^ g 0 - 1) (g 0) → za15 25 i = nI (dg (BF g T (2 ^ g 0 - 1) t0).2 i) := hbr_zu14
          have hu11_zu14 : zu14 11 = nI (ol (2 ^ g 0 - 1) (g 0)) := hu11_zu14
          have hfu_zu14 : ∀ i, i ≠ 11 → i ≠ 12 → zu14 i = u i := hfu_zu14
          have hfa_zu14 : ∀ i, i ≠ 23 → i ≠ 24 → i ≠ 25 → za15 i = a i := hfa_zu14
          have hP : va_P D vwCl (xN cA r (zu14, za15, th, LP, tf)) H := hP
          have hD : va_D A (xN cA r (zu14, za15, th, LP, tf)) := hD
          refine lv_istore_n (lv' := [(3, .int (nI ((BF g T (2 ^ g 0 - 1) t0).1))), (0, .ref (r 0)), (1, .int (nI t0)), (2, .int q)]) hx hb dX9_best_63 rfl hl (by decide) rfl (fun ls hl => ?_)
          refine lv_iload_n hx hb dX9_best_64 rfl (lv_at hl 3 rfl) ?_
          refine lv_iconst (v := (-1)) hx hb dX9_best_65 (by decide) ?_
          refine lv_icmp_ne (tgt := 73) hx hb dX9_best_66 (by decide) (fun c_17 => ?_) (fun c_17 => ?_)
          · obtain ⟨q0, hq01, hq02⟩ := nI_of (m1_of hbq.1 c_17)
            have hq4c : q.toNatClampNeg = q0 := by rw [hq02]; exact nI_clamp hq01
            have hq0g : q0 ≤ g 0 - 1 := (nI_leI hq01 (by omega)).mp (hq02 ▸ hbq.2)
            have hl : lv_has ls 4 [(3, .int (nI ((BF g T (2 ^ g 0 - 1) t0).1))), (0, .ref (r 0)), (1, .int (nI t0)), (2, .int (nI q0))] := lv_re hl 3 ⟨rfl, rfl⟩ (hq02)
            refine lv_aload_n hx hb dX9_best_73 rfl (lv_at hl 1 rfl) ?_
            refine va_get (D := D) (ci := 9) (v := .ref (r 4)) (C := RX9) (T := TX9) (N := 8) hx hb hts hinX9 hown hK hP 0 rfl rfl 3 (by decide) (hts (.fieldLink RX9 37 "OneNail" "orders" "LOneNail$Orders;") (by decide +kernel)) (fun _ h9 => h9) rfl dX9_best_74 ?_
            refine lv_iload_n hx hb dX9_best_77 rfl (lv_at hl 3 rfl) ?_
            refine wVi (eO_S tO) (As := [.int (nI q0)]) (rest := []) ⟨hx, hb, hml, hown, hts⟩ (kX2_keptAt l D cA r _ zu14 za15 th LP tf tO q0 (ol (2 ^ g 0 - 1) (g 0)) (hu11_zu14) (by have := ol_le (2 ^ g 0 - 1) (g 0); omega) (by rw [ol_all _ hg6]; omega)) (cwV 1 hts gX9_best_X2_keptAt rfl rfl rfl (by decide +kernel) ⟨Nat.le_of_ble_eq_true rfl, Nat.le_of_ble_eq_true rfl⟩) (va_recv hK hP (ci := 2) (q0 := 4) rfl rfl) hK hP hD hS hA hE rfl hl.1 rfl (Nat.le_of_ble_eq_true rfl) dX9_best_78 ⟨Nat.zero_le _, Nat.zero_le _⟩ (fun rv_18 z_20 H locs hw_19 hP hD hS => ?_)
            obtain ⟨rfl, rfl⟩ := hw_19
            have hP : va_P D vwCl (xN cA r (zu14, za15, th, LP, tf)) H := hP
            have hD : va_D A (xN cA r (zu14, za15, th, LP, tf)) := hD
            exact wIret hx hb hr hlocks (v := ((za15 25) q0)) (zu14, za15, th, LP, tf) (⟨by unfold aBest; rw [cif_neg (by omega), cif_pos b_4, cif_pos hbq, cif_neg c_17, ht4, hq4c]; exact hbr_zu14 q0 (by rw [ol_all _ hg6]; omega), (CI.keep hI ((hfu_zu14 0 (by decide) (by decide)).trans hf0) ((hfu_zu14 13 (by decide) (by decide)).trans htr) (fun i hi9 => hfu_zu14 i (by omega) (by omega)) (fun i hi9 => hfa_zu14 i (by omega) (by omega) (by omega)))⟩) hK hP hD hS dX9_best_81
          · refine lv_iload_n hx hb dX9_best_69 rfl (lv_at hl 0 rfl) ?_
            refine lv_goto (tgt := 81) hx hb dX9_best_70 (by decide) ?_
            exact wIret hx hb hr hlocks (v := (nI ((BF g T (2 ^ g 0 - 1) t0).1))) (zu14, za15, th, LP, tf) (⟨by unfold aBest; rw [cif_neg (by omega), cif_pos b_4, cif_pos hbq, cif_pos c_17, ht4], (CI.keep hI ((hfu_zu14 0 (by decide) (by decide)).trans hf0) ((hfu_zu14 13 (by decide) (by decide)).trans htr) (fun i hi9 => hfu_zu14 i (by omega) (by omega)) (fun i hi9 => hfa_zu14 i (by omega) (by omega) (by omega)))⟩) hK hP hD hS dX9_best_81
        · refine lv_iconst (v := (-1)) hx hb dX9_best_39 (by decide) ?_
          exact wIret hx hb hr hlocks (v := (-1)) (u, a, th, LP, tf) (⟨by unfold aBest; rw [cif_neg (by omega), cif_pos b_4, cif_neg (fun w => c_7 ((m1_lt (by omega) hg6).mp w).2)], hI⟩) hK hP hD hS dX9_best_40
    · refine lv_if_ne (tgt := 23) hx hb dX9_best_17 (by decide) (fun c_21 => absurd c_21 (by decide)) (fun _ => ?_)
      refine lv_bipush (v := (-2)) hx hb dX9_best_20 (by decide) ?_
      exact wIret hx hb hr hlocks (v := (-2)) (u, a, th, LP, tf) (⟨by unfold aBest; rw [cif_neg (by omega), cif_neg b_4], hI⟩) hK hP hD hS dX9_best_22
  · refine lv_bipush (v := (-3)) hx hb dX9_best_10 (by decide) ?_
    exact wIret hx hb hr hlocks (v := (-3)) (u, a, th, LP, tf) (⟨by unfold aBest; rw [cif_pos (by omega)], hI⟩) hK hP hD hS dX9_best_12

set_option maxHeartbeats 4000000 in
set_option maxRecDepth 100000 in
theorem kX9_safe (l : Launch) (D : va_G) (cA : Nat → ClassId) (r : Nat → Nat) (sz : Nat) (u : Nat → Int32) (a : Nat → Nat → Int32) (th : Nat → Option Nat) (LP : List Nat) (tf : Nat → va_E) (tO : Nat) (g : Nat → Nat) (T : Nat → Nat → Nat) (R : Nat → Nat → Nat) (so : Nat → Int32) (ln : Nat → Nat) (ce : Nat → Nat → Int32) (f tr : Int32)  (hI : CI u a th LP tf g T R so ln ce f tr) : Met l yX9_safe wsX9_safe ({ frames := 3, cells := 0, slots := 0, locals := 75 } : Room) (va_Pc [.ref (r 0)] (wA D vwCl (tyA cA) (eO tO) (xN cA r) (u, a, th, LP, tf) sz)) (va_Qi (fun (v : Int32) (z : sN) => v = aSafe g T ∧ CI z.1 z.2.1 z.2.2.1 z.2.2.2.1 z.2.2.2.2 g T R so ln ce f tr) (wB D vwCl (tyA cA) (xN cA r) (va_A (xN cA r (u, a, th, LP, tf)) sz)) (va_A (xN cA r (u, a, th, LP, tf)) sz)) 0 0 (va_A (xN cA r (u, a, th, LP, tf)) sz) := by
  refine Met.ofW (cc := cX9_safe) (maxL := 1) (ret := (some .int)) (by decide) rfl ?_
  intro p e s m args below meth c s₁ B hml hv
  obtain ⟨rfl, hsz, hP, hK, hD0, hE⟩ := hv
  have hx := B.exec
  have hb := B.bytes
  have hr := B.returns
  have hts := atoms_spec (ws := wsX9_safe) B.pre
  have hown : s.vm.findClass RX9 = some m.cls := findClass_of_methodNamed B.named
  have hlocks := B.notSynchronized
  subst hsz
  have hD := hD0.self (sz := s.heap.size)
  generalize hAe : va_A (xN cA r (u, a, th, LP, tf)) s.heap.size = A at hD hE ⊢
  have hA : ∀ q : Nat, s.heap.size ≤ q → A q := fun q h => by rw [← hAe]; exact Or.inr h
  have hS : va_S A s.heap s.heap [] := va_S.rf
  have hinX5 : ∀ w ∈ u_ws RX5 TX5 8, w ∈ wsX9_safe := by decide +kernel
  have hinX9 : ∀ w ∈ u_ws RX9 TX9 8, w ∈ wsX9_safe := by decide +kernel
  have hl := lv_entry ([.ref (r 0)]) (n := 1) (Nat.le_of_ble_eq_true rfl)
  rw [lg_entry_eq]
  generalize (lg_sl ([.ref (r 0)]) ++ List.replicate (1 - (lg_sl ([.ref (r 0)])).length) Slot.unset).toArray = ls at hl ⊢
  have hl : lv_has ls 1 [(0, .ref (r 0))] := hl
  have hM := hI.1
  have hB := hI.2.1
  have hg6 := hB.1
  have hsm := hI.2.2.1
  have hrs := hI.2.2.2.1
  have hRd := hI.2.2.2.2.1
  have hSh := hI.2.2.2.2.2.1
  have hf0 := hI.2.2.2.2.2.2.1
  have htr := hI.2.2.2.2.2.2.2.1
  have hPo := hI.2.2.2.2.2.2.2.2
  refine lv_aload_n hx hb dX9_safe_0 rfl (lv_at hl 0 rfl) ?_
  refine va_get (D := D) (ci := 9) (v := .ref (r 1)) (C := RX9) (T := TX9) (N := 8) hx hb hts hinX9 hown hK hP 0 rfl rfl 0 (by decide) (hts (.fieldLink RX9 12 "OneNail" "town" "LOneNail$Street;") (by decide +kernel)) (fun _ h9 => h9) rfl dX9_safe_1 ?_
  refine va_get (D := D) (ci := 5) (v := .int (nI (g 0))) (C := RX5) (T := TX5) (N := 8) hx hb hts hinX5 hown hK hP 1 rfl rfl 0 (by decide) (hts (.fieldLink RX9 83 "OneNail$Street" "count" "I") (by decide +kernel)) (fun _ h9 => h9) (congrArg (fun z => some (Value.int z)) (hM.1)) dX9_safe_4 ?_
  refine rz_ne (x := g 0) (tgt := 13) hx hb (by omega) dX9_safe_7 (by decide) (fun c_1 => ?_) (fun c_1 => ?_)
  · refine lv_aload_n hx hb dX9_safe_13 rfl (lv_at hl 0 rfl) ?_
    refine va_get (D := D) (ci := 9) (v := .ref (r 4)) (C := RX9) (T := TX9) (N := 8) hx hb hts hinX9 hown hK hP 0 rfl rfl 3 (by decide) (hts (.fieldLink RX9 37 "OneNail" "orders" "LOneNail$Orders;") (by decide +kernel)) (fun _ h9 => h9) rfl dX9_safe_14 ?_
    refine lv_aload_n hx hb dX9_safe_17 rfl (lv_at hl 0 rfl) ?_
    refine va_get (D := D) (ci := 9) (v := .ref (r 1)) (C := RX9) (T := TX9) (N := 8) hx hb hts hinX9 hown hK hP 0 rfl rfl 0 (by decide) (hts (.fieldLink RX9 12 "OneNail" "town" "LOneNail$Street;") (by decide +kernel)) (fun _ h9 => h9) rfl dX9_safe_18 ?_
    refine wVi (eO_S tO) (As := []) (rest := [.ref (r 4)]) ⟨hx, hb, hml, hown, hts⟩ (kX5_all l D cA r _ u a th LP tf tO g T hM hB) (cwV 0 hts gX9_safe_X5_all rfl rfl rfl (by decide +kernel) ⟨Nat.le_of_ble_eq_true rfl, Nat.le_of_ble_eq_true rfl⟩) (va_recv hK hP (ci := 5) (q0 := 1) rfl rfl) hK hP hD hS hA hE rfl hl.1 rfl (Nat.le_of_ble_eq_true rfl) dX9_safe_21 ⟨Nat.zero_le _, Nat.zero_le _⟩ (fun rv_2 z_4 H locs hw_3 hP hD hS => ?_)
    obtain ⟨rfl, rfl⟩ := hw_3
    have hP : va_P D vwCl (xN cA r (u, a, th, LP, tf)) H := hP
    have hD : va_D A (xN cA r (u, a, th, LP, tf)) := hD
    refine lv_ldc (v := 1000000) hx hb hown (hts (.constant RX9 160 (1000000)) (by decide +kernel)) dX9_safe_24 ?_
    refine wVi (eO_S tO) (As := [.int (nI (2 ^ g 0 - 1)), .int (nI 1000000)]) (rest := []) ⟨hx, hb, hml, hown, hts⟩ (kX2_countSafe l D cA r _ u a th LP tf tO g T (2 ^ g 0 - 1) 1000000 hM hB (hsm) (by decide) (all_lt _) (ol (2 ^ g 0 - 1) (g 0)) rfl) (cwV 2 hts gX9_safe_X2_countSafe rfl rfl rfl (by decide +kernel) ⟨Nat.le_of_ble_eq_true rfl, Nat.le_of_ble_eq_true rfl⟩) (va_recv hK hP (ci := 2) (q0 := 4) rfl rfl) hK hP hD hS hA hE rfl hl.1 rfl (Nat.le_of_ble_eq_true rfl) dX9_safe_26 ⟨Nat.zero_le _, Nat.zero_le _⟩ (fun rv_5 z_7 H locs hw_6 hP hD hS => ?_)
    obtain ⟨sP, rfl, hsPb, hsP, hw_6⟩ := hw_6
    have hsP : sP = (cq (pS g T (ol (2 ^ g 0 - 1) (g 0)) (2 ^ g 0 - 1)) (ol (2 ^ g 0 - 1) (g 0)) (fct (ol (2 ^ g 0 - 1) (g 0)) - 1) (f1c (2 ^ g 0 - 1) (g 0))) ∨ (1000000 ≤ sP ∧ 1000000 ≤ (cq (pS g T (ol (2 ^ g 0 - 1) (g 0)) (2 ^ g 0 - 1)) (ol (2 ^ g 0 - 1) (g 0)) (fct (ol (2 ^ g 0 - 1) (g 0)) - 1) (f1c (2 ^ g 0 - 1) (g 0)))) := hsP
    obtain ⟨zu8, za9, zq10⟩ := z_7
    obtain ⟨hu11_zu8, hfu_zu8, hfa_zu8, hzq_zu8⟩ := hw_6
    have hzq_zu8 : zq10 = (th, LP, tf) := hzq_zu8
    subst hzq_zu8
    have hu11_zu8 : zu8 11 = nI (ol (2 ^ g 0 - 1) (g 0)) := hu11_zu8
    have hfu_zu8 : ∀ i, i ≠ 11 → i ≠ 12 → zu8 i = u i := hfu_zu8
    have hfa_zu8 : ∀ i, i ≠ 23 → i ≠ 24 → za9 i = a i := hfa_zu8
    have hP : va_P D vwCl (xN cA r (zu8, za9, th, LP, tf)) H := hP
    have hD : va_D A (xN cA r (zu8, za9, th, LP, tf)) := hD
    exact wIret hx hb hr hlocks (v := (nI sP)) (zu8, za9, th, LP, tf) (⟨by unfold aSafe CS; rw [cif_neg (by omega)]; exact congrArg nI (by omega), (CI.keep hI ((hfu_zu8 0 (by decide) (by decide)).trans hf0) ((hfu_zu8 13 (by decide) (by decide)).trans htr) (fun i hi9 => hfu_zu8 i (by omega) (by omega)) (fun i hi9 => hfa_zu8 i (by omega) (by omega)))⟩) hK hP hD hS dX9_safe_29
  · refine lv_bipush (v := (-3)) hx hb dX9_safe_10 (by decide) ?_
    exact wIret hx hb hr hlocks (v := (-3)) (u, a, th, LP, tf) (⟨by unfold aSafe; rw [cif_pos (by omega)], hI⟩) hK hP hD hS dX9_safe_12

set_option maxHeartbeats 4000000 in
set_option maxRecDepth 100000 in
theorem kX9_letGo (l : Launch) (D : va_G) (cA : Nat → ClassId) (r : Nat → Nat) (sz : Nat) (u : Nat → Int32) (a : Nat → Nat → Int32) (th : Nat → Option Nat) (LP : List Nat) (tf : Nat → va_E) (tO : Nat) (g : Nat → Nat) (T : Nat → Nat → Nat) (R : Nat → Nat → Nat) (so : Nat → Int32) (ln : Nat → Nat) (ce : Nat → Nat → Int32) (f tr : Int32)  (hI : CI u a th LP tf g T R so ln ce f tr) : Met l yX9_letGo wsX9_letGo ({ frames := 3, cells := 0, slots := 0, locals := 75 } : Room) (va_Pc [.ref (r 0)] (wA D vwCl (tyA cA) (eO tO) (xN cA r) (u, a, th, LP, tf) sz)) (va_Qi (fun (v : Int32) (z : sN) => v = aLet g T ∧ CI z.1 z.2.1 z.2.2.1 z.2.2.2.1 z.2.2.2.2 g T R so ln ce f tr) (wB D vwCl (tyA cA) (xN cA r) (va_A (xN cA r (u, a, th, LP, tf)) sz)) (va_A (xN cA r (u, a, th, LP, tf)) sz)) 0 0 (va_A (xN cA r (u, a, th, LP, tf)) sz) := by
  refine Met.ofW (cc := cX9_letGo) (maxL := 5) (ret := (some .int)) (by decide) rfl ?_
  intro p e s m args below meth c s₁ B hml hv
  obtain ⟨rfl, hsz, hP, hK, hD0, hE⟩ := hv
  have hx := B.exec
  have hb := B.bytes
  have hr := B.returns
  have hts := atoms_spec (ws := wsX9_letGo) B.pre
  have hown : s.vm.findClass RX9 = some m.cls := findClass_of_methodNamed B.named
  have hlocks := B.notSynchronized
  subst hsz
  have hD := hD0.self (sz := s.heap.size)
  generalize hAe : va_A (xN cA r (u, a, th, LP, tf)) s.heap.size = A at hD hE ⊢
  have hA : ∀ q : Nat, s.heap.size ≤ q → A q := fun q h => by rw [← hAe]; exact Or.inr h
  have hS : va_S A s.heap s.heap [] := va_S.rf
  have hinX5 : ∀ w ∈ u_ws RX5 TX5 8, w ∈ wsX9_letGo := by decide +kernel
  have hinX9 : ∀ w ∈ u_ws RX9 TX9 8, w ∈ wsX9_letGo := by decide +kernel
  have hl := lv_entry ([.ref (r 0)]) (n := 5) (Nat.le_of_ble_eq_true rfl)
  rw [lg_entry_eq]
  generalize (lg_sl ([.ref (r 0)]) ++ List.replicate (5 - (lg_sl ([.ref (r 0)])).length) Slot.unset).toArray = ls at hl ⊢
  have hl : lv_has ls 5 [(0, .ref (r 0))] := hl
  have hM := hI.1
  have hB := hI.2.1
  have hg6 := hB.1
  have hsm := hI.2.2.1
  have hrs := hI.2.2.2.1
  have hRd := hI.2.2.2.2.1
  have hSh := hI.2.2.2.2.2.1
  have hf0 := hI.2.2.2.2.2.2.1
  have htr := hI.2.2.2.2.2.2.2.1
  have hPo := hI.2.2.2.2.2.2.2.2
  have hp6 : 2 ^ g 0 ≤ 64 := Nat.pow_le_pow_right (n := 2) (by decide) hg6
  have hp0 := Nat.two_pow_pos (g 0)
  have hf6 : ∀ q, q ≤ 63 → q < 64 := fun q h => by omega
  refine lv_aload_n hx hb dX9_letGo_0 rfl (lv_at hl 0 rfl) ?_
  refine va_get (D := D) (ci := 9) (v := .ref (r 1)) (C := RX9) (T := TX9) (N := 8) hx hb hts hinX9 hown hK hP 0 rfl rfl 0 (by decide) (hts (.fieldLink RX9 12 "OneNail" "town" "LOneNail$Street;") (by decide +kernel)) (fun _ h9 => h9) rfl dX9_letGo_1 ?_
  refine va_get (D := D) (ci := 5) (v := .int (nI (g 0))) (C := RX5) (T := TX5) (N := 8) hx hb hts hinX5 hown hK hP 1 rfl rfl 0 (by decide) (hts (.fieldLink RX9 83 "OneNail$Street" "count" "I") (by decide +kernel)) (fun _ h9 => h9) (congrArg (fun z => some (Value.int z)) (hM.1)) dX9_letGo_4 ?_
  refine rz_ne (x := g 0) (tgt := 13) hx hb (by omega) dX9_letGo_7 (by decide) (fun c_1 => ?_) (fun c_1 => ?_)
  · refine lv_aload_n hx hb dX9_letGo_13 rfl (lv_at hl 0 rfl) ?_
    refine va_get (D := D) (ci := 9) (v := .ref (r 1)) (C := RX9) (T := TX9) (N := 8) hx hb hts hinX9 hown hK hP 0 rfl rfl 0 (by decide) (hts (.fieldLink RX9 12 "OneNail" "town" "LOneNail$Street;") (by decide +kernel)) (fun _ h9 => h9) rfl dX9_letGo_14 ?_
    refine wVi (eO_S tO) (As := []) (rest := []) ⟨hx, hb, hml, hown, hts⟩ (kX5_all l D cA r _ u a th LP tf tO g T hM hB) (cwV 0 hts gX9_letGo_X5_all rfl rfl rfl (by decide +kernel) ⟨Nat.le_of_ble_eq_true rfl, Nat.le_of_ble_eq_true rfl⟩) (va_recv hK hP (ci := 5) (q0 := 1) rfl rfl) hK hP hD hS hA hE rfl hl.1 rfl (Nat.le_of_ble_eq_true rfl) dX9_letGo_17 ⟨Nat.zero_le _, Nat.zero_le _⟩ (fun rv_2 z_4 H locs hw_3 hP hD hS => ?_)
    obtain ⟨rfl, rfl⟩ := hw_3
    have hP : va_P D vwCl (xN cA r (u, a, th, LP, tf)) H := hP
    have hD : va_D A (xN cA r (u, a, th, LP, tf)) := hD
    refine lv_istore_n (lv' := [(1, .int (nI (2 ^ g 0 - 1))), (0, .ref (r 0))]) hx hb dX9_letGo_20 rfl hl (by decide) rfl (fun ls hl => ?_)
    refine lv_iload_n hx hb dX9_letGo_21 rfl (lv_at hl 0 rfl) ?_
    refine lv_istore_n (lv' := [(2, .int (nI (2 ^ g 0 - 1))), (1, .int (nI (2 ^ g 0 - 1))), (0, .ref (r 0))]) hx hb dX9_letGo_22 rfl hl (by decide) rfl (fun ls hl => ?_)
    refine lv_iconst (v := (nI 0)) hx hb dX9_letGo_23 rfl ?_
    refine lv_istore_n (lv' := [(3, .int (nI 0)), (2, .int (nI (2 ^ g 0 - 1))), (1, .int (nI (2 ^ g 0 - 1))), (0, .ref (r 0))]) hx hb dX9_letGo_24 rfl hl (by decide) rfl (fun ls hl => ?_)
    refine wLoop (τ := Nat × Nat × (Nat → Int32) × (Nat → Nat → Int32)) (fun z H locs ls => (fun (q : Nat) (b : Nat) (u1025 : (Nat → Int32)) (a1025 : (Nat → Nat → Int32)) => (q ≤ 2 ^ g 0) ∧ (b ≤ (2 ^ g 0 - 1)) ∧ (b < q ∨ b = (2 ^ g 0 - 1)) ∧ (OK g T b) ∧ (∀ s9, s9 < q → OK g T s9 → bet b s9) ∧ (∀ i : Nat, i ≠ 11 → i ≠ 12 → u1025 i = u i) ∧ (∀ i : Nat, i ≠ 23 → i ≠ 24 → a1025 i = a i) ∧ (va_P D vwCl (xN cA r (u1025, a1025, th, LP, tf)) H) ∧ (va_D A (xN cA r (u1025, a1025, th, LP, tf))) ∧ (va_S A s.heap H locs) ∧ (lv_has ls 5 [(3, .int (nI q)), (2, .int (nI b)), (1, .int (nI (2 ^ g 0 - 1))), (0, .ref (r 0))])) z.1 z.2.1 z.2.2.1 z.2.2.2) (fun z => (fun (q : Nat) (b : Nat) (u1025 : (Nat → Int32)) (a1025 : (Nat → Nat → Int32)) => 2 ^ g 0 - q) z.1 z.2.1 z.2.2.1 z.2.2.2) (0, (2 ^ g 0 - 1), u, a) ⟨(show 0 ≤ 2 ^ g 0 from Nat.zero_le _), (show (2 ^ g 0 - 1) ≤ (2 ^ g 0 - 1) from Nat.le_refl _), (show (2 ^ g 0 - 1) < 0 ∨ (2 ^ g 0 - 1) = (2 ^ g 0 - 1) from (Or.inr rfl)), (show OK g T (2 ^ g 0 - 1) from OK_all g T), (show ∀ s9, s9 < 0 → OK g T s9 → bet (2 ^ g 0 - 1) s9 from (fun s h1 => absurd h1 (Nat.not_lt_zero s))), (fun i h11 h12 => rfl), (fun i h23 h24 => rfl), hP, hD, hS, lv_sub hl [0, 1, 2, 3] rfl⟩ ?_
    rintro ⟨q, b, u1025, a1025⟩ H locs ls ⟨hq, hbA, hbl, hok, hbest, hfu25, hfa25, hP, hD, hS, hl⟩ ih25
    have hq : q ≤ 2 ^ g 0 := hq
    have hbA : b ≤ (2 ^ g 0 - 1) := hbA
    have hbl : b < q ∨ b = (2 ^ g 0 - 1) := hbl
    have hok : OK g T b := hok
    have hbest : ∀ s9, s9 < q → OK g T s9 → bet b s9 := hbest
    have hfu25 : ∀ i : Nat, i ≠ 11 → i ≠ 12 → u1025 i = u i := hfu25
    have hfa25 : ∀ i : Nat, i ≠ 23 → i ≠ 24 → a1025 i = a i := hfa25
    have hP : va_P D vwCl (xN cA r (u1025, a1025, th, LP, tf)) H := hP
    have hD : va_D A (xN cA r (u1025, a1025, th, LP, tf)) := hD
    have hl : lv_has ls 5 [(3, .int (nI q)), (2, .int (nI b)), (1, .int (nI (2 ^ g 0 - 1))), (0, .ref (r 0))] := hl
    refine lv_iload_n hx hb dX9_letGo_25 rfl (lv_at hl 0 rfl) ?_
    refine lv_iload_n hx hb dX9_letGo_26 rfl (lv_at hl 2 rfl) ?_
    refine rn_gt (x := q) (y := 2 ^ g 0 - 1) (tgt := 77) hx hb (by omega) (by omega) dX9_letGo_27 (by decide) (fun c_5 => ?_) (fun c_5 => ?_)
    · refine lv_iload_n hx hb dX9_letGo_77 rfl (lv_at hl 1 rfl) ?_
      exact wIret hx hb hr hlocks (v := (nI b)) (u1025, a1025, th, LP, tf) (⟨by unfold aLet; rw [cif_neg (by omega)]; exact congrArg nI (lgV_eq ⟨hbA, hok, fun s hs => hbest s (by omega)⟩), (CI.keep hI ((hfu25 0 (by decide) (by decide)).trans hf0) ((hfu25 13 (by decide) (by decide)).trans htr) (fun i hi9 => hfu25 i (by omega) (by omega)) (fun i hi9 => hfa25 i (by omega) (by omega)))⟩) hK hP hD hS dX9_letGo_78
    · have hs1 := sb_le q 6
      have hs2 := sb_le b 6
      refine lv_iload_n hx hb dX9_letGo_30 rfl (lv_at hl 0 rfl) ?_
      refine wSi (As := [.int (nI q)]) (rest := []) ⟨hx, hb, hml, hown, hts⟩ (kJ6_bitCount_0f7a4 l q (hf6 _ (by omega))) (va_cwS 1 hts gX9_letGo_J6_bitCount_0f7a4 rfl rfl rfl (by decide +kernel) ⟨Nat.le_of_ble_eq_true rfl, Nat.le_of_ble_eq_true rfl⟩) rfl hl.1 rfl (Nat.le_of_ble_eq_true rfl) dX9_letGo_31 ⟨Nat.zero_le _, Nat.zero_le _⟩ (fun rv_6 hw_7 => ?_)
      obtain rfl := hw_7
      refine lv_iload_n hx hb dX9_letGo_34 rfl (lv_at hl 1 rfl) ?_
      refine wSi (As := [.int (nI b)]) (rest := [.int (nI (sb q 6))]) ⟨hx, hb, hml, hown, hts⟩ (kJ6_bitCount_0f7a4 l b (hf6 _ (by omega))) (va_cwS 1 hts gX9_letGo_J6_bitCount_0f7a4 rfl rfl rfl (by decide +kernel) ⟨Nat.le_of_ble_eq_true rfl, Nat.le_of_ble_eq_true rfl⟩) rfl hl.1 rfl (Nat.le_of_ble_eq_true rfl) dX9_letGo_35 ⟨Nat.zero_le _, Nat.zero_le _⟩ (fun rv_8 hw_9 => ?_)
      obtain rfl := hw_9
      refine rn_ge (x := sb q 6) (y := sb b 6) (tgt := 45) hx hb (by omega) (by omega) dX9_letGo_38 (by decide) (fun c_10 => ?_) (fun c_10 => ?_)
      · have hsz : sb b 6 ≤ sb q 6 := by omega
        refine lv_iconst (v := (nI 0)) hx hb dX9_letGo_45 rfl ?_
        refine lv_istore (lv' := [(4, .int (nI 0)), (3, .int (nI q)), (2, .int (nI b)), (1, .int (nI (2 ^ g 0 - 1))), (0, .ref (r 0))]) hx hb dX9_letGo_46 hl (by decide) rfl (fun ls hl => ?_)
        refine lv_iload hx hb dX9_letGo_48 (lv_at hl 0 rfl) ?_
        refine lv_if_eq (tgt := 71) hx hb dX9_letGo_50 (by decide) (fun _ => ?_) (fun c_11 => absurd c_11 (by decide))
        refine rn_iinc (x := q) (d := 1) (lv' := [(3, .int (nI (q + 1))), (4, .int (nI 0)), (2, .int (nI b)), (1, .int (nI (2 ^ g 0 - 1))), (0, .ref (r 0))]) hx hb rfl dX9_letGo_71 hl (k := 1) rfl (by decide) rfl (fun ls hl => ?_)
        refine lv_goto (tgt := 25) hx hb dX9_letGo_74 (by decide) ?_
        exact ih25 ((q + 1), b, u1025, a1025) _ _ _ (show 2 ^ g 0 - (q + 1) < 2 ^ g 0 - q from by omega) ⟨(show (q + 1) ≤ 2 ^ g 0 from by omega), (show b ≤ (2 ^ g 0 - 1) from hbA), (show b < (q + 1) ∨ b = (2 ^ g 0 - 1) from (hbl.elim (fun w => Or.inl (by omega)) Or.inr)), (show OK g T b from hok), (show ∀ s9, s9 < (q + 1) → OK g T s9 → bet b s9 from (fun s h1 h3 => by rcases Nat.lt_or_ge s q with w | w; exact hbest s w h3; rw [show s = q by omega]; rcases hbl with hbl | hbl; omega; rw [hbl] at hsz ⊢; have := sb_full (g 0) hg6 q (by omega) (by omega); omega)), (fun i h11 h12 => hfu25 i h11 h12), (fun i h23 h24 => hfa25 i h23 h24), hP, hD, hS, lv_sub hl [0, 2, 3, 4] rfl⟩
      · refine lv_iconst (v := (nI 1)) hx hb dX9_letGo_41 rfl ?_
        refine lv_goto (tgt := 46) hx hb dX9_letGo_42 (by decide) ?_
        refine lv_istore (lv' := [(4, .int (nI 1)), (3, .int (nI q)), (2, .int (nI b)), (1, .int (nI (2 ^ g 0 - 1))), (0, .ref (r 0))]) hx hb dX9_letGo_46 hl (by decide) rfl (fun ls hl => ?_)
        refine lv_iload hx hb dX9_letGo_48 (lv_at hl 0 rfl) ?_
        refine lv_if_eq (tgt := 71) hx hb dX9_letGo_50 (by decide) (fun c_12 => absurd c_12 (by decide)) (fun _ => ?_)
        refine lv_aload_n hx hb dX9_letGo_53 rfl (lv_at hl 4 rfl) ?_
        refine va_get (D := D) (ci := 9) (v := .ref (r 4)) (C := RX9) (T := TX9) (N := 8) hx hb hts hinX9 hown hK hP 0 rfl rfl 3 (by decide) (hts (.fieldLink RX9 37 "OneNail" "orders" "LOneNail$Orders;") (by decide +kernel)) (fun _ h9 => h9) rfl dX9_letGo_54 ?_
        refine lv_iload_n hx hb dX9_letGo_57 rfl (lv_at hl 3 rfl) ?_
        refine lv_iload_n hx hb dX9_letGo_58 rfl (lv_at hl 1 rfl) ?_
        refine lv_iconst (v := (-1)) hx hb dX9_letGo_59 (by decide) ?_
        refine lv_ixor hx hb dX9_letGo_60 ?_
        refine lv_iand hx hb dX9_letGo_61 ?_
        refine lv_topi (fun y_13 ey_13 => ?_)
        obtain rfl : y_13 = (nI ((2 ^ g 0 - 1) - q)) := ey_13.trans (andn_row (g 0) hg6 q (by omega))
        refine lv_iconst (v := (nI 1)) hx hb dX9_letGo_62 rfl ?_
        refine wVi (eO_S tO) (As := [.int (nI ((2 ^ g 0 - 1) - q)), .int (nI 1)]) (rest := []) ⟨hx, hb, hml, hown, hts⟩ (kX2_countSafe l D cA r _ u1025 a1025 th LP tf tO g T ((2 ^ g 0 - 1) - q) 1 (NT.keep hM (hfu25 1 (by decide) (by decide)) (hfa25 13 (by decide) (by decide)) (hfa25 14 (by decide) (by decide)) (hfa25 15 (by decide) (by decide)) (hfa25 16 (by decide) (by decide))) hB ((hfu25 2 (by decide) (by decide)).trans (hsm)) (by decide) (by omega) (ol ((2 ^ g 0 - 1) - q) (g 0)) rfl) (cwV 2 hts gX9_letGo_X2_countSafe rfl rfl rfl (by decide +kernel) ⟨Nat.le_of_ble_eq_true rfl, Nat.le_of_ble_eq_true rfl⟩) (va_recv hK hP (ci := 2) (q0 := 4) rfl rfl) hK hP hD hS hA hE rfl hl.1 rfl (Nat.le_of_ble_eq_true rfl) dX9_letGo_63 ⟨Nat.zero_le _, Nat.zero_le _⟩ (fun rv_14 z_16 H locs hw_15 hP hD hS => ?_)
        obtain ⟨sP, rfl, hsPb, hsP, hw_15⟩ := hw_15
        have hsP : sP = (cq (pS g T (ol ((2 ^ g 0 - 1) - q) (g 0)) ((2 ^ g 0 - 1) - q)) (ol ((2 ^ g 0 - 1) - q) (g 0)) (fct (ol ((2 ^ g 0 - 1) - q) (g 0)) - 1) (f1c ((2 ^ g 0 - 1) - q) (g 0))) ∨ (1 ≤ sP ∧ 1 ≤ (cq (pS g T (ol ((2 ^ g 0 - 1) - q) (g 0)) ((2 ^ g 0 - 1) - q)) (ol ((2 ^ g 0 - 1) - q) (g 0)) (fct (ol ((2 ^ g 0 - 1) - q) (g 0)) - 1) (f1c ((2 ^ g 0 - 1) - q) (g 0)))) := hsP
        obtain ⟨zu17, za18, zq19⟩ := z_16
        obtain ⟨hu11_zu17, hfu_zu17, hfa_zu17, hzq_zu17⟩ := hw_15
        have hzq_zu17 : zq19 = (th, LP, tf) := hzq_zu17
        subst hzq_zu17
        have hu11_zu17 : zu17 11 = nI (ol ((2 ^ g 0 - 1) - q) (g 0)) := hu11_zu17
        have hfu_zu17 : ∀ i, i ≠ 11 → i ≠ 12 → zu17 i = u1025 i := hfu_zu17
        have hfa_zu17 : ∀ i, i ≠ 23 → i ≠ 24 → za18 i = a1025 i := hfa_zu17
        have hP : va_P D vwCl (xN cA r (zu17, za18, th, LP, tf)) H := hP
        have hD : va_D A (xN cA r (zu17, za18, th, LP, tf)) := hD
        refine rz_le (x := sP) (tgt := 71) hx hb (by omega) dX9_letGo_66 (by decide) (fun c_20 => ?_) (fun c_20 => ?_)
        · have hokq : ¬ OK g T q := fun w => by have := (OK_cq g T q).mp w; omega
          refine rn_iinc (x := q) (d := 1) (lv' := [(3, .int (nI (q + 1))), (4, .int (nI 1)), (2, .int (nI b)), (1, .int (nI (2 ^ g 0 - 1))), (0, .ref (r 0))]) hx hb rfl dX9_letGo_71 hl (k := 1) rfl (by decide) rfl (fun ls hl => ?_)
          refine lv_goto (tgt := 25) hx hb dX9_letGo_74 (by decide) ?_
          exact ih25 ((q + 1), b, zu17, za18) _ _ _ (show 2 ^ g 0 - (q + 1) < 2 ^ g 0 - q from by omega) ⟨(show (q + 1) ≤ 2 ^ g 0 from by omega), (show b ≤ (2 ^ g 0 - 1) from hbA), (show b < (q + 1) ∨ b = (2 ^ g 0 - 1) from (hbl.elim (fun w => Or.inl (by omega)) Or.inr)), (show OK g T b from hok), (show ∀ s9, s9 < (q + 1) → OK g T s9 → bet b s9 from (fun s h1 h3 => by rcases Nat.lt_or_ge s q with w | w; exact hbest s w h3; rw [show s = q by omega] at h3; exact absurd h3 hokq)), (fun i h11 h12 => Eq.trans (hfu_zu17 i h11 h12) (hfu25 i h11 h12)), (fun i h23 h24 => Eq.trans (hfa_zu17 i h23 h24) (hfa25 i h23 h24)), hP, hD, hS, lv_sub hl [0, 2, 3, 4] rfl⟩
        · have hokq : OK g T q := (OK_cq g T q).mpr (by omega)
          refine lv_iload_n hx hb dX9_letGo_69 rfl (lv_at hl 1 rfl) ?_
          refine lv_istore_n (lv' := [(2, .int (nI q)), (4, .int (nI 1)), (3, .int (nI q)), (1, .int (nI (2 ^ g 0 - 1))), (0, .ref (r 0))]) hx hb dX9_letGo_70 rfl hl (by decide) rfl (fun ls hl => ?_)
          refine rn_iinc (x := q) (d := 1) (lv' := [(3, .int (nI (q + 1))), (2, .int (nI q)), (4, .int (nI 1)), (1, .int (nI (2 ^ g 0 - 1))), (0, .ref (r 0))]) hx hb rfl dX9_letGo_71 hl (k := 2) rfl (by decide) rfl (fun ls hl => ?_)
          refine lv_goto (tgt := 25) hx hb dX9_letGo_74 (by decide) ?_
          exact ih25 ((q + 1), q, zu17, za18) _ _ _ (show 2 ^ g 0 - (q + 1) < 2 ^ g 0 - q from by omega) ⟨(show (q + 1) ≤ 2 ^ g 0 from by omega), (show q ≤ (2 ^ g 0 - 1) from by omega), (show q < (q + 1) ∨ q = (2 ^ g 0 - 1) from (Or.inl (by omega))), (show OK g T q from hokq), (show ∀ s9, s9 < (q + 1) → OK g T s9 → bet q s9 from (fun s h1 h3 => by rcases Nat.lt_or_ge s q with w | w; have := hbest s w h3; omega; rw [show s = q by omega]; omega)), (fun i h11 h12 => Eq.trans (hfu_zu17 i h11 h12) (hfu25 i h11 h12)), (fun i h23 h24 => Eq.trans (hfa_zu17 i h23 h24) (hfa25 i h23 h24)), hP, hD, hS, lv_sub hl [0, 1, 3, 4] rfl⟩
  · refine lv_bipush (v := (-3)) hx hb dX9_letGo_10 (by decide) ?_
    exact wIret hx hb hr hlocks (v := (-3)) (u, a, th, LP, tf) (⟨by unfold aLet; rw [cif_pos (by omega)], hI⟩) hK hP hD hS dX9_letGo_12

set_option maxHeartbeats 4000000 in
set_option maxRecDepth 100000 in
theorem kX9_harmOfBoth (l : Launch) (D : va_G) (cA : Nat → ClassId) (r : Nat → Nat) (sz : Nat) (u : Nat → Int32) (a : Nat → Nat → Int32) (th : Nat → Option Nat) (LP : List Nat) (tf : Nat → va_E) (tO : Nat) (g : Nat → Nat) (T : Nat → Nat → Nat) (lo : Nat → Nat) (s1 : Nat) (hM : NT u a g T) (hB : TB g T) (hs1 : s1 ≤ (2 ^ g 0 - 1)) (hlo : ∀ j, j ≤ (2 ^ g 0 - 1) → a 11 j = nI (lo j)) : Met l yX9_harmOfBoth wsX9_harmOfBoth ({ frames := 1, cells := 0, slots := 0, locals := 20 } : Room) (va_Pc [.ref (r 0), .int (nI s1)] (wA D vwCl (tyA cA) (eO tO) (xN cA r) (u, a, th, LP, tf) sz)) (va_Qi (fun (v : Int32) (z : sN) => v = nI (lo s1 + lo ((2 ^ g 0 - 1) - s1)) ∧ z = (u, a, th, LP, tf)) (wB D vwCl (tyA cA) (xN cA r) (va_A (xN cA r (u, a, th, LP, tf)) sz)) (va_A (xN cA r (u, a, th, LP, tf)) sz)) 0 0 (va_A (xN cA r (u, a, th, LP, tf)) sz) := by
  refine Met.ofW (cc := cX9_harmOfBoth) (maxL := 3) (ret := (some .int)) (by decide) rfl ?_
  intro p e s m args below meth c s₁ B hml hv
  obtain ⟨rfl, hsz, hP, hK, hD0, hE⟩ := hv
  have hx := B.exec
  have hb := B.bytes
  have hr := B.returns
  have hts := atoms_spec (ws := wsX9_harmOfBoth) B.pre
  have hown : s.vm.findClass RX9 = some m.cls := findClass_of_methodNamed B.named
  have hlocks := B.notSynchronized
  subst hsz
  have hD := hD0.self (sz := s.heap.size)
  generalize hAe : va_A (xN cA r (u, a, th, LP, tf)) s.heap.size = A at hD hE ⊢
  have hA : ∀ q : Nat, s.heap.size ≤ q → A q := fun q h => by rw [← hAe]; exact Or.inr h
  have hS : va_S A s.heap s.heap [] := va_S.rf
  have hinX9 : ∀ w ∈ u_ws RX9 TX9 8, w ∈ wsX9_harmOfBoth := by decide +kernel
  have hl := lv_entry ([.ref (r 0), .int (nI s1)]) (n := 3) (Nat.le_of_ble_eq_true rfl)
  rw [lg_entry_eq]
  generalize (lg_sl ([.ref (r 0), .int (nI s1)]) ++ List.replicate (3 - (lg_sl ([.ref (r 0), .int (nI s1)])).length) Slot.unset).toArray = ls at hl ⊢
  have hl : lv_has ls 3 [(0, .ref (r 0)), (1, .int (nI s1))] := hl
  have hg6 := hB.1
  have hp6 : 2 ^ g 0 ≤ 64 := Nat.pow_le_pow_right (n := 2) (by decide) hg6
  have hp0 := Nat.two_pow_pos (g 0)
  refine lv_aload_n hx hb dX9_harmOfBoth_0 rfl (lv_at hl 0 rfl) ?_
  refine va_get (D := D) (ci := 9) (v := .ref (r 1)) (C := RX9) (T := TX9) (N := 8) hx hb hts hinX9 hown hK hP 0 rfl rfl 0 (by decide) (hts (.fieldLink RX9 12 "OneNail" "town" "LOneNail$Street;") (by decide +kernel)) (fun _ h9 => h9) rfl dX9_harmOfBoth_1 ?_
  refine wVi (eO_S tO) (As := []) (rest := []) ⟨hx, hb, hml, hown, hts⟩ (kX5_all l D cA r _ u a th LP tf tO g T hM hB) (cwV 0 hts gX9_harmOfBoth_X5_all rfl rfl rfl (by decide +kernel) ⟨Nat.le_of_ble_eq_true rfl, Nat.le_of_ble_eq_true rfl⟩) (va_recv hK hP (ci := 5) (q0 := 1) rfl rfl) hK hP hD hS hA hE rfl hl.1 rfl (Nat.le_of_ble_eq_true rfl) dX9_harmOfBoth_4 ⟨Nat.zero_le _, Nat.zero_le _⟩ (fun rv_1 z_3 H locs hw_2 hP hD hS => ?_)
  obtain ⟨rfl, rfl⟩ := hw_2
  have hP : va_P D vwCl (xN cA r (u, a, th, LP, tf)) H := hP
  have hD : va_D A (xN cA r (u, a, th, LP, tf)) := hD
  refine lv_iload_n hx hb dX9_harmOfBoth_7 rfl (lv_at hl 1 rfl) ?_
  refine lv_iconst (v := (-1)) hx hb dX9_harmOfBoth_8 (by decide) ?_
  refine lv_ixor hx hb dX9_harmOfBoth_9 ?_
  refine lv_iand hx hb dX9_harmOfBoth_10 ?_
  refine lv_topi (fun y_4 ey_4 => ?_)
  obtain rfl : y_4 = (nI ((2 ^ g 0 - 1) - s1)) := ey_4.trans (andn_row (g 0) hg6 s1 (by omega))
  refine lv_istore_n (lv' := [(2, .int (nI ((2 ^ g 0 - 1) - s1))), (0, .ref (r 0)), (1, .int (nI s1))]) hx hb dX9_harmOfBoth_11 rfl hl (by decide) rfl (fun ls hl => ?_)
  refine lv_iload_n hx hb dX9_harmOfBoth_12 rfl (lv_at hl 2 rfl) ?_
  refine rz_lt (x := s1) (tgt := 34) hx hb (by omega) dX9_harmOfBoth_13 (by decide) ?_
  refine lv_iload_n hx hb dX9_harmOfBoth_16 rfl (lv_at hl 2 rfl) ?_
  refine lv_aload_n hx hb dX9_harmOfBoth_17 rfl (lv_at hl 1 rfl) ?_
  refine va_get (D := D) (ci := 9) (v := .ref (r 11)) (C := RX9) (T := TX9) (N := 8) hx hb hts hinX9 hown hK hP 0 rfl rfl 5 (by decide) (hts (.fieldLink RX9 47 "OneNail" "leastOf" "[I") (by decide +kernel)) (fun _ h9 => h9) rfl dX9_harmOfBoth_18 ?_
  refine va_alen hx hb hK hP 12 0 (v := nI 64) rfl rfl rfl dX9_harmOfBoth_21 ?_
  refine rn_ge (x := s1) (y := 64) (tgt := 34) hx hb (by omega) (by omega) dX9_harmOfBoth_22 (by decide) (fun c_6 => absurd c_6 (by omega)) (fun c_6 => ?_)
  refine lv_iload_n hx hb dX9_harmOfBoth_25 rfl (lv_at hl 0 rfl) ?_
  refine lv_aload_n hx hb dX9_harmOfBoth_26 rfl (lv_at hl 1 rfl) ?_
  refine va_get (D := D) (ci := 9) (v := .ref (r 11)) (C := RX9) (T := TX9) (N := 8) hx hb hts hinX9 hown hK hP 0 rfl rfl 5 (by decide) (hts (.fieldLink RX9 47 "OneNail" "leastOf" "[I") (by decide +kernel)) (fun _ h9 => h9) rfl dX9_harmOfBoth_27 ?_
  refine va_alen hx hb hK hP 12 0 (v := nI 64) rfl rfl rfl dX9_harmOfBoth_30 ?_
  refine rn_lt (x := (2 ^ g 0 - 1) - s1) (y := 64) (tgt := 36) hx hb (by omega) (by omega) dX9_harmOfBoth_31 (by decide) (fun c_7 => ?_) (fun c_7 => absurd c_7 (by omega))
  refine lv_aload_n hx hb dX9_harmOfBoth_36 rfl (lv_at hl 1 rfl) ?_
  refine va_get (D := D) (ci := 9) (v := .ref (r 11)) (C := RX9) (T := TX9) (N := 8) hx hb hts hinX9 hown hK hP 0 rfl rfl 5 (by decide) (hts (.fieldLink RX9 47 "OneNail" "leastOf" "[I") (by decide +kernel)) (fun _ h9 => h9) rfl dX9_harmOfBoth_37 ?_
  refine lv_iload_n hx hb dX9_harmOfBoth_40 rfl (lv_at hl 2 rfl) ?_
  refine ra_iald hx hb hK hP 12 0 (n := 64) (f := (a 11)) (j := s1) (v := (nI (lo (s1)))) rfl rfl (by omega) (by decide) (hlo (s1) (by omega)) dX9_harmOfBoth_41 ?_
  refine lv_aload_n hx hb dX9_harmOfBoth_42 rfl (lv_at hl 1 rfl) ?_
  refine va_get (D := D) (ci := 9) (v := .ref (r 11)) (C := RX9) (T := TX9) (N := 8) hx hb hts hinX9 hown hK hP 0 rfl rfl 5 (by decide) (hts (.fieldLink RX9 47 "OneNail" "leastOf" "[I") (by decide +kernel)) (fun _ h9 => h9) rfl dX9_harmOfBoth_43 ?_
  refine lv_iload_n hx hb dX9_harmOfBoth_46 rfl (lv_at hl 0 rfl) ?_
  refine ra_iald hx hb hK hP 12 0 (n := 64) (f := (a 11)) (j := (2 ^ g 0 - 1) - s1) (v := (nI (lo ((2 ^ g 0 - 1) - s1)))) rfl rfl (by omega) (by decide) (hlo ((2 ^ g 0 - 1) - s1) (by omega)) dX9_harmOfBoth_47 ?_
  refine rn_iadd (x := lo (s1)) (y := lo ((2 ^ g 0 - 1) - s1)) hx hb dX9_harmOfBoth_48 ?_
  exact wIret hx hb hr hlocks (v := (nI ((lo (s1)) + (lo ((2 ^ g 0 - 1) - s1))))) (u, a, th, LP, tf) (⟨rfl, rfl⟩) hK hP hD hS dX9_harmOfBoth_49

set_option maxHeartbeats 4000000 in
set_option maxRecDepth 100000 in
theorem kX9_two (l : Launch) (D : va_G) (cA : Nat → ClassId) (r : Nat → Nat) (sz : Nat) (u : Nat → Int32) (a : Nat → Nat → Int32) (th : Nat → Option Nat) (LP : List Nat) (tf : Nat → va_E) (tO : Nat) (g : Nat → Nat) (T : Nat → Nat → Nat) (R : Nat → Nat → Nat) (so : Nat → Int32) (ln : Nat → Nat) (ce : Nat → Nat → Int32) (f tr : Int32) (t w : Int32) (hI : CI u a th LP tf g T R so ln ce f tr) : Met l yX9_two wsX9_two ({ frames := 3, cells := 0, slots := 0, locals := 77 } : Room) (va_Pc [.ref (r 0), .int t, .int w] (wA D vwCl (tyA cA) (eO tO) (xN cA r) (u, a, th, LP, tf) sz)) (va_Qi (fun (v : Int32) (z : sN) => v = aTwo g T t w ∧ CI z.1 z.2.1 z.2.2.1 z.2.2.2.1 z.2.2.2.2 g T R so ln ce f tr) (wB D vwCl (tyA cA) (xN cA r) (va_A (xN cA r (u, a, th, LP, tf)) sz)) (va_A (xN cA r (u, a, th, LP, tf)) sz)) 0 0 (va_A (xN cA r (u, a, th, LP, tf)) sz) := by
  refine Met.ofW (cc := cX9_two) (maxL := 6) (ret := (some .int)) (by decide) rfl ?_
  intro p e s m args below meth c s₁ B hml hv
  obtain ⟨rfl, hsz, hP, hK, hD0, hE⟩ := hv
  have hx := B.exec
  have hb := B.bytes
  have hr := B.returns
  have hts := atoms_spec (ws := wsX9_two) B.pre
  have hown : s.vm.findClass RX9 = some m.cls := findClass_of_methodNamed B.named
  have hlocks := B.notSynchronized
  subst hsz
  have hD := hD0.self (sz := s.heap.size)
  generalize hAe : va_A (xN cA r (u, a, th, LP, tf)) s.heap.size = A at hD hE ⊢
  have hA : ∀ q : Nat, s.heap.size ≤ q → A q := fun q h => by rw [← hAe]; exact Or.inr h
  have hS : va_S A s.heap s.heap [] := va_S.rf
  have hinX5 : ∀ w ∈ u_ws RX5 TX5 8, w ∈ wsX9_two := by decide +kernel
  have hinX9 : ∀ w ∈ u_ws RX9 TX9 8, w ∈ wsX9_two := by decide +kernel
  have hl := lv_entry ([.ref (r 0), .int t, .int w]) (n := 6) (Nat.le_of_ble_eq_true rfl)
  rw [lg_entry_eq]
  generalize (lg_sl ([.ref (r 0), .int t, .int w]) ++ List.replicate (6 - (lg_sl ([.ref (r 0), .int t, .int w])).length) Slot.unset).toArray = ls at hl ⊢
  have hl : lv_has ls 6 [(0, .ref (r 0)), (1, .int t), (2, .int w)] := hl
  have hM := hI.1
  have hB := hI.2.1
  have hg6 := hB.1
  have hsm := hI.2.2.1
  have hrs := hI.2.2.2.1
  have hRd := hI.2.2.2.2.1
  have hSh := hI.2.2.2.2.2.1
  have hf0 := hI.2.2.2.2.2.2.1
  have htr := hI.2.2.2.2.2.2.2.1
  have hPo := hI.2.2.2.2.2.2.2.2
  have hp6 : 2 ^ g 0 ≤ 64 := Nat.pow_le_pow_right (n := 2) (by decide) hg6
  have hp0 := Nat.two_pow_pos (g 0)
  refine lv_aload_n hx hb dX9_two_0 rfl (lv_at hl 0 rfl) ?_
  refine va_get (D := D) (ci := 9) (v := .ref (r 1)) (C := RX9) (T := TX9) (N := 8) hx hb hts hinX9 hown hK hP 0 rfl rfl 0 (by decide) (hts (.fieldLink RX9 12 "OneNail" "town" "LOneNail$Street;") (by decide +kernel)) (fun _ h9 => h9) rfl dX9_two_1 ?_
  refine va_get (D := D) (ci := 5) (v := .int (nI (g 0))) (C := RX5) (T := TX5) (N := 8) hx hb hts hinX5 hown hK hP 1 rfl rfl 0 (by decide) (hts (.fieldLink RX9 83 "OneNail$Street" "count" "I") (by decide +kernel)) (fun _ h9 => h9) (congrArg (fun z => some (Value.int z)) (hM.1)) dX9_two_4 ?_
  refine rz_ne (x := g 0) (tgt := 13) hx hb (by omega) dX9_two_7 (by decide) (fun c_1 => ?_) (fun c_1 => ?_)
  · refine lv_iload_n hx hb dX9_two_13 rfl (lv_at hl 1 rfl) ?_
    refine wSi (As := [.int t]) (rest := []) ⟨hx, hb, hml, hown, hts⟩ (kX9_isSpan l t) (va_cwS 1 hts gX9_two_X9_isSpan rfl rfl rfl (by decide +kernel) ⟨Nat.le_of_ble_eq_true rfl, Nat.le_of_ble_eq_true rfl⟩) rfl hl.1 rfl (Nat.le_of_ble_eq_true rfl) dX9_two_14 ⟨Nat.zero_le _, Nat.zero_le _⟩ (fun rv_2 hw_3 => ?_)
    rcases hw_3 with ⟨rfl, b_4⟩ | ⟨rfl, b_4⟩
    · obtain ⟨t0, ht1, ht2, ht3, ht4⟩ := inR_of (show inR t 1 300 from b_4) (by decide) (by decide)
      have hl : lv_has ls 6 [(0, .ref (r 0)), (1, .int (nI t0)), (2, .int w)] := lv_re hl 1 ⟨rfl, rfl⟩ (ht1)
      refine lv_if_eq (tgt := 27) hx hb dX9_two_17 (by decide) (fun c_5 => absurd c_5 (by decide)) (fun _ => ?_)
      refine lv_iload_n hx hb dX9_two_20 rfl (lv_at hl 2 rfl) ?_
      refine wSi (As := [.int w]) (rest := []) ⟨hx, hb, hml, hown, hts⟩ (kX9_isHalf l w) (va_cwS 1 hts gX9_two_X9_isHalf rfl rfl rfl (by decide +kernel) ⟨Nat.le_of_ble_eq_true rfl, Nat.le_of_ble_eq_true rfl⟩) rfl hl.1 rfl (Nat.le_of_ble_eq_true rfl) dX9_two_21 ⟨Nat.zero_le _, Nat.zero_le _⟩ (fun rv_6 hw_7 => ?_)
      rcases hw_7 with ⟨rfl, b_8⟩ | ⟨rfl, b_8⟩
      · refine lv_if_ne (tgt := 30) hx hb dX9_two_24 (by decide) (fun _ => ?_) (fun c_9 => absurd c_9 (by decide))
        refine lv_aload_n hx hb dX9_two_30 rfl (lv_at hl 0 rfl) ?_
        refine va_get (D := D) (ci := 9) (v := .ref (r 1)) (C := RX9) (T := TX9) (N := 8) hx hb hts hinX9 hown hK hP 0 rfl rfl 0 (by decide) (hts (.fieldLink RX9 12 "OneNail" "town" "LOneNail$Street;") (by decide +kernel)) (fun _ h9 => h9) rfl dX9_two_31 ?_
        refine wVi (eO_S tO) (As := []) (rest := []) ⟨hx, hb, hml, hown, hts⟩ (kX5_all l D cA r _ u a th LP tf tO g T hM hB) (cwV 0 hts gX9_two_X5_all rfl rfl rfl (by decide +kernel) ⟨Nat.le_of_ble_eq_true rfl, Nat.le_of_ble_eq_true rfl⟩) (va_recv hK hP (ci := 5) (q0 := 1) rfl rfl) hK hP hD hS hA hE rfl hl.1 rfl (Nat.le_of_ble_eq_true rfl) dX9_two_34 ⟨Nat.zero_le _, Nat.zero_le _⟩ (fun rv_10 z_12 H locs hw_11 hP hD hS => ?_)
        obtain ⟨rfl, rfl⟩ := hw_11
        have hP : va_P D vwCl (xN cA r (u, a, th, LP, tf)) H := hP
        have hD : va_D A (xN cA r (u, a, th, LP, tf)) := hD
        refine lv_istore_n (lv' := [(3, .int (nI (2 ^ g 0 - 1))), (0, .ref (r 0)), (1, .int (nI t0)), (2, .int w)]) hx hb dX9_two_37 rfl hl (by decide) rfl (fun ls hl => ?_)
        refine lv_iconst (v := (nI 0)) hx hb dX9_two_38 rfl ?_
        refine lv_istore (lv' := [(4, .int (nI 0)), (3, .int (nI (2 ^ g 0 - 1))), (0, .ref (r 0)), (1, .int (nI t0)), (2, .int w)]) hx hb dX9_two_39 hl (by decide) rfl (fun ls hl => ?_)
        refine wLoop (τ := Nat × (Nat → Int32) × (Nat → Nat → Int32)) (fun z H locs ls => (fun (s7 : Nat) (u1041 : (Nat → Int32)) (a1041 : (Nat → Nat → Int32)) => (s7 ≤ (2 ^ g 0 - 1) + 1) ∧ (∀ j, j < s7 → a1041 11 j = nI (BF g T j t0).1) ∧ (∀ i : Nat, i ≠ 11 → i ≠ 12 → u1041 i = u i) ∧ (∀ i : Nat, i ≠ 11 → i ≠ 23 → i ≠ 24 → i ≠ 25 → a1041 i = a i) ∧ (va_P D vwCl (xN cA r (u1041, a1041, th, LP, tf)) H) ∧ (va_D A (xN cA r (u1041, a1041, th, LP, tf))) ∧ (va_S A s.heap H locs) ∧ (lv_has ls 6 [(4, .int (nI s7)), (3, .int (nI (2 ^ g 0 - 1))), (0, .ref (r 0)), (1, .int (nI t0)), (2, .int w)])) z.1 z.2.1 z.2.2) (fun z => (fun (s7 : Nat) (u1041 : (Nat → Int32)) (a1041 : (Nat → Nat → Int32)) => (2 ^ g 0 - 1) + 1 - s7) z.1 z.2.1 z.2.2) (0, u, a) ⟨(show 0 ≤ (2 ^ g 0 - 1) + 1 from Nat.zero_le _), (show ∀ j, j < 0 → a 11 j = nI (BF g T j t0).1 from (fun j h => absurd h (Nat.not_lt_zero j))), (fun i h11 h12 => rfl), (fun i h11 h23 h24 h25 => rfl), hP, hD, hS, lv_sub hl [0, 1, 2, 3, 4] rfl⟩ ?_
        rintro ⟨s7, u1041, a1041⟩ H locs ls ⟨hs7, hlo, hfu41, hfa41, hP, hD, hS, hl⟩ ih41
        have hs7 : s7 ≤ (2 ^ g 0 - 1) + 1 := hs7
        have hlo : ∀ j, j < s7 → a1041 11 j = nI (BF g T j t0).1 := hlo
        have hfu41 : ∀ i : Nat, i ≠ 11 → i ≠ 12 → u1041 i = u i := hfu41
        have hfa41 : ∀ i : Nat, i ≠ 11 → i ≠ 23 → i ≠ 24 → i ≠ 25 → a1041 i = a i := hfa41
        have hP : va_P D vwCl (xN cA r (u1041, a1041, th, LP, tf)) H := hP
        have hD : va_D A (xN cA r (u1041, a1041, th, LP, tf)) := hD
        have hl : lv_has ls 6 [(4, .int (nI s7)), (3, .int (nI (2 ^ g 0 - 1))), (0, .ref (r 0)), (1, .int (nI t0)), (2, .int w)] := hl
        refine lv_iload hx hb dX9_two_41 (lv_at hl 0 rfl) ?_
        refine lv_iload_n hx hb dX9_two_43 rfl (lv_at hl 1 rfl) ?_
        refine rn_gt (x := s7) (y := 2 ^ g 0 - 1) (tgt := 87) hx hb (by omega) (by omega) dX9_two_44 (by decide) (fun c_13 => ?_) (fun c_13 => ?_)
        · have hle : ∀ j, j ≤ (2 ^ g 0 - 1) → a1041 11 j = nI (BF g T j t0).1 := fun j hj => hlo j (by omega)
          have hbl : ∀ j, j ≤ (2 ^ g 0 - 1) → w2 g T t0 j ≤ 40000 := fun j hj => by have h1 := BF_le (t := t0) hB (Nat.lt_of_le_of_lt hj (all_lt _)) (by omega); have h2 := BF_le (t := t0) (S := (2 ^ g 0 - 1) - j) hB (by omega) (by omega); unfold w2; omega
          refine lv_iconst (v := (nI 0)) hx hb dX9_two_87 rfl ?_
          refine lv_istore (lv' := [(4, .int (nI 0)), (3, .int (nI (2 ^ g 0 - 1))), (0, .ref (r 0)), (1, .int (nI t0)), (2, .int w)]) hx hb dX9_two_88 hl (by decide) rfl (fun ls hl => ?_)
          refine lv_iconst (v := (nI 1)) hx hb dX9_two_90 rfl ?_
          refine lv_istore (lv' := [(5, .int (nI 1)), (4, .int (nI 0)), (3, .int (nI (2 ^ g 0 - 1))), (0, .ref (r 0)), (1, .int (nI t0)), (2, .int w)]) hx hb dX9_two_91 hl (by decide) rfl (fun ls hl => ?_)
          refine wLoop (τ := Nat) (fun z H locs ls => (fun (s8 : Nat) => (1 ≤ s8) ∧ (s8 ≤ (2 ^ g 0 - 1) + 1) ∧ (va_P D vwCl (xN cA r (u1041, a1041, th, LP, tf)) H) ∧ (va_D A (xN cA r (u1041, a1041, th, LP, tf))) ∧ (va_S A s.heap H locs) ∧ (lv_has ls 6 [(5, .int (nI s8)), (4, .int (nI (am (w2 g T t0) (s8 - 1)))), (3, .int (nI (2 ^ g 0 - 1))), (0, .ref (r 0)), (1, .int (nI t0)), (2, .int w)])) z) (fun z => (fun (s8 : Nat) => (2 ^ g 0 - 1) + 1 - s8) z) (1) ⟨(show 1 ≤ 1 from Nat.le_refl 1), (show 1 ≤ (2 ^ g 0 - 1) + 1 from by omega), hP, hD, hS, lv_sub hl [0, 1, 2, 3, 4, 5] rfl⟩ ?_
          rintro s8 H locs ls ⟨hs81, hs82, hP, hD, hS, hl⟩ ih93
          have hs81 : 1 ≤ s8 := hs81
          have hs82 : s8 ≤ (2 ^ g 0 - 1) + 1 := hs82
          have hP : va_P D vwCl (xN cA r (u1041, a1041, th, LP, tf)) H := hP
          have hD : va_D A (xN cA r (u1041, a1041, th, LP, tf)) := hD
          have hl : lv_has ls 6 [(5, .int (nI s8)), (4, .int (nI (am (w2 g T t0) (s8 - 1)))), (3, .int (nI (2 ^ g 0 - 1))), (0, .ref (r 0)), (1, .int (nI t0)), (2, .int w)] := hl
          refine lv_iload hx hb dX9_two_93 (lv_at hl 0 rfl) ?_
          refine lv_iload_n hx hb dX9_two_95 rfl (lv_at hl 2 rfl) ?_
          refine rn_gt (x := s8) (y := 2 ^ g 0 - 1) (tgt := 124) hx hb (by omega) (by omega) dX9_two_96 (by decide) (fun c_14 => ?_) (fun c_14 => ?_)
          · have hs8 : s8 - 1 = (2 ^ g 0 - 1) := by omega
            have hl : lv_has ls 6 [(5, .int (nI s8)), (4, .int (nI (am (w2 g T t0) (2 ^ g 0 - 1)))), (3, .int (nI (2 ^ g 0 - 1))), (0, .ref (r 0)), (1, .int (nI t0)), (2, .int w)] := lv_re hl 1 ⟨rfl, rfl⟩ (congrArg nI (by rw [hs8]))
            have ham := am_le (w2 g T t0) (2 ^ g 0 - 1)
            have hb1 := hbl _ ham
            refine lv_iload_n hx hb dX9_two_124 rfl (lv_at hl 5 rfl) ?_
            refine lv_if_ne (tgt := 133) hx hb dX9_two_125 (by decide) (fun c_15 => ?_) (fun c_15 => ?_)
            · refine lv_aload_n hx hb dX9_two_133 rfl (lv_at hl 3 rfl) ?_
              refine lv_iload hx hb dX9_two_134 (lv_at hl 1 rfl) ?_
              refine wVi (eO_S tO) (As := [.int (nI (am (w2 g T t0) (2 ^ g 0 - 1)))]) (rest := []) ⟨hx, hb, hml, hown, hts⟩ (kX9_harmOfBoth l D cA r _ u1041 a1041 th LP tf tO g T (fun j => (BF g T j t0).1) (am (w2 g T t0) (2 ^ g 0 - 1)) (NT.keep (NT.keep hM (hfu41 1 (by decide) (by decide)) (hfa41 13 (by decide) (by decide) (by decide) (by decide)) (hfa41 14 (by decide) (by decide) (by decide) (by decide)) (hfa41 15 (by decide) (by decide) (by decide) (by decide)) (hfa41 16 (by decide) (by decide) (by decide) (by decide))) rfl rfl rfl rfl rfl) hB (by omega) hle) (cwV 1 hts gX9_two_X9_harmOfBoth rfl rfl rfl (by decide +kernel) ⟨Nat.le_of_ble_eq_true rfl, Nat.le_of_ble_eq_true rfl⟩) (va_recv hK hP (ci := 9) (q0 := 0) rfl rfl) hK hP hD hS hA hE rfl hl.1 rfl (Nat.le_of_ble_eq_true rfl) dX9_two_136 ⟨Nat.zero_le _, Nat.zero_le _⟩ (fun rv_16 z_18 H locs hw_17 hP hD hS => ?_)
              obtain ⟨rfl, rfl⟩ := hw_17
              have hP : va_P D vwCl (xN cA r (u1041, a1041, th, LP, tf)) H := hP
              have hD : va_D A (xN cA r (u1041, a1041, th, LP, tf)) := hD
              exact wIret hx hb hr hlocks (v := (nI (w2 g T t0 (am (w2 g T t0) (2 ^ g 0 - 1))))) (u1041, a1041, th, LP, tf) (⟨by unfold aTwo; rw [cif_neg (by omega), cif_pos ⟨b_4, b_8⟩, cif_neg c_15, ht4], (CI.keep hI ((hfu41 0 (by decide) (by decide)).trans hf0) ((hfu41 13 (by decide) (by decide)).trans htr) (fun i hi9 => hfu41 i (by omega) (by omega)) (fun i hi9 => hfa41 i (by omega) (by omega) (by omega) (by omega)))⟩) hK hP hD hS dX9_two_139
            · refine lv_iload hx hb dX9_two_128 (lv_at hl 1 rfl) ?_
              refine lv_goto (tgt := 139) hx hb dX9_two_130 (by decide) ?_
              exact wIret hx hb hr hlocks (v := (nI (am (w2 g T t0) (2 ^ g 0 - 1)))) (u1041, a1041, th, LP, tf) (⟨by unfold aTwo; rw [cif_neg (by omega), cif_pos ⟨b_4, b_8⟩, cif_pos c_15, ht4], (CI.keep hI ((hfu41 0 (by decide) (by decide)).trans hf0) ((hfu41 13 (by decide) (by decide)).trans htr) (fun i hi9 => hfu41 i (by omega) (by omega)) (fun i hi9 => hfa41 i (by omega) (by omega) (by omega) (by omega)))⟩) hK hP hD hS dX9_two_139
          · have ham := am_le (w2 g T t0) (s8 - 1)
            have hb1 := hbl _ (show am (w2 g T t0) (s8 - 1) ≤ (2 ^ g 0 - 1) by omega)
            have hb3 := hbl s8 (by omega)
            refine lv_aload_n hx hb dX9_two_99 rfl (lv_at hl 3 rfl) ?_
            refine lv_iload hx hb dX9_two_100 (lv_at hl 0 rfl) ?_
            refine wVi (eO_S tO) (As := [.int (nI s8)]) (rest := []) ⟨hx, hb, hml, hown, hts⟩ (kX9_harmOfBoth l D cA r _ u1041 a1041 th LP tf tO g T (fun j => (BF g T j t0).1) s8 (NT.keep (NT.keep hM (hfu41 1 (by decide) (by decide)) (hfa41 13 (by decide) (by decide) (by decide) (by decide)) (hfa41 14 (by decide) (by decide) (by decide) (by decide)) (hfa41 15 (by decide) (by decide) (by decide) (by decide)) (hfa41 16 (by decide) (by decide) (by decide) (by decide))) rfl rfl rfl rfl rfl) hB (by omega) hle) (cwV 1 hts gX9_two_X9_harmOfBoth rfl rfl rfl (by decide +kernel) ⟨Nat.le_of_ble_eq_true rfl, Nat.le_of_ble_eq_true rfl⟩) (va_recv hK hP (ci := 9) (q0 := 0) rfl rfl) hK hP hD hS hA hE rfl hl.1 rfl (Nat.le_of_ble_eq_true rfl) dX9_two_102 ⟨Nat.zero_le _, Nat.zero_le _⟩ (fun rv_19 z_21 H locs hw_20 hP hD hS => ?_)
            obtain ⟨rfl, rfl⟩ := hw_20
            have hP : va_P D vwCl (xN cA r (u1041, a1041, th, LP, tf)) H := hP
            have hD : va_D A (xN cA r (u1041, a1041, th, LP, tf)) := hD
            refine lv_aload_n hx hb dX9_two_105 rfl (lv_at hl 3 rfl) ?_
            refine lv_iload hx hb dX9_two_106 (lv_at hl 1 rfl) ?_
            refine wVi (eO_S tO) (As := [.int (nI (am (w2 g T t0) (s8 - 1)))]) (rest := [.int (nI (w2 g T t0 s8))]) ⟨hx, hb, hml, hown, hts⟩ (kX9_harmOfBoth l D cA r _ u1041 a1041 th LP tf tO g T (fun j => (BF g T j t0).1) (am (w2 g T t0) (s8 - 1)) (NT.keep (NT.keep hM (hfu41 1 (by decide) (by decide)) (hfa41 13 (by decide) (by decide) (by decide) (by decide)) (hfa41 14 (by decide) (by decide) (by decide) (by decide)) (hfa41 15 (by decide) (by decide) (by decide) (by decide)) (hfa41 16 (by decide) (by decide) (by decide) (by decide))) rfl rfl rfl rfl rfl) hB (by omega) hle) (cwV 1 hts gX9_two_X9_harmOfBoth rfl rfl rfl (by decide +kernel) ⟨Nat.le_of_ble_eq_true rfl, Nat.le_of_ble_eq_true rfl⟩) (va_recv hK hP (ci := 9) (q0 := 0) rfl rfl) hK hP hD hS hA hE rfl hl.1 rfl (Nat.le_of_ble_eq_true rfl) dX9_two_108 ⟨Nat.zero_le _, Nat.zero_le _⟩ (fun rv_22 z_24 H locs hw_23 hP hD hS => ?_)
            obtain ⟨rfl, rfl⟩ := hw_23
            have hP : va_P D vwCl (xN cA r (u1041, a1041, th, LP, tf)) H := hP
            have hD : va_D A (xN cA r (u1041, a1041, th, LP, tf)) := hD
            refine rn_ge (x := w2 g T t0 s8) (y := w2 g T t0 (am (w2 g T t0) (s8 - 1))) (tgt := 118) hx hb (by omega) (by omega) dX9_two_111 (by decide) (fun c_25 => ?_) (fun c_25 => ?_)
            · refine rn_iinc (x := s8) (d := 1) (lv' := [(5, .int (nI (s8 + 1))), (4, .int (nI (am (w2 g T t0) (s8 - 1)))), (3, .int (nI (2 ^ g 0 - 1))), (0, .ref (r 0)), (1, .int (nI t0)), (2, .int w)]) hx hb rfl dX9_two_118 hl (k := 0) rfl (by decide) rfl (fun ls hl => ?_)
              refine lv_goto (tgt := 93) hx hb dX9_two_121 (by decide) ?_
              have hl : lv_has ls 6 [(5, .int (nI (s8 + 1))), (4, .int (nI (am (w2 g T t0) (s8 + 1 - 1)))), (3, .int (nI (2 ^ g 0 - 1))), (0, .ref (r 0)), (1, .int (nI t0)), (2, .int w)] := lv_re hl 1 ⟨rfl, rfl⟩ (congrArg nI (by rw [show s8 + 1 - 1 = s8 - 1 + 1 by omega]; exact (am_no (by rw [show s8 - 1 + 1 = s8 by omega]; omega)).symm))
              exact ih93 ((s8 + 1)) _ _ _ (show (2 ^ g 0 - 1) + 1 - (s8 + 1) < (2 ^ g 0 - 1) + 1 - s8 from by omega) ⟨(show 1 ≤ (s8 + 1) from by omega), (show (s8 + 1) ≤ (2 ^ g 0 - 1) + 1 from by omega), hP, hD, hS, lv_sub hl [0, 1, 2, 3, 4, 5] rfl⟩
            · refine lv_iload hx hb dX9_two_114 (lv_at hl 0 rfl) ?_
              refine lv_istore (lv' := [(4, .int (nI s8)), (5, .int (nI s8)), (3, .int (nI (2 ^ g 0 - 1))), (0, .ref (r 0)), (1, .int (nI t0)), (2, .int w)]) hx hb dX9_two_116 hl (by decide) rfl (fun ls hl => ?_)
              refine rn_iinc (x := s8) (d := 1) (lv' := [(5, .int (nI (s8 + 1))), (4, .int (nI s8)), (3, .int (nI (2 ^ g 0 - 1))), (0, .ref (r 0)), (1, .int (nI t0)), (2, .int w)]) hx hb rfl dX9_two_118 hl (k := 1) rfl (by decide) rfl (fun ls hl => ?_)
              refine lv_goto (tgt := 93) hx hb dX9_two_121 (by decide) ?_
              have hl : lv_has ls 6 [(5, .int (nI (s8 + 1))), (4, .int (nI (am (w2 g T t0) (s8 + 1 - 1)))), (3, .int (nI (2 ^ g 0 - 1))), (0, .ref (r 0)), (1, .int (nI t0)), (2, .int w)] := lv_re hl 1 ⟨rfl, rfl⟩ (congrArg nI (by rw [show s8 + 1 - 1 = s8 - 1 + 1 by omega]; exact (am_yes (by rw [show s8 - 1 + 1 = s8 by omega]; omega) |>.trans (by omega)).symm))
              exact ih93 ((s8 + 1)) _ _ _ (show (2 ^ g 0 - 1) + 1 - (s8 + 1) < (2 ^ g 0 - 1) + 1 - s8 from by omega) ⟨(show 1 ≤ (s8 + 1) from by omega), (show (s8 + 1) ≤ (2 ^ g 0 - 1) + 1 from by omega), hP, hD, hS, lv_sub hl [0, 1, 2, 3, 4, 5] rfl⟩
        · refine lv_iload hx hb dX9_two_47 (lv_at hl 0 rfl) ?_
          refine lv_aload_n hx hb dX9_two_49 rfl (lv_at hl 2 rfl) ?_
          refine va_get (D := D) (ci := 9) (v := .ref (r 11)) (C := RX9) (T := TX9) (N := 8) hx hb hts hinX9 hown hK hP 0 rfl rfl 5 (by decide) (hts (.fieldLink RX9 47 "OneNail" "leastOf" "[I") (by decide +kernel)) (fun _ h9 => h9) rfl dX9_two_50 ?_
          refine va_alen hx hb hK hP 12 0 (v := nI 64) rfl rfl rfl dX9_two_53 ?_
          refine rn_ge (x := s7) (y := 64) (tgt := 87) hx hb (by omega) (by omega) dX9_two_54 (by decide) (fun c_26 => absurd c_26 (by omega)) (fun c_26 => ?_)
          refine lv_aload_n hx hb dX9_two_57 rfl (lv_at hl 2 rfl) ?_
          refine va_get (D := D) (ci := 9) (v := .ref (r 11)) (C := RX9) (T := TX9) (N := 8) hx hb hts hinX9 hown hK hP 0 rfl rfl 5 (by decide) (hts (.fieldLink RX9 47 "OneNail" "leastOf" "[I") (by decide +kernel)) (fun _ h9 => h9) rfl dX9_two_58 ?_
          refine lv_iload hx hb dX9_two_61 (lv_at hl 0 rfl) ?_
          refine lv_aload_n hx hb dX9_two_63 rfl (lv_at hl 2 rfl) ?_
          refine va_get (D := D) (ci := 9) (v := .ref (r 4)) (C := RX9) (T := TX9) (N := 8) hx hb hts hinX9 hown hK hP 0 rfl rfl 3 (by decide) (hts (.fieldLink RX9 37 "OneNail" "orders" "LOneNail$Orders;") (by decide +kernel)) (fun _ h9 => h9) rfl dX9_two_64 ?_
          refine lv_iload hx hb dX9_two_67 (lv_at hl 0 rfl) ?_
          refine lv_aload_n hx hb dX9_two_69 rfl (lv_at hl 2 rfl) ?_
          refine va_get (D := D) (ci := 9) (v := .ref (r 1)) (C := RX9) (T := TX9) (N := 8) hx hb hts hinX9 hown hK hP 0 rfl rfl 0 (by decide) (hts (.fieldLink RX9 12 "OneNail" "town" "LOneNail$Street;") (by decide +kernel)) (fun _ h9 => h9) rfl dX9_two_70 ?_
          refine va_get (D := D) (ci := 5) (v := .int (nI (g 1))) (C := RX5) (T := TX5) (N := 8) hx hb hts hinX5 hown hK hP 1 rfl rfl 1 (by decide) (hts (.fieldLink RX9 115 "OneNail$Street" "smithyPlace" "I") (by decide +kernel)) (fun _ h9 => h9) (congrArg (fun z => some (Value.int z)) ((hfu41 2 (by decide) (by decide)).trans (hsm))) dX9_two_73 ?_
          refine lv_iload_n hx hb dX9_two_76 rfl (lv_at hl 3 rfl) ?_
          refine wVi (eO_S tO) (As := [.int (nI s7), .int (nI (g 1)), .int (nI t0)]) (rest := [.int (nI s7), .ref (r 11)]) ⟨hx, hb, hml, hown, hts⟩ (kX2_leastHarm l D cA r _ u1041 a1041 th LP tf tO g T s7 t0 (NT.keep (NT.keep hM (hfu41 1 (by decide) (by decide)) (hfa41 13 (by decide) (by decide) (by decide) (by decide)) (hfa41 14 (by decide) (by decide) (by decide) (by decide)) (hfa41 15 (by decide) (by decide) (by decide) (by decide)) (hfa41 16 (by decide) (by decide) (by decide) (by decide))) rfl rfl rfl rfl rfl) hB (by omega) (by omega) (ol s7 (g 0)) rfl) (cwV 3 hts gX9_two_X2_leastHarm rfl rfl rfl (by decide +kernel) ⟨Nat.le_of_ble_eq_true rfl, Nat.le_of_ble_eq_true rfl⟩) (va_recv hK hP (ci := 2) (q0 := 4) rfl rfl) hK hP hD hS hA hE rfl hl.1 rfl (Nat.le_of_ble_eq_true rfl) dX9_two_77 ⟨Nat.zero_le _, Nat.zero_le _⟩ (fun rv_27 z_29 H locs hw_28 hP hD hS => ?_)
          obtain ⟨zu30, za31, zq32⟩ := z_29
          obtain ⟨rfl, hbr_zu30, hu11_zu30, hfu_zu30, hfa_zu30, hzq_zu30⟩ := hw_28
          have hzq_zu30 : zq32 = (th, LP, tf) := hzq_zu30
          subst hzq_zu30
          have hbr_zu30 : ∀ i, i < ol s7 (g 0) → za31 25 i = nI (dg (BF g T s7 t0).2 i) := hbr_zu30
          have hu11_zu30 : zu30 11 = nI (ol s7 (g 0)) := hu11_zu30
          have hfu_zu30 : ∀ i, i ≠ 11 → i ≠ 12 → zu30 i = u1041 i := hfu_zu30
          have hfa_zu30 : ∀ i, i ≠ 23 → i ≠ 24 → i ≠ 25 → za31 i = a1041 i := hfa_zu30
          have hP : va_P D vwCl (xN cA r (zu30, za31, th, LP, tf)) H := hP
          have hD : va_D A (xN cA r (zu30, za31, th, LP, tf)) := hD
          refine ra_iast hx hb hK hP hD hS 12 0 (n := 64) (f := (za31 11)) (j := s7) (x := (nI ((BF g T s7 t0).1))) rfl rfl (by omega) (by decide) dX9_two_80 (fun H locs hP hD hS => ?_)
          have hP : va_P D vwCl (xN cA r (zu30, (va_up za31 11 (upd (za31 11) s7 (nI ((BF g T s7 t0).1)))), th, LP, tf)) H := hP
          have hD : va_D A (xN cA r (zu30, (va_up za31 11 (upd (za31 11) s7 (nI ((BF g T s7 t0).1)))), th, LP, tf)) := hD
          refine rn_iinc (x := s7) (d := 1) (lv' := [(4, .int (nI (s7 + 1))), (3, .int (nI (2 ^ g 0 - 1))), (0, .ref (r 0)), (1, .int (nI t0)), (2, .int w)]) hx hb rfl dX9_two_81 hl (k := 0) rfl (by decide) rfl (fun ls hl => ?_)
          refine lv_goto (tgt := 41) hx hb dX9_two_84 (by decide) ?_
          exact ih41 ((s7 + 1), zu30, (va_up za31 11 (upd (za31 11) s7 (nI ((BF g T s7 t0).1))))) _ _ _ (show (2 ^ g 0 - 1) + 1 - (s7 + 1) < (2 ^ g 0 - 1) + 1 - s7 from by omega) ⟨(show (s7 + 1) ≤ (2 ^ g 0 - 1) + 1 from by omega), (show ∀ j, j < (s7 + 1) → (va_up za31 11 (upd (za31 11) s7 (nI ((BF g T s7 t0).1)))) 11 j = nI (BF g T j t0).1 from (show ∀ j, j < s7 + 1 → (upd (za31 11) s7 (nI ((BF g T s7 t0).1))) j = nI (BF g T j t0).1 from arr_push (F := fun j => nI (BF g T j t0).1) (fun j hj => (congrFun (hfa_zu30 11 (by decide) (by decide) (by decide)) j).trans (hlo j hj)) rfl)), (fun i h11 h12 => Eq.trans (hfu_zu30 i h11 h12) (hfu41 i h11 h12)), (fun i h11 h23 h24 h25 => Eq.trans (vup_ne h11) (Eq.trans (hfa_zu30 i h23 h24 h25) (hfa41 i h11 h23 h24 h25))), hP, hD, hS, lv_sub hl [0, 1, 2, 3, 4] rfl⟩
      · refine lv_if_ne (tgt := 30) hx hb dX9_two_24 (by decide) (fun c_33 => absurd c_33 (by decide)) (fun _ => ?_)
        refine lv_bipush (v := (-2)) hx hb dX9_two_27 (by decide) ?_
        exact wIret hx hb hr hlocks (v := (-2)) (u, a, th, LP, tf) (⟨by unfold aTwo; rw [cif_neg (by omega), cif_neg (fun q => b_8 q.2)], hI⟩) hK hP hD hS dX9_two_29
    · refine lv_if_eq (tgt := 27) hx hb dX9_two_17 (by decide) (fun _ => ?_) (fun c_34 => absurd c_34 (by decide))
      refine lv_bipush (v := (-2)) hx hb dX9_two_27 (by decide) ?_
      exact wIret hx hb hr hlocks (v := (-2)) (u, a, th, LP, tf) (⟨by unfold aTwo; rw [cif_neg (by omega), cif_neg (fun q => b_4 q.1)], hI⟩) hK hP hD hS dX9_two_29
  · refine lv_bipush (v := (-3)) hx hb dX9_two_10 (by decide) ?_
    exact wIret hx hb hr hlocks (v := (-3)) (u, a, th, LP, tf) (⟨by unfold aTwo; rw [cif_pos (by omega)], hI⟩) hK hP hD hS dX9_two_12

set_option maxHeartbeats 4000000 in
set_option maxRecDepth 100000 in
theorem kX9_site (l : Launch) (D : va_G) (cA : Nat → ClassId) (r : Nat → Nat) (sz : Nat) (u : Nat → Int32) (a : Nat → Nat → Int32) (th : Nat → Option Nat) (LP : List Nat) (tf : Nat → va_E) (tO : Nat) (g : Nat → Nat) (T : Nat → Nat → Nat) (R : Nat → Nat → Nat) (so : Nat → Int32) (ln : Nat → Nat) (ce : Nat → Nat → Int32) (f tr : Int32) (t w : Int32) (hI : CI u a th LP tf g T R so ln ce f tr) : Met l yX9_site wsX9_site ({ frames := 3, cells := 0, slots := 0, locals := 77 } : Room) (va_Pc [.ref (r 0), .int t, .int w] (wA D vwCl (tyA cA) (eO tO) (xN cA r) (u, a, th, LP, tf) sz)) (va_Qi (fun (v : Int32) (z : sN) => v = aSite g T t w ∧ CI z.1 z.2.1 z.2.2.1 z.2.2.2.1 z.2.2.2.2 g T R so ln ce f tr) (wB D vwCl (tyA cA) (xN cA r) (va_A (xN cA r (u, a, th, LP, tf)) sz)) (va_A (xN cA r (u, a, th, LP, tf)) sz)) 0 0 (va_A (xN cA r (u, a, th, LP, tf)) sz) := by
  refine Met.ofW (cc := cX9_site) (maxL := 7) (ret := (some .int)) (by decide) rfl ?_
  intro p e s m args below meth c s₁ B hml hv
  obtain ⟨rfl, hsz, hP, hK, hD0, hE⟩ := hv
  have hx := B.exec
  have hb := B.bytes
  have hr := B.returns
  have hts := atoms_spec (ws := wsX9_site) B.pre
  have hown : s.vm.findClass RX9 = some m.cls := findClass_of_methodNamed B.named
  have hlocks := B.notSynchronized
  subst hsz
  have hD := hD0.self (sz := s.heap.size)
  generalize hAe : va_A (xN cA r (u, a, th, LP, tf)) s.heap.size = A at hD hE ⊢
  have hA : ∀ q : Nat, s.heap.size ≤ q → A q := fun q h => by rw [← hAe]; exact Or.inr h
  have hS : va_S A s.heap s.heap [] := va_S.rf
  have hinX5 : ∀ w ∈ u_ws RX5 TX5 8, w ∈ wsX9_site := by decide +kernel
  have hinX9 : ∀ w ∈ u_ws RX9 TX9 8, w ∈ wsX9_site := by decide +kernel
  have hl := lv_entry ([.ref (r 0), .int t, .int w]) (n := 7) (Nat.le_of_ble_eq_true rfl)
  rw [lg_entry_eq]
  generalize (lg_sl ([.ref (r 0), .int t, .int w]) ++ List.replicate (7 - (lg_sl ([.ref (r 0), .int t, .int w])).length) Slot.unset).toArray = ls at hl ⊢
  have hl : lv_has ls 7 [(0, .ref (r 0)), (1, .int t), (2, .int w)] := hl
  have hM := hI.1
  have hB := hI.2.1
  have hg6 := hB.1
  have hsm := hI.2.2.1
  have hrs := hI.2.2.2.1
  have hRd := hI.2.2.2.2.1
  have hSh := hI.2.2.2.2.2.1
  have hf0 := hI.2.2.2.2.2.2.1
  have htr := hI.2.2.2.2.2.2.2.1
  have hPo := hI.2.2.2.2.2.2.2.2
  refine lv_aload_n hx hb dX9_site_0 rfl (lv_at hl 0 rfl) ?_
  refine va_get (D := D) (ci := 9) (v := .ref (r 1)) (C := RX9) (T := TX9) (N := 8) hx hb hts hinX9 hown hK hP 0 rfl rfl 0 (by decide) (hts (.fieldLink RX9 12 "OneNail" "town" "LOneNail$Street;") (by decide +kernel)) (fun _ h9 => h9) rfl dX9_site_1 ?_
  refine va_get (D := D) (ci := 5) (v := .int (nI (g 0))) (C := RX5) (T := TX5) (N := 8) hx hb hts hinX5 hown hK hP 1 rfl rfl 0 (by decide) (hts (.fieldLink RX9 83 "OneNail$Street" "count" "I") (by decide +kernel)) (fun _ h9 => h9) (congrArg (fun z => some (Value.int z)) (hM.1)) dX9_site_4 ?_
  refine rz_ne (x := g 0) (tgt := 13) hx hb (by omega) dX9_site_7 (by decide) (fun c_1 => ?_) (fun c_1 => ?_)
  · refine lv_iload_n hx hb dX9_site_13 rfl (lv_at hl 1 rfl) ?_
    refine wSi (As := [.int t]) (rest := []) ⟨hx, hb, hml, hown, hts⟩ (kX9_isSpan l t) (va_cwS 1 hts gX9_site_X9_isSpan rfl rfl rfl (by decide +kernel) ⟨Nat.le_of_ble_eq_true rfl, Nat.le_of_ble_eq_true rfl⟩) rfl hl.1 rfl (Nat.le_of_ble_eq_true rfl) dX9_site_14 ⟨Nat.zero_le _, Nat.zero_le _⟩ (fun rv_2 hw_3 => ?_)
    rcases hw_3 with ⟨rfl, b_4⟩ | ⟨rfl, b_4⟩
    · obtain ⟨t0, ht1, ht2, ht3, ht4⟩ := inR_of (show inR t 1 300 from b_4) (by decide) (by decide)
      have hl : lv_has ls 7 [(0, .ref (r 0)), (1, .int (nI t0)), (2, .int w)] := lv_re hl 1 ⟨rfl, rfl⟩ (ht1)
      refine lv_if_eq (tgt := 27) hx hb dX9_site_17 (by decide) (fun c_5 => absurd c_5 (by decide)) (fun _ => ?_)
      refine lv_iload_n hx hb dX9_site_20 rfl (lv_at hl 2 rfl) ?_
      refine wSi (As := [.int w]) (rest := []) ⟨hx, hb, hml, hown, hts⟩ (kX9_isHalf l w) (va_cwS 1 hts gX9_site_X9_isHalf rfl rfl rfl (by decide +kernel) ⟨Nat.le_of_ble_eq_true rfl, Nat.le_of_ble_eq_true rfl⟩) rfl hl.1 rfl (Nat.le_of_ble_eq_true rfl) dX9_site_21 ⟨Nat.zero_le _, Nat.zero_le _⟩ (fun rv_6 hw_7 => ?_)
      rcases hw_7 with ⟨rfl, b_8⟩ | ⟨rfl, b_8⟩
      · refine lv_if_ne (tgt := 30) hx hb dX9_site_24 (by decide) (fun _ => ?_) (fun c_9 => absurd c_9 (by decide))
        refine lv_iconst (v := (nI 0)) hx hb dX9_site_30 rfl ?_
        refine lv_istore_n (lv' := [(3, .int (nI 0)), (0, .ref (r 0)), (1, .int (nI t0)), (2, .int w)]) hx hb dX9_site_31 rfl hl (by decide) rfl (fun ls hl => ?_)
        refine lv_aload_n hx hb dX9_site_32 rfl (lv_at hl 1 rfl) ?_
        refine va_get (D := D) (ci := 9) (v := .ref (r 4)) (C := RX9) (T := TX9) (N := 8) hx hb hts hinX9 hown hK hP 0 rfl rfl 3 (by decide) (hts (.fieldLink RX9 37 "OneNail" "orders" "LOneNail$Orders;") (by decide +kernel)) (fun _ h9 => h9) rfl dX9_site_33 ?_
        refine lv_aload_n hx hb dX9_site_36 rfl (lv_at hl 1 rfl) ?_
        refine va_get (D := D) (ci := 9) (v := .ref (r 1)) (C := RX9) (T := TX9) (N := 8) hx hb hts hinX9 hown hK hP 0 rfl rfl 0 (by decide) (hts (.fieldLink RX9 12 "OneNail" "town" "LOneNail$Street;") (by decide +kernel)) (fun _ h9 => h9) rfl dX9_site_37 ?_
        refine wVi (eO_S tO) (As := []) (rest := [.ref (r 4)]) ⟨hx, hb, hml, hown, hts⟩ (kX5_all l D cA r _ u a th LP tf tO g T hM hB) (cwV 0 hts gX9_site_X5_all rfl rfl rfl (by decide +kernel) ⟨Nat.le_of_ble_eq_true rfl, Nat.le_of_ble_eq_true rfl⟩) (va_recv hK hP (ci := 5) (q0 := 1) rfl rfl) hK hP hD hS hA hE rfl hl.1 rfl (Nat.le_of_ble_eq_true rfl) dX9_site_40 ⟨Nat.zero_le _, Nat.zero_le _⟩ (fun rv_10 z_12 H locs hw_11 hP hD hS => ?_)
        obtain ⟨rfl, rfl⟩ := hw_11
        have hP : va_P D vwCl (xN cA r (u, a, th, LP, tf)) H := hP
        have hD : va_D A (xN cA r (u, a, th, LP, tf)) := hD
        refine lv_iconst (v := (nI 0)) hx hb dX9_site_43 rfl ?_
        refine lv_iload_n hx hb dX9_site_44 rfl (lv_at hl 2 rfl) ?_
        refine wVi (eO_S tO) (As := [.int (nI (2 ^ g 0 - 1)), .int (nI 0), .int (nI t0)]) (rest := []) ⟨hx, hb, hml, hown, hts⟩ (kX2_leastHarm l D cA r _ u a th LP tf tO (gu g 1 (0)) T (2 ^ g 0 - 1) t0 hM (TB_gu1 hB (by omega)) (by omega) (all_lt _) (ol (2 ^ g 0 - 1) (g 0)) rfl) (cwV 3 hts gX9_site_X2_leastHarm rfl rfl rfl (by decide +kernel) ⟨Nat.le_of_ble_eq_true rfl, Nat.le_of_ble_eq_true rfl⟩) (va_recv hK hP (ci := 2) (q0 := 4) rfl rfl) hK hP hD hS hA hE rfl hl.1 rfl (Nat.le_of_ble_eq_true rfl) dX9_site_45 ⟨Nat.zero_le _, Nat.zero_le _⟩ (fun rv_13 z_15 H locs hw_14 hP hD hS => ?_)
        obtain ⟨zu16, za17, zq18⟩ := z_15
        obtain ⟨rfl, hbr_zu16, hu11_zu16, hfu_zu16, hfa_zu16, hzq_zu16⟩ := hw_14
        have hzq_zu16 : zq18 = (th, LP, tf) := hzq_zu16
        subst hzq_zu16
        have hbr_zu16 : ∀ i, i < ol (2 ^ g 0 - 1) (g 0) → za17 25 i = nI (dg (BF (gu g 1 (0)) T (2 ^ g 0 - 1) t0).2 i) := hbr_zu16
        have hu11_zu16 : zu16 11 = nI (ol (2 ^ g 0 - 1) (g 0)) := hu11_zu16
        have hfu_zu16 : ∀ i, i ≠ 11 → i ≠ 12 → zu16 i = u i := hfu_zu16
        have hfa_zu16 : ∀ i, i ≠ 23 → i ≠ 24 → i ≠ 25 → za17 i = a i := hfa_zu16
        have hP : va_P D vwCl (xN cA r (zu16, za17, th, LP, tf)) H := hP
        have hD : va_D A (xN cA r (zu16, za17, th, LP, tf)) := hD
        refine lv_istore (lv' := [(4, .int (nI ((BF (gu g 1 (0)) T (2 ^ g 0 - 1) t0).1))), (3, .int (nI 0)), (0, .ref (r 0)), (1, .int (nI t0)), (2, .int w)]) hx hb dX9_site_48 hl (by decide) rfl (fun ls hl => ?_)
        refine lv_iconst (v := (nI 1)) hx hb dX9_site_50 rfl ?_
        refine lv_istore (lv' := [(5, .int (nI 1)), (4, .int (nI ((BF (gu g 1 (0)) T (2 ^ g 0 - 1) t0).1))), (3, .int (nI 0)), (0, .ref (r 0)), (1, .int (nI t0)), (2, .int w)]) hx hb dX9_site_51 hl (by decide) rfl (fun ls hl => ?_)
        have hl : lv_has ls 7 [(5, .int (nI 1)), (4, .int (nI ((BF (gu g 1 (0)) T (2 ^ g 0 - 1) t0).1))), (3, .int (nI (am (ws g T t0) (1 - 1)))), (0, .ref (r 0)), (1, .int (nI t0)), (2, .int w)] := lv_re hl 2 ⟨rfl, rfl⟩ (rfl)
        have hl : lv_has ls 7 [(5, .int (nI 1)), (4, .int (nI (ws g T t0 (am (ws g T t0) (1 - 1))))), (3, .int (nI (am (ws g T t0) (1 - 1)))), (0, .ref (r 0)), (1, .int (nI t0)), (2, .int w)] := lv_re hl 1 ⟨rfl, rfl⟩ (rfl)
        refine wLoop (τ := Nat × (Nat → Int32) × (Nat → Nat → Int32)) (fun z H locs ls => (fun (x7 : Nat) (u1053 : (Nat → Int32)) (a1053 : (Nat → Nat → Int32)) => (1 ≤ x7) ∧ (x7 ≤ 10) ∧ (∀ i : Nat, i ≠ 11 → i ≠ 12 → u1053 i = zu16 i) ∧ (∀ i : Nat, i ≠ 23 → i ≠ 24 → i ≠ 25 → a1053 i = za17 i) ∧ (va_P D vwCl (xN cA r (u1053, a1053, th, LP, tf)) H) ∧ (va_D A (xN cA r (u1053, a1053, th, LP, tf))) ∧ (va_S A s.heap H locs) ∧ (lv_has ls 7 [(5, .int (nI x7)), (3, .int (nI (am (ws g T t0) (x7 - 1)))), (4, .int (nI (ws g T t0 (am (ws g T t0) (x7 - 1))))), (0, .ref (r 0)), (1, .int (nI t0)), (2, .int w)])) z.1 z.2.1 z.2.2) (fun z => (fun (x7 : Nat) (u1053 : (Nat → Int32)) (a1053 : (Nat → Nat → Int32)) => 10 - x7) z.1 z.2.1 z.2.2) (1, zu16, za17) ⟨(show 1 ≤ 1 from Nat.le_refl 1), (show 1 ≤ 10 from by omega), (fun i h11 h12 => rfl), (fun i h23 h24 h25 => rfl), hP, hD, hS, lv_sub hl [0, 2, 1, 3, 4, 5] rfl⟩ ?_
        rintro ⟨x7, u1053, a1053⟩ H locs ls ⟨hx71, hx7, hfu53, hfa53, hP, hD, hS, hl⟩ ih53
        have hx71 : 1 ≤ x7 := hx71
        have hx7 : x7 ≤ 10 := hx7
        have hfu53 : ∀ i : Nat, i ≠ 11 → i ≠ 12 → u1053 i = zu16 i := hfu53
        have hfa53 : ∀ i : Nat, i ≠ 23 → i ≠ 24 → i ≠ 25 → a1053 i = za17 i := hfa53
        have hP : va_P D vwCl (xN cA r (u1053, a1053, th, LP, tf)) H := hP
        have hD : va_D A (xN cA r (u1053, a1053, th, LP, tf)) := hD
        have hl : lv_has ls 7 [(5, .int (nI x7)), (3, .int (nI (am (ws g T t0) (x7 - 1)))), (4, .int (nI (ws g T t0 (am (ws g T t0) (x7 - 1))))), (0, .ref (r 0)), (1, .int (nI t0)), (2, .int w)] := hl
        refine lv_iload hx hb dX9_site_53 (lv_at hl 0 rfl) ?_
        refine lv_bipush (v := (nI 9)) hx hb dX9_site_55 rfl ?_
        refine rn_gt (x := x7) (y := 9) (tgt := 104) hx hb (by omega) (by omega) dX9_site_57 (by decide) (fun c_19 => ?_) (fun c_19 => ?_)
        · have ham9 : am (ws g T t0) 9 = am (ws g T t0) (x7 - 1) := by rw [show x7 - 1 = 9 by omega]
          have hl : lv_has ls 7 [(5, .int (nI x7)), (3, .int (nI (am (ws g T t0) 9))), (4, .int (nI (ws g T t0 (am (ws g T t0) (x7 - 1))))), (0, .ref (r 0)), (1, .int (nI t0)), (2, .int w)] := lv_re hl 1 ⟨rfl, rfl⟩ (congrArg nI ham9.symm)
          have hl : lv_has ls 7 [(5, .int (nI x7)), (3, .int (nI (am (ws g T t0) 9))), (4, .int (nI (ws g T t0 (am (ws g T t0) 9)))), (0, .ref (r 0)), (1, .int (nI t0)), (2, .int w)] := lv_re hl 2 ⟨rfl, rfl⟩ (congrArg nI (by rw [ham9]))
          refine lv_iload_n hx hb dX9_site_104 rfl (lv_at hl 5 rfl) ?_
          refine lv_if_ne (tgt := 112) hx hb dX9_site_105 (by decide) (fun c_20 => ?_) (fun c_20 => ?_)
          · refine lv_iload hx hb dX9_site_112 (lv_at hl 2 rfl) ?_
            exact wIret hx hb hr hlocks (v := (nI (ws g T t0 (am (ws g T t0) 9)))) (u1053, a1053, th, LP, tf) (⟨by unfold aSite; rw [cif_neg (by omega), cif_pos ⟨b_4, b_8⟩, cif_neg c_20, ht4], (CI.keep hI ((Eq.trans (hfu53 0 (by decide) (by decide)) (hfu_zu16 0 (by decide) (by decide))).trans hf0) ((Eq.trans (hfu53 13 (by decide) (by decide)) (hfu_zu16 13 (by decide) (by decide))).trans htr) (fun i hi9 => Eq.trans (hfu53 i (by omega) (by omega)) (hfu_zu16 i (by omega) (by omega))) (fun i hi9 => Eq.trans (hfa53 i (by omega) (by omega) (by omega)) (hfa_zu16 i (by omega) (by omega) (by omega))))⟩) hK hP hD hS dX9_site_114
          · refine lv_iload_n hx hb dX9_site_108 rfl (lv_at hl 1 rfl) ?_
            refine lv_goto (tgt := 114) hx hb dX9_site_109 (by decide) ?_
            exact wIret hx hb hr hlocks (v := (nI (am (ws g T t0) 9))) (u1053, a1053, th, LP, tf) (⟨by unfold aSite; rw [cif_neg (by omega), cif_pos ⟨b_4, b_8⟩, cif_pos c_20, ht4], (CI.keep hI ((Eq.trans (hfu53 0 (by decide) (by decide)) (hfu_zu16 0 (by decide) (by decide))).trans hf0) ((Eq.trans (hfu53 13 (by decide) (by decide)) (hfu_zu16 13 (by decide) (by decide))).trans htr) (fun i hi9 => Eq.trans (hfu53 i (by omega) (by omega)) (hfu_zu16 i (by omega) (by omega))) (fun i hi9 => Eq.trans (hfa53 i (by omega) (by omega) (by omega)) (hfa_zu16 i (by omega) (by omega) (by omega))))⟩) hK hP hD hS dX9_site_114
        · have ham := am_le (ws g T t0) (x7 - 1)
          have hwm : ws g T t0 (am (ws g T t0) (x7 - 1)) ≤ 20000 := BF_le (t := t0) (TB_gu1 hB (show am (ws g T t0) (x7 - 1) ≤ 9 by omega)) (show (2 ^ g 0 - 1) < 2 ^ (gu g 1 (am (ws g T t0) (x7 - 1))) 0 from all_lt _) (by omega)
          refine lv_iload hx hb dX9_site_60 (lv_at hl 2 rfl) ?_
          refine rz_le (x := ws g T t0 (am (ws g T t0) (x7 - 1))) (tgt := 104) hx hb (by omega) dX9_site_62 (by decide) (fun c_21 => ?_) (fun c_21 => ?_)
          · have ham9 : am (ws g T t0) 9 = am (ws g T t0) (x7 - 1) := by have h0 : ws g T t0 (am (ws g T t0) (x7 - 1)) = 0 := (by omega); have := am_stop h0 (9 - (x7 - 1)); rw [show x7 - 1 + (9 - (x7 - 1)) = 9 by omega] at this; exact this
            have hl : lv_has ls 7 [(5, .int (nI x7)), (3, .int (nI (am (ws g T t0) 9))), (4, .int (nI (ws g T t0 (am (ws g T t0) (x7 - 1))))), (0, .ref (r 0)), (1, .int (nI t0)), (2, .int w)] := lv_re hl 1 ⟨rfl, rfl⟩ (congrArg nI ham9.symm)
            have hl : lv_has ls 7 [(5, .int (nI x7)), (3, .int (nI (am (ws g T t0) 9))), (4, .int (nI (ws g T t0 (am (ws g T t0) 9)))), (0, .ref (r 0)), (1, .int (nI t0)), (2, .int w)] := lv_re hl 2 ⟨rfl, rfl⟩ (congrArg nI (by rw [ham9]))
            refine lv_iload_n hx hb dX9_site_104 rfl (lv_at hl 5 rfl) ?_
            refine lv_if_ne (tgt := 112) hx hb dX9_site_105 (by decide) (fun c_22 => ?_) (fun c_22 => ?_)
            · refine lv_iload hx hb dX9_site_112 (lv_at hl 2 rfl) ?_
              exact wIret hx hb hr hlocks (v := (nI (ws g T t0 (am (ws g T t0) 9)))) (u1053, a1053, th, LP, tf) (⟨by unfold aSite; rw [cif_neg (by omega), cif_pos ⟨b_4, b_8⟩, cif_neg c_22, ht4], (CI.keep hI ((Eq.trans (hfu53 0 (by decide) (by decide)) (hfu_zu16 0 (by decide) (by decide))).trans hf0) ((Eq.trans (hfu53 13 (by decide) (by decide)) (hfu_zu16 13 (by decide) (by decide))).trans htr) (fun i hi9 => Eq.trans (hfu53 i (by omega) (by omega)) (hfu_zu16 i (by omega) (by omega))) (fun i hi9 => Eq.trans (hfa53 i (by omega) (by omega) (by omega)) (hfa_zu16 i (by omega) (by omega) (by omega))))⟩) hK hP hD hS dX9_site_114
            · refine lv_iload_n hx hb dX9_site_108 rfl (lv_at hl 1 rfl) ?_
              refine lv_goto (tgt := 114) hx hb dX9_site_109 (by decide) ?_
              exact wIret hx hb hr hlocks (v := (nI (am (ws g T t0) 9))) (u1053, a1053, th, LP, tf) (⟨by unfold aSite; rw [cif_neg (by omega), cif_pos ⟨b_4, b_8⟩, cif_pos c_22, ht4], (CI.keep hI ((Eq.trans (hfu53 0 (by decide) (by decide)) (hfu_zu16 0 (by decide) (by decide))).trans hf0) ((Eq.trans (hfu53 13 (by decide) (by decide)) (hfu_zu16 13 (by decide) (by decide))).trans htr) (fun i hi9 => Eq.trans (hfu53 i (by omega) (by omega)) (hfu_zu16 i (by omega) (by omega))) (fun i hi9 => Eq.trans (hfa53 i (by omega) (by omega) (by omega)) (hfa_zu16 i (by omega) (by omega) (by omega))))⟩) hK hP hD hS dX9_site_114
          · refine lv_aload_n hx hb dX9_site_65 rfl (lv_at hl 3 rfl) ?_
            refine va_get (D := D) (ci := 9) (v := .ref (r 4)) (C := RX9) (T := TX9) (N := 8) hx hb hts hinX9 hown hK hP 0 rfl rfl 3 (by decide) (hts (.fieldLink RX9 37 "OneNail" "orders" "LOneNail$Orders;") (by decide +kernel)) (fun _ h9 => h9) rfl dX9_site_66 ?_
            refine lv_aload_n hx hb dX9_site_69 rfl (lv_at hl 3 rfl) ?_
            refine va_get (D := D) (ci := 9) (v := .ref (r 1)) (C := RX9) (T := TX9) (N := 8) hx hb hts hinX9 hown hK hP 0 rfl rfl 0 (by decide) (hts (.fieldLink RX9 12 "OneNail" "town" "LOneNail$Street;") (by decide +kernel)) (fun _ h9 => h9) rfl dX9_site_70 ?_
            refine wVi (eO_S tO) (As := []) (rest := [.ref (r 4)]) ⟨hx, hb, hml, hown, hts⟩ (kX5_all l D cA r _ u1053 a1053 th LP tf tO g T (NT.keep (NT.keep hM (hfu_zu16 1 (by decide) (by decide)) (hfa_zu16 13 (by decide) (by decide) (by decide)) (hfa_zu16 14 (by decide) (by decide) (by decide)) (hfa_zu16 15 (by decide) (by decide) (by decide)) (hfa_zu16 16 (by decide) (by decide) (by decide))) (hfu53 1 (by decide) (by decide)) (hfa53 13 (by decide) (by decide) (by decide)) (hfa53 14 (by decide) (by decide) (by decide)) (hfa53 15 (by decide) (by decide) (by decide)) (hfa53 16 (by decide) (by decide) (by decide))) hB) (cwV 0 hts gX9_site_X5_all rfl rfl rfl (by decide +kernel) ⟨Nat.le_of_ble_eq_true rfl, Nat.le_of_ble_eq_true rfl⟩) (va_recv hK hP (ci := 5) (q0 := 1) rfl rfl) hK hP hD hS hA hE rfl hl.1 rfl (Nat.le_of_ble_eq_true rfl) dX9_site_73 ⟨Nat.zero_le _, Nat.zero_le _⟩ (fun rv_23 z_25 H locs hw_24 hP hD hS => ?_)
            obtain ⟨rfl, rfl⟩ := hw_24
            have hP : va_P D vwCl (xN cA r (u1053, a1053, th, LP, tf)) H := hP
            have hD : va_D A (xN cA r (u1053, a1053, th, LP, tf)) := hD
            refine lv_iload hx hb dX9_site_76 (lv_at hl 0 rfl) ?_
            refine lv_iload_n hx hb dX9_site_78 rfl (lv_at hl 4 rfl) ?_
            refine wVi (eO_S tO) (As := [.int (nI (2 ^ g 0 - 1)), .int (nI x7), .int (nI t0)]) (rest := []) ⟨hx, hb, hml, hown, hts⟩ (kX2_leastHarm l D cA r _ u1053 a1053 th LP tf tO (gu g 1 (x7)) T (2 ^ g 0 - 1) t0 (NT.keep (NT.keep hM (hfu_zu16 1 (by decide) (by decide)) (hfa_zu16 13 (by decide) (by decide) (by decide)) (hfa_zu16 14 (by decide) (by decide) (by decide)) (hfa_zu16 15 (by decide) (by decide) (by decide)) (hfa_zu16 16 (by decide) (by decide) (by decide))) (hfu53 1 (by decide) (by decide)) (hfa53 13 (by decide) (by decide) (by decide)) (hfa53 14 (by decide) (by decide) (by decide)) (hfa53 15 (by decide) (by decide) (by decide)) (hfa53 16 (by decide) (by decide) (by decide))) (TB_gu1 hB (by omega)) (by omega) (all_lt _) (ol (2 ^ g 0 - 1) (g 0)) rfl) (cwV 3 hts gX9_site_X2_leastHarm rfl rfl rfl (by decide +kernel) ⟨Nat.le_of_ble_eq_true rfl, Nat.le_of_ble_eq_true rfl⟩) (va_recv hK hP (ci := 2) (q0 := 4) rfl rfl) hK hP hD hS hA hE rfl hl.1 rfl (Nat.le_of_ble_eq_true rfl) dX9_site_79 ⟨Nat.zero_le _, Nat.zero_le _⟩ (fun rv_26 z_28 H locs hw_27 hP hD hS => ?_)
            obtain ⟨zu29, za30, zq31⟩ := z_28
            obtain ⟨rfl, hbr_zu29, hu11_zu29, hfu_zu29, hfa_zu29, hzq_zu29⟩ := hw_27
            have hzq_zu29 : zq31 = (th, LP, tf) := hzq_zu29
            subst hzq_zu29
            have hbr_zu29 : ∀ i, i < ol (2 ^ g 0 - 1) (g 0) → za30 25 i = nI (dg (BF (gu g 1 (x7)) T (2 ^ g 0 - 1) t0).2 i) := hbr_zu29
            have hu11_zu29 : zu29 11 = nI (ol (2 ^ g 0 - 1) (g 0)) := hu11_zu29
            have hfu_zu29 : ∀ i, i ≠ 11 → i ≠ 12 → zu29 i = u1053 i := hfu_zu29
            have hfa_zu29 : ∀ i, i ≠ 23 → i ≠ 24 → i ≠ 25 → za30 i = a1053 i := hfa_zu29
            have hP : va_P D vwCl (xN cA r (zu29, za30, th, LP, tf)) H := hP
            have hD : va_D A (xN cA r (zu29, za30, th, LP, tf)) := hD
            have hwl : ws g T t0 x7 ≤ 20000 := BF_le (t := t0) (TB_gu1 hB (show x7 ≤ 9 by omega)) (show (2 ^ g 0 - 1) < 2 ^ (gu g 1 (x7)) 0 from all_lt _) (by omega)
            refine lv_topi (fun y_32 ey_32 => ?_)
            obtain rfl : y_32 = (nI (ws g T t0 x7)) := ey_32.trans (rfl)
            refine lv_istore (lv' := [(6, .int (nI (ws g T t0 x7))), (5, .int (nI x7)), (3, .int (nI (am (ws g T t0) (x7 - 1)))), (4, .int (nI (ws g T t0 (am (ws g T t0) (x7 - 1))))), (0, .ref (r 0)), (1, .int (nI t0)), (2, .int w)]) hx hb dX9_site_82 hl (by decide) rfl (fun ls hl => ?_)
            refine lv_iload hx hb dX9_site_84 (lv_at hl 0 rfl) ?_
            refine lv_iload hx hb dX9_site_86 (lv_at hl 3 rfl) ?_
            refine rn_ge (x := ws g T t0 x7) (y := ws g T t0 (am (ws g T t0) (x7 - 1))) (tgt := 98) hx hb (by omega) (by omega) dX9_site_88 (by decide) (fun c_33 => ?_) (fun c_33 => ?_)
            · refine rn_iinc (x := x7) (d := 1) (lv' := [(5, .int (nI (x7 + 1))), (6, .int (nI (ws g T t0 x7))), (3, .int (nI (am (ws g T t0) (x7 - 1)))), (4, .int (nI (ws g T t0 (am (ws g T t0) (x7 - 1))))), (0, .ref (r 0)), (1, .int (nI t0)), (2, .int w)]) hx hb rfl dX9_site_98 hl (k := 1) rfl (by decide) rfl (fun ls hl => ?_)
              refine lv_goto (tgt := 53) hx hb dX9_site_101 (by decide) ?_
              have hay : am (ws g T t0) (x7 + 1 - 1) = am (ws g T t0) (x7 - 1) := by rw [show x7 + 1 - 1 = x7 - 1 + 1 by omega]; exact am_no (by rw [show x7 - 1 + 1 = x7 by omega]; exact Nat.not_lt.mpr c_33)
              have hl : lv_has ls 7 [(5, .int (nI (x7 + 1))), (6, .int (nI (ws g T t0 x7))), (3, .int (nI (am (ws g T t0) (x7 + 1 - 1)))), (4, .int (nI (ws g T t0 (am (ws g T t0) (x7 - 1))))), (0, .ref (r 0)), (1, .int (nI t0)), (2, .int w)] := lv_re hl 2 ⟨rfl, rfl⟩ (congrArg nI hay.symm)
              have hl : lv_has ls 7 [(5, .int (nI (x7 + 1))), (6, .int (nI (ws g T t0 x7))), (3, .int (nI (am (ws g T t0) (x7 + 1 - 1)))), (4, .int (nI (ws g T t0 (am (ws g T t0) (x7 + 1 - 1))))), (0, .ref (r 0)), (1, .int (nI t0)), (2, .int w)] := lv_re hl 3 ⟨rfl, rfl⟩ (congrArg nI (by rw [hay]))
              exact ih53 ((x7 + 1), zu29, za30) _ _ _ (show 10 - (x7 + 1) < 10 - x7 from by omega) ⟨(show 1 ≤ (x7 + 1) from by omega), (show (x7 + 1) ≤ 10 from by omega), (fun i h11 h12 => Eq.trans (hfu_zu29 i h11 h12) (hfu53 i h11 h12)), (fun i h23 h24 h25 => Eq.trans (hfa_zu29 i h23 h24 h25) (hfa53 i h23 h24 h25)), hP, hD, hS, lv_sub hl [0, 2, 3, 4, 5, 6] rfl⟩
            · refine lv_iload hx hb dX9_site_91 (lv_at hl 0 rfl) ?_
              refine lv_istore (lv' := [(4, .int (nI (ws g T t0 x7))), (6, .int (nI (ws g T t0 x7))), (5, .int (nI x7)), (3, .int (nI (am (ws g T t0) (x7 - 1)))), (0, .ref (r 0)), (1, .int (nI t0)), (2, .int w)]) hx hb dX9_site_93 hl (by decide) rfl (fun ls hl => ?_)
              refine lv_iload hx hb dX9_site_95 (lv_at hl 2 rfl) ?_
              refine lv_istore_n (lv' := [(3, .int (nI x7)), (4, .int (nI (ws g T t0 x7))), (6, .int (nI (ws g T t0 x7))), (5, .int (nI x7)), (0, .ref (r 0)), (1, .int (nI t0)), (2, .int w)]) hx hb dX9_site_97 rfl hl (by decide) rfl (fun ls hl => ?_)
              refine rn_iinc (x := x7) (d := 1) (lv' := [(5, .int (nI (x7 + 1))), (3, .int (nI x7)), (4, .int (nI (ws g T t0 x7))), (6, .int (nI (ws g T t0 x7))), (0, .ref (r 0)), (1, .int (nI t0)), (2, .int w)]) hx hb rfl dX9_site_98 hl (k := 3) rfl (by decide) rfl (fun ls hl => ?_)
              refine lv_goto (tgt := 53) hx hb dX9_site_101 (by decide) ?_
              have hay : am (ws g T t0) (x7 + 1 - 1) = x7 := by rw [show x7 + 1 - 1 = x7 - 1 + 1 by omega]; exact (am_yes (by rw [show x7 - 1 + 1 = x7 by omega]; exact c_33)).trans (by omega)
              have hl : lv_has ls 7 [(5, .int (nI (x7 + 1))), (3, .int (nI (am (ws g T t0) (x7 + 1 - 1)))), (4, .int (nI (ws g T t0 x7))), (6, .int (nI (ws g T t0 x7))), (0, .ref (r 0)), (1, .int (nI t0)), (2, .int w)] := lv_re hl 1 ⟨rfl, rfl⟩ (congrArg nI hay.symm)
              have hl : lv_has ls 7 [(5, .int (nI (x7 + 1))), (3, .int (nI (am (ws g T t0) (x7 + 1 - 1)))), (4, .int (nI (ws g T t0 (am (ws g T t0) (x7 + 1 - 1))))), (6, .int (nI (ws g T t0 x7))), (0, .ref (r 0)), (1, .int (nI t0)), (2, .int w)] := lv_re hl 2 ⟨rfl, rfl⟩ (congrArg nI (by rw [hay]))
              exact ih53 ((x7 + 1), zu29, za30) _ _ _ (show 10 - (x7 + 1) < 10 - x7 from by omega) ⟨(show 1 ≤ (x7 + 1) from by omega), (show (x7 + 1) ≤ 10 from by omega), (fun i h11 h12 => Eq.trans (hfu_zu29 i h11 h12) (hfu53 i h11 h12)), (fun i h23 h24 h25 => Eq.trans (hfa_zu29 i h23 h24 h25) (hfa53 i h23 h24 h25)), hP, hD, hS, lv_sub hl [0, 1, 2, 4, 5, 6] rfl⟩
      · refine lv_if_ne (tgt := 30) hx hb dX9_site_24 (by decide) (fun c_34 => absurd c_34 (by decide)) (fun _ => ?_)
        refine lv_bipush (v := (-2)) hx hb dX9_site_27 (by decide) ?_
        exact wIret hx hb hr hlocks (v := (-2)) (u, a, th, LP, tf) (⟨by unfold aSite; rw [cif_neg (by omega), cif_neg (fun q => b_8 q.2)], hI⟩) hK hP hD hS dX9_site_29
    · refine lv_if_eq (tgt := 27) hx hb dX9_site_17 (by decide) (fun _ => ?_) (fun c_35 => absurd c_35 (by decide))
      refine lv_bipush (v := (-2)) hx hb dX9_site_27 (by decide) ?_
      exact wIret hx hb hr hlocks (v := (-2)) (u, a, th, LP, tf) (⟨by unfold aSite; rw [cif_neg (by omega), cif_neg (fun q => b_4 q.1)], hI⟩) hK hP hD hS dX9_site_29
  · refine lv_bipush (v := (-3)) hx hb dX9_site_10 (by decide) ?_
    exact wIret hx hb hr hlocks (v := (-3)) (u, a, th, LP, tf) (⟨by unfold aSite; rw [cif_pos (by omega)], hI⟩) hK hP hD hS dX9_site_12

set_option maxHeartbeats 4000000 in
set_option maxRecDepth 100000 in
theorem kX9_fits (l : Launch) (D : va_G) (cA : Nat → ClassId) (r : Nat → Nat) (sz : Nat) (u : Nat → Int32) (a : Nat → Nat → Int32) (th : Nat → Option Nat) (LP : List Nat) (tf : Nat → va_E) (tO : Nat) (g : Nat → Nat) (T : Nat → Nat → Nat) (R : Nat → Nat → Nat) (so : Nat → Int32) (ln : Nat → Nat) (ce : Nat → Nat → Int32) (f tr : Int32) (q : Int32) (hI : CI u a th LP tf g T R so ln ce f tr) : Met l yX9_fits wsX9_fits ({ frames := 3, cells := 0, slots := 0, locals := 75 } : Room) (va_Pc [.ref (r 0), .int q] (wA D vwCl (tyA cA) (eO tO) (xN cA r) (u, a, th, LP, tf) sz)) (va_Qi (fun (v : Int32) (z : sN) => v = aFits g T R q ∧ CI z.1 z.2.1 z.2.2.1 z.2.2.2.1 z.2.2.2.2 g T R so ln ce f tr) (wB D vwCl (tyA cA) (xN cA r) (va_A (xN cA r (u, a, th, LP, tf)) sz)) (va_A (xN cA r (u, a, th, LP, tf)) sz)) 0 0 (va_A (xN cA r (u, a, th, LP, tf)) sz) := by
  refine Met.ofW (cc := cX9_fits) (maxL := 3) (ret := (some .int)) (by decide) rfl ?_
  intro p e s m args below meth c s₁ B hml hv
  obtain ⟨rfl, hsz, hP, hK, hD0, hE⟩ := hv
  have hx := B.exec
  have hb := B.bytes
  have hr := B.returns
  have hts := atoms_spec (ws := wsX9_fits) B.pre
  have hown : s.vm.findClass RX9 = some m.cls := findClass_of_methodNamed B.named
  have hlocks := B.notSynchronized
  subst hsz
  have hD := hD0.self (sz := s.heap.size)
  generalize hAe : va_A (xN cA r (u, a, th, LP, tf)) s.heap.size = A at hD hE ⊢
  have hA : ∀ q : Nat, s.heap.size ≤ q → A q := fun q h => by rw [← hAe]; exact Or.inr h
  have hS : va_S A s.heap s.heap [] := va_S.rf
  have hinX5 : ∀ w ∈ u_ws RX5 TX5 8, w ∈ wsX9_fits := by decide +kernel
  have hinX9 : ∀ w ∈ u_ws RX9 TX9 8, w ∈ wsX9_fits := by decide +kernel
  have hl := lv_entry ([.ref (r 0), .int q]) (n := 3) (Nat.le_of_ble_eq_true rfl)
  rw [lg_entry_eq]
  generalize (lg_sl ([.ref (r 0), .int q]) ++ List.replicate (3 - (lg_sl ([.ref (r 0), .int q])).length) Slot.unset).toArray = ls at hl ⊢
  have hl : lv_has ls 3 [(0, .ref (r 0)), (1, .int q)] := hl
  have hM := hI.1
  have hB := hI.2.1
  have hg6 := hB.1
  have hsm := hI.2.2.1
  have hrs := hI.2.2.2.1
  have hRd := hI.2.2.2.2.1
  have hSh := hI.2.2.2.2.2.1
  have hf0 := hI.2.2.2.2.2.2.1
  have htr := hI.2.2.2.2.2.2.2.1
  have hPo := hI.2.2.2.2.2.2.2.2
  refine lv_aload_n hx hb dX9_fits_0 rfl (lv_at hl 0 rfl) ?_
  refine va_get (D := D) (ci := 9) (v := .ref (r 1)) (C := RX9) (T := TX9) (N := 8) hx hb hts hinX9 hown hK hP 0 rfl rfl 0 (by decide) (hts (.fieldLink RX9 12 "OneNail" "town" "LOneNail$Street;") (by decide +kernel)) (fun _ h9 => h9) rfl dX9_fits_1 ?_
  refine va_get (D := D) (ci := 5) (v := .int (nI (g 0))) (C := RX5) (T := TX5) (N := 8) hx hb hts hinX5 hown hK hP 1 rfl rfl 0 (by decide) (hts (.fieldLink RX9 83 "OneNail$Street" "count" "I") (by decide +kernel)) (fun _ h9 => h9) (congrArg (fun z => some (Value.int z)) (hM.1)) dX9_fits_4 ?_
  refine rz_ne (x := g 0) (tgt := 13) hx hb (by omega) dX9_fits_7 (by decide) (fun c_1 => ?_) (fun c_1 => ?_)
  · refine lv_iload_n hx hb dX9_fits_13 rfl (lv_at hl 1 rfl) ?_
    refine lv_iconst (v := (-1)) hx hb dX9_fits_14 (by decide) ?_
    refine lv_icmp_lt (tgt := 29) hx hb dX9_fits_15 (by decide) (fun c_2 => ?_) (fun c_2 => ?_)
    · refine lv_iconst (v := (-1)) hx hb dX9_fits_29 (by decide) ?_
      exact wIret hx hb hr hlocks (v := (-1)) (u, a, th, LP, tf) (⟨by unfold aFits; rw [cif_neg (by omega), cif_neg (fun w => ((m1_lt (by omega) hg6).mp w).1 c_2)], hI⟩) hK hP hD hS dX9_fits_30
    · refine lv_iload_n hx hb dX9_fits_18 rfl (lv_at hl 1 rfl) ?_
      refine lv_aload_n hx hb dX9_fits_19 rfl (lv_at hl 0 rfl) ?_
      refine va_get (D := D) (ci := 9) (v := .ref (r 1)) (C := RX9) (T := TX9) (N := 8) hx hb hts hinX9 hown hK hP 0 rfl rfl 0 (by decide) (hts (.fieldLink RX9 12 "OneNail" "town" "LOneNail$Street;") (by decide +kernel)) (fun _ h9 => h9) rfl dX9_fits_20 ?_
      refine va_get (D := D) (ci := 5) (v := .int (nI (g 0))) (C := RX5) (T := TX5) (N := 8) hx hb hts hinX5 hown hK hP 1 rfl rfl 0 (by decide) (hts (.fieldLink RX9 83 "OneNail$Street" "count" "I") (by decide +kernel)) (fun _ h9 => h9) (congrArg (fun z => some (Value.int z)) (hM.1)) dX9_fits_23 ?_
      refine lv_icmp_lt (tgt := 31) hx hb dX9_fits_26 (by decide) (fun c_3 => ?_) (fun c_3 => ?_)
      · have hbq : (-1) ≤ q ∧ q ≤ nI (g 0 - 1) := (m1_lt (by omega) hg6).mpr ⟨c_2, c_3⟩
        refine lv_aload_n hx hb dX9_fits_31 rfl (lv_at hl 0 rfl) ?_
        refine va_get (D := D) (ci := 9) (v := .ref (r 4)) (C := RX9) (T := TX9) (N := 8) hx hb hts hinX9 hown hK hP 0 rfl rfl 3 (by decide) (hts (.fieldLink RX9 37 "OneNail" "orders" "LOneNail$Orders;") (by decide +kernel)) (fun _ h9 => h9) rfl dX9_fits_32 ?_
        refine lv_aload_n hx hb dX9_fits_35 rfl (lv_at hl 0 rfl) ?_
        refine va_get (D := D) (ci := 9) (v := .ref (r 1)) (C := RX9) (T := TX9) (N := 8) hx hb hts hinX9 hown hK hP 0 rfl rfl 0 (by decide) (hts (.fieldLink RX9 12 "OneNail" "town" "LOneNail$Street;") (by decide +kernel)) (fun _ h9 => h9) rfl dX9_fits_36 ?_
        refine wVi (eO_S tO) (As := []) (rest := [.ref (r 4)]) ⟨hx, hb, hml, hown, hts⟩ (kX5_all l D cA r _ u a th LP tf tO g T hM hB) (cwV 0 hts gX9_fits_X5_all rfl rfl rfl (by decide +kernel) ⟨Nat.le_of_ble_eq_true rfl, Nat.le_of_ble_eq_true rfl⟩) (va_recv hK hP (ci := 5) (q0 := 1) rfl rfl) hK hP hD hS hA hE rfl hl.1 rfl (Nat.le_of_ble_eq_true rfl) dX9_fits_39 ⟨Nat.zero_le _, Nat.zero_le _⟩ (fun rv_4 z_6 H locs hw_5 hP hD hS => ?_)
        obtain ⟨rfl, rfl⟩ := hw_5
        have hP : va_P D vwCl (xN cA r (u, a, th, LP, tf)) H := hP
        have hD : va_D A (xN cA r (u, a, th, LP, tf)) := hD
        refine lv_aload_n hx hb dX9_fits_42 rfl (lv_at hl 0 rfl) ?_
        refine va_get (D := D) (ci := 9) (v := .ref (r 2)) (C := RX9) (T := TX9) (N := 8) hx hb hts hinX9 hown hK hP 0 rfl rfl 1 (by decide) (hts (.fieldLink RX9 21 "OneNail" "seen" "LOneNail$Readings;") (by decide +kernel)) (fun _ h9 => h9) rfl dX9_fits_43 ?_
        refine wVi (eO_S tO) (As := [.int (nI (2 ^ g 0 - 1)), .ref (r 2)]) (rest := []) ⟨hx, hb, hml, hown, hts⟩ (kX2_countFitting l D cA r _ u a th LP tf tO g T (2 ^ g 0 - 1) (g 3) (R 0) (R 1) (R 2) hM hB hsm hRd.1 hRd.2.1 hRd.2.2.1 hRd.2.2.2.1 hRd.2.2.2.2 (all_bi hg6) (all_lt _) (ol (2 ^ g 0 - 1) (g 0)) rfl (by rw [ol_all _ hg6]; omega)) (cwV 2 hts gX9_fits_X2_countFitting rfl rfl rfl (by decide +kernel) ⟨Nat.le_of_ble_eq_true rfl, Nat.le_of_ble_eq_true rfl⟩) (va_recv hK hP (ci := 2) (q0 := 4) rfl rfl) hK hP hD hS hA hE rfl hl.1 rfl (Nat.le_of_ble_eq_true rfl) dX9_fits_46 ⟨Nat.zero_le _, Nat.zero_le _⟩ (fun rv_7 z_9 H locs hw_8 hP hD hS => ?_)
        obtain ⟨zu10, za11, zq12⟩ := z_9
        obtain ⟨rfl, hfk_zu10, hu11_zu10, hfu_zu10, hfa_zu10, hzq_zu10⟩ := hw_8
        have hzq_zu10 : zq12 = (th, LP, tf) := hzq_zu10
        subst hzq_zu10
        have hfk_zu10 : 0 < cfF g T R → ∀ i, i < ol (2 ^ g 0 - 1) (g 0) → za11 25 i = nI (dg (ftF g T R) i) := hfk_zu10
        have hu11_zu10 : zu10 11 = nI (ol (2 ^ g 0 - 1) (g 0)) := hu11_zu10
        have hfu_zu10 : ∀ i, i ≠ 11 → i ≠ 12 → zu10 i = u i := hfu_zu10
        have hfa_zu10 : ∀ i, i ≠ 23 → i ≠ 24 → i ≠ 25 → za11 i = a i := hfa_zu10
        have hP : va_P D vwCl (xN cA r (zu10, za11, th, LP, tf)) H := hP
        have hD : va_D A (xN cA r (zu10, za11, th, LP, tf)) := hD
        refine lv_istore_n (lv' := [(2, .int (nI (cfF g T R))), (0, .ref (r 0)), (1, .int q)]) hx hb dX9_fits_49 rfl hl (by decide) rfl (fun ls hl => ?_)
        have hct := cfF_le hg6 T R
        refine lv_iload_n hx hb dX9_fits_50 rfl (lv_at hl 2 rfl) ?_
        refine lv_iconst (v := (-1)) hx hb dX9_fits_51 (by decide) ?_
        refine lv_icmp_ne (tgt := 57) hx hb dX9_fits_52 (by decide) (fun c_13 => ?_) (fun c_13 => ?_)
        · refine lv_iload_n hx hb dX9_fits_57 rfl (lv_at hl 0 rfl) ?_
          refine rz_ne (x := cfF g T R) (tgt := 66) hx hb (by omega) dX9_fits_58 (by decide) (fun c_14 => ?_) (fun c_14 => ?_)
          · obtain ⟨q0, hq01, hq02⟩ := nI_of (m1_of hbq.1 c_13)
            have hq4c : q.toNatClampNeg = q0 := by rw [hq02]; exact nI_clamp hq01
            have hq0g : q0 ≤ g 0 - 1 := (nI_leI hq01 (by omega)).mp (hq02 ▸ hbq.2)
            have hl : lv_has ls 3 [(2, .int (nI (cfF g T R))), (0, .ref (r 0)), (1, .int (nI q0))] := lv_re hl 2 ⟨rfl, rfl⟩ (hq02)
            refine lv_aload_n hx hb dX9_fits_66 rfl (lv_at hl 1 rfl) ?_
            refine va_get (D := D) (ci := 9) (v := .ref (r 4)) (C := RX9) (T := TX9) (N := 8) hx hb hts hinX9 hown hK hP 0 rfl rfl 3 (by decide) (hts (.fieldLink RX9 37 "OneNail" "orders" "LOneNail$Orders;") (by decide +kernel)) (fun _ h9 => h9) rfl dX9_fits_67 ?_
            refine lv_iload_n hx hb dX9_fits_70 rfl (lv_at hl 2 rfl) ?_
            refine wVi (eO_S tO) (As := [.int (nI q0)]) (rest := []) ⟨hx, hb, hml, hown, hts⟩ (kX2_keptAt l D cA r _ zu10 za11 th LP tf tO q0 (ol (2 ^ g 0 - 1) (g 0)) (hu11_zu10) (by have := ol_le (2 ^ g 0 - 1) (g 0); omega) (by rw [ol_all _ hg6]; omega)) (cwV 1 hts gX9_fits_X2_keptAt rfl rfl rfl (by decide +kernel) ⟨Nat.le_of_ble_eq_true rfl, Nat.le_of_ble_eq_true rfl⟩) (va_recv hK hP (ci := 2) (q0 := 4) rfl rfl) hK hP hD hS hA hE rfl hl.1 rfl (Nat.le_of_ble_eq_true rfl) dX9_fits_71 ⟨Nat.zero_le _, Nat.zero_le _⟩ (fun rv_15 z_17 H locs hw_16 hP hD hS => ?_)
            obtain ⟨rfl, rfl⟩ := hw_16
            have hP : va_P D vwCl (xN cA r (zu10, za11, th, LP, tf)) H := hP
            have hD : va_D A (xN cA r (zu10, za11, th, LP, tf)) := hD
            exact wIret hx hb hr hlocks (v := ((za11 25) q0)) (zu10, za11, th, LP, tf) (⟨by unfold aFits; rw [cif_neg (by omega), cif_pos hbq, cif_neg c_13, cif_neg (by omega), hq4c]; exact hfk_zu10 (by omega) q0 (by rw [ol_all _ hg6]; omega), (CI.keep hI ((hfu_zu10 0 (by decide) (by decide)).trans hf0) ((hfu_zu10 13 (by decide) (by decide)).trans htr) (fun i hi9 => hfu_zu10 i (by omega) (by omega)) (fun i hi9 => hfa_zu10 i (by omega) (by omega) (by omega)))⟩) hK hP hD hS dX9_fits_74
          · refine lv_bipush (v := (-9)) hx hb dX9_fits_61 (by decide) ?_
            refine lv_goto (tgt := 74) hx hb dX9_fits_63 (by decide) ?_
            exact wIret hx hb hr hlocks (v := (-9)) (zu10, za11, th, LP, tf) (⟨by unfold aFits; rw [cif_neg (by omega), cif_pos hbq, cif_neg c_13, cif_pos (by omega)], (CI.keep hI ((hfu_zu10 0 (by decide) (by decide)).trans hf0) ((hfu_zu10 13 (by decide) (by decide)).trans htr) (fun i hi9 => hfu_zu10 i (by omega) (by omega)) (fun i hi9 => hfa_zu10 i (by omega) (by omega) (by omega)))⟩) hK hP hD hS dX9_fits_74
        · refine lv_iload_n hx hb dX9_fits_55 rfl (lv_at hl 0 rfl) ?_
          exact wIret hx hb hr hlocks (v := (nI (cfF g T R))) (zu10, za11, th, LP, tf) (⟨by unfold aFits; rw [cif_neg (by omega), cif_pos hbq, cif_pos c_13], (CI.keep hI ((hfu_zu10 0 (by decide) (by decide)).trans hf0) ((hfu_zu10 13 (by decide) (by decide)).trans htr) (fun i hi9 => hfu_zu10 i (by omega) (by omega)) (fun i hi9 => hfa_zu10 i (by omega) (by omega) (by omega)))⟩) hK hP hD hS dX9_fits_56
      · refine lv_iconst (v := (-1)) hx hb dX9_fits_29 (by decide) ?_
        exact wIret hx hb hr hlocks (v := (-1)) (u, a, th, LP, tf) (⟨by unfold aFits; rw [cif_neg (by omega), cif_neg (fun w => c_3 ((m1_lt (by omega) hg6).mp w).2)], hI⟩) hK hP hD hS dX9_fits_30
  · refine lv_bipush (v := (-3)) hx hb dX9_fits_10 (by decide) ?_
    exact wIret hx hb hr hlocks (v := (-3)) (u, a, th, LP, tf) (⟨by unfold aFits; rw [cif_pos (by omega)], hI⟩) hK hP hD hS dX9_fits_12
