set_option maxHeartbeats 4000000 in
set_option maxRecDepth 100000 in
theorem whole_start {p : Program} {e : Env} {s : State} {m : MethodId} {below : List Frame} {meth : Method} {c : Code} (l : Launch) {b L : Nat} {xs : Nat → Int32} (hL : L ≤ 3072) (C0 : lw_At p s m meth c b L xs) : W p l e room_1 s m #[Value.ref b] below meth c s.heap [] 0 0 (lw_Z below #[Value.ref b] s) (entryFrame m ([Value.ref b] : List Value).toArray 4) := by
  obtain ⟨hx, hb, hr, hml, hown, hts0, hX0, hbl, hlocks, hgv⟩ := C0
  have hown : s.vm.findClass RL = some m.cls := hown
  have hts := fun w h => hts0 w (wsL_law_in w h)
  have hA : ∀ q : Nat, s.heap.size ≤ q → (fun q : Nat => s.heap.size ≤ q) q := fun _ h => h
  have hbA : ¬ (fun q : Nat => s.heap.size ≤ q) b := Nat.not_le.mpr hbl
  obtain ⟨c0, iS0, hKn0⟩ := u_known (C := RX0) (T := TX0) (N := 5) (n := 5) hts inlX0 (hts (.instantiable RX0 5) (by decide +kernel))
  obtain ⟨c1, iS1, hKn1⟩ := u_known (C := RX1) (T := TX1) (N := 5) (n := 5) hts inlX1 (hts (.instantiable RX1 5) (by decide +kernel))
  obtain ⟨c2, iS2, hKn2⟩ := u_known (C := RX2) (T := TX2) (N := 6) (n := 6) hts inlX2 (hts (.instantiable RX2 6) (by decide +kernel))
  obtain ⟨c3, iS3, hKn3⟩ := u_known (C := RX3) (T := TX3) (N := 4) (n := 4) hts inlX3 (hts (.instantiable RX3 4) (by decide +kernel))
  obtain ⟨c4, iS4, hKn4⟩ := u_known (C := RX4) (T := TX4) (N := 3) (n := 3) hts inlX4 (hts (.instantiable RX4 3) (by decide +kernel))
  obtain ⟨c5, iS5, hKn5⟩ := u_known (C := RX5) (T := TX5) (N := 8) (n := 8) hts inlX5 (hts (.instantiable RX5 8) (by decide +kernel))
  obtain ⟨c6, iS6, hKn6⟩ := u_known (C := RX6) (T := TX6) (N := 5) (n := 5) hts inlX6 (hts (.instantiable RX6 5) (by decide +kernel))
  obtain ⟨c7, iS7, hKn7⟩ := u_known (C := RX7) (T := TX7) (N := 1) (n := 1) hts inlX7 (hts (.instantiable RX7 1) (by decide +kernel))
  obtain ⟨c8, iS8, hKn8⟩ := u_known (C := RX8) (T := TX8) (N := 10) (n := 10) hts inlX8 (hts (.instantiable RX8 10) (by decide +kernel))
  obtain ⟨c9, iS9, hKn9⟩ := u_known (C := RX9) (T := TX9) (N := 8) (n := 8) hts inlX9 (hts (.instantiable RX9 8) (by decide +kernel))
  obtain ⟨c10, iS10, hKn10⟩ := u_known (C := RX10) (T := TX10) (N := 34) (n := 34) hts inlX10 (hts (.instantiable RX10 34) (by decide +kernel))
  obtain ⟨d0, a0, b0⟩ := ty_prim (hts (.arrayClass .int) (by decide +kernel))
  obtain ⟨d1, a1, b1⟩ := ty_prim (hts (.arrayClass .boolean) (by decide +kernel))
  have hov2 := hts0 (.arrayOver (.object "OneNail$Sheet")) (by decide +kernel)
  have hov3 := hts0 (.arrayOver (.object "OneNail$Thing")) (by decide +kernel)
  obtain ⟨d2, a2, b2⟩ := ty_obj hov2
  obtain ⟨d3, a3, b3⟩ := ty_obj hov3
  obtain ⟨cA, hcA⟩ : ∃ z : Nat → ClassId, z = fun k => if k = 0 then d0 else if k = 1 then d1 else if k = 2 then d2 else d3 := ⟨_, rfl⟩
  obtain ⟨D, hKc⟩ : ∃ D : va_G, ∀ (k : Nat) (q : vw_C), vwCl[k]? = some q → u_Kn s q.1 q.2.1 q.2.2 (D.1 k) (D.2 k) := by
    refine ⟨(fun k => if k = 0 then c0 else if k = 1 then c1 else if k = 2 then c2 else if k = 3 then c3 else if k = 4 then c4 else if k = 5 then c5 else if k = 6 then c6 else if k = 7 then c7 else if k = 8 then c8 else if k = 9 then c9 else c10, fun k => if k = 0 then iS0 else if k = 1 then iS1 else if k = 2 then iS2 else if k = 3 then iS3 else if k = 4 then iS4 else if k = 5 then iS5 else if k = 6 then iS6 else if k = 7 then iS7 else if k = 8 then iS8 else if k = 9 then iS9 else iS10), ?_⟩
    intro k q hq
    match k, hq with
    | 0, hq => cases hq; exact hKn0
    | 1, hq => cases hq; exact hKn1
    | 2, hq => cases hq; exact hKn2
    | 3, hq => cases hq; exact hKn3
    | 4, hq => cases hq; exact hKn4
    | 5, hq => cases hq; exact hKn5
    | 6, hq => cases hq; exact hKn6
    | 7, hq => cases hq; exact hKn7
    | 8, hq => cases hq; exact hKn8
    | 9, hq => cases hq; exact hKn9
    | 10, hq => cases hq; exact hKn10
    | k + 11, hq => simp [vwCl] at hq
  have hK : va_K D vwCl (tyA cA) s := by
    refine ⟨hKc, fun k q h => ?_⟩
    subst hcA
    match k, h with
    | 0, h => cases h; exact ⟨a0, b0⟩
    | 1, h => cases h; exact ⟨a1, b1⟩
    | 2, h => cases h; exact ⟨a2, b2⟩
    | 3, h => cases h; exact ⟨a3, b3⟩
    | k + 4, h => simp [tyA] at h
  have hfl := flat_of_before _ hgv
  have hA0 : ∀ x : Nat, x < s.heap.size → ¬ (fun q : Nat => s.heap.size ≤ q) x := fun x h => Nat.not_le.mpr h
  obtain ⟨tO, ht9, hT9⟩ := va_Tof (A := (fun q : Nat => s.heap.size ≤ q)) (tm := (.static "OneNail$Orders" "ORDERS_OF" "[I")) (ty := .int) (N := 7) (f := fun j => .int (nI (match j with | 0 => 1 | 1 => 1 | 2 => 2 | 3 => 6 | 4 => 24 | 5 => 120 | _ => 720))) (by decide) (hfl (.arrayOf (.static "OneNail$Orders" "ORDERS_OF" "[I") .int) (by decide +kernel)) (va_eqt (hfl (.eq (.length (.static "OneNail$Orders" "ORDERS_OF" "[I")) (.int 7)) (by decide +kernel))) (fun j hj => by
    rcases (show j = 0 ∨ j = 1 ∨ j = 2 ∨ j = 3 ∨ j = 4 ∨ j = 5 ∨ j = 6 by omega) with rfl | rfl | rfl | rfl | rfl | rfl | rfl
    · exact va_eqt (hfl (.eq (.elem (.static "OneNail$Orders" "ORDERS_OF" "[I") (.int 0)) (.int 1)) (by decide +kernel))
    · exact va_eqt (hfl (.eq (.elem (.static "OneNail$Orders" "ORDERS_OF" "[I") (.int 1)) (.int 1)) (by decide +kernel))
    · exact va_eqt (hfl (.eq (.elem (.static "OneNail$Orders" "ORDERS_OF" "[I") (.int 2)) (.int 2)) (by decide +kernel))
    · exact va_eqt (hfl (.eq (.elem (.static "OneNail$Orders" "ORDERS_OF" "[I") (.int 3)) (.int 6)) (by decide +kernel))
    · exact va_eqt (hfl (.eq (.elem (.static "OneNail$Orders" "ORDERS_OF" "[I") (.int 4)) (.int 24)) (by decide +kernel))
    · exact va_eqt (hfl (.eq (.elem (.static "OneNail$Orders" "ORDERS_OF" "[I") (.int 5)) (.int 120)) (by decide +kernel))
    · exact va_eqt (hfl (.eq (.elem (.static "OneNail$Orders" "ORDERS_OF" "[I") (.int 6)) (.int 720)) (by decide +kernel))) hA0
  have hE : eO tO (fun q : Nat => s.heap.size ≤ q) s s.heap := ⟨va_Zof (hts0 (.laysStatic "OneNail$Orders" "ORDERS_OF" "[I") (by decide +kernel)) (hts0 (.initialized "OneNail$Orders") (by decide +kernel)) ht9 hA0, hT9⟩
  have hEA : eA (fun q : Nat => s.heap.size ≤ q) s s.heap := ⟨va_AO.of hov3, va_AO.of hov2⟩
  have hS : va_S (fun q : Nat => s.heap.size ≤ q) s.heap s.heap [] := va_S.rf
  have hP : va_P D vwCl [] s.heap := fun k q h => by simp at h
  have hD : va_D (fun q : Nat => s.heap.size ≤ q) [] := ⟨fun i j p q h => by simp at h, fun k q h => by simp at h⟩
  have hl := lv_entry ([.ref b]) (n := 4) (Nat.le_of_ble_eq_true rfl)
  rw [lg_entry_eq]
  generalize (lg_sl ([.ref b]) ++ List.replicate (4 - (lg_sl ([.ref b])).length) Slot.unset).toArray = ls at hl ⊢
  have hl : lv_has ls 4 [(0, .ref b)] := hl
  refine va_new (ci := 9) (fs := [.null, .null, .null, .null, .null, .null, .null, .int 0]) (C := RX9) (T := TX9) (N := 8) hx hb hts inlX9 tyX9 tyX9_ok hown (hts (.classLink RL 7 RX9) (by decide +kernel)) (hts (.instantiable RX9 8) (by decide +kernel)) (hts (.initialized RX9) (by decide +kernel)) hK hP hD hS hA rfl (fun j hj => by rcases (show j = 0 ∨ j = 1 ∨ j = 2 ∨ j = 3 ∨ j = 4 ∨ j = 5 ∨ j = 6 ∨ j = 7 by omega) with rfl | rfl | rfl | rfl | rfl | rfl | rfl | rfl <;> rfl) (Nat.le_of_ble_eq_true rfl) (Nat.le_of_ble_eq_true rfl) dL_law_0 (fun q H hP hD hS => ?_)
  refine lv_dup hx hb dL_law_3 rfl ?_
  have hP : va_P D vwCl ((wdX9_init cA [] q) none) H := hP
  have hD : va_D (fun q : Nat => s.heap.size ≤ q) ((wdX9_init cA [] q) none) := hD
  refine wIv eA_S (As := []) (rest := [.ref q]) ⟨hx, hb, hml, hown, hts⟩ (kX9_init l D cA [] q _) (cwI 0 hts gL_law_X9_init rfl rfl rfl (hts (.initialized RX9) (by decide +kernel)) (hts (.methodLink RL 9 yX9_init) (by decide +kernel)) (hts (.instanceMethod yX9_init) (by decide +kernel)) rfl (by decide +kernel) ⟨Nat.le_of_ble_eq_true rfl, Nat.le_of_ble_eq_true rfl⟩) hK hP hD hS hA hEA rfl hl.1 rfl (Nat.le_of_ble_eq_true rfl) dL_law_4 ⟨Nat.le_of_ble_eq_true rfl, Nat.le_of_ble_eq_true rfl⟩ (fun z_q H locs hw hP hD hS => ?_)
  obtain ⟨ro, rfl⟩ := hw
  obtain ⟨rN, hrN⟩ : ∃ z : Nat → Nat, z = fun k => ([q, ro 0, ro 6, ro 10, ro 14, ro 20, ro 21, ro 23, ro 25, ro 27, ro 18, ro 19, ro 1, ro 2, ro 3, ro 4, ro 5, ro 7, ro 8, ro 9, ro 11, ro 12, ro 13, ro 15, ro 16, ro 17, ro 22, ro 24, ro 26, ro 28] : List Nat).getD k 0 := ⟨_, rfl⟩
  obtain ⟨hP, hD⟩ : va_P D vwCl (xN cA rN (uZ, aZ, tZ, [], fZ)) H ∧ va_D (fun q : Nat => s.heap.size ≤ q) (xN cA rN (uZ, aZ, tZ, [], fZ)) := by
    have e10 := sh4 (r := rN) (a := ro 21) (b := ro 23) (c := ro 25) (d := ro 27) (by rw [hrN]; rfl) (by rw [hrN]; rfl) (by rw [hrN]; rfl) (by rw [hrN]; rfl)
    unfold wdX9_init at hP hD
    dsimp only at hP hD
    rw [e10] at hP hD
    subst hrN
    exact ⟨hP.sub [0, 1, 7, 11, 15, 21, 22, 24, 26, 28, 19, 2, 20, 3, 4, 5, 6, 8, 9, 10, 12, 13, 14, 16, 17, 18, 23, 25, 27, 29] rfl, hD.sub [0, 1, 7, 11, 15, 21, 22, 24, 26, 28, 19, 2, 20, 3, 4, 5, 6, 8, 9, 10, 12, 13, 14, 16, 17, 18, 23, 25, 27, 29] (by decide) rfl⟩
  have hq0 : q = rN 0 := by rw [hrN]; rfl
  refine lv_astore_n (lv' := [(1, .ref q), (0, .ref b)]) hx hb dL_law_7 rfl hl (by decide) rfl (fun ls hl => ?_)
  rw [hq0] at hl
  refine va_new (ci := 10) (fs := [.int 0, .int 0, .null, .null, .null, .int 0, .int 0, .int 0, .null, .null, .null, .null, .null, .int 0, .int 0, .int 0, .null, .null, .null, .null, .null, .null, .int 0, .null, .null, .int 0, .null, .null, .null, .null, .int 0, .null, .null, .null]) (C := RX10) (T := TX10) (N := 34) hx hb hts inlX10 tyX10 tyX10_ok hown (hts (.classLink RL 10 RX10) (by decide +kernel)) (hts (.instantiable RX10 34) (by decide +kernel)) (hts (.initialized RX10) (by decide +kernel)) hK hP hD hS hA rfl (fun j hj => by rcases (show j = 0 ∨ j = 1 ∨ j = 2 ∨ j = 3 ∨ j = 4 ∨ j = 5 ∨ j = 6 ∨ j = 7 ∨ j = 8 ∨ j = 9 ∨ j = 10 ∨ j = 11 ∨ j = 12 ∨ j = 13 ∨ j = 14 ∨ j = 15 ∨ j = 16 ∨ j = 17 ∨ j = 18 ∨ j = 19 ∨ j = 20 ∨ j = 21 ∨ j = 22 ∨ j = 23 ∨ j = 24 ∨ j = 25 ∨ j = 26 ∨ j = 27 ∨ j = 28 ∨ j = 29 ∨ j = 30 ∨ j = 31 ∨ j = 32 ∨ j = 33 by omega) with rfl | rfl | rfl | rfl | rfl | rfl | rfl | rfl | rfl | rfl | rfl | rfl | rfl | rfl | rfl | rfl | rfl | rfl | rfl | rfl | rfl | rfl | rfl | rfl | rfl | rfl | rfl | rfl | rfl | rfl | rfl | rfl | rfl | rfl <;> rfl) (Nat.le_of_ble_eq_true rfl) (Nat.le_of_ble_eq_true rfl) dL_law_8 (fun q2 H hP hD hS => ?_)
  refine lv_dup hx hb dL_law_11 rfl ?_
  have hP : va_P D vwCl ((wdX10_init cA (xN cA rN (uZ, aZ, tZ, [], fZ)) q2) none) H := hP
  have hD : va_D (fun q : Nat => s.heap.size ≤ q) ((wdX10_init cA (xN cA rN (uZ, aZ, tZ, [], fZ)) q2) none) := hD
  refine wIv eA_S (As := []) (rest := [.ref q2]) ⟨hx, hb, hml, hown, hts⟩ (kX10_init l D cA (xN cA rN (uZ, aZ, tZ, [], fZ)) q2 _) (cwI 0 hts gL_law_X10_init rfl rfl rfl (hts (.initialized RX10) (by decide +kernel)) (hts (.methodLink RL 12 yX10_init) (by decide +kernel)) (hts (.instanceMethod yX10_init) (by decide +kernel)) rfl (by decide +kernel) ⟨Nat.le_of_ble_eq_true rfl, Nat.le_of_ble_eq_true rfl⟩) hK hP hD hS hA hEA rfl hl.1 rfl (Nat.le_of_ble_eq_true rfl) dL_law_12 ⟨Nat.le_of_ble_eq_true rfl, Nat.le_of_ble_eq_true rfl⟩ (fun z_q2 H locs hw hP hD hS => ?_)
  obtain ⟨ro2, rfl⟩ := hw
  obtain ⟨rM, hrM⟩ : ∃ z : Nat → Nat, z = fun k => ([q2, 0, ro2 0, ro2 1, ro2 2, 0, 0, 0, ro2 3, ro2 4, ro2 5, ro2 6, ro2 7, 0, 0, 0, ro2 8, ro2 9, ro2 10, ro2 11, ro2 12, ro2 13, 0, ro2 14, ro2 15, 0, ro2 16, ro2 17, ro2 18, ro2 19, 0, ro2 20, ro2 21, ro2 22] : List Nat).getD k 0 := ⟨_, rfl⟩
  obtain ⟨hP, hD⟩ : va_P D vwCl (xN cA rN (uZ, aZ, tZ, [], fZ) ++ xM cA rM (uMZ, aMZ)) H ∧ va_D (fun q : Nat => s.heap.size ≤ q) (xN cA rN (uZ, aZ, tZ, [], fZ) ++ xM cA rM (uMZ, aMZ)) := by subst hrM; exact ⟨hP, hD⟩
  have hq2 : q2 = rM 0 := by rw [hrM]; rfl
  refine lv_astore_n (lv' := [(2, .ref q2), (1, .ref (rN 0)), (0, .ref b)]) hx hb dL_law_15 rfl hl (by decide) rfl (fun ls hl => ?_)
  rw [hq2] at hl
  refine lv_iconst (v := (nI 0)) hx hb dL_law_16 rfl ?_
  refine lv_istore_n (lv' := [(3, .int (nI 0)), (2, .ref (rM 0)), (1, .ref (rN 0)), (0, .ref b)]) hx hb dL_law_17 rfl hl (by decide) rfl (fun ls hl => ?_)
  refine W.widen (k := 54) (n := 4187) (Nat.le_of_ble_eq_true rfl) (Nat.le_of_ble_eq_true rfl) ?_
  exact law_loop hx hb hml hown hts hX0 hbl hL hK hE hr hlocks ⟨uZ, aZ, tZ, [], fZ, uMZ, aMZ, _, _, _, _, _, _, _, _, CI_0, MI_0, P_l hP, D_l hD, P_r hP, D_r hD, D_x hD, hS⟩ (lv_sub hl [0, 3, 2, 1] rfl)
set_option maxHeartbeats 4000000 in
theorem lw_walk (l : Launch) (b : Addr) (xs : List Int32) : MetFree l x (headSpec (Jvm.Cond.code x code maxLocals ret :: tables_1) room_1) (lw_P b xs) (fun _ _ _ _ _ => True) lw_Q := by
  refine MetFree.of_bodyS (code := code) (maxLocals := maxLocals) (ret := ret) (by decide) ?_ ?_
  · intro args s m h hn
    obtain ⟨meth, c, h1, h2, h3, h4, h5, h6, -, -⟩ := Cond.code_spec hn (atoms_spec (ws := Jvm.Cond.code x code maxLocals ret :: tables_1) h _ List.mem_cons_self)
    exact ⟨meth, c, h1, h2, h3, h4, h5, h6⟩
  · intro p e s m args below meth c s₁ B hml0 hP _
    obtain ⟨rfl, hx, hbd, hgv⟩ := hP
    obtain ⟨scr, harrAt, hlist, hof, hsmall⟩ := hx
    obtain ⟨hcb, hkn, -, -⟩ := State.arrayAt?_spec harrAt
    have hown : s.vm.findClass R_law = some m.cls := findClass_of_methodNamed B.named
    have hts0 : ∀ c ∈ (Jvm.Cond.code x code maxLocals ret :: tables_1), c.before #[Value.ref b] s = true := atoms_spec (ws := Jvm.Cond.code x code maxLocals ret :: tables_1) B.pre
    have hts : ∀ w ∈ lw_tbl, w.before #[Value.ref b] s = true := k2_hts_sels lw_privs (fun w hw => hts0 w (List.mem_cons_of_mem _ hw)) lw_privs_ok
    have hml : c.maxLocals = 4 := B.maxLocals_eq (hts0 _ List.mem_cons_self)
    have X₀ : Stand p l e room_1 s m #[Value.ref b] below meth c s₁ [] 0 0 := Stand.of_body B
    have hh0 : s₁.heap = s.heap := by rw [B.state]; rfl
    have hsz : scr.slots.size = xs.length := by rw [← Array.length_toList, hlist, List.length_map]
    have hval : ∀ j : Nat, j < xs.length → scr.slots[j]? = some (.int (xs.getD j 0)) := fun j hj => by
      rw [← Array.getElem?_toList, hlist]
      simp [hj]
    have hbl : b < s.heap.size := (Array.getElem?_eq_some_iff.mp hcb).1
    have hX : va_X b xs.length (fun j => xs.getD j 0) s s.heap := ⟨scr, hcb, hof, hkn, hsz, hval⟩
    have K : W p l e room_1 s m #[Value.ref b] below meth c s₁.heap [] 0 0 (lw_Z below #[Value.ref b] s) (entryFrame m ([Value.ref b] : List Value).toArray 4) := by
      rw [hh0]
      exact whole_start l hbd ⟨B.exec, B.bytes, B.returns, hml, hown, hts, hX, hbl, B.notSynchronized, hgv⟩
    obtain ⟨t, a1, o, b1, b2, b3⟩ := K s₁ rfl X₀
    exact ⟨t, o, a1, b1, b2, b3⟩
theorem lw_pre_spec {args : Array Value} {s : State} (h : (Jvm.Cond.and given_1 narrow_1).before args s = true) (hr : rest_1_c.before args s = true) : ∃ (b : Addr) (xs : List Int32), lw_P b xs args s := by
  have hs := flat_of_before _ h
  have hq := flat_of_before _ hr
  have hc : (Cond.count 1).before args s = true := hs _ (by decide +kernel)
  have harr : (Cond.arrayOf (.arg 0) .int).before args s = true := hs _ (by decide +kernel)
  have hle : (Cond.le (.length (.arg 0)) (.int 3072)).before args s = true := hs _ (by decide +kernel)
  have hlen : (Cond.isInt (.length (.arg 0))).before args s = true := hq _ (by decide +kernel)
  have hall : (Cond.all (.arg 0) (.isInt (.elem (.arg 0) (.index 0)))).before args s = true := hq _ (by decide +kernel)
  obtain ⟨b, xs, hb, hx⟩ := State.ints_of_pre rfl harr hlen hall
  have hsm : xs.length < 2 ^ 31 := hx.choose_spec.2.2.2
  have hev : (Term.length (.arg 0)).eval args s none [] s = some (.int xs.length.toInt32) := hx.length_eval hb
  have hv := Cond.le_ints hev (show (Term.int 3072).eval args s none [] s = some (.int 3072) from rfl)
  have hd : xs.length.toInt32 ≤ 3072 := by
    simpa [Cond.before, Cond.holds, hv] using hle
  have hN : xs.length ≤ 3072 := (Int32.ofNat_le_ofNat hsm (by decide)).mp (show Int32.ofNat xs.length ≤ Int32.ofNat 3072 from hd)
  exact ⟨b, xs, Cond.one_arg hc (show args[0]? = some (.ref b) from hb), hx, hN, h⟩
theorem lw_comes (l : Launch) : Comes l x (Jvm.Cond.code x code maxLocals ret :: tables_1) room_1 (fun tb e args s => Calls_1 tb e args s ∧ rest_1 tb e args s ∧ Pre_1 tb e args s)
    (fun _ _ args s o t => lw_Q args s o t) := by
  intro p e ha hc hk s m args below hf hfit hheap happ hpre
  obtain ⟨b, xs, hP⟩ := lw_pre_spec hpre.2.2 hpre.2.1
  obtain ⟨k, o, h1, h2, h3, hQ⟩ := lw_walk l b xs p e ha hc hk s m args below hf ((Spec.applies_iff_loose hf).mp happ).1 hP trivial
  exact ⟨k, o, h1, h2, h3, hQ⟩
theorem lw_frame {s t : State} {o : Outcome} {args : Array Value} (h : Framed s o t [] 600000 7302250) :
    Framed s o t (fieldLocs frame_1_writes args s ++ arrayLocs frame_1_arrays args s ++ staticLocs frame_1_statics s) 600000 7302250 := h
theorem lw_limb (L : Cond) (hL : ∀ (args : Array Value) (s t : State), L.after args s (.returned (some (.int 1))) t = true) :
    ArmFor flags0 classFile x code maxLocals ret World_1 tables_1 room_1 Calls_1 rest_1 Pre_1
      (fun tb e a s o t => postC L tb e a s o t ∧ Framed s o t (fieldLocs frame_1_writes a s ++ arrayLocs frame_1_arrays a s ++ staticLocs frame_1_statics s) 600000 7302250) := by
  intro l _ _ _ p e ha hc hk s m args below hf hfit hheap happ hpre
  obtain ⟨k, o, h1, h2, h3, rfl, hF⟩ := lw_comes l p e ha hc hk s m args below hf hfit hheap happ hpre
  exact ⟨k, _, h1, h2, h3, hL args s _, lw_frame hF⟩
theorem i_vc : Claimed_1_1 ∧ Claimed_1_2 := ⟨lw_limb limb_1_1 (fun args s t => by simp [limb_1_1, Cond.after, Cond.holds, Cond.value]), lw_limb limb_1_2 (fun args s t => Cond.after_iff.mpr (by
  first | (rw [show limb_1_2 = Cond.eq .result (.int 1) from rfl, Cond.eq_ints (x := 1) (y := 1) rfl rfl]; simp; done) | (simp [limb_1_2, Cond.value, Term.eval]; done)))⟩
