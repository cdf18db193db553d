theorem CI.sheets {u u' : Nat → Int32} {a a' : Nat → Nat → Int32} {th : Nat → Option Nat} {LP : List Nat} {tf : Nat → va_E} {g : Nat → Nat} {T : Nat → Nat → Nat} {R : Nat → Nat → Nat} {so so' : Nat → Int32} {ln ln' : Nat → Nat} {ce ce' : Nat → Nat → Int32} {f f' tr tr' : Int32} (h : CI u a th LP tf g T R so ln ce f tr) (h0 : u' 0 = f') (h13 : u' 13 = tr') (hu : ∀ i, 1 ≤ i ∧ i ≤ 4 → u' i = u i) (ha : ∀ i, 13 ≤ i ∧ i ≤ 19 → a' i = a i) (hs : ShN u' a' so' ln' ce') : CI u' a' th LP tf g T R so' ln' ce' f' tr' := by
  obtain ⟨q1, q2, q3, q4, q5, -, -, -, q9⟩ := h
  exact ⟨q1.keep (hu 1 (by omega)) (ha 13 (by omega)) (ha 14 (by omega)) (ha 15 (by omega)) (ha 16 (by omega)), q2, (hu 2 (by omega)).trans q3, (hu 3 (by omega)).trans q4, q5.keep (hu 4 (by omega)) (ha 17 (by omega)) (ha 18 (by omega)) (ha 19 (by omega)), hs, h0, h13, q9⟩
theorem shn_set {u u' : Nat → Int32} {a a' : Nat → Nat → Int32} {so : Nat → Int32} {ln : Nat → Nat} {ce : Nat → Nat → Int32} {k n0 : Nat} {lane : Int32} (h : ShN u a so ln ce) (hk : k < 4) (hl : isL lane) (hn : n0 ≤ 60) (e1 : u' (14 + k) = lane) (e2 : u' (18 + k) = nI n0) (hz : ∀ i, i < n0 → a' (26 + k) i = 0) (hu : ∀ i, 14 ≤ i → i ≠ 14 + k → i ≠ 18 + k → u' i = u i) (ha : ∀ i, i ≠ 26 + k → a' i = a i) : ShN u' a' (upd so k lane) (gu ln k n0) (va_up ce k (fun _ => 0)) := by
  intro j hj
  have hq := h j hj
  by_cases e : j = k
  · have hl9 : ¬ lane = -9 := by rcases hl with rfl | rfl | rfl <;> decide
    rw [e, up_eq, gu_eq, vup_eq, if_neg hl9, if_neg hl9]
    exact ⟨Or.inr hl, e1, e2, hn, fun _ => hz⟩
  · rw [up_ne e, gu_ne e, vup_ne e, hu (14 + j) (by omega) (by omega) (by omega), hu (18 + j) (by omega) (by omega) (by omega), ha (26 + j) (by omega)]
    exact hq
theorem so_same {so : Nat → Int32} {k : Nat} (h : so k = -9) : upd so k (-9) = so := by
  funext j
  by_cases e : j = k
  · rw [e, up_eq, h]
  · rw [up_ne e]
theorem shn_lose {u u' : Nat → Int32} {a a' : Nat → Nat → Int32} {so : Nat → Int32} {ln : Nat → Nat} {ce : Nat → Nat → Int32} {k : Nat} (h : ShN u a so ln ce) (hk : k < 4) (e1 : u' = upd (upd u (14 + k) (-1)) (18 + k) (nI 0)) (e2 : a' = a) : ShN u' a' (upd so k (-9)) ln ce := by
  intro j hj
  have hq := h j hj
  rw [e1, e2]
  by_cases e : j = k
  · rw [e, up_eq, if_pos rfl, if_pos rfl, up_ne (by omega), up_eq, up_eq]; rw [e] at hq
    exact ⟨Or.inl rfl, rfl, rfl, hq.2.2.2.1, fun w => absurd rfl w⟩
  · rw [up_ne e, up_ne (show 14 + j ≠ 18 + k by omega), up_ne (show 14 + j ≠ 14 + k by omega), up_ne (show 18 + j ≠ 18 + k by omega), up_ne (show 18 + j ≠ 14 + k by omega)]; exact hq
theorem shn_put {u u' : Nat → Int32} {a a' : Nat → Nat → Int32} {so : Nat → Int32} {ln : Nat → Nat} {ce : Nat → Nat → Int32} {k i : Nat} {w : Int32} (h : ShN u a so ln ce) (hk : k < 4) (hu : ∀ j, 14 ≤ j → u' j = u j) (ha : a' = va_up a (26 + k) (upd (a (26 + k)) i w)) : ShN u' a' so ln (va_up ce k (upd (ce k) i w)) := by
  intro j hj
  have hq := h j hj
  rw [hu (14 + j) (by omega), hu (18 + j) (by omega), ha]
  refine ⟨hq.1, hq.2.1, hq.2.2.1, hq.2.2.2.1, fun hs i' hi' => ?_⟩
  by_cases e : j = k
  · rw [e, vup_eq, vup_eq]
    by_cases e' : i' = i
    · rw [e', up_eq, up_eq]
    · rw [up_ne e', up_ne e']; rw [e] at hq hs hi'; exact hq.2.2.2.2 hs i' hi'
  · rw [vup_ne (show 26 + j ≠ 26 + k by omega), vup_ne e]; exact hq.2.2.2.2 hs i' hi'
theorem shn_copy {u u' : Nat → Int32} {a a' : Nat → Nat → Int32} {so : Nat → Int32} {ln : Nat → Nat} {ce : Nat → Nat → Int32} {k o i0 j0 n0 : Nat} (h : ShN u a so ln ce) (hk : k < 4) (ho : o < 4) (hsk : ¬ so k = -9) (hso : ¬ so o = -9) (hi : i0 + n0 ≤ ln k) (hj : j0 + n0 ≤ ln o) (hu : ∀ j, 14 ≤ j → u' j = u j) (ha : a' = va_up a (26 + o) (va_cpy (a (26 + k)) (a (26 + o)) i0 j0 n0)) : ShN u' a' so ln (va_up ce o (cpA (ce k) (ce o) i0 j0 n0)) := by
  intro j hj4
  have hq := h j hj4
  rw [hu (14 + j) (by omega), hu (18 + j) (by omega), ha]
  refine ⟨hq.1, hq.2.1, hq.2.2.1, hq.2.2.2.1, fun hs i' hi' => ?_⟩
  by_cases e : j = o
  · rw [e, vup_eq, vup_eq]
    unfold cpA
    by_cases w : j0 ≤ i' ∧ i' < j0 + n0
    · rw [if_pos w, pk_cpy_in w.1 w.2]; exact (h k hk).2.2.2.2 hsk _ (by omega)
    · rw [if_neg w, pk_cpy_out (by omega)]; exact (h o ho).2.2.2.2 hso i' (by rw [e] at hi'; exact hi')
  · rw [vup_ne (show 26 + j ≠ 26 + o by omega), vup_ne e]; exact hq.2.2.2.2 hs i' hi'
theorem sp_nat {L : Nat} {i n : Int32} (hL : L ≤ 60) (h : SP L i n) : ∃ i0 n0 : Nat, i = nI i0 ∧ n = nI n0 ∧ i0 + n0 ≤ L := by
  obtain ⟨h1, h2, h3, h4⟩ := h
  obtain ⟨n0, hn, rfl⟩ := nI_of h1
  obtain ⟨i0, hi, rfl⟩ := nI_of h2
  have h5 : i0 ≤ L := Nat.not_lt.mp (fun q => h3 ((nI_ltI (by omega) hi).mpr q))
  rw [pk_sub h5] at h4
  have h6 : n0 ≤ L - i0 := Nat.not_lt.mp (fun q => h4 ((nI_ltI (by omega) hn).mpr q))
  exact ⟨i0, n0, rfl, rfl, by omega⟩
theorem nat_sp {L i0 n0 : Nat} (hL : L ≤ 60) (h : i0 + n0 ≤ L) : SP L (nI i0) (nI n0) := by
  refine ⟨nI_pos (by omega), nI_pos (by omega), fun q => ?_, fun q => ?_⟩
  · have := (nI_ltI (by omega) (by omega)).mp q; omega
  · rw [pk_sub (by omega)] at q
    have := (nI_ltI (by omega) (by omega)).mp q; omega
section
variable {p : Program} {l : Launch} {e : Env} {R : Room} {s : State} {m : MethodId} {args : Array Value} {below : List Frame} {meth : Method} {c : Code} {H : Heap} {locs : List Loc} {cells slots : Nat} {Q : State → Prop}
variable {cc : ByteArray} {pc : Nat} {ls : Array Slot} {rest : List Value} {D : va_G} {cl : List vw_C} {A : Nat → Prop} {H0 : Heap}
theorem wCopy {own : String} {index : Nat} {cA : Nat → ClassId} {r : Nat → Nat} {u : Nat → Int32} {a : Nat → Nat → Int32} {th : Nat → Option Nat} {LP : List Nat} {tf : Nat → va_E} (hx : p.tables.exec = Jvm.exec) (hb : c.code = cc) (hml : c.maxLocals = ls.size) (hown : s.vm.findClass own = some m.cls) (hlink : (Cond.methodLink own index arraycopyName).before args s = true) (hnat : (Cond.native arraycopyName).before args s = true) (hstat : (Cond.static arraycopyName).before args s = true) (hini : (Cond.initialized "java/lang/System").before args s = true)
    (hK : va_K D cl (tyA cA) s) (hP : va_P D cl (xN cA r (u, a, th, LP, tf)) H) (hD : va_D A (xN cA r (u, a, th, LP, tf))) (hS : va_S A H0 H locs) {k o i0 j0 n0 : Nat} (hk : k < 4) (ho : o < 4) (h1 : i0 + n0 ≤ 60) (h2 : j0 + n0 ≤ 60) (hfr : 1 ≤ R.frames) (hlo : (rest.map fun v => v.category).sum + (nativeFrameWords "java/lang/System" "arraycopy" 5 + 11) ≤ R.locals) (hdg : decode cc pc = .ok (.invokestatic index, 3))
    (kk : ∀ (H1 : Heap) (locs1 : List Loc), va_P D cl (xN cA r (u, va_up a (26 + o) (va_cpy (a (26 + k)) (a (26 + o)) i0 j0 n0), th, LP, tf)) H1 → va_D A (xN cA r (u, va_up a (26 + o) (va_cpy (a (26 + k)) (a (26 + o)) i0 j0 n0), th, LP, tf)) → va_S A H0 H1 locs1 → W p l e R s m args below meth c H1 locs1 cells slots Q (F0 m (pc + 3) ls rest)) : W p l e R s m args below meth c H locs cells slots Q (F0 m pc ls (.int (nI n0) :: .int (nI j0) :: .ref (r (26 + o)) :: .int (nI i0) :: .ref (r (26 + k)) :: rest)) := by
  refine va_copyi (sp := nI i0) (dp := nI j0) (n := nI n0) hx hb hml hown hlink hnat hstat hini hK hP hD hS (26 + k) (26 + o) 0 0 (WN_a hk) (WN_a ho) rfl rfl rfl (nI_pos (by omega)) (nI_pos (by omega)) (nI_pos (by omega)) (by rw [nI_clamp (show i0 < 2 ^ 31 by omega), nI_clamp (show n0 < 2 ^ 31 by omega)]; exact h1) (by rw [nI_clamp (show j0 < 2 ^ 31 by omega), nI_clamp (show n0 < 2 ^ 31 by omega)]; exact h2) (fun _ _ => rfl) hfr hlo hdg (fun H1 locs1 hP1 hD1 hS1 => ?_)
  rw [nI_clamp (show i0 < 2 ^ 31 by omega), nI_clamp (show j0 < 2 ^ 31 by omega), nI_clamp (show n0 < 2 ^ 31 by omega), WN_sa ho] at hP1 hD1
  exact kk H1 locs1 hP1 hD1 hS1
end
set_option maxHeartbeats 4000000 in
set_option maxRecDepth 100000 in
theorem kX9_sheet (l : Launch) (D : va_G) (cA : Nat → ClassId) (r : Nat → Nat) (sz : Nat) (u : Nat → Int32) (a : Nat → Nat → Int32) (th : Nat → Option Nat) (LP : List Nat) (tf : Nat → va_E) (tO : Nat) (g : Nat → Nat) (T : Nat → Nat → Nat) (R : Nat → Nat → Nat) (so : Nat → Int32) (ln : Nat → Nat) (ce : Nat → Nat → Int32) (f tr : Int32) (sh lane n : Int32) (hI : CI u a th LP tf g T R so ln ce f tr) : Met l yX9_sheet wsX9_sheet ({ frames := 2, cells := 0, slots := 0, locals := 48 } : Room) (va_Pc [.ref (r 0), .int sh, .int lane, .int n] (wA D vwCl (tyA cA) (eO tO) (xN cA r) (u, a, th, LP, tf) sz)) (va_Qi (fun (v : Int32) (z : sN) => v = aSheet sh lane n ∧ CI z.1 z.2.1 z.2.2.1 z.2.2.2.1 z.2.2.2.2 g T R (soSheet so sh lane n) (lnSheet ln sh lane n) (ceSheet ce sh lane n) (fSheet sh lane n) tr) (wB D vwCl (tyA cA) (xN cA r) (va_A (xN cA r (u, a, th, LP, tf)) sz)) (va_A (xN cA r (u, a, th, LP, tf)) sz)) 0 0 (va_A (xN cA r (u, a, th, LP, tf)) sz) := by
  refine Met.ofW (cc := cX9_sheet) (maxL := 5) (ret := (some .int)) (by decide) rfl ?_
  intro p e s m args below meth c s₁ B hml hv
  obtain ⟨rfl, hsz, hP, hK, hD0, hE⟩ := hv
  have hx := B.exec
  have hb := B.bytes
  have hr := B.returns
  have hts := atoms_spec (ws := wsX9_sheet) B.pre
  have hown : s.vm.findClass RX9 = some m.cls := findClass_of_methodNamed B.named
  have hlocks := B.notSynchronized
  subst hsz
  have hD := hD0.self (sz := s.heap.size)
  generalize hAe : va_A (xN cA r (u, a, th, LP, tf)) s.heap.size = A at hD hE ⊢
  have hA : ∀ q : Nat, s.heap.size ≤ q → A q := fun q h => by rw [← hAe]; exact Or.inr h
  have hS : va_S A s.heap s.heap [] := va_S.rf
  have hinX9 : ∀ w ∈ u_ws RX9 TX9 8, w ∈ wsX9_sheet := by decide +kernel
  have hl := lv_entry ([.ref (r 0), .int sh, .int lane, .int n]) (n := 5) (Nat.le_of_ble_eq_true rfl)
  rw [lg_entry_eq]
  generalize (lg_sl ([.ref (r 0), .int sh, .int lane, .int n]) ++ List.replicate (5 - (lg_sl ([.ref (r 0), .int sh, .int lane, .int n])).length) Slot.unset).toArray = ls at hl ⊢
  have hl : lv_has ls 5 [(0, .ref (r 0)), (1, .int sh), (2, .int lane), (3, .int n)] := hl
  have hM := hI.1
  have hB := hI.2.1
  have hg6 := hB.1
  have hsm := hI.2.2.1
  have hrs := hI.2.2.2.1
  have hRd := hI.2.2.2.2.1
  have hSh := hI.2.2.2.2.2.1
  have hf0 := hI.2.2.2.2.2.2.1
  have htr := hI.2.2.2.2.2.2.2.1
  have hPo := hI.2.2.2.2.2.2.2.2
  refine lv_aload_n hx hb dX9_sheet_0 rfl (lv_at hl 0 rfl) ?_
  refine lv_iconst (v := (nI 0)) hx hb dX9_sheet_1 rfl ?_
  refine va_put (D := D) (ci := 9) (v := .int (nI 0)) (ty := .int) (C := RX9) (T := TX9) (N := 8) hx hb hts hinX9 tyX9 tyX9_ok nmX9 hown hK hP hD hS 0 rfl rfl 7 (by decide) (hts (.fieldLink RX9 58 "OneNail" "lastFault" "I") (by decide +kernel)) (fun _ h9 => h9) rfl (by decide +kernel) rfl rfl (Nat.le_of_ble_eq_true rfl) dX9_sheet_2 (fun H locs hP hD hS => ?_)
  have hP : va_P D vwCl (xN cA r ((upd u 0 (nI 0)), a, th, LP, tf)) H := hP
  have hD : va_D A (xN cA r ((upd u 0 (nI 0)), a, th, LP, tf)) := hD
  refine lv_aload_n hx hb dX9_sheet_5 rfl (lv_at hl 0 rfl) ?_
  refine lv_iload_n hx hb dX9_sheet_6 rfl (lv_at hl 1 rfl) ?_
  refine wVq (eO_S tO) (As := [.int sh]) (rest := []) ⟨hx, hb, hml, hown, hts⟩ (kX9_sheetAt l D cA r _ (upd u 0 (nI 0)) a th LP tf tO sh) (cwV 1 hts gX9_sheet_X9_sheetAt rfl rfl rfl (by decide +kernel) ⟨Nat.le_of_ble_eq_true rfl, Nat.le_of_ble_eq_true rfl⟩) (va_recv hK hP (ci := 9) (q0 := 0) rfl rfl) hK hP hD hS hA hE rfl hl.1 rfl (Nat.le_of_ble_eq_true rfl) dX9_sheet_7 ⟨Nat.zero_le _, Nat.zero_le _⟩ (fun rv_1 z_3 H locs hw_2 hP hD hS => ?_)
  obtain ⟨hz_4, hw_2⟩ := hw_2
  subst hz_4
  have hP : va_P D vwCl (xN cA r ((upd u 0 (nI 0)), a, th, LP, tf)) H := hP
  have hD : va_D A (xN cA r ((upd u 0 (nI 0)), a, th, LP, tf)) := hD
  rcases hw_2 with ⟨k5, hk6, hxk7, rfl⟩ | ⟨hxk7, rfl⟩
  · have hkc_k5 : sh.toNatClampNeg = k5 := by rw [hxk7]; exact nI_clamp (by omega)
    have hsk_k5 := hSh k5 hk6
    have hlk_k5 := hsk_k5.2.2.2.1
    have hll_k5 : (if so k5 = -9 then 0 else ln k5) ≤ 60 := by split <;> omega
    have hin_k5 : inR sh 0 3 := by rw [hxk7]; exact ⟨nI_pos' (by omega), (nI_leI (by omega) (by decide)).mpr (by omega)⟩
    refine lv_astore (lv' := [(4, .ref (r (6 + k5))), (0, .ref (r 0)), (1, .int sh), (2, .int lane), (3, .int n)]) hx hb dX9_sheet_10 hl (by decide) rfl (fun ls hl => ?_)
    refine lv_aload hx hb dX9_sheet_12 (lv_at hl 0 rfl) ?_
    refine lv_ifnonnull (tgt := 19) hx hb dX9_sheet_14 (by decide) ?_
    refine lv_iload_n hx hb dX9_sheet_19 rfl (lv_at hl 3 rfl) ?_
    refine wSi (As := [.int lane]) (rest := []) ⟨hx, hb, hml, hown, hts⟩ (kX9_isLane l lane) (va_cwS 1 hts gX9_sheet_X9_isLane rfl rfl rfl (by decide +kernel) ⟨Nat.le_of_ble_eq_true rfl, Nat.le_of_ble_eq_true rfl⟩) rfl hl.1 rfl (Nat.le_of_ble_eq_true rfl) dX9_sheet_20 ⟨Nat.zero_le _, Nat.zero_le _⟩ (fun rv_8 hw_9 => ?_)
    rcases hw_9 with ⟨rfl, b_10⟩ | ⟨rfl, b_10⟩
    · refine lv_if_eq (tgt := 32) hx hb dX9_sheet_23 (by decide) (fun c_11 => absurd c_11 (by decide)) (fun _ => ?_)
      refine lv_iload_n hx hb dX9_sheet_26 rfl (lv_at hl 4 rfl) ?_
      refine lv_bipush (v := (nI 60)) hx hb dX9_sheet_27 rfl ?_
      refine lv_icmp_le (tgt := 35) hx hb dX9_sheet_29 (by decide) (fun c_12 => ?_) (fun c_12 => ?_)
      · refine lv_iload_n hx hb dX9_sheet_35 rfl (lv_at hl 4 rfl) ?_
        refine lv_if_ge (tgt := 45) hx hb dX9_sheet_36 (by decide) (fun c_13 => ?_) (fun c_13 => ?_)
        · obtain ⟨n0, hn1, hn2, hn3, hn4⟩ := inR_of (show inR n 0 60 from ⟨c_13, c_12⟩) (by decide) (by decide)
          have hl : lv_has ls 5 [(4, .ref (r (6 + k5))), (0, .ref (r 0)), (1, .int sh), (2, .int lane), (3, .int (nI n0))] := lv_re hl 4 ⟨rfl, rfl⟩ (hn1)
          refine lv_aload hx hb dX9_sheet_45 (lv_at hl 0 rfl) ?_
          refine lv_iload_n hx hb dX9_sheet_47 rfl (lv_at hl 3 rfl) ?_
          refine lv_iload_n hx hb dX9_sheet_48 rfl (lv_at hl 4 rfl) ?_
          refine wVv (eO_S tO) (As := [.int lane, .int (nI n0)]) (rest := []) ⟨hx, hb, hml, hown, hts⟩ (kX4_makeRow l D cA r _ (upd u 0 (nI 0)) a th LP tf tO k5 n0 lane hk6 (by omega)) (cwV 2 hts gX9_sheet_X4_makeRow rfl rfl rfl (by decide +kernel) ⟨Nat.le_of_ble_eq_true rfl, Nat.le_of_ble_eq_true rfl⟩) (va_recv hK hP (ci := 4) (q0 := (6 + k5)) rfl (WN_o hk6)) hK hP hD hS hA hE rfl hl.1 rfl (Nat.le_of_ble_eq_true rfl) dX9_sheet_49 ⟨Nat.zero_le _, Nat.zero_le _⟩ (fun z_16 H locs hw_15 hP hD hS => ?_)
          obtain ⟨zu17, za18, zq19⟩ := z_16
          obtain ⟨h14, h18, hz0, hfu, hfa, hq_zu17⟩ := hw_15
          have hq_zu17 : zq19 = (th, LP, tf) := hq_zu17
          subst hq_zu17
          have h14 : zu17 (14 + k5) = lane := h14
          have h18 : zu17 (18 + k5) = nI n0 := h18
          have hz0 : ∀ i9, i9 < n0 → za18 (26 + k5) i9 = 0 := hz0
          have hfu : ∀ i9, i9 ≠ 14 + k5 → i9 ≠ 18 + k5 → zu17 i9 = (upd u 0 (nI 0)) i9 := hfu
          have hfa : ∀ i9, i9 ≠ 26 + k5 → za18 i9 = a i9 := hfa
          have hP : va_P D vwCl (xN cA r (zu17, za18, th, LP, tf)) H := hP
          have hD : va_D A (xN cA r (zu17, za18, th, LP, tf)) := hD
          refine lv_iconst (v := (nI 1)) hx hb dX9_sheet_52 rfl ?_
          exact wIret hx hb hr hlocks (v := (nI 1)) (zu17, za18, th, LP, tf) (⟨by unfold aSheet; rw [cif_pos hin_k5, cif_pos ⟨b_10, c_12⟩, cif_pos c_13], by unfold soSheet lnSheet ceSheet fSheet; rw [cif_pos ⟨hin_k5, b_10, c_13, c_12⟩, cif_pos ⟨hin_k5, b_10, c_13, c_12⟩, cif_pos ⟨hin_k5, b_10, c_13, c_12⟩, cif_pos hin_k5, cif_pos ⟨b_10, c_12⟩, cif_pos c_13, hn4, hkc_k5]; exact CI.sheets hI (hfu 0 (by omega) (by omega)) (((hfu 13 (by omega) (by omega)).trans (up_ne (by decide))).trans htr) (fun i hi => (hfu i (by omega) (by omega)).trans (up_ne (by omega))) (fun i hi => hfa i (by omega)) (shn_set hSh hk6 (isL_of b_10) hn3 h14 h18 hz0 (fun i h1 h2 h3 => (hfu i h2 h3).trans (up_ne (by omega))) (fun i hi => hfa i hi))⟩) hK hP hD hS dX9_sheet_53
        · refine lv_aload_n hx hb dX9_sheet_39 rfl (lv_at hl 1 rfl) ?_
          refine lv_iconst (v := (nI 4)) hx hb dX9_sheet_40 rfl ?_
          refine wVi (eO_S tO) (As := [.int (nI 4)]) (rest := []) ⟨hx, hb, hml, hown, hts⟩ (kX9_failBy l D cA r _ (upd u 0 (nI 0)) a th LP tf tO (nI 4)) (cwV 1 hts gX9_sheet_X9_failBy rfl rfl rfl (by decide +kernel) ⟨Nat.le_of_ble_eq_true rfl, Nat.le_of_ble_eq_true rfl⟩) (va_recv hK hP (ci := 9) (q0 := 0) rfl rfl) hK hP hD hS hA hE rfl hl.1 rfl (Nat.le_of_ble_eq_true rfl) dX9_sheet_41 ⟨Nat.zero_le _, Nat.zero_le _⟩ (fun rv_20 z_22 H locs hw_21 hP hD hS => ?_)
          obtain ⟨rfl, rfl⟩ := hw_21
          have hP : va_P D vwCl (xN cA r ((upd u 0 (nI 4)), a, th, LP, tf)) H := hP
          have hD : va_D A (xN cA r ((upd u 0 (nI 4)), a, th, LP, tf)) := hD
          exact wIret hx hb hr hlocks (v := ((-10) - (nI 4))) ((upd u 0 (nI 4)), a, th, LP, tf) (⟨by unfold aSheet; rw [cif_pos hin_k5, cif_pos ⟨b_10, c_12⟩, cif_neg c_13]; decide, by unfold soSheet lnSheet ceSheet fSheet; rw [cif_neg (fun q => c_13 q.2.2.1), cif_neg (fun q => c_13 q.2.2.1), cif_neg (fun q => c_13 q.2.2.1), cif_pos hin_k5, cif_pos ⟨b_10, c_12⟩, cif_neg c_13]; exact (CI.keep hI rfl htr (fun i hi9 => up_ne (by omega)) (fun i hi9 => rfl))⟩) hK hP hD hS dX9_sheet_44
      · refine lv_bipush (v := (-2)) hx hb dX9_sheet_32 (by decide) ?_
        exact wIret hx hb hr hlocks (v := (-2)) ((upd u 0 (nI 0)), a, th, LP, tf) (⟨by unfold aSheet; rw [cif_pos hin_k5, cif_neg (fun q => c_12 q.2)], by unfold soSheet lnSheet ceSheet fSheet; rw [cif_neg (fun q => c_12 q.2.2.2), cif_neg (fun q => c_12 q.2.2.2), cif_neg (fun q => c_12 q.2.2.2), cif_pos hin_k5, cif_neg (fun q => c_12 q.2)]; exact (CI.keep hI rfl htr (fun i hi9 => up_ne (by omega)) (fun i hi9 => rfl))⟩) hK hP hD hS dX9_sheet_34
    · refine lv_if_eq (tgt := 32) hx hb dX9_sheet_23 (by decide) (fun _ => ?_) (fun c_23 => absurd c_23 (by decide))
      refine lv_bipush (v := (-2)) hx hb dX9_sheet_32 (by decide) ?_
      exact wIret hx hb hr hlocks (v := (-2)) ((upd u 0 (nI 0)), a, th, LP, tf) (⟨by unfold aSheet; rw [cif_pos hin_k5, cif_neg (fun q => b_10 q.1)], by unfold soSheet lnSheet ceSheet fSheet; rw [cif_neg (fun q => b_10 q.2.1), cif_neg (fun q => b_10 q.2.1), cif_neg (fun q => b_10 q.2.1), cif_pos hin_k5, cif_neg (fun q => b_10 q.1)]; exact (CI.keep hI rfl htr (fun i hi9 => up_ne (by omega)) (fun i hi9 => rfl))⟩) hK hP hD hS dX9_sheet_34
  · refine lv_astoreN (lv' := [(4, .null), (0, .ref (r 0)), (1, .int sh), (2, .int lane), (3, .int n)]) hx hb dX9_sheet_10 hl (by decide) rfl (fun ls hl => ?_)
    refine lv_aloadN hx hb dX9_sheet_12 (lv_at hl 0 rfl) ?_
    refine lv_ifnonnullN hx hb dX9_sheet_14 ?_
    refine lv_iconst (v := (-1)) hx hb dX9_sheet_17 (by decide) ?_
    exact wIret hx hb hr hlocks (v := (-1)) ((upd u 0 (nI 0)), a, th, LP, tf) (⟨by unfold aSheet; rw [cif_neg hxk7], by unfold soSheet lnSheet ceSheet fSheet; rw [cif_neg (fun q => hxk7 q.1), cif_neg (fun q => hxk7 q.1), cif_neg (fun q => hxk7 q.1), cif_neg hxk7]; exact (CI.keep hI rfl htr (fun i hi9 => up_ne (by omega)) (fun i hi9 => rfl))⟩) hK hP hD hS dX9_sheet_18

set_option maxHeartbeats 4000000 in
set_option maxRecDepth 100000 in
theorem kX9_lose (l : Launch) (D : va_G) (cA : Nat → ClassId) (r : Nat → Nat) (sz : Nat) (u : Nat → Int32) (a : Nat → Nat → Int32) (th : Nat → Option Nat) (LP : List Nat) (tf : Nat → va_E) (tO : Nat) (g : Nat → Nat) (T : Nat → Nat → Nat) (R : Nat → Nat → Nat) (so : Nat → Int32) (ln : Nat → Nat) (ce : Nat → Nat → Int32) (f tr : Int32) (sh : Int32) (hI : CI u a th LP tf g T R so ln ce f tr) : Met l yX9_lose wsX9_lose ({ frames := 1, cells := 0, slots := 0, locals := 21 } : Room) (va_Pc [.ref (r 0), .int sh] (wA D vwCl (tyA cA) (eO tO) (xN cA r) (u, a, th, LP, tf) sz)) (va_Qi (fun (v : Int32) (z : sN) => v = aLose so sh ∧ CI z.1 z.2.1 z.2.2.1 z.2.2.2.1 z.2.2.2.2 g T R (soLose so sh) ln ce f tr) (wB D vwCl (tyA cA) (xN cA r) (va_A (xN cA r (u, a, th, LP, tf)) sz)) (va_A (xN cA r (u, a, th, LP, tf)) sz)) 0 0 (va_A (xN cA r (u, a, th, LP, tf)) sz) := by
  refine Met.ofW (cc := cX9_lose) (maxL := 3) (ret := (some .int)) (by decide) rfl ?_
  intro p e s m args below meth c s₁ B hml hv
  obtain ⟨rfl, hsz, hP, hK, hD0, hE⟩ := hv
  have hx := B.exec
  have hb := B.bytes
  have hr := B.returns
  have hts := atoms_spec (ws := wsX9_lose) B.pre
  have hown : s.vm.findClass RX9 = some m.cls := findClass_of_methodNamed B.named
  have hlocks := B.notSynchronized
  subst hsz
  have hD := hD0.self (sz := s.heap.size)
  generalize hAe : va_A (xN cA r (u, a, th, LP, tf)) s.heap.size = A at hD hE ⊢
  have hA : ∀ q : Nat, s.heap.size ≤ q → A q := fun q h => by rw [← hAe]; exact Or.inr h
  have hS : va_S A s.heap s.heap [] := va_S.rf
  have hl := lv_entry ([.ref (r 0), .int sh]) (n := 3) (Nat.le_of_ble_eq_true rfl)
  rw [lg_entry_eq]
  generalize (lg_sl ([.ref (r 0), .int sh]) ++ List.replicate (3 - (lg_sl ([.ref (r 0), .int sh])).length) Slot.unset).toArray = ls at hl ⊢
  have hl : lv_has ls 3 [(0, .ref (r 0)), (1, .int sh)] := hl
  have hM := hI.1
  have hB := hI.2.1
  have hg6 := hB.1
  have hsm := hI.2.2.1
  have hrs := hI.2.2.2.1
  have hRd := hI.2.2.2.2.1
  have hSh := hI.2.2.2.2.2.1
  have hf0 := hI.2.2.2.2.2.2.1
  have htr := hI.2.2.2.2.2.2.2.1
  have hPo := hI.2.2.2.2.2.2.2.2
  refine lv_aload_n hx hb dX9_lose_0 rfl (lv_at hl 0 rfl) ?_
  refine lv_iload_n hx hb dX9_lose_1 rfl (lv_at hl 1 rfl) ?_
  refine wVq (eO_S tO) (As := [.int sh]) (rest := []) ⟨hx, hb, hml, hown, hts⟩ (kX9_sheetAt l D cA r _ u a th LP tf tO sh) (cwV 1 hts gX9_lose_X9_sheetAt rfl rfl rfl (by decide +kernel) ⟨Nat.le_of_ble_eq_true rfl, Nat.le_of_ble_eq_true rfl⟩) (va_recv hK hP (ci := 9) (q0 := 0) rfl rfl) hK hP hD hS hA hE rfl hl.1 rfl (Nat.le_of_ble_eq_true rfl) dX9_lose_2 ⟨Nat.zero_le _, Nat.zero_le _⟩ (fun rv_1 z_3 H locs hw_2 hP hD hS => ?_)
  obtain ⟨hz_4, hw_2⟩ := hw_2
  subst hz_4
  have hP : va_P D vwCl (xN cA r (u, a, th, LP, tf)) H := hP
  have hD : va_D A (xN cA r (u, a, th, LP, tf)) := hD
  rcases hw_2 with ⟨k5, hk6, hxk7, rfl⟩ | ⟨hxk7, rfl⟩
  · have hkc_k5 : sh.toNatClampNeg = k5 := by rw [hxk7]; exact nI_clamp (by omega)
    have hsk_k5 := hSh k5 hk6
    have hlk_k5 := hsk_k5.2.2.2.1
    have hll_k5 : (if so k5 = -9 then 0 else ln k5) ≤ 60 := by split <;> omega
    have hin_k5 : inR sh 0 3 := by rw [hxk7]; exact ⟨nI_pos' (by omega), (nI_leI (by omega) (by decide)).mpr (by omega)⟩
    refine lv_astore_n (lv' := [(2, .ref (r (6 + k5))), (0, .ref (r 0)), (1, .int sh)]) hx hb dX9_lose_5 rfl hl (by decide) rfl (fun ls hl => ?_)
    refine lv_aload_n hx hb dX9_lose_6 rfl (lv_at hl 0 rfl) ?_
    refine lv_ifnonnull (tgt := 12) hx hb dX9_lose_7 (by decide) ?_
    refine lv_aload_n hx hb dX9_lose_12 rfl (lv_at hl 0 rfl) ?_
    refine wVi (eO_S tO) (As := []) (rest := []) ⟨hx, hb, hml, hown, hts⟩ (kX4_isNothing l D cA r _ u a th LP tf tO k5 hk6) (cwV 0 hts gX9_lose_X4_isNothing rfl rfl rfl (by decide +kernel) ⟨Nat.le_of_ble_eq_true rfl, Nat.le_of_ble_eq_true rfl⟩) (va_recv hK hP (ci := 4) (q0 := (6 + k5)) rfl (WN_o hk6)) hK hP hD hS hA hE rfl hl.1 rfl (Nat.le_of_ble_eq_true rfl) dX9_lose_13 ⟨Nat.zero_le _, Nat.zero_le _⟩ (fun rv_8 z_10 H locs hw_9 hP hD hS => ?_)
    obtain ⟨hz_11, hw_9⟩ := hw_9
    subst hz_11
    have hP : va_P D vwCl (xN cA r (u, a, th, LP, tf)) H := hP
    have hD : va_D A (xN cA r (u, a, th, LP, tf)) := hD
    rcases hw_9 with ⟨rfl, b_12⟩ | ⟨rfl, b_12⟩
    · have hn_k5 : so k5 = -9 := (sl_no hsk_k5.1 hsk_k5.2.1).mp b_12
      refine lv_if_eq (tgt := 21) hx hb dX9_lose_16 (by decide) (fun c_13 => absurd c_13 (by decide)) (fun _ => ?_)
      refine lv_iconst (v := (nI 0)) hx hb dX9_lose_19 rfl ?_
      exact wIret hx hb hr hlocks (v := (nI 0)) (u, a, th, LP, tf) (⟨by unfold aLose; rw [cif_pos hin_k5, hkc_k5, cif_pos hn_k5], by unfold soLose; rw [cif_pos hin_k5, hkc_k5, so_same hn_k5]; exact hI⟩) hK hP hD hS dX9_lose_20
    · have hn_k5 : ¬ so k5 = -9 := fun q => b_12 ((sl_no hsk_k5.1 hsk_k5.2.1).mpr q)
      refine lv_if_eq (tgt := 21) hx hb dX9_lose_16 (by decide) (fun _ => ?_) (fun c_14 => absurd c_14 (by decide))
      refine lv_aload_n hx hb dX9_lose_21 rfl (lv_at hl 0 rfl) ?_
      refine wVv (eO_S tO) (As := []) (rest := []) ⟨hx, hb, hml, hown, hts⟩ (kX4_makeNothing l D cA r _ u a th LP tf tO k5 hk6) (cwV 0 hts gX9_lose_X4_makeNothing rfl rfl rfl (by decide +kernel) ⟨Nat.le_of_ble_eq_true rfl, Nat.le_of_ble_eq_true rfl⟩) (va_recv hK hP (ci := 4) (q0 := (6 + k5)) rfl (WN_o hk6)) hK hP hD hS hA hE rfl hl.1 rfl (Nat.le_of_ble_eq_true rfl) dX9_lose_22 ⟨Nat.zero_le _, Nat.zero_le _⟩ (fun z_17 H locs hw_16 hP hD hS => ?_)
      obtain ⟨zu18, za19, zq20⟩ := z_17
      have hu_zu18 : zu18 = upd (upd u (14 + k5) (-1)) (18 + k5) (nI 0) := congrArg (fun z => z.1) hw_16
      have ha_zu18 : za19 = a := congrArg (fun z => z.2.1) hw_16
      have hq_zu18 : zq20 = (th, LP, tf) := congrArg (fun z => z.2.2) hw_16
      subst hq_zu18
      have hP : va_P D vwCl (xN cA r (zu18, za19, th, LP, tf)) H := hP
      have hD : va_D A (xN cA r (zu18, za19, th, LP, tf)) := hD
      refine lv_iconst (v := (nI 1)) hx hb dX9_lose_25 rfl ?_
      exact wIret hx hb hr hlocks (v := (nI 1)) (zu18, za19, th, LP, tf) (⟨by unfold aLose; rw [cif_pos hin_k5, hkc_k5, cif_neg hn_k5], by unfold soLose; rw [cif_pos hin_k5, hkc_k5]; exact CI.sheets hI ((congrFun hu_zu18 0).trans ((up_ne (by omega)).trans ((up_ne (by omega)).trans hf0))) ((congrFun hu_zu18 13).trans ((up_ne (by omega)).trans ((up_ne (by omega)).trans htr))) (fun i hi => (congrFun hu_zu18 i).trans ((up_ne (by omega)).trans (up_ne (by omega)))) (fun i hi => congrFun ha_zu18 i) (shn_lose hSh hk6 hu_zu18 ha_zu18)⟩) hK hP hD hS dX9_lose_26
  · refine lv_astore_nN (lv' := [(2, .null), (0, .ref (r 0)), (1, .int sh)]) hx hb dX9_lose_5 rfl hl (by decide) rfl (fun ls hl => ?_)
    refine lv_aload_nN hx hb dX9_lose_6 rfl (lv_at hl 0 rfl) ?_
    refine lv_ifnonnullN hx hb dX9_lose_7 ?_
    refine lv_iconst (v := (-1)) hx hb dX9_lose_10 (by decide) ?_
    exact wIret hx hb hr hlocks (v := (-1)) (u, a, th, LP, tf) (⟨by unfold aLose; rw [cif_neg hxk7], by unfold soLose; rw [cif_neg hxk7]; exact hI⟩) hK hP hD hS dX9_lose_11

set_option maxHeartbeats 4000000 in
set_option maxRecDepth 100000 in
theorem kX9_put (l : Launch) (D : va_G) (cA : Nat → ClassId) (r : Nat → Nat) (sz : Nat) (u : Nat → Int32) (a : Nat → Nat → Int32) (th : Nat → Option Nat) (LP : List Nat) (tf : Nat → va_E) (tO : Nat) (g : Nat → Nat) (T : Nat → Nat → Nat) (R : Nat → Nat → Nat) (so : Nat → Int32) (ln : Nat → Nat) (ce : Nat → Nat → Int32) (f tr : Int32) (sh i w : Int32) (hI : CI u a th LP tf g T R so ln ce f tr) : Met l yX9_put wsX9_put ({ frames := 2, cells := 0, slots := 0, locals := 43 } : Room) (va_Pc [.ref (r 0), .int sh, .int i, .int w] (wA D vwCl (tyA cA) (eO tO) (xN cA r) (u, a, th, LP, tf) sz)) (va_Qi (fun (v : Int32) (z : sN) => v = aPut so ln sh i ∧ CI z.1 z.2.1 z.2.2.1 z.2.2.2.1 z.2.2.2.2 g T R so ln (cePut so ln ce sh i w) (fPut so ln sh i) tr) (wB D vwCl (tyA cA) (xN cA r) (va_A (xN cA r (u, a, th, LP, tf)) sz)) (va_A (xN cA r (u, a, th, LP, tf)) sz)) 0 0 (va_A (xN cA r (u, a, th, LP, tf)) sz) := by
  refine Met.ofW (cc := cX9_put) (maxL := 5) (ret := (some .int)) (by decide) rfl ?_
  intro p e s m args below meth c s₁ B hml hv
  obtain ⟨rfl, hsz, hP, hK, hD0, hE⟩ := hv
  have hx := B.exec
  have hb := B.bytes
  have hr := B.returns
  have hts := atoms_spec (ws := wsX9_put) B.pre
  have hown : s.vm.findClass RX9 = some m.cls := findClass_of_methodNamed B.named
  have hlocks := B.notSynchronized
  subst hsz
  have hD := hD0.self (sz := s.heap.size)
  generalize hAe : va_A (xN cA r (u, a, th, LP, tf)) s.heap.size = A at hD hE ⊢
  have hA : ∀ q : Nat, s.heap.size ≤ q → A q := fun q h => by rw [← hAe]; exact Or.inr h
  have hS : va_S A s.heap s.heap [] := va_S.rf
  have hinX9 : ∀ w ∈ u_ws RX9 TX9 8, w ∈ wsX9_put := by decide +kernel
  have hl := lv_entry ([.ref (r 0), .int sh, .int i, .int w]) (n := 5) (Nat.le_of_ble_eq_true rfl)
  rw [lg_entry_eq]
  generalize (lg_sl ([.ref (r 0), .int sh, .int i, .int w]) ++ List.replicate (5 - (lg_sl ([.ref (r 0), .int sh, .int i, .int w])).length) Slot.unset).toArray = ls at hl ⊢
  have hl : lv_has ls 5 [(0, .ref (r 0)), (1, .int sh), (2, .int i), (3, .int w)] := hl
  have hM := hI.1
  have hB := hI.2.1
  have hg6 := hB.1
  have hsm := hI.2.2.1
  have hrs := hI.2.2.2.1
  have hRd := hI.2.2.2.2.1
  have hSh := hI.2.2.2.2.2.1
  have hf0 := hI.2.2.2.2.2.2.1
  have htr := hI.2.2.2.2.2.2.2.1
  have hPo := hI.2.2.2.2.2.2.2.2
  refine lv_aload_n hx hb dX9_put_0 rfl (lv_at hl 0 rfl) ?_
  refine lv_iconst (v := (nI 0)) hx hb dX9_put_1 rfl ?_
  refine va_put (D := D) (ci := 9) (v := .int (nI 0)) (ty := .int) (C := RX9) (T := TX9) (N := 8) hx hb hts hinX9 tyX9 tyX9_ok nmX9 hown hK hP hD hS 0 rfl rfl 7 (by decide) (hts (.fieldLink RX9 58 "OneNail" "lastFault" "I") (by decide +kernel)) (fun _ h9 => h9) rfl (by decide +kernel) rfl rfl (Nat.le_of_ble_eq_true rfl) dX9_put_2 (fun H locs hP hD hS => ?_)
  have hP : va_P D vwCl (xN cA r ((upd u 0 (nI 0)), a, th, LP, tf)) H := hP
  have hD : va_D A (xN cA r ((upd u 0 (nI 0)), a, th, LP, tf)) := hD
  refine lv_aload_n hx hb dX9_put_5 rfl (lv_at hl 0 rfl) ?_
  refine lv_iload_n hx hb dX9_put_6 rfl (lv_at hl 1 rfl) ?_
  refine wVq (eO_S tO) (As := [.int sh]) (rest := []) ⟨hx, hb, hml, hown, hts⟩ (kX9_sheetAt l D cA r _ (upd u 0 (nI 0)) a th LP tf tO sh) (cwV 1 hts gX9_put_X9_sheetAt rfl rfl rfl (by decide +kernel) ⟨Nat.le_of_ble_eq_true rfl, Nat.le_of_ble_eq_true rfl⟩) (va_recv hK hP (ci := 9) (q0 := 0) rfl rfl) hK hP hD hS hA hE rfl hl.1 rfl (Nat.le_of_ble_eq_true rfl) dX9_put_7 ⟨Nat.zero_le _, Nat.zero_le _⟩ (fun rv_1 z_3 H locs hw_2 hP hD hS => ?_)
  obtain ⟨hz_4, hw_2⟩ := hw_2
  subst hz_4
  have hP : va_P D vwCl (xN cA r ((upd u 0 (nI 0)), a, th, LP, tf)) H := hP
  have hD : va_D A (xN cA r ((upd u 0 (nI 0)), a, th, LP, tf)) := hD
  rcases hw_2 with ⟨k5, hk6, hxk7, rfl⟩ | ⟨hxk7, rfl⟩
  · have hkc_k5 : sh.toNatClampNeg = k5 := by rw [hxk7]; exact nI_clamp (by omega)
    have hsk_k5 := hSh k5 hk6
    have hlk_k5 := hsk_k5.2.2.2.1
    have hll_k5 : (if so k5 = -9 then 0 else ln k5) ≤ 60 := by split <;> omega
    have hin_k5 : inR sh 0 3 := by rw [hxk7]; exact ⟨nI_pos' (by omega), (nI_leI (by omega) (by decide)).mpr (by omega)⟩
    refine lv_astore (lv' := [(4, .ref (r (6 + k5))), (0, .ref (r 0)), (1, .int sh), (2, .int i), (3, .int w)]) hx hb dX9_put_10 hl (by decide) rfl (fun ls hl => ?_)
    refine lv_aload hx hb dX9_put_12 (lv_at hl 0 rfl) ?_
    refine lv_ifnonnull (tgt := 19) hx hb dX9_put_14 (by decide) ?_
    refine lv_aload hx hb dX9_put_19 (lv_at hl 0 rfl) ?_
    refine wVi (eO_S tO) (As := []) (rest := []) ⟨hx, hb, hml, hown, hts⟩ (kX4_isNothing l D cA r _ (upd u 0 (nI 0)) a th LP tf tO k5 hk6) (cwV 0 hts gX9_put_X4_isNothing rfl rfl rfl (by decide +kernel) ⟨Nat.le_of_ble_eq_true rfl, Nat.le_of_ble_eq_true rfl⟩) (va_recv hK hP (ci := 4) (q0 := (6 + k5)) rfl (WN_o hk6)) hK hP hD hS hA hE rfl hl.1 rfl (Nat.le_of_ble_eq_true rfl) dX9_put_21 ⟨Nat.zero_le _, Nat.zero_le _⟩ (fun rv_8 z_10 H locs hw_9 hP hD hS => ?_)
    obtain ⟨hz_11, hw_9⟩ := hw_9
    subst hz_11
    have hP : va_P D vwCl (xN cA r ((upd u 0 (nI 0)), a, th, LP, tf)) H := hP
    have hD : va_D A (xN cA r ((upd u 0 (nI 0)), a, th, LP, tf)) := hD
    rcases hw_9 with ⟨rfl, b_12⟩ | ⟨rfl, b_12⟩
    · have hn_k5 : so k5 = -9 := (sl_no hsk_k5.1 (Eq.trans (up_ne (by omega)) (hsk_k5.2.1))).mp b_12
      refine lv_if_eq (tgt := 33) hx hb dX9_put_24 (by decide) (fun c_13 => absurd c_13 (by decide)) (fun _ => ?_)
      refine lv_aload_n hx hb dX9_put_27 rfl (lv_at hl 1 rfl) ?_
      refine lv_iconst (v := (nI 1)) hx hb dX9_put_28 rfl ?_
      refine wVi (eO_S tO) (As := [.int (nI 1)]) (rest := []) ⟨hx, hb, hml, hown, hts⟩ (kX9_failBy l D cA r _ (upd u 0 (nI 0)) a th LP tf tO (nI 1)) (cwV 1 hts gX9_put_X9_failBy rfl rfl rfl (by decide +kernel) ⟨Nat.le_of_ble_eq_true rfl, Nat.le_of_ble_eq_true rfl⟩) (va_recv hK hP (ci := 9) (q0 := 0) rfl rfl) hK hP hD hS hA hE rfl hl.1 rfl (Nat.le_of_ble_eq_true rfl) dX9_put_29 ⟨Nat.zero_le _, Nat.zero_le _⟩ (fun rv_14 z_16 H locs hw_15 hP hD hS => ?_)
      obtain ⟨rfl, rfl⟩ := hw_15
      have hP : va_P D vwCl (xN cA r ((upd u 0 (nI 1)), a, th, LP, tf)) H := hP
      have hD : va_D A (xN cA r ((upd u 0 (nI 1)), a, th, LP, tf)) := hD
      exact wIret hx hb hr hlocks (v := ((-10) - (nI 1))) ((upd u 0 (nI 1)), a, th, LP, tf) (⟨by unfold aPut; rw [cif_pos hin_k5, hkc_k5, cif_pos hn_k5]; decide, by unfold cePut fPut; rw [hkc_k5, cif_neg (fun q => q.2.1 hn_k5), cif_pos hin_k5, cif_pos hn_k5]; exact (CI.keep hI rfl htr (fun i hi9 => up_ne (by omega)) (fun i hi9 => rfl))⟩) hK hP hD hS dX9_put_32
    · have hn_k5 : ¬ so k5 = -9 := fun q => b_12 ((sl_no hsk_k5.1 (Eq.trans (up_ne (by omega)) (hsk_k5.2.1))).mpr q)
      refine lv_if_eq (tgt := 33) hx hb dX9_put_24 (by decide) (fun _ => ?_) (fun c_17 => absurd c_17 (by decide))
      refine lv_aload hx hb dX9_put_33 (lv_at hl 0 rfl) ?_
      refine lv_iload_n hx hb dX9_put_35 rfl (lv_at hl 3 rfl) ?_
      refine wVi (eO_S tO) (As := [.int i]) (rest := []) ⟨hx, hb, hml, hown, hts⟩ (kX4_hasCell l D cA r _ (upd u 0 (nI 0)) a th LP tf tO k5 (ln k5) i hk6 (Eq.trans (up_ne (by omega)) ((hsk_k5.2.2.1.trans (congrArg nI (if_neg hn_k5))))) hlk_k5) (cwV 1 hts gX9_put_X4_hasCell rfl rfl rfl (by decide +kernel) ⟨Nat.le_of_ble_eq_true rfl, Nat.le_of_ble_eq_true rfl⟩) (va_recv hK hP (ci := 4) (q0 := (6 + k5)) rfl (WN_o hk6)) hK hP hD hS hA hE rfl hl.1 rfl (Nat.le_of_ble_eq_true rfl) dX9_put_36 ⟨Nat.zero_le _, Nat.zero_le _⟩ (fun rv_18 z_20 H locs hw_19 hP hD hS => ?_)
      obtain ⟨hz_21, hw_19⟩ := hw_19
      subst hz_21
      have hP : va_P D vwCl (xN cA r ((upd u 0 (nI 0)), a, th, LP, tf)) H := hP
      have hD : va_D A (xN cA r ((upd u 0 (nI 0)), a, th, LP, tf)) := hD
      rcases hw_19 with ⟨rfl, b_22⟩ | ⟨rfl, b_22⟩
      · have hi8 := isT_of2 b_22 (by omega)
        have hl : lv_has ls 5 [(4, .ref (r (6 + k5))), (0, .ref (r 0)), (1, .int sh), (2, .int (nI (i.toNatClampNeg))), (3, .int w)] := lv_re hl 3 ⟨rfl, rfl⟩ (hi8.1)
        refine lv_if_ne (tgt := 48) hx hb dX9_put_39 (by decide) (fun _ => ?_) (fun c_23 => absurd c_23 (by decide))
        refine lv_aload hx hb dX9_put_48 (lv_at hl 0 rfl) ?_
        refine lv_iload_n hx hb dX9_put_50 rfl (lv_at hl 3 rfl) ?_
        refine lv_iload_n hx hb dX9_put_51 rfl (lv_at hl 4 rfl) ?_
        refine wVv (eO_S tO) (As := [.int (nI (i.toNatClampNeg)), .int w]) (rest := []) ⟨hx, hb, hml, hown, hts⟩ (kX4_write l D cA r _ (upd u 0 (nI 0)) a th LP tf tO k5 (ln k5) (i.toNatClampNeg) w hk6 (Eq.trans (up_ne (by omega)) ((hsk_k5.2.2.1.trans (congrArg nI (if_neg hn_k5))))) hlk_k5 (by omega)) (cwV 2 hts gX9_put_X4_write rfl rfl rfl (by decide +kernel) ⟨Nat.le_of_ble_eq_true rfl, Nat.le_of_ble_eq_true rfl⟩) (va_recv hK hP (ci := 4) (q0 := (6 + k5)) rfl (WN_o hk6)) hK hP hD hS hA hE rfl hl.1 rfl (Nat.le_of_ble_eq_true rfl) dX9_put_52 ⟨Nat.zero_le _, Nat.zero_le _⟩ (fun z_26 H locs hw_25 hP hD hS => ?_)
        obtain ⟨zu27, za28, zq29⟩ := z_26
        have hu_zu27 : zu27 = (upd u 0 (nI 0)) := congrArg (fun z => z.1) hw_25
        have ha_zu27 : za28 = va_up a (26 + k5) (upd (a (26 + k5)) (i.toNatClampNeg) (cut ((upd u 0 (nI 0)) (14 + k5)) w)) := congrArg (fun z => z.2.1) hw_25
        have hq_zu27 : zq29 = (th, LP, tf) := congrArg (fun z => z.2.2) hw_25
        subst hq_zu27
        have hP : va_P D vwCl (xN cA r (zu27, za28, th, LP, tf)) H := hP
        have hD : va_D A (xN cA r (zu27, za28, th, LP, tf)) := hD
        refine lv_iconst (v := (nI 1)) hx hb dX9_put_55 rfl ?_
        exact wIret hx hb hr hlocks (v := (nI 1)) (zu27, za28, th, LP, tf) (⟨by unfold aPut; rw [cif_pos hin_k5, hkc_k5, cif_neg hn_k5, cif_pos b_22], by unfold cePut fPut; rw [hkc_k5, cif_pos ⟨hin_k5, hn_k5, b_22⟩, cif_pos hin_k5, cif_neg hn_k5, cif_pos b_22]; exact CI.sheets hI (congrFun hu_zu27 0) ((congrFun hu_zu27 13).trans ((up_ne (by omega)).trans htr)) (fun i hi => (congrFun hu_zu27 i).trans (up_ne (by omega))) (fun i hi => (congrFun ha_zu27 i).trans (vup_ne (by omega))) (shn_put hSh hk6 (fun i hi => (congrFun hu_zu27 i).trans (up_ne (by omega))) (ha_zu27.trans (by rw [(Eq.trans (up_ne (by omega)) (hsk_k5.2.1.trans (if_neg hn_k5)))])))⟩) hK hP hD hS dX9_put_56
      · refine lv_if_ne (tgt := 48) hx hb dX9_put_39 (by decide) (fun c_30 => absurd c_30 (by decide)) (fun _ => ?_)
        refine lv_aload_n hx hb dX9_put_42 rfl (lv_at hl 1 rfl) ?_
        refine lv_iconst (v := (nI 3)) hx hb dX9_put_43 rfl ?_
        refine wVi (eO_S tO) (As := [.int (nI 3)]) (rest := []) ⟨hx, hb, hml, hown, hts⟩ (kX9_failBy l D cA r _ (upd u 0 (nI 0)) a th LP tf tO (nI 3)) (cwV 1 hts gX9_put_X9_failBy rfl rfl rfl (by decide +kernel) ⟨Nat.le_of_ble_eq_true rfl, Nat.le_of_ble_eq_true rfl⟩) (va_recv hK hP (ci := 9) (q0 := 0) rfl rfl) hK hP hD hS hA hE rfl hl.1 rfl (Nat.le_of_ble_eq_true rfl) dX9_put_44 ⟨Nat.zero_le _, Nat.zero_le _⟩ (fun rv_31 z_33 H locs hw_32 hP hD hS => ?_)
        obtain ⟨rfl, rfl⟩ := hw_32
        have hP : va_P D vwCl (xN cA r ((upd u 0 (nI 3)), a, th, LP, tf)) H := hP
        have hD : va_D A (xN cA r ((upd u 0 (nI 3)), a, th, LP, tf)) := hD
        exact wIret hx hb hr hlocks (v := ((-10) - (nI 3))) ((upd u 0 (nI 3)), a, th, LP, tf) (⟨by unfold aPut; rw [cif_pos hin_k5, hkc_k5, cif_neg hn_k5, cif_neg b_22]; decide, by unfold cePut fPut; rw [hkc_k5, cif_neg (fun q => b_22 q.2.2), cif_pos hin_k5, cif_neg hn_k5, cif_neg b_22]; exact (CI.keep hI rfl htr (fun i hi9 => up_ne (by omega)) (fun i hi9 => rfl))⟩) hK hP hD hS dX9_put_47
  · refine lv_astoreN (lv' := [(4, .null), (0, .ref (r 0)), (1, .int sh), (2, .int i), (3, .int w)]) hx hb dX9_put_10 hl (by decide) rfl (fun ls hl => ?_)
    refine lv_aloadN hx hb dX9_put_12 (lv_at hl 0 rfl) ?_
    refine lv_ifnonnullN hx hb dX9_put_14 ?_
    refine lv_iconst (v := (-1)) hx hb dX9_put_17 (by decide) ?_
    exact wIret hx hb hr hlocks (v := (-1)) ((upd u 0 (nI 0)), a, th, LP, tf) (⟨by unfold aPut; rw [cif_neg hxk7], by unfold cePut fPut; rw [cif_neg (fun q => hxk7 q.1), cif_neg hxk7]; exact (CI.keep hI rfl htr (fun i hi9 => up_ne (by omega)) (fun i hi9 => rfl))⟩) hK hP hD hS dX9_put_18

set_option maxHeartbeats 4000000 in
set_option maxRecDepth 100000 in
theorem kX9_cell (l : Launch) (D : va_G) (cA : Nat → ClassId) (r : Nat → Nat) (sz : Nat) (u : Nat → Int32) (a : Nat → Nat → Int32) (th : Nat → Option Nat) (LP : List Nat) (tf : Nat → va_E) (tO : Nat) (g : Nat → Nat) (T : Nat → Nat → Nat) (R : Nat → Nat → Nat) (so : Nat → Int32) (ln : Nat → Nat) (ce : Nat → Nat → Int32) (f tr : Int32) (sh i lane : Int32) (hI : CI u a th LP tf g T R so ln ce f tr) : Met l yX9_cell wsX9_cell ({ frames := 2, cells := 0, slots := 0, locals := 43 } : Room) (va_Pc [.ref (r 0), .int sh, .int i, .int lane] (wA D vwCl (tyA cA) (eO tO) (xN cA r) (u, a, th, LP, tf) sz)) (va_Ql (fun (v : Int64) (z : sN) => v = aCell so ln ce sh i lane ∧ CI z.1 z.2.1 z.2.2.1 z.2.2.2.1 z.2.2.2.2 g T R so ln ce (fCell so ln sh i lane) tr) (wB D vwCl (tyA cA) (xN cA r) (va_A (xN cA r (u, a, th, LP, tf)) sz)) (va_A (xN cA r (u, a, th, LP, tf)) sz)) 0 0 (va_A (xN cA r (u, a, th, LP, tf)) sz) := by
  refine Met.ofW (cc := cX9_cell) (maxL := 5) (ret := (some .long)) (by decide) rfl ?_
  intro p e s m args below meth c s₁ B hml hv
  obtain ⟨rfl, hsz, hP, hK, hD0, hE⟩ := hv
  have hx := B.exec
  have hb := B.bytes
  have hr := B.returns
  have hts := atoms_spec (ws := wsX9_cell) B.pre
  have hown : s.vm.findClass RX9 = some m.cls := findClass_of_methodNamed B.named
  have hlocks := B.notSynchronized
  subst hsz
  have hD := hD0.self (sz := s.heap.size)
  generalize hAe : va_A (xN cA r (u, a, th, LP, tf)) s.heap.size = A at hD hE ⊢
  have hA : ∀ q : Nat, s.heap.size ≤ q → A q := fun q h => by rw [← hAe]; exact Or.inr h
  have hS : va_S A s.heap s.heap [] := va_S.rf
  have hinX9 : ∀ w ∈ u_ws RX9 TX9 8, w ∈ wsX9_cell := by decide +kernel
  have hl := lv_entry ([.ref (r 0), .int sh, .int i, .int lane]) (n := 5) (Nat.le_of_ble_eq_true rfl)
  rw [lg_entry_eq]
  generalize (lg_sl ([.ref (r 0), .int sh, .int i, .int lane]) ++ List.replicate (5 - (lg_sl ([.ref (r 0), .int sh, .int i, .int lane])).length) Slot.unset).toArray = ls at hl ⊢
  have hl : lv_has ls 5 [(0, .ref (r 0)), (1, .int sh), (2, .int i), (3, .int lane)] := hl
  have hM := hI.1
  have hB := hI.2.1
  have hg6 := hB.1
  have hsm := hI.2.2.1
  have hrs := hI.2.2.2.1
  have hRd := hI.2.2.2.2.1
  have hSh := hI.2.2.2.2.2.1
  have hf0 := hI.2.2.2.2.2.2.1
  have htr := hI.2.2.2.2.2.2.2.1
  have hPo := hI.2.2.2.2.2.2.2.2
  refine lv_aload_n hx hb dX9_cell_0 rfl (lv_at hl 0 rfl) ?_
  refine lv_iconst (v := (nI 0)) hx hb dX9_cell_1 rfl ?_
  refine va_put (D := D) (ci := 9) (v := .int (nI 0)) (ty := .int) (C := RX9) (T := TX9) (N := 8) hx hb hts hinX9 tyX9 tyX9_ok nmX9 hown hK hP hD hS 0 rfl rfl 7 (by decide) (hts (.fieldLink RX9 58 "OneNail" "lastFault" "I") (by decide +kernel)) (fun _ h9 => h9) rfl (by decide +kernel) rfl rfl (Nat.le_of_ble_eq_true rfl) dX9_cell_2 (fun H locs hP hD hS => ?_)
  have hP : va_P D vwCl (xN cA r ((upd u 0 (nI 0)), a, th, LP, tf)) H := hP
  have hD : va_D A (xN cA r ((upd u 0 (nI 0)), a, th, LP, tf)) := hD
  refine lv_aload_n hx hb dX9_cell_5 rfl (lv_at hl 0 rfl) ?_
  refine lv_iload_n hx hb dX9_cell_6 rfl (lv_at hl 1 rfl) ?_
  refine wVq (eO_S tO) (As := [.int sh]) (rest := []) ⟨hx, hb, hml, hown, hts⟩ (kX9_sheetAt l D cA r _ (upd u 0 (nI 0)) a th LP tf tO sh) (cwV 1 hts gX9_cell_X9_sheetAt rfl rfl rfl (by decide +kernel) ⟨Nat.le_of_ble_eq_true rfl, Nat.le_of_ble_eq_true rfl⟩) (va_recv hK hP (ci := 9) (q0 := 0) rfl rfl) hK hP hD hS hA hE rfl hl.1 rfl (Nat.le_of_ble_eq_true rfl) dX9_cell_7 ⟨Nat.zero_le _, Nat.zero_le _⟩ (fun rv_1 z_3 H locs hw_2 hP hD hS => ?_)
  obtain ⟨hz_4, hw_2⟩ := hw_2
  subst hz_4
  have hP : va_P D vwCl (xN cA r ((upd u 0 (nI 0)), a, th, LP, tf)) H := hP
  have hD : va_D A (xN cA r ((upd u 0 (nI 0)), a, th, LP, tf)) := hD
  rcases hw_2 with ⟨k5, hk6, hxk7, rfl⟩ | ⟨hxk7, rfl⟩
  · have hkc_k5 : sh.toNatClampNeg = k5 := by rw [hxk7]; exact nI_clamp (by omega)
    have hsk_k5 := hSh k5 hk6
    have hlk_k5 := hsk_k5.2.2.2.1
    have hll_k5 : (if so k5 = -9 then 0 else ln k5) ≤ 60 := by split <;> omega
    have hin_k5 : inR sh 0 3 := by rw [hxk7]; exact ⟨nI_pos' (by omega), (nI_leI (by omega) (by decide)).mpr (by omega)⟩
    refine lv_astore (lv' := [(4, .ref (r (6 + k5))), (0, .ref (r 0)), (1, .int sh), (2, .int i), (3, .int lane)]) hx hb dX9_cell_10 hl (by decide) rfl (fun ls hl => ?_)
    refine lv_aload hx hb dX9_cell_12 (lv_at hl 0 rfl) ?_
    refine lv_ifnull hx hb dX9_cell_14 ?_
    refine lv_iload_n hx hb dX9_cell_17 rfl (lv_at hl 4 rfl) ?_
    refine wSi (As := [.int lane]) (rest := []) ⟨hx, hb, hml, hown, hts⟩ (kX9_isLane l lane) (va_cwS 1 hts gX9_cell_X9_isLane rfl rfl rfl (by decide +kernel) ⟨Nat.le_of_ble_eq_true rfl, Nat.le_of_ble_eq_true rfl⟩) rfl hl.1 rfl (Nat.le_of_ble_eq_true rfl) dX9_cell_18 ⟨Nat.zero_le _, Nat.zero_le _⟩ (fun rv_8 hw_9 => ?_)
    rcases hw_9 with ⟨rfl, b_10⟩ | ⟨rfl, b_10⟩
    · refine lv_if_eq (tgt := 34) hx hb dX9_cell_21 (by decide) (fun c_11 => absurd c_11 (by decide)) (fun _ => ?_)
      refine lv_aload_n hx hb dX9_cell_24 rfl (lv_at hl 1 rfl) ?_
      refine lv_aload hx hb dX9_cell_25 (lv_at hl 0 rfl) ?_
      refine lv_iload_n hx hb dX9_cell_27 rfl (lv_at hl 4 rfl) ?_
      refine wVi (eO_S tO) (As := [.ref (r (6 + k5)), .int lane]) (rest := []) ⟨hx, hb, hml, hown, hts⟩ (kX9_refuseLane l D cA r _ (upd u 0 (nI 0)) a th LP tf tO k5 (so k5) lane hk6 hsk_k5.1 (Eq.trans (up_ne (by omega)) (hsk_k5.2.1))) (cwV 2 hts gX9_cell_X9_refuseLane rfl rfl rfl (by decide +kernel) ⟨Nat.le_of_ble_eq_true rfl, Nat.le_of_ble_eq_true rfl⟩) (va_recv hK hP (ci := 9) (q0 := 0) rfl rfl) hK hP hD hS hA hE rfl hl.1 rfl (Nat.le_of_ble_eq_true rfl) dX9_cell_28 ⟨Nat.zero_le _, Nat.zero_le _⟩ (fun rv_12 z_14 H locs hw_13 hP hD hS => ?_)
      rcases hw_13 with ⟨hn15, rfl, rfl⟩ | ⟨hn15, hl16, rfl, rfl⟩ | ⟨hn15, hl16, rfl, rfl⟩
      · have hP : va_P D vwCl (xN cA r ((upd u 0 (nI 1)), a, th, LP, tf)) H := hP
        have hD : va_D A (xN cA r ((upd u 0 (nI 1)), a, th, LP, tf)) := hD
        refine lv_if_eq (tgt := 38) hx hb dX9_cell_31 (by decide) (fun c_17 => absurd c_17 (by decide)) (fun c_17 => ?_)
        refine lv_ldc2 (v := (-9223372036854775808)) hx hb hown (hts (.constantLong RX9 211 (-9223372036854775808)) (by decide +kernel)) dX9_cell_34 ?_
        exact wLret hx hb hr hlocks (v := (-9223372036854775808)) ((upd u 0 (nI 1)), a, th, LP, tf) (⟨by unfold aCell; rw [cif_pos ⟨hin_k5, b_10⟩, hkc_k5, cif_neg (fun q => q.1 hn15), cif_pos hn15], by unfold fCell; rw [cif_pos ⟨hin_k5, b_10⟩, hkc_k5, cif_neg (fun q => q.1 hn15), cif_pos hn15]; exact (CI.keep hI rfl htr (fun i hi9 => up_ne (by omega)) (fun i hi9 => rfl))⟩) hK hP hD hS dX9_cell_37
      · have hP : va_P D vwCl (xN cA r ((upd u 0 (nI 2)), a, th, LP, tf)) H := hP
        have hD : va_D A (xN cA r ((upd u 0 (nI 2)), a, th, LP, tf)) := hD
        refine lv_if_eq (tgt := 38) hx hb dX9_cell_31 (by decide) (fun c_18 => absurd c_18 (by decide)) (fun c_18 => ?_)
        refine lv_ldc2 (v := (-9223372036854775808)) hx hb hown (hts (.constantLong RX9 211 (-9223372036854775808)) (by decide +kernel)) dX9_cell_34 ?_
        exact wLret hx hb hr hlocks (v := (-9223372036854775808)) ((upd u 0 (nI 2)), a, th, LP, tf) (⟨by unfold aCell; rw [cif_pos ⟨hin_k5, b_10⟩, hkc_k5, cif_pos ⟨hn15, hl16⟩], by unfold fCell; rw [cif_pos ⟨hin_k5, b_10⟩, hkc_k5, cif_pos ⟨hn15, hl16⟩]; exact (CI.keep hI rfl htr (fun i hi9 => up_ne (by omega)) (fun i hi9 => rfl))⟩) hK hP hD hS dX9_cell_37
      · have hP : va_P D vwCl (xN cA r ((upd u 0 (nI 0)), a, th, LP, tf)) H := hP
        have hD : va_D A (xN cA r ((upd u 0 (nI 0)), a, th, LP, tf)) := hD
        refine lv_if_eq (tgt := 38) hx hb dX9_cell_31 (by decide) (fun _ => ?_) (fun c_19 => absurd c_19 (by decide))
        refine lv_aload hx hb dX9_cell_38 (lv_at hl 0 rfl) ?_
        refine lv_iload_n hx hb dX9_cell_40 rfl (lv_at hl 3 rfl) ?_
        refine wVi (eO_S tO) (As := [.int i]) (rest := []) ⟨hx, hb, hml, hown, hts⟩ (kX4_hasCell l D cA r _ (upd u 0 (nI 0)) a th LP tf tO k5 (ln k5) i hk6 (Eq.trans (up_ne (by omega)) ((hsk_k5.2.2.1.trans (congrArg nI (if_neg hn15))))) hlk_k5) (cwV 1 hts gX9_cell_X4_hasCell rfl rfl rfl (by decide +kernel) ⟨Nat.le_of_ble_eq_true rfl, Nat.le_of_ble_eq_true rfl⟩) (va_recv hK hP (ci := 4) (q0 := (6 + k5)) rfl (WN_o hk6)) hK hP hD hS hA hE rfl hl.1 rfl (Nat.le_of_ble_eq_true rfl) dX9_cell_41 ⟨Nat.zero_le _, Nat.zero_le _⟩ (fun rv_20 z_22 H locs hw_21 hP hD hS => ?_)
        obtain ⟨hz_23, hw_21⟩ := hw_21
        subst hz_23
        have hP : va_P D vwCl (xN cA r ((upd u 0 (nI 0)), a, th, LP, tf)) H := hP
        have hD : va_D A (xN cA r ((upd u 0 (nI 0)), a, th, LP, tf)) := hD
        rcases hw_21 with ⟨rfl, b_24⟩ | ⟨rfl, b_24⟩
        · have hi8 := isT_of2 b_24 (by omega)
          have hl : lv_has ls 5 [(4, .ref (r (6 + k5))), (0, .ref (r 0)), (1, .int sh), (2, .int (nI (i.toNatClampNeg))), (3, .int lane)] := lv_re hl 3 ⟨rfl, rfl⟩ (hi8.1)
          refine lv_if_ne (tgt := 57) hx hb dX9_cell_44 (by decide) (fun _ => ?_) (fun c_25 => absurd c_25 (by decide))
          refine lv_aload hx hb dX9_cell_57 (lv_at hl 0 rfl) ?_
          refine lv_iload_n hx hb dX9_cell_59 rfl (lv_at hl 3 rfl) ?_
          refine wVi (eO_S tO) (As := [.int (nI (i.toNatClampNeg))]) (rest := []) ⟨hx, hb, hml, hown, hts⟩ (kX4_read l D cA r _ (upd u 0 (nI 0)) a th LP tf tO k5 (ln k5) (i.toNatClampNeg) hk6 (Eq.trans (up_ne (by omega)) ((hsk_k5.2.2.1.trans (congrArg nI (if_neg hn15))))) hlk_k5 (by omega)) (cwV 1 hts gX9_cell_X4_read rfl rfl rfl (by decide +kernel) ⟨Nat.le_of_ble_eq_true rfl, Nat.le_of_ble_eq_true rfl⟩) (va_recv hK hP (ci := 4) (q0 := (6 + k5)) rfl (WN_o hk6)) hK hP hD hS hA hE rfl hl.1 rfl (Nat.le_of_ble_eq_true rfl) dX9_cell_60 ⟨Nat.zero_le _, Nat.zero_le _⟩ (fun rv_26 z_28 H locs hw_27 hP hD hS => ?_)
          obtain ⟨rfl, rfl⟩ := hw_27
          have hP : va_P D vwCl (xN cA r ((upd u 0 (nI 0)), a, th, LP, tf)) H := hP
          have hD : va_D A (xN cA r ((upd u 0 (nI 0)), a, th, LP, tf)) := hD
          refine lv_topi (fun y_29 ey_29 => ?_)
          obtain rfl : y_29 = (ce k5 (i.toNatClampNeg)) := ey_29.trans (hsk_k5.2.2.2.2 hn15 (i.toNatClampNeg) (by omega))
          refine lv_i2l (v := ((ce k5 (i.toNatClampNeg)).toInt64)) hx hb dX9_cell_63 rfl ?_
          exact wLret hx hb hr hlocks (v := ((ce k5 (i.toNatClampNeg)).toInt64)) ((upd u 0 (nI 0)), a, th, LP, tf) (⟨by unfold aCell; rw [cif_pos ⟨hin_k5, b_10⟩, hkc_k5, cif_neg (fun q => q.2 hl16), cif_neg hn15, cif_pos b_24], by unfold fCell; rw [cif_pos ⟨hin_k5, b_10⟩, hkc_k5, cif_neg (fun q => q.2 hl16), cif_neg hn15, cif_pos b_24]; exact (CI.keep hI rfl htr (fun i hi9 => up_ne (by omega)) (fun i hi9 => rfl))⟩) hK hP hD hS dX9_cell_64
        · refine lv_if_ne (tgt := 57) hx hb dX9_cell_44 (by decide) (fun c_30 => absurd c_30 (by decide)) (fun _ => ?_)
          refine lv_aload_n hx hb dX9_cell_47 rfl (lv_at hl 1 rfl) ?_
          refine lv_iconst (v := (nI 3)) hx hb dX9_cell_48 rfl ?_
          refine wVi (eO_S tO) (As := [.int (nI 3)]) (rest := []) ⟨hx, hb, hml, hown, hts⟩ (kX9_failBy l D cA r _ (upd u 0 (nI 0)) a th LP tf tO (nI 3)) (cwV 1 hts gX9_cell_X9_failBy rfl rfl rfl (by decide +kernel) ⟨Nat.le_of_ble_eq_true rfl, Nat.le_of_ble_eq_true rfl⟩) (va_recv hK hP (ci := 9) (q0 := 0) rfl rfl) hK hP hD hS hA hE rfl hl.1 rfl (Nat.le_of_ble_eq_true rfl) dX9_cell_49 ⟨Nat.zero_le _, Nat.zero_le _⟩ (fun rv_31 z_33 H locs hw_32 hP hD hS => ?_)
          obtain ⟨rfl, rfl⟩ := hw_32
          have hP : va_P D vwCl (xN cA r ((upd u 0 (nI 3)), a, th, LP, tf)) H := hP
          have hD : va_D A (xN cA r ((upd u 0 (nI 3)), a, th, LP, tf)) := hD
          refine lv_pop hx hb dX9_cell_52 rfl ?_
          refine lv_ldc2 (v := (-9223372036854775808)) hx hb hown (hts (.constantLong RX9 211 (-9223372036854775808)) (by decide +kernel)) dX9_cell_53 ?_
          exact wLret hx hb hr hlocks (v := (-9223372036854775808)) ((upd u 0 (nI 3)), a, th, LP, tf) (⟨by unfold aCell; rw [cif_pos ⟨hin_k5, b_10⟩, hkc_k5, cif_neg (fun q => q.2 hl16), cif_neg hn15, cif_neg b_24], by unfold fCell; rw [cif_pos ⟨hin_k5, b_10⟩, hkc_k5, cif_neg (fun q => q.2 hl16), cif_neg hn15, cif_neg b_24]; exact (CI.keep hI rfl htr (fun i hi9 => up_ne (by omega)) (fun i hi9 => rfl))⟩) hK hP hD hS dX9_cell_56
    · refine lv_if_eq (tgt := 34) hx hb dX9_cell_21 (by decide) (fun _ => ?_) (fun c_34 => absurd c_34 (by decide))
      refine lv_ldc2 (v := (-9223372036854775808)) hx hb hown (hts (.constantLong RX9 211 (-9223372036854775808)) (by decide +kernel)) dX9_cell_34 ?_
      exact wLret hx hb hr hlocks (v := (-9223372036854775808)) ((upd u 0 (nI 0)), a, th, LP, tf) (⟨by unfold aCell; rw [cif_neg (fun q => b_10 q.2)], by unfold fCell; rw [cif_neg (fun q => b_10 q.2)]; exact (CI.keep hI rfl htr (fun i hi9 => up_ne (by omega)) (fun i hi9 => rfl))⟩) hK hP hD hS dX9_cell_37
  · refine lv_astoreN (lv' := [(4, .null), (0, .ref (r 0)), (1, .int sh), (2, .int i), (3, .int lane)]) hx hb dX9_cell_10 hl (by decide) rfl (fun ls hl => ?_)
    refine lv_aloadN hx hb dX9_cell_12 (lv_at hl 0 rfl) ?_
    refine lv_ifnullN (tgt := 34) hx hb dX9_cell_14 (by decide) ?_
    refine lv_ldc2 (v := (-9223372036854775808)) hx hb hown (hts (.constantLong RX9 211 (-9223372036854775808)) (by decide +kernel)) dX9_cell_34 ?_
    exact wLret hx hb hr hlocks (v := (-9223372036854775808)) ((upd u 0 (nI 0)), a, th, LP, tf) (⟨by unfold aCell; rw [cif_neg (fun q => hxk7 q.1)], by unfold fCell; rw [cif_neg (fun q => hxk7 q.1)]; exact (CI.keep hI rfl htr (fun i hi9 => up_ne (by omega)) (fun i hi9 => rfl))⟩) hK hP hD hS dX9_cell_37

set_option maxHeartbeats 4000000 in
set_option maxRecDepth 100000 in
theorem kX9_copy (l : Launch) (D : va_G) (cA : Nat → ClassId) (r : Nat → Nat) (sz : Nat) (u : Nat → Int32) (a : Nat → Nat → Int32) (th : Nat → Option Nat) (LP : List Nat) (tf : Nat → va_E) (tO : Nat) (g : Nat → Nat) (T : Nat → Nat → Nat) (R : Nat → Nat → Nat) (so : Nat → Int32) (ln : Nat → Nat) (ce : Nat → Nat → Int32) (f tr : Int32) (sh i ot j n : Int32) (hI : CI u a th LP tf g T R so ln ce f tr) : Met l yX9_copy wsX9_copy ({ frames := 1, cells := 0, slots := 0, locals := 59 } : Room) (va_Pc [.ref (r 0), .int sh, .int i, .int ot, .int j, .int n] (wA D vwCl (tyA cA) (eO tO) (xN cA r) (u, a, th, LP, tf) sz)) (va_Qi (fun (v : Int32) (z : sN) => v = aCopy so ln sh i ot j n ∧ CI z.1 z.2.1 z.2.2.1 z.2.2.2.1 z.2.2.2.2 g T R so ln (ceCopy so ln ce sh i ot j n) (fCopy so ln sh i ot j n) tr) (wB D vwCl (tyA cA) (xN cA r) (va_A (xN cA r (u, a, th, LP, tf)) sz)) (va_A (xN cA r (u, a, th, LP, tf)) sz)) 0 0 (va_A (xN cA r (u, a, th, LP, tf)) sz) := by
  refine Met.ofW (cc := cX9_copy) (maxL := 8) (ret := (some .int)) (by decide) rfl ?_
  intro p e s m args below meth c s₁ B hml hv
  obtain ⟨rfl, hsz, hP, hK, hD0, hE⟩ := hv
  have hx := B.exec
  have hb := B.bytes
  have hr := B.returns
  have hts := atoms_spec (ws := wsX9_copy) B.pre
  have hown : s.vm.findClass RX9 = some m.cls := findClass_of_methodNamed B.named
  have hlocks := B.notSynchronized
  subst hsz
  have hD := hD0.self (sz := s.heap.size)
  generalize hAe : va_A (xN cA r (u, a, th, LP, tf)) s.heap.size = A at hD hE ⊢
  have hA : ∀ q : Nat, s.heap.size ≤ q → A q := fun q h => by rw [← hAe]; exact Or.inr h
  have hS : va_S A s.heap s.heap [] := va_S.rf
  have hinX4 : ∀ w ∈ u_ws RX4 TX4 3, w ∈ wsX9_copy := by decide +kernel
  have hinX9 : ∀ w ∈ u_ws RX9 TX9 8, w ∈ wsX9_copy := by decide +kernel
  have hl := lv_entry ([.ref (r 0), .int sh, .int i, .int ot, .int j, .int n]) (n := 8) (Nat.le_of_ble_eq_true rfl)
  rw [lg_entry_eq]
  generalize (lg_sl ([.ref (r 0), .int sh, .int i, .int ot, .int j, .int n]) ++ List.replicate (8 - (lg_sl ([.ref (r 0), .int sh, .int i, .int ot, .int j, .int n])).length) Slot.unset).toArray = ls at hl ⊢
  have hl : lv_has ls 8 [(0, .ref (r 0)), (1, .int sh), (2, .int i), (3, .int ot), (4, .int j), (5, .int n)] := hl
  have hM := hI.1
  have hB := hI.2.1
  have hg6 := hB.1
  have hsm := hI.2.2.1
  have hrs := hI.2.2.2.1
  have hRd := hI.2.2.2.2.1
  have hSh := hI.2.2.2.2.2.1
  have hf0 := hI.2.2.2.2.2.2.1
  have htr := hI.2.2.2.2.2.2.2.1
  have hPo := hI.2.2.2.2.2.2.2.2
  refine lv_aload_n hx hb dX9_copy_0 rfl (lv_at hl 0 rfl) ?_
  refine lv_iconst (v := (nI 0)) hx hb dX9_copy_1 rfl ?_
  refine va_put (D := D) (ci := 9) (v := .int (nI 0)) (ty := .int) (C := RX9) (T := TX9) (N := 8) hx hb hts hinX9 tyX9 tyX9_ok nmX9 hown hK hP hD hS 0 rfl rfl 7 (by decide) (hts (.fieldLink RX9 58 "OneNail" "lastFault" "I") (by decide +kernel)) (fun _ h9 => h9) rfl (by decide +kernel) rfl rfl (Nat.le_of_ble_eq_true rfl) dX9_copy_2 (fun H locs hP hD hS => ?_)
  have hP : va_P D vwCl (xN cA r ((upd u 0 (nI 0)), a, th, LP, tf)) H := hP
  have hD : va_D A (xN cA r ((upd u 0 (nI 0)), a, th, LP, tf)) := hD
  refine lv_aload_n hx hb dX9_copy_5 rfl (lv_at hl 0 rfl) ?_
  refine lv_iload_n hx hb dX9_copy_6 rfl (lv_at hl 1 rfl) ?_
  refine wVq (eO_S tO) (As := [.int sh]) (rest := []) ⟨hx, hb, hml, hown, hts⟩ (kX9_sheetAt l D cA r _ (upd u 0 (nI 0)) a th LP tf tO sh) (cwV 1 hts gX9_copy_X9_sheetAt rfl rfl rfl (by decide +kernel) ⟨Nat.le_of_ble_eq_true rfl, Nat.le_of_ble_eq_true rfl⟩) (va_recv hK hP (ci := 9) (q0 := 0) rfl rfl) hK hP hD hS hA hE rfl hl.1 rfl (Nat.le_of_ble_eq_true rfl) dX9_copy_7 ⟨Nat.zero_le _, Nat.zero_le _⟩ (fun rv_1 z_3 H locs hw_2 hP hD hS => ?_)
  obtain ⟨hz_4, hw_2⟩ := hw_2
  subst hz_4
  have hP : va_P D vwCl (xN cA r ((upd u 0 (nI 0)), a, th, LP, tf)) H := hP
  have hD : va_D A (xN cA r ((upd u 0 (nI 0)), a, th, LP, tf)) := hD
  rcases hw_2 with ⟨k5, hk6, hxk7, rfl⟩ | ⟨hxk7, rfl⟩
  · have hkc_k5 : sh.toNatClampNeg = k5 := by rw [hxk7]; exact nI_clamp (by omega)
    have hsk_k5 := hSh k5 hk6
    have hlk_k5 := hsk_k5.2.2.2.1
    have hll_k5 : (if so k5 = -9 then 0 else ln k5) ≤ 60 := by split <;> omega
    have hin_k5 : inR sh 0 3 := by rw [hxk7]; exact ⟨nI_pos' (by omega), (nI_leI (by omega) (by decide)).mpr (by omega)⟩
    refine lv_astore (lv' := [(6, .ref (r (6 + k5))), (0, .ref (r 0)), (1, .int sh), (2, .int i), (3, .int ot), (4, .int j), (5, .int n)]) hx hb dX9_copy_10 hl (by decide) rfl (fun ls hl => ?_)
    refine lv_aload_n hx hb dX9_copy_12 rfl (lv_at hl 1 rfl) ?_
    refine lv_iload_n hx hb dX9_copy_13 rfl (lv_at hl 4 rfl) ?_
    refine wVq (eO_S tO) (As := [.int ot]) (rest := []) ⟨hx, hb, hml, hown, hts⟩ (kX9_sheetAt l D cA r _ (upd u 0 (nI 0)) a th LP tf tO ot) (cwV 1 hts gX9_copy_X9_sheetAt rfl rfl rfl (by decide +kernel) ⟨Nat.le_of_ble_eq_true rfl, Nat.le_of_ble_eq_true rfl⟩) (va_recv hK hP (ci := 9) (q0 := 0) rfl rfl) hK hP hD hS hA hE rfl hl.1 rfl (Nat.le_of_ble_eq_true rfl) dX9_copy_14 ⟨Nat.zero_le _, Nat.zero_le _⟩ (fun rv_8 z_10 H locs hw_9 hP hD hS => ?_)
    obtain ⟨hz_11, hw_9⟩ := hw_9
    subst hz_11
    have hP : va_P D vwCl (xN cA r ((upd u 0 (nI 0)), a, th, LP, tf)) H := hP
    have hD : va_D A (xN cA r ((upd u 0 (nI 0)), a, th, LP, tf)) := hD
    rcases hw_9 with ⟨k12, hk13, hxk14, rfl⟩ | ⟨hxk14, rfl⟩
    · have hkc_k12 : ot.toNatClampNeg = k12 := by rw [hxk14]; exact nI_clamp (by omega)
      have hsk_k12 := hSh k12 hk13
      have hlk_k12 := hsk_k12.2.2.2.1
      have hll_k12 : (if so k12 = -9 then 0 else ln k12) ≤ 60 := by split <;> omega
      have hin_k12 : inR ot 0 3 := by rw [hxk14]; exact ⟨nI_pos' (by omega), (nI_leI (by omega) (by decide)).mpr (by omega)⟩
      refine lv_astore (lv' := [(7, .ref (r (6 + k12))), (6, .ref (r (6 + k5))), (0, .ref (r 0)), (1, .int sh), (2, .int i), (3, .int ot), (4, .int j), (5, .int n)]) hx hb dX9_copy_17 hl (by decide) rfl (fun ls hl => ?_)
      refine lv_aload hx hb dX9_copy_19 (lv_at hl 1 rfl) ?_
      refine lv_ifnull hx hb dX9_copy_21 ?_
      refine lv_aload hx hb dX9_copy_24 (lv_at hl 0 rfl) ?_
      refine lv_ifnonnull (tgt := 31) hx hb dX9_copy_26 (by decide) ?_
      refine lv_aload hx hb dX9_copy_31 (lv_at hl 1 rfl) ?_
      refine wVi (eO_S tO) (As := []) (rest := []) ⟨hx, hb, hml, hown, hts⟩ (kX4_isNothing l D cA r _ (upd u 0 (nI 0)) a th LP tf tO k5 hk6) (cwV 0 hts gX9_copy_X4_isNothing rfl rfl rfl (by decide +kernel) ⟨Nat.le_of_ble_eq_true rfl, Nat.le_of_ble_eq_true rfl⟩) (va_recv hK hP (ci := 4) (q0 := (6 + k5)) rfl (WN_o hk6)) hK hP hD hS hA hE rfl hl.1 rfl (Nat.le_of_ble_eq_true rfl) dX9_copy_33 ⟨Nat.zero_le _, Nat.zero_le _⟩ (fun rv_15 z_17 H locs hw_16 hP hD hS => ?_)
      obtain ⟨hz_18, hw_16⟩ := hw_16
      subst hz_18
      have hP : va_P D vwCl (xN cA r ((upd u 0 (nI 0)), a, th, LP, tf)) H := hP
      have hD : va_D A (xN cA r ((upd u 0 (nI 0)), a, th, LP, tf)) := hD
      rcases hw_16 with ⟨rfl, b_19⟩ | ⟨rfl, b_19⟩
      · have hn_k5 : so k5 = -9 := (sl_no hsk_k5.1 (Eq.trans (up_ne (by omega)) (hsk_k5.2.1))).mp b_19
        refine lv_if_ne (tgt := 47) hx hb dX9_copy_36 (by decide) (fun _ => ?_) (fun c_20 => absurd c_20 (by decide))
        refine lv_aload_n hx hb dX9_copy_47 rfl (lv_at hl 2 rfl) ?_
        refine lv_iconst (v := (nI 1)) hx hb dX9_copy_48 rfl ?_
        refine wVi (eO_S tO) (As := [.int (nI 1)]) (rest := []) ⟨hx, hb, hml, hown, hts⟩ (kX9_failBy l D cA r _ (upd u 0 (nI 0)) a th LP tf tO (nI 1)) (cwV 1 hts gX9_copy_X9_failBy rfl rfl rfl (by decide +kernel) ⟨Nat.le_of_ble_eq_true rfl, Nat.le_of_ble_eq_true rfl⟩) (va_recv hK hP (ci := 9) (q0 := 0) rfl rfl) hK hP hD hS hA hE rfl hl.1 rfl (Nat.le_of_ble_eq_true rfl) dX9_copy_49 ⟨Nat.zero_le _, Nat.zero_le _⟩ (fun rv_21 z_23 H locs hw_22 hP hD hS => ?_)
        obtain ⟨rfl, rfl⟩ := hw_22
        have hP : va_P D vwCl (xN cA r ((upd u 0 (nI 1)), a, th, LP, tf)) H := hP
        have hD : va_D A (xN cA r ((upd u 0 (nI 1)), a, th, LP, tf)) := hD
        exact wIret hx hb hr hlocks (v := ((-10) - (nI 1))) ((upd u 0 (nI 1)), a, th, LP, tf) (⟨by unfold aCopy cpN; rw [cif_pos ⟨hin_k5, hin_k12⟩, hkc_k5, hkc_k12, cif_pos (Or.inl hn_k5)]; decide, by unfold ceCopy fCopy cpN; rw [hkc_k5, hkc_k12, cif_neg (fun q => q.2.1 (Or.inl hn_k5)), cif_pos ⟨hin_k5, hin_k12⟩, cif_pos (Or.inl hn_k5)]; exact (CI.keep hI rfl htr (fun i hi9 => up_ne (by omega)) (fun i hi9 => rfl))⟩) hK hP hD hS dX9_copy_52
      · have hn_k5 : ¬ so k5 = -9 := fun q => b_19 ((sl_no hsk_k5.1 (Eq.trans (up_ne (by omega)) (hsk_k5.2.1))).mpr q)
        refine lv_if_ne (tgt := 47) hx hb dX9_copy_36 (by decide) (fun c_24 => absurd c_24 (by decide)) (fun _ => ?_)
        refine lv_aload hx hb dX9_copy_39 (lv_at hl 0 rfl) ?_
        refine wVi (eO_S tO) (As := []) (rest := []) ⟨hx, hb, hml, hown, hts⟩ (kX4_isNothing l D cA r _ (upd u 0 (nI 0)) a th LP tf tO k12 hk13) (cwV 0 hts gX9_copy_X4_isNothing rfl rfl rfl (by decide +kernel) ⟨Nat.le_of_ble_eq_true rfl, Nat.le_of_ble_eq_true rfl⟩) (va_recv hK hP (ci := 4) (q0 := (6 + k12)) rfl (WN_o hk13)) hK hP hD hS hA hE rfl hl.1 rfl (Nat.le_of_ble_eq_true rfl) dX9_copy_41 ⟨Nat.zero_le _, Nat.zero_le _⟩ (fun rv_25 z_27 H locs hw_26 hP hD hS => ?_)
        obtain ⟨hz_28, hw_26⟩ := hw_26
        subst hz_28
        have hP : va_P D vwCl (xN cA r ((upd u 0 (nI 0)), a, th, LP, tf)) H := hP
        have hD : va_D A (xN cA r ((upd u 0 (nI 0)), a, th, LP, tf)) := hD
        rcases hw_26 with ⟨rfl, b_29⟩ | ⟨rfl, b_29⟩
        · have hn_k12 : so k12 = -9 := (sl_no hsk_k12.1 (Eq.trans (up_ne (by omega)) (hsk_k12.2.1))).mp b_29
          refine lv_if_eq (tgt := 53) hx hb dX9_copy_44 (by decide) (fun c_30 => absurd c_30 (by decide)) (fun _ => ?_)
          refine lv_aload_n hx hb dX9_copy_47 rfl (lv_at hl 2 rfl) ?_
          refine lv_iconst (v := (nI 1)) hx hb dX9_copy_48 rfl ?_
          refine wVi (eO_S tO) (As := [.int (nI 1)]) (rest := []) ⟨hx, hb, hml, hown, hts⟩ (kX9_failBy l D cA r _ (upd u 0 (nI 0)) a th LP tf tO (nI 1)) (cwV 1 hts gX9_copy_X9_failBy rfl rfl rfl (by decide +kernel) ⟨Nat.le_of_ble_eq_true rfl, Nat.le_of_ble_eq_true rfl⟩) (va_recv hK hP (ci := 9) (q0 := 0) rfl rfl) hK hP hD hS hA hE rfl hl.1 rfl (Nat.le_of_ble_eq_true rfl) dX9_copy_49 ⟨Nat.zero_le _, Nat.zero_le _⟩ (fun rv_31 z_33 H locs hw_32 hP hD hS => ?_)
          obtain ⟨rfl, rfl⟩ := hw_32
          have hP : va_P D vwCl (xN cA r ((upd u 0 (nI 1)), a, th, LP, tf)) H := hP
          have hD : va_D A (xN cA r ((upd u 0 (nI 1)), a, th, LP, tf)) := hD
          exact wIret hx hb hr hlocks (v := ((-10) - (nI 1))) ((upd u 0 (nI 1)), a, th, LP, tf) (⟨by unfold aCopy cpN; rw [cif_pos ⟨hin_k5, hin_k12⟩, hkc_k5, hkc_k12, cif_pos (Or.inr hn_k12)]; decide, by unfold ceCopy fCopy cpN; rw [hkc_k5, hkc_k12, cif_neg (fun q => q.2.1 (Or.inr hn_k12)), cif_pos ⟨hin_k5, hin_k12⟩, cif_pos (Or.inr hn_k12)]; exact (CI.keep hI rfl htr (fun i hi9 => up_ne (by omega)) (fun i hi9 => rfl))⟩) hK hP hD hS dX9_copy_52
        · have hn_k12 : ¬ so k12 = -9 := fun q => b_29 ((sl_no hsk_k12.1 (Eq.trans (up_ne (by omega)) (hsk_k12.2.1))).mpr q)
          refine lv_if_eq (tgt := 53) hx hb dX9_copy_44 (by decide) (fun _ => ?_) (fun c_34 => absurd c_34 (by decide))
          refine lv_aload hx hb dX9_copy_53 (lv_at hl 1 rfl) ?_
          refine va_get (D := D) (ci := 4) (v := .int (so k5)) (C := RX4) (T := TX4) (N := 3) hx hb hts hinX4 hown hK hP (6 + k5) (WN_o hk6) rfl 0 (by decide) (hts (.fieldLink RX9 216 "OneNail$Sheet" "lane" "I") (by decide +kernel)) (fun _ h9 => h9) (congrArg (fun z => some (Value.int z)) ((up_ne (by omega)).trans (hsk_k5.2.1.trans (if_neg hn_k5)))) dX9_copy_55 ?_
          refine lv_aload hx hb dX9_copy_58 (lv_at hl 0 rfl) ?_
          refine va_get (D := D) (ci := 4) (v := .int (so k12)) (C := RX4) (T := TX4) (N := 3) hx hb hts hinX4 hown hK hP (6 + k12) (WN_o hk13) rfl 0 (by decide) (hts (.fieldLink RX9 216 "OneNail$Sheet" "lane" "I") (by decide +kernel)) (fun _ h9 => h9) (congrArg (fun z => some (Value.int z)) ((up_ne (by omega)).trans (hsk_k12.2.1.trans (if_neg hn_k12)))) dX9_copy_60 ?_
          refine lv_icmp_eq (tgt := 72) hx hb dX9_copy_63 (by decide) (fun c_35 => ?_) (fun c_35 => ?_)
          · refine lv_aload hx hb dX9_copy_72 (lv_at hl 1 rfl) ?_
            refine lv_iload_n hx hb dX9_copy_74 rfl (lv_at hl 4 rfl) ?_
            refine lv_iload hx hb dX9_copy_75 (lv_at hl 7 rfl) ?_
            refine wVi (eO_S tO) (As := [.int i, .int n]) (rest := []) ⟨hx, hb, hml, hown, hts⟩ (kX4_spans l D cA r _ (upd u 0 (nI 0)) a th LP tf tO k5 (ln k5) i n hk6 (Eq.trans (up_ne (by omega)) ((hsk_k5.2.2.1.trans (congrArg nI (if_neg hn_k5))))) hlk_k5) (cwV 2 hts gX9_copy_X4_spans rfl rfl rfl (by decide +kernel) ⟨Nat.le_of_ble_eq_true rfl, Nat.le_of_ble_eq_true rfl⟩) (va_recv hK hP (ci := 4) (q0 := (6 + k5)) rfl (WN_o hk6)) hK hP hD hS hA hE rfl hl.1 rfl (Nat.le_of_ble_eq_true rfl) dX9_copy_77 ⟨Nat.zero_le _, Nat.zero_le _⟩ (fun rv_36 z_38 H locs hw_37 hP hD hS => ?_)
            obtain ⟨hz_39, hw_37⟩ := hw_37
            subst hz_39
            have hP : va_P D vwCl (xN cA r ((upd u 0 (nI 0)), a, th, LP, tf)) H := hP
            have hD : va_D A (xN cA r ((upd u 0 (nI 0)), a, th, LP, tf)) := hD
            rcases hw_37 with ⟨rfl, b_40⟩ | ⟨rfl, b_40⟩
            · refine lv_if_eq (tgt := 95) hx hb dX9_copy_80 (by decide) (fun c_41 => absurd c_41 (by decide)) (fun _ => ?_)
              refine lv_aload hx hb dX9_copy_83 (lv_at hl 0 rfl) ?_
              refine lv_iload hx hb dX9_copy_85 (lv_at hl 6 rfl) ?_
              refine lv_iload hx hb dX9_copy_87 (lv_at hl 7 rfl) ?_
              refine wVi (eO_S tO) (As := [.int j, .int n]) (rest := []) ⟨hx, hb, hml, hown, hts⟩ (kX4_spans l D cA r _ (upd u 0 (nI 0)) a th LP tf tO k12 (ln k12) j n hk13 (Eq.trans (up_ne (by omega)) ((hsk_k12.2.2.1.trans (congrArg nI (if_neg hn_k12))))) hlk_k12) (cwV 2 hts gX9_copy_X4_spans rfl rfl rfl (by decide +kernel) ⟨Nat.le_of_ble_eq_true rfl, Nat.le_of_ble_eq_true rfl⟩) (va_recv hK hP (ci := 4) (q0 := (6 + k12)) rfl (WN_o hk13)) hK hP hD hS hA hE rfl hl.1 rfl (Nat.le_of_ble_eq_true rfl) dX9_copy_89 ⟨Nat.zero_le _, Nat.zero_le _⟩ (fun rv_42 z_44 H locs hw_43 hP hD hS => ?_)
              obtain ⟨hz_45, hw_43⟩ := hw_43
              subst hz_45
              have hP : va_P D vwCl (xN cA r ((upd u 0 (nI 0)), a, th, LP, tf)) H := hP
              have hD : va_D A (xN cA r ((upd u 0 (nI 0)), a, th, LP, tf)) := hD
              rcases hw_43 with ⟨rfl, b_46⟩ | ⟨rfl, b_46⟩
              · refine lv_if_ne (tgt := 101) hx hb dX9_copy_92 (by decide) (fun _ => ?_) (fun c_47 => absurd c_47 (by decide))
                obtain ⟨i0, n0, hi2, hn2, hi5⟩ := sp_nat (by omega) b_40
                obtain ⟨j0, n1, hj2, hn3, hj5⟩ := sp_nat (by omega) b_46
                have hnn : n1 = n0 := (nI_eq (by omega) (by omega)).mp (hn3.symm.trans hn2)
                subst hnn
                have hcp : CP so ln sh i ot j n := ⟨i0, j0, n1, hi2, hj2, hn2, by rw [hkc_k5]; omega, by rw [hkc_k12]; omega⟩
                have hic : i.toNatClampNeg = i0 := by rw [hi2]; exact nI_clamp (by omega)
                have hjc : j.toNatClampNeg = j0 := by rw [hj2]; exact nI_clamp (by omega)
                have hnc : n.toNatClampNeg = n1 := by rw [hn2]; exact nI_clamp (by omega)
                have hl : lv_has ls 8 [(7, .ref (r (6 + k12))), (6, .ref (r (6 + k5))), (0, .ref (r 0)), (1, .int sh), (2, .int (nI i0)), (3, .int ot), (4, .int j), (5, .int n)] := lv_re hl 4 ⟨rfl, rfl⟩ (hi2)
                have hl : lv_has ls 8 [(7, .ref (r (6 + k12))), (6, .ref (r (6 + k5))), (0, .ref (r 0)), (1, .int sh), (2, .int (nI i0)), (3, .int ot), (4, .int (nI j0)), (5, .int n)] := lv_re hl 6 ⟨rfl, rfl⟩ (hj2)
                have hl : lv_has ls 8 [(7, .ref (r (6 + k12))), (6, .ref (r (6 + k5))), (0, .ref (r 0)), (1, .int sh), (2, .int (nI i0)), (3, .int ot), (4, .int (nI j0)), (5, .int (nI n1))] := lv_re hl 7 ⟨rfl, rfl⟩ (hn2)
                refine lv_aload hx hb dX9_copy_101 (lv_at hl 1 rfl) ?_
                refine va_get (D := D) (ci := 4) (v := .ref (r (26 + k5))) (C := RX4) (T := TX4) (N := 3) hx hb hts hinX4 hown hK hP (6 + k5) (WN_o hk6) rfl 2 (by decide) (hts (.fieldLink RX9 223 "OneNail$Sheet" "cells" "[I") (by decide +kernel)) (fun _ h9 => h9) rfl dX9_copy_103 ?_
                refine lv_iload_n hx hb dX9_copy_106 rfl (lv_at hl 4 rfl) ?_
                refine lv_aload hx hb dX9_copy_107 (lv_at hl 0 rfl) ?_
                refine va_get (D := D) (ci := 4) (v := .ref (r (26 + k12))) (C := RX4) (T := TX4) (N := 3) hx hb hts hinX4 hown hK hP (6 + k12) (WN_o hk13) rfl 2 (by decide) (hts (.fieldLink RX9 223 "OneNail$Sheet" "cells" "[I") (by decide +kernel)) (fun _ h9 => h9) rfl dX9_copy_109 ?_
                refine lv_iload hx hb dX9_copy_112 (lv_at hl 6 rfl) ?_
                refine lv_iload hx hb dX9_copy_114 (lv_at hl 7 rfl) ?_
                refine wCopy hx hb (hml.trans hl.1.symm) hown (hts (.methodLink RX9 226 arraycopyName) (by decide +kernel)) (hts (.native arraycopyName) (by decide +kernel)) (hts (.static arraycopyName) (by decide +kernel)) (hts (.initialized "java/lang/System") (by decide +kernel)) hK hP hD hS (k := k5) (o := k12) hk6 hk13 (by omega) (by omega) (Nat.le_of_ble_eq_true rfl) (by decide +kernel) dX9_copy_116 (fun H locs hP hD hS => ?_)
                obtain ⟨za, hza⟩ : ∃ z, z = va_up a (26 + k12) (va_cpy (a (26 + k5)) (a (26 + k12)) i0 j0 n1) := ⟨_, rfl⟩
                rw [← hza] at hP hD
                have hP : va_P D vwCl (xN cA r ((upd u 0 (nI 0)), za, th, LP, tf)) H := hP
                have hD : va_D A (xN cA r ((upd u 0 (nI 0)), za, th, LP, tf)) := hD
                refine lv_iload hx hb dX9_copy_119 (lv_at hl 7 rfl) ?_
                exact wIret hx hb hr hlocks (v := (nI n1)) ((upd u 0 (nI 0)), za, th, LP, tf) (⟨by unfold aCopy cpN; rw [cif_pos ⟨hin_k5, hin_k12⟩, hkc_k5, hkc_k12, cif_neg (fun q => q.elim hn_k5 hn_k12), cif_pos c_35, cif_pos hcp]; exact hn2.symm, by unfold ceCopy fCopy cpN; rw [hkc_k5, hkc_k12, cif_pos ⟨⟨hin_k5, hin_k12⟩, (fun q => q.elim hn_k5 hn_k12), c_35, hcp⟩, cif_pos ⟨hin_k5, hin_k12⟩, cif_neg (fun q => q.elim hn_k5 hn_k12), cif_pos c_35, cif_pos hcp, hic, hjc, hnc]; exact CI.sheets hI rfl htr (fun i hi => up_ne (by omega)) (fun i hi => (congrFun hza i).trans (vup_ne (by omega))) (shn_copy hSh hk6 hk13 hn_k5 hn_k12 hi5 hj5 (fun i hi => up_ne (by omega)) hza)⟩) hK hP hD hS dX9_copy_121
              · have hncp : ¬ CP so ln sh i ot j n := fun ⟨i1, j1, n1, e1, e2, e3, h1, h2⟩ => b_46 (by rw [hkc_k12] at h2; rw [e2, e3]; exact nat_sp (by omega) (by omega))
                refine lv_if_ne (tgt := 101) hx hb dX9_copy_92 (by decide) (fun c_48 => absurd c_48 (by decide)) (fun _ => ?_)
                refine lv_aload_n hx hb dX9_copy_95 rfl (lv_at hl 2 rfl) ?_
                refine lv_iconst (v := (nI 3)) hx hb dX9_copy_96 rfl ?_
                refine wVi (eO_S tO) (As := [.int (nI 3)]) (rest := []) ⟨hx, hb, hml, hown, hts⟩ (kX9_failBy l D cA r _ (upd u 0 (nI 0)) a th LP tf tO (nI 3)) (cwV 1 hts gX9_copy_X9_failBy rfl rfl rfl (by decide +kernel) ⟨Nat.le_of_ble_eq_true rfl, Nat.le_of_ble_eq_true rfl⟩) (va_recv hK hP (ci := 9) (q0 := 0) rfl rfl) hK hP hD hS hA hE rfl hl.1 rfl (Nat.le_of_ble_eq_true rfl) dX9_copy_97 ⟨Nat.zero_le _, Nat.zero_le _⟩ (fun rv_49 z_51 H locs hw_50 hP hD hS => ?_)
                obtain ⟨rfl, rfl⟩ := hw_50
                have hP : va_P D vwCl (xN cA r ((upd u 0 (nI 3)), a, th, LP, tf)) H := hP
                have hD : va_D A (xN cA r ((upd u 0 (nI 3)), a, th, LP, tf)) := hD
                exact wIret hx hb hr hlocks (v := ((-10) - (nI 3))) ((upd u 0 (nI 3)), a, th, LP, tf) (⟨by unfold aCopy cpN; rw [cif_pos ⟨hin_k5, hin_k12⟩, hkc_k5, hkc_k12, cif_neg (fun q => q.elim hn_k5 hn_k12), cif_pos c_35, cif_neg hncp]; decide, by unfold ceCopy fCopy cpN; rw [hkc_k5, hkc_k12, cif_neg (fun q => hncp q.2.2.2), cif_pos ⟨hin_k5, hin_k12⟩, cif_neg (fun q => q.elim hn_k5 hn_k12), cif_pos c_35, cif_neg hncp]; exact (CI.keep hI rfl htr (fun i hi9 => up_ne (by omega)) (fun i hi9 => rfl))⟩) hK hP hD hS dX9_copy_100
            · have hncp : ¬ CP so ln sh i ot j n := fun ⟨i1, j1, n1, e1, e2, e3, h1, h2⟩ => b_40 (by rw [hkc_k5] at h1; rw [e1, e3]; exact nat_sp (by omega) (by omega))
              refine lv_if_eq (tgt := 95) hx hb dX9_copy_80 (by decide) (fun _ => ?_) (fun c_52 => absurd c_52 (by decide))
              refine lv_aload_n hx hb dX9_copy_95 rfl (lv_at hl 2 rfl) ?_
              refine lv_iconst (v := (nI 3)) hx hb dX9_copy_96 rfl ?_
              refine wVi (eO_S tO) (As := [.int (nI 3)]) (rest := []) ⟨hx, hb, hml, hown, hts⟩ (kX9_failBy l D cA r _ (upd u 0 (nI 0)) a th LP tf tO (nI 3)) (cwV 1 hts gX9_copy_X9_failBy rfl rfl rfl (by decide +kernel) ⟨Nat.le_of_ble_eq_true rfl, Nat.le_of_ble_eq_true rfl⟩) (va_recv hK hP (ci := 9) (q0 := 0) rfl rfl) hK hP hD hS hA hE rfl hl.1 rfl (Nat.le_of_ble_eq_true rfl) dX9_copy_97 ⟨Nat.zero_le _, Nat.zero_le _⟩ (fun rv_53 z_55 H locs hw_54 hP hD hS => ?_)
              obtain ⟨rfl, rfl⟩ := hw_54
              have hP : va_P D vwCl (xN cA r ((upd u 0 (nI 3)), a, th, LP, tf)) H := hP
              have hD : va_D A (xN cA r ((upd u 0 (nI 3)), a, th, LP, tf)) := hD
              exact wIret hx hb hr hlocks (v := ((-10) - (nI 3))) ((upd u 0 (nI 3)), a, th, LP, tf) (⟨by unfold aCopy cpN; rw [cif_pos ⟨hin_k5, hin_k12⟩, hkc_k5, hkc_k12, cif_neg (fun q => q.elim hn_k5 hn_k12), cif_pos c_35, cif_neg hncp]; decide, by unfold ceCopy fCopy cpN; rw [hkc_k5, hkc_k12, cif_neg (fun q => hncp q.2.2.2), cif_pos ⟨hin_k5, hin_k12⟩, cif_neg (fun q => q.elim hn_k5 hn_k12), cif_pos c_35, cif_neg hncp]; exact (CI.keep hI rfl htr (fun i hi9 => up_ne (by omega)) (fun i hi9 => rfl))⟩) hK hP hD hS dX9_copy_100
          · refine lv_aload_n hx hb dX9_copy_66 rfl (lv_at hl 2 rfl) ?_
            refine lv_iconst (v := (nI 2)) hx hb dX9_copy_67 rfl ?_
            refine wVi (eO_S tO) (As := [.int (nI 2)]) (rest := []) ⟨hx, hb, hml, hown, hts⟩ (kX9_failBy l D cA r _ (upd u 0 (nI 0)) a th LP tf tO (nI 2)) (cwV 1 hts gX9_copy_X9_failBy rfl rfl rfl (by decide +kernel) ⟨Nat.le_of_ble_eq_true rfl, Nat.le_of_ble_eq_true rfl⟩) (va_recv hK hP (ci := 9) (q0 := 0) rfl rfl) hK hP hD hS hA hE rfl hl.1 rfl (Nat.le_of_ble_eq_true rfl) dX9_copy_68 ⟨Nat.zero_le _, Nat.zero_le _⟩ (fun rv_56 z_58 H locs hw_57 hP hD hS => ?_)
            obtain ⟨rfl, rfl⟩ := hw_57
            have hP : va_P D vwCl (xN cA r ((upd u 0 (nI 2)), a, th, LP, tf)) H := hP
            have hD : va_D A (xN cA r ((upd u 0 (nI 2)), a, th, LP, tf)) := hD
            exact wIret hx hb hr hlocks (v := ((-10) - (nI 2))) ((upd u 0 (nI 2)), a, th, LP, tf) (⟨by unfold aCopy cpN; rw [cif_pos ⟨hin_k5, hin_k12⟩, hkc_k5, hkc_k12, cif_neg (fun q => q.elim hn_k5 hn_k12), cif_neg c_35]; decide, by unfold ceCopy fCopy cpN; rw [hkc_k5, hkc_k12, cif_neg (fun q => c_35 q.2.2.1), cif_pos ⟨hin_k5, hin_k12⟩, cif_neg (fun q => q.elim hn_k5 hn_k12), cif_neg c_35]; exact (CI.keep hI rfl htr (fun i hi9 => up_ne (by omega)) (fun i hi9 => rfl))⟩) hK hP hD hS dX9_copy_71
    · refine lv_astoreN (lv' := [(7, .null), (6, .ref (r (6 + k5))), (0, .ref (r 0)), (1, .int sh), (2, .int i), (3, .int ot), (4, .int j), (5, .int n)]) hx hb dX9_copy_17 hl (by decide) rfl (fun ls hl => ?_)
      refine lv_aload hx hb dX9_copy_19 (lv_at hl 1 rfl) ?_
      refine lv_ifnull hx hb dX9_copy_21 ?_
      refine lv_aloadN hx hb dX9_copy_24 (lv_at hl 0 rfl) ?_
      refine lv_ifnonnullN hx hb dX9_copy_26 ?_
      refine lv_iconst (v := (-1)) hx hb dX9_copy_29 (by decide) ?_
      exact wIret hx hb hr hlocks (v := (-1)) ((upd u 0 (nI 0)), a, th, LP, tf) (⟨by unfold aCopy; rw [cif_neg (fun q => hxk14 q.2)], by unfold ceCopy fCopy; rw [cif_neg (fun q => (fun q => hxk14 q.2) q.1), cif_neg (fun q => hxk14 q.2)]; exact (CI.keep hI rfl htr (fun i hi9 => up_ne (by omega)) (fun i hi9 => rfl))⟩) hK hP hD hS dX9_copy_30
  · refine lv_astoreN (lv' := [(6, .null), (0, .ref (r 0)), (1, .int sh), (2, .int i), (3, .int ot), (4, .int j), (5, .int n)]) hx hb dX9_copy_10 hl (by decide) rfl (fun ls hl => ?_)
    refine lv_aload_n hx hb dX9_copy_12 rfl (lv_at hl 1 rfl) ?_
    refine lv_iload_n hx hb dX9_copy_13 rfl (lv_at hl 4 rfl) ?_
    refine wVq (eO_S tO) (As := [.int ot]) (rest := []) ⟨hx, hb, hml, hown, hts⟩ (kX9_sheetAt l D cA r _ (upd u 0 (nI 0)) a th LP tf tO ot) (cwV 1 hts gX9_copy_X9_sheetAt rfl rfl rfl (by decide +kernel) ⟨Nat.le_of_ble_eq_true rfl, Nat.le_of_ble_eq_true rfl⟩) (va_recv hK hP (ci := 9) (q0 := 0) rfl rfl) hK hP hD hS hA hE rfl hl.1 rfl (Nat.le_of_ble_eq_true rfl) dX9_copy_14 ⟨Nat.zero_le _, Nat.zero_le _⟩ (fun rv_59 z_61 H locs hw_60 hP hD hS => ?_)
    obtain ⟨hz_62, hw_60⟩ := hw_60
    subst hz_62
    have hP : va_P D vwCl (xN cA r ((upd u 0 (nI 0)), a, th, LP, tf)) H := hP
    have hD : va_D A (xN cA r ((upd u 0 (nI 0)), a, th, LP, tf)) := hD
    rcases hw_60 with ⟨k63, hk64, hxk65, rfl⟩ | ⟨hxk65, rfl⟩
    · have hkc_k63 : ot.toNatClampNeg = k63 := by rw [hxk65]; exact nI_clamp (by omega)
      have hsk_k63 := hSh k63 hk64
      have hlk_k63 := hsk_k63.2.2.2.1
      have hll_k63 : (if so k63 = -9 then 0 else ln k63) ≤ 60 := by split <;> omega
      have hin_k63 : inR ot 0 3 := by rw [hxk65]; exact ⟨nI_pos' (by omega), (nI_leI (by omega) (by decide)).mpr (by omega)⟩
      refine lv_astore (lv' := [(7, .ref (r (6 + k63))), (6, .null), (0, .ref (r 0)), (1, .int sh), (2, .int i), (3, .int ot), (4, .int j), (5, .int n)]) hx hb dX9_copy_17 hl (by decide) rfl (fun ls hl => ?_)
      refine lv_aloadN hx hb dX9_copy_19 (lv_at hl 1 rfl) ?_
      refine lv_ifnullN (tgt := 29) hx hb dX9_copy_21 (by decide) ?_
      refine lv_iconst (v := (-1)) hx hb dX9_copy_29 (by decide) ?_
      exact wIret hx hb hr hlocks (v := (-1)) ((upd u 0 (nI 0)), a, th, LP, tf) (⟨by unfold aCopy; rw [cif_neg (fun q => hxk7 q.1)], by unfold ceCopy fCopy; rw [cif_neg (fun q => (fun q => hxk7 q.1) q.1), cif_neg (fun q => hxk7 q.1)]; exact (CI.keep hI rfl htr (fun i hi9 => up_ne (by omega)) (fun i hi9 => rfl))⟩) hK hP hD hS dX9_copy_30
    · refine lv_astoreN (lv' := [(7, .null), (6, .null), (0, .ref (r 0)), (1, .int sh), (2, .int i), (3, .int ot), (4, .int j), (5, .int n)]) hx hb dX9_copy_17 hl (by decide) rfl (fun ls hl => ?_)
      refine lv_aloadN hx hb dX9_copy_19 (lv_at hl 1 rfl) ?_
      refine lv_ifnullN (tgt := 29) hx hb dX9_copy_21 (by decide) ?_
      refine lv_iconst (v := (-1)) hx hb dX9_copy_29 (by decide) ?_
      exact wIret hx hb hr hlocks (v := (-1)) ((upd u 0 (nI 0)), a, th, LP, tf) (⟨by unfold aCopy; rw [cif_neg (fun q => hxk7 q.1)], by unfold ceCopy fCopy; rw [cif_neg (fun q => (fun q => hxk7 q.1) q.1), cif_neg (fun q => hxk7 q.1)]; exact (CI.keep hI rfl htr (fun i hi9 => up_ne (by omega)) (fun i hi9 => rfl))⟩) hK hP hD hS dX9_copy_30
