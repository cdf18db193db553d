/-! THE CLAIM OUT OF ONE WALK OF THE LAW'S BODY. Your part is whole_start (and what it stands on); all else here is the same for every law, but numbers. -/
def R_law : String := "OneNailLaw"
def lw_P (b : Addr) (xs : List Int32) (args : Array Value) (s : State) : Prop := args = #[.ref b] ∧ s.IntsAt b xs ∧ xs.length ≤ 3072 ∧ (Jvm.Cond.and given_1 narrow_1).before args s = true
def lw_Q (_ : Array Value) (s : State) (o : Outcome) (t : State) : Prop := o = .returned (some (.int 1)) ∧ Framed s o t [] 600000 7302250
def lw_Z (below : List Frame) (a : Array Value) (s : State) : State → Prop := fun t => ∃ o, t.status = .running ∧ Ended t below o ∧ lw_Q a s o t
/-- the law's own end, with 1 on the stack, nothing written that was there before, its room as the claim has it -/
theorem lw_ret {p : Program} {l : Launch} {e : Env} {s : State} {m : MethodId} {below : List Frame} {meth : Method} {c : Code} {b : Nat} (hx : p.tables.exec = Jvm.exec) (hb : c.code = code) (hr : meth.sig.returnType = ret) (hlocks : meth.locks = false) {pc : Nat} {H : Heap} {ls : Array Slot} (hdg : decode code pc = .ok (.ireturn, 1)) : W p l e room_1 s m #[Value.ref b] below meth c H [] 600000 7302250 (lw_Z below #[Value.ref b] s) (F0 m pc ls [.int 1]) := by
  intro T hT X
  obtain ⟨fs, hret, hrun, hended, hW, hframe⟩ := X.leave (v := some (.int 1)) (hlocks := hlocks) (fun h => by rw [hr] at h; cases h)
  have hmeth' : T.vm.method? m = some meth := X.method'
  refine ⟨T.setFrames fs, ?_, .returned (some (.int 1)), hrun, hended, rfl, ⟨_, rfl⟩, hW, hframe⟩
  jvm_step X.here [X.here.top, hx, hb, hdg, hmeth', hr, ret, narrow_b1]
  (try refine ⟨rfl, ?_⟩); (try refine ⟨rfl, ?_⟩)
  first | (intro acts; rw [hret _ acts rfl rfl rfl]) | rw [hret _ _ rfl rfl rfl]
  exact Steps.refl _
/-- what holds at the law's entry: the machine, the code, the tables' words (any of lw_tbl by 'hts w (by decide +kernel)'), the script of L ints xs at the cell b, what the Statement gives of the start (any of its parts by flat_of_before) -/
def lw_At (p : Program) (s : State) (m : MethodId) (meth : Method) (c : Code) (b L : Nat) (xs : Nat → Int32) : Prop :=
  p.tables.exec = Jvm.exec ∧ c.code = code ∧ meth.sig.returnType = ret ∧ c.maxLocals = 4 ∧ s.vm.findClass R_law = some m.cls ∧ (∀ w ∈ lw_tbl, w.before #[Value.ref b] s = true) ∧ va_X b L xs s s.heap ∧ b < s.heap.size ∧ meth.locks = false ∧ (Jvm.Cond.and given_1 narrow_1).before #[Value.ref b] s = true
theorem P_l {D : va_G} {cl : List vw_C} {X Y : va_W} {H : Heap} (h : va_P D cl (X ++ Y) H) : va_P D cl X H := fun k q hk => h k q (by rw [List.getElem?_append_left (List.getElem?_eq_some_iff.mp hk).1]; exact hk)
theorem app_r {X Y : va_W} {k : Nat} {q : Nat × va_E} (hk : Y[k]? = some q) : (X ++ Y)[X.length + k]? = some q := by rw [List.getElem?_append_right (Nat.le_add_right _ _), Nat.add_sub_cancel_left]; exact hk
theorem app_l {X Y : va_W} {k : Nat} {q : Nat × va_E} (hk : X[k]? = some q) : (X ++ Y)[k]? = some q := by rw [List.getElem?_append_left (List.getElem?_eq_some_iff.mp hk).1]; exact hk
theorem P_r {D : va_G} {cl : List vw_C} {X Y : va_W} {H : Heap} (h : va_P D cl (X ++ Y) H) : va_P D cl Y H := fun k q hk => h _ q (app_r hk)
theorem D_l {A : Nat → Prop} {X Y : va_W} (h : va_D A (X ++ Y)) : va_D A X := ⟨fun i j p q hi hj e => h.1 i j p q (app_l hi) (app_l hj) e, fun k q hk => h.2 k q (app_l hk)⟩
theorem D_r {A : Nat → Prop} {X Y : va_W} (h : va_D A (X ++ Y)) : va_D A Y := ⟨fun i j p q hi hj e => by have := h.1 _ _ p q (app_r hi) (app_r hj) e; omega, fun k q hk => h.2 _ q (app_r hk)⟩
theorem D_x {A : Nat → Prop} {X Y : va_W} (h : va_D A (X ++ Y)) : ∀ (i j : Nat) (p q : Nat × va_E), Y[i]? = some p → X[j]? = some q → p.1 ≠ q.1 := fun i j p q hi hj e => by
  have h1 := h.1 _ _ p q (app_r hi) (app_l hj) e
  have h2 := (List.getElem?_eq_some_iff.mp hj).1
  omega
theorem sh4 {r : Nat → Nat} {a b c d : Nat} (h6 : r 6 = a) (h7 : r 7 = b) (h8 : r 8 = c) (h9 : r 9 = d) : va_up (va_up (va_up (va_up (fun _ => none) 0 (some a)) 1 (some b)) 2 (some c)) 3 (some d) = fun k => if k < 4 then some (r (6 + k)) else none := by
  funext k
  rcases (show k = 0 ∨ k = 1 ∨ k = 2 ∨ k = 3 ∨ 4 ≤ k by omega) with rfl | rfl | rfl | rfl | h
  · rw [← h6]; rfl
  · rw [← h7]; rfl
  · rw [← h8]; rfl
  · rw [← h9]; rfl
  · unfold va_up; rw [if_neg (by omega), if_neg (by omega), if_neg (by omega), if_neg (by omega), if_neg (by omega)]
theorem ty_prim {s : State} {args : Array Value} {ty : FieldType} (h : (Cond.arrayClass ty).before args s = true) : ∃ c : ClassId, ArrOfT s c ty ∧ s.vm.findClass ("[" ++ ty.toString) = some c := by
  obtain ⟨c, k, comp, h1, h2, h3⟩ := Cond.arrayClass_spec h
  exact ⟨c, fun n z => ⟨fun k h => (by cases h), k, h2, comp, h3⟩, h1⟩
theorem ty_obj {s : State} {args : Array Value} {C : String} (h : (Cond.arrayOver (.object C)).before args s = true) : ∃ c : ClassId, ArrOfT s c (.object C) ∧ va_RA s c (.object C) := by
  obtain ⟨comp, c, k, h1, -, h3, h4, h5⟩ := Cond.arrayOver_spec h
  exact ⟨c, fun n z => ⟨fun k h => (by cases h), k, h3, comp, h4⟩, k, comp, h3, h4, h1, h5⟩
def uZ : Nat → Int32 := fun k => if 14 ≤ k ∧ k ≤ 17 then -1 else 0
def aZ : Nat → Nat → Int32 := fun _ _ => 0
def tZ : Nat → Option Nat := fun _ => none
def fZ : Nat → va_E := fun _ => .inr (0, [])
def uMZ : Nat → Int32 := fun _ => 0
def aMZ : Nat → Nat → Int32 := fun k => if k = 2 then upd (upd (upd (upd (fun _ => 0) 0 (-9)) 1 (-9)) 2 (-9)) 3 (-9) else fun _ => 0
theorem TB_0 : TB (fun _ => 0) (fun _ _ => 0) := ⟨Nat.zero_le _, Nat.zero_le _, Nat.zero_le _, fun x h => absurd h (Nat.not_lt_zero x)⟩
theorem CI_0 : CI uZ aZ tZ [] fZ (fun _ => 0) (fun _ _ => 0) (fun _ _ => 0) (fun _ => -9) (fun _ => 0) (fun _ _ => 0) 0 0 := by
  refine ⟨⟨rfl, fun x h => absurd h (Nat.not_lt_zero x)⟩, TB_0, rfl, rfl, ⟨rfl, Nat.zero_le _, fun x h => absurd h (Nat.not_lt_zero x), fun x h => absurd h (Nat.not_lt_zero x), fun x h => absurd h (Nat.not_lt_zero x)⟩, fun k hk => ?_, rfl, rfl, fun x h => absurd h (Nat.not_lt_zero x)⟩
  rcases (show k = 0 ∨ k = 1 ∨ k = 2 ∨ k = 3 by omega) with rfl | rfl | rfl | rfl <;> exact ⟨Or.inl rfl, rfl, rfl, Nat.zero_le _, fun w => absurd rfl w⟩
theorem MI_0 : MI uMZ aMZ (fun _ => 0) (fun _ _ => 0) (fun _ _ => 0) (fun _ => -9) (fun _ => 0) (fun _ _ => 0) 0 0 := by
  refine ⟨⟨rfl, rfl, rfl, fun x h => absurd h (Nat.not_lt_zero x)⟩, TB_0, ⟨rfl, Nat.zero_le _, fun x h => absurd h (Nat.not_lt_zero x), fun x h => absurd h (Nat.not_lt_zero x), fun x h => absurd h (Nat.not_lt_zero x)⟩, fun k hk => ?_, rfl, rfl⟩
  rcases (show k = 0 ∨ k = 1 ∨ k = 2 ∨ k = 3 by omega) with rfl | rfl | rfl | rfl <;> exact ⟨rfl, Or.inl rfl, rfl, Nat.zero_le _, fun i hi => rfl⟩
theorem i_le {L i : Nat} (hL : L ≤ 3072) (hi : i ≤ 4000) (h : ¬ (nI L - nI 6) < nI i) : i + 6 ≤ L := by
  rw [Int32.lt_iff_toInt_lt, pk_sub_toInt (by omega) (by decide), nI_toInt (by omega)] at h
  omega

set_option maxHeartbeats 4000000 in
set_option maxRecDepth 100000 in
theorem law_loop {p : Program} {l : Launch} {e : Env} {s : State} {m : MethodId} {below : List Frame} {meth : Method} {c : Code} {D : va_G} {cA : Nat → ClassId} {rN rM : Nat → Nat} {b L tO : Nat} {xs : Nat → Int32} {H : Heap} {locs : List Loc} {ls : Array Slot} (hx : p.tables.exec = Jvm.exec) (hb : c.code = code) (hml : c.maxLocals = 4) (hown : s.vm.findClass RL = some m.cls) (hts : ∀ w ∈ wsL_law, w.before #[Value.ref b] s = true) (hX0 : va_X b L xs s s.heap) (hbl : b < s.heap.size) (hL : L ≤ 3072) (hK : va_K D vwCl (tyA cA) s) (hE : eO tO (fun q : Nat => s.heap.size ≤ q) s s.heap) (hr : meth.sig.returnType = ret) (hlocks : meth.locks = false) (hI : lI D cA rN rM (fun q : Nat => s.heap.size ≤ q) s.heap H locs) (hl : lv_has ls 4 [(3, .int (nI 0)), (0, .ref b), (1, .ref (rN 0)), (2, .ref (rM 0))]) : W p l e room_1 s m #[Value.ref b] below meth c H locs 54 4187 (lw_Z below #[Value.ref b] s) (F0 m 18 ls []) := by
  have hbA : ¬ (fun q : Nat => s.heap.size ≤ q) b := Nat.not_le.mpr hbl
  refine W.widen (k := 54 + 0) (n := 4187 + 5 * 0) (by omega) (by omega) ?_
  refine wLoopC (τ := Nat) (fun i => 54 + i) (fun i => 4187 + 5 * i) (fun i H locs ls => i ≤ 4000 ∧ i ≤ L ∧ lI D cA rN rM (fun q : Nat => s.heap.size ≤ q) s.heap H locs ∧ lv_has ls 4 [(3, .int (nI i)), (0, .ref b), (1, .ref (rN 0)), (2, .ref (rM 0))]) (fun i => 5000 - i) 0 ⟨by omega, by omega, hI, hl⟩ ?_
  intro i H locs ls hz ih
  obtain ⟨hi4, hiL, hI, hl⟩ := hz
  have hS : va_S (fun q : Nat => s.heap.size ≤ q) s.heap H locs := by obtain ⟨u, a, th, LP, tf, um, am, g, T, R, so, ln, ce, f, tr, -, -, -, -, -, -, -, hS⟩ := hI; exact hS
  refine lv_iload_n hx hb dL_law_18 rfl (lv_at hl 0 rfl) ?_
  refine lv_aload_n hx hb dL_law_19 rfl (lv_at hl 1 rfl) ?_
  refine va_slen hx hb hX0 hbl hbA hS dL_law_20 ?_
  refine lv_bipush (v := (nI 6)) hx hb dL_law_21 rfl ?_
  refine lv_isub hx hb dL_law_23 ?_
  refine lv_icmp_gt (tgt := 1110) hx hb dL_law_24 (by decide) (fun c_1 => ?_) (fun c_1 => ?_)
  · refine lv_iconst (v := (nI 1)) hx hb dL_law_1110 rfl ?_
    refine va_forget hS.2.2 ?_
    refine W.widen (k := 600000) (n := 7302250) (by omega) (by omega) ?_
    exact lw_ret hx hb hr hlocks dL_law_1111
  · have hi6 : i + 6 ≤ L := i_le hL hi4 c_1
    have kk : ∀ (H1 : Heap) (locs1 : List Loc) (ls1 : Array Slot), lI D cA rN rM (fun q : Nat => s.heap.size ≤ q) s.heap H1 locs1 → lv_has ls1 4 [(3, .int (nI i)), (0, .ref b), (1, .ref (rN 0)), (2, .ref (rM 0))] → W p l e room_1 s m #[Value.ref b] below meth c H1 locs1 (54 + i + 6) (4187 + 5 * i + 30) (lw_Z below #[Value.ref b] s) (F0 m 1104 ls1 []) := by
      intro H1 locs1 ls hI1 hl1
      refine rn_iinc (x := i) (d := 6) (lv' := [(3, .int (nI (i + 6))), (0, .ref b), (1, .ref (rN 0)), (2, .ref (rM 0))]) hx hb rfl dL_law_1104 hl1 (k := 0) rfl (by decide) rfl (fun ls hl => ?_)
      refine lv_goto (tgt := 18) hx hb dL_law_1107 (by decide) ?_
      refine W.widen (k := 54 + (i + 6)) (n := 4187 + 5 * (i + 6)) (by omega) (by omega) ?_
      exact ih (i + 6) _ _ _ (by omega) ⟨by omega, hi6, hI1, hl⟩
    refine lv_aload_n hx hb dL_law_27 rfl (lv_at hl 1 rfl) ?_
    refine lv_iload_n hx hb dL_law_28 rfl (lv_at hl 0 rfl) ?_
    refine wSld hx hb hX0 hbl hbA hS (j := i) (by omega) hL dL_law_29 ?_
    refine lv_bipush (v := (nI 31)) hx hb dL_law_30 rfl ?_
    refine lv_iand hx hb dL_law_32 ?_
    obtain ⟨j, hj, hje⟩ := pk_andE (xs i) (m := nI 31) 5 (by decide)
    rw [hje]
    have hj : j < 32 := hj
    rcases (show j = 0 ∨ j = 1 ∨ j = 2 ∨ j = 3 ∨ j = 4 ∨ j = 5 ∨ j = 6 ∨ j = 7 ∨ j = 8 ∨ j = 9 ∨ j = 10 ∨ j = 11 ∨ j = 12 ∨ j = 13 ∨ j = 14 ∨ j = 15 ∨ j = 16 ∨ j = 17 ∨ j = 18 ∨ j = 19 ∨ j = 20 ∨ j = 21 ∨ j = 22 ∨ j = 23 ∨ j = 24 ∨ j = 25 ∨ j = 26 ∨ 27 ≤ j by omega) with rfl | rfl | rfl | rfl | rfl | rfl | rfl | rfl | rfl | rfl | rfl | rfl | rfl | rfl | rfl | rfl | rfl | rfl | rfl | rfl | rfl | rfl | rfl | rfl | rfl | rfl | rfl | hj7
    · refine lv_tableIn (off := 123) (tgt := 156) hx hb dL_law_33 (by decide) (by decide) (by decide) (by decide) ?_
      exact law_street hx hb hml hown hts hX0 hbl hL hK hE hi6 (by omega) (by omega) hI hl kk
    · refine lv_tableIn (off := 176) (tgt := 209) hx hb dL_law_33 (by decide) (by decide) (by decide) (by decide) ?_
      exact law_ofThing hx hb hml hown hts hX0 hbl hL hK hE hi6 (by omega) (by omega) hI hl kk
    · refine lv_tableIn (off := 209) (tgt := 242) hx hb dL_law_33 (by decide) (by decide) (by decide) (by decide) ?_
      exact law_smithy hx hb hml hown hts hX0 hbl hL hK hE hi6 (by omega) (by omega) hI hl kk
    · refine lv_tableIn (off := 232) (tgt := 265) hx hb dL_law_33 (by decide) (by decide) (by decide) (by decide) ?_
      exact law_rust hx hb hml hown hts hX0 hbl hL hK hE hi6 (by omega) (by omega) hI hl kk
    · refine lv_tableIn (off := 255) (tgt := 288) hx hb dL_law_33 (by decide) (by decide) (by decide) (by decide) ?_
      exact law_harm hx hb hml hown hts hX0 hbl hL hK hE hi6 (by omega) (by omega) hI hl kk
    · refine lv_tableIn (off := 318) (tgt := 351) hx hb dL_law_33 (by decide) (by decide) (by decide) (by decide) ?_
      exact law_never hx hb hml hown hts hX0 hbl hL hK hE hi6 (by omega) (by omega) hI hl kk
    · refine lv_tableIn (off := 371) (tgt := 404) hx hb dL_law_33 (by decide) (by decide) (by decide) (by decide) ?_
      exact law_fall hx hb hml hown hts hX0 hbl hL hK hE hi6 (by omega) (by omega) hI hl kk
    · refine lv_tableIn (off := 434) (tgt := 467) hx hb dL_law_33 (by decide) (by decide) (by decide) (by decide) ?_
      exact law_nail hx hb hml hown hts hX0 hbl hL hK hE hi6 (by omega) (by omega) hI hl kk
    · refine lv_tableIn (off := 497) (tgt := 530) hx hb dL_law_33 (by decide) (by decide) (by decide) (by decide) ?_
      exact law_best hx hb hml hown hts hX0 hbl hL hK hE hi6 (by omega) (by omega) hI hl kk
    · refine lv_tableIn (off := 530) (tgt := 563) hx hb dL_law_33 (by decide) (by decide) (by decide) (by decide) ?_
      exact law_safe hx hb hml hown hts hX0 hbl hL hK hE hi6 (by omega) (by omega) hI hl kk
    · refine lv_tableIn (off := 543) (tgt := 576) hx hb dL_law_33 (by decide) (by decide) (by decide) (by decide) ?_
      exact law_letGo hx hb hml hown hts hX0 hbl hL hK hE hi6 (by omega) (by omega) hI hl kk
    · refine lv_tableIn (off := 556) (tgt := 589) hx hb dL_law_33 (by decide) (by decide) (by decide) (by decide) ?_
      exact law_two hx hb hml hown hts hX0 hbl hL hK hE hi6 (by omega) (by omega) hI hl kk
    · refine lv_tableIn (off := 589) (tgt := 622) hx hb dL_law_33 (by decide) (by decide) (by decide) (by decide) ?_
      exact law_site hx hb hml hown hts hX0 hbl hL hK hE hi6 (by omega) (by omega) hI hl kk
    · refine lv_tableIn (off := 622) (tgt := 655) hx hb dL_law_33 (by decide) (by decide) (by decide) (by decide) ?_
      exact law_reading hx hb hml hown hts hX0 hbl hL hK hE hi6 (by omega) (by omega) hI hl kk
    · refine lv_tableIn (off := 681) (tgt := 714) hx hb dL_law_33 (by decide) (by decide) (by decide) (by decide) ?_
      exact law_back hx hb hml hown hts hX0 hbl hL hK hE hi6 (by omega) (by omega) hI hl kk
    · refine lv_tableIn (off := 704) (tgt := 737) hx hb dL_law_33 (by decide) (by decide) (by decide) (by decide) ?_
      exact law_fits hx hb hml hown hts hX0 hbl hL hK hE hi6 (by omega) (by omega) hI hl kk
    · refine lv_tableIn (off := 727) (tgt := 760) hx hb dL_law_33 (by decide) (by decide) (by decide) (by decide) ?_
      exact law_sheet hx hb hml hown hts hX0 hbl hL hK hE hi6 (by omega) (by omega) hI hl kk
    · refine lv_tableIn (off := 770) (tgt := 803) hx hb dL_law_33 (by decide) (by decide) (by decide) (by decide) ?_
      exact law_lose hx hb hml hown hts hX0 hbl hL hK hE hi6 (by omega) (by omega) hI hl kk
    · refine lv_tableIn (off := 793) (tgt := 826) hx hb dL_law_33 (by decide) (by decide) (by decide) (by decide) ?_
      exact law_put hx hb hml hown hts hX0 hbl hL hK hE hi6 (by omega) (by omega) hI hl kk
    · refine lv_tableIn (off := 836) (tgt := 869) hx hb dL_law_33 (by decide) (by decide) (by decide) (by decide) ?_
      exact law_cell hx hb hml hown hts hX0 hbl hL hK hE hi6 (by omega) (by omega) hI hl kk
    · refine lv_tableIn (off := 880) (tgt := 913) hx hb dL_law_33 (by decide) (by decide) (by decide) (by decide) ?_
      exact law_copy hx hb hml hown hts hX0 hbl hL hK hE hi6 (by omega) (by omega) hI hl kk
    · refine lv_tableIn (off := 943) (tgt := 976) hx hb dL_law_33 (by decide) (by decide) (by decide) (by decide) ?_
      exact law_tell hx hb hml hown hts hX0 hbl hL hK hE hi6 (by omega) (by omega) hI hl kk
    · refine lv_tableIn (off := 966) (tgt := 999) hx hb dL_law_33 (by decide) (by decide) (by decide) (by decide) ?_
      exact law_strike hx hb hml hown hts hX0 hbl hL hK hE hi6 (by omega) (by omega) hI hl kk
    · refine lv_tableIn (off := 989) (tgt := 1022) hx hb dL_law_33 (by decide) (by decide) (by decide) (by decide) ?_
      exact law_as hx hb hml hown hts hX0 hbl hL hK hE hi6 (by omega) (by omega) hI hl kk
    · refine lv_tableIn (off := 1022) (tgt := 1055) hx hb dL_law_33 (by decide) (by decide) (by decide) (by decide) ?_
      exact law_trace hx hb hml hown hts hX0 hbl hL hK hE hi6 (by omega) (by omega) hI hl kk
    · refine lv_tableIn (off := 1035) (tgt := 1068) hx hb dL_law_33 (by decide) (by decide) (by decide) (by decide) ?_
      exact law_fault hx hb hml hown hts hX0 hbl hL hK hE hi6 (by omega) (by omega) hI hl kk
    · refine lv_tableIn (off := 1048) (tgt := 1081) hx hb dL_law_33 (by decide) (by decide) (by decide) (by decide) ?_
      exact law_many hx hb hml hown hts hX0 hbl hL hK hE hi6 (by omega) (by omega) hI hl kk
    · refine lv_tableOut (tgt := 1104) hx hb dL_law_33 (Or.inr (by rw [nI_toInt (by omega)]; omega)) (by decide) ?_
      refine W.widen (k := 54 + i + 6) (n := 4187 + 5 * i + 30) (by omega) (by omega) ?_
      exact kk _ _ _ hI hl
