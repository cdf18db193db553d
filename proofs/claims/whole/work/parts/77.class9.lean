theorem sw_out4 {w : Int32} (h0 : ¬ w = nI 0) (h1 : ¬ w = nI 1) (h2 : ¬ w = nI 2) (h3 : ¬ w = nI 3) : w.toInt < 0 ∨ 3 < w.toInt := by
  rcases pk_ix w (show 4 < 2 ^ 31 by decide) with q | q | ⟨j, hj, e⟩
  · exact Or.inl (by rw [Int32.lt_iff_toInt_lt] at q; exact q)
  · exact Or.inr (by rw [Int32.le_iff_toInt_le, nI_toInt (by decide)] at q; omega)
  · exfalso
    rcases (show j = 0 ∨ j = 1 ∨ j = 2 ∨ j = 3 by omega) with z | z | z | z <;> subst z
    · exact h0 e
    · exact h1 e
    · exact h2 e
    · exact h3 e
theorem rdn_push {u u' : Nat → Int32} {a a' : Nat → Nat → Int32} {g : Nat → Nat} {R : Nat → Nat → Nat} {x w b : Int32} (h : RdN u a g R) (h8 : g 3 < 8) (hx : x.toNatClampNeg < g 0) (hw : w.toNatClampNeg < 300) (hb : b = nI b.toNatClampNeg ∧ b.toNatClampNeg ≤ 1) (e30 : u' 4 = nI (g 3 + 1)) (e31 : a' 17 = upd (a 17) (g 3) (nI x.toNatClampNeg)) (e32 : a' 18 = upd (a 18) (g 3) (nI w.toNatClampNeg)) (e33 : a' 19 = upd (a 19) (g 3) b) : RdN u' a' (gu g 3 (g 3 + 1)) (fun f q => if q = g 3 then (if f = 0 then x.toNatClampNeg else if f = 1 then w.toNatClampNeg else b.toNatClampNeg) else R f q) := by
  have key := rd_push (u := fun k => if k = 30 then u 4 else 0) (u' := fun k => if k = 30 then u' 4 else 0) (a := fun k => a (k - 14)) (a' := fun k => a' (k - 14)) (x := x) (w := w) (b := b) (g := g) (R := R) h h8 hx hw hb e30 e31 e32 e33
  exact key
set_option maxHeartbeats 4000000 in
set_option maxRecDepth 100000 in
theorem kX9_isLane (l : Launch) (x : Int32)  : Met l yX9_isLane wsX9_isLane ({ frames := 0, cells := 0, slots := 0, locals := 0 } : Room) (va_Pc [.int x] (fun _ => True)) (vp_Si (fun v => (v = nI 1 ∧ inR x 0 2) ∨ (v = nI 0 ∧ ¬ inR x 0 2))) 0 0 (fun _ => False) := by
  refine Met.ofW (cc := cX9_isLane) (maxL := 1) (ret := (some .boolean)) (by decide) rfl ?_
  intro p e s m args below meth c s₁ B hml hv
  obtain ⟨rfl, -⟩ := hv
  have hx := B.exec
  have hb := B.bytes
  have hr := B.returns
  have hts := atoms_spec (ws := wsX9_isLane) B.pre
  have hown : s.vm.findClass RX9 = some m.cls := findClass_of_methodNamed B.named
  have hlocks := B.notSynchronized
  have hl := lv_entry ([.int x]) (n := 1) (Nat.le_of_ble_eq_true rfl)
  rw [lg_entry_eq]
  generalize (lg_sl ([.int x]) ++ List.replicate (1 - (lg_sl ([.int x])).length) Slot.unset).toArray = ls at hl ⊢
  have hl : lv_has ls 1 [(0, .int x)] := hl
  refine lv_iload_n hx hb dX9_isLane_0 rfl (lv_at hl 0 rfl) ?_
  refine lv_if_lt (tgt := 13) hx hb dX9_isLane_1 (by decide) (fun c_1 => ?_) (fun c_1 => ?_)
  · refine lv_iconst (v := (nI 0)) hx hb dX9_isLane_13 rfl ?_
    exact wSzret hx hb hr hlocks (v := (nI 0)) (by first | exact Or.inl rfl | exact Or.inr rfl) (by first | exact Or.inl ⟨rfl, ir_in (by assumption) (by assumption) (by decide) (by decide)⟩ | exact Or.inr ⟨rfl, ir_lo (by assumption)⟩ | exact Or.inr ⟨rfl, ir_hi (by assumption) (by decide)⟩) dX9_isLane_14
  · refine lv_iload_n hx hb dX9_isLane_4 rfl (lv_at hl 0 rfl) ?_
    refine lv_iconst (v := (nI 3)) hx hb dX9_isLane_5 rfl ?_
    refine lv_icmp_ge (tgt := 13) hx hb dX9_isLane_6 (by decide) (fun c_2 => ?_) (fun c_2 => ?_)
    · refine lv_iconst (v := (nI 0)) hx hb dX9_isLane_13 rfl ?_
      exact wSzret hx hb hr hlocks (v := (nI 0)) (by first | exact Or.inl rfl | exact Or.inr rfl) (by first | exact Or.inl ⟨rfl, ir_in (by assumption) (by assumption) (by decide) (by decide)⟩ | exact Or.inr ⟨rfl, ir_lo (by assumption)⟩ | exact Or.inr ⟨rfl, ir_hi (by assumption) (by decide)⟩) dX9_isLane_14
    · refine lv_iconst (v := (nI 1)) hx hb dX9_isLane_9 rfl ?_
      refine lv_goto (tgt := 14) hx hb dX9_isLane_10 (by decide) ?_
      exact wSzret hx hb hr hlocks (v := (nI 1)) (by first | exact Or.inl rfl | exact Or.inr rfl) (by first | exact Or.inl ⟨rfl, ir_in (by assumption) (by assumption) (by decide) (by decide)⟩ | exact Or.inr ⟨rfl, ir_lo (by assumption)⟩ | exact Or.inr ⟨rfl, ir_hi (by assumption) (by decide)⟩) dX9_isLane_14

set_option maxHeartbeats 4000000 in
set_option maxRecDepth 100000 in
theorem kX9_isMinute (l : Launch) (x : Int32)  : Met l yX9_isMinute wsX9_isMinute ({ frames := 0, cells := 0, slots := 0, locals := 0 } : Room) (va_Pc [.int x] (fun _ => True)) (vp_Si (fun v => (v = nI 1 ∧ inR x 0 299) ∨ (v = nI 0 ∧ ¬ inR x 0 299))) 0 0 (fun _ => False) := by
  refine Met.ofW (cc := cX9_isMinute) (maxL := 1) (ret := (some .boolean)) (by decide) rfl ?_
  intro p e s m args below meth c s₁ B hml hv
  obtain ⟨rfl, -⟩ := hv
  have hx := B.exec
  have hb := B.bytes
  have hr := B.returns
  have hts := atoms_spec (ws := wsX9_isMinute) B.pre
  have hown : s.vm.findClass RX9 = some m.cls := findClass_of_methodNamed B.named
  have hlocks := B.notSynchronized
  have hl := lv_entry ([.int x]) (n := 1) (Nat.le_of_ble_eq_true rfl)
  rw [lg_entry_eq]
  generalize (lg_sl ([.int x]) ++ List.replicate (1 - (lg_sl ([.int x])).length) Slot.unset).toArray = ls at hl ⊢
  have hl : lv_has ls 1 [(0, .int x)] := hl
  refine lv_iload_n hx hb dX9_isMinute_0 rfl (lv_at hl 0 rfl) ?_
  refine lv_if_lt (tgt := 15) hx hb dX9_isMinute_1 (by decide) (fun c_1 => ?_) (fun c_1 => ?_)
  · refine lv_iconst (v := (nI 0)) hx hb dX9_isMinute_15 rfl ?_
    exact wSzret hx hb hr hlocks (v := (nI 0)) (by first | exact Or.inl rfl | exact Or.inr rfl) (by first | exact Or.inl ⟨rfl, ir_in (by assumption) (by assumption) (by decide) (by decide)⟩ | exact Or.inr ⟨rfl, ir_lo (by assumption)⟩ | exact Or.inr ⟨rfl, ir_hi (by assumption) (by decide)⟩) dX9_isMinute_16
  · refine lv_iload_n hx hb dX9_isMinute_4 rfl (lv_at hl 0 rfl) ?_
    refine lv_sipush (v := (nI 300)) hx hb dX9_isMinute_5 rfl ?_
    refine lv_icmp_ge (tgt := 15) hx hb dX9_isMinute_8 (by decide) (fun c_2 => ?_) (fun c_2 => ?_)
    · refine lv_iconst (v := (nI 0)) hx hb dX9_isMinute_15 rfl ?_
      exact wSzret hx hb hr hlocks (v := (nI 0)) (by first | exact Or.inl rfl | exact Or.inr rfl) (by first | exact Or.inl ⟨rfl, ir_in (by assumption) (by assumption) (by decide) (by decide)⟩ | exact Or.inr ⟨rfl, ir_lo (by assumption)⟩ | exact Or.inr ⟨rfl, ir_hi (by assumption) (by decide)⟩) dX9_isMinute_16
    · refine lv_iconst (v := (nI 1)) hx hb dX9_isMinute_11 rfl ?_
      refine lv_goto (tgt := 16) hx hb dX9_isMinute_12 (by decide) ?_
      exact wSzret hx hb hr hlocks (v := (nI 1)) (by first | exact Or.inl rfl | exact Or.inr rfl) (by first | exact Or.inl ⟨rfl, ir_in (by assumption) (by assumption) (by decide) (by decide)⟩ | exact Or.inr ⟨rfl, ir_lo (by assumption)⟩ | exact Or.inr ⟨rfl, ir_hi (by assumption) (by decide)⟩) dX9_isMinute_16

set_option maxHeartbeats 4000000 in
set_option maxRecDepth 100000 in
theorem kX9_isSpan (l : Launch) (x : Int32)  : Met l yX9_isSpan wsX9_isSpan ({ frames := 0, cells := 0, slots := 0, locals := 0 } : Room) (va_Pc [.int x] (fun _ => True)) (vp_Si (fun v => (v = nI 1 ∧ inR x 1 300) ∨ (v = nI 0 ∧ ¬ inR x 1 300))) 0 0 (fun _ => False) := by
  refine Met.ofW (cc := cX9_isSpan) (maxL := 1) (ret := (some .boolean)) (by decide) rfl ?_
  intro p e s m args below meth c s₁ B hml hv
  obtain ⟨rfl, -⟩ := hv
  have hx := B.exec
  have hb := B.bytes
  have hr := B.returns
  have hts := atoms_spec (ws := wsX9_isSpan) B.pre
  have hown : s.vm.findClass RX9 = some m.cls := findClass_of_methodNamed B.named
  have hlocks := B.notSynchronized
  have hl := lv_entry ([.int x]) (n := 1) (Nat.le_of_ble_eq_true rfl)
  rw [lg_entry_eq]
  generalize (lg_sl ([.int x]) ++ List.replicate (1 - (lg_sl ([.int x])).length) Slot.unset).toArray = ls at hl ⊢
  have hl : lv_has ls 1 [(0, .int x)] := hl
  refine lv_iload_n hx hb dX9_isSpan_0 rfl (lv_at hl 0 rfl) ?_
  refine lv_iconst (v := (nI 1)) hx hb dX9_isSpan_1 rfl ?_
  refine lv_icmp_lt (tgt := 16) hx hb dX9_isSpan_2 (by decide) (fun c_1 => ?_) (fun c_1 => ?_)
  · refine lv_iconst (v := (nI 0)) hx hb dX9_isSpan_16 rfl ?_
    exact wSzret hx hb hr hlocks (v := (nI 0)) (by first | exact Or.inl rfl | exact Or.inr rfl) (by first | exact Or.inl ⟨rfl, Int32.not_lt.mp (by assumption), Int32.not_lt.mp (by assumption)⟩ | exact Or.inr ⟨rfl, ir_lo (by assumption)⟩ | exact Or.inr ⟨rfl, ir_gt (by assumption)⟩) dX9_isSpan_17
  · refine lv_iload_n hx hb dX9_isSpan_5 rfl (lv_at hl 0 rfl) ?_
    refine lv_sipush (v := (nI 300)) hx hb dX9_isSpan_6 rfl ?_
    refine lv_icmp_gt (tgt := 16) hx hb dX9_isSpan_9 (by decide) (fun c_2 => ?_) (fun c_2 => ?_)
    · refine lv_iconst (v := (nI 0)) hx hb dX9_isSpan_16 rfl ?_
      exact wSzret hx hb hr hlocks (v := (nI 0)) (by first | exact Or.inl rfl | exact Or.inr rfl) (by first | exact Or.inl ⟨rfl, Int32.not_lt.mp (by assumption), Int32.not_lt.mp (by assumption)⟩ | exact Or.inr ⟨rfl, ir_lo (by assumption)⟩ | exact Or.inr ⟨rfl, ir_gt (by assumption)⟩) dX9_isSpan_17
    · refine lv_iconst (v := (nI 1)) hx hb dX9_isSpan_12 rfl ?_
      refine lv_goto (tgt := 17) hx hb dX9_isSpan_13 (by decide) ?_
      exact wSzret hx hb hr hlocks (v := (nI 1)) (by first | exact Or.inl rfl | exact Or.inr rfl) (by first | exact Or.inl ⟨rfl, Int32.not_lt.mp (by assumption), Int32.not_lt.mp (by assumption)⟩ | exact Or.inr ⟨rfl, ir_lo (by assumption)⟩ | exact Or.inr ⟨rfl, ir_gt (by assumption)⟩) dX9_isSpan_17

set_option maxHeartbeats 4000000 in
set_option maxRecDepth 100000 in
theorem kX9_isDigit (l : Launch) (x : Int32)  : Met l yX9_isDigit wsX9_isDigit ({ frames := 0, cells := 0, slots := 0, locals := 0 } : Room) (va_Pc [.int x] (fun _ => True)) (vp_Si (fun v => (v = nI 1 ∧ inR x 48 57) ∨ (v = nI 0 ∧ ¬ inR x 48 57))) 0 0 (fun _ => False) := by
  refine Met.ofW (cc := cX9_isDigit) (maxL := 1) (ret := (some .boolean)) (by decide) rfl ?_
  intro p e s m args below meth c s₁ B hml hv
  obtain ⟨rfl, -⟩ := hv
  have hx := B.exec
  have hb := B.bytes
  have hr := B.returns
  have hts := atoms_spec (ws := wsX9_isDigit) B.pre
  have hown : s.vm.findClass RX9 = some m.cls := findClass_of_methodNamed B.named
  have hlocks := B.notSynchronized
  have hl := lv_entry ([.int x]) (n := 1) (Nat.le_of_ble_eq_true rfl)
  rw [lg_entry_eq]
  generalize (lg_sl ([.int x]) ++ List.replicate (1 - (lg_sl ([.int x])).length) Slot.unset).toArray = ls at hl ⊢
  have hl : lv_has ls 1 [(0, .int x)] := hl
  refine lv_iload_n hx hb dX9_isDigit_0 rfl (lv_at hl 0 rfl) ?_
  refine lv_bipush (v := (nI 48)) hx hb dX9_isDigit_1 rfl ?_
  refine lv_icmp_lt (tgt := 16) hx hb dX9_isDigit_3 (by decide) (fun c_1 => ?_) (fun c_1 => ?_)
  · refine lv_iconst (v := (nI 0)) hx hb dX9_isDigit_16 rfl ?_
    exact wSzret hx hb hr hlocks (v := (nI 0)) (by first | exact Or.inl rfl | exact Or.inr rfl) (by first | exact Or.inl ⟨rfl, Int32.not_lt.mp (by assumption), Int32.not_lt.mp (by assumption)⟩ | exact Or.inr ⟨rfl, ir_lo (by assumption)⟩ | exact Or.inr ⟨rfl, ir_gt (by assumption)⟩) dX9_isDigit_17
  · refine lv_iload_n hx hb dX9_isDigit_6 rfl (lv_at hl 0 rfl) ?_
    refine lv_bipush (v := (nI 57)) hx hb dX9_isDigit_7 rfl ?_
    refine lv_icmp_gt (tgt := 16) hx hb dX9_isDigit_9 (by decide) (fun c_2 => ?_) (fun c_2 => ?_)
    · refine lv_iconst (v := (nI 0)) hx hb dX9_isDigit_16 rfl ?_
      exact wSzret hx hb hr hlocks (v := (nI 0)) (by first | exact Or.inl rfl | exact Or.inr rfl) (by first | exact Or.inl ⟨rfl, Int32.not_lt.mp (by assumption), Int32.not_lt.mp (by assumption)⟩ | exact Or.inr ⟨rfl, ir_lo (by assumption)⟩ | exact Or.inr ⟨rfl, ir_gt (by assumption)⟩) dX9_isDigit_17
    · refine lv_iconst (v := (nI 1)) hx hb dX9_isDigit_12 rfl ?_
      refine lv_goto (tgt := 17) hx hb dX9_isDigit_13 (by decide) ?_
      exact wSzret hx hb hr hlocks (v := (nI 1)) (by first | exact Or.inl rfl | exact Or.inr rfl) (by first | exact Or.inl ⟨rfl, Int32.not_lt.mp (by assumption), Int32.not_lt.mp (by assumption)⟩ | exact Or.inr ⟨rfl, ir_lo (by assumption)⟩ | exact Or.inr ⟨rfl, ir_gt (by assumption)⟩) dX9_isDigit_17

set_option maxHeartbeats 4000000 in
set_option maxRecDepth 100000 in
theorem kX9_isHalf (l : Launch) (x : Int32)  : Met l yX9_isHalf wsX9_isHalf ({ frames := 0, cells := 0, slots := 0, locals := 0 } : Room) (va_Pc [.int x] (fun _ => True)) (vp_Si (fun v => (v = nI 1 ∧ inR x 0 1) ∨ (v = nI 0 ∧ ¬ inR x 0 1))) 0 0 (fun _ => False) := by
  refine Met.ofW (cc := cX9_isHalf) (maxL := 1) (ret := (some .boolean)) (by decide) rfl ?_
  intro p e s m args below meth c s₁ B hml hv
  obtain ⟨rfl, -⟩ := hv
  have hx := B.exec
  have hb := B.bytes
  have hr := B.returns
  have hts := atoms_spec (ws := wsX9_isHalf) B.pre
  have hown : s.vm.findClass RX9 = some m.cls := findClass_of_methodNamed B.named
  have hlocks := B.notSynchronized
  have hl := lv_entry ([.int x]) (n := 1) (Nat.le_of_ble_eq_true rfl)
  rw [lg_entry_eq]
  generalize (lg_sl ([.int x]) ++ List.replicate (1 - (lg_sl ([.int x])).length) Slot.unset).toArray = ls at hl ⊢
  have hl : lv_has ls 1 [(0, .int x)] := hl
  refine lv_iload_n hx hb dX9_isHalf_0 rfl (lv_at hl 0 rfl) ?_
  refine lv_if_eq (tgt := 9) hx hb dX9_isHalf_1 (by decide) (fun c_1 => ?_) (fun c_1 => ?_)
  · refine lv_iconst (v := (nI 1)) hx hb dX9_isHalf_9 rfl ?_
    refine lv_goto (tgt := 14) hx hb dX9_isHalf_10 (by decide) ?_
    exact wSzret hx hb hr hlocks (v := (nI 1)) (by first | exact Or.inl rfl | exact Or.inr rfl) (by first | exact Or.inl ⟨rfl, half_in (Or.inl (by assumption))⟩ | exact Or.inl ⟨rfl, half_in (Or.inr (by assumption))⟩ | exact Or.inr ⟨rfl, half_out (by assumption) (by assumption)⟩) dX9_isHalf_14
  · refine lv_iload_n hx hb dX9_isHalf_4 rfl (lv_at hl 0 rfl) ?_
    refine lv_iconst (v := (nI 1)) hx hb dX9_isHalf_5 rfl ?_
    refine lv_icmp_ne (tgt := 13) hx hb dX9_isHalf_6 (by decide) (fun c_2 => ?_) (fun c_2 => ?_)
    · refine lv_iconst (v := (nI 0)) hx hb dX9_isHalf_13 rfl ?_
      exact wSzret hx hb hr hlocks (v := (nI 0)) (by first | exact Or.inl rfl | exact Or.inr rfl) (by first | exact Or.inl ⟨rfl, half_in (Or.inl (by assumption))⟩ | exact Or.inl ⟨rfl, half_in (Or.inr (by assumption))⟩ | exact Or.inr ⟨rfl, half_out (by assumption) (by assumption)⟩) dX9_isHalf_14
    · refine lv_iconst (v := (nI 1)) hx hb dX9_isHalf_9 rfl ?_
      refine lv_goto (tgt := 14) hx hb dX9_isHalf_10 (by decide) ?_
      exact wSzret hx hb hr hlocks (v := (nI 1)) (by first | exact Or.inl rfl | exact Or.inr rfl) (by first | exact Or.inl ⟨rfl, half_in (Or.inl (by assumption))⟩ | exact Or.inl ⟨rfl, half_in (Or.inr (by assumption))⟩ | exact Or.inr ⟨rfl, half_out (by assumption) (by assumption)⟩) dX9_isHalf_14

set_option maxHeartbeats 4000000 in
set_option maxRecDepth 100000 in
theorem kX9_trace (l : Launch) (D : va_G) (cA : Nat → ClassId) (r : Nat → Nat) (sz : Nat) (u : Nat → Int32) (a : Nat → Nat → Int32) (th : Nat → Option Nat) (LP : List Nat) (tf : Nat → va_E) (tO : Nat) (g : Nat → Nat) (T : Nat → Nat → Nat) (R : Nat → Nat → Nat) (so : Nat → Int32) (ln : Nat → Nat) (ce : Nat → Nat → Int32) (f tr : Int32)  (hI : CI u a th LP tf g T R so ln ce f tr) : Met l yX9_trace wsX9_trace ({ frames := 0, cells := 0, slots := 0, locals := 0 } : Room) (va_Pc [.ref (r 0)] (wA D vwCl (tyA cA) (eO tO) (xN cA r) (u, a, th, LP, tf) sz)) (va_Qi (fun (v : Int32) (z : sN) => v = tr ∧ CI z.1 z.2.1 z.2.2.1 z.2.2.2.1 z.2.2.2.2 g T R so ln ce f tr) (wB D vwCl (tyA cA) (xN cA r) (va_A (xN cA r (u, a, th, LP, tf)) sz)) (va_A (xN cA r (u, a, th, LP, tf)) sz)) 0 0 (va_A (xN cA r (u, a, th, LP, tf)) sz) := by
  refine Met.ofW (cc := cX9_trace) (maxL := 1) (ret := (some .int)) (by decide) rfl ?_
  intro p e s m args below meth c s₁ B hml hv
  obtain ⟨rfl, hsz, hP, hK, hD0, hE⟩ := hv
  have hx := B.exec
  have hb := B.bytes
  have hr := B.returns
  have hts := atoms_spec (ws := wsX9_trace) B.pre
  have hown : s.vm.findClass RX9 = some m.cls := findClass_of_methodNamed B.named
  have hlocks := B.notSynchronized
  subst hsz
  have hD := hD0.self (sz := s.heap.size)
  generalize hAe : va_A (xN cA r (u, a, th, LP, tf)) s.heap.size = A at hD hE ⊢
  have hA : ∀ q : Nat, s.heap.size ≤ q → A q := fun q h => by rw [← hAe]; exact Or.inr h
  have hS : va_S A s.heap s.heap [] := va_S.rf
  have hinX7 : ∀ w ∈ u_ws RX7 TX7 1, w ∈ wsX9_trace := by decide +kernel
  have hinX9 : ∀ w ∈ u_ws RX9 TX9 8, w ∈ wsX9_trace := by decide +kernel
  have hl := lv_entry ([.ref (r 0)]) (n := 1) (Nat.le_of_ble_eq_true rfl)
  rw [lg_entry_eq]
  generalize (lg_sl ([.ref (r 0)]) ++ List.replicate (1 - (lg_sl ([.ref (r 0)])).length) Slot.unset).toArray = ls at hl ⊢
  have hl : lv_has ls 1 [(0, .ref (r 0))] := hl
  have hM := hI.1
  have hB := hI.2.1
  have hg6 := hB.1
  have hsm := hI.2.2.1
  have hrs := hI.2.2.2.1
  have hRd := hI.2.2.2.2.1
  have hSh := hI.2.2.2.2.2.1
  have hf0 := hI.2.2.2.2.2.2.1
  have htr := hI.2.2.2.2.2.2.2.1
  have hPo := hI.2.2.2.2.2.2.2.2
  refine lv_aload_n hx hb dX9_trace_0 rfl (lv_at hl 0 rfl) ?_
  refine va_get (D := D) (ci := 9) (v := .ref (r 5)) (C := RX9) (T := TX9) (N := 8) hx hb hts hinX9 hown hK hP 0 rfl rfl 6 (by decide) (hts (.fieldLink RX9 54 "OneNail" "traced" "LOneNail$Trace;") (by decide +kernel)) (fun _ h9 => h9) rfl dX9_trace_1 ?_
  refine va_get (D := D) (ci := 7) (v := .int (u 13)) (C := RX7) (T := TX7) (N := 1) hx hb hts hinX7 hown hK hP 5 rfl rfl 0 (by decide) (hts (.fieldLink RX9 239 "OneNail$Trace" "value" "I") (by decide +kernel)) (fun _ h9 => h9) rfl dX9_trace_4 ?_
  exact wIret hx hb hr hlocks (v := (u 13)) (u, a, th, LP, tf) (⟨htr, hI⟩) hK hP hD hS dX9_trace_7

set_option maxHeartbeats 4000000 in
set_option maxRecDepth 100000 in
theorem kX9_fault (l : Launch) (D : va_G) (cA : Nat → ClassId) (r : Nat → Nat) (sz : Nat) (u : Nat → Int32) (a : Nat → Nat → Int32) (th : Nat → Option Nat) (LP : List Nat) (tf : Nat → va_E) (tO : Nat) (g : Nat → Nat) (T : Nat → Nat → Nat) (R : Nat → Nat → Nat) (so : Nat → Int32) (ln : Nat → Nat) (ce : Nat → Nat → Int32) (f tr : Int32)  (hI : CI u a th LP tf g T R so ln ce f tr) : Met l yX9_fault wsX9_fault ({ frames := 0, cells := 0, slots := 0, locals := 0 } : Room) (va_Pc [.ref (r 0)] (wA D vwCl (tyA cA) (eO tO) (xN cA r) (u, a, th, LP, tf) sz)) (va_Qi (fun (v : Int32) (z : sN) => v = f ∧ CI z.1 z.2.1 z.2.2.1 z.2.2.2.1 z.2.2.2.2 g T R so ln ce f tr) (wB D vwCl (tyA cA) (xN cA r) (va_A (xN cA r (u, a, th, LP, tf)) sz)) (va_A (xN cA r (u, a, th, LP, tf)) sz)) 0 0 (va_A (xN cA r (u, a, th, LP, tf)) sz) := by
  refine Met.ofW (cc := cX9_fault) (maxL := 1) (ret := (some .int)) (by decide) rfl ?_
  intro p e s m args below meth c s₁ B hml hv
  obtain ⟨rfl, hsz, hP, hK, hD0, hE⟩ := hv
  have hx := B.exec
  have hb := B.bytes
  have hr := B.returns
  have hts := atoms_spec (ws := wsX9_fault) B.pre
  have hown : s.vm.findClass RX9 = some m.cls := findClass_of_methodNamed B.named
  have hlocks := B.notSynchronized
  subst hsz
  have hD := hD0.self (sz := s.heap.size)
  generalize hAe : va_A (xN cA r (u, a, th, LP, tf)) s.heap.size = A at hD hE ⊢
  have hA : ∀ q : Nat, s.heap.size ≤ q → A q := fun q h => by rw [← hAe]; exact Or.inr h
  have hS : va_S A s.heap s.heap [] := va_S.rf
  have hinX9 : ∀ w ∈ u_ws RX9 TX9 8, w ∈ wsX9_fault := by decide +kernel
  have hl := lv_entry ([.ref (r 0)]) (n := 1) (Nat.le_of_ble_eq_true rfl)
  rw [lg_entry_eq]
  generalize (lg_sl ([.ref (r 0)]) ++ List.replicate (1 - (lg_sl ([.ref (r 0)])).length) Slot.unset).toArray = ls at hl ⊢
  have hl : lv_has ls 1 [(0, .ref (r 0))] := hl
  have hM := hI.1
  have hB := hI.2.1
  have hg6 := hB.1
  have hsm := hI.2.2.1
  have hrs := hI.2.2.2.1
  have hRd := hI.2.2.2.2.1
  have hSh := hI.2.2.2.2.2.1
  have hf0 := hI.2.2.2.2.2.2.1
  have htr := hI.2.2.2.2.2.2.2.1
  have hPo := hI.2.2.2.2.2.2.2.2
  refine lv_aload_n hx hb dX9_fault_0 rfl (lv_at hl 0 rfl) ?_
  refine va_get (D := D) (ci := 9) (v := .int (u 0)) (C := RX9) (T := TX9) (N := 8) hx hb hts hinX9 hown hK hP 0 rfl rfl 7 (by decide) (hts (.fieldLink RX9 58 "OneNail" "lastFault" "I") (by decide +kernel)) (fun _ h9 => h9) rfl dX9_fault_1 ?_
  exact wIret hx hb hr hlocks (v := (u 0)) (u, a, th, LP, tf) (⟨hf0, hI⟩) hK hP hD hS dX9_fault_4

set_option maxHeartbeats 4000000 in
set_option maxRecDepth 100000 in
theorem kX9_many (l : Launch) (D : va_G) (cA : Nat → ClassId) (r : Nat → Nat) (sz : Nat) (u : Nat → Int32) (a : Nat → Nat → Int32) (th : Nat → Option Nat) (LP : List Nat) (tf : Nat → va_E) (tO : Nat) (g : Nat → Nat) (T : Nat → Nat → Nat) (R : Nat → Nat → Nat) (so : Nat → Int32) (ln : Nat → Nat) (ce : Nat → Nat → Int32) (f tr : Int32) (x : Int32) (hI : CI u a th LP tf g T R so ln ce f tr) : Met l yX9_many wsX9_many ({ frames := 0, cells := 0, slots := 0, locals := 0 } : Room) (va_Pc [.ref (r 0), .int x] (wA D vwCl (tyA cA) (eO tO) (xN cA r) (u, a, th, LP, tf) sz)) (va_Qi (fun (v : Int32) (z : sN) => v = aMany g x ∧ CI z.1 z.2.1 z.2.2.1 z.2.2.2.1 z.2.2.2.2 g T R so ln ce f tr) (wB D vwCl (tyA cA) (xN cA r) (va_A (xN cA r (u, a, th, LP, tf)) sz)) (va_A (xN cA r (u, a, th, LP, tf)) sz)) 0 0 (va_A (xN cA r (u, a, th, LP, tf)) sz) := by
  refine Met.ofW (cc := cX9_many) (maxL := 2) (ret := (some .int)) (by decide) rfl ?_
  intro p e s m args below meth c s₁ B hml hv
  obtain ⟨rfl, hsz, hP, hK, hD0, hE⟩ := hv
  have hx := B.exec
  have hb := B.bytes
  have hr := B.returns
  have hts := atoms_spec (ws := wsX9_many) B.pre
  have hown : s.vm.findClass RX9 = some m.cls := findClass_of_methodNamed B.named
  have hlocks := B.notSynchronized
  subst hsz
  have hD := hD0.self (sz := s.heap.size)
  generalize hAe : va_A (xN cA r (u, a, th, LP, tf)) s.heap.size = A at hD hE ⊢
  have hA : ∀ q : Nat, s.heap.size ≤ q → A q := fun q h => by rw [← hAe]; exact Or.inr h
  have hS : va_S A s.heap s.heap [] := va_S.rf
  have hinX3 : ∀ w ∈ u_ws RX3 TX3 4, w ∈ wsX9_many := by decide +kernel
  have hinX5 : ∀ w ∈ u_ws RX5 TX5 8, w ∈ wsX9_many := by decide +kernel
  have hinX9 : ∀ w ∈ u_ws RX9 TX9 8, w ∈ wsX9_many := by decide +kernel
  have hl := lv_entry ([.ref (r 0), .int x]) (n := 2) (Nat.le_of_ble_eq_true rfl)
  rw [lg_entry_eq]
  generalize (lg_sl ([.ref (r 0), .int x]) ++ List.replicate (2 - (lg_sl ([.ref (r 0), .int x])).length) Slot.unset).toArray = ls at hl ⊢
  have hl : lv_has ls 2 [(0, .ref (r 0)), (1, .int x)] := hl
  have hM := hI.1
  have hB := hI.2.1
  have hg6 := hB.1
  have hsm := hI.2.2.1
  have hrs := hI.2.2.2.1
  have hRd := hI.2.2.2.2.1
  have hSh := hI.2.2.2.2.2.1
  have hf0 := hI.2.2.2.2.2.2.1
  have htr := hI.2.2.2.2.2.2.2.1
  have hPo := hI.2.2.2.2.2.2.2.2
  refine lv_iload_n hx hb dX9_many_0 rfl (lv_at hl 1 rfl) ?_
  by_cases hw0 : x = nI 0
  · refine lv_topi (fun y_1 ey_1 => ?_)
    obtain rfl : y_1 = (nI 0) := ey_1.trans (hw0)
    refine lv_tableIn (off := 31) (tgt := 32) hx hb dX9_many_1 (by decide) (by decide) (by decide) (by decide) ?_
    refine lv_aload_n hx hb dX9_many_32 rfl (lv_at hl 0 rfl) ?_
    refine va_get (D := D) (ci := 9) (v := .ref (r 1)) (C := RX9) (T := TX9) (N := 8) hx hb hts hinX9 hown hK hP 0 rfl rfl 0 (by decide) (hts (.fieldLink RX9 12 "OneNail" "town" "LOneNail$Street;") (by decide +kernel)) (fun _ h9 => h9) rfl dX9_many_33 ?_
    refine va_get (D := D) (ci := 5) (v := .int (nI (g 0))) (C := RX5) (T := TX5) (N := 8) hx hb hts hinX5 hown hK hP 1 rfl rfl 0 (by decide) (hts (.fieldLink RX9 83 "OneNail$Street" "count" "I") (by decide +kernel)) (fun _ h9 => h9) (congrArg (fun z => some (Value.int z)) (hM.1)) dX9_many_36 ?_
    exact wIret hx hb hr hlocks (v := (nI (g 0))) (u, a, th, LP, tf) (⟨by unfold aMany; rw [cif_pos (show x = 0 from hw0)], hI⟩) hK hP hD hS dX9_many_39
  by_cases hw1 : x = nI 1
  · refine lv_topi (fun y_2 ey_2 => ?_)
    obtain rfl : y_2 = (nI 1) := ey_2.trans (hw1)
    refine lv_tableIn (off := 39) (tgt := 40) hx hb dX9_many_1 (by decide) (by decide) (by decide) (by decide) ?_
    refine lv_aload_n hx hb dX9_many_40 rfl (lv_at hl 0 rfl) ?_
    refine va_get (D := D) (ci := 9) (v := .ref (r 1)) (C := RX9) (T := TX9) (N := 8) hx hb hts hinX9 hown hK hP 0 rfl rfl 0 (by decide) (hts (.fieldLink RX9 12 "OneNail" "town" "LOneNail$Street;") (by decide +kernel)) (fun _ h9 => h9) rfl dX9_many_41 ?_
    refine va_get (D := D) (ci := 5) (v := .int (nI (g 1))) (C := RX5) (T := TX5) (N := 8) hx hb hts hinX5 hown hK hP 1 rfl rfl 1 (by decide) (hts (.fieldLink RX9 115 "OneNail$Street" "smithyPlace" "I") (by decide +kernel)) (fun _ h9 => h9) (congrArg (fun z => some (Value.int z)) (hsm)) dX9_many_44 ?_
    exact wIret hx hb hr hlocks (v := (nI (g 1))) (u, a, th, LP, tf) (⟨by unfold aMany; rw [cif_neg (show ¬ x = 0 from hw0), cif_pos hw1], hI⟩) hK hP hD hS dX9_many_47
  by_cases hw2 : x = nI 2
  · refine lv_topi (fun y_3 ey_3 => ?_)
    obtain rfl : y_3 = (nI 2) := ey_3.trans (hw2)
    refine lv_tableIn (off := 47) (tgt := 48) hx hb dX9_many_1 (by decide) (by decide) (by decide) (by decide) ?_
    refine lv_aload_n hx hb dX9_many_48 rfl (lv_at hl 0 rfl) ?_
    refine va_get (D := D) (ci := 9) (v := .ref (r 1)) (C := RX9) (T := TX9) (N := 8) hx hb hts hinX9 hown hK hP 0 rfl rfl 0 (by decide) (hts (.fieldLink RX9 12 "OneNail" "town" "LOneNail$Street;") (by decide +kernel)) (fun _ h9 => h9) rfl dX9_many_49 ?_
    refine va_get (D := D) (ci := 5) (v := .int (nI (g 2))) (C := RX5) (T := TX5) (N := 8) hx hb hts hinX5 hown hK hP 1 rfl rfl 2 (by decide) (hts (.fieldLink RX9 108 "OneNail$Street" "rusted" "I") (by decide +kernel)) (fun _ h9 => h9) (congrArg (fun z => some (Value.int z)) (hrs)) dX9_many_52 ?_
    exact wIret hx hb hr hlocks (v := (nI (g 2))) (u, a, th, LP, tf) (⟨by unfold aMany; rw [cif_neg (show ¬ x = 0 from hw0), cif_neg hw1, cif_pos hw2], hI⟩) hK hP hD hS dX9_many_55
  by_cases hw3 : x = nI 3
  · refine lv_topi (fun y_4 ey_4 => ?_)
    obtain rfl : y_4 = (nI 3) := ey_4.trans (hw3)
    refine lv_tableIn (off := 55) (tgt := 56) hx hb dX9_many_1 (by decide) (by decide) (by decide) (by decide) ?_
    refine lv_aload_n hx hb dX9_many_56 rfl (lv_at hl 0 rfl) ?_
    refine va_get (D := D) (ci := 9) (v := .ref (r 2)) (C := RX9) (T := TX9) (N := 8) hx hb hts hinX9 hown hK hP 0 rfl rfl 1 (by decide) (hts (.fieldLink RX9 21 "OneNail" "seen" "LOneNail$Readings;") (by decide +kernel)) (fun _ h9 => h9) rfl dX9_many_57 ?_
    refine va_get (D := D) (ci := 3) (v := .int (nI (g 3))) (C := RX3) (T := TX3) (N := 4) hx hb hts hinX3 hown hK hP 2 rfl rfl 0 (by decide) (hts (.fieldLink RX9 183 "OneNail$Readings" "count" "I") (by decide +kernel)) (fun _ h9 => h9) (congrArg (fun z => some (Value.int z)) (hRd.1)) dX9_many_60 ?_
    exact wIret hx hb hr hlocks (v := (nI (g 3))) (u, a, th, LP, tf) (⟨by unfold aMany; rw [cif_neg (show ¬ x = 0 from hw0), cif_neg hw1, cif_neg hw2, cif_pos hw3], hI⟩) hK hP hD hS dX9_many_63
  refine lv_tableOut (tgt := 64) hx hb dX9_many_1 (sw_out4 hw0 hw1 hw2 hw3) (by decide) ?_
  refine lv_bipush (v := (-2)) hx hb dX9_many_64 (by decide) ?_
  exact wIret hx hb hr hlocks (v := (-2)) (u, a, th, LP, tf) (⟨by unfold aMany; rw [cif_neg (show ¬ x = 0 from hw0), cif_neg hw1, cif_neg hw2, cif_neg hw3], hI⟩) hK hP hD hS dX9_many_66

set_option maxHeartbeats 4000000 in
set_option maxRecDepth 100000 in
theorem kX9_smithy (l : Launch) (D : va_G) (cA : Nat → ClassId) (r : Nat → Nat) (sz : Nat) (u : Nat → Int32) (a : Nat → Nat → Int32) (th : Nat → Option Nat) (LP : List Nat) (tf : Nat → va_E) (tO : Nat) (g : Nat → Nat) (T : Nat → Nat → Nat) (R : Nat → Nat → Nat) (so : Nat → Int32) (ln : Nat → Nat) (ce : Nat → Nat → Int32) (f tr : Int32) (x : Int32) (hI : CI u a th LP tf g T R so ln ce f tr) : Met l yX9_smithy wsX9_smithy ({ frames := 0, cells := 0, slots := 0, locals := 0 } : Room) (va_Pc [.ref (r 0), .int x] (wA D vwCl (tyA cA) (eO tO) (xN cA r) (u, a, th, LP, tf) sz)) (va_Qi (fun (v : Int32) (z : sN) => v = aSmithy g x ∧ CI z.1 z.2.1 z.2.2.1 z.2.2.2.1 z.2.2.2.2 (gSmithy g x) T R so ln ce f tr) (wB D vwCl (tyA cA) (xN cA r) (va_A (xN cA r (u, a, th, LP, tf)) sz)) (va_A (xN cA r (u, a, th, LP, tf)) sz)) 0 0 (va_A (xN cA r (u, a, th, LP, tf)) sz) := by
  refine Met.ofW (cc := cX9_smithy) (maxL := 3) (ret := (some .int)) (by decide) rfl ?_
  intro p e s m args below meth c s₁ B hml hv
  obtain ⟨rfl, hsz, hP, hK, hD0, hE⟩ := hv
  have hx := B.exec
  have hb := B.bytes
  have hr := B.returns
  have hts := atoms_spec (ws := wsX9_smithy) B.pre
  have hown : s.vm.findClass RX9 = some m.cls := findClass_of_methodNamed B.named
  have hlocks := B.notSynchronized
  subst hsz
  have hD := hD0.self (sz := s.heap.size)
  generalize hAe : va_A (xN cA r (u, a, th, LP, tf)) s.heap.size = A at hD hE ⊢
  have hA : ∀ q : Nat, s.heap.size ≤ q → A q := fun q h => by rw [← hAe]; exact Or.inr h
  have hS : va_S A s.heap s.heap [] := va_S.rf
  have hinX5 : ∀ w ∈ u_ws RX5 TX5 8, w ∈ wsX9_smithy := by decide +kernel
  have hinX9 : ∀ w ∈ u_ws RX9 TX9 8, w ∈ wsX9_smithy := by decide +kernel
  have hl := lv_entry ([.ref (r 0), .int x]) (n := 3) (Nat.le_of_ble_eq_true rfl)
  rw [lg_entry_eq]
  generalize (lg_sl ([.ref (r 0), .int x]) ++ List.replicate (3 - (lg_sl ([.ref (r 0), .int x])).length) Slot.unset).toArray = ls at hl ⊢
  have hl : lv_has ls 3 [(0, .ref (r 0)), (1, .int x)] := hl
  have hM := hI.1
  have hB := hI.2.1
  have hg6 := hB.1
  have hsm := hI.2.2.1
  have hrs := hI.2.2.2.1
  have hRd := hI.2.2.2.2.1
  have hSh := hI.2.2.2.2.2.1
  have hf0 := hI.2.2.2.2.2.2.1
  have htr := hI.2.2.2.2.2.2.2.1
  have hPo := hI.2.2.2.2.2.2.2.2
  refine lv_iload_n hx hb dX9_smithy_0 rfl (lv_at hl 1 rfl) ?_
  refine lv_if_lt (tgt := 10) hx hb dX9_smithy_1 (by decide) (fun c_1 => ?_) (fun c_1 => ?_)
  · refine lv_bipush (v := (-2)) hx hb dX9_smithy_10 (by decide) ?_
    exact wIret hx hb hr hlocks (v := (-2)) (u, a, th, LP, tf) (⟨by unfold aSmithy; rw [cif_neg (ir_lo (lo := 0) c_1)], by unfold gSmithy; rw [cif_neg (ir_lo (lo := 0) c_1)]; exact hI⟩) hK hP hD hS dX9_smithy_12
  · refine lv_iload_n hx hb dX9_smithy_4 rfl (lv_at hl 1 rfl) ?_
    refine lv_bipush (v := (nI 9)) hx hb dX9_smithy_5 rfl ?_
    refine lv_icmp_le (tgt := 13) hx hb dX9_smithy_7 (by decide) (fun c_2 => ?_) (fun c_2 => ?_)
    · have hin : inR x 0 9 := ⟨Int32.not_lt.mp c_1, c_2⟩
      obtain ⟨j, hj1, hj2, hj3, hj4⟩ := inR_of hin (by decide) (by decide)
      refine lv_aload_n hx hb dX9_smithy_13 rfl (lv_at hl 0 rfl) ?_
      refine va_get (D := D) (ci := 9) (v := .ref (r 1)) (C := RX9) (T := TX9) (N := 8) hx hb hts hinX9 hown hK hP 0 rfl rfl 0 (by decide) (hts (.fieldLink RX9 12 "OneNail" "town" "LOneNail$Street;") (by decide +kernel)) (fun _ h9 => h9) rfl dX9_smithy_14 ?_
      refine va_get (D := D) (ci := 5) (v := .int (nI (g 0))) (C := RX5) (T := TX5) (N := 8) hx hb hts hinX5 hown hK hP 1 rfl rfl 0 (by decide) (hts (.fieldLink RX9 83 "OneNail$Street" "count" "I") (by decide +kernel)) (fun _ h9 => h9) (congrArg (fun z => some (Value.int z)) (hM.1)) dX9_smithy_17 ?_
      refine rz_ne (x := g 0) (tgt := 26) hx hb (by omega) dX9_smithy_20 (by decide) (fun c_3 => ?_) (fun c_3 => ?_)
      · refine lv_aload_n hx hb dX9_smithy_26 rfl (lv_at hl 0 rfl) ?_
        refine va_get (D := D) (ci := 9) (v := .ref (r 1)) (C := RX9) (T := TX9) (N := 8) hx hb hts hinX9 hown hK hP 0 rfl rfl 0 (by decide) (hts (.fieldLink RX9 12 "OneNail" "town" "LOneNail$Street;") (by decide +kernel)) (fun _ h9 => h9) rfl dX9_smithy_27 ?_
        refine va_get (D := D) (ci := 5) (v := .int (nI (g 1))) (C := RX5) (T := TX5) (N := 8) hx hb hts hinX5 hown hK hP 1 rfl rfl 1 (by decide) (hts (.fieldLink RX9 115 "OneNail$Street" "smithyPlace" "I") (by decide +kernel)) (fun _ h9 => h9) (congrArg (fun z => some (Value.int z)) (hsm)) dX9_smithy_30 ?_
        refine lv_istore_n (lv' := [(2, .int (nI (g 1))), (0, .ref (r 0)), (1, .int x)]) hx hb dX9_smithy_33 rfl hl (by decide) rfl (fun ls hl => ?_)
        refine lv_aload_n hx hb dX9_smithy_34 rfl (lv_at hl 1 rfl) ?_
        refine va_get (D := D) (ci := 9) (v := .ref (r 1)) (C := RX9) (T := TX9) (N := 8) hx hb hts hinX9 hown hK hP 0 rfl rfl 0 (by decide) (hts (.fieldLink RX9 12 "OneNail" "town" "LOneNail$Street;") (by decide +kernel)) (fun _ h9 => h9) rfl dX9_smithy_35 ?_
        refine lv_iload_n hx hb dX9_smithy_38 rfl (lv_at hl 2 rfl) ?_
        refine va_put (D := D) (ci := 5) (v := .int x) (ty := .int) (C := RX5) (T := TX5) (N := 8) hx hb hts hinX5 tyX5 tyX5_ok nmX5 hown hK hP hD hS 1 rfl rfl 1 (by decide) (hts (.fieldLink RX9 115 "OneNail$Street" "smithyPlace" "I") (by decide +kernel)) (fun _ h9 => h9) rfl (by decide +kernel) rfl rfl (Nat.le_of_ble_eq_true rfl) dX9_smithy_39 (fun H locs hP hD hS => ?_)
        have hP : va_P D vwCl (xN cA r ((upd u 2 x), a, th, LP, tf)) H := hP
        have hD : va_D A (xN cA r ((upd u 2 x), a, th, LP, tf)) := hD
        refine lv_iload_n hx hb dX9_smithy_42 rfl (lv_at hl 0 rfl) ?_
        exact wIret hx hb hr hlocks (v := (nI (g 1))) ((upd u 2 x), a, th, LP, tf) (⟨by unfold aSmithy; rw [cif_pos hin, cif_neg (by omega)], by unfold gSmithy; rw [cif_pos hin, cif_neg (by omega), hj4]; exact ⟨hM, TB_gu1 hB (by omega), hj1, hrs, hRd, ShN.keep hSh (fun i hi => up_ne (by omega)) (fun i hi => rfl), hf0, htr, hPo⟩⟩) hK hP hD hS dX9_smithy_43
      · refine lv_bipush (v := (-3)) hx hb dX9_smithy_23 (by decide) ?_
        exact wIret hx hb hr hlocks (v := (-3)) (u, a, th, LP, tf) (⟨by unfold aSmithy; rw [cif_pos hin, cif_pos (by omega)], by unfold gSmithy; rw [cif_pos hin, cif_pos (by omega)]; exact hI⟩) hK hP hD hS dX9_smithy_25
    · refine lv_bipush (v := (-2)) hx hb dX9_smithy_10 (by decide) ?_
      exact wIret hx hb hr hlocks (v := (-2)) (u, a, th, LP, tf) (⟨by unfold aSmithy; rw [cif_neg (fun q => c_2 q.2)], by unfold gSmithy; rw [cif_neg (fun q => c_2 q.2)]; exact hI⟩) hK hP hD hS dX9_smithy_12

set_option maxHeartbeats 4000000 in
set_option maxRecDepth 100000 in
theorem kX9_back (l : Launch) (D : va_G) (cA : Nat → ClassId) (r : Nat → Nat) (sz : Nat) (u : Nat → Int32) (a : Nat → Nat → Int32) (th : Nat → Option Nat) (LP : List Nat) (tf : Nat → va_E) (tO : Nat) (g : Nat → Nat) (T : Nat → Nat → Nat) (R : Nat → Nat → Nat) (so : Nat → Int32) (ln : Nat → Nat) (ce : Nat → Nat → Int32) (f tr : Int32) (x : Int32) (hI : CI u a th LP tf g T R so ln ce f tr) : Met l yX9_back wsX9_back ({ frames := 0, cells := 0, slots := 0, locals := 0 } : Room) (va_Pc [.ref (r 0), .int x] (wA D vwCl (tyA cA) (eO tO) (xN cA r) (u, a, th, LP, tf) sz)) (va_Qi (fun (v : Int32) (z : sN) => v = aBack g x ∧ CI z.1 z.2.1 z.2.2.1 z.2.2.2.1 z.2.2.2.2 (gBack g x) T R so ln ce f tr) (wB D vwCl (tyA cA) (xN cA r) (va_A (xN cA r (u, a, th, LP, tf)) sz)) (va_A (xN cA r (u, a, th, LP, tf)) sz)) 0 0 (va_A (xN cA r (u, a, th, LP, tf)) sz) := by
  refine Met.ofW (cc := cX9_back) (maxL := 2) (ret := (some .int)) (by decide) rfl ?_
  intro p e s m args below meth c s₁ B hml hv
  obtain ⟨rfl, hsz, hP, hK, hD0, hE⟩ := hv
  have hx := B.exec
  have hb := B.bytes
  have hr := B.returns
  have hts := atoms_spec (ws := wsX9_back) B.pre
  have hown : s.vm.findClass RX9 = some m.cls := findClass_of_methodNamed B.named
  have hlocks := B.notSynchronized
  subst hsz
  have hD := hD0.self (sz := s.heap.size)
  generalize hAe : va_A (xN cA r (u, a, th, LP, tf)) s.heap.size = A at hD hE ⊢
  have hA : ∀ q : Nat, s.heap.size ≤ q → A q := fun q h => by rw [← hAe]; exact Or.inr h
  have hS : va_S A s.heap s.heap [] := va_S.rf
  have hinX3 : ∀ w ∈ u_ws RX3 TX3 4, w ∈ wsX9_back := by decide +kernel
  have hinX9 : ∀ w ∈ u_ws RX9 TX9 8, w ∈ wsX9_back := by decide +kernel
  have hl := lv_entry ([.ref (r 0), .int x]) (n := 2) (Nat.le_of_ble_eq_true rfl)
  rw [lg_entry_eq]
  generalize (lg_sl ([.ref (r 0), .int x]) ++ List.replicate (2 - (lg_sl ([.ref (r 0), .int x])).length) Slot.unset).toArray = ls at hl ⊢
  have hl : lv_has ls 2 [(0, .ref (r 0)), (1, .int x)] := hl
  have hM := hI.1
  have hB := hI.2.1
  have hg6 := hB.1
  have hsm := hI.2.2.1
  have hrs := hI.2.2.2.1
  have hRd := hI.2.2.2.2.1
  have hSh := hI.2.2.2.2.2.1
  have hf0 := hI.2.2.2.2.2.2.1
  have htr := hI.2.2.2.2.2.2.2.1
  have hPo := hI.2.2.2.2.2.2.2.2
  have hr8 := hRd.2.1
  refine lv_iload_n hx hb dX9_back_0 rfl (lv_at hl 1 rfl) ?_
  refine lv_if_lt (tgt := 15) hx hb dX9_back_1 (by decide) (fun c_1 => ?_) (fun c_1 => ?_)
  · refine lv_bipush (v := (-2)) hx hb dX9_back_15 (by decide) ?_
    exact wIret hx hb hr hlocks (v := (-2)) (u, a, th, LP, tf) (⟨by unfold aBack; rw [cif_neg (ir_lo (lo := 0) c_1)], by unfold gBack; rw [cif_neg (ir_lo (lo := 0) c_1)]; exact hI⟩) hK hP hD hS dX9_back_17
  · refine lv_iload_n hx hb dX9_back_4 rfl (lv_at hl 1 rfl) ?_
    refine lv_aload_n hx hb dX9_back_5 rfl (lv_at hl 0 rfl) ?_
    refine va_get (D := D) (ci := 9) (v := .ref (r 2)) (C := RX9) (T := TX9) (N := 8) hx hb hts hinX9 hown hK hP 0 rfl rfl 1 (by decide) (hts (.fieldLink RX9 21 "OneNail" "seen" "LOneNail$Readings;") (by decide +kernel)) (fun _ h9 => h9) rfl dX9_back_6 ?_
    refine va_get (D := D) (ci := 3) (v := .int (nI (g 3))) (C := RX3) (T := TX3) (N := 4) hx hb hts hinX3 hown hK hP 2 rfl rfl 0 (by decide) (hts (.fieldLink RX9 183 "OneNail$Readings" "count" "I") (by decide +kernel)) (fun _ h9 => h9) (congrArg (fun z => some (Value.int z)) (hRd.1)) dX9_back_9 ?_
    refine lv_icmp_le (tgt := 18) hx hb dX9_back_12 (by decide) (fun c_2 => ?_) (fun c_2 => ?_)
    · have hin : inR x 0 (g 3) := ⟨Int32.not_lt.mp c_1, c_2⟩
      obtain ⟨j, hj1, hj2, hj3, hj4⟩ := inR_of hin (by decide) (by omega)
      have hl : lv_has ls 2 [(0, .ref (r 0)), (1, .int (nI j))] := lv_re hl 1 ⟨rfl, rfl⟩ (hj1)
      refine lv_aload_n hx hb dX9_back_18 rfl (lv_at hl 0 rfl) ?_
      refine va_get (D := D) (ci := 9) (v := .ref (r 2)) (C := RX9) (T := TX9) (N := 8) hx hb hts hinX9 hown hK hP 0 rfl rfl 1 (by decide) (hts (.fieldLink RX9 21 "OneNail" "seen" "LOneNail$Readings;") (by decide +kernel)) (fun _ h9 => h9) rfl dX9_back_19 ?_
      refine lv_dup hx hb dX9_back_22 rfl ?_
      refine va_get (D := D) (ci := 3) (v := .int (nI (g 3))) (C := RX3) (T := TX3) (N := 4) hx hb hts hinX3 hown hK hP 2 rfl rfl 0 (by decide) (hts (.fieldLink RX9 183 "OneNail$Readings" "count" "I") (by decide +kernel)) (fun _ h9 => h9) (congrArg (fun z => some (Value.int z)) (hRd.1)) dX9_back_23 ?_
      refine lv_iload_n hx hb dX9_back_26 rfl (lv_at hl 1 rfl) ?_
      refine rn_isub (x := g 3) (y := j) hx hb (by omega) dX9_back_27 ?_
      refine va_put (D := D) (ci := 3) (v := .int (nI ((g 3) - j))) (ty := .int) (C := RX3) (T := TX3) (N := 4) hx hb hts hinX3 tyX3 tyX3_ok nmX3 hown hK hP hD hS 2 rfl rfl 0 (by decide) (hts (.fieldLink RX9 183 "OneNail$Readings" "count" "I") (by decide +kernel)) (fun _ h9 => h9) rfl (by decide +kernel) rfl rfl (Nat.le_of_ble_eq_true rfl) dX9_back_28 (fun H locs hP hD hS => ?_)
      have hP : va_P D vwCl (xN cA r ((upd u 4 (nI ((g 3) - j))), a, th, LP, tf)) H := hP
      have hD : va_D A (xN cA r ((upd u 4 (nI ((g 3) - j))), a, th, LP, tf)) := hD
      refine lv_aload_n hx hb dX9_back_31 rfl (lv_at hl 0 rfl) ?_
      refine va_get (D := D) (ci := 9) (v := .ref (r 2)) (C := RX9) (T := TX9) (N := 8) hx hb hts hinX9 hown hK hP 0 rfl rfl 1 (by decide) (hts (.fieldLink RX9 21 "OneNail" "seen" "LOneNail$Readings;") (by decide +kernel)) (fun _ h9 => h9) rfl dX9_back_32 ?_
      refine va_get (D := D) (ci := 3) (v := .int (nI ((g 3) - j))) (C := RX3) (T := TX3) (N := 4) hx hb hts hinX3 hown hK hP 2 rfl rfl 0 (by decide) (hts (.fieldLink RX9 183 "OneNail$Readings" "count" "I") (by decide +kernel)) (fun _ h9 => h9) rfl dX9_back_35 ?_
      exact wIret hx hb hr hlocks (v := (nI ((g 3) - j))) ((upd u 4 (nI ((g 3) - j))), a, th, LP, tf) (⟨by unfold aBack; rw [cif_pos hin, hj4], by unfold gBack; rw [cif_pos hin, hj4]; exact ⟨hM, TB_gu3 hB, hsm, hrs, ⟨rfl, show g 3 - j ≤ 8 by omega, fun q hq => hRd.2.2.1 q (Nat.lt_of_lt_of_le hq (Nat.sub_le _ _)), fun q hq => hRd.2.2.2.1 q (Nat.lt_of_lt_of_le hq (Nat.sub_le _ _)), fun q hq => hRd.2.2.2.2 q (Nat.lt_of_lt_of_le hq (Nat.sub_le _ _))⟩, ShN.keep hSh (fun i hi => up_ne (by omega)) (fun i hi => rfl), hf0, htr, hPo⟩⟩) hK hP hD hS dX9_back_38
    · refine lv_bipush (v := (-2)) hx hb dX9_back_15 (by decide) ?_
      exact wIret hx hb hr hlocks (v := (-2)) (u, a, th, LP, tf) (⟨by unfold aBack; rw [cif_neg (fun q => c_2 q.2)], by unfold gBack; rw [cif_neg (fun q => c_2 q.2)]; exact hI⟩) hK hP hD hS dX9_back_17

set_option maxHeartbeats 4000000 in
set_option maxRecDepth 100000 in
theorem kX3_note (l : Launch) (D : va_G) (cA : Nat → ClassId) (r : Nat → Nat) (sz : Nat) (u : Nat → Int32) (a : Nat → Nat → Int32) (th : Nat → Option Nat) (LP : List Nat) (tf : Nat → va_E) (tO : Nat) (n3 : Nat) (x w b : Int32) (h4 : u 4 = nI n3) (h48 : n3 ≤ 8) (hb01 : b = 0 ∨ b = 1) : Met l yX3_note wsX3_note ({ frames := 0, cells := 0, slots := 0, locals := 0 } : Room) (va_Pc [.ref (r 2), .int x, .int w, .int b] (wA D vwCl (tyA cA) (eO tO) (xN cA r) (u, a, th, LP, tf) sz)) (va_Qi (fun (v : Int32) (z : sN) => (n3 = 8 ∧ v = -4 ∧ z = (u, a, th, LP, tf)) ∨ (n3 < 8 ∧ v = nI n3 ∧ z.1 4 = nI (n3 + 1) ∧ z.2.1 17 = upd (a 17) n3 x ∧ z.2.1 18 = upd (a 18) n3 w ∧ z.2.1 19 = upd (a 19) n3 b ∧ (∀ i, i ≠ 4 → z.1 i = u i) ∧ (∀ i, i ≠ 17 → i ≠ 18 → i ≠ 19 → z.2.1 i = a i) ∧ z.2.2 = (th, LP, tf))) (wB D vwCl (tyA cA) (xN cA r) (va_A (xN cA r (u, a, th, LP, tf)) sz)) (va_A (xN cA r (u, a, th, LP, tf)) sz)) 0 0 (va_A (xN cA r (u, a, th, LP, tf)) sz) := by
  refine Met.ofW (cc := cX3_note) (maxL := 4) (ret := (some .int)) (by decide) rfl ?_
  intro p e s m args below meth c s₁ B hml hv
  obtain ⟨rfl, hsz, hP, hK, hD0, hE⟩ := hv
  have hx := B.exec
  have hb := B.bytes
  have hr := B.returns
  have hts := atoms_spec (ws := wsX3_note) B.pre
  have hown : s.vm.findClass RX3 = some m.cls := findClass_of_methodNamed B.named
  have hlocks := B.notSynchronized
  subst hsz
  have hD := hD0.self (sz := s.heap.size)
  generalize hAe : va_A (xN cA r (u, a, th, LP, tf)) s.heap.size = A at hD hE ⊢
  have hA : ∀ q : Nat, s.heap.size ≤ q → A q := fun q h => by rw [← hAe]; exact Or.inr h
  have hS : va_S A s.heap s.heap [] := va_S.rf
  have hinX3 : ∀ w ∈ u_ws RX3 TX3 4, w ∈ wsX3_note := by decide +kernel
  have hl := lv_entry ([.ref (r 2), .int x, .int w, .int b]) (n := 4) (Nat.le_of_ble_eq_true rfl)
  rw [lg_entry_eq]
  generalize (lg_sl ([.ref (r 2), .int x, .int w, .int b]) ++ List.replicate (4 - (lg_sl ([.ref (r 2), .int x, .int w, .int b])).length) Slot.unset).toArray = ls at hl ⊢
  have hl : lv_has ls 4 [(0, .ref (r 2)), (1, .int x), (2, .int w), (3, .int b)] := hl
  refine lv_aload_n hx hb dX3_note_0 rfl (lv_at hl 0 rfl) ?_
  refine va_get (D := D) (ci := 3) (v := .int (nI n3)) (C := RX3) (T := TX3) (N := 4) hx hb hts hinX3 hown hK hP 2 rfl rfl 0 (by decide) (hts (.fieldLink RX3 9 "OneNail$Readings" "count" "I") (by decide +kernel)) (fun _ h9 => h9) (congrArg (fun z => some (Value.int z)) (h4)) dX3_note_1 ?_
  refine lv_bipush (v := (nI 8)) hx hb dX3_note_4 rfl ?_
  refine rn_lt (x := n3) (y := 8) (tgt := 12) hx hb (by omega) (by omega) dX3_note_6 (by decide) (fun c_1 => ?_) (fun c_1 => ?_)
  · refine lv_aload_n hx hb dX3_note_12 rfl (lv_at hl 0 rfl) ?_
    refine va_get (D := D) (ci := 3) (v := .ref (r 17)) (C := RX3) (T := TX3) (N := 4) hx hb hts hinX3 hown hK hP 2 rfl rfl 1 (by decide) (hts (.fieldLink RX3 15 "OneNail$Readings" "things" "[I") (by decide +kernel)) (fun _ h9 => h9) rfl dX3_note_13 ?_
    refine lv_aload_n hx hb dX3_note_16 rfl (lv_at hl 0 rfl) ?_
    refine va_get (D := D) (ci := 3) (v := .int (nI n3)) (C := RX3) (T := TX3) (N := 4) hx hb hts hinX3 hown hK hP 2 rfl rfl 0 (by decide) (hts (.fieldLink RX3 9 "OneNail$Readings" "count" "I") (by decide +kernel)) (fun _ h9 => h9) (congrArg (fun z => some (Value.int z)) (h4)) dX3_note_17 ?_
    refine lv_iload_n hx hb dX3_note_20 rfl (lv_at hl 1 rfl) ?_
    refine ra_iast hx hb hK hP hD hS 17 0 (n := 8) (f := (a 17)) (j := n3) (x := x) rfl rfl (by omega) (by decide) dX3_note_21 (fun H locs hP hD hS => ?_)
    have hP : va_P D vwCl (xN cA r (u, (va_up a 17 (upd (a 17) n3 x)), th, LP, tf)) H := hP
    have hD : va_D A (xN cA r (u, (va_up a 17 (upd (a 17) n3 x)), th, LP, tf)) := hD
    obtain ⟨za2, hza2⟩ : ∃ z, z = (va_up a 17 (upd (a 17) n3 x)) := ⟨_, rfl⟩
    rw [← hza2] at hP hD
    have hfa_za2 : ∀ i, i ≠ 17 → za2 i = a i := fun i h17 => by rw [hza2]; exact vup_ne h17
    have hv17_za2 : za2 17 = (upd (a 17) n3 x) := by rw [hza2]; rfl
    have hP : va_P D vwCl (xN cA r (u, za2, th, LP, tf)) H := hP
    have hD : va_D A (xN cA r (u, za2, th, LP, tf)) := hD
    refine lv_aload_n hx hb dX3_note_22 rfl (lv_at hl 0 rfl) ?_
    refine va_get (D := D) (ci := 3) (v := .ref (r 18)) (C := RX3) (T := TX3) (N := 4) hx hb hts hinX3 hown hK hP 2 rfl rfl 2 (by decide) (hts (.fieldLink RX3 19 "OneNail$Readings" "minutes" "[I") (by decide +kernel)) (fun _ h9 => h9) rfl dX3_note_23 ?_
    refine lv_aload_n hx hb dX3_note_26 rfl (lv_at hl 0 rfl) ?_
    refine va_get (D := D) (ci := 3) (v := .int (nI n3)) (C := RX3) (T := TX3) (N := 4) hx hb hts hinX3 hown hK hP 2 rfl rfl 0 (by decide) (hts (.fieldLink RX3 9 "OneNail$Readings" "count" "I") (by decide +kernel)) (fun _ h9 => h9) (congrArg (fun z => some (Value.int z)) (h4)) dX3_note_27 ?_
    refine lv_iload_n hx hb dX3_note_30 rfl (lv_at hl 2 rfl) ?_
    refine ra_iast hx hb hK hP hD hS 18 0 (n := 8) (f := (za2 18)) (j := n3) (x := w) rfl rfl (by omega) (by decide) dX3_note_31 (fun H locs hP hD hS => ?_)
    have hP : va_P D vwCl (xN cA r (u, (va_up za2 18 (upd (za2 18) n3 w)), th, LP, tf)) H := hP
    have hD : va_D A (xN cA r (u, (va_up za2 18 (upd (za2 18) n3 w)), th, LP, tf)) := hD
    obtain ⟨za3, hza3⟩ : ∃ z, z = (va_up za2 18 (upd (za2 18) n3 w)) := ⟨_, rfl⟩
    rw [← hza3] at hP hD
    have hfa_za3 : ∀ i, i ≠ 18 → za3 i = za2 i := fun i h18 => by rw [hza3]; exact vup_ne h18
    have hv18_za3 : za3 18 = (upd (za2 18) n3 w) := by rw [hza3]; rfl
    have hP : va_P D vwCl (xN cA r (u, za3, th, LP, tf)) H := hP
    have hD : va_D A (xN cA r (u, za3, th, LP, tf)) := hD
    refine lv_aload_n hx hb dX3_note_32 rfl (lv_at hl 0 rfl) ?_
    refine va_get (D := D) (ci := 3) (v := .ref (r 19)) (C := RX3) (T := TX3) (N := 4) hx hb hts hinX3 hown hK hP 2 rfl rfl 3 (by decide) (hts (.fieldLink RX3 22 "OneNail$Readings" "ups" "[Z") (by decide +kernel)) (fun _ h9 => h9) rfl dX3_note_33 ?_
    refine lv_aload_n hx hb dX3_note_36 rfl (lv_at hl 0 rfl) ?_
    refine va_get (D := D) (ci := 3) (v := .int (nI n3)) (C := RX3) (T := TX3) (N := 4) hx hb hts hinX3 hown hK hP 2 rfl rfl 0 (by decide) (hts (.fieldLink RX3 9 "OneNail$Readings" "count" "I") (by decide +kernel)) (fun _ h9 => h9) (congrArg (fun z => some (Value.int z)) (h4)) dX3_note_37 ?_
    refine lv_iload_n hx hb dX3_note_40 rfl (lv_at hl 3 rfl) ?_
    refine ra_zast hx hb hK hP hD hS 19 1 (n := 8) (f := (za3 19)) (j := n3) (x := b) rfl rfl (by first | exact Or.inl rfl | exact Or.inr rfl | assumption) (by omega) (by decide) dX3_note_41 (fun H locs hP hD hS => ?_)
    have hP : va_P D vwCl (xN cA r (u, (va_up za3 19 (upd (za3 19) n3 b)), th, LP, tf)) H := hP
    have hD : va_D A (xN cA r (u, (va_up za3 19 (upd (za3 19) n3 b)), th, LP, tf)) := hD
    refine lv_aload_n hx hb dX3_note_42 rfl (lv_at hl 0 rfl) ?_
    refine lv_dup hx hb dX3_note_43 rfl ?_
    refine va_get (D := D) (ci := 3) (v := .int (nI n3)) (C := RX3) (T := TX3) (N := 4) hx hb hts hinX3 hown hK hP 2 rfl rfl 0 (by decide) (hts (.fieldLink RX3 9 "OneNail$Readings" "count" "I") (by decide +kernel)) (fun _ h9 => h9) (congrArg (fun z => some (Value.int z)) (h4)) dX3_note_44 ?_
    refine lv_iconst (v := (nI 1)) hx hb dX3_note_47 rfl ?_
    refine rn_iadd (x := n3) (y := 1) hx hb dX3_note_48 ?_
    refine va_put (D := D) (ci := 3) (v := .int (nI (n3 + 1))) (ty := .int) (C := RX3) (T := TX3) (N := 4) hx hb hts hinX3 tyX3 tyX3_ok nmX3 hown hK hP hD hS 2 rfl rfl 0 (by decide) (hts (.fieldLink RX3 9 "OneNail$Readings" "count" "I") (by decide +kernel)) (fun _ h9 => h9) rfl (by decide +kernel) rfl rfl (Nat.le_of_ble_eq_true rfl) dX3_note_49 (fun H locs hP hD hS => ?_)
    have hP : va_P D vwCl (xN cA r ((upd u 4 (nI (n3 + 1))), (va_up za3 19 (upd (za3 19) n3 b)), th, LP, tf)) H := hP
    have hD : va_D A (xN cA r ((upd u 4 (nI (n3 + 1))), (va_up za3 19 (upd (za3 19) n3 b)), th, LP, tf)) := hD
    refine lv_aload_n hx hb dX3_note_52 rfl (lv_at hl 0 rfl) ?_
    refine va_get (D := D) (ci := 3) (v := .int (nI (n3 + 1))) (C := RX3) (T := TX3) (N := 4) hx hb hts hinX3 hown hK hP 2 rfl rfl 0 (by decide) (hts (.fieldLink RX3 9 "OneNail$Readings" "count" "I") (by decide +kernel)) (fun _ h9 => h9) rfl dX3_note_53 ?_
    refine lv_iconst (v := (nI 1)) hx hb dX3_note_56 rfl ?_
    refine rn_isub (x := n3 + 1) (y := 1) hx hb (by omega) dX3_note_57 ?_
    exact wIret hx hb hr hlocks (v := (nI ((n3 + 1) - 1))) ((upd u 4 (nI (n3 + 1))), (va_up za3 19 (upd (za3 19) n3 b)), th, LP, tf) (Or.inr ⟨by omega, congrArg nI (by omega), rfl, (Eq.trans (hfa_za3 17 (by decide)) hv17_za2), (Eq.trans hv18_za3 (congrArg (fun z => upd z n3 w) (hfa_za2 18 (by decide)))), (congrArg (fun z => upd z n3 b) ((Eq.trans (hfa_za3 19 (by decide)) (hfa_za2 19 (by decide))))), (fun i h4 => up_ne h4), (fun i h17 h18 h19 => Eq.trans (vup_ne h19) (Eq.trans (hfa_za3 i h18) (hfa_za2 i h17))), rfl⟩) hK hP hD hS dX3_note_58
  · refine lv_bipush (v := (-4)) hx hb dX3_note_9 (by decide) ?_
    exact wIret hx hb hr hlocks (v := (-4)) (u, a, th, LP, tf) (Or.inl ⟨by omega, rfl, rfl⟩) hK hP hD hS dX3_note_11

set_option maxHeartbeats 4000000 in
set_option maxRecDepth 100000 in
theorem kX9_reading (l : Launch) (D : va_G) (cA : Nat → ClassId) (r : Nat → Nat) (sz : Nat) (u : Nat → Int32) (a : Nat → Nat → Int32) (th : Nat → Option Nat) (LP : List Nat) (tf : Nat → va_E) (tO : Nat) (g : Nat → Nat) (T : Nat → Nat → Nat) (R : Nat → Nat → Nat) (so : Nat → Int32) (ln : Nat → Nat) (ce : Nat → Nat → Int32) (f tr : Int32) (x w b : Int32) (hI : CI u a th LP tf g T R so ln ce f tr) (hb01 : b = 0 ∨ b = 1) : Met l yX9_reading wsX9_reading ({ frames := 1, cells := 0, slots := 0, locals := 23 } : Room) (va_Pc [.ref (r 0), .int x, .int w, .int b] (wA D vwCl (tyA cA) (eO tO) (xN cA r) (u, a, th, LP, tf) sz)) (va_Qi (fun (v : Int32) (z : sN) => v = aRead g x w ∧ CI z.1 z.2.1 z.2.2.1 z.2.2.2.1 z.2.2.2.2 (gRead g x w) T (rRead g R x w b) so ln ce f tr) (wB D vwCl (tyA cA) (xN cA r) (va_A (xN cA r (u, a, th, LP, tf)) sz)) (va_A (xN cA r (u, a, th, LP, tf)) sz)) 0 0 (va_A (xN cA r (u, a, th, LP, tf)) sz) := by
  refine Met.ofW (cc := cX9_reading) (maxL := 4) (ret := (some .int)) (by decide) rfl ?_
  intro p e s m args below meth c s₁ B hml hv
  obtain ⟨rfl, hsz, hP, hK, hD0, hE⟩ := hv
  have hx := B.exec
  have hb := B.bytes
  have hr := B.returns
  have hts := atoms_spec (ws := wsX9_reading) B.pre
  have hown : s.vm.findClass RX9 = some m.cls := findClass_of_methodNamed B.named
  have hlocks := B.notSynchronized
  subst hsz
  have hD := hD0.self (sz := s.heap.size)
  generalize hAe : va_A (xN cA r (u, a, th, LP, tf)) s.heap.size = A at hD hE ⊢
  have hA : ∀ q : Nat, s.heap.size ≤ q → A q := fun q h => by rw [← hAe]; exact Or.inr h
  have hS : va_S A s.heap s.heap [] := va_S.rf
  have hinX9 : ∀ w ∈ u_ws RX9 TX9 8, w ∈ wsX9_reading := by decide +kernel
  have hl := lv_entry ([.ref (r 0), .int x, .int w, .int b]) (n := 4) (Nat.le_of_ble_eq_true rfl)
  rw [lg_entry_eq]
  generalize (lg_sl ([.ref (r 0), .int x, .int w, .int b]) ++ List.replicate (4 - (lg_sl ([.ref (r 0), .int x, .int w, .int b])).length) Slot.unset).toArray = ls at hl ⊢
  have hl : lv_has ls 4 [(0, .ref (r 0)), (1, .int x), (2, .int w), (3, .int b)] := hl
  have hM := hI.1
  have hB := hI.2.1
  have hg6 := hB.1
  have hsm := hI.2.2.1
  have hrs := hI.2.2.2.1
  have hRd := hI.2.2.2.2.1
  have hSh := hI.2.2.2.2.2.1
  have hf0 := hI.2.2.2.2.2.2.1
  have htr := hI.2.2.2.2.2.2.2.1
  have hPo := hI.2.2.2.2.2.2.2.2
  have hr8 := hRd.2.1
  have hb1 := b01 hb01
  refine lv_aload_n hx hb dX9_reading_0 rfl (lv_at hl 0 rfl) ?_
  refine va_get (D := D) (ci := 9) (v := .ref (r 1)) (C := RX9) (T := TX9) (N := 8) hx hb hts hinX9 hown hK hP 0 rfl rfl 0 (by decide) (hts (.fieldLink RX9 12 "OneNail" "town" "LOneNail$Street;") (by decide +kernel)) (fun _ h9 => h9) rfl dX9_reading_1 ?_
  refine lv_iload_n hx hb dX9_reading_4 rfl (lv_at hl 1 rfl) ?_
  refine wVi (eO_S tO) (As := [.int x]) (rest := []) ⟨hx, hb, hml, hown, hts⟩ (kX5_has l D cA r _ u a th LP tf tO g T x hM hB) (cwV 1 hts gX9_reading_X5_has rfl rfl rfl (by decide +kernel) ⟨Nat.le_of_ble_eq_true rfl, Nat.le_of_ble_eq_true rfl⟩) (va_recv hK hP (ci := 5) (q0 := 1) rfl rfl) hK hP hD hS hA hE rfl hl.1 rfl (Nat.le_of_ble_eq_true rfl) dX9_reading_5 ⟨Nat.zero_le _, Nat.zero_le _⟩ (fun rv_1 z_3 H locs hw_2 hP hD hS => ?_)
  obtain ⟨hz_4, hw_2⟩ := hw_2
  subst hz_4
  have hP : va_P D vwCl (xN cA r (u, a, th, LP, tf)) H := hP
  have hD : va_D A (xN cA r (u, a, th, LP, tf)) := hD
  rcases hw_2 with ⟨rfl, b_5⟩ | ⟨rfl, b_5⟩
  · have hxt := isT_of b_5 hg6
    refine lv_if_ne (tgt := 13) hx hb dX9_reading_8 (by decide) (fun _ => ?_) (fun c_6 => absurd c_6 (by decide))
    refine lv_iload_n hx hb dX9_reading_13 rfl (lv_at hl 2 rfl) ?_
    refine wSi (As := [.int w]) (rest := []) ⟨hx, hb, hml, hown, hts⟩ (kX9_isMinute l w) (va_cwS 1 hts gX9_reading_X9_isMinute rfl rfl rfl (by decide +kernel) ⟨Nat.le_of_ble_eq_true rfl, Nat.le_of_ble_eq_true rfl⟩) rfl hl.1 rfl (Nat.le_of_ble_eq_true rfl) dX9_reading_14 ⟨Nat.zero_le _, Nat.zero_le _⟩ (fun rv_7 hw_8 => ?_)
    rcases hw_8 with ⟨rfl, b_9⟩ | ⟨rfl, b_9⟩
    · obtain ⟨j, hj1, hj2, hj3, hj4⟩ := inR_of (show inR w 0 299 from b_9) (by decide) (by decide)
      have hj5 : w = nI w.toNatClampNeg := by rw [hj4]; exact hj1
      refine lv_if_ne (tgt := 23) hx hb dX9_reading_17 (by decide) (fun _ => ?_) (fun c_10 => absurd c_10 (by decide))
      refine lv_aload_n hx hb dX9_reading_23 rfl (lv_at hl 0 rfl) ?_
      refine va_get (D := D) (ci := 9) (v := .ref (r 2)) (C := RX9) (T := TX9) (N := 8) hx hb hts hinX9 hown hK hP 0 rfl rfl 1 (by decide) (hts (.fieldLink RX9 21 "OneNail" "seen" "LOneNail$Readings;") (by decide +kernel)) (fun _ h9 => h9) rfl dX9_reading_24 ?_
      refine lv_iload_n hx hb dX9_reading_27 rfl (lv_at hl 1 rfl) ?_
      refine lv_iload_n hx hb dX9_reading_28 rfl (lv_at hl 2 rfl) ?_
      refine lv_iload_n hx hb dX9_reading_29 rfl (lv_at hl 3 rfl) ?_
      refine wVi (eO_S tO) (As := [.int x, .int w, .int b]) (rest := []) ⟨hx, hb, hml, hown, hts⟩ (kX3_note l D cA r _ u a th LP tf tO (g 3) x w b hRd.1 hRd.2.1 hb01) (cwV 3 hts gX9_reading_X3_note rfl rfl rfl (by decide +kernel) ⟨Nat.le_of_ble_eq_true rfl, Nat.le_of_ble_eq_true rfl⟩) (va_recv hK hP (ci := 3) (q0 := 2) rfl rfl) hK hP hD hS hA hE rfl hl.1 rfl (Nat.le_of_ble_eq_true rfl) dX9_reading_30 ⟨Nat.zero_le _, Nat.zero_le _⟩ (fun rv_11 z_13 H locs hw_12 hP hD hS => ?_)
      rcases hw_12 with ⟨hn8, rfl, rfl⟩ | ⟨hn8, rfl, h4z, h17z, h18z, h19z, hfuz, hfaz, hqz⟩
      · have hP : va_P D vwCl (xN cA r (u, a, th, LP, tf)) H := hP
        have hD : va_D A (xN cA r (u, a, th, LP, tf)) := hD
        exact wIret hx hb hr hlocks (v := (-4)) (u, a, th, LP, tf) (⟨by unfold aRead; rw [cif_pos b_5, cif_pos b_9, cif_pos hn8], by unfold gRead rRead; rw [cif_pos b_5, cif_pos b_9, cif_pos hn8, cif_pos b_5, cif_pos b_9, cif_pos hn8]; exact hI⟩) hK hP hD hS dX9_reading_33
      · obtain ⟨zu14, za15, zq16⟩ := z_13
        have hqz : zq16 = (th, LP, tf) := hqz
        subst hqz
        have hfuz : ∀ i, i ≠ 4 → zu14 i = u i := hfuz
        have hfaz : ∀ i, i ≠ 17 → i ≠ 18 → i ≠ 19 → za15 i = a i := hfaz
        have hP : va_P D vwCl (xN cA r (zu14, za15, th, LP, tf)) H := hP
        have hD : va_D A (xN cA r (zu14, za15, th, LP, tf)) := hD
        exact wIret hx hb hr hlocks (v := (nI (g 3))) (zu14, za15, th, LP, tf) (⟨by unfold aRead; rw [cif_pos b_5, cif_pos b_9, cif_neg (by omega)], by unfold gRead rRead; rw [cif_pos b_5, cif_pos b_9, cif_neg (by omega), cif_pos b_5, cif_pos b_9, cif_neg (by omega)]; exact ⟨NT.keep hM (hfuz 1 (by decide)) (hfaz 13 (by decide) (by decide) (by decide)) (hfaz 14 (by decide) (by decide) (by decide)) (hfaz 15 (by decide) (by decide) (by decide)) (hfaz 16 (by decide) (by decide) (by decide)), TB_gu3 hB, (hfuz 2 (by decide)).trans hsm, (hfuz 3 (by decide)).trans hrs, rdn_push hRd hn8 hxt.2 (by omega) hb1 h4z (h17z.trans (congrArg (upd (a 17) (g 3)) hxt.1)) (h18z.trans (congrArg (upd (a 18) (g 3)) hj5)) h19z, ShN.keep hSh (fun i hi => hfuz i (by omega)) (fun i hi => hfaz i (by omega) (by omega) (by omega)), (hfuz 0 (by decide)).trans hf0, (hfuz 13 (by decide)).trans htr, hPo⟩⟩) hK hP hD hS dX9_reading_33
    · refine lv_if_ne (tgt := 23) hx hb dX9_reading_17 (by decide) (fun c_17 => absurd c_17 (by decide)) (fun _ => ?_)
      refine lv_bipush (v := (-2)) hx hb dX9_reading_20 (by decide) ?_
      exact wIret hx hb hr hlocks (v := (-2)) (u, a, th, LP, tf) (⟨by unfold aRead; rw [cif_pos b_5, cif_neg b_9], by unfold gRead rRead; rw [cif_pos b_5, cif_neg b_9, cif_pos b_5, cif_neg b_9]; exact hI⟩) hK hP hD hS dX9_reading_22
  · refine lv_if_ne (tgt := 13) hx hb dX9_reading_8 (by decide) (fun c_18 => absurd c_18 (by decide)) (fun _ => ?_)
    refine lv_iconst (v := (-1)) hx hb dX9_reading_11 (by decide) ?_
    exact wIret hx hb hr hlocks (v := (-1)) (u, a, th, LP, tf) (⟨by unfold aRead; rw [cif_neg b_5], by unfold gRead rRead; rw [cif_neg b_5, cif_neg b_5]; exact hI⟩) hK hP hD hS dX9_reading_12
