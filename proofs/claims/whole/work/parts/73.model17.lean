set_option maxHeartbeats 4000000 in
set_option maxRecDepth 100000 in
theorem kX10_digit (l : Launch) (D : va_G) (cA : Nat → ClassId) (r : Nat → Nat) (sz : Nat) (u : Nat → Int32) (a : Nat → Nat → Int32) (b n : Nat) (cd : Nat → Int32) (p0 lst : Nat) (hbn : b + n ≤ 240) (hcd : ∀ q, q < n → a 4 (b + q) = cd q) (hp : p0 ≤ n) (hl1 : lst ≤ 1) (hat : u 13 = nI (b + p0)) : Met l yX10_digit wsX10_digit ({ frames := 1, cells := 0, slots := 0, locals := 22 } : Room) (va_Pc [.ref (r 0), .int (nI (b + n)), .int (nI lst)] (wA D vwCl (tyA cA) e0 (xM cA r) (u, a) sz)) (va_Qi (fun (v : Int32) (z : sM) => (∃ d : Nat, v = nI d ∧ p0 < n ∧ cd p0 = nI (48 + d) ∧ lst ≤ d ∧ d ≤ 9 ∧ z = (upd u 13 (nI (b + p0 + 1)), a)) ∨ (v = -9 ∧ ¬ (p0 < n ∧ dgt lst (cd p0)) ∧ z = (u, a))) (wB D vwCl (tyA cA) (xM cA r) (va_A (xM cA r (u, a)) sz)) (va_A (xM cA r (u, a)) sz)) 0 0 (va_A (xM cA r (u, a)) sz) := by
  refine Met.ofW (cc := cX10_digit) (maxL := 3) (ret := (some .int)) (by decide) rfl ?_
  intro p e s m args below meth c s₁ B hml hv
  obtain ⟨rfl, hsz, hP, hK, hD0, hE⟩ := hv
  have hx := B.exec
  have hb := B.bytes
  have hr := B.returns
  have hts := atoms_spec (ws := wsX10_digit) B.pre
  have hown : s.vm.findClass RX10 = some m.cls := findClass_of_methodNamed B.named
  have hlocks := B.notSynchronized
  subst hsz
  have hD := hD0.self (sz := s.heap.size)
  generalize hAe : va_A (xM cA r (u, a)) s.heap.size = A at hD hE ⊢
  have hA : ∀ q : Nat, s.heap.size ≤ q → A q := fun q h => by rw [← hAe]; exact Or.inr h
  have hS : va_S A s.heap s.heap [] := va_S.rf
  have hinX10 : ∀ w ∈ u_ws RX10 TX10 34, w ∈ wsX10_digit := by decide +kernel
  have hl := lv_entry ([.ref (r 0), .int (nI (b + n)), .int (nI lst)]) (n := 3) (Nat.le_of_ble_eq_true rfl)
  rw [lg_entry_eq]
  generalize (lg_sl ([.ref (r 0), .int (nI (b + n)), .int (nI lst)]) ++ List.replicate (3 - (lg_sl ([.ref (r 0), .int (nI (b + n)), .int (nI lst)])).length) Slot.unset).toArray = ls at hl ⊢
  have hl : lv_has ls 3 [(0, .ref (r 0)), (1, .int (nI (b + n))), (2, .int (nI lst))] := hl
  refine lv_aload_n hx hb dX10_digit_0 rfl (lv_at hl 0 rfl) ?_
  refine va_get (D := D) (ci := 10) (v := .int (nI (b + p0))) (C := RX10) (T := TX10) (N := 34) hx hb hts hinX10 hown hK hP 0 rfl rfl 13 (by decide) (hts (.fieldLink RX10 93 "OneNailModel" "at" "I") (by decide +kernel)) (fun _ h9 => h9) (congrArg (fun z => some (Value.int z)) (hat)) dX10_digit_1 ?_
  refine lv_iload_n hx hb dX10_digit_4 rfl (lv_at hl 1 rfl) ?_
  refine rn_ge (x := b + p0) (y := b + n) (tgt := 29) hx hb (by omega) (by omega) dX10_digit_5 (by decide) (fun c_1 => ?_) (fun c_1 => ?_)
  · refine lv_bipush (v := (-9)) hx hb dX10_digit_29 (by decide) ?_
    exact wIret hx hb hr hlocks (v := (-9)) (u, a) (Or.inr ⟨rfl, fun q => by have := q.1; omega, rfl⟩) hK hP hD hS dX10_digit_31
  · refine lv_aload_n hx hb dX10_digit_8 rfl (lv_at hl 0 rfl) ?_
    refine va_get (D := D) (ci := 10) (v := .ref (r 4)) (C := RX10) (T := TX10) (N := 34) hx hb hts hinX10 hown hK hP 0 rfl rfl 4 (by decide) (hts (.fieldLink RX10 16 "OneNailModel" "cells" "[I") (by decide +kernel)) (fun _ h9 => h9) rfl dX10_digit_9 ?_
    refine lv_aload_n hx hb dX10_digit_12 rfl (lv_at hl 0 rfl) ?_
    refine va_get (D := D) (ci := 10) (v := .int (nI (b + p0))) (C := RX10) (T := TX10) (N := 34) hx hb hts hinX10 hown hK hP 0 rfl rfl 13 (by decide) (hts (.fieldLink RX10 93 "OneNailModel" "at" "I") (by decide +kernel)) (fun _ h9 => h9) (congrArg (fun z => some (Value.int z)) (hat)) dX10_digit_13 ?_
    refine ra_iald hx hb hK hP 3 0 (n := 240) (f := (a 4)) (j := b + p0) (v := (cd p0)) rfl rfl (by omega) (by decide) (hcd p0 (by omega)) dX10_digit_16 ?_
    refine lv_bipush (v := (nI 48)) hx hb dX10_digit_17 rfl ?_
    refine lv_iload_n hx hb dX10_digit_19 rfl (lv_at hl 2 rfl) ?_
    refine rn_iadd (x := 48) (y := lst) hx hb dX10_digit_20 ?_
    refine lv_bipush (v := (nI 57)) hx hb dX10_digit_21 rfl ?_
    refine wSi (As := [.int (cd p0), .int (nI (48 + lst)), .int (nI 57)]) (rest := []) ⟨hx, hb, hml, hown, hts⟩ (kX10_within l (cd p0) (nI (48 + lst)) (nI 57)) (va_cwS 3 hts gX10_digit_X10_within rfl rfl rfl (by decide +kernel) ⟨Nat.le_of_ble_eq_true rfl, Nat.le_of_ble_eq_true rfl⟩) rfl hl.1 rfl (Nat.le_of_ble_eq_true rfl) dX10_digit_23 ⟨Nat.zero_le _, Nat.zero_le _⟩ (fun rv_2 hw_3 => ?_)
    rcases hw_3 with ⟨rfl, b_4⟩ | ⟨rfl, b_4⟩
    · obtain ⟨j9, hj1, hj2, hj3, hj4⟩ := inR_of (show inR (cd p0) (48 + lst) 57 from b_4) (by omega) (by decide)
      refine lv_if_ne (tgt := 32) hx hb dX10_digit_26 (by decide) (fun _ => ?_) (fun c_5 => absurd c_5 (by decide))
      refine lv_aload_n hx hb dX10_digit_32 rfl (lv_at hl 0 rfl) ?_
      refine lv_dup hx hb dX10_digit_33 rfl ?_
      refine va_get (D := D) (ci := 10) (v := .int (nI (b + p0))) (C := RX10) (T := TX10) (N := 34) hx hb hts hinX10 hown hK hP 0 rfl rfl 13 (by decide) (hts (.fieldLink RX10 93 "OneNailModel" "at" "I") (by decide +kernel)) (fun _ h9 => h9) (congrArg (fun z => some (Value.int z)) (hat)) dX10_digit_34 ?_
      refine lv_iconst (v := (nI 1)) hx hb dX10_digit_37 rfl ?_
      refine rn_iadd (x := b + p0) (y := 1) hx hb dX10_digit_38 ?_
      refine va_put (D := D) (ci := 10) (v := .int (nI ((b + p0) + 1))) (ty := .int) (C := RX10) (T := TX10) (N := 34) hx hb hts hinX10 tyX10 tyX10_ok nmX10 hown hK hP hD hS 0 rfl rfl 13 (by decide) (hts (.fieldLink RX10 93 "OneNailModel" "at" "I") (by decide +kernel)) (fun _ h9 => h9) rfl (by decide +kernel) rfl rfl (Nat.le_of_ble_eq_true rfl) dX10_digit_39 (fun H locs hP hD hS => ?_)
      have hP : va_P D vwCl (xM cA r ((upd u 13 (nI ((b + p0) + 1))), a)) H := hP
      have hD : va_D A (xM cA r ((upd u 13 (nI ((b + p0) + 1))), a)) := hD
      refine lv_aload_n hx hb dX10_digit_42 rfl (lv_at hl 0 rfl) ?_
      refine va_get (D := D) (ci := 10) (v := .ref (r 4)) (C := RX10) (T := TX10) (N := 34) hx hb hts hinX10 hown hK hP 0 rfl rfl 4 (by decide) (hts (.fieldLink RX10 16 "OneNailModel" "cells" "[I") (by decide +kernel)) (fun _ h9 => h9) rfl dX10_digit_43 ?_
      refine lv_aload_n hx hb dX10_digit_46 rfl (lv_at hl 0 rfl) ?_
      refine va_get (D := D) (ci := 10) (v := .int (nI ((b + p0) + 1))) (C := RX10) (T := TX10) (N := 34) hx hb hts hinX10 hown hK hP 0 rfl rfl 13 (by decide) (hts (.fieldLink RX10 93 "OneNailModel" "at" "I") (by decide +kernel)) (fun _ h9 => h9) rfl dX10_digit_47 ?_
      refine lv_iconst (v := (nI 1)) hx hb dX10_digit_50 rfl ?_
      refine rn_isub (x := (b + p0) + 1) (y := 1) hx hb (by omega) dX10_digit_51 ?_
      refine ra_iald hx hb hK hP 3 0 (n := 240) (f := (a 4)) (j := ((b + p0) + 1) - 1) (v := (nI j9)) rfl rfl (by omega) (by decide) ((by rw [show b + p0 + 1 - 1 = b + p0 by omega]; exact (hcd p0 (by omega)).trans hj1)) dX10_digit_52 ?_
      refine lv_bipush (v := (nI 48)) hx hb dX10_digit_53 rfl ?_
      refine rn_isub (x := j9) (y := 48) hx hb (by omega) dX10_digit_55 ?_
      exact wIret hx hb hr hlocks (v := (nI (j9 - 48))) ((upd u 13 (nI ((b + p0) + 1))), a) (Or.inl ⟨j9 - 48, rfl, by omega, hj1.trans (congrArg nI (by omega)), by omega, by omega, rfl⟩) hK hP hD hS dX10_digit_56
    · refine lv_if_ne (tgt := 32) hx hb dX10_digit_26 (by decide) (fun c_6 => absurd c_6 (by decide)) (fun _ => ?_)
      refine lv_bipush (v := (-9)) hx hb dX10_digit_29 (by decide) ?_
      exact wIret hx hb hr hlocks (v := (-9)) (u, a) (Or.inr ⟨rfl, fun q => b_4 (by obtain ⟨d, w1, w2, w3⟩ := q.2; rw [w3]; exact ⟨(nI_leI (by omega) (by omega)).mpr (by omega), (nI_leI (by omega) (by decide)).mpr (by omega)⟩), rfl⟩) hK hP hD hS dX10_digit_31

set_option maxHeartbeats 4000000 in
set_option maxRecDepth 100000 in
theorem kX10_readThing (l : Launch) (D : va_G) (cA : Nat → ClassId) (r : Nat → Nat) (sz : Nat) (u : Nat → Int32) (a : Nat → Nat → Int32) (b n : Nat) (cd : Nat → Int32) (x : Nat) (hbn : b + n ≤ 240) (hcd : ∀ q, q < n → a 4 (b + q) = cd q) (hx6 : x < 6) (hpx : 3 + 7 * x ≤ n) (hG0 : ∀ j, j < 3 + 7 * x → Gd cd j) (hat : u 13 = nI (b + (3 + 7 * x))) : Met l yX10_readThing wsX10_readThing ({ frames := 2, cells := 0, slots := 0, locals := 44 } : Room) (va_Pc [.ref (r 0), .int (nI (b + n)), .int (nI x)] (wA D vwCl (tyA cA) e0 (xM cA r) (u, a) sz)) (va_Qi (fun (v : Int32) (z : sM) => (v = nI 1 ∧ 9 + 7 * x ≤ n ∧ (∀ j, j < 9 + 7 * x → Gd cd j) ∧ z.1 13 = nI (b + (9 + 7 * x)) ∧ (∀ i, i ≠ 13 → z.1 i = u i) ∧ z.2 16 = upd (a 16) x (nI (TP cd 0 x)) ∧ z.2 17 = upd (a 17) x (nI (TP cd 1 x)) ∧ z.2 18 = upd (a 18) x (nI (TP cd 2 x)) ∧ z.2 19 = upd (a 19) x (nI (TP cd 3 x)) ∧ z.2 20 = upd (a 20) x (nI (TP cd 4 x)) ∧ (∀ i, i ≠ 16 → i ≠ 17 → i ≠ 18 → i ≠ 19 → i ≠ 20 → z.2 i = a i)) ∨ (v = nI 0 ∧ (∃ F, FR cd n F ∧ z.1 13 = nI (b + F)) ∧ (∀ i, i ≠ 13 → z.1 i = u i) ∧ (∀ i, i ≠ 16 → i ≠ 17 → i ≠ 18 → i ≠ 19 → i ≠ 20 → z.2 i = a i))) (wB D vwCl (tyA cA) (xM cA r) (va_A (xM cA r (u, a)) sz)) (va_A (xM cA r (u, a)) sz)) 0 0 (va_A (xM cA r (u, a)) sz) := by
  refine Met.ofW (cc := cX10_readThing) (maxL := 6) (ret := (some .boolean)) (by decide) rfl ?_
  intro p e s m args below meth c s₁ B hml hv
  obtain ⟨rfl, hsz, hP, hK, hD0, hE⟩ := hv
  have hx := B.exec
  have hb := B.bytes
  have hr := B.returns
  have hts := atoms_spec (ws := wsX10_readThing) B.pre
  have hown : s.vm.findClass RX10 = some m.cls := findClass_of_methodNamed B.named
  have hlocks := B.notSynchronized
  subst hsz
  have hD := hD0.self (sz := s.heap.size)
  generalize hAe : va_A (xM cA r (u, a)) s.heap.size = A at hD hE ⊢
  have hA : ∀ q : Nat, s.heap.size ≤ q → A q := fun q h => by rw [← hAe]; exact Or.inr h
  have hS : va_S A s.heap s.heap [] := va_S.rf
  have hinX10 : ∀ w ∈ u_ws RX10 TX10 34, w ∈ wsX10_readThing := by decide +kernel
  have hl := lv_entry ([.ref (r 0), .int (nI (b + n)), .int (nI x)]) (n := 6) (Nat.le_of_ble_eq_true rfl)
  rw [lg_entry_eq]
  generalize (lg_sl ([.ref (r 0), .int (nI (b + n)), .int (nI x)]) ++ List.replicate (6 - (lg_sl ([.ref (r 0), .int (nI (b + n)), .int (nI x)])).length) Slot.unset).toArray = ls at hl ⊢
  have hl : lv_has ls 6 [(0, .ref (r 0)), (1, .int (nI (b + n))), (2, .int (nI x))] := hl
  refine lv_aload_n hx hb dX10_readThing_0 rfl (lv_at hl 0 rfl) ?_
  refine va_get (D := D) (ci := 10) (v := .int (nI (b + (3 + 7 * x)))) (C := RX10) (T := TX10) (N := 34) hx hb hts hinX10 hown hK hP 0 rfl rfl 13 (by decide) (hts (.fieldLink RX10 93 "OneNailModel" "at" "I") (by decide +kernel)) (fun _ h9 => h9) (congrArg (fun z => some (Value.int z)) (hat)) dX10_readThing_1 ?_
  refine lv_iload_n hx hb dX10_readThing_4 rfl (lv_at hl 1 rfl) ?_
  refine rn_ge (x := b + (3 + 7 * x)) (y := b + n) (tgt := 20) hx hb (by omega) (by omega) dX10_readThing_5 (by decide) (fun c_1 => ?_) (fun c_1 => ?_)
  · refine lv_iconst (v := (nI 0)) hx hb dX10_readThing_20 rfl ?_
    refine lv_istore_n (lv' := [(3, .int (nI 0)), (0, .ref (r 0)), (1, .int (nI (b + n))), (2, .int (nI x))]) hx hb dX10_readThing_21 rfl hl (by decide) rfl (fun ls hl => ?_)
    refine lv_aload_n hx hb dX10_readThing_22 rfl (lv_at hl 1 rfl) ?_
    refine va_get (D := D) (ci := 10) (v := .ref (r 16)) (C := RX10) (T := TX10) (N := 34) hx hb hts hinX10 hown hK hP 0 rfl rfl 16 (by decide) (hts (.fieldLink RX10 34 "OneNailModel" "readKind" "[I") (by decide +kernel)) (fun _ h9 => h9) rfl dX10_readThing_23 ?_
    refine lv_iload_n hx hb dX10_readThing_26 rfl (lv_at hl 3 rfl) ?_
    refine lv_iload_n hx hb dX10_readThing_27 rfl (lv_at hl 0 rfl) ?_
    refine lv_bipush (v := (nI 116)) hx hb dX10_readThing_28 rfl ?_
    refine lv_icmp_ne (tgt := 37) hx hb dX10_readThing_30 (by decide) (fun _ => ?_) (fun c_2 => absurd c_2 (by decide))
    refine lv_iload_n hx hb dX10_readThing_37 rfl (lv_at hl 0 rfl) ?_
    refine lv_bipush (v := (nI 100)) hx hb dX10_readThing_38 rfl ?_
    refine lv_icmp_ne (tgt := 47) hx hb dX10_readThing_40 (by decide) (fun _ => ?_) (fun c_3 => absurd c_3 (by decide))
    refine lv_iload_n hx hb dX10_readThing_47 rfl (lv_at hl 0 rfl) ?_
    refine lv_bipush (v := (nI 99)) hx hb dX10_readThing_48 rfl ?_
    refine lv_icmp_ne (tgt := 57) hx hb dX10_readThing_50 (by decide) (fun _ => ?_) (fun c_4 => absurd c_4 (by decide))
    refine lv_bipush (v := (-9)) hx hb dX10_readThing_57 (by decide) ?_
    refine ra_iast hx hb hK hP hD hS 9 0 (n := 6) (f := (a 16)) (j := x) (x := (-9)) rfl rfl (by omega) (by decide) dX10_readThing_59 (fun H locs hP hD hS => ?_)
    have hP : va_P D vwCl (xM cA r (u, (va_up a 16 (upd (a 16) x (-9))))) H := hP
    have hD : va_D A (xM cA r (u, (va_up a 16 (upd (a 16) x (-9))))) := hD
    refine lv_aload_n hx hb dX10_readThing_60 rfl (lv_at hl 1 rfl) ?_
    refine va_get (D := D) (ci := 10) (v := .ref (r 16)) (C := RX10) (T := TX10) (N := 34) hx hb hts hinX10 hown hK hP 0 rfl rfl 16 (by decide) (hts (.fieldLink RX10 34 "OneNailModel" "readKind" "[I") (by decide +kernel)) (fun _ h9 => h9) rfl dX10_readThing_61 ?_
    refine lv_iload_n hx hb dX10_readThing_64 rfl (lv_at hl 3 rfl) ?_
    refine ra_iald hx hb hK hP 9 0 (n := 6) (f := (upd (a 16) x (-9))) (j := x) (v := (-9)) rfl rfl (by omega) (by decide) (up_eq) dX10_readThing_65 ?_
    refine lv_bipush (v := (-9)) hx hb dX10_readThing_66 (by decide) ?_
    refine lv_icmp_ne (tgt := 73) hx hb dX10_readThing_68 (by decide) (fun c_5 => absurd c_5 (by decide)) (fun _ => ?_)
    refine lv_iconst (v := (nI 0)) hx hb dX10_readThing_71 rfl ?_
    exact wZret hx hb hr hlocks (v := (nI 0)) (by first | exact Or.inl rfl | exact Or.inr rfl) (u, (va_up a 16 (upd (a 16) x (-9)))) (Or.inr ⟨rfl, ⟨3 + 7 * x, FR_at (by omega) hG0 (fun h => by rw [GO_k rfl]; omega) (fun e => whole_no e (by omega)), (hat)⟩, (fun i h13 => rfl), (fun i h16 h17 h18 h19 h20 => vup_ne h16)⟩) hK hP hD hS dX10_readThing_72
  · refine lv_aload_n hx hb dX10_readThing_8 rfl (lv_at hl 0 rfl) ?_
    refine va_get (D := D) (ci := 10) (v := .ref (r 4)) (C := RX10) (T := TX10) (N := 34) hx hb hts hinX10 hown hK hP 0 rfl rfl 4 (by decide) (hts (.fieldLink RX10 16 "OneNailModel" "cells" "[I") (by decide +kernel)) (fun _ h9 => h9) rfl dX10_readThing_9 ?_
    refine lv_aload_n hx hb dX10_readThing_12 rfl (lv_at hl 0 rfl) ?_
    refine va_get (D := D) (ci := 10) (v := .int (nI (b + (3 + 7 * x)))) (C := RX10) (T := TX10) (N := 34) hx hb hts hinX10 hown hK hP 0 rfl rfl 13 (by decide) (hts (.fieldLink RX10 93 "OneNailModel" "at" "I") (by decide +kernel)) (fun _ h9 => h9) (congrArg (fun z => some (Value.int z)) (hat)) dX10_readThing_13 ?_
    refine ra_iald hx hb hK hP 3 0 (n := 240) (f := (a 4)) (j := b + (3 + 7 * x)) (v := (cd (3 + 7 * x))) rfl rfl (by omega) (by decide) (hcd _ (by omega)) dX10_readThing_16 ?_
    refine lv_goto (tgt := 21) hx hb dX10_readThing_17 (by decide) ?_
    refine lv_istore_n (lv' := [(3, .int (cd (3 + 7 * x))), (0, .ref (r 0)), (1, .int (nI (b + n))), (2, .int (nI x))]) hx hb dX10_readThing_21 rfl hl (by decide) rfl (fun ls hl => ?_)
    refine lv_aload_n hx hb dX10_readThing_22 rfl (lv_at hl 1 rfl) ?_
    refine va_get (D := D) (ci := 10) (v := .ref (r 16)) (C := RX10) (T := TX10) (N := 34) hx hb hts hinX10 hown hK hP 0 rfl rfl 16 (by decide) (hts (.fieldLink RX10 34 "OneNailModel" "readKind" "[I") (by decide +kernel)) (fun _ h9 => h9) rfl dX10_readThing_23 ?_
    refine lv_iload_n hx hb dX10_readThing_26 rfl (lv_at hl 3 rfl) ?_
    refine lv_iload_n hx hb dX10_readThing_27 rfl (lv_at hl 0 rfl) ?_
    refine lv_bipush (v := (nI 116)) hx hb dX10_readThing_28 rfl ?_
    refine lv_icmp_ne (tgt := 37) hx hb dX10_readThing_30 (by decide) (fun c_6 => ?_) (fun c_6 => ?_)
    · refine lv_iload_n hx hb dX10_readThing_37 rfl (lv_at hl 0 rfl) ?_
      refine lv_bipush (v := (nI 100)) hx hb dX10_readThing_38 rfl ?_
      refine lv_icmp_ne (tgt := 47) hx hb dX10_readThing_40 (by decide) (fun c_7 => ?_) (fun c_7 => ?_)
      · refine lv_iload_n hx hb dX10_readThing_47 rfl (lv_at hl 0 rfl) ?_
        refine lv_bipush (v := (nI 99)) hx hb dX10_readThing_48 rfl ?_
        refine lv_icmp_ne (tgt := 57) hx hb dX10_readThing_50 (by decide) (fun c_8 => ?_) (fun c_8 => ?_)
        · refine lv_bipush (v := (-9)) hx hb dX10_readThing_57 (by decide) ?_
          refine ra_iast hx hb hK hP hD hS 9 0 (n := 6) (f := (a 16)) (j := x) (x := (-9)) rfl rfl (by omega) (by decide) dX10_readThing_59 (fun H locs hP hD hS => ?_)
          have hP : va_P D vwCl (xM cA r (u, (va_up a 16 (upd (a 16) x (-9))))) H := hP
          have hD : va_D A (xM cA r (u, (va_up a 16 (upd (a 16) x (-9))))) := hD
          refine lv_aload_n hx hb dX10_readThing_60 rfl (lv_at hl 1 rfl) ?_
          refine va_get (D := D) (ci := 10) (v := .ref (r 16)) (C := RX10) (T := TX10) (N := 34) hx hb hts hinX10 hown hK hP 0 rfl rfl 16 (by decide) (hts (.fieldLink RX10 34 "OneNailModel" "readKind" "[I") (by decide +kernel)) (fun _ h9 => h9) rfl dX10_readThing_61 ?_
          refine lv_iload_n hx hb dX10_readThing_64 rfl (lv_at hl 3 rfl) ?_
          refine ra_iald hx hb hK hP 9 0 (n := 6) (f := (upd (a 16) x (-9))) (j := x) (v := (-9)) rfl rfl (by omega) (by decide) (up_eq) dX10_readThing_65 ?_
          refine lv_bipush (v := (-9)) hx hb dX10_readThing_66 (by decide) ?_
          refine lv_icmp_ne (tgt := 73) hx hb dX10_readThing_68 (by decide) (fun c_9 => absurd c_9 (by decide)) (fun _ => ?_)
          refine lv_iconst (v := (nI 0)) hx hb dX10_readThing_71 rfl ?_
          exact wZret hx hb hr hlocks (v := (nI 0)) (by first | exact Or.inl rfl | exact Or.inr rfl) (u, (va_up a 16 (upd (a 16) x (-9)))) (Or.inr ⟨rfl, ⟨3 + 7 * x, FR_at (by omega) hG0 (fun h => by rw [GO_k rfl]; exact fun q => q.elim c_6 (fun q => q.elim c_7 c_8)) (fun e => whole_no e (by omega)), (hat)⟩, (fun i h13 => rfl), (fun i h16 h17 h18 h19 h20 => vup_ne h16)⟩) hK hP hD hS dX10_readThing_72
        · refine lv_iconst (v := (nI 2)) hx hb dX10_readThing_53 rfl ?_
          refine lv_goto (tgt := 59) hx hb dX10_readThing_54 (by decide) ?_
          refine ra_iast hx hb hK hP hD hS 9 0 (n := 6) (f := (a 16)) (j := x) (x := (nI 2)) rfl rfl (by omega) (by decide) dX10_readThing_59 (fun H locs hP hD hS => ?_)
          have hP : va_P D vwCl (xM cA r (u, (va_up a 16 (upd (a 16) x (nI 2))))) H := hP
          have hD : va_D A (xM cA r (u, (va_up a 16 (upd (a 16) x (nI 2))))) := hD
          refine lv_aload_n hx hb dX10_readThing_60 rfl (lv_at hl 1 rfl) ?_
          refine va_get (D := D) (ci := 10) (v := .ref (r 16)) (C := RX10) (T := TX10) (N := 34) hx hb hts hinX10 hown hK hP 0 rfl rfl 16 (by decide) (hts (.fieldLink RX10 34 "OneNailModel" "readKind" "[I") (by decide +kernel)) (fun _ h9 => h9) rfl dX10_readThing_61 ?_
          refine lv_iload_n hx hb dX10_readThing_64 rfl (lv_at hl 3 rfl) ?_
          refine ra_iald hx hb hK hP 9 0 (n := 6) (f := (upd (a 16) x (nI 2))) (j := x) (v := (nI 2)) rfl rfl (by omega) (by decide) (up_eq) dX10_readThing_65 ?_
          refine lv_bipush (v := (-9)) hx hb dX10_readThing_66 (by decide) ?_
          refine lv_icmp_ne (tgt := 73) hx hb dX10_readThing_68 (by decide) (fun _ => ?_) (fun c_10 => absurd c_10 (by decide))
          have hG11 : ∀ j, j < 4 + 7 * x → Gd cd j := Gd_ext hG0 ⟨(GO_k rfl).mpr (Or.inr (Or.inr c_8)), Zr_no (by omega)⟩ (by omega)
          refine lv_aload_n hx hb dX10_readThing_73 rfl (lv_at hl 1 rfl) ?_
          refine lv_dup hx hb dX10_readThing_74 rfl ?_
          refine va_get (D := D) (ci := 10) (v := .int (nI (b + (3 + 7 * x)))) (C := RX10) (T := TX10) (N := 34) hx hb hts hinX10 hown hK hP 0 rfl rfl 13 (by decide) (hts (.fieldLink RX10 93 "OneNailModel" "at" "I") (by decide +kernel)) (fun _ h9 => h9) (congrArg (fun z => some (Value.int z)) (hat)) dX10_readThing_75 ?_
          refine lv_iconst (v := (nI 1)) hx hb dX10_readThing_78 rfl ?_
          refine rn_iadd (x := b + (3 + 7 * x)) (y := 1) hx hb dX10_readThing_79 ?_
          refine va_put (D := D) (ci := 10) (v := .int (nI ((b + (3 + 7 * x)) + 1))) (ty := .int) (C := RX10) (T := TX10) (N := 34) hx hb hts hinX10 tyX10 tyX10_ok nmX10 hown hK hP hD hS 0 rfl rfl 13 (by decide) (hts (.fieldLink RX10 93 "OneNailModel" "at" "I") (by decide +kernel)) (fun _ h9 => h9) rfl (by decide +kernel) rfl rfl (Nat.le_of_ble_eq_true rfl) dX10_readThing_80 (fun H locs hP hD hS => ?_)
          have hP : va_P D vwCl (xM cA r ((upd u 13 (nI ((b + (3 + 7 * x)) + 1))), (va_up a 16 (upd (a 16) x (nI 2))))) H := hP
          have hD : va_D A (xM cA r ((upd u 13 (nI ((b + (3 + 7 * x)) + 1))), (va_up a 16 (upd (a 16) x (nI 2))))) := hD
          refine lv_aload_n hx hb dX10_readThing_83 rfl (lv_at hl 1 rfl) ?_
          refine va_get (D := D) (ci := 10) (v := .ref (r 17)) (C := RX10) (T := TX10) (N := 34) hx hb hts hinX10 hown hK hP 0 rfl rfl 17 (by decide) (hts (.fieldLink RX10 37 "OneNailModel" "readPlace" "[I") (by decide +kernel)) (fun _ h9 => h9) rfl dX10_readThing_84 ?_
          refine lv_iload_n hx hb dX10_readThing_87 rfl (lv_at hl 3 rfl) ?_
          refine lv_aload_n hx hb dX10_readThing_88 rfl (lv_at hl 1 rfl) ?_
          refine lv_iload_n hx hb dX10_readThing_89 rfl (lv_at hl 2 rfl) ?_
          refine lv_iconst (v := (nI 0)) hx hb dX10_readThing_90 rfl ?_
          refine wVi e0_S (As := [.int (nI (b + n)), .int (nI 0)]) (rest := [.int (nI x), .ref (r 17)]) ⟨hx, hb, hml, hown, hts⟩ (kX10_digit l D cA r _ (upd u 13 (nI ((b + (3 + 7 * x)) + 1))) (va_up a 16 (upd (a 16) x (nI 2))) b n cd (4 + 7 * x) 0 hbn (fun q hq => (congrFun rfl (b + q)).trans (hcd q hq)) (by omega) (by omega) (show (nI ((b + (3 + 7 * x)) + 1)) = nI (b + (4 + 7 * x)) from congrArg nI (by omega))) (cwV 2 hts gX10_readThing_X10_digit rfl rfl rfl (by decide +kernel) ⟨Nat.le_of_ble_eq_true rfl, Nat.le_of_ble_eq_true rfl⟩) (va_recv hK hP (ci := 10) (q0 := 0) rfl rfl) hK hP hD hS hA hE rfl hl.1 rfl (Nat.le_of_ble_eq_true rfl) dX10_readThing_91 ⟨Nat.zero_le _, Nat.zero_le _⟩ (fun rv_12 z_14 H locs hw_13 hP hD hS => ?_)
          rcases hw_13 with ⟨d15, rfl, hpn_d15, hcdp_d15, hld_d15, hd9_d15, rfl⟩ | ⟨rfl, hno_d15, rfl⟩
          · have hP : va_P D vwCl (xM cA r ((upd u 13 (nI (b + (4 + 7 * x) + 1))), (va_up a 16 (upd (a 16) x (nI 2))))) H := hP
            have hD : va_D A (xM cA r ((upd u 13 (nI (b + (4 + 7 * x) + 1))), (va_up a 16 (upd (a 16) x (nI 2))))) := hD
            have hG16 : ∀ j, j < 5 + 7 * x → Gd cd j := Gd_ext hG11 ⟨(GO_d0 (x := x) (Or.inl rfl)).mpr ⟨d15, hld_d15, hd9_d15, hcdp_d15⟩, Zr_no (by omega)⟩ (by omega)
            refine ra_iast hx hb hK hP hD hS 10 0 (n := 6) (f := (a 17)) (j := x) (x := (nI d15)) rfl rfl (by omega) (by decide) dX10_readThing_94 (fun H locs hP hD hS => ?_)
            have hP : va_P D vwCl (xM cA r ((upd u 13 (nI (b + (4 + 7 * x) + 1))), (va_up (va_up a 16 (upd (a 16) x (nI 2))) 17 (upd (a 17) x (nI d15))))) H := hP
            have hD : va_D A (xM cA r ((upd u 13 (nI (b + (4 + 7 * x) + 1))), (va_up (va_up a 16 (upd (a 16) x (nI 2))) 17 (upd (a 17) x (nI d15))))) := hD
            refine lv_aload_n hx hb dX10_readThing_95 rfl (lv_at hl 1 rfl) ?_
            refine va_get (D := D) (ci := 10) (v := .ref (r 17)) (C := RX10) (T := TX10) (N := 34) hx hb hts hinX10 hown hK hP 0 rfl rfl 17 (by decide) (hts (.fieldLink RX10 37 "OneNailModel" "readPlace" "[I") (by decide +kernel)) (fun _ h9 => h9) rfl dX10_readThing_96 ?_
            refine lv_iload_n hx hb dX10_readThing_99 rfl (lv_at hl 3 rfl) ?_
            refine ra_iald hx hb hK hP 10 0 (n := 6) (f := (upd (a 17) x (nI d15))) (j := x) (v := (nI d15)) rfl rfl (by omega) (by decide) (up_eq) dX10_readThing_100 ?_
            refine lv_bipush (v := (-9)) hx hb dX10_readThing_101 (by decide) ?_
            refine lv_icmp_ne (tgt := 108) hx hb dX10_readThing_103 (by decide) (fun c_17 => ?_) (fun c_17 => absurd c_17 (nI_ne9 (by omega)))
            refine lv_aload_n hx hb dX10_readThing_108 rfl (lv_at hl 1 rfl) ?_
            refine va_get (D := D) (ci := 10) (v := .ref (r 18)) (C := RX10) (T := TX10) (N := 34) hx hb hts hinX10 hown hK hP 0 rfl rfl 18 (by decide) (hts (.fieldLink RX10 40 "OneNailModel" "readStays" "[I") (by decide +kernel)) (fun _ h9 => h9) rfl dX10_readThing_109 ?_
            refine lv_iload_n hx hb dX10_readThing_112 rfl (lv_at hl 3 rfl) ?_
            refine lv_aload_n hx hb dX10_readThing_113 rfl (lv_at hl 1 rfl) ?_
            refine lv_iload_n hx hb dX10_readThing_114 rfl (lv_at hl 2 rfl) ?_
            refine lv_iconst (v := (nI 1)) hx hb dX10_readThing_115 rfl ?_
            refine wVi e0_S (As := [.int (nI (b + n)), .int (nI 1)]) (rest := [.int (nI x), .ref (r 18)]) ⟨hx, hb, hml, hown, hts⟩ (kX10_digit l D cA r _ (upd u 13 (nI (b + (4 + 7 * x) + 1))) (va_up (va_up a 16 (upd (a 16) x (nI 2))) 17 (upd (a 17) x (nI d15))) b n cd (5 + 7 * x) 1 hbn (fun q hq => (congrFun rfl (b + q)).trans (hcd q hq)) (by omega) (by omega) (show (nI (b + (4 + 7 * x) + 1)) = nI (b + (5 + 7 * x)) from congrArg nI (by omega))) (cwV 2 hts gX10_readThing_X10_digit rfl rfl rfl (by decide +kernel) ⟨Nat.le_of_ble_eq_true rfl, Nat.le_of_ble_eq_true rfl⟩) (va_recv hK hP (ci := 10) (q0 := 0) rfl rfl) hK hP hD hS hA hE rfl hl.1 rfl (Nat.le_of_ble_eq_true rfl) dX10_readThing_116 ⟨Nat.zero_le _, Nat.zero_le _⟩ (fun rv_18 z_20 H locs hw_19 hP hD hS => ?_)
            rcases hw_19 with ⟨d21, rfl, hpn_d21, hcdp_d21, hld_d21, hd9_d21, rfl⟩ | ⟨rfl, hno_d21, rfl⟩
            · have hP : va_P D vwCl (xM cA r ((upd u 13 (nI (b + (5 + 7 * x) + 1))), (va_up (va_up a 16 (upd (a 16) x (nI 2))) 17 (upd (a 17) x (nI d15))))) H := hP
              have hD : va_D A (xM cA r ((upd u 13 (nI (b + (5 + 7 * x) + 1))), (va_up (va_up a 16 (upd (a 16) x (nI 2))) 17 (upd (a 17) x (nI d15))))) := hD
              have hG22 : ∀ j, j < 6 + 7 * x → Gd cd j := Gd_ext hG16 ⟨(GO_d1 (x := x) (Or.inl rfl)).mpr ⟨d21, hld_d21, hd9_d21, hcdp_d21⟩, Zr_no (by omega)⟩ (by omega)
              refine ra_iast hx hb hK hP hD hS 11 0 (n := 6) (f := (a 18)) (j := x) (x := (nI d21)) rfl rfl (by omega) (by decide) dX10_readThing_119 (fun H locs hP hD hS => ?_)
              have hP : va_P D vwCl (xM cA r ((upd u 13 (nI (b + (5 + 7 * x) + 1))), (va_up (va_up (va_up a 16 (upd (a 16) x (nI 2))) 17 (upd (a 17) x (nI d15))) 18 (upd (a 18) x (nI d21))))) H := hP
              have hD : va_D A (xM cA r ((upd u 13 (nI (b + (5 + 7 * x) + 1))), (va_up (va_up (va_up a 16 (upd (a 16) x (nI 2))) 17 (upd (a 17) x (nI d15))) 18 (upd (a 18) x (nI d21))))) := hD
              refine lv_aload_n hx hb dX10_readThing_120 rfl (lv_at hl 1 rfl) ?_
              refine va_get (D := D) (ci := 10) (v := .ref (r 18)) (C := RX10) (T := TX10) (N := 34) hx hb hts hinX10 hown hK hP 0 rfl rfl 18 (by decide) (hts (.fieldLink RX10 40 "OneNailModel" "readStays" "[I") (by decide +kernel)) (fun _ h9 => h9) rfl dX10_readThing_121 ?_
              refine lv_iload_n hx hb dX10_readThing_124 rfl (lv_at hl 3 rfl) ?_
              refine ra_iald hx hb hK hP 11 0 (n := 6) (f := (upd (a 18) x (nI d21))) (j := x) (v := (nI d21)) rfl rfl (by omega) (by decide) (up_eq) dX10_readThing_125 ?_
              refine lv_bipush (v := (-9)) hx hb dX10_readThing_126 (by decide) ?_
              refine lv_icmp_ne (tgt := 133) hx hb dX10_readThing_128 (by decide) (fun c_23 => ?_) (fun c_23 => absurd c_23 (nI_ne9 (by omega)))
              refine lv_aload_n hx hb dX10_readThing_133 rfl (lv_at hl 1 rfl) ?_
              refine lv_iload_n hx hb dX10_readThing_134 rfl (lv_at hl 2 rfl) ?_
              refine lv_iconst (v := (nI 0)) hx hb dX10_readThing_135 rfl ?_
              refine wVi e0_S (As := [.int (nI (b + n)), .int (nI 0)]) (rest := []) ⟨hx, hb, hml, hown, hts⟩ (kX10_digit l D cA r _ (upd u 13 (nI (b + (5 + 7 * x) + 1))) (va_up (va_up (va_up a 16 (upd (a 16) x (nI 2))) 17 (upd (a 17) x (nI d15))) 18 (upd (a 18) x (nI d21))) b n cd (6 + 7 * x) 0 hbn (fun q hq => (congrFun rfl (b + q)).trans (hcd q hq)) (by omega) (by omega) (show (nI (b + (5 + 7 * x) + 1)) = nI (b + (6 + 7 * x)) from congrArg nI (by omega))) (cwV 2 hts gX10_readThing_X10_digit rfl rfl rfl (by decide +kernel) ⟨Nat.le_of_ble_eq_true rfl, Nat.le_of_ble_eq_true rfl⟩) (va_recv hK hP (ci := 10) (q0 := 0) rfl rfl) hK hP hD hS hA hE rfl hl.1 rfl (Nat.le_of_ble_eq_true rfl) dX10_readThing_136 ⟨Nat.zero_le _, Nat.zero_le _⟩ (fun rv_24 z_26 H locs hw_25 hP hD hS => ?_)
              rcases hw_25 with ⟨d27, rfl, hpn_d27, hcdp_d27, hld_d27, hd9_d27, rfl⟩ | ⟨rfl, hno_d27, rfl⟩
              · have hP : va_P D vwCl (xM cA r ((upd u 13 (nI (b + (6 + 7 * x) + 1))), (va_up (va_up (va_up a 16 (upd (a 16) x (nI 2))) 17 (upd (a 17) x (nI d15))) 18 (upd (a 18) x (nI d21))))) H := hP
                have hD : va_D A (xM cA r ((upd u 13 (nI (b + (6 + 7 * x) + 1))), (va_up (va_up (va_up a 16 (upd (a 16) x (nI 2))) 17 (upd (a 17) x (nI d15))) 18 (upd (a 18) x (nI d21))))) := hD
                have hG28 : ∀ j, j < 7 + 7 * x → Gd cd j := Gd_ext hG22 ⟨(GO_d0 (x := x) (Or.inr (Or.inl rfl))).mpr ⟨d27, hld_d27, hd9_d27, hcdp_d27⟩, Zr_no (by omega)⟩ (by omega)
                refine lv_istore (lv' := [(4, .int (nI d27)), (3, .int (cd (3 + 7 * x))), (0, .ref (r 0)), (1, .int (nI (b + n))), (2, .int (nI x))]) hx hb dX10_readThing_139 hl (by decide) rfl (fun ls hl => ?_)
                refine lv_iload hx hb dX10_readThing_141 (lv_at hl 0 rfl) ?_
                refine lv_bipush (v := (-9)) hx hb dX10_readThing_143 (by decide) ?_
                refine lv_icmp_ne (tgt := 150) hx hb dX10_readThing_145 (by decide) (fun c_29 => ?_) (fun c_29 => absurd c_29 (nI_ne9 (by omega)))
                refine lv_aload_n hx hb dX10_readThing_150 rfl (lv_at hl 2 rfl) ?_
                refine lv_iload_n hx hb dX10_readThing_151 rfl (lv_at hl 3 rfl) ?_
                refine lv_iconst (v := (nI 0)) hx hb dX10_readThing_152 rfl ?_
                refine wVi e0_S (As := [.int (nI (b + n)), .int (nI 0)]) (rest := []) ⟨hx, hb, hml, hown, hts⟩ (kX10_digit l D cA r _ (upd u 13 (nI (b + (6 + 7 * x) + 1))) (va_up (va_up (va_up a 16 (upd (a 16) x (nI 2))) 17 (upd (a 17) x (nI d15))) 18 (upd (a 18) x (nI d21))) b n cd (7 + 7 * x) 0 hbn (fun q hq => (congrFun rfl (b + q)).trans (hcd q hq)) (by omega) (by omega) (show (nI (b + (6 + 7 * x) + 1)) = nI (b + (7 + 7 * x)) from congrArg nI (by omega))) (cwV 2 hts gX10_readThing_X10_digit rfl rfl rfl (by decide +kernel) ⟨Nat.le_of_ble_eq_true rfl, Nat.le_of_ble_eq_true rfl⟩) (va_recv hK hP (ci := 10) (q0 := 0) rfl rfl) hK hP hD hS hA hE rfl hl.1 rfl (Nat.le_of_ble_eq_true rfl) dX10_readThing_153 ⟨Nat.zero_le _, Nat.zero_le _⟩ (fun rv_30 z_32 H locs hw_31 hP hD hS => ?_)
                rcases hw_31 with ⟨d33, rfl, hpn_d33, hcdp_d33, hld_d33, hd9_d33, rfl⟩ | ⟨rfl, hno_d33, rfl⟩
                · have hP : va_P D vwCl (xM cA r ((upd u 13 (nI (b + (7 + 7 * x) + 1))), (va_up (va_up (va_up a 16 (upd (a 16) x (nI 2))) 17 (upd (a 17) x (nI d15))) 18 (upd (a 18) x (nI d21))))) H := hP
                  have hD : va_D A (xM cA r ((upd u 13 (nI (b + (7 + 7 * x) + 1))), (va_up (va_up (va_up a 16 (upd (a 16) x (nI 2))) 17 (upd (a 17) x (nI d15))) 18 (upd (a 18) x (nI d21))))) := hD
                  refine lv_istore (lv' := [(5, .int (nI d33)), (4, .int (nI d27)), (3, .int (cd (3 + 7 * x))), (0, .ref (r 0)), (1, .int (nI (b + n))), (2, .int (nI x))]) hx hb dX10_readThing_156 hl (by decide) rfl (fun ls hl => ?_)
                  refine lv_iload hx hb dX10_readThing_158 (lv_at hl 0 rfl) ?_
                  refine lv_bipush (v := (-9)) hx hb dX10_readThing_160 (by decide) ?_
                  refine lv_icmp_ne (tgt := 167) hx hb dX10_readThing_162 (by decide) (fun c_34 => ?_) (fun c_34 => absurd c_34 (nI_ne9 (by omega)))
                  refine lv_aload_n hx hb dX10_readThing_167 rfl (lv_at hl 3 rfl) ?_
                  refine va_get (D := D) (ci := 10) (v := .ref (r 19)) (C := RX10) (T := TX10) (N := 34) hx hb hts hinX10 hown hK hP 0 rfl rfl 19 (by decide) (hts (.fieldLink RX10 43 "OneNailModel" "readHold" "[I") (by decide +kernel)) (fun _ h9 => h9) rfl dX10_readThing_168 ?_
                  refine lv_iload_n hx hb dX10_readThing_171 rfl (lv_at hl 5 rfl) ?_
                  refine lv_bipush (v := (nI 10)) hx hb dX10_readThing_172 rfl ?_
                  refine lv_iload hx hb dX10_readThing_174 (lv_at hl 1 rfl) ?_
                  refine rn_imul (x := 10) (y := d27) hx hb dX10_readThing_176 ?_
                  refine lv_iload hx hb dX10_readThing_177 (lv_at hl 0 rfl) ?_
                  refine rn_iadd (x := 10 * d27) (y := d33) hx hb dX10_readThing_179 ?_
                  refine ra_iast hx hb hK hP hD hS 12 0 (n := 6) (f := (a 19)) (j := x) (x := (nI ((10 * d27) + d33))) rfl rfl (by omega) (by decide) dX10_readThing_180 (fun H locs hP hD hS => ?_)
                  have hP : va_P D vwCl (xM cA r ((upd u 13 (nI (b + (7 + 7 * x) + 1))), (va_up (va_up (va_up (va_up a 16 (upd (a 16) x (nI 2))) 17 (upd (a 17) x (nI d15))) 18 (upd (a 18) x (nI d21))) 19 (upd (a 19) x (nI ((10 * d27) + d33)))))) H := hP
                  have hD : va_D A (xM cA r ((upd u 13 (nI (b + (7 + 7 * x) + 1))), (va_up (va_up (va_up (va_up a 16 (upd (a 16) x (nI 2))) 17 (upd (a 17) x (nI d15))) 18 (upd (a 18) x (nI d21))) 19 (upd (a 19) x (nI ((10 * d27) + d33)))))) := hD
                  refine lv_aload_n hx hb dX10_readThing_181 rfl (lv_at hl 3 rfl) ?_
                  refine va_get (D := D) (ci := 10) (v := .ref (r 19)) (C := RX10) (T := TX10) (N := 34) hx hb hts hinX10 hown hK hP 0 rfl rfl 19 (by decide) (hts (.fieldLink RX10 43 "OneNailModel" "readHold" "[I") (by decide +kernel)) (fun _ h9 => h9) rfl dX10_readThing_182 ?_
                  refine lv_iload_n hx hb dX10_readThing_185 rfl (lv_at hl 5 rfl) ?_
                  refine ra_iald hx hb hK hP 12 0 (n := 6) (f := (upd (a 19) x (nI ((10 * d27) + d33)))) (j := x) (v := (nI ((10 * d27) + d33))) rfl rfl (by omega) (by decide) (up_eq) dX10_readThing_186 ?_
                  refine rz_ne (x := (10 * d27) + d33) (tgt := 202) hx hb (by omega) dX10_readThing_187 (by decide) (fun c_35 => ?_) (fun c_35 => ?_)
                  · have hG36 : ∀ j, j < 8 + 7 * x → Gd cd j := Gd_ext hG28 ⟨(GO_d0 (x := x) (Or.inr (Or.inr rfl))).mpr ⟨d33, hld_d33, hd9_d33, hcdp_d33⟩, (fun q => by have e1 := (nI_eq (by omega) (by decide)).mp (hcdp_d33.symm.trans q.2.2.1); have e2 := q.2.2.2; rw [show 7 + 7 * x - 1 = 6 + 7 * x by omega] at e2; have e3 := (nI_eq (by omega) (by decide)).mp (hcdp_d27.symm.trans e2); omega)⟩ (by omega)
                    refine lv_aload_n hx hb dX10_readThing_202 rfl (lv_at hl 3 rfl) ?_
                    refine va_get (D := D) (ci := 10) (v := .ref (r 20)) (C := RX10) (T := TX10) (N := 34) hx hb hts hinX10 hown hK hP 0 rfl rfl 20 (by decide) (hts (.fieldLink RX10 46 "OneNailModel" "readHarms" "[I") (by decide +kernel)) (fun _ h9 => h9) rfl dX10_readThing_203 ?_
                    refine lv_iload_n hx hb dX10_readThing_206 rfl (lv_at hl 5 rfl) ?_
                    refine lv_aload_n hx hb dX10_readThing_207 rfl (lv_at hl 3 rfl) ?_
                    refine lv_iload_n hx hb dX10_readThing_208 rfl (lv_at hl 4 rfl) ?_
                    refine lv_iconst (v := (nI 1)) hx hb dX10_readThing_209 rfl ?_
                    refine wVi e0_S (As := [.int (nI (b + n)), .int (nI 1)]) (rest := [.int (nI x), .ref (r 20)]) ⟨hx, hb, hml, hown, hts⟩ (kX10_digit l D cA r _ (upd u 13 (nI (b + (7 + 7 * x) + 1))) (va_up (va_up (va_up (va_up a 16 (upd (a 16) x (nI 2))) 17 (upd (a 17) x (nI d15))) 18 (upd (a 18) x (nI d21))) 19 (upd (a 19) x (nI ((10 * d27) + d33)))) b n cd (8 + 7 * x) 1 hbn (fun q hq => (congrFun rfl (b + q)).trans (hcd q hq)) (by omega) (by omega) (show (nI (b + (7 + 7 * x) + 1)) = nI (b + (8 + 7 * x)) from congrArg nI (by omega))) (cwV 2 hts gX10_readThing_X10_digit rfl rfl rfl (by decide +kernel) ⟨Nat.le_of_ble_eq_true rfl, Nat.le_of_ble_eq_true rfl⟩) (va_recv hK hP (ci := 10) (q0 := 0) rfl rfl) hK hP hD hS hA hE rfl hl.1 rfl (Nat.le_of_ble_eq_true rfl) dX10_readThing_210 ⟨Nat.zero_le _, Nat.zero_le _⟩ (fun rv_37 z_39 H locs hw_38 hP hD hS => ?_)
                    rcases hw_38 with ⟨d40, rfl, hpn_d40, hcdp_d40, hld_d40, hd9_d40, rfl⟩ | ⟨rfl, hno_d40, rfl⟩
                    · have hP : va_P D vwCl (xM cA r ((upd u 13 (nI (b + (8 + 7 * x) + 1))), (va_up (va_up (va_up (va_up a 16 (upd (a 16) x (nI 2))) 17 (upd (a 17) x (nI d15))) 18 (upd (a 18) x (nI d21))) 19 (upd (a 19) x (nI ((10 * d27) + d33)))))) H := hP
                      have hD : va_D A (xM cA r ((upd u 13 (nI (b + (8 + 7 * x) + 1))), (va_up (va_up (va_up (va_up a 16 (upd (a 16) x (nI 2))) 17 (upd (a 17) x (nI d15))) 18 (upd (a 18) x (nI d21))) 19 (upd (a 19) x (nI ((10 * d27) + d33)))))) := hD
                      have hG41 : ∀ j, j < 9 + 7 * x → Gd cd j := Gd_ext hG36 ⟨(GO_d1 (x := x) (Or.inr rfl)).mpr ⟨d40, hld_d40, hd9_d40, hcdp_d40⟩, Zr_no (by omega)⟩ (by omega)
                      refine ra_iast hx hb hK hP hD hS 13 0 (n := 6) (f := (a 20)) (j := x) (x := (nI d40)) rfl rfl (by omega) (by decide) dX10_readThing_213 (fun H locs hP hD hS => ?_)
                      have hP : va_P D vwCl (xM cA r ((upd u 13 (nI (b + (8 + 7 * x) + 1))), (va_up (va_up (va_up (va_up (va_up a 16 (upd (a 16) x (nI 2))) 17 (upd (a 17) x (nI d15))) 18 (upd (a 18) x (nI d21))) 19 (upd (a 19) x (nI ((10 * d27) + d33)))) 20 (upd (a 20) x (nI d40))))) H := hP
                      have hD : va_D A (xM cA r ((upd u 13 (nI (b + (8 + 7 * x) + 1))), (va_up (va_up (va_up (va_up (va_up a 16 (upd (a 16) x (nI 2))) 17 (upd (a 17) x (nI d15))) 18 (upd (a 18) x (nI d21))) 19 (upd (a 19) x (nI ((10 * d27) + d33)))) 20 (upd (a 20) x (nI d40))))) := hD
                      refine lv_aload_n hx hb dX10_readThing_214 rfl (lv_at hl 3 rfl) ?_
                      refine va_get (D := D) (ci := 10) (v := .ref (r 20)) (C := RX10) (T := TX10) (N := 34) hx hb hts hinX10 hown hK hP 0 rfl rfl 20 (by decide) (hts (.fieldLink RX10 46 "OneNailModel" "readHarms" "[I") (by decide +kernel)) (fun _ h9 => h9) rfl dX10_readThing_215 ?_
                      refine lv_iload_n hx hb dX10_readThing_218 rfl (lv_at hl 5 rfl) ?_
                      refine ra_iald hx hb hK hP 13 0 (n := 6) (f := (upd (a 20) x (nI d40))) (j := x) (v := (nI d40)) rfl rfl (by omega) (by decide) (up_eq) dX10_readThing_219 ?_
                      refine lv_bipush (v := (-9)) hx hb dX10_readThing_220 (by decide) ?_
                      refine lv_icmp_eq (tgt := 229) hx hb dX10_readThing_222 (by decide) (fun c_42 => absurd c_42 (nI_ne9 (by omega))) (fun c_42 => ?_)
                      refine lv_iconst (v := (nI 1)) hx hb dX10_readThing_225 rfl ?_
                      refine lv_goto (tgt := 230) hx hb dX10_readThing_226 (by decide) ?_
                      exact wZret hx hb hr hlocks (v := (nI 1)) (by first | exact Or.inl rfl | exact Or.inr rfl) ((upd u 13 (nI (b + (8 + 7 * x) + 1))), (va_up (va_up (va_up (va_up (va_up a 16 (upd (a 16) x (nI 2))) 17 (upd (a 17) x (nI d15))) 18 (upd (a 18) x (nI d21))) 19 (upd (a 19) x (nI ((10 * d27) + d33)))) 20 (upd (a 20) x (nI d40)))) (Or.inl ⟨rfl, by omega, hG41, show (nI (b + (8 + 7 * x) + 1)) = nI (b + (9 + 7 * x)) from congrArg nI (by omega), (fun i h13 => up_ne h13), congrArg (fun z => upd (a 16) x (nI z)) (show _ = TP cd 0 x from (by rw [show TP cd 0 x = kdn (cd (3 + 7 * x)) from rfl]; unfold kdn; rw [if_neg c_6, if_neg c_7])), congrArg (fun z => upd (a 17) x (nI z)) (show _ = TP cd 1 x from (vl_eq hcdp_d15 hd9_d15).symm), congrArg (fun z => upd (a 18) x (nI z)) (show _ = TP cd 2 x from (vl_eq hcdp_d21 hd9_d21).symm), congrArg (fun z => upd (a 19) x (nI z)) (show _ = TP cd 3 x from (by show _ = 10 * vl (cd (6 + 7 * x)) + vl (cd (7 + 7 * x)); rw [vl_eq hcdp_d27 hd9_d27, vl_eq hcdp_d33 hd9_d33])), congrArg (fun z => upd (a 20) x (nI z)) (show _ = TP cd 4 x from (vl_eq hcdp_d40 hd9_d40).symm), (fun i h16 h17 h18 h19 h20 => Eq.trans (vup_ne h20) (Eq.trans (vup_ne h19) (Eq.trans (vup_ne h18) (Eq.trans (vup_ne h17) (vup_ne h16)))))⟩) hK hP hD hS dX10_readThing_230
                    · have hP : va_P D vwCl (xM cA r ((upd u 13 (nI (b + (7 + 7 * x) + 1))), (va_up (va_up (va_up (va_up a 16 (upd (a 16) x (nI 2))) 17 (upd (a 17) x (nI d15))) 18 (upd (a 18) x (nI d21))) 19 (upd (a 19) x (nI ((10 * d27) + d33)))))) H := hP
                      have hD : va_D A (xM cA r ((upd u 13 (nI (b + (7 + 7 * x) + 1))), (va_up (va_up (va_up (va_up a 16 (upd (a 16) x (nI 2))) 17 (upd (a 17) x (nI d15))) 18 (upd (a 18) x (nI d21))) 19 (upd (a 19) x (nI ((10 * d27) + d33)))))) := hD
                      refine ra_iast hx hb hK hP hD hS 13 0 (n := 6) (f := (a 20)) (j := x) (x := (-9)) rfl rfl (by omega) (by decide) dX10_readThing_213 (fun H locs hP hD hS => ?_)
                      have hP : va_P D vwCl (xM cA r ((upd u 13 (nI (b + (7 + 7 * x) + 1))), (va_up (va_up (va_up (va_up (va_up a 16 (upd (a 16) x (nI 2))) 17 (upd (a 17) x (nI d15))) 18 (upd (a 18) x (nI d21))) 19 (upd (a 19) x (nI ((10 * d27) + d33)))) 20 (upd (a 20) x (-9))))) H := hP
                      have hD : va_D A (xM cA r ((upd u 13 (nI (b + (7 + 7 * x) + 1))), (va_up (va_up (va_up (va_up (va_up a 16 (upd (a 16) x (nI 2))) 17 (upd (a 17) x (nI d15))) 18 (upd (a 18) x (nI d21))) 19 (upd (a 19) x (nI ((10 * d27) + d33)))) 20 (upd (a 20) x (-9))))) := hD
                      refine lv_aload_n hx hb dX10_readThing_214 rfl (lv_at hl 3 rfl) ?_
                      refine va_get (D := D) (ci := 10) (v := .ref (r 20)) (C := RX10) (T := TX10) (N := 34) hx hb hts hinX10 hown hK hP 0 rfl rfl 20 (by decide) (hts (.fieldLink RX10 46 "OneNailModel" "readHarms" "[I") (by decide +kernel)) (fun _ h9 => h9) rfl dX10_readThing_215 ?_
                      refine lv_iload_n hx hb dX10_readThing_218 rfl (lv_at hl 5 rfl) ?_
                      refine ra_iald hx hb hK hP 13 0 (n := 6) (f := (upd (a 20) x (-9))) (j := x) (v := (-9)) rfl rfl (by omega) (by decide) (up_eq) dX10_readThing_219 ?_
                      refine lv_bipush (v := (-9)) hx hb dX10_readThing_220 (by decide) ?_
                      refine lv_icmp_eq (tgt := 229) hx hb dX10_readThing_222 (by decide) (fun _ => ?_) (fun c_43 => absurd c_43 (by decide))
                      refine lv_iconst (v := (nI 0)) hx hb dX10_readThing_229 rfl ?_
                      exact wZret hx hb hr hlocks (v := (nI 0)) (by first | exact Or.inl rfl | exact Or.inr rfl) ((upd u 13 (nI (b + (7 + 7 * x) + 1))), (va_up (va_up (va_up (va_up (va_up a 16 (upd (a 16) x (nI 2))) 17 (upd (a 17) x (nI d15))) 18 (upd (a 18) x (nI d21))) 19 (upd (a 19) x (nI ((10 * d27) + d33)))) 20 (upd (a 20) x (-9)))) (Or.inr ⟨rfl, ⟨8 + 7 * x, FR_at (by omega) hG36 (fun h q => hno_d40 ⟨h, (GO_d1 (x := x) (Or.inr rfl)).mp q⟩) (fun e => whole_no e (by omega)), show (nI (b + (7 + 7 * x) + 1)) = nI (b + (8 + 7 * x)) from congrArg nI (by omega)⟩, (fun i h13 => up_ne h13), (fun i h16 h17 h18 h19 h20 => Eq.trans (vup_ne h20) (Eq.trans (vup_ne h19) (Eq.trans (vup_ne h18) (Eq.trans (vup_ne h17) (vup_ne h16)))))⟩) hK hP hD hS dX10_readThing_230
                  · refine lv_aload_n hx hb dX10_readThing_190 rfl (lv_at hl 3 rfl) ?_
                    refine lv_dup hx hb dX10_readThing_191 rfl ?_
                    refine va_get (D := D) (ci := 10) (v := .int (nI (b + (7 + 7 * x) + 1))) (C := RX10) (T := TX10) (N := 34) hx hb hts hinX10 hown hK hP 0 rfl rfl 13 (by decide) (hts (.fieldLink RX10 93 "OneNailModel" "at" "I") (by decide +kernel)) (fun _ h9 => h9) rfl dX10_readThing_192 ?_
                    refine lv_iconst (v := (nI 2)) hx hb dX10_readThing_195 rfl ?_
                    refine rn_isub (x := b + (7 + 7 * x) + 1) (y := 2) hx hb (by omega) dX10_readThing_196 ?_
                    refine va_put (D := D) (ci := 10) (v := .int (nI ((b + (7 + 7 * x) + 1) - 2))) (ty := .int) (C := RX10) (T := TX10) (N := 34) hx hb hts hinX10 tyX10 tyX10_ok nmX10 hown hK hP hD hS 0 rfl rfl 13 (by decide) (hts (.fieldLink RX10 93 "OneNailModel" "at" "I") (by decide +kernel)) (fun _ h9 => h9) rfl (by decide +kernel) rfl rfl (Nat.le_of_ble_eq_true rfl) dX10_readThing_197 (fun H locs hP hD hS => ?_)
                    have hP : va_P D vwCl (xM cA r ((upd u 13 (nI ((b + (7 + 7 * x) + 1) - 2))), (va_up (va_up (va_up (va_up a 16 (upd (a 16) x (nI 2))) 17 (upd (a 17) x (nI d15))) 18 (upd (a 18) x (nI d21))) 19 (upd (a 19) x (nI ((10 * d27) + d33)))))) H := hP
                    have hD : va_D A (xM cA r ((upd u 13 (nI ((b + (7 + 7 * x) + 1) - 2))), (va_up (va_up (va_up (va_up a 16 (upd (a 16) x (nI 2))) 17 (upd (a 17) x (nI d15))) 18 (upd (a 18) x (nI d21))) 19 (upd (a 19) x (nI ((10 * d27) + d33)))))) := hD
                    refine lv_iconst (v := (nI 0)) hx hb dX10_readThing_200 rfl ?_
                    exact wZret hx hb hr hlocks (v := (nI 0)) (by first | exact Or.inl rfl | exact Or.inr rfl) ((upd u 13 (nI ((b + (7 + 7 * x) + 1) - 2))), (va_up (va_up (va_up (va_up a 16 (upd (a 16) x (nI 2))) 17 (upd (a 17) x (nI d15))) 18 (upd (a 18) x (nI d21))) 19 (upd (a 19) x (nI ((10 * d27) + d33))))) (Or.inr ⟨rfl, ⟨6 + 7 * x, ⟨7 + 7 * x, by omega, hG28, Or.inr (Or.inl ⟨hpn_d33, (GO_d0 (x := x) (Or.inr (Or.inr rfl))).mpr ⟨d33, Nat.zero_le _, hd9_d33, hcdp_d33⟩, ⟨by omega, by omega, by rw [hcdp_d33, show d33 = 0 by omega], by rw [show 7 + 7 * x - 1 = 6 + 7 * x by omega, hcdp_d27, show d27 = 0 by omega]⟩, by omega⟩)⟩, show (nI ((b + (7 + 7 * x) + 1) - 2)) = nI (b + (6 + 7 * x)) from congrArg nI (by omega)⟩, (fun i h13 => up_ne h13), (fun i h16 h17 h18 h19 h20 => Eq.trans (vup_ne h19) (Eq.trans (vup_ne h18) (Eq.trans (vup_ne h17) (vup_ne h16))))⟩) hK hP hD hS dX10_readThing_201
                · have hP : va_P D vwCl (xM cA r ((upd u 13 (nI (b + (6 + 7 * x) + 1))), (va_up (va_up (va_up a 16 (upd (a 16) x (nI 2))) 17 (upd (a 17) x (nI d15))) 18 (upd (a 18) x (nI d21))))) H := hP
                  have hD : va_D A (xM cA r ((upd u 13 (nI (b + (6 + 7 * x) + 1))), (va_up (va_up (va_up a 16 (upd (a 16) x (nI 2))) 17 (upd (a 17) x (nI d15))) 18 (upd (a 18) x (nI d21))))) := hD
                  refine lv_istore (lv' := [(5, .int (-9)), (4, .int (nI d27)), (3, .int (cd (3 + 7 * x))), (0, .ref (r 0)), (1, .int (nI (b + n))), (2, .int (nI x))]) hx hb dX10_readThing_156 hl (by decide) rfl (fun ls hl => ?_)
                  refine lv_iload hx hb dX10_readThing_158 (lv_at hl 0 rfl) ?_
                  refine lv_bipush (v := (-9)) hx hb dX10_readThing_160 (by decide) ?_
                  refine lv_icmp_ne (tgt := 167) hx hb dX10_readThing_162 (by decide) (fun c_44 => absurd c_44 (by decide)) (fun _ => ?_)
                  refine lv_iconst (v := (nI 0)) hx hb dX10_readThing_165 rfl ?_
                  exact wZret hx hb hr hlocks (v := (nI 0)) (by first | exact Or.inl rfl | exact Or.inr rfl) ((upd u 13 (nI (b + (6 + 7 * x) + 1))), (va_up (va_up (va_up a 16 (upd (a 16) x (nI 2))) 17 (upd (a 17) x (nI d15))) 18 (upd (a 18) x (nI d21)))) (Or.inr ⟨rfl, ⟨7 + 7 * x, FR_at (by omega) hG28 (fun h q => hno_d33 ⟨h, (GO_d0 (x := x) (Or.inr (Or.inr rfl))).mp q⟩) (fun e => whole_no e (by omega)), show (nI (b + (6 + 7 * x) + 1)) = nI (b + (7 + 7 * x)) from congrArg nI (by omega)⟩, (fun i h13 => up_ne h13), (fun i h16 h17 h18 h19 h20 => Eq.trans (vup_ne h18) (Eq.trans (vup_ne h17) (vup_ne h16)))⟩) hK hP hD hS dX10_readThing_166
              · have hP : va_P D vwCl (xM cA r ((upd u 13 (nI (b + (5 + 7 * x) + 1))), (va_up (va_up (va_up a 16 (upd (a 16) x (nI 2))) 17 (upd (a 17) x (nI d15))) 18 (upd (a 18) x (nI d21))))) H := hP
                have hD : va_D A (xM cA r ((upd u 13 (nI (b + (5 + 7 * x) + 1))), (va_up (va_up (va_up a 16 (upd (a 16) x (nI 2))) 17 (upd (a 17) x (nI d15))) 18 (upd (a 18) x (nI d21))))) := hD
                refine lv_istore (lv' := [(4, .int (-9)), (3, .int (cd (3 + 7 * x))), (0, .ref (r 0)), (1, .int (nI (b + n))), (2, .int (nI x))]) hx hb dX10_readThing_139 hl (by decide) rfl (fun ls hl => ?_)
                refine lv_iload hx hb dX10_readThing_141 (lv_at hl 0 rfl) ?_
                refine lv_bipush (v := (-9)) hx hb dX10_readThing_143 (by decide) ?_
                refine lv_icmp_ne (tgt := 150) hx hb dX10_readThing_145 (by decide) (fun c_45 => absurd c_45 (by decide)) (fun _ => ?_)
                refine lv_iconst (v := (nI 0)) hx hb dX10_readThing_148 rfl ?_
                exact wZret hx hb hr hlocks (v := (nI 0)) (by first | exact Or.inl rfl | exact Or.inr rfl) ((upd u 13 (nI (b + (5 + 7 * x) + 1))), (va_up (va_up (va_up a 16 (upd (a 16) x (nI 2))) 17 (upd (a 17) x (nI d15))) 18 (upd (a 18) x (nI d21)))) (Or.inr ⟨rfl, ⟨6 + 7 * x, FR_at (by omega) hG22 (fun h q => hno_d27 ⟨h, (GO_d0 (x := x) (Or.inr (Or.inl rfl))).mp q⟩) (fun e => whole_no e (by omega)), show (nI (b + (5 + 7 * x) + 1)) = nI (b + (6 + 7 * x)) from congrArg nI (by omega)⟩, (fun i h13 => up_ne h13), (fun i h16 h17 h18 h19 h20 => Eq.trans (vup_ne h18) (Eq.trans (vup_ne h17) (vup_ne h16)))⟩) hK hP hD hS dX10_readThing_149
            · have hP : va_P D vwCl (xM cA r ((upd u 13 (nI (b + (4 + 7 * x) + 1))), (va_up (va_up a 16 (upd (a 16) x (nI 2))) 17 (upd (a 17) x (nI d15))))) H := hP
              have hD : va_D A (xM cA r ((upd u 13 (nI (b + (4 + 7 * x) + 1))), (va_up (va_up a 16 (upd (a 16) x (nI 2))) 17 (upd (a 17) x (nI d15))))) := hD
              refine ra_iast hx hb hK hP hD hS 11 0 (n := 6) (f := (a 18)) (j := x) (x := (-9)) rfl rfl (by omega) (by decide) dX10_readThing_119 (fun H locs hP hD hS => ?_)
              have hP : va_P D vwCl (xM cA r ((upd u 13 (nI (b + (4 + 7 * x) + 1))), (va_up (va_up (va_up a 16 (upd (a 16) x (nI 2))) 17 (upd (a 17) x (nI d15))) 18 (upd (a 18) x (-9))))) H := hP
              have hD : va_D A (xM cA r ((upd u 13 (nI (b + (4 + 7 * x) + 1))), (va_up (va_up (va_up a 16 (upd (a 16) x (nI 2))) 17 (upd (a 17) x (nI d15))) 18 (upd (a 18) x (-9))))) := hD
              refine lv_aload_n hx hb dX10_readThing_120 rfl (lv_at hl 1 rfl) ?_
              refine va_get (D := D) (ci := 10) (v := .ref (r 18)) (C := RX10) (T := TX10) (N := 34) hx hb hts hinX10 hown hK hP 0 rfl rfl 18 (by decide) (hts (.fieldLink RX10 40 "OneNailModel" "readStays" "[I") (by decide +kernel)) (fun _ h9 => h9) rfl dX10_readThing_121 ?_
              refine lv_iload_n hx hb dX10_readThing_124 rfl (lv_at hl 3 rfl) ?_
              refine ra_iald hx hb hK hP 11 0 (n := 6) (f := (upd (a 18) x (-9))) (j := x) (v := (-9)) rfl rfl (by omega) (by decide) (up_eq) dX10_readThing_125 ?_
              refine lv_bipush (v := (-9)) hx hb dX10_readThing_126 (by decide) ?_
              refine lv_icmp_ne (tgt := 133) hx hb dX10_readThing_128 (by decide) (fun c_46 => absurd c_46 (by decide)) (fun _ => ?_)
              refine lv_iconst (v := (nI 0)) hx hb dX10_readThing_131 rfl ?_
              exact wZret hx hb hr hlocks (v := (nI 0)) (by first | exact Or.inl rfl | exact Or.inr rfl) ((upd u 13 (nI (b + (4 + 7 * x) + 1))), (va_up (va_up (va_up a 16 (upd (a 16) x (nI 2))) 17 (upd (a 17) x (nI d15))) 18 (upd (a 18) x (-9)))) (Or.inr ⟨rfl, ⟨5 + 7 * x, FR_at (by omega) hG16 (fun h q => hno_d21 ⟨h, (GO_d1 (x := x) (Or.inl rfl)).mp q⟩) (fun e => whole_no e (by omega)), show (nI (b + (4 + 7 * x) + 1)) = nI (b + (5 + 7 * x)) from congrArg nI (by omega)⟩, (fun i h13 => up_ne h13), (fun i h16 h17 h18 h19 h20 => Eq.trans (vup_ne h18) (Eq.trans (vup_ne h17) (vup_ne h16)))⟩) hK hP hD hS dX10_readThing_132
          · have hP : va_P D vwCl (xM cA r ((upd u 13 (nI ((b + (3 + 7 * x)) + 1))), (va_up a 16 (upd (a 16) x (nI 2))))) H := hP
            have hD : va_D A (xM cA r ((upd u 13 (nI ((b + (3 + 7 * x)) + 1))), (va_up a 16 (upd (a 16) x (nI 2))))) := hD
            refine ra_iast hx hb hK hP hD hS 10 0 (n := 6) (f := (a 17)) (j := x) (x := (-9)) rfl rfl (by omega) (by decide) dX10_readThing_94 (fun H locs hP hD hS => ?_)
            have hP : va_P D vwCl (xM cA r ((upd u 13 (nI ((b + (3 + 7 * x)) + 1))), (va_up (va_up a 16 (upd (a 16) x (nI 2))) 17 (upd (a 17) x (-9))))) H := hP
            have hD : va_D A (xM cA r ((upd u 13 (nI ((b + (3 + 7 * x)) + 1))), (va_up (va_up a 16 (upd (a 16) x (nI 2))) 17 (upd (a 17) x (-9))))) := hD
            refine lv_aload_n hx hb dX10_readThing_95 rfl (lv_at hl 1 rfl) ?_
            refine va_get (D := D) (ci := 10) (v := .ref (r 17)) (C := RX10) (T := TX10) (N := 34) hx hb hts hinX10 hown hK hP 0 rfl rfl 17 (by decide) (hts (.fieldLink RX10 37 "OneNailModel" "readPlace" "[I") (by decide +kernel)) (fun _ h9 => h9) rfl dX10_readThing_96 ?_
            refine lv_iload_n hx hb dX10_readThing_99 rfl (lv_at hl 3 rfl) ?_
            refine ra_iald hx hb hK hP 10 0 (n := 6) (f := (upd (a 17) x (-9))) (j := x) (v := (-9)) rfl rfl (by omega) (by decide) (up_eq) dX10_readThing_100 ?_
            refine lv_bipush (v := (-9)) hx hb dX10_readThing_101 (by decide) ?_
            refine lv_icmp_ne (tgt := 108) hx hb dX10_readThing_103 (by decide) (fun c_47 => absurd c_47 (by decide)) (fun _ => ?_)
            refine lv_iconst (v := (nI 0)) hx hb dX10_readThing_106 rfl ?_
            exact wZret hx hb hr hlocks (v := (nI 0)) (by first | exact Or.inl rfl | exact Or.inr rfl) ((upd u 13 (nI ((b + (3 + 7 * x)) + 1))), (va_up (va_up a 16 (upd (a 16) x (nI 2))) 17 (upd (a 17) x (-9)))) (Or.inr ⟨rfl, ⟨4 + 7 * x, FR_at (by omega) hG11 (fun h q => hno_d15 ⟨h, (GO_d0 (x := x) (Or.inl rfl)).mp q⟩) (fun e => whole_no e (by omega)), show (nI ((b + (3 + 7 * x)) + 1)) = nI (b + (4 + 7 * x)) from congrArg nI (by omega)⟩, (fun i h13 => up_ne h13), (fun i h16 h17 h18 h19 h20 => Eq.trans (vup_ne h17) (vup_ne h16))⟩) hK hP hD hS dX10_readThing_107
      · refine lv_iconst (v := (nI 1)) hx hb dX10_readThing_43 rfl ?_
        refine lv_goto (tgt := 59) hx hb dX10_readThing_44 (by decide) ?_
        refine ra_iast hx hb hK hP hD hS 9 0 (n := 6) (f := (a 16)) (j := x) (x := (nI 1)) rfl rfl (by omega) (by decide) dX10_readThing_59 (fun H locs hP hD hS => ?_)
        have hP : va_P D vwCl (xM cA r (u, (va_up a 16 (upd (a 16) x (nI 1))))) H := hP
        have hD : va_D A (xM cA r (u, (va_up a 16 (upd (a 16) x (nI 1))))) := hD
        refine lv_aload_n hx hb dX10_readThing_60 rfl (lv_at hl 1 rfl) ?_
        refine va_get (D := D) (ci := 10) (v := .ref (r 16)) (C := RX10) (T := TX10) (N := 34) hx hb hts hinX10 hown hK hP 0 rfl rfl 16 (by decide) (hts (.fieldLink RX10 34 "OneNailModel" "readKind" "[I") (by decide +kernel)) (fun _ h9 => h9) rfl dX10_readThing_61 ?_
        refine lv_iload_n hx hb dX10_readThing_64 rfl (lv_at hl 3 rfl) ?_
        refine ra_iald hx hb hK hP 9 0 (n := 6) (f := (upd (a 16) x (nI 1))) (j := x) (v := (nI 1)) rfl rfl (by omega) (by decide) (up_eq) dX10_readThing_65 ?_
        refine lv_bipush (v := (-9)) hx hb dX10_readThing_66 (by decide) ?_
        refine lv_icmp_ne (tgt := 73) hx hb dX10_readThing_68 (by decide) (fun _ => ?_) (fun c_48 => absurd c_48 (by decide))
        have hG49 : ∀ j, j < 4 + 7 * x → Gd cd j := Gd_ext hG0 ⟨(GO_k rfl).mpr (Or.inr (Or.inl c_7)), Zr_no (by omega)⟩ (by omega)
        refine lv_aload_n hx hb dX10_readThing_73 rfl (lv_at hl 1 rfl) ?_
        refine lv_dup hx hb dX10_readThing_74 rfl ?_
        refine va_get (D := D) (ci := 10) (v := .int (nI (b + (3 + 7 * x)))) (C := RX10) (T := TX10) (N := 34) hx hb hts hinX10 hown hK hP 0 rfl rfl 13 (by decide) (hts (.fieldLink RX10 93 "OneNailModel" "at" "I") (by decide +kernel)) (fun _ h9 => h9) (congrArg (fun z => some (Value.int z)) (hat)) dX10_readThing_75 ?_
        refine lv_iconst (v := (nI 1)) hx hb dX10_readThing_78 rfl ?_
        refine rn_iadd (x := b + (3 + 7 * x)) (y := 1) hx hb dX10_readThing_79 ?_
        refine va_put (D := D) (ci := 10) (v := .int (nI ((b + (3 + 7 * x)) + 1))) (ty := .int) (C := RX10) (T := TX10) (N := 34) hx hb hts hinX10 tyX10 tyX10_ok nmX10 hown hK hP hD hS 0 rfl rfl 13 (by decide) (hts (.fieldLink RX10 93 "OneNailModel" "at" "I") (by decide +kernel)) (fun _ h9 => h9) rfl (by decide +kernel) rfl rfl (Nat.le_of_ble_eq_true rfl) dX10_readThing_80 (fun H locs hP hD hS => ?_)
        have hP : va_P D vwCl (xM cA r ((upd u 13 (nI ((b + (3 + 7 * x)) + 1))), (va_up a 16 (upd (a 16) x (nI 1))))) H := hP
        have hD : va_D A (xM cA r ((upd u 13 (nI ((b + (3 + 7 * x)) + 1))), (va_up a 16 (upd (a 16) x (nI 1))))) := hD
        refine lv_aload_n hx hb dX10_readThing_83 rfl (lv_at hl 1 rfl) ?_
        refine va_get (D := D) (ci := 10) (v := .ref (r 17)) (C := RX10) (T := TX10) (N := 34) hx hb hts hinX10 hown hK hP 0 rfl rfl 17 (by decide) (hts (.fieldLink RX10 37 "OneNailModel" "readPlace" "[I") (by decide +kernel)) (fun _ h9 => h9) rfl dX10_readThing_84 ?_
        refine lv_iload_n hx hb dX10_readThing_87 rfl (lv_at hl 3 rfl) ?_
        refine lv_aload_n hx hb dX10_readThing_88 rfl (lv_at hl 1 rfl) ?_
        refine lv_iload_n hx hb dX10_readThing_89 rfl (lv_at hl 2 rfl) ?_
        refine lv_iconst (v := (nI 0)) hx hb dX10_readThing_90 rfl ?_
        refine wVi e0_S (As := [.int (nI (b + n)), .int (nI 0)]) (rest := [.int (nI x), .ref (r 17)]) ⟨hx, hb, hml, hown, hts⟩ (kX10_digit l D cA r _ (upd u 13 (nI ((b + (3 + 7 * x)) + 1))) (va_up a 16 (upd (a 16) x (nI 1))) b n cd (4 + 7 * x) 0 hbn (fun q hq => (congrFun rfl (b + q)).trans (hcd q hq)) (by omega) (by omega) (show (nI ((b + (3 + 7 * x)) + 1)) = nI (b + (4 + 7 * x)) from congrArg nI (by omega))) (cwV 2 hts gX10_readThing_X10_digit rfl rfl rfl (by decide +kernel) ⟨Nat.le_of_ble_eq_true rfl, Nat.le_of_ble_eq_true rfl⟩) (va_recv hK hP (ci := 10) (q0 := 0) rfl rfl) hK hP hD hS hA hE rfl hl.1 rfl (Nat.le_of_ble_eq_true rfl) dX10_readThing_91 ⟨Nat.zero_le _, Nat.zero_le _⟩ (fun rv_50 z_52 H locs hw_51 hP hD hS => ?_)
        rcases hw_51 with ⟨d53, rfl, hpn_d53, hcdp_d53, hld_d53, hd9_d53, rfl⟩ | ⟨rfl, hno_d53, rfl⟩
        · have hP : va_P D vwCl (xM cA r ((upd u 13 (nI (b + (4 + 7 * x) + 1))), (va_up a 16 (upd (a 16) x (nI 1))))) H := hP
          have hD : va_D A (xM cA r ((upd u 13 (nI (b + (4 + 7 * x) + 1))), (va_up a 16 (upd (a 16) x (nI 1))))) := hD
          have hG54 : ∀ j, j < 5 + 7 * x → Gd cd j := Gd_ext hG49 ⟨(GO_d0 (x := x) (Or.inl rfl)).mpr ⟨d53, hld_d53, hd9_d53, hcdp_d53⟩, Zr_no (by omega)⟩ (by omega)
          refine ra_iast hx hb hK hP hD hS 10 0 (n := 6) (f := (a 17)) (j := x) (x := (nI d53)) rfl rfl (by omega) (by decide) dX10_readThing_94 (fun H locs hP hD hS => ?_)
          have hP : va_P D vwCl (xM cA r ((upd u 13 (nI (b + (4 + 7 * x) + 1))), (va_up (va_up a 16 (upd (a 16) x (nI 1))) 17 (upd (a 17) x (nI d53))))) H := hP
          have hD : va_D A (xM cA r ((upd u 13 (nI (b + (4 + 7 * x) + 1))), (va_up (va_up a 16 (upd (a 16) x (nI 1))) 17 (upd (a 17) x (nI d53))))) := hD
          refine lv_aload_n hx hb dX10_readThing_95 rfl (lv_at hl 1 rfl) ?_
          refine va_get (D := D) (ci := 10) (v := .ref (r 17)) (C := RX10) (T := TX10) (N := 34) hx hb hts hinX10 hown hK hP 0 rfl rfl 17 (by decide) (hts (.fieldLink RX10 37 "OneNailModel" "readPlace" "[I") (by decide +kernel)) (fun _ h9 => h9) rfl dX10_readThing_96 ?_
          refine lv_iload_n hx hb dX10_readThing_99 rfl (lv_at hl 3 rfl) ?_
          refine ra_iald hx hb hK hP 10 0 (n := 6) (f := (upd (a 17) x (nI d53))) (j := x) (v := (nI d53)) rfl rfl (by omega) (by decide) (up_eq) dX10_readThing_100 ?_
          refine lv_bipush (v := (-9)) hx hb dX10_readThing_101 (by decide) ?_
          refine lv_icmp_ne (tgt := 108) hx hb dX10_readThing_103 (by decide) (fun c_55 => ?_) (fun c_55 => absurd c_55 (nI_ne9 (by omega)))
          refine lv_aload_n hx hb dX10_readThing_108 rfl (lv_at hl 1 rfl) ?_
          refine va_get (D := D) (ci := 10) (v := .ref (r 18)) (C := RX10) (T := TX10) (N := 34) hx hb hts hinX10 hown hK hP 0 rfl rfl 18 (by decide) (hts (.fieldLink RX10 40 "OneNailModel" "readStays" "[I") (by decide +kernel)) (fun _ h9 => h9) rfl dX10_readThing_109 ?_
          refine lv_iload_n hx hb dX10_readThing_112 rfl (lv_at hl 3 rfl) ?_
          refine lv_aload_n hx hb dX10_readThing_113 rfl (lv_at hl 1 rfl) ?_
          refine lv_iload_n hx hb dX10_readThing_114 rfl (lv_at hl 2 rfl) ?_
          refine lv_iconst (v := (nI 1)) hx hb dX10_readThing_115 rfl ?_
          refine wVi e0_S (As := [.int (nI (b + n)), .int (nI 1)]) (rest := [.int (nI x), .ref (r 18)]) ⟨hx, hb, hml, hown, hts⟩ (kX10_digit l D cA r _ (upd u 13 (nI (b + (4 + 7 * x) + 1))) (va_up (va_up a 16 (upd (a 16) x (nI 1))) 17 (upd (a 17) x (nI d53))) b n cd (5 + 7 * x) 1 hbn (fun q hq => (congrFun rfl (b + q)).trans (hcd q hq)) (by omega) (by omega) (show (nI (b + (4 + 7 * x) + 1)) = nI (b + (5 + 7 * x)) from congrArg nI (by omega))) (cwV 2 hts gX10_readThing_X10_digit rfl rfl rfl (by decide +kernel) ⟨Nat.le_of_ble_eq_true rfl, Nat.le_of_ble_eq_true rfl⟩) (va_recv hK hP (ci := 10) (q0 := 0) rfl rfl) hK hP hD hS hA hE rfl hl.1 rfl (Nat.le_of_ble_eq_true rfl) dX10_readThing_116 ⟨Nat.zero_le _, Nat.zero_le _⟩ (fun rv_56 z_58 H locs hw_57 hP hD hS => ?_)
          rcases hw_57 with ⟨d59, rfl, hpn_d59, hcdp_d59, hld_d59, hd9_d59, rfl⟩ | ⟨rfl, hno_d59, rfl⟩
          · have hP : va_P D vwCl (xM cA r ((upd u 13 (nI (b + (5 + 7 * x) + 1))), (va_up (va_up a 16 (upd (a 16) x (nI 1))) 17 (upd (a 17) x (nI d53))))) H := hP
            have hD : va_D A (xM cA r ((upd u 13 (nI (b + (5 + 7 * x) + 1))), (va_up (va_up a 16 (upd (a 16) x (nI 1))) 17 (upd (a 17) x (nI d53))))) := hD
            have hG60 : ∀ j, j < 6 + 7 * x → Gd cd j := Gd_ext hG54 ⟨(GO_d1 (x := x) (Or.inl rfl)).mpr ⟨d59, hld_d59, hd9_d59, hcdp_d59⟩, Zr_no (by omega)⟩ (by omega)
            refine ra_iast hx hb hK hP hD hS 11 0 (n := 6) (f := (a 18)) (j := x) (x := (nI d59)) rfl rfl (by omega) (by decide) dX10_readThing_119 (fun H locs hP hD hS => ?_)
            have hP : va_P D vwCl (xM cA r ((upd u 13 (nI (b + (5 + 7 * x) + 1))), (va_up (va_up (va_up a 16 (upd (a 16) x (nI 1))) 17 (upd (a 17) x (nI d53))) 18 (upd (a 18) x (nI d59))))) H := hP
            have hD : va_D A (xM cA r ((upd u 13 (nI (b + (5 + 7 * x) + 1))), (va_up (va_up (va_up a 16 (upd (a 16) x (nI 1))) 17 (upd (a 17) x (nI d53))) 18 (upd (a 18) x (nI d59))))) := hD
            refine lv_aload_n hx hb dX10_readThing_120 rfl (lv_at hl 1 rfl) ?_
            refine va_get (D := D) (ci := 10) (v := .ref (r 18)) (C := RX10) (T := TX10) (N := 34) hx hb hts hinX10 hown hK hP 0 rfl rfl 18 (by decide) (hts (.fieldLink RX10 40 "OneNailModel" "readStays" "[I") (by decide +kernel)) (fun _ h9 => h9) rfl dX10_readThing_121 ?_
            refine lv_iload_n hx hb dX10_readThing_124 rfl (lv_at hl 3 rfl) ?_
            refine ra_iald hx hb hK hP 11 0 (n := 6) (f := (upd (a 18) x (nI d59))) (j := x) (v := (nI d59)) rfl rfl (by omega) (by decide) (up_eq) dX10_readThing_125 ?_
            refine lv_bipush (v := (-9)) hx hb dX10_readThing_126 (by decide) ?_
            refine lv_icmp_ne (tgt := 133) hx hb dX10_readThing_128 (by decide) (fun c_61 => ?_) (fun c_61 => absurd c_61 (nI_ne9 (by omega)))
            refine lv_aload_n hx hb dX10_readThing_133 rfl (lv_at hl 1 rfl) ?_
            refine lv_iload_n hx hb dX10_readThing_134 rfl (lv_at hl 2 rfl) ?_
            refine lv_iconst (v := (nI 0)) hx hb dX10_readThing_135 rfl ?_
            refine wVi e0_S (As := [.int (nI (b + n)), .int (nI 0)]) (rest := []) ⟨hx, hb, hml, hown, hts⟩ (kX10_digit l D cA r _ (upd u 13 (nI (b + (5 + 7 * x) + 1))) (va_up (va_up (va_up a 16 (upd (a 16) x (nI 1))) 17 (upd (a 17) x (nI d53))) 18 (upd (a 18) x (nI d59))) b n cd (6 + 7 * x) 0 hbn (fun q hq => (congrFun rfl (b + q)).trans (hcd q hq)) (by omega) (by omega) (show (nI (b + (5 + 7 * x) + 1)) = nI (b + (6 + 7 * x)) from congrArg nI (by omega))) (cwV 2 hts gX10_readThing_X10_digit rfl rfl rfl (by decide +kernel) ⟨Nat.le_of_ble_eq_true rfl, Nat.le_of_ble_eq_true rfl⟩) (va_recv hK hP (ci := 10) (q0 := 0) rfl rfl) hK hP hD hS hA hE rfl hl.1 rfl (Nat.le_of_ble_eq_true rfl) dX10_readThing_136 ⟨Nat.zero_le _, Nat.zero_le _⟩ (fun rv_62 z_64 H locs hw_63 hP hD hS => ?_)
            rcases hw_63 with ⟨d65, rfl, hpn_d65, hcdp_d65, hld_d65, hd9_d65, rfl⟩ | ⟨rfl, hno_d65, rfl⟩
            · have hP : va_P D vwCl (xM cA r ((upd u 13 (nI (b + (6 + 7 * x) + 1))), (va_up (va_up (va_up a 16 (upd (a 16) x (nI 1))) 17 (upd (a 17) x (nI d53))) 18 (upd (a 18) x (nI d59))))) H := hP
              have hD : va_D A (xM cA r ((upd u 13 (nI (b + (6 + 7 * x) + 1))), (va_up (va_up (va_up a 16 (upd (a 16) x (nI 1))) 17 (upd (a 17) x (nI d53))) 18 (upd (a 18) x (nI d59))))) := hD
              have hG66 : ∀ j, j < 7 + 7 * x → Gd cd j := Gd_ext hG60 ⟨(GO_d0 (x := x) (Or.inr (Or.inl rfl))).mpr ⟨d65, hld_d65, hd9_d65, hcdp_d65⟩, Zr_no (by omega)⟩ (by omega)
              refine lv_istore (lv' := [(4, .int (nI d65)), (3, .int (cd (3 + 7 * x))), (0, .ref (r 0)), (1, .int (nI (b + n))), (2, .int (nI x))]) hx hb dX10_readThing_139 hl (by decide) rfl (fun ls hl => ?_)
              refine lv_iload hx hb dX10_readThing_141 (lv_at hl 0 rfl) ?_
              refine lv_bipush (v := (-9)) hx hb dX10_readThing_143 (by decide) ?_
              refine lv_icmp_ne (tgt := 150) hx hb dX10_readThing_145 (by decide) (fun c_67 => ?_) (fun c_67 => absurd c_67 (nI_ne9 (by omega)))
              refine lv_aload_n hx hb dX10_readThing_150 rfl (lv_at hl 2 rfl) ?_
              refine lv_iload_n hx hb dX10_readThing_151 rfl (lv_at hl 3 rfl) ?_
              refine lv_iconst (v := (nI 0)) hx hb dX10_readThing_152 rfl ?_
              refine wVi e0_S (As := [.int (nI (b + n)), .int (nI 0)]) (rest := []) ⟨hx, hb, hml, hown, hts⟩ (kX10_digit l D cA r _ (upd u 13 (nI (b + (6 + 7 * x) + 1))) (va_up (va_up (va_up a 16 (upd (a 16) x (nI 1))) 17 (upd (a 17) x (nI d53))) 18 (upd (a 18) x (nI d59))) b n cd (7 + 7 * x) 0 hbn (fun q hq => (congrFun rfl (b + q)).trans (hcd q hq)) (by omega) (by omega) (show (nI (b + (6 + 7 * x) + 1)) = nI (b + (7 + 7 * x)) from congrArg nI (by omega))) (cwV 2 hts gX10_readThing_X10_digit rfl rfl rfl (by decide +kernel) ⟨Nat.le_of_ble_eq_true rfl, Nat.le_of_ble_eq_true rfl⟩) (va_recv hK hP (ci := 10) (q0 := 0) rfl rfl) hK hP hD hS hA hE rfl hl.1 rfl (Nat.le_of_ble_eq_true rfl) dX10_readThing_153 ⟨Nat.zero_le _, Nat.zero_le _⟩ (fun rv_68 z_70 H locs hw_69 hP hD hS => ?_)
              rcases hw_69 with ⟨d71, rfl, hpn_d71, hcdp_d71, hld_d71, hd9_d71, rfl⟩ | ⟨rfl, hno_d71, rfl⟩
              · have hP : va_P D vwCl (xM cA r ((upd u 13 (nI (b + (7 + 7 * x) + 1))), (va_up (va_up (va_up a 16 (upd (a 16) x (nI 1))) 17 (upd (a 17) x (nI d53))) 18 (upd (a 18) x (nI d59))))) H := hP
                have hD : va_D A (xM cA r ((upd u 13 (nI (b + (7 + 7 * x) + 1))), (va_up (va_up (va_up a 16 (upd (a 16) x (nI 1))) 17 (upd (a 17) x (nI d53))) 18 (upd (a 18) x (nI d59))))) := hD
                refine lv_istore (lv' := [(5, .int (nI d71)), (4, .int (nI d65)), (3, .int (cd (3 + 7 * x))), (0, .ref (r 0)), (1, .int (nI (b + n))), (2, .int (nI x))]) hx hb dX10_readThing_156 hl (by decide) rfl (fun ls hl => ?_)
                refine lv_iload hx hb dX10_readThing_158 (lv_at hl 0 rfl) ?_
                refine lv_bipush (v := (-9)) hx hb dX10_readThing_160 (by decide) ?_
                refine lv_icmp_ne (tgt := 167) hx hb dX10_readThing_162 (by decide) (fun c_72 => ?_) (fun c_72 => absurd c_72 (nI_ne9 (by omega)))
                refine lv_aload_n hx hb dX10_readThing_167 rfl (lv_at hl 3 rfl) ?_
                refine va_get (D := D) (ci := 10) (v := .ref (r 19)) (C := RX10) (T := TX10) (N := 34) hx hb hts hinX10 hown hK hP 0 rfl rfl 19 (by decide) (hts (.fieldLink RX10 43 "OneNailModel" "readHold" "[I") (by decide +kernel)) (fun _ h9 => h9) rfl dX10_readThing_168 ?_
                refine lv_iload_n hx hb dX10_readThing_171 rfl (lv_at hl 5 rfl) ?_
                refine lv_bipush (v := (nI 10)) hx hb dX10_readThing_172 rfl ?_
                refine lv_iload hx hb dX10_readThing_174 (lv_at hl 1 rfl) ?_
                refine rn_imul (x := 10) (y := d65) hx hb dX10_readThing_176 ?_
                refine lv_iload hx hb dX10_readThing_177 (lv_at hl 0 rfl) ?_
                refine rn_iadd (x := 10 * d65) (y := d71) hx hb dX10_readThing_179 ?_
                refine ra_iast hx hb hK hP hD hS 12 0 (n := 6) (f := (a 19)) (j := x) (x := (nI ((10 * d65) + d71))) rfl rfl (by omega) (by decide) dX10_readThing_180 (fun H locs hP hD hS => ?_)
                have hP : va_P D vwCl (xM cA r ((upd u 13 (nI (b + (7 + 7 * x) + 1))), (va_up (va_up (va_up (va_up a 16 (upd (a 16) x (nI 1))) 17 (upd (a 17) x (nI d53))) 18 (upd (a 18) x (nI d59))) 19 (upd (a 19) x (nI ((10 * d65) + d71)))))) H := hP
                have hD : va_D A (xM cA r ((upd u 13 (nI (b + (7 + 7 * x) + 1))), (va_up (va_up (va_up (va_up a 16 (upd (a 16) x (nI 1))) 17 (upd (a 17) x (nI d53))) 18 (upd (a 18) x (nI d59))) 19 (upd (a 19) x (nI ((10 * d65) + d71)))))) := hD
                refine lv_aload_n hx hb dX10_readThing_181 rfl (lv_at hl 3 rfl) ?_
                refine va_get (D := D) (ci := 10) (v := .ref (r 19)) (C := RX10) (T := TX10) (N := 34) hx hb hts hinX10 hown hK hP 0 rfl rfl 19 (by decide) (hts (.fieldLink RX10 43 "OneNailModel" "readHold" "[I") (by decide +kernel)) (fun _ h9 => h9) rfl dX10_readThing_182 ?_
                refine lv_iload_n hx hb dX10_readThing_185 rfl (lv_at hl 5 rfl) ?_
                refine ra_iald hx hb hK hP 12 0 (n := 6) (f := (upd (a 19) x (nI ((10 * d65) + d71)))) (j := x) (v := (nI ((10 * d65) + d71))) rfl rfl (by omega) (by decide) (up_eq) dX10_readThing_186 ?_
                refine rz_ne (x := (10 * d65) + d71) (tgt := 202) hx hb (by omega) dX10_readThing_187 (by decide) (fun c_73 => ?_) (fun c_73 => ?_)
                · have hG74 : ∀ j, j < 8 + 7 * x → Gd cd j := Gd_ext hG66 ⟨(GO_d0 (x := x) (Or.inr (Or.inr rfl))).mpr ⟨d71, hld_d71, hd9_d71, hcdp_d71⟩, (fun q => by have e1 := (nI_eq (by omega) (by decide)).mp (hcdp_d71.symm.trans q.2.2.1); have e2 := q.2.2.2; rw [show 7 + 7 * x - 1 = 6 + 7 * x by omega] at e2; have e3 := (nI_eq (by omega) (by decide)).mp (hcdp_d65.symm.trans e2); omega)⟩ (by omega)
                  refine lv_aload_n hx hb dX10_readThing_202 rfl (lv_at hl 3 rfl) ?_
                  refine va_get (D := D) (ci := 10) (v := .ref (r 20)) (C := RX10) (T := TX10) (N := 34) hx hb hts hinX10 hown hK hP 0 rfl rfl 20 (by decide) (hts (.fieldLink RX10 46 "OneNailModel" "readHarms" "[I") (by decide +kernel)) (fun _ h9 => h9) rfl dX10_readThing_203 ?_
                  refine lv_iload_n hx hb dX10_readThing_206 rfl (lv_at hl 5 rfl) ?_
                  refine lv_aload_n hx hb dX10_readThing_207 rfl (lv_at hl 3 rfl) ?_
                  refine lv_iload_n hx hb dX10_readThing_208 rfl (lv_at hl 4 rfl) ?_
                  refine lv_iconst (v := (nI 1)) hx hb dX10_readThing_209 rfl ?_
                  refine wVi e0_S (As := [.int (nI (b + n)), .int (nI 1)]) (rest := [.int (nI x), .ref (r 20)]) ⟨hx, hb, hml, hown, hts⟩ (kX10_digit l D cA r _ (upd u 13 (nI (b + (7 + 7 * x) + 1))) (va_up (va_up (va_up (va_up a 16 (upd (a 16) x (nI 1))) 17 (upd (a 17) x (nI d53))) 18 (upd (a 18) x (nI d59))) 19 (upd (a 19) x (nI ((10 * d65) + d71)))) b n cd (8 + 7 * x) 1 hbn (fun q hq => (congrFun rfl (b + q)).trans (hcd q hq)) (by omega) (by omega) (show (nI (b + (7 + 7 * x) + 1)) = nI (b + (8 + 7 * x)) from congrArg nI (by omega))) (cwV 2 hts gX10_readThing_X10_digit rfl rfl rfl (by decide +kernel) ⟨Nat.le_of_ble_eq_true rfl, Nat.le_of_ble_eq_true rfl⟩) (va_recv hK hP (ci := 10) (q0 := 0) rfl rfl) hK hP hD hS hA hE rfl hl.1 rfl (Nat.le_of_ble_eq_true rfl) dX10_readThing_210 ⟨Nat.zero_le _, Nat.zero_le _⟩ (fun rv_75 z_77 H locs hw_76 hP hD hS => ?_)
                  rcases hw_76 with ⟨d78, rfl, hpn_d78, hcdp_d78, hld_d78, hd9_d78, rfl⟩ | ⟨rfl, hno_d78, rfl⟩
                  · have hP : va_P D vwCl (xM cA r ((upd u 13 (nI (b + (8 + 7 * x) + 1))), (va_up (va_up (va_up (va_up a 16 (upd (a 16) x (nI 1))) 17 (upd (a 17) x (nI d53))) 18 (upd (a 18) x (nI d59))) 19 (upd (a 19) x (nI ((10 * d65) + d71)))))) H := hP
                    have hD : va_D A (xM cA r ((upd u 13 (nI (b + (8 + 7 * x) + 1))), (va_up (va_up (va_up (va_up a 16 (upd (a 16) x (nI 1))) 17 (upd (a 17) x (nI d53))) 18 (upd (a 18) x (nI d59))) 19 (upd (a 19) x (nI ((10 * d65) + d71)))))) := hD
                    have hG79 : ∀ j, j < 9 + 7 * x → Gd cd j := Gd_ext hG74 ⟨(GO_d1 (x := x) (Or.inr rfl)).mpr ⟨d78, hld_d78, hd9_d78, hcdp_d78⟩, Zr_no (by omega)⟩ (by omega)
                    refine ra_iast hx hb hK hP hD hS 13 0 (n := 6) (f := (a 20)) (j := x) (x := (nI d78)) rfl rfl (by omega) (by decide) dX10_readThing_213 (fun H locs hP hD hS => ?_)
                    have hP : va_P D vwCl (xM cA r ((upd u 13 (nI (b + (8 + 7 * x) + 1))), (va_up (va_up (va_up (va_up (va_up a 16 (upd (a 16) x (nI 1))) 17 (upd (a 17) x (nI d53))) 18 (upd (a 18) x (nI d59))) 19 (upd (a 19) x (nI ((10 * d65) + d71)))) 20 (upd (a 20) x (nI d78))))) H := hP
                    have hD : va_D A (xM cA r ((upd u 13 (nI (b + (8 + 7 * x) + 1))), (va_up (va_up (va_up (va_up (va_up a 16 (upd (a 16) x (nI 1))) 17 (upd (a 17) x (nI d53))) 18 (upd (a 18) x (nI d59))) 19 (upd (a 19) x (nI ((10 * d65) + d71)))) 20 (upd (a 20) x (nI d78))))) := hD
                    refine lv_aload_n hx hb dX10_readThing_214 rfl (lv_at hl 3 rfl) ?_
                    refine va_get (D := D) (ci := 10) (v := .ref (r 20)) (C := RX10) (T := TX10) (N := 34) hx hb hts hinX10 hown hK hP 0 rfl rfl 20 (by decide) (hts (.fieldLink RX10 46 "OneNailModel" "readHarms" "[I") (by decide +kernel)) (fun _ h9 => h9) rfl dX10_readThing_215 ?_
                    refine lv_iload_n hx hb dX10_readThing_218 rfl (lv_at hl 5 rfl) ?_
                    refine ra_iald hx hb hK hP 13 0 (n := 6) (f := (upd (a 20) x (nI d78))) (j := x) (v := (nI d78)) rfl rfl (by omega) (by decide) (up_eq) dX10_readThing_219 ?_
                    refine lv_bipush (v := (-9)) hx hb dX10_readThing_220 (by decide) ?_
                    refine lv_icmp_eq (tgt := 229) hx hb dX10_readThing_222 (by decide) (fun c_80 => absurd c_80 (nI_ne9 (by omega))) (fun c_80 => ?_)
                    refine lv_iconst (v := (nI 1)) hx hb dX10_readThing_225 rfl ?_
                    refine lv_goto (tgt := 230) hx hb dX10_readThing_226 (by decide) ?_
                    exact wZret hx hb hr hlocks (v := (nI 1)) (by first | exact Or.inl rfl | exact Or.inr rfl) ((upd u 13 (nI (b + (8 + 7 * x) + 1))), (va_up (va_up (va_up (va_up (va_up a 16 (upd (a 16) x (nI 1))) 17 (upd (a 17) x (nI d53))) 18 (upd (a 18) x (nI d59))) 19 (upd (a 19) x (nI ((10 * d65) + d71)))) 20 (upd (a 20) x (nI d78)))) (Or.inl ⟨rfl, by omega, hG79, show (nI (b + (8 + 7 * x) + 1)) = nI (b + (9 + 7 * x)) from congrArg nI (by omega), (fun i h13 => up_ne h13), congrArg (fun z => upd (a 16) x (nI z)) (show _ = TP cd 0 x from (by rw [show TP cd 0 x = kdn (cd (3 + 7 * x)) from rfl]; unfold kdn; rw [if_neg c_6, if_pos c_7])), congrArg (fun z => upd (a 17) x (nI z)) (show _ = TP cd 1 x from (vl_eq hcdp_d53 hd9_d53).symm), congrArg (fun z => upd (a 18) x (nI z)) (show _ = TP cd 2 x from (vl_eq hcdp_d59 hd9_d59).symm), congrArg (fun z => upd (a 19) x (nI z)) (show _ = TP cd 3 x from (by show _ = 10 * vl (cd (6 + 7 * x)) + vl (cd (7 + 7 * x)); rw [vl_eq hcdp_d65 hd9_d65, vl_eq hcdp_d71 hd9_d71])), congrArg (fun z => upd (a 20) x (nI z)) (show _ = TP cd 4 x from (vl_eq hcdp_d78 hd9_d78).symm), (fun i h16 h17 h18 h19 h20 => Eq.trans (vup_ne h20) (Eq.trans (vup_ne h19) (Eq.trans (vup_ne h18) (Eq.trans (vup_ne h17) (vup_ne h16)))))⟩) hK hP hD hS dX10_readThing_230
                  · have hP : va_P D vwCl (xM cA r ((upd u 13 (nI (b + (7 + 7 * x) + 1))), (va_up (va_up (va_up (va_up a 16 (upd (a 16) x (nI 1))) 17 (upd (a 17) x (nI d53))) 18 (upd (a 18) x (nI d59))) 19 (upd (a 19) x (nI ((10 * d65) + d71)))))) H := hP
                    have hD : va_D A (xM cA r ((upd u 13 (nI (b + (7 + 7 * x) + 1))), (va_up (va_up (va_up (va_up a 16 (upd (a 16) x (nI 1))) 17 (upd (a 17) x (nI d53))) 18 (upd (a 18) x (nI d59))) 19 (upd (a 19) x (nI ((10 * d65) + d71)))))) := hD
                    refine ra_iast hx hb hK hP hD hS 13 0 (n := 6) (f := (a 20)) (j := x) (x := (-9)) rfl rfl (by omega) (by decide) dX10_readThing_213 (fun H locs hP hD hS => ?_)
                    have hP : va_P D vwCl (xM cA r ((upd u 13 (nI (b + (7 + 7 * x) + 1))), (va_up (va_up (va_up (va_up (va_up a 16 (upd (a 16) x (nI 1))) 17 (upd (a 17) x (nI d53))) 18 (upd (a 18) x (nI d59))) 19 (upd (a 19) x (nI ((10 * d65) + d71)))) 20 (upd (a 20) x (-9))))) H := hP
                    have hD : va_D A (xM cA r ((upd u 13 (nI (b + (7 + 7 * x) + 1))), (va_up (va_up (va_up (va_up (va_up a 16 (upd (a 16) x (nI 1))) 17 (upd (a 17) x (nI d53))) 18 (upd (a 18) x (nI d59))) 19 (upd (a 19) x (nI ((10 * d65) + d71)))) 20 (upd (a 20) x (-9))))) := hD
                    refine lv_aload_n hx hb dX10_readThing_214 rfl (lv_at hl 3 rfl) ?_
                    refine va_get (D := D) (ci := 10) (v := .ref (r 20)) (C := RX10) (T := TX10) (N := 34) hx hb hts hinX10 hown hK hP 0 rfl rfl 20 (by decide) (hts (.fieldLink RX10 46 "OneNailModel" "readHarms" "[I") (by decide +kernel)) (fun _ h9 => h9) rfl dX10_readThing_215 ?_
                    refine lv_iload_n hx hb dX10_readThing_218 rfl (lv_at hl 5 rfl) ?_
                    refine ra_iald hx hb hK hP 13 0 (n := 6) (f := (upd (a 20) x (-9))) (j := x) (v := (-9)) rfl rfl (by omega) (by decide) (up_eq) dX10_readThing_219 ?_
                    refine lv_bipush (v := (-9)) hx hb dX10_readThing_220 (by decide) ?_
                    refine lv_icmp_eq (tgt := 229) hx hb dX10_readThing_222 (by decide) (fun _ => ?_) (fun c_81 => absurd c_81 (by decide))
                    refine lv_iconst (v := (nI 0)) hx hb dX10_readThing_229 rfl ?_
                    exact wZret hx hb hr hlocks (v := (nI 0)) (by first | exact Or.inl rfl | exact Or.inr rfl) ((upd u 13 (nI (b + (7 + 7 * x) + 1))), (va_up (va_up (va_up (va_up (va_up a 16 (upd (a 16) x (nI 1))) 17 (upd (a 17) x (nI d53))) 18 (upd (a 18) x (nI d59))) 19 (upd (a 19) x (nI ((10 * d65) + d71)))) 20 (upd (a 20) x (-9)))) (Or.inr ⟨rfl, ⟨8 + 7 * x, FR_at (by omega) hG74 (fun h q => hno_d78 ⟨h, (GO_d1 (x := x) (Or.inr rfl)).mp q⟩) (fun e => whole_no e (by omega)), show (nI (b + (7 + 7 * x) + 1)) = nI (b + (8 + 7 * x)) from congrArg nI (by omega)⟩, (fun i h13 => up_ne h13), (fun i h16 h17 h18 h19 h20 => Eq.trans (vup_ne h20) (Eq.trans (vup_ne h19) (Eq.trans (vup_ne h18) (Eq.trans (vup_ne h17) (vup_ne h16)))))⟩) hK hP hD hS dX10_readThing_230
                · refine lv_aload_n hx hb dX10_readThing_190 rfl (lv_at hl 3 rfl) ?_
                  refine lv_dup hx hb dX10_readThing_191 rfl ?_
                  refine va_get (D := D) (ci := 10) (v := .int (nI (b + (7 + 7 * x) + 1))) (C := RX10) (T := TX10) (N := 34) hx hb hts hinX10 hown hK hP 0 rfl rfl 13 (by decide) (hts (.fieldLink RX10 93 "OneNailModel" "at" "I") (by decide +kernel)) (fun _ h9 => h9) rfl dX10_readThing_192 ?_
                  refine lv_iconst (v := (nI 2)) hx hb dX10_readThing_195 rfl ?_
                  refine rn_isub (x := b + (7 + 7 * x) + 1) (y := 2) hx hb (by omega) dX10_readThing_196 ?_
                  refine va_put (D := D) (ci := 10) (v := .int (nI ((b + (7 + 7 * x) + 1) - 2))) (ty := .int) (C := RX10) (T := TX10) (N := 34) hx hb hts hinX10 tyX10 tyX10_ok nmX10 hown hK hP hD hS 0 rfl rfl 13 (by decide) (hts (.fieldLink RX10 93 "OneNailModel" "at" "I") (by decide +kernel)) (fun _ h9 => h9) rfl (by decide +kernel) rfl rfl (Nat.le_of_ble_eq_true rfl) dX10_readThing_197 (fun H locs hP hD hS => ?_)
                  have hP : va_P D vwCl (xM cA r ((upd u 13 (nI ((b + (7 + 7 * x) + 1) - 2))), (va_up (va_up (va_up (va_up a 16 (upd (a 16) x (nI 1))) 17 (upd (a 17) x (nI d53))) 18 (upd (a 18) x (nI d59))) 19 (upd (a 19) x (nI ((10 * d65) + d71)))))) H := hP
                  have hD : va_D A (xM cA r ((upd u 13 (nI ((b + (7 + 7 * x) + 1) - 2))), (va_up (va_up (va_up (va_up a 16 (upd (a 16) x (nI 1))) 17 (upd (a 17) x (nI d53))) 18 (upd (a 18) x (nI d59))) 19 (upd (a 19) x (nI ((10 * d65) + d71)))))) := hD
                  refine lv_iconst (v := (nI 0)) hx hb dX10_readThing_200 rfl ?_
                  exact wZret hx hb hr hlocks (v := (nI 0)) (by first | exact Or.inl rfl | exact Or.inr rfl) ((upd u 13 (nI ((b + (7 + 7 * x) + 1) - 2))), (va_up (va_up (va_up (va_up a 16 (upd (a 16) x (nI 1))) 17 (upd (a 17) x (nI d53))) 18 (upd (a 18) x (nI d59))) 19 (upd (a 19) x (nI ((10 * d65) + d71))))) (Or.inr ⟨rfl, ⟨6 + 7 * x, ⟨7 + 7 * x, by omega, hG66, Or.inr (Or.inl ⟨hpn_d71, (GO_d0 (x := x) (Or.inr (Or.inr rfl))).mpr ⟨d71, Nat.zero_le _, hd9_d71, hcdp_d71⟩, ⟨by omega, by omega, by rw [hcdp_d71, show d71 = 0 by omega], by rw [show 7 + 7 * x - 1 = 6 + 7 * x by omega, hcdp_d65, show d65 = 0 by omega]⟩, by omega⟩)⟩, show (nI ((b + (7 + 7 * x) + 1) - 2)) = nI (b + (6 + 7 * x)) from congrArg nI (by omega)⟩, (fun i h13 => up_ne h13), (fun i h16 h17 h18 h19 h20 => Eq.trans (vup_ne h19) (Eq.trans (vup_ne h18) (Eq.trans (vup_ne h17) (vup_ne h16))))⟩) hK hP hD hS dX10_readThing_201
              · have hP : va_P D vwCl (xM cA r ((upd u 13 (nI (b + (6 + 7 * x) + 1))), (va_up (va_up (va_up a 16 (upd (a 16) x (nI 1))) 17 (upd (a 17) x (nI d53))) 18 (upd (a 18) x (nI d59))))) H := hP
                have hD : va_D A (xM cA r ((upd u 13 (nI (b + (6 + 7 * x) + 1))), (va_up (va_up (va_up a 16 (upd (a 16) x (nI 1))) 17 (upd (a 17) x (nI d53))) 18 (upd (a 18) x (nI d59))))) := hD
                refine lv_istore (lv' := [(5, .int (-9)), (4, .int (nI d65)), (3, .int (cd (3 + 7 * x))), (0, .ref (r 0)), (1, .int (nI (b + n))), (2, .int (nI x))]) hx hb dX10_readThing_156 hl (by decide) rfl (fun ls hl => ?_)
                refine lv_iload hx hb dX10_readThing_158 (lv_at hl 0 rfl) ?_
                refine lv_bipush (v := (-9)) hx hb dX10_readThing_160 (by decide) ?_
                refine lv_icmp_ne (tgt := 167) hx hb dX10_readThing_162 (by decide) (fun c_82 => absurd c_82 (by decide)) (fun _ => ?_)
                refine lv_iconst (v := (nI 0)) hx hb dX10_readThing_165 rfl ?_
                exact wZret hx hb hr hlocks (v := (nI 0)) (by first | exact Or.inl rfl | exact Or.inr rfl) ((upd u 13 (nI (b + (6 + 7 * x) + 1))), (va_up (va_up (va_up a 16 (upd (a 16) x (nI 1))) 17 (upd (a 17) x (nI d53))) 18 (upd (a 18) x (nI d59)))) (Or.inr ⟨rfl, ⟨7 + 7 * x, FR_at (by omega) hG66 (fun h q => hno_d71 ⟨h, (GO_d0 (x := x) (Or.inr (Or.inr rfl))).mp q⟩) (fun e => whole_no e (by omega)), show (nI (b + (6 + 7 * x) + 1)) = nI (b + (7 + 7 * x)) from congrArg nI (by omega)⟩, (fun i h13 => up_ne h13), (fun i h16 h17 h18 h19 h20 => Eq.trans (vup_ne h18) (Eq.trans (vup_ne h17) (vup_ne h16)))⟩) hK hP hD hS dX10_readThing_166
            · have hP : va_P D vwCl (xM cA r ((upd u 13 (nI (b + (5 + 7 * x) + 1))), (va_up (va_up (va_up a 16 (upd (a 16) x (nI 1))) 17 (upd (a 17) x (nI d53))) 18 (upd (a 18) x (nI d59))))) H := hP
              have hD : va_D A (xM cA r ((upd u 13 (nI (b + (5 + 7 * x) + 1))), (va_up (va_up (va_up a 16 (upd (a 16) x (nI 1))) 17 (upd (a 17) x (nI d53))) 18 (upd (a 18) x (nI d59))))) := hD
              refine lv_istore (lv' := [(4, .int (-9)), (3, .int (cd (3 + 7 * x))), (0, .ref (r 0)), (1, .int (nI (b + n))), (2, .int (nI x))]) hx hb dX10_readThing_139 hl (by decide) rfl (fun ls hl => ?_)
              refine lv_iload hx hb dX10_readThing_141 (lv_at hl 0 rfl) ?_
              refine lv_bipush (v := (-9)) hx hb dX10_readThing_143 (by decide) ?_
              refine lv_icmp_ne (tgt := 150) hx hb dX10_readThing_145 (by decide) (fun c_83 => absurd c_83 (by decide)) (fun _ => ?_)
              refine lv_iconst (v := (nI 0)) hx hb dX10_readThing_148 rfl ?_
              exact wZret hx hb hr hlocks (v := (nI 0)) (by first | exact Or.inl rfl | exact Or.inr rfl) ((upd u 13 (nI (b + (5 + 7 * x) + 1))), (va_up (va_up (va_up a 16 (upd (a 16) x (nI 1))) 17 (upd (a 17) x (nI d53))) 18 (upd (a 18) x (nI d59)))) (Or.inr ⟨rfl, ⟨6 + 7 * x, FR_at (by omega) hG60 (fun h q => hno_d65 ⟨h, (GO_d0 (x := x) (Or.inr (Or.inl rfl))).mp q⟩) (fun e => whole_no e (by omega)), show (nI (b + (5 + 7 * x) + 1)) = nI (b + (6 + 7 * x)) from congrArg nI (by omega)⟩, (fun i h13 => up_ne h13), (fun i h16 h17 h18 h19 h20 => Eq.trans (vup_ne h18) (Eq.trans (vup_ne h17) (vup_ne h16)))⟩) hK hP hD hS dX10_readThing_149
          · have hP : va_P D vwCl (xM cA r ((upd u 13 (nI (b + (4 + 7 * x) + 1))), (va_up (va_up a 16 (upd (a 16) x (nI 1))) 17 (upd (a 17) x (nI d53))))) H := hP
            have hD : va_D A (xM cA r ((upd u 13 (nI (b + (4 + 7 * x) + 1))), (va_up (va_up a 16 (upd (a 16) x (nI 1))) 17 (upd (a 17) x (nI d53))))) := hD
            refine ra_iast hx hb hK hP hD hS 11 0 (n := 6) (f := (a 18)) (j := x) (x := (-9)) rfl rfl (by omega) (by decide) dX10_readThing_119 (fun H locs hP hD hS => ?_)
            have hP : va_P D vwCl (xM cA r ((upd u 13 (nI (b + (4 + 7 * x) + 1))), (va_up (va_up (va_up a 16 (upd (a 16) x (nI 1))) 17 (upd (a 17) x (nI d53))) 18 (upd (a 18) x (-9))))) H := hP
            have hD : va_D A (xM cA r ((upd u 13 (nI (b + (4 + 7 * x) + 1))), (va_up (va_up (va_up a 16 (upd (a 16) x (nI 1))) 17 (upd (a 17) x (nI d53))) 18 (upd (a 18) x (-9))))) := hD
            refine lv_aload_n hx hb dX10_readThing_120 rfl (lv_at hl 1 rfl) ?_
            refine va_get (D := D) (ci := 10) (v := .ref (r 18)) (C := RX10) (T := TX10) (N := 34) hx hb hts hinX10 hown hK hP 0 rfl rfl 18 (by decide) (hts (.fieldLink RX10 40 "OneNailModel" "readStays" "[I") (by decide +kernel)) (fun _ h9 => h9) rfl dX10_readThing_121 ?_
            refine lv_iload_n hx hb dX10_readThing_124 rfl (lv_at hl 3 rfl) ?_
            refine ra_iald hx hb hK hP 11 0 (n := 6) (f := (upd (a 18) x (-9))) (j := x) (v := (-9)) rfl rfl (by omega) (by decide) (up_eq) dX10_readThing_125 ?_
            refine lv_bipush (v := (-9)) hx hb dX10_readThing_126 (by decide) ?_
            refine lv_icmp_ne (tgt := 133) hx hb dX10_readThing_128 (by decide) (fun c_84 => absurd c_84 (by decide)) (fun _ => ?_)
            refine lv_iconst (v := (nI 0)) hx hb dX10_readThing_131 rfl ?_
            exact wZret hx hb hr hlocks (v := (nI 0)) (by first | exact Or.inl rfl | exact Or.inr rfl) ((upd u 13 (nI (b + (4 + 7 * x) + 1))), (va_up (va_up (va_up a 16 (upd (a 16) x (nI 1))) 17 (upd (a 17) x (nI d53))) 18 (upd (a 18) x (-9)))) (Or.inr ⟨rfl, ⟨5 + 7 * x, FR_at (by omega) hG54 (fun h q => hno_d59 ⟨h, (GO_d1 (x := x) (Or.inl rfl)).mp q⟩) (fun e => whole_no e (by omega)), show (nI (b + (4 + 7 * x) + 1)) = nI (b + (5 + 7 * x)) from congrArg nI (by omega)⟩, (fun i h13 => up_ne h13), (fun i h16 h17 h18 h19 h20 => Eq.trans (vup_ne h18) (Eq.trans (vup_ne h17) (vup_ne h16)))⟩) hK hP hD hS dX10_readThing_132
        · have hP : va_P D vwCl (xM cA r ((upd u 13 (nI ((b + (3 + 7 * x)) + 1))), (va_up a 16 (upd (a 16) x (nI 1))))) H := hP
          have hD : va_D A (xM cA r ((upd u 13 (nI ((b + (3 + 7 * x)) + 1))), (va_up a 16 (upd (a 16) x (nI 1))))) := hD
          refine ra_iast hx hb hK hP hD hS 10 0 (n := 6) (f := (a 17)) (j := x) (x := (-9)) rfl rfl (by omega) (by decide) dX10_readThing_94 (fun H locs hP hD hS => ?_)
          have hP : va_P D vwCl (xM cA r ((upd u 13 (nI ((b + (3 + 7 * x)) + 1))), (va_up (va_up a 16 (upd (a 16) x (nI 1))) 17 (upd (a 17) x (-9))))) H := hP
          have hD : va_D A (xM cA r ((upd u 13 (nI ((b + (3 + 7 * x)) + 1))), (va_up (va_up a 16 (upd (a 16) x (nI 1))) 17 (upd (a 17) x (-9))))) := hD
          refine lv_aload_n hx hb dX10_readThing_95 rfl (lv_at hl 1 rfl) ?_
          refine va_get (D := D) (ci := 10) (v := .ref (r 17)) (C := RX10) (T := TX10) (N := 34) hx hb hts hinX10 hown hK hP 0 rfl rfl 17 (by decide) (hts (.fieldLink RX10 37 "OneNailModel" "readPlace" "[I") (by decide +kernel)) (fun _ h9 => h9) rfl dX10_readThing_96 ?_
          refine lv_iload_n hx hb dX10_readThing_99 rfl (lv_at hl 3 rfl) ?_
          refine ra_iald hx hb hK hP 10 0 (n := 6) (f := (upd (a 17) x (-9))) (j := x) (v := (-9)) rfl rfl (by omega) (by decide) (up_eq) dX10_readThing_100 ?_
          refine lv_bipush (v := (-9)) hx hb dX10_readThing_101 (by decide) ?_
          refine lv_icmp_ne (tgt := 108) hx hb dX10_readThing_103 (by decide) (fun c_85 => absurd c_85 (by decide)) (fun _ => ?_)
          refine lv_iconst (v := (nI 0)) hx hb dX10_readThing_106 rfl ?_
          exact wZret hx hb hr hlocks (v := (nI 0)) (by first | exact Or.inl rfl | exact Or.inr rfl) ((upd u 13 (nI ((b + (3 + 7 * x)) + 1))), (va_up (va_up a 16 (upd (a 16) x (nI 1))) 17 (upd (a 17) x (-9)))) (Or.inr ⟨rfl, ⟨4 + 7 * x, FR_at (by omega) hG49 (fun h q => hno_d53 ⟨h, (GO_d0 (x := x) (Or.inl rfl)).mp q⟩) (fun e => whole_no e (by omega)), show (nI ((b + (3 + 7 * x)) + 1)) = nI (b + (4 + 7 * x)) from congrArg nI (by omega)⟩, (fun i h13 => up_ne h13), (fun i h16 h17 h18 h19 h20 => Eq.trans (vup_ne h17) (vup_ne h16))⟩) hK hP hD hS dX10_readThing_107
    · refine lv_iconst (v := (nI 0)) hx hb dX10_readThing_33 rfl ?_
      refine lv_goto (tgt := 59) hx hb dX10_readThing_34 (by decide) ?_
      refine ra_iast hx hb hK hP hD hS 9 0 (n := 6) (f := (a 16)) (j := x) (x := (nI 0)) rfl rfl (by omega) (by decide) dX10_readThing_59 (fun H locs hP hD hS => ?_)
      have hP : va_P D vwCl (xM cA r (u, (va_up a 16 (upd (a 16) x (nI 0))))) H := hP
      have hD : va_D A (xM cA r (u, (va_up a 16 (upd (a 16) x (nI 0))))) := hD
      refine lv_aload_n hx hb dX10_readThing_60 rfl (lv_at hl 1 rfl) ?_
      refine va_get (D := D) (ci := 10) (v := .ref (r 16)) (C := RX10) (T := TX10) (N := 34) hx hb hts hinX10 hown hK hP 0 rfl rfl 16 (by decide) (hts (.fieldLink RX10 34 "OneNailModel" "readKind" "[I") (by decide +kernel)) (fun _ h9 => h9) rfl dX10_readThing_61 ?_
      refine lv_iload_n hx hb dX10_readThing_64 rfl (lv_at hl 3 rfl) ?_
      refine ra_iald hx hb hK hP 9 0 (n := 6) (f := (upd (a 16) x (nI 0))) (j := x) (v := (nI 0)) rfl rfl (by omega) (by decide) (up_eq) dX10_readThing_65 ?_
      refine lv_bipush (v := (-9)) hx hb dX10_readThing_66 (by decide) ?_
      refine lv_icmp_ne (tgt := 73) hx hb dX10_readThing_68 (by decide) (fun _ => ?_) (fun c_86 => absurd c_86 (by decide))
      have hG87 : ∀ j, j < 4 + 7 * x → Gd cd j := Gd_ext hG0 ⟨(GO_k rfl).mpr (Or.inl c_6), Zr_no (by omega)⟩ (by omega)
      refine lv_aload_n hx hb dX10_readThing_73 rfl (lv_at hl 1 rfl) ?_
      refine lv_dup hx hb dX10_readThing_74 rfl ?_
      refine va_get (D := D) (ci := 10) (v := .int (nI (b + (3 + 7 * x)))) (C := RX10) (T := TX10) (N := 34) hx hb hts hinX10 hown hK hP 0 rfl rfl 13 (by decide) (hts (.fieldLink RX10 93 "OneNailModel" "at" "I") (by decide +kernel)) (fun _ h9 => h9) (congrArg (fun z => some (Value.int z)) (hat)) dX10_readThing_75 ?_
      refine lv_iconst (v := (nI 1)) hx hb dX10_readThing_78 rfl ?_
      refine rn_iadd (x := b + (3 + 7 * x)) (y := 1) hx hb dX10_readThing_79 ?_
      refine va_put (D := D) (ci := 10) (v := .int (nI ((b + (3 + 7 * x)) + 1))) (ty := .int) (C := RX10) (T := TX10) (N := 34) hx hb hts hinX10 tyX10 tyX10_ok nmX10 hown hK hP hD hS 0 rfl rfl 13 (by decide) (hts (.fieldLink RX10 93 "OneNailModel" "at" "I") (by decide +kernel)) (fun _ h9 => h9) rfl (by decide +kernel) rfl rfl (Nat.le_of_ble_eq_true rfl) dX10_readThing_80 (fun H locs hP hD hS => ?_)
      have hP : va_P D vwCl (xM cA r ((upd u 13 (nI ((b + (3 + 7 * x)) + 1))), (va_up a 16 (upd (a 16) x (nI 0))))) H := hP
      have hD : va_D A (xM cA r ((upd u 13 (nI ((b + (3 + 7 * x)) + 1))), (va_up a 16 (upd (a 16) x (nI 0))))) := hD
      refine lv_aload_n hx hb dX10_readThing_83 rfl (lv_at hl 1 rfl) ?_
      refine va_get (D := D) (ci := 10) (v := .ref (r 17)) (C := RX10) (T := TX10) (N := 34) hx hb hts hinX10 hown hK hP 0 rfl rfl 17 (by decide) (hts (.fieldLink RX10 37 "OneNailModel" "readPlace" "[I") (by decide +kernel)) (fun _ h9 => h9) rfl dX10_readThing_84 ?_
      refine lv_iload_n hx hb dX10_readThing_87 rfl (lv_at hl 3 rfl) ?_
      refine lv_aload_n hx hb dX10_readThing_88 rfl (lv_at hl 1 rfl) ?_
      refine lv_iload_n hx hb dX10_readThing_89 rfl (lv_at hl 2 rfl) ?_
      refine lv_iconst (v := (nI 0)) hx hb dX10_readThing_90 rfl ?_
      refine wVi e0_S (As := [.int (nI (b + n)), .int (nI 0)]) (rest := [.int (nI x), .ref (r 17)]) ⟨hx, hb, hml, hown, hts⟩ (kX10_digit l D cA r _ (upd u 13 (nI ((b + (3 + 7 * x)) + 1))) (va_up a 16 (upd (a 16) x (nI 0))) b n cd (4 + 7 * x) 0 hbn (fun q hq => (congrFun rfl (b + q)).trans (hcd q hq)) (by omega) (by omega) (show (nI ((b + (3 + 7 * x)) + 1)) = nI (b + (4 + 7 * x)) from congrArg nI (by omega))) (cwV 2 hts gX10_readThing_X10_digit rfl rfl rfl (by decide +kernel) ⟨Nat.le_of_ble_eq_true rfl, Nat.le_of_ble_eq_true rfl⟩) (va_recv hK hP (ci := 10) (q0 := 0) rfl rfl) hK hP hD hS hA hE rfl hl.1 rfl (Nat.le_of_ble_eq_true rfl) dX10_readThing_91 ⟨Nat.zero_le _, Nat.zero_le _⟩ (fun rv_88 z_90 H locs hw_89 hP hD hS => ?_)
      rcases hw_89 with ⟨d91, rfl, hpn_d91, hcdp_d91, hld_d91, hd9_d91, rfl⟩ | ⟨rfl, hno_d91, rfl⟩
      · have hP : va_P D vwCl (xM cA r ((upd u 13 (nI (b + (4 + 7 * x) + 1))), (va_up a 16 (upd (a 16) x (nI 0))))) H := hP
        have hD : va_D A (xM cA r ((upd u 13 (nI (b + (4 + 7 * x) + 1))), (va_up a 16 (upd (a 16) x (nI 0))))) := hD
        have hG92 : ∀ j, j < 5 + 7 * x → Gd cd j := Gd_ext hG87 ⟨(GO_d0 (x := x) (Or.inl rfl)).mpr ⟨d91, hld_d91, hd9_d91, hcdp_d91⟩, Zr_no (by omega)⟩ (by omega)
        refine ra_iast hx hb hK hP hD hS 10 0 (n := 6) (f := (a 17)) (j := x) (x := (nI d91)) rfl rfl (by omega) (by decide) dX10_readThing_94 (fun H locs hP hD hS => ?_)
        have hP : va_P D vwCl (xM cA r ((upd u 13 (nI (b + (4 + 7 * x) + 1))), (va_up (va_up a 16 (upd (a 16) x (nI 0))) 17 (upd (a 17) x (nI d91))))) H := hP
        have hD : va_D A (xM cA r ((upd u 13 (nI (b + (4 + 7 * x) + 1))), (va_up (va_up a 16 (upd (a 16) x (nI 0))) 17 (upd (a 17) x (nI d91))))) := hD
        refine lv_aload_n hx hb dX10_readThing_95 rfl (lv_at hl 1 rfl) ?_
        refine va_get (D := D) (ci := 10) (v := .ref (r 17)) (C := RX10) (T := TX10) (N := 34) hx hb hts hinX10 hown hK hP 0 rfl rfl 17 (by decide) (hts (.fieldLink RX10 37 "OneNailModel" "readPlace" "[I") (by decide +kernel)) (fun _ h9 => h9) rfl dX10_readThing_96 ?_
        refine lv_iload_n hx hb dX10_readThing_99 rfl (lv_at hl 3 rfl) ?_
        refine ra_iald hx hb hK hP 10 0 (n := 6) (f := (upd (a 17) x (nI d91))) (j := x) (v := (nI d91)) rfl rfl (by omega) (by decide) (up_eq) dX10_readThing_100 ?_
        refine lv_bipush (v := (-9)) hx hb dX10_readThing_101 (by decide) ?_
        refine lv_icmp_ne (tgt := 108) hx hb dX10_readThing_103 (by decide) (fun c_93 => ?_) (fun c_93 => absurd c_93 (nI_ne9 (by omega)))
        refine lv_aload_n hx hb dX10_readThing_108 rfl (lv_at hl 1 rfl) ?_
        refine va_get (D := D) (ci := 10) (v := .ref (r 18)) (C := RX10) (T := TX10) (N := 34) hx hb hts hinX10 hown hK hP 0 rfl rfl 18 (by decide) (hts (.fieldLink RX10 40 "OneNailModel" "readStays" "[I") (by decide +kernel)) (fun _ h9 => h9) rfl dX10_readThing_109 ?_
        refine lv_iload_n hx hb dX10_readThing_112 rfl (lv_at hl 3 rfl) ?_
        refine lv_aload_n hx hb dX10_readThing_113 rfl (lv_at hl 1 rfl) ?_
        refine lv_iload_n hx hb dX10_readThing_114 rfl (lv_at hl 2 rfl) ?_
        refine lv_iconst (v := (nI 1)) hx hb dX10_readThing_115 rfl ?_
        refine wVi e0_S (As := [.int (nI (b + n)), .int (nI 1)]) (rest := [.int (nI x), .ref (r 18)]) ⟨hx, hb, hml, hown, hts⟩ (kX10_digit l D cA r _ (upd u 13 (nI (b + (4 + 7 * x) + 1))) (va_up (va_up a 16 (upd (a 16) x (nI 0))) 17 (upd (a 17) x (nI d91))) b n cd (5 + 7 * x) 1 hbn (fun q hq => (congrFun rfl (b + q)).trans (hcd q hq)) (by omega) (by omega) (show (nI (b + (4 + 7 * x) + 1)) = nI (b + (5 + 7 * x)) from congrArg nI (by omega))) (cwV 2 hts gX10_readThing_X10_digit rfl rfl rfl (by decide +kernel) ⟨Nat.le_of_ble_eq_true rfl, Nat.le_of_ble_eq_true rfl⟩) (va_recv hK hP (ci := 10) (q0 := 0) rfl rfl) hK hP hD hS hA hE rfl hl.1 rfl (Nat.le_of_ble_eq_true rfl) dX10_readThing_116 ⟨Nat.zero_le _, Nat.zero_le _⟩ (fun rv_94 z_96 H locs hw_95 hP hD hS => ?_)
        rcases hw_95 with ⟨d97, rfl, hpn_d97, hcdp_d97, hld_d97, hd9_d97, rfl⟩ | ⟨rfl, hno_d97, rfl⟩
        · have hP : va_P D vwCl (xM cA r ((upd u 13 (nI (b + (5 + 7 * x) + 1))), (va_up (va_up a 16 (upd (a 16) x (nI 0))) 17 (upd (a 17) x (nI d91))))) H := hP
          have hD : va_D A (xM cA r ((upd u 13 (nI (b + (5 + 7 * x) + 1))), (va_up (va_up a 16 (upd (a 16) x (nI 0))) 17 (upd (a 17) x (nI d91))))) := hD
          have hG98 : ∀ j, j < 6 + 7 * x → Gd cd j := Gd_ext hG92 ⟨(GO_d1 (x := x) (Or.inl rfl)).mpr ⟨d97, hld_d97, hd9_d97, hcdp_d97⟩, Zr_no (by omega)⟩ (by omega)
          refine ra_iast hx hb hK hP hD hS 11 0 (n := 6) (f := (a 18)) (j := x) (x := (nI d97)) rfl rfl (by omega) (by decide) dX10_readThing_119 (fun H locs hP hD hS => ?_)
          have hP : va_P D vwCl (xM cA r ((upd u 13 (nI (b + (5 + 7 * x) + 1))), (va_up (va_up (va_up a 16 (upd (a 16) x (nI 0))) 17 (upd (a 17) x (nI d91))) 18 (upd (a 18) x (nI d97))))) H := hP
          have hD : va_D A (xM cA r ((upd u 13 (nI (b + (5 + 7 * x) + 1))), (va_up (va_up (va_up a 16 (upd (a 16) x (nI 0))) 17 (upd (a 17) x (nI d91))) 18 (upd (a 18) x (nI d97))))) := hD
          refine lv_aload_n hx hb dX10_readThing_120 rfl (lv_at hl 1 rfl) ?_
          refine va_get (D := D) (ci := 10) (v := .ref (r 18)) (C := RX10) (T := TX10) (N := 34) hx hb hts hinX10 hown hK hP 0 rfl rfl 18 (by decide) (hts (.fieldLink RX10 40 "OneNailModel" "readStays" "[I") (by decide +kernel)) (fun _ h9 => h9) rfl dX10_readThing_121 ?_
          refine lv_iload_n hx hb dX10_readThing_124 rfl (lv_at hl 3 rfl) ?_
          refine ra_iald hx hb hK hP 11 0 (n := 6) (f := (upd (a 18) x (nI d97))) (j := x) (v := (nI d97)) rfl rfl (by omega) (by decide) (up_eq) dX10_readThing_125 ?_
          refine lv_bipush (v := (-9)) hx hb dX10_readThing_126 (by decide) ?_
          refine lv_icmp_ne (tgt := 133) hx hb dX10_readThing_128 (by decide) (fun c_99 => ?_) (fun c_99 => absurd c_99 (nI_ne9 (by omega)))
          refine lv_aload_n hx hb dX10_readThing_133 rfl (lv_at hl 1 rfl) ?_
          refine lv_iload_n hx hb dX10_readThing_134 rfl (lv_at hl 2 rfl) ?_
          refine lv_iconst (v := (nI 0)) hx hb dX10_readThing_135 rfl ?_
          refine wVi e0_S (As := [.int (nI (b + n)), .int (nI 0)]) (rest := []) ⟨hx, hb, hml, hown, hts⟩ (kX10_digit l D cA r _ (upd u 13 (nI (b + (5 + 7 * x) + 1))) (va_up (va_up (va_up a 16 (upd (a 16) x (nI 0))) 17 (upd (a 17) x (nI d91))) 18 (upd (a 18) x (nI d97))) b n cd (6 + 7 * x) 0 hbn (fun q hq => (congrFun rfl (b + q)).trans (hcd q hq)) (by omega) (by omega) (show (nI (b + (5 + 7 * x) + 1)) = nI (b + (6 + 7 * x)) from congrArg nI (by omega))) (cwV 2 hts gX10_readThing_X10_digit rfl rfl rfl (by decide +kernel) ⟨Nat.le_of_ble_eq_true rfl, Nat.le_of_ble_eq_true rfl⟩) (va_recv hK hP (ci := 10) (q0 := 0) rfl rfl) hK hP hD hS hA hE rfl hl.1 rfl (Nat.le_of_ble_eq_true rfl) dX10_readThing_136 ⟨Nat.zero_le _, Nat.zero_le _⟩ (fun rv_100 z_102 H locs hw_101 hP hD hS => ?_)
          rcases hw_101 with ⟨d103, rfl, hpn_d103, hcdp_d103, hld_d103, hd9_d103, rfl⟩ | ⟨rfl, hno_d103, rfl⟩
          · have hP : va_P D vwCl (xM cA r ((upd u 13 (nI (b + (6 + 7 * x) + 1))), (va_up (va_up (va_up a 16 (upd (a 16) x (nI 0))) 17 (upd (a 17) x (nI d91))) 18 (upd (a 18) x (nI d97))))) H := hP
            have hD : va_D A (xM cA r ((upd u 13 (nI (b + (6 + 7 * x) + 1))), (va_up (va_up (va_up a 16 (upd (a 16) x (nI 0))) 17 (upd (a 17) x (nI d91))) 18 (upd (a 18) x (nI d97))))) := hD
            have hG104 : ∀ j, j < 7 + 7 * x → Gd cd j := Gd_ext hG98 ⟨(GO_d0 (x := x) (Or.inr (Or.inl rfl))).mpr ⟨d103, hld_d103, hd9_d103, hcdp_d103⟩, Zr_no (by omega)⟩ (by omega)
            refine lv_istore (lv' := [(4, .int (nI d103)), (3, .int (cd (3 + 7 * x))), (0, .ref (r 0)), (1, .int (nI (b + n))), (2, .int (nI x))]) hx hb dX10_readThing_139 hl (by decide) rfl (fun ls hl => ?_)
            refine lv_iload hx hb dX10_readThing_141 (lv_at hl 0 rfl) ?_
            refine lv_bipush (v := (-9)) hx hb dX10_readThing_143 (by decide) ?_
            refine lv_icmp_ne (tgt := 150) hx hb dX10_readThing_145 (by decide) (fun c_105 => ?_) (fun c_105 => absurd c_105 (nI_ne9 (by omega)))
            refine lv_aload_n hx hb dX10_readThing_150 rfl (lv_at hl 2 rfl) ?_
            refine lv_iload_n hx hb dX10_readThing_151 rfl (lv_at hl 3 rfl) ?_
            refine lv_iconst (v := (nI 0)) hx hb dX10_readThing_152 rfl ?_
            refine wVi e0_S (As := [.int (nI (b + n)), .int (nI 0)]) (rest := []) ⟨hx, hb, hml, hown, hts⟩ (kX10_digit l D cA r _ (upd u 13 (nI (b + (6 + 7 * x) + 1))) (va_up (va_up (va_up a 16 (upd (a 16) x (nI 0))) 17 (upd (a 17) x (nI d91))) 18 (upd (a 18) x (nI d97))) b n cd (7 + 7 * x) 0 hbn (fun q hq => (congrFun rfl (b + q)).trans (hcd q hq)) (by omega) (by omega) (show (nI (b + (6 + 7 * x) + 1)) = nI (b + (7 + 7 * x)) from congrArg nI (by omega))) (cwV 2 hts gX10_readThing_X10_digit rfl rfl rfl (by decide +kernel) ⟨Nat.le_of_ble_eq_true rfl, Nat.le_of_ble_eq_true rfl⟩) (va_recv hK hP (ci := 10) (q0 := 0) rfl rfl) hK hP hD hS hA hE rfl hl.1 rfl (Nat.le_of_ble_eq_true rfl) dX10_readThing_153 ⟨Nat.zero_le _, Nat.zero_le _⟩ (fun rv_106 z_108 H locs hw_107 hP hD hS => ?_)
            rcases hw_107 with ⟨d109, rfl, hpn_d109, hcdp_d109, hld_d109, hd9_d109, rfl⟩ | ⟨rfl, hno_d109, rfl⟩
            · have hP : va_P D vwCl (xM cA r ((upd u 13 (nI (b + (7 + 7 * x) + 1))), (va_up (va_up (va_up a 16 (upd (a 16) x (nI 0))) 17 (upd (a 17) x (nI d91))) 18 (upd (a 18) x (nI d97))))) H := hP
              have hD : va_D A (xM cA r ((upd u 13 (nI (b + (7 + 7 * x) + 1))), (va_up (va_up (va_up a 16 (upd (a 16) x (nI 0))) 17 (upd (a 17) x (nI d91))) 18 (upd (a 18) x (nI d97))))) := hD
              refine lv_istore (lv' := [(5, .int (nI d109)), (4, .int (nI d103)), (3, .int (cd (3 + 7 * x))), (0, .ref (r 0)), (1, .int (nI (b + n))), (2, .int (nI x))]) hx hb dX10_readThing_156 hl (by decide) rfl (fun ls hl => ?_)
              refine lv_iload hx hb dX10_readThing_158 (lv_at hl 0 rfl) ?_
              refine lv_bipush (v := (-9)) hx hb dX10_readThing_160 (by decide) ?_
              refine lv_icmp_ne (tgt := 167) hx hb dX10_readThing_162 (by decide) (fun c_110 => ?_) (fun c_110 => absurd c_110 (nI_ne9 (by omega)))
              refine lv_aload_n hx hb dX10_readThing_167 rfl (lv_at hl 3 rfl) ?_
              refine va_get (D := D) (ci := 10) (v := .ref (r 19)) (C := RX10) (T := TX10) (N := 34) hx hb hts hinX10 hown hK hP 0 rfl rfl 19 (by decide) (hts (.fieldLink RX10 43 "OneNailModel" "readHold" "[I") (by decide +kernel)) (fun _ h9 => h9) rfl dX10_readThing_168 ?_
              refine lv_iload_n hx hb dX10_readThing_171 rfl (lv_at hl 5 rfl) ?_
              refine lv_bipush (v := (nI 10)) hx hb dX10_readThing_172 rfl ?_
              refine lv_iload hx hb dX10_readThing_174 (lv_at hl 1 rfl) ?_
              refine rn_imul (x := 10) (y := d103) hx hb dX10_readThing_176 ?_
              refine lv_iload hx hb dX10_readThing_177 (lv_at hl 0 rfl) ?_
              refine rn_iadd (x := 10 * d103) (y := d109) hx hb dX10_readThing_179 ?_
              refine ra_iast hx hb hK hP hD hS 12 0 (n := 6) (f := (a 19)) (j := x) (x := (nI ((10 * d103) + d109))) rfl rfl (by omega) (by decide) dX10_readThing_180 (fun H locs hP hD hS => ?_)
              have hP : va_P D vwCl (xM cA r ((upd u 13 (nI (b + (7 + 7 * x) + 1))), (va_up (va_up (va_up (va_up a 16 (upd (a 16) x (nI 0))) 17 (upd (a 17) x (nI d91))) 18 (upd (a 18) x (nI d97))) 19 (upd (a 19) x (nI ((10 * d103) + d109)))))) H := hP
              have hD : va_D A (xM cA r ((upd u 13 (nI (b + (7 + 7 * x) + 1))), (va_up (va_up (va_up (va_up a 16 (upd (a 16) x (nI 0))) 17 (upd (a 17) x (nI d91))) 18 (upd (a 18) x (nI d97))) 19 (upd (a 19) x (nI ((10 * d103) + d109)))))) := hD
              refine lv_aload_n hx hb dX10_readThing_181 rfl (lv_at hl 3 rfl) ?_
              refine va_get (D := D) (ci := 10) (v := .ref (r 19)) (C := RX10) (T := TX10) (N := 34) hx hb hts hinX10 hown hK hP 0 rfl rfl 19 (by decide) (hts (.fieldLink RX10 43 "OneNailModel" "readHold" "[I") (by decide +kernel)) (fun _ h9 => h9) rfl dX10_readThing_182 ?_
              refine lv_iload_n hx hb dX10_readThing_185 rfl (lv_at hl 5 rfl) ?_
              refine ra_iald hx hb hK hP 12 0 (n := 6) (f := (upd (a 19) x (nI ((10 * d103) + d109)))) (j := x) (v := (nI ((10 * d103) + d109))) rfl rfl (by omega) (by decide) (up_eq) dX10_readThing_186 ?_
              refine rz_ne (x := (10 * d103) + d109) (tgt := 202) hx hb (by omega) dX10_readThing_187 (by decide) (fun c_111 => ?_) (fun c_111 => ?_)
              · have hG112 : ∀ j, j < 8 + 7 * x → Gd cd j := Gd_ext hG104 ⟨(GO_d0 (x := x) (Or.inr (Or.inr rfl))).mpr ⟨d109, hld_d109, hd9_d109, hcdp_d109⟩, (fun q => by have e1 := (nI_eq (by omega) (by decide)).mp (hcdp_d109.symm.trans q.2.2.1); have e2 := q.2.2.2; rw [show 7 + 7 * x - 1 = 6 + 7 * x by omega] at e2; have e3 := (nI_eq (by omega) (by decide)).mp (hcdp_d103.symm.trans e2); omega)⟩ (by omega)
                refine lv_aload_n hx hb dX10_readThing_202 rfl (lv_at hl 3 rfl) ?_
                refine va_get (D := D) (ci := 10) (v := .ref (r 20)) (C := RX10) (T := TX10) (N := 34) hx hb hts hinX10 hown hK hP 0 rfl rfl 20 (by decide) (hts (.fieldLink RX10 46 "OneNailModel" "readHarms" "[I") (by decide +kernel)) (fun _ h9 => h9) rfl dX10_readThing_203 ?_
                refine lv_iload_n hx hb dX10_readThing_206 rfl (lv_at hl 5 rfl) ?_
                refine lv_aload_n hx hb dX10_readThing_207 rfl (lv_at hl 3 rfl) ?_
                refine lv_iload_n hx hb dX10_readThing_208 rfl (lv_at hl 4 rfl) ?_
                refine lv_iconst (v := (nI 1)) hx hb dX10_readThing_209 rfl ?_
                refine wVi e0_S (As := [.int (nI (b + n)), .int (nI 1)]) (rest := [.int (nI x), .ref (r 20)]) ⟨hx, hb, hml, hown, hts⟩ (kX10_digit l D cA r _ (upd u 13 (nI (b + (7 + 7 * x) + 1))) (va_up (va_up (va_up (va_up a 16 (upd (a 16) x (nI 0))) 17 (upd (a 17) x (nI d91))) 18 (upd (a 18) x (nI d97))) 19 (upd (a 19) x (nI ((10 * d103) + d109)))) b n cd (8 + 7 * x) 1 hbn (fun q hq => (congrFun rfl (b + q)).trans (hcd q hq)) (by omega) (by omega) (show (nI (b + (7 + 7 * x) + 1)) = nI (b + (8 + 7 * x)) from congrArg nI (by omega))) (cwV 2 hts gX10_readThing_X10_digit rfl rfl rfl (by decide +kernel) ⟨Nat.le_of_ble_eq_true rfl, Nat.le_of_ble_eq_true rfl⟩) (va_recv hK hP (ci := 10) (q0 := 0) rfl rfl) hK hP hD hS hA hE rfl hl.1 rfl (Nat.le_of_ble_eq_true rfl) dX10_readThing_210 ⟨Nat.zero_le _, Nat.zero_le _⟩ (fun rv_113 z_115 H locs hw_114 hP hD hS => ?_)
                rcases hw_114 with ⟨d116, rfl, hpn_d116, hcdp_d116, hld_d116, hd9_d116, rfl⟩ | ⟨rfl, hno_d116, rfl⟩
                · have hP : va_P D vwCl (xM cA r ((upd u 13 (nI (b + (8 + 7 * x) + 1))), (va_up (va_up (va_up (va_up a 16 (upd (a 16) x (nI 0))) 17 (upd (a 17) x (nI d91))) 18 (upd (a 18) x (nI d97))) 19 (upd (a 19) x (nI ((10 * d103) + d109)))))) H := hP
                  have hD : va_D A (xM cA r ((upd u 13 (nI (b + (8 + 7 * x) + 1))), (va_up (va_up (va_up (va_up a 16 (upd (a 16) x (nI 0))) 17 (upd (a 17) x (nI d91))) 18 (upd (a 18) x (nI d97))) 19 (upd (a 19) x (nI ((10 * d103) + d109)))))) := hD
                  have hG117 : ∀ j, j < 9 + 7 * x → Gd cd j := Gd_ext hG112 ⟨(GO_d1 (x := x) (Or.inr rfl)).mpr ⟨d116, hld_d116, hd9_d116, hcdp_d116⟩, Zr_no (by omega)⟩ (by omega)
                  refine ra_iast hx hb hK hP hD hS 13 0 (n := 6) (f := (a 20)) (j := x) (x := (nI d116)) rfl rfl (by omega) (by decide) dX10_readThing_213 (fun H locs hP hD hS => ?_)
                  have hP : va_P D vwCl (xM cA r ((upd u 13 (nI (b + (8 + 7 * x) + 1))), (va_up (va_up (va_up (va_up (va_up a 16 (upd (a 16) x (nI 0))) 17 (upd (a 17) x (nI d91))) 18 (upd (a 18) x (nI d97))) 19 (upd (a 19) x (nI ((10 * d103) + d109)))) 20 (upd (a 20) x (nI d116))))) H := hP
                  have hD : va_D A (xM cA r ((upd u 13 (nI (b + (8 + 7 * x) + 1))), (va_up (va_up (va_up (va_up (va_up a 16 (upd (a 16) x (nI 0))) 17 (upd (a 17) x (nI d91))) 18 (upd (a 18) x (nI d97))) 19 (upd (a 19) x (nI ((10 * d103) + d109)))) 20 (upd (a 20) x (nI d116))))) := hD
                  refine lv_aload_n hx hb dX10_readThing_214 rfl (lv_at hl 3 rfl) ?_
                  refine va_get (D := D) (ci := 10) (v := .ref (r 20)) (C := RX10) (T := TX10) (N := 34) hx hb hts hinX10 hown hK hP 0 rfl rfl 20 (by decide) (hts (.fieldLink RX10 46 "OneNailModel" "readHarms" "[I") (by decide +kernel)) (fun _ h9 => h9) rfl dX10_readThing_215 ?_
                  refine lv_iload_n hx hb dX10_readThing_218 rfl (lv_at hl 5 rfl) ?_
                  refine ra_iald hx hb hK hP 13 0 (n := 6) (f := (upd (a 20) x (nI d116))) (j := x) (v := (nI d116)) rfl rfl (by omega) (by decide) (up_eq) dX10_readThing_219 ?_
                  refine lv_bipush (v := (-9)) hx hb dX10_readThing_220 (by decide) ?_
                  refine lv_icmp_eq (tgt := 229) hx hb dX10_readThing_222 (by decide) (fun c_118 => absurd c_118 (nI_ne9 (by omega))) (fun c_118 => ?_)
                  refine lv_iconst (v := (nI 1)) hx hb dX10_readThing_225 rfl ?_
                  refine lv_goto (tgt := 230) hx hb dX10_readThing_226 (by decide) ?_
                  exact wZret hx hb hr hlocks (v := (nI 1)) (by first | exact Or.inl rfl | exact Or.inr rfl) ((upd u 13 (nI (b + (8 + 7 * x) + 1))), (va_up (va_up (va_up (va_up (va_up a 16 (upd (a 16) x (nI 0))) 17 (upd (a 17) x (nI d91))) 18 (upd (a 18) x (nI d97))) 19 (upd (a 19) x (nI ((10 * d103) + d109)))) 20 (upd (a 20) x (nI d116)))) (Or.inl ⟨rfl, by omega, hG117, show (nI (b + (8 + 7 * x) + 1)) = nI (b + (9 + 7 * x)) from congrArg nI (by omega), (fun i h13 => up_ne h13), congrArg (fun z => upd (a 16) x (nI z)) (show _ = TP cd 0 x from (by rw [show TP cd 0 x = kdn (cd (3 + 7 * x)) from rfl]; unfold kdn; rw [if_pos c_6])), congrArg (fun z => upd (a 17) x (nI z)) (show _ = TP cd 1 x from (vl_eq hcdp_d91 hd9_d91).symm), congrArg (fun z => upd (a 18) x (nI z)) (show _ = TP cd 2 x from (vl_eq hcdp_d97 hd9_d97).symm), congrArg (fun z => upd (a 19) x (nI z)) (show _ = TP cd 3 x from (by show _ = 10 * vl (cd (6 + 7 * x)) + vl (cd (7 + 7 * x)); rw [vl_eq hcdp_d103 hd9_d103, vl_eq hcdp_d109 hd9_d109])), congrArg (fun z => upd (a 20) x (nI z)) (show _ = TP cd 4 x from (vl_eq hcdp_d116 hd9_d116).symm), (fun i h16 h17 h18 h19 h20 => Eq.trans (vup_ne h20) (Eq.trans (vup_ne h19) (Eq.trans (vup_ne h18) (Eq.trans (vup_ne h17) (vup_ne h16)))))⟩) hK hP hD hS dX10_readThing_230
                · have hP : va_P D vwCl (xM cA r ((upd u 13 (nI (b + (7 + 7 * x) + 1))), (va_up (va_up (va_up (va_up a 16 (upd (a 16) x (nI 0))) 17 (upd (a 17) x (nI d91))) 18 (upd (a 18) x (nI d97))) 19 (upd (a 19) x (nI ((10 * d103) + d109)))))) H := hP
                  have hD : va_D A (xM cA r ((upd u 13 (nI (b + (7 + 7 * x) + 1))), (va_up (va_up (va_up (va_up a 16 (upd (a 16) x (nI 0))) 17 (upd (a 17) x (nI d91))) 18 (upd (a 18) x (nI d97))) 19 (upd (a 19) x (nI ((10 * d103) + d109)))))) := hD
                  refine ra_iast hx hb hK hP hD hS 13 0 (n := 6) (f := (a 20)) (j := x) (x := (-9)) rfl rfl (by omega) (by decide) dX10_readThing_213 (fun H locs hP hD hS => ?_)
                  have hP : va_P D vwCl (xM cA r ((upd u 13 (nI (b + (7 + 7 * x) + 1))), (va_up (va_up (va_up (va_up (va_up a 16 (upd (a 16) x (nI 0))) 17 (upd (a 17) x (nI d91))) 18 (upd (a 18) x (nI d97))) 19 (upd (a 19) x (nI ((10 * d103) + d109)))) 20 (upd (a 20) x (-9))))) H := hP
                  have hD : va_D A (xM cA r ((upd u 13 (nI (b + (7 + 7 * x) + 1))), (va_up (va_up (va_up (va_up (va_up a 16 (upd (a 16) x (nI 0))) 17 (upd (a 17) x (nI d91))) 18 (upd (a 18) x (nI d97))) 19 (upd (a 19) x (nI ((10 * d103) + d109)))) 20 (upd (a 20) x (-9))))) := hD
                  refine lv_aload_n hx hb dX10_readThing_214 rfl (lv_at hl 3 rfl) ?_
                  refine va_get (D := D) (ci := 10) (v := .ref (r 20)) (C := RX10) (T := TX10) (N := 34) hx hb hts hinX10 hown hK hP 0 rfl rfl 20 (by decide) (hts (.fieldLink RX10 46 "OneNailModel" "readHarms" "[I") (by decide +kernel)) (fun _ h9 => h9) rfl dX10_readThing_215 ?_
                  refine lv_iload_n hx hb dX10_readThing_218 rfl (lv_at hl 5 rfl) ?_
                  refine ra_iald hx hb hK hP 13 0 (n := 6) (f := (upd (a 20) x (-9))) (j := x) (v := (-9)) rfl rfl (by omega) (by decide) (up_eq) dX10_readThing_219 ?_
                  refine lv_bipush (v := (-9)) hx hb dX10_readThing_220 (by decide) ?_
                  refine lv_icmp_eq (tgt := 229) hx hb dX10_readThing_222 (by decide) (fun _ => ?_) (fun c_119 => absurd c_119 (by decide))
                  refine lv_iconst (v := (nI 0)) hx hb dX10_readThing_229 rfl ?_
                  exact wZret hx hb hr hlocks (v := (nI 0)) (by first | exact Or.inl rfl | exact Or.inr rfl) ((upd u 13 (nI (b + (7 + 7 * x) + 1))), (va_up (va_up (va_up (va_up (va_up a 16 (upd (a 16) x (nI 0))) 17 (upd (a 17) x (nI d91))) 18 (upd (a 18) x (nI d97))) 19 (upd (a 19) x (nI ((10 * d103) + d109)))) 20 (upd (a 20) x (-9)))) (Or.inr ⟨rfl, ⟨8 + 7 * x, FR_at (by omega) hG112 (fun h q => hno_d116 ⟨h, (GO_d1 (x := x) (Or.inr rfl)).mp q⟩) (fun e => whole_no e (by omega)), show (nI (b + (7 + 7 * x) + 1)) = nI (b + (8 + 7 * x)) from congrArg nI (by omega)⟩, (fun i h13 => up_ne h13), (fun i h16 h17 h18 h19 h20 => Eq.trans (vup_ne h20) (Eq.trans (vup_ne h19) (Eq.trans (vup_ne h18) (Eq.trans (vup_ne h17) (vup_ne h16)))))⟩) hK hP hD hS dX10_readThing_230
              · refine lv_aload_n hx hb dX10_readThing_190 rfl (lv_at hl 3 rfl) ?_
                refine lv_dup hx hb dX10_readThing_191 rfl ?_
                refine va_get (D := D) (ci := 10) (v := .int (nI (b + (7 + 7 * x) + 1))) (C := RX10) (T := TX10) (N := 34) hx hb hts hinX10 hown hK hP 0 rfl rfl 13 (by decide) (hts (.fieldLink RX10 93 "OneNailModel" "at" "I") (by decide +kernel)) (fun _ h9 => h9) rfl dX10_readThing_192 ?_
                refine lv_iconst (v := (nI 2)) hx hb dX10_readThing_195 rfl ?_
                refine rn_isub (x := b + (7 + 7 * x) + 1) (y := 2) hx hb (by omega) dX10_readThing_196 ?_
                refine va_put (D := D) (ci := 10) (v := .int (nI ((b + (7 + 7 * x) + 1) - 2))) (ty := .int) (C := RX10) (T := TX10) (N := 34) hx hb hts hinX10 tyX10 tyX10_ok nmX10 hown hK hP hD hS 0 rfl rfl 13 (by decide) (hts (.fieldLink RX10 93 "OneNailModel" "at" "I") (by decide +kernel)) (fun _ h9 => h9) rfl (by decide +kernel) rfl rfl (Nat.le_of_ble_eq_true rfl) dX10_readThing_197 (fun H locs hP hD hS => ?_)
                have hP : va_P D vwCl (xM cA r ((upd u 13 (nI ((b + (7 + 7 * x) + 1) - 2))), (va_up (va_up (va_up (va_up a 16 (upd (a 16) x (nI 0))) 17 (upd (a 17) x (nI d91))) 18 (upd (a 18) x (nI d97))) 19 (upd (a 19) x (nI ((10 * d103) + d109)))))) H := hP
                have hD : va_D A (xM cA r ((upd u 13 (nI ((b + (7 + 7 * x) + 1) - 2))), (va_up (va_up (va_up (va_up a 16 (upd (a 16) x (nI 0))) 17 (upd (a 17) x (nI d91))) 18 (upd (a 18) x (nI d97))) 19 (upd (a 19) x (nI ((10 * d103) + d109)))))) := hD
                refine lv_iconst (v := (nI 0)) hx hb dX10_readThing_200 rfl ?_
                exact wZret hx hb hr hlocks (v := (nI 0)) (by first | exact Or.inl rfl | exact Or.inr rfl) ((upd u 13 (nI ((b + (7 + 7 * x) + 1) - 2))), (va_up (va_up (va_up (va_up a 16 (upd (a 16) x (nI 0))) 17 (upd (a 17) x (nI d91))) 18 (upd (a 18) x (nI d97))) 19 (upd (a 19) x (nI ((10 * d103) + d109))))) (Or.inr ⟨rfl, ⟨6 + 7 * x, ⟨7 + 7 * x, by omega, hG104, Or.inr (Or.inl ⟨hpn_d109, (GO_d0 (x := x) (Or.inr (Or.inr rfl))).mpr ⟨d109, Nat.zero_le _, hd9_d109, hcdp_d109⟩, ⟨by omega, by omega, by rw [hcdp_d109, show d109 = 0 by omega], by rw [show 7 + 7 * x - 1 = 6 + 7 * x by omega, hcdp_d103, show d103 = 0 by omega]⟩, by omega⟩)⟩, show (nI ((b + (7 + 7 * x) + 1) - 2)) = nI (b + (6 + 7 * x)) from congrArg nI (by omega)⟩, (fun i h13 => up_ne h13), (fun i h16 h17 h18 h19 h20 => Eq.trans (vup_ne h19) (Eq.trans (vup_ne h18) (Eq.trans (vup_ne h17) (vup_ne h16))))⟩) hK hP hD hS dX10_readThing_201
            · have hP : va_P D vwCl (xM cA r ((upd u 13 (nI (b + (6 + 7 * x) + 1))), (va_up (va_up (va_up a 16 (upd (a 16) x (nI 0))) 17 (upd (a 17) x (nI d91))) 18 (upd (a 18) x (nI d97))))) H := hP
              have hD : va_D A (xM cA r ((upd u 13 (nI (b + (6 + 7 * x) + 1))), (va_up (va_up (va_up a 16 (upd (a 16) x (nI 0))) 17 (upd (a 17) x (nI d91))) 18 (upd (a 18) x (nI d97))))) := hD
              refine lv_istore (lv' := [(5, .int (-9)), (4, .int (nI d103)), (3, .int (cd (3 + 7 * x))), (0, .ref (r 0)), (1, .int (nI (b + n))), (2, .int (nI x))]) hx hb dX10_readThing_156 hl (by decide) rfl (fun ls hl => ?_)
              refine lv_iload hx hb dX10_readThing_158 (lv_at hl 0 rfl) ?_
              refine lv_bipush (v := (-9)) hx hb dX10_readThing_160 (by decide) ?_
              refine lv_icmp_ne (tgt := 167) hx hb dX10_readThing_162 (by decide) (fun c_120 => absurd c_120 (by decide)) (fun _ => ?_)
              refine lv_iconst (v := (nI 0)) hx hb dX10_readThing_165 rfl ?_
              exact wZret hx hb hr hlocks (v := (nI 0)) (by first | exact Or.inl rfl | exact Or.inr rfl) ((upd u 13 (nI (b + (6 + 7 * x) + 1))), (va_up (va_up (va_up a 16 (upd (a 16) x (nI 0))) 17 (upd (a 17) x (nI d91))) 18 (upd (a 18) x (nI d97)))) (Or.inr ⟨rfl, ⟨7 + 7 * x, FR_at (by omega) hG104 (fun h q => hno_d109 ⟨h, (GO_d0 (x := x) (Or.inr (Or.inr rfl))).mp q⟩) (fun e => whole_no e (by omega)), show (nI (b + (6 + 7 * x) + 1)) = nI (b + (7 + 7 * x)) from congrArg nI (by omega)⟩, (fun i h13 => up_ne h13), (fun i h16 h17 h18 h19 h20 => Eq.trans (vup_ne h18) (Eq.trans (vup_ne h17) (vup_ne h16)))⟩) hK hP hD hS dX10_readThing_166
          · have hP : va_P D vwCl (xM cA r ((upd u 13 (nI (b + (5 + 7 * x) + 1))), (va_up (va_up (va_up a 16 (upd (a 16) x (nI 0))) 17 (upd (a 17) x (nI d91))) 18 (upd (a 18) x (nI d97))))) H := hP
            have hD : va_D A (xM cA r ((upd u 13 (nI (b + (5 + 7 * x) + 1))), (va_up (va_up (va_up a 16 (upd (a 16) x (nI 0))) 17 (upd (a 17) x (nI d91))) 18 (upd (a 18) x (nI d97))))) := hD
            refine lv_istore (lv' := [(4, .int (-9)), (3, .int (cd (3 + 7 * x))), (0, .ref (r 0)), (1, .int (nI (b + n))), (2, .int (nI x))]) hx hb dX10_readThing_139 hl (by decide) rfl (fun ls hl => ?_)
            refine lv_iload hx hb dX10_readThing_141 (lv_at hl 0 rfl) ?_
            refine lv_bipush (v := (-9)) hx hb dX10_readThing_143 (by decide) ?_
            refine lv_icmp_ne (tgt := 150) hx hb dX10_readThing_145 (by decide) (fun c_121 => absurd c_121 (by decide)) (fun _ => ?_)
            refine lv_iconst (v := (nI 0)) hx hb dX10_readThing_148 rfl ?_
            exact wZret hx hb hr hlocks (v := (nI 0)) (by first | exact Or.inl rfl | exact Or.inr rfl) ((upd u 13 (nI (b + (5 + 7 * x) + 1))), (va_up (va_up (va_up a 16 (upd (a 16) x (nI 0))) 17 (upd (a 17) x (nI d91))) 18 (upd (a 18) x (nI d97)))) (Or.inr ⟨rfl, ⟨6 + 7 * x, FR_at (by omega) hG98 (fun h q => hno_d103 ⟨h, (GO_d0 (x := x) (Or.inr (Or.inl rfl))).mp q⟩) (fun e => whole_no e (by omega)), show (nI (b + (5 + 7 * x) + 1)) = nI (b + (6 + 7 * x)) from congrArg nI (by omega)⟩, (fun i h13 => up_ne h13), (fun i h16 h17 h18 h19 h20 => Eq.trans (vup_ne h18) (Eq.trans (vup_ne h17) (vup_ne h16)))⟩) hK hP hD hS dX10_readThing_149
        · have hP : va_P D vwCl (xM cA r ((upd u 13 (nI (b + (4 + 7 * x) + 1))), (va_up (va_up a 16 (upd (a 16) x (nI 0))) 17 (upd (a 17) x (nI d91))))) H := hP
          have hD : va_D A (xM cA r ((upd u 13 (nI (b + (4 + 7 * x) + 1))), (va_up (va_up a 16 (upd (a 16) x (nI 0))) 17 (upd (a 17) x (nI d91))))) := hD
          refine ra_iast hx hb hK hP hD hS 11 0 (n := 6) (f := (a 18)) (j := x) (x := (-9)) rfl rfl (by omega) (by decide) dX10_readThing_119 (fun H locs hP hD hS => ?_)
          have hP : va_P D vwCl (xM cA r ((upd u 13 (nI (b + (4 + 7 * x) + 1))), (va_up (va_up (va_up a 16 (upd (a 16) x (nI 0))) 17 (upd (a 17) x (nI d91))) 18 (upd (a 18) x (-9))))) H := hP
          have hD : va_D A (xM cA r ((upd u 13 (nI (b + (4 + 7 * x) + 1))), (va_up (va_up (va_up a 16 (upd (a 16) x (nI 0))) 17 (upd (a 17) x (nI d91))) 18 (upd (a 18) x (-9))))) := hD
          refine lv_aload_n hx hb dX10_readThing_120 rfl (lv_at hl 1 rfl) ?_
          refine va_get (D := D) (ci := 10) (v := .ref (r 18)) (C := RX10) (T := TX10) (N := 34) hx hb hts hinX10 hown hK hP 0 rfl rfl 18 (by decide) (hts (.fieldLink RX10 40 "OneNailModel" "readStays" "[I") (by decide +kernel)) (fun _ h9 => h9) rfl dX10_readThing_121 ?_
          refine lv_iload_n hx hb dX10_readThing_124 rfl (lv_at hl 3 rfl) ?_
          refine ra_iald hx hb hK hP 11 0 (n := 6) (f := (upd (a 18) x (-9))) (j := x) (v := (-9)) rfl rfl (by omega) (by decide) (up_eq) dX10_readThing_125 ?_
          refine lv_bipush (v := (-9)) hx hb dX10_readThing_126 (by decide) ?_
          refine lv_icmp_ne (tgt := 133) hx hb dX10_readThing_128 (by decide) (fun c_122 => absurd c_122 (by decide)) (fun _ => ?_)
          refine lv_iconst (v := (nI 0)) hx hb dX10_readThing_131 rfl ?_
          exact wZret hx hb hr hlocks (v := (nI 0)) (by first | exact Or.inl rfl | exact Or.inr rfl) ((upd u 13 (nI (b + (4 + 7 * x) + 1))), (va_up (va_up (va_up a 16 (upd (a 16) x (nI 0))) 17 (upd (a 17) x (nI d91))) 18 (upd (a 18) x (-9)))) (Or.inr ⟨rfl, ⟨5 + 7 * x, FR_at (by omega) hG92 (fun h q => hno_d97 ⟨h, (GO_d1 (x := x) (Or.inl rfl)).mp q⟩) (fun e => whole_no e (by omega)), show (nI (b + (4 + 7 * x) + 1)) = nI (b + (5 + 7 * x)) from congrArg nI (by omega)⟩, (fun i h13 => up_ne h13), (fun i h16 h17 h18 h19 h20 => Eq.trans (vup_ne h18) (Eq.trans (vup_ne h17) (vup_ne h16)))⟩) hK hP hD hS dX10_readThing_132
      · have hP : va_P D vwCl (xM cA r ((upd u 13 (nI ((b + (3 + 7 * x)) + 1))), (va_up a 16 (upd (a 16) x (nI 0))))) H := hP
        have hD : va_D A (xM cA r ((upd u 13 (nI ((b + (3 + 7 * x)) + 1))), (va_up a 16 (upd (a 16) x (nI 0))))) := hD
        refine ra_iast hx hb hK hP hD hS 10 0 (n := 6) (f := (a 17)) (j := x) (x := (-9)) rfl rfl (by omega) (by decide) dX10_readThing_94 (fun H locs hP hD hS => ?_)
        have hP : va_P D vwCl (xM cA r ((upd u 13 (nI ((b + (3 + 7 * x)) + 1))), (va_up (va_up a 16 (upd (a 16) x (nI 0))) 17 (upd (a 17) x (-9))))) H := hP
        have hD : va_D A (xM cA r ((upd u 13 (nI ((b + (3 + 7 * x)) + 1))), (va_up (va_up a 16 (upd (a 16) x (nI 0))) 17 (upd (a 17) x (-9))))) := hD
        refine lv_aload_n hx hb dX10_readThing_95 rfl (lv_at hl 1 rfl) ?_
        refine va_get (D := D) (ci := 10) (v := .ref (r 17)) (C := RX10) (T := TX10) (N := 34) hx hb hts hinX10 hown hK hP 0 rfl rfl 17 (by decide) (hts (.fieldLink RX10 37 "OneNailModel" "readPlace" "[I") (by decide +kernel)) (fun _ h9 => h9) rfl dX10_readThing_96 ?_
        refine lv_iload_n hx hb dX10_readThing_99 rfl (lv_at hl 3 rfl) ?_
        refine ra_iald hx hb hK hP 10 0 (n := 6) (f := (upd (a 17) x (-9))) (j := x) (v := (-9)) rfl rfl (by omega) (by decide) (up_eq) dX10_readThing_100 ?_
        refine lv_bipush (v := (-9)) hx hb dX10_readThing_101 (by decide) ?_
        refine lv_icmp_ne (tgt := 108) hx hb dX10_readThing_103 (by decide) (fun c_123 => absurd c_123 (by decide)) (fun _ => ?_)
        refine lv_iconst (v := (nI 0)) hx hb dX10_readThing_106 rfl ?_
        exact wZret hx hb hr hlocks (v := (nI 0)) (by first | exact Or.inl rfl | exact Or.inr rfl) ((upd u 13 (nI ((b + (3 + 7 * x)) + 1))), (va_up (va_up a 16 (upd (a 16) x (nI 0))) 17 (upd (a 17) x (-9)))) (Or.inr ⟨rfl, ⟨4 + 7 * x, FR_at (by omega) hG87 (fun h q => hno_d91 ⟨h, (GO_d0 (x := x) (Or.inl rfl)).mp q⟩) (fun e => whole_no e (by omega)), show (nI ((b + (3 + 7 * x)) + 1)) = nI (b + (4 + 7 * x)) from congrArg nI (by omega)⟩, (fun i h13 => up_ne h13), (fun i h16 h17 h18 h19 h20 => Eq.trans (vup_ne h17) (vup_ne h16))⟩) hK hP hD hS dX10_readThing_107
