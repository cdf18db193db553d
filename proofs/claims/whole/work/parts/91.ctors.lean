def wdX6_init_t6 (cA : Nat → ClassId) (X : va_W) (q : Nat) (x0 x1 x2 x3 x4 : Int32) : Option (Nat → Nat) → va_W
  | none => X ++ [(q, .inr (6, [.int 0, .int 0, .int 0, .int 0, .int 0]))]
  | some ro => X ++ [(q, .inr (6, [.int x0, .int x1, .int x2, .int x3, .int x4]))]
set_option maxHeartbeats 4000000 in
set_option maxRecDepth 100000 in
theorem kX6_init_t6 (l : Launch) (D : va_G) (cA : Nat → ClassId) (X : va_W) (q sz : Nat) (x0 x1 x2 x3 x4 : Int32) : Met l yX6_init wsX6_init ({ frames := 1, cells := 0, slots := 0, locals := 23 } : Room) (va_Pc [.ref (q), .int x0, .int x1, .int x2, .int x3, .int x4] (wA D vwCl (tyA cA) e0 (wdX6_init_t6 cA X q x0 x1 x2 x3 x4) none sz)) (va_Qv (fun (z : Option (Nat → Nat)) => ∃ ro, z = some ro) (wB D vwCl (tyA cA) (wdX6_init_t6 cA X q x0 x1 x2 x3 x4) (va_A ((wdX6_init_t6 cA X q x0 x1 x2 x3 x4) none) sz)) (va_A ((wdX6_init_t6 cA X q x0 x1 x2 x3 x4) none) sz)) 0 0 (va_A ((wdX6_init_t6 cA X q x0 x1 x2 x3 x4) none) sz) := by
  refine Met.ofW (cc := cX6_init) (maxL := 6) (ret := none) (by decide) rfl ?_
  intro p e s m args below meth c s₁ B hml hv
  obtain ⟨rfl, hsz, hP, hK, hD0, hE⟩ := hv
  have hx := B.exec
  have hb := B.bytes
  have hr := B.returns
  have hts := atoms_spec (ws := wsX6_init) B.pre
  have hown : s.vm.findClass RX6 = some m.cls := findClass_of_methodNamed B.named
  have hlocks := B.notSynchronized
  have hini : meth.name = "<init>" := (name_of_methodNamed B.named B.method).1
  subst hsz
  have hD := hD0.self (sz := s.heap.size)
  generalize hAe : va_A ((wdX6_init_t6 cA X q x0 x1 x2 x3 x4) none) s.heap.size = A at hD hE ⊢
  have hA : ∀ q : Nat, s.heap.size ≤ q → A q := fun q h => by rw [← hAe]; exact Or.inr h
  have hS : va_S A s.heap s.heap [] := va_S.rf
  have hinX6 : ∀ w ∈ u_ws RX6 TX6 5, w ∈ wsX6_init := by decide +kernel
  have hl := lv_entry ([.ref (q), .int x0, .int x1, .int x2, .int x3, .int x4]) (n := 6) (Nat.le_of_ble_eq_true rfl)
  rw [lg_entry_eq]
  generalize (lg_sl ([.ref (q), .int x0, .int x1, .int x2, .int x3, .int x4]) ++ List.replicate (6 - (lg_sl ([.ref (q), .int x0, .int x1, .int x2, .int x3, .int x4])).length) Slot.unset).toArray = ls at hl ⊢
  have hl : lv_has ls 6 [(0, .ref (q)), (1, .int x0), (2, .int x1), (3, .int x2), (4, .int x3), (5, .int x4)] := hl
  have hP : va_P D vwCl (X ++ [(q, .inr (6, [.int 0, .int 0, .int 0, .int 0, .int 0]))]) s.heap := hP
  have hD : va_D A (X ++ [(q, .inr (6, [.int 0, .int 0, .int 0, .int 0, .int 0]))]) := hD
  refine lv_aload_n hx hb dX6_init_0 rfl (lv_at hl 0 rfl) ?_
  refine W.objInit hx hb hown (hts (.methodLink RX6 1 objectInit) (by decide +kernel)) (hts (.instanceMethod objectInit) (by decide +kernel)) (hts (.code objectInit ⟨#[0xb1]⟩ 1 none) (by decide +kernel)) rfl (by rw [hml]; exact hl.1) rfl dX6_init_1 (Nat.le_of_ble_eq_true rfl) (Nat.le_of_ble_eq_true rfl) ?_
  refine W.eq (g2 := F0 m 4 ls []) rfl ?_
  refine lv_aload_n hx hb dX6_init_4 rfl (lv_at hl 0 rfl) ?_
  refine lv_iload_n hx hb dX6_init_5 rfl (lv_at hl 1 rfl) ?_
  refine va_putF (D := D) (ci := 6) (v := .int x0) (ty := .int) (C := RX6) (T := TX6) (N := 5) hx hb hts hinX6 tyX6 tyX6_ok nmX6 hown hK hP hD hS (X.length + 0) (pre_he rfl) rfl 0 (by decide) (hts (.fieldLink RX6 7 "OneNail$Thing" "number" "I") (by decide +kernel)) (fun _ h9 => h9) rfl hini rfl (by decide +kernel) rfl rfl (Nat.le_of_ble_eq_true rfl) dX6_init_6 (fun H locs hP hD hS => ?_)
  rw [pre_set] at hP hD
  have hP : va_P D vwCl (X ++ [(q, .inr (6, [.int x0, .int 0, .int 0, .int 0, .int 0]))]) H := hP
  have hD : va_D A (X ++ [(q, .inr (6, [.int x0, .int 0, .int 0, .int 0, .int 0]))]) := hD
  refine lv_aload_n hx hb dX6_init_9 rfl (lv_at hl 0 rfl) ?_
  refine lv_iload_n hx hb dX6_init_10 rfl (lv_at hl 2 rfl) ?_
  refine va_putF (D := D) (ci := 6) (v := .int x1) (ty := .int) (C := RX6) (T := TX6) (N := 5) hx hb hts hinX6 tyX6 tyX6_ok nmX6 hown hK hP hD hS (X.length + 0) (pre_he rfl) rfl 1 (by decide) (hts (.fieldLink RX6 13 "OneNail$Thing" "place" "I") (by decide +kernel)) (fun _ h9 => h9) rfl hini rfl (by decide +kernel) rfl rfl (Nat.le_of_ble_eq_true rfl) dX6_init_11 (fun H locs hP hD hS => ?_)
  rw [pre_set] at hP hD
  have hP : va_P D vwCl (X ++ [(q, .inr (6, [.int x0, .int x1, .int 0, .int 0, .int 0]))]) H := hP
  have hD : va_D A (X ++ [(q, .inr (6, [.int x0, .int x1, .int 0, .int 0, .int 0]))]) := hD
  refine lv_aload_n hx hb dX6_init_14 rfl (lv_at hl 0 rfl) ?_
  refine lv_iload_n hx hb dX6_init_15 rfl (lv_at hl 3 rfl) ?_
  refine va_putF (D := D) (ci := 6) (v := .int x2) (ty := .int) (C := RX6) (T := TX6) (N := 5) hx hb hts hinX6 tyX6 tyX6_ok nmX6 hown hK hP hD hS (X.length + 0) (pre_he rfl) rfl 2 (by decide) (hts (.fieldLink RX6 16 "OneNail$Thing" "stay" "I") (by decide +kernel)) (fun _ h9 => h9) rfl hini rfl (by decide +kernel) rfl rfl (Nat.le_of_ble_eq_true rfl) dX6_init_16 (fun H locs hP hD hS => ?_)
  rw [pre_set] at hP hD
  have hP : va_P D vwCl (X ++ [(q, .inr (6, [.int x0, .int x1, .int x2, .int 0, .int 0]))]) H := hP
  have hD : va_D A (X ++ [(q, .inr (6, [.int x0, .int x1, .int x2, .int 0, .int 0]))]) := hD
  refine lv_aload_n hx hb dX6_init_19 rfl (lv_at hl 0 rfl) ?_
  refine lv_iload hx hb dX6_init_20 (lv_at hl 4 rfl) ?_
  refine va_putF (D := D) (ci := 6) (v := .int x3) (ty := .int) (C := RX6) (T := TX6) (N := 5) hx hb hts hinX6 tyX6 tyX6_ok nmX6 hown hK hP hD hS (X.length + 0) (pre_he rfl) rfl 3 (by decide) (hts (.fieldLink RX6 19 "OneNail$Thing" "hold" "I") (by decide +kernel)) (fun _ h9 => h9) rfl hini rfl (by decide +kernel) rfl rfl (Nat.le_of_ble_eq_true rfl) dX6_init_22 (fun H locs hP hD hS => ?_)
  rw [pre_set] at hP hD
  have hP : va_P D vwCl (X ++ [(q, .inr (6, [.int x0, .int x1, .int x2, .int x3, .int 0]))]) H := hP
  have hD : va_D A (X ++ [(q, .inr (6, [.int x0, .int x1, .int x2, .int x3, .int 0]))]) := hD
  refine lv_aload_n hx hb dX6_init_25 rfl (lv_at hl 0 rfl) ?_
  refine lv_iload hx hb dX6_init_26 (lv_at hl 5 rfl) ?_
  refine va_putF (D := D) (ci := 6) (v := .int x4) (ty := .int) (C := RX6) (T := TX6) (N := 5) hx hb hts hinX6 tyX6 tyX6_ok nmX6 hown hK hP hD hS (X.length + 0) (pre_he rfl) rfl 4 (by decide) (hts (.fieldLink RX6 22 "OneNail$Thing" "harmDone" "I") (by decide +kernel)) (fun _ h9 => h9) rfl hini rfl (by decide +kernel) rfl rfl (Nat.le_of_ble_eq_true rfl) dX6_init_28 (fun H locs hP hD hS => ?_)
  rw [pre_set] at hP hD
  have hP : va_P D vwCl (X ++ [(q, .inr (6, [.int x0, .int x1, .int x2, .int x3, .int x4]))]) H := hP
  have hD : va_D A (X ++ [(q, .inr (6, [.int x0, .int x1, .int x2, .int x3, .int x4]))]) := hD
  exact wVret hx hb hr hlocks (some (fun k => ([] : List Nat).getD k 0)) ⟨_, rfl⟩ hK hP hD hS dX6_init_31

def wdX6_init_t1 (cA : Nat → ClassId) (X : va_W) (q : Nat) (x0 x1 x2 x3 x4 : Int32) : Option (Nat → Nat) → va_W
  | none => X ++ [(q, .inr (1, [.int 0, .int 0, .int 0, .int 0, .int 0]))]
  | some ro => X ++ [(q, .inr (1, [.int x0, .int x1, .int x2, .int x3, .int x4]))]
set_option maxHeartbeats 4000000 in
set_option maxRecDepth 100000 in
theorem kX6_init_t1 (l : Launch) (D : va_G) (cA : Nat → ClassId) (X : va_W) (q sz : Nat) (x0 x1 x2 x3 x4 : Int32) : Met l yX6_init wsX6_init ({ frames := 1, cells := 0, slots := 0, locals := 23 } : Room) (va_Pc [.ref (q), .int x0, .int x1, .int x2, .int x3, .int x4] (wA D vwCl (tyA cA) e0 (wdX6_init_t1 cA X q x0 x1 x2 x3 x4) none sz)) (va_Qv (fun (z : Option (Nat → Nat)) => ∃ ro, z = some ro) (wB D vwCl (tyA cA) (wdX6_init_t1 cA X q x0 x1 x2 x3 x4) (va_A ((wdX6_init_t1 cA X q x0 x1 x2 x3 x4) none) sz)) (va_A ((wdX6_init_t1 cA X q x0 x1 x2 x3 x4) none) sz)) 0 0 (va_A ((wdX6_init_t1 cA X q x0 x1 x2 x3 x4) none) sz) := by
  refine Met.ofW (cc := cX6_init) (maxL := 6) (ret := none) (by decide) rfl ?_
  intro p e s m args below meth c s₁ B hml hv
  obtain ⟨rfl, hsz, hP, hK, hD0, hE⟩ := hv
  have hx := B.exec
  have hb := B.bytes
  have hr := B.returns
  have hts := atoms_spec (ws := wsX6_init) B.pre
  have hown : s.vm.findClass RX6 = some m.cls := findClass_of_methodNamed B.named
  have hlocks := B.notSynchronized
  have hini : meth.name = "<init>" := (name_of_methodNamed B.named B.method).1
  subst hsz
  have hD := hD0.self (sz := s.heap.size)
  generalize hAe : va_A ((wdX6_init_t1 cA X q x0 x1 x2 x3 x4) none) s.heap.size = A at hD hE ⊢
  have hA : ∀ q : Nat, s.heap.size ≤ q → A q := fun q h => by rw [← hAe]; exact Or.inr h
  have hS : va_S A s.heap s.heap [] := va_S.rf
  have hinX1 : ∀ w ∈ u_ws RX1 TX1 5, w ∈ wsX6_init := by decide +kernel
  have hl := lv_entry ([.ref (q), .int x0, .int x1, .int x2, .int x3, .int x4]) (n := 6) (Nat.le_of_ble_eq_true rfl)
  rw [lg_entry_eq]
  generalize (lg_sl ([.ref (q), .int x0, .int x1, .int x2, .int x3, .int x4]) ++ List.replicate (6 - (lg_sl ([.ref (q), .int x0, .int x1, .int x2, .int x3, .int x4])).length) Slot.unset).toArray = ls at hl ⊢
  have hl : lv_has ls 6 [(0, .ref (q)), (1, .int x0), (2, .int x1), (3, .int x2), (4, .int x3), (5, .int x4)] := hl
  have hP : va_P D vwCl (X ++ [(q, .inr (1, [.int 0, .int 0, .int 0, .int 0, .int 0]))]) s.heap := hP
  have hD : va_D A (X ++ [(q, .inr (1, [.int 0, .int 0, .int 0, .int 0, .int 0]))]) := hD
  refine lv_aload_n hx hb dX6_init_0 rfl (lv_at hl 0 rfl) ?_
  refine W.objInit hx hb hown (hts (.methodLink RX6 1 objectInit) (by decide +kernel)) (hts (.instanceMethod objectInit) (by decide +kernel)) (hts (.code objectInit ⟨#[0xb1]⟩ 1 none) (by decide +kernel)) rfl (by rw [hml]; exact hl.1) rfl dX6_init_1 (Nat.le_of_ble_eq_true rfl) (Nat.le_of_ble_eq_true rfl) ?_
  refine W.eq (g2 := F0 m 4 ls []) rfl ?_
  refine lv_aload_n hx hb dX6_init_4 rfl (lv_at hl 0 rfl) ?_
  refine lv_iload_n hx hb dX6_init_5 rfl (lv_at hl 1 rfl) ?_
  refine va_putF (D := D) (ci := 1) (v := .int x0) (ty := .int) (C := RX1) (T := TX1) (N := 5) hx hb hts hinX1 tyX1 tyX1_ok nmX1 hown hK hP hD hS (X.length + 0) (pre_he rfl) rfl 0 (by decide) (hts (.fieldLink RX6 7 "OneNail$Thing" "number" "I") (by decide +kernel)) (fun _ h9 => h9) rfl hini rfl (by decide +kernel) rfl rfl (Nat.le_of_ble_eq_true rfl) dX6_init_6 (fun H locs hP hD hS => ?_)
  rw [pre_set] at hP hD
  have hP : va_P D vwCl (X ++ [(q, .inr (1, [.int x0, .int 0, .int 0, .int 0, .int 0]))]) H := hP
  have hD : va_D A (X ++ [(q, .inr (1, [.int x0, .int 0, .int 0, .int 0, .int 0]))]) := hD
  refine lv_aload_n hx hb dX6_init_9 rfl (lv_at hl 0 rfl) ?_
  refine lv_iload_n hx hb dX6_init_10 rfl (lv_at hl 2 rfl) ?_
  refine va_putF (D := D) (ci := 1) (v := .int x1) (ty := .int) (C := RX1) (T := TX1) (N := 5) hx hb hts hinX1 tyX1 tyX1_ok nmX1 hown hK hP hD hS (X.length + 0) (pre_he rfl) rfl 1 (by decide) (hts (.fieldLink RX6 13 "OneNail$Thing" "place" "I") (by decide +kernel)) (fun _ h9 => h9) rfl hini rfl (by decide +kernel) rfl rfl (Nat.le_of_ble_eq_true rfl) dX6_init_11 (fun H locs hP hD hS => ?_)
  rw [pre_set] at hP hD
  have hP : va_P D vwCl (X ++ [(q, .inr (1, [.int x0, .int x1, .int 0, .int 0, .int 0]))]) H := hP
  have hD : va_D A (X ++ [(q, .inr (1, [.int x0, .int x1, .int 0, .int 0, .int 0]))]) := hD
  refine lv_aload_n hx hb dX6_init_14 rfl (lv_at hl 0 rfl) ?_
  refine lv_iload_n hx hb dX6_init_15 rfl (lv_at hl 3 rfl) ?_
  refine va_putF (D := D) (ci := 1) (v := .int x2) (ty := .int) (C := RX1) (T := TX1) (N := 5) hx hb hts hinX1 tyX1 tyX1_ok nmX1 hown hK hP hD hS (X.length + 0) (pre_he rfl) rfl 2 (by decide) (hts (.fieldLink RX6 16 "OneNail$Thing" "stay" "I") (by decide +kernel)) (fun _ h9 => h9) rfl hini rfl (by decide +kernel) rfl rfl (Nat.le_of_ble_eq_true rfl) dX6_init_16 (fun H locs hP hD hS => ?_)
  rw [pre_set] at hP hD
  have hP : va_P D vwCl (X ++ [(q, .inr (1, [.int x0, .int x1, .int x2, .int 0, .int 0]))]) H := hP
  have hD : va_D A (X ++ [(q, .inr (1, [.int x0, .int x1, .int x2, .int 0, .int 0]))]) := hD
  refine lv_aload_n hx hb dX6_init_19 rfl (lv_at hl 0 rfl) ?_
  refine lv_iload hx hb dX6_init_20 (lv_at hl 4 rfl) ?_
  refine va_putF (D := D) (ci := 1) (v := .int x3) (ty := .int) (C := RX1) (T := TX1) (N := 5) hx hb hts hinX1 tyX1 tyX1_ok nmX1 hown hK hP hD hS (X.length + 0) (pre_he rfl) rfl 3 (by decide) (hts (.fieldLink RX6 19 "OneNail$Thing" "hold" "I") (by decide +kernel)) (fun _ h9 => h9) rfl hini rfl (by decide +kernel) rfl rfl (Nat.le_of_ble_eq_true rfl) dX6_init_22 (fun H locs hP hD hS => ?_)
  rw [pre_set] at hP hD
  have hP : va_P D vwCl (X ++ [(q, .inr (1, [.int x0, .int x1, .int x2, .int x3, .int 0]))]) H := hP
  have hD : va_D A (X ++ [(q, .inr (1, [.int x0, .int x1, .int x2, .int x3, .int 0]))]) := hD
  refine lv_aload_n hx hb dX6_init_25 rfl (lv_at hl 0 rfl) ?_
  refine lv_iload hx hb dX6_init_26 (lv_at hl 5 rfl) ?_
  refine va_putF (D := D) (ci := 1) (v := .int x4) (ty := .int) (C := RX1) (T := TX1) (N := 5) hx hb hts hinX1 tyX1 tyX1_ok nmX1 hown hK hP hD hS (X.length + 0) (pre_he rfl) rfl 4 (by decide) (hts (.fieldLink RX6 22 "OneNail$Thing" "harmDone" "I") (by decide +kernel)) (fun _ h9 => h9) rfl hini rfl (by decide +kernel) rfl rfl (Nat.le_of_ble_eq_true rfl) dX6_init_28 (fun H locs hP hD hS => ?_)
  rw [pre_set] at hP hD
  have hP : va_P D vwCl (X ++ [(q, .inr (1, [.int x0, .int x1, .int x2, .int x3, .int x4]))]) H := hP
  have hD : va_D A (X ++ [(q, .inr (1, [.int x0, .int x1, .int x2, .int x3, .int x4]))]) := hD
  exact wVret hx hb hr hlocks (some (fun k => ([] : List Nat).getD k 0)) ⟨_, rfl⟩ hK hP hD hS dX6_init_31

def wdX6_init_t0 (cA : Nat → ClassId) (X : va_W) (q : Nat) (x0 x1 x2 x3 x4 : Int32) : Option (Nat → Nat) → va_W
  | none => X ++ [(q, .inr (0, [.int 0, .int 0, .int 0, .int 0, .int 0]))]
  | some ro => X ++ [(q, .inr (0, [.int x0, .int x1, .int x2, .int x3, .int x4]))]
set_option maxHeartbeats 4000000 in
set_option maxRecDepth 100000 in
theorem kX6_init_t0 (l : Launch) (D : va_G) (cA : Nat → ClassId) (X : va_W) (q sz : Nat) (x0 x1 x2 x3 x4 : Int32) : Met l yX6_init wsX6_init ({ frames := 1, cells := 0, slots := 0, locals := 23 } : Room) (va_Pc [.ref (q), .int x0, .int x1, .int x2, .int x3, .int x4] (wA D vwCl (tyA cA) e0 (wdX6_init_t0 cA X q x0 x1 x2 x3 x4) none sz)) (va_Qv (fun (z : Option (Nat → Nat)) => ∃ ro, z = some ro) (wB D vwCl (tyA cA) (wdX6_init_t0 cA X q x0 x1 x2 x3 x4) (va_A ((wdX6_init_t0 cA X q x0 x1 x2 x3 x4) none) sz)) (va_A ((wdX6_init_t0 cA X q x0 x1 x2 x3 x4) none) sz)) 0 0 (va_A ((wdX6_init_t0 cA X q x0 x1 x2 x3 x4) none) sz) := by
  refine Met.ofW (cc := cX6_init) (maxL := 6) (ret := none) (by decide) rfl ?_
  intro p e s m args below meth c s₁ B hml hv
  obtain ⟨rfl, hsz, hP, hK, hD0, hE⟩ := hv
  have hx := B.exec
  have hb := B.bytes
  have hr := B.returns
  have hts := atoms_spec (ws := wsX6_init) B.pre
  have hown : s.vm.findClass RX6 = some m.cls := findClass_of_methodNamed B.named
  have hlocks := B.notSynchronized
  have hini : meth.name = "<init>" := (name_of_methodNamed B.named B.method).1
  subst hsz
  have hD := hD0.self (sz := s.heap.size)
  generalize hAe : va_A ((wdX6_init_t0 cA X q x0 x1 x2 x3 x4) none) s.heap.size = A at hD hE ⊢
  have hA : ∀ q : Nat, s.heap.size ≤ q → A q := fun q h => by rw [← hAe]; exact Or.inr h
  have hS : va_S A s.heap s.heap [] := va_S.rf
  have hinX0 : ∀ w ∈ u_ws RX0 TX0 5, w ∈ wsX6_init := by decide +kernel
  have hl := lv_entry ([.ref (q), .int x0, .int x1, .int x2, .int x3, .int x4]) (n := 6) (Nat.le_of_ble_eq_true rfl)
  rw [lg_entry_eq]
  generalize (lg_sl ([.ref (q), .int x0, .int x1, .int x2, .int x3, .int x4]) ++ List.replicate (6 - (lg_sl ([.ref (q), .int x0, .int x1, .int x2, .int x3, .int x4])).length) Slot.unset).toArray = ls at hl ⊢
  have hl : lv_has ls 6 [(0, .ref (q)), (1, .int x0), (2, .int x1), (3, .int x2), (4, .int x3), (5, .int x4)] := hl
  have hP : va_P D vwCl (X ++ [(q, .inr (0, [.int 0, .int 0, .int 0, .int 0, .int 0]))]) s.heap := hP
  have hD : va_D A (X ++ [(q, .inr (0, [.int 0, .int 0, .int 0, .int 0, .int 0]))]) := hD
  refine lv_aload_n hx hb dX6_init_0 rfl (lv_at hl 0 rfl) ?_
  refine W.objInit hx hb hown (hts (.methodLink RX6 1 objectInit) (by decide +kernel)) (hts (.instanceMethod objectInit) (by decide +kernel)) (hts (.code objectInit ⟨#[0xb1]⟩ 1 none) (by decide +kernel)) rfl (by rw [hml]; exact hl.1) rfl dX6_init_1 (Nat.le_of_ble_eq_true rfl) (Nat.le_of_ble_eq_true rfl) ?_
  refine W.eq (g2 := F0 m 4 ls []) rfl ?_
  refine lv_aload_n hx hb dX6_init_4 rfl (lv_at hl 0 rfl) ?_
  refine lv_iload_n hx hb dX6_init_5 rfl (lv_at hl 1 rfl) ?_
  refine va_putF (D := D) (ci := 0) (v := .int x0) (ty := .int) (C := RX0) (T := TX0) (N := 5) hx hb hts hinX0 tyX0 tyX0_ok nmX0 hown hK hP hD hS (X.length + 0) (pre_he rfl) rfl 0 (by decide) (hts (.fieldLink RX6 7 "OneNail$Thing" "number" "I") (by decide +kernel)) (fun _ h9 => h9) rfl hini rfl (by decide +kernel) rfl rfl (Nat.le_of_ble_eq_true rfl) dX6_init_6 (fun H locs hP hD hS => ?_)
  rw [pre_set] at hP hD
  have hP : va_P D vwCl (X ++ [(q, .inr (0, [.int x0, .int 0, .int 0, .int 0, .int 0]))]) H := hP
  have hD : va_D A (X ++ [(q, .inr (0, [.int x0, .int 0, .int 0, .int 0, .int 0]))]) := hD
  refine lv_aload_n hx hb dX6_init_9 rfl (lv_at hl 0 rfl) ?_
  refine lv_iload_n hx hb dX6_init_10 rfl (lv_at hl 2 rfl) ?_
  refine va_putF (D := D) (ci := 0) (v := .int x1) (ty := .int) (C := RX0) (T := TX0) (N := 5) hx hb hts hinX0 tyX0 tyX0_ok nmX0 hown hK hP hD hS (X.length + 0) (pre_he rfl) rfl 1 (by decide) (hts (.fieldLink RX6 13 "OneNail$Thing" "place" "I") (by decide +kernel)) (fun _ h9 => h9) rfl hini rfl (by decide +kernel) rfl rfl (Nat.le_of_ble_eq_true rfl) dX6_init_11 (fun H locs hP hD hS => ?_)
  rw [pre_set] at hP hD
  have hP : va_P D vwCl (X ++ [(q, .inr (0, [.int x0, .int x1, .int 0, .int 0, .int 0]))]) H := hP
  have hD : va_D A (X ++ [(q, .inr (0, [.int x0, .int x1, .int 0, .int 0, .int 0]))]) := hD
  refine lv_aload_n hx hb dX6_init_14 rfl (lv_at hl 0 rfl) ?_
  refine lv_iload_n hx hb dX6_init_15 rfl (lv_at hl 3 rfl) ?_
  refine va_putF (D := D) (ci := 0) (v := .int x2) (ty := .int) (C := RX0) (T := TX0) (N := 5) hx hb hts hinX0 tyX0 tyX0_ok nmX0 hown hK hP hD hS (X.length + 0) (pre_he rfl) rfl 2 (by decide) (hts (.fieldLink RX6 16 "OneNail$Thing" "stay" "I") (by decide +kernel)) (fun _ h9 => h9) rfl hini rfl (by decide +kernel) rfl rfl (Nat.le_of_ble_eq_true rfl) dX6_init_16 (fun H locs hP hD hS => ?_)
  rw [pre_set] at hP hD
  have hP : va_P D vwCl (X ++ [(q, .inr (0, [.int x0, .int x1, .int x2, .int 0, .int 0]))]) H := hP
  have hD : va_D A (X ++ [(q, .inr (0, [.int x0, .int x1, .int x2, .int 0, .int 0]))]) := hD
  refine lv_aload_n hx hb dX6_init_19 rfl (lv_at hl 0 rfl) ?_
  refine lv_iload hx hb dX6_init_20 (lv_at hl 4 rfl) ?_
  refine va_putF (D := D) (ci := 0) (v := .int x3) (ty := .int) (C := RX0) (T := TX0) (N := 5) hx hb hts hinX0 tyX0 tyX0_ok nmX0 hown hK hP hD hS (X.length + 0) (pre_he rfl) rfl 3 (by decide) (hts (.fieldLink RX6 19 "OneNail$Thing" "hold" "I") (by decide +kernel)) (fun _ h9 => h9) rfl hini rfl (by decide +kernel) rfl rfl (Nat.le_of_ble_eq_true rfl) dX6_init_22 (fun H locs hP hD hS => ?_)
  rw [pre_set] at hP hD
  have hP : va_P D vwCl (X ++ [(q, .inr (0, [.int x0, .int x1, .int x2, .int x3, .int 0]))]) H := hP
  have hD : va_D A (X ++ [(q, .inr (0, [.int x0, .int x1, .int x2, .int x3, .int 0]))]) := hD
  refine lv_aload_n hx hb dX6_init_25 rfl (lv_at hl 0 rfl) ?_
  refine lv_iload hx hb dX6_init_26 (lv_at hl 5 rfl) ?_
  refine va_putF (D := D) (ci := 0) (v := .int x4) (ty := .int) (C := RX0) (T := TX0) (N := 5) hx hb hts hinX0 tyX0 tyX0_ok nmX0 hown hK hP hD hS (X.length + 0) (pre_he rfl) rfl 4 (by decide) (hts (.fieldLink RX6 22 "OneNail$Thing" "harmDone" "I") (by decide +kernel)) (fun _ h9 => h9) rfl hini rfl (by decide +kernel) rfl rfl (Nat.le_of_ble_eq_true rfl) dX6_init_28 (fun H locs hP hD hS => ?_)
  rw [pre_set] at hP hD
  have hP : va_P D vwCl (X ++ [(q, .inr (0, [.int x0, .int x1, .int x2, .int x3, .int x4]))]) H := hP
  have hD : va_D A (X ++ [(q, .inr (0, [.int x0, .int x1, .int x2, .int x3, .int x4]))]) := hD
  exact wVret hx hb hr hlocks (some (fun k => ([] : List Nat).getD k 0)) ⟨_, rfl⟩ hK hP hD hS dX6_init_31

def wdX1_init_t1 (cA : Nat → ClassId) (X : va_W) (q : Nat) (x0 x1 x2 x3 x4 : Int32) : Option (Nat → Nat) → va_W
  | none => X ++ [(q, .inr (1, [.int 0, .int 0, .int 0, .int 0, .int 0]))]
  | some ro => X ++ [(q, .inr (1, [.int x0, .int x1, .int x2, .int x3, .int x4]))]
set_option maxHeartbeats 4000000 in
set_option maxRecDepth 100000 in
theorem kX1_init_t1 (l : Launch) (D : va_G) (cA : Nat → ClassId) (X : va_W) (q sz : Nat) (x0 x1 x2 x3 x4 : Int32) : Met l yX1_init wsX1_init ({ frames := 2, cells := 0, slots := 0, locals := 48 } : Room) (va_Pc [.ref (q), .int x0, .int x1, .int x2, .int x3, .int x4] (wA D vwCl (tyA cA) e0 (wdX1_init_t1 cA X q x0 x1 x2 x3 x4) none sz)) (va_Qv (fun (z : Option (Nat → Nat)) => ∃ ro, z = some ro) (wB D vwCl (tyA cA) (wdX1_init_t1 cA X q x0 x1 x2 x3 x4) (va_A ((wdX1_init_t1 cA X q x0 x1 x2 x3 x4) none) sz)) (va_A ((wdX1_init_t1 cA X q x0 x1 x2 x3 x4) none) sz)) 0 0 (va_A ((wdX1_init_t1 cA X q x0 x1 x2 x3 x4) none) sz) := by
  refine Met.ofW (cc := cX1_init) (maxL := 6) (ret := none) (by decide) rfl ?_
  intro p e s m args below meth c s₁ B hml hv
  obtain ⟨rfl, hsz, hP, hK, hD0, hE⟩ := hv
  have hx := B.exec
  have hb := B.bytes
  have hr := B.returns
  have hts := atoms_spec (ws := wsX1_init) B.pre
  have hown : s.vm.findClass RX1 = some m.cls := findClass_of_methodNamed B.named
  have hlocks := B.notSynchronized
  have hini : meth.name = "<init>" := (name_of_methodNamed B.named B.method).1
  subst hsz
  have hD := hD0.self (sz := s.heap.size)
  generalize hAe : va_A ((wdX1_init_t1 cA X q x0 x1 x2 x3 x4) none) s.heap.size = A at hD hE ⊢
  have hA : ∀ q : Nat, s.heap.size ≤ q → A q := fun q h => by rw [← hAe]; exact Or.inr h
  have hS : va_S A s.heap s.heap [] := va_S.rf
  have hl := lv_entry ([.ref (q), .int x0, .int x1, .int x2, .int x3, .int x4]) (n := 6) (Nat.le_of_ble_eq_true rfl)
  rw [lg_entry_eq]
  generalize (lg_sl ([.ref (q), .int x0, .int x1, .int x2, .int x3, .int x4]) ++ List.replicate (6 - (lg_sl ([.ref (q), .int x0, .int x1, .int x2, .int x3, .int x4])).length) Slot.unset).toArray = ls at hl ⊢
  have hl : lv_has ls 6 [(0, .ref (q)), (1, .int x0), (2, .int x1), (3, .int x2), (4, .int x3), (5, .int x4)] := hl
  have hP : va_P D vwCl (X ++ [(q, .inr (1, [.int 0, .int 0, .int 0, .int 0, .int 0]))]) s.heap := hP
  have hD : va_D A (X ++ [(q, .inr (1, [.int 0, .int 0, .int 0, .int 0, .int 0]))]) := hD
  refine lv_aload_n hx hb dX1_init_0 rfl (lv_at hl 0 rfl) ?_
  refine lv_iload_n hx hb dX1_init_1 rfl (lv_at hl 1 rfl) ?_
  refine lv_iload_n hx hb dX1_init_2 rfl (lv_at hl 2 rfl) ?_
  refine lv_iload_n hx hb dX1_init_3 rfl (lv_at hl 3 rfl) ?_
  refine lv_iload hx hb dX1_init_4 (lv_at hl 4 rfl) ?_
  refine lv_iload hx hb dX1_init_6 (lv_at hl 5 rfl) ?_
  have hP : va_P D vwCl ((wdX6_init_t1 cA X q x0 x1 x2 x3 x4) none) _ := hP
  have hD : va_D A ((wdX6_init_t1 cA X q x0 x1 x2 x3 x4) none) := hD
  refine wIv e0_S (As := [.int x0, .int x1, .int x2, .int x3, .int x4]) (rest := []) ⟨hx, hb, hml, hown, hts⟩ (kX6_init_t1 l D cA X q _ x0 x1 x2 x3 x4) (cwI 5 hts gX1_init_X6_init rfl rfl rfl (hts (.initialized RX6) (by decide +kernel)) (hts (.methodLink RX1 1 yX6_init) (by decide +kernel)) (hts (.instanceMethod yX6_init) (by decide +kernel)) rfl (by decide +kernel) ⟨Nat.le_of_ble_eq_true rfl, Nat.le_of_ble_eq_true rfl⟩) hK hP hD hS hA trivial rfl hl.1 rfl (Nat.le_of_ble_eq_true rfl) dX1_init_8 ⟨Nat.le_of_ble_eq_true rfl, Nat.le_of_ble_eq_true rfl⟩ (fun z_1 H locs hw_2 hP hD hS => ?_)
  obtain ⟨ro3, rfl⟩ := hw_2
  have hP : va_P D vwCl (X ++ [(q, .inr (1, [.int x0, .int x1, .int x2, .int x3, .int x4]))]) H := hP
  have hD : va_D A (X ++ [(q, .inr (1, [.int x0, .int x1, .int x2, .int x3, .int x4]))]) := hD
  exact wVret hx hb hr hlocks (some (fun k => ([] : List Nat).getD k 0)) ⟨_, rfl⟩ hK hP hD hS dX1_init_11

def wdX1_init_t0 (cA : Nat → ClassId) (X : va_W) (q : Nat) (x0 x1 x2 x3 x4 : Int32) : Option (Nat → Nat) → va_W
  | none => X ++ [(q, .inr (0, [.int 0, .int 0, .int 0, .int 0, .int 0]))]
  | some ro => X ++ [(q, .inr (0, [.int x0, .int x1, .int x2, .int x3, .int x4]))]
set_option maxHeartbeats 4000000 in
set_option maxRecDepth 100000 in
theorem kX1_init_t0 (l : Launch) (D : va_G) (cA : Nat → ClassId) (X : va_W) (q sz : Nat) (x0 x1 x2 x3 x4 : Int32) : Met l yX1_init wsX1_init ({ frames := 2, cells := 0, slots := 0, locals := 48 } : Room) (va_Pc [.ref (q), .int x0, .int x1, .int x2, .int x3, .int x4] (wA D vwCl (tyA cA) e0 (wdX1_init_t0 cA X q x0 x1 x2 x3 x4) none sz)) (va_Qv (fun (z : Option (Nat → Nat)) => ∃ ro, z = some ro) (wB D vwCl (tyA cA) (wdX1_init_t0 cA X q x0 x1 x2 x3 x4) (va_A ((wdX1_init_t0 cA X q x0 x1 x2 x3 x4) none) sz)) (va_A ((wdX1_init_t0 cA X q x0 x1 x2 x3 x4) none) sz)) 0 0 (va_A ((wdX1_init_t0 cA X q x0 x1 x2 x3 x4) none) sz) := by
  refine Met.ofW (cc := cX1_init) (maxL := 6) (ret := none) (by decide) rfl ?_
  intro p e s m args below meth c s₁ B hml hv
  obtain ⟨rfl, hsz, hP, hK, hD0, hE⟩ := hv
  have hx := B.exec
  have hb := B.bytes
  have hr := B.returns
  have hts := atoms_spec (ws := wsX1_init) B.pre
  have hown : s.vm.findClass RX1 = some m.cls := findClass_of_methodNamed B.named
  have hlocks := B.notSynchronized
  have hini : meth.name = "<init>" := (name_of_methodNamed B.named B.method).1
  subst hsz
  have hD := hD0.self (sz := s.heap.size)
  generalize hAe : va_A ((wdX1_init_t0 cA X q x0 x1 x2 x3 x4) none) s.heap.size = A at hD hE ⊢
  have hA : ∀ q : Nat, s.heap.size ≤ q → A q := fun q h => by rw [← hAe]; exact Or.inr h
  have hS : va_S A s.heap s.heap [] := va_S.rf
  have hl := lv_entry ([.ref (q), .int x0, .int x1, .int x2, .int x3, .int x4]) (n := 6) (Nat.le_of_ble_eq_true rfl)
  rw [lg_entry_eq]
  generalize (lg_sl ([.ref (q), .int x0, .int x1, .int x2, .int x3, .int x4]) ++ List.replicate (6 - (lg_sl ([.ref (q), .int x0, .int x1, .int x2, .int x3, .int x4])).length) Slot.unset).toArray = ls at hl ⊢
  have hl : lv_has ls 6 [(0, .ref (q)), (1, .int x0), (2, .int x1), (3, .int x2), (4, .int x3), (5, .int x4)] := hl
  have hP : va_P D vwCl (X ++ [(q, .inr (0, [.int 0, .int 0, .int 0, .int 0, .int 0]))]) s.heap := hP
  have hD : va_D A (X ++ [(q, .inr (0, [.int 0, .int 0, .int 0, .int 0, .int 0]))]) := hD
  refine lv_aload_n hx hb dX1_init_0 rfl (lv_at hl 0 rfl) ?_
  refine lv_iload_n hx hb dX1_init_1 rfl (lv_at hl 1 rfl) ?_
  refine lv_iload_n hx hb dX1_init_2 rfl (lv_at hl 2 rfl) ?_
  refine lv_iload_n hx hb dX1_init_3 rfl (lv_at hl 3 rfl) ?_
  refine lv_iload hx hb dX1_init_4 (lv_at hl 4 rfl) ?_
  refine lv_iload hx hb dX1_init_6 (lv_at hl 5 rfl) ?_
  have hP : va_P D vwCl ((wdX6_init_t0 cA X q x0 x1 x2 x3 x4) none) _ := hP
  have hD : va_D A ((wdX6_init_t0 cA X q x0 x1 x2 x3 x4) none) := hD
  refine wIv e0_S (As := [.int x0, .int x1, .int x2, .int x3, .int x4]) (rest := []) ⟨hx, hb, hml, hown, hts⟩ (kX6_init_t0 l D cA X q _ x0 x1 x2 x3 x4) (cwI 5 hts gX1_init_X6_init rfl rfl rfl (hts (.initialized RX6) (by decide +kernel)) (hts (.methodLink RX1 1 yX6_init) (by decide +kernel)) (hts (.instanceMethod yX6_init) (by decide +kernel)) rfl (by decide +kernel) ⟨Nat.le_of_ble_eq_true rfl, Nat.le_of_ble_eq_true rfl⟩) hK hP hD hS hA trivial rfl hl.1 rfl (Nat.le_of_ble_eq_true rfl) dX1_init_8 ⟨Nat.le_of_ble_eq_true rfl, Nat.le_of_ble_eq_true rfl⟩ (fun z_1 H locs hw_2 hP hD hS => ?_)
  obtain ⟨ro3, rfl⟩ := hw_2
  have hP : va_P D vwCl (X ++ [(q, .inr (0, [.int x0, .int x1, .int x2, .int x3, .int x4]))]) H := hP
  have hD : va_D A (X ++ [(q, .inr (0, [.int x0, .int x1, .int x2, .int x3, .int x4]))]) := hD
  exact wVret hx hb hr hlocks (some (fun k => ([] : List Nat).getD k 0)) ⟨_, rfl⟩ hK hP hD hS dX1_init_11

def wdX0_init_t0 (cA : Nat → ClassId) (X : va_W) (q : Nat) (x0 x1 x2 x3 x4 : Int32) : Option (Nat → Nat) → va_W
  | none => X ++ [(q, .inr (0, [.int 0, .int 0, .int 0, .int 0, .int 0]))]
  | some ro => X ++ [(q, .inr (0, [.int x0, .int x1, .int x2, .int x3, .int x4]))]
set_option maxHeartbeats 4000000 in
set_option maxRecDepth 100000 in
theorem kX0_init_t0 (l : Launch) (D : va_G) (cA : Nat → ClassId) (X : va_W) (q sz : Nat) (x0 x1 x2 x3 x4 : Int32) : Met l yX0_init wsX0_init ({ frames := 3, cells := 0, slots := 0, locals := 73 } : Room) (va_Pc [.ref (q), .int x0, .int x1, .int x2, .int x3, .int x4] (wA D vwCl (tyA cA) e0 (wdX0_init_t0 cA X q x0 x1 x2 x3 x4) none sz)) (va_Qv (fun (z : Option (Nat → Nat)) => ∃ ro, z = some ro) (wB D vwCl (tyA cA) (wdX0_init_t0 cA X q x0 x1 x2 x3 x4) (va_A ((wdX0_init_t0 cA X q x0 x1 x2 x3 x4) none) sz)) (va_A ((wdX0_init_t0 cA X q x0 x1 x2 x3 x4) none) sz)) 0 0 (va_A ((wdX0_init_t0 cA X q x0 x1 x2 x3 x4) none) sz) := by
  refine Met.ofW (cc := cX0_init) (maxL := 6) (ret := none) (by decide) rfl ?_
  intro p e s m args below meth c s₁ B hml hv
  obtain ⟨rfl, hsz, hP, hK, hD0, hE⟩ := hv
  have hx := B.exec
  have hb := B.bytes
  have hr := B.returns
  have hts := atoms_spec (ws := wsX0_init) B.pre
  have hown : s.vm.findClass RX0 = some m.cls := findClass_of_methodNamed B.named
  have hlocks := B.notSynchronized
  have hini : meth.name = "<init>" := (name_of_methodNamed B.named B.method).1
  subst hsz
  have hD := hD0.self (sz := s.heap.size)
  generalize hAe : va_A ((wdX0_init_t0 cA X q x0 x1 x2 x3 x4) none) s.heap.size = A at hD hE ⊢
  have hA : ∀ q : Nat, s.heap.size ≤ q → A q := fun q h => by rw [← hAe]; exact Or.inr h
  have hS : va_S A s.heap s.heap [] := va_S.rf
  have hl := lv_entry ([.ref (q), .int x0, .int x1, .int x2, .int x3, .int x4]) (n := 6) (Nat.le_of_ble_eq_true rfl)
  rw [lg_entry_eq]
  generalize (lg_sl ([.ref (q), .int x0, .int x1, .int x2, .int x3, .int x4]) ++ List.replicate (6 - (lg_sl ([.ref (q), .int x0, .int x1, .int x2, .int x3, .int x4])).length) Slot.unset).toArray = ls at hl ⊢
  have hl : lv_has ls 6 [(0, .ref (q)), (1, .int x0), (2, .int x1), (3, .int x2), (4, .int x3), (5, .int x4)] := hl
  have hP : va_P D vwCl (X ++ [(q, .inr (0, [.int 0, .int 0, .int 0, .int 0, .int 0]))]) s.heap := hP
  have hD : va_D A (X ++ [(q, .inr (0, [.int 0, .int 0, .int 0, .int 0, .int 0]))]) := hD
  refine lv_aload_n hx hb dX0_init_0 rfl (lv_at hl 0 rfl) ?_
  refine lv_iload_n hx hb dX0_init_1 rfl (lv_at hl 1 rfl) ?_
  refine lv_iload_n hx hb dX0_init_2 rfl (lv_at hl 2 rfl) ?_
  refine lv_iload_n hx hb dX0_init_3 rfl (lv_at hl 3 rfl) ?_
  refine lv_iload hx hb dX0_init_4 (lv_at hl 4 rfl) ?_
  refine lv_iload hx hb dX0_init_6 (lv_at hl 5 rfl) ?_
  have hP : va_P D vwCl ((wdX1_init_t0 cA X q x0 x1 x2 x3 x4) none) _ := hP
  have hD : va_D A ((wdX1_init_t0 cA X q x0 x1 x2 x3 x4) none) := hD
  refine wIv e0_S (As := [.int x0, .int x1, .int x2, .int x3, .int x4]) (rest := []) ⟨hx, hb, hml, hown, hts⟩ (kX1_init_t0 l D cA X q _ x0 x1 x2 x3 x4) (cwI 5 hts gX0_init_X1_init rfl rfl rfl (hts (.initialized RX1) (by decide +kernel)) (hts (.methodLink RX0 1 yX1_init) (by decide +kernel)) (hts (.instanceMethod yX1_init) (by decide +kernel)) rfl (by decide +kernel) ⟨Nat.le_of_ble_eq_true rfl, Nat.le_of_ble_eq_true rfl⟩) hK hP hD hS hA trivial rfl hl.1 rfl (Nat.le_of_ble_eq_true rfl) dX0_init_8 ⟨Nat.le_of_ble_eq_true rfl, Nat.le_of_ble_eq_true rfl⟩ (fun z_1 H locs hw_2 hP hD hS => ?_)
  obtain ⟨ro3, rfl⟩ := hw_2
  have hP : va_P D vwCl (X ++ [(q, .inr (0, [.int x0, .int x1, .int x2, .int x3, .int x4]))]) H := hP
  have hD : va_D A (X ++ [(q, .inr (0, [.int x0, .int x1, .int x2, .int x3, .int x4]))]) := hD
  exact wVret hx hb hr hlocks (some (fun k => ([] : List Nat).getD k 0)) ⟨_, rfl⟩ hK hP hD hS dX0_init_11

def wdX5_init (cA : Nat → ClassId) (X : va_W) (q : Nat)  : Option (Nat → Nat) → va_W
  | none => X ++ [(q, .inr (5, [.int 0, .int 0, .int 0, .null, .null, .null, .null, .null]))]
  | some ro => X ++ [(q, .inr (5, [.int (nI 0), .int (nI 0), .int (nI 0), .ref ((ro 0)), .ref ((ro 1)), .ref ((ro 2)), .ref ((ro 3)), .ref ((ro 4))])), ((ro 0), .inl (cA 3, 6, .inr (.inr (.inr (.inr (fun _ => none)))))), ((ro 1), .inl (cA 0, 6, .inl (fun _ => 0))), ((ro 2), .inl (cA 0, 6, .inl (fun _ => 0))), ((ro 3), .inl (cA 0, 6, .inl (fun _ => 0))), ((ro 4), .inl (cA 0, 6, .inl (fun _ => 0)))]
set_option maxHeartbeats 4000000 in
set_option maxRecDepth 100000 in
theorem kX5_init (l : Launch) (D : va_G) (cA : Nat → ClassId) (X : va_W) (q sz : Nat)  : Met l yX5_init wsX5_init ({ frames := 1, cells := 5, slots := 30, locals := 23 } : Room) (va_Pc [.ref (q)] (wA D vwCl (tyA cA) eA (wdX5_init cA X q) none sz)) (va_Qv (fun (z : Option (Nat → Nat)) => ∃ ro, z = some ro) (wB D vwCl (tyA cA) (wdX5_init cA X q) (va_A ((wdX5_init cA X q) none) sz)) (va_A ((wdX5_init cA X q) none) sz)) 5 30 (va_A ((wdX5_init cA X q) none) sz) := by
  refine Met.ofW (cc := cX5_init) (maxL := 1) (ret := none) (by decide) rfl ?_
  intro p e s m args below meth c s₁ B hml hv
  obtain ⟨rfl, hsz, hP, hK, hD0, hE⟩ := hv
  have hx := B.exec
  have hb := B.bytes
  have hr := B.returns
  have hts := atoms_spec (ws := wsX5_init) B.pre
  have hown : s.vm.findClass RX5 = some m.cls := findClass_of_methodNamed B.named
  have hlocks := B.notSynchronized
  have hini : meth.name = "<init>" := (name_of_methodNamed B.named B.method).1
  subst hsz
  have hD := hD0.self (sz := s.heap.size)
  generalize hAe : va_A ((wdX5_init cA X q) none) s.heap.size = A at hD hE ⊢
  have hA : ∀ q : Nat, s.heap.size ≤ q → A q := fun q h => by rw [← hAe]; exact Or.inr h
  have hS : va_S A s.heap s.heap [] := va_S.rf
  have hinX5 : ∀ w ∈ u_ws RX5 TX5 8, w ∈ wsX5_init := by decide +kernel
  have hl := lv_entry ([.ref (q)]) (n := 1) (Nat.le_of_ble_eq_true rfl)
  rw [lg_entry_eq]
  generalize (lg_sl ([.ref (q)]) ++ List.replicate (1 - (lg_sl ([.ref (q)])).length) Slot.unset).toArray = ls at hl ⊢
  have hl : lv_has ls 1 [(0, .ref (q))] := hl
  have hP : va_P D vwCl (X ++ [(q, .inr (5, [.int 0, .int 0, .int 0, .null, .null, .null, .null, .null]))]) s.heap := hP
  have hD : va_D A (X ++ [(q, .inr (5, [.int 0, .int 0, .int 0, .null, .null, .null, .null, .null]))]) := hD
  refine lv_aload_n hx hb dX5_init_0 rfl (lv_at hl 0 rfl) ?_
  refine W.objInit hx hb hown (hts (.methodLink RX5 3 objectInit) (by decide +kernel)) (hts (.instanceMethod objectInit) (by decide +kernel)) (hts (.code objectInit ⟨#[0xb1]⟩ 1 none) (by decide +kernel)) rfl (by rw [hml]; exact hl.1) rfl dX5_init_1 (Nat.le_of_ble_eq_true rfl) (Nat.le_of_ble_eq_true rfl) ?_
  refine W.eq (g2 := F0 m 4 ls []) rfl ?_
  refine lv_aload_n hx hb dX5_init_4 rfl (lv_at hl 0 rfl) ?_
  refine lv_iconst (v := (nI 0)) hx hb dX5_init_5 rfl ?_
  refine va_put (D := D) (ci := 5) (v := .int (nI 0)) (ty := .int) (C := RX5) (T := TX5) (N := 8) hx hb hts hinX5 tyX5 tyX5_ok nmX5 hown hK hP hD hS (X.length + 0) (pre_he rfl) rfl 0 (by decide) (hts (.fieldLink RX5 9 "OneNail$Street" "count" "I") (by decide +kernel)) (fun _ h9 => h9) rfl (by decide +kernel) rfl rfl (Nat.le_of_ble_eq_true rfl) dX5_init_6 (fun H locs hP hD hS => ?_)
  rw [pre_set] at hP hD
  have hP : va_P D vwCl (X ++ [(q, .inr (5, [.int (nI 0), .int 0, .int 0, .null, .null, .null, .null, .null]))]) H := hP
  have hD : va_D A (X ++ [(q, .inr (5, [.int (nI 0), .int 0, .int 0, .null, .null, .null, .null, .null]))]) := hD
  refine lv_aload_n hx hb dX5_init_9 rfl (lv_at hl 0 rfl) ?_
  refine lv_iconst (v := (nI 0)) hx hb dX5_init_10 rfl ?_
  refine va_put (D := D) (ci := 5) (v := .int (nI 0)) (ty := .int) (C := RX5) (T := TX5) (N := 8) hx hb hts hinX5 tyX5 tyX5_ok nmX5 hown hK hP hD hS (X.length + 0) (pre_he rfl) rfl 1 (by decide) (hts (.fieldLink RX5 15 "OneNail$Street" "smithyPlace" "I") (by decide +kernel)) (fun _ h9 => h9) rfl (by decide +kernel) rfl rfl (Nat.le_of_ble_eq_true rfl) dX5_init_11 (fun H locs hP hD hS => ?_)
  rw [pre_set] at hP hD
  have hP : va_P D vwCl (X ++ [(q, .inr (5, [.int (nI 0), .int (nI 0), .int 0, .null, .null, .null, .null, .null]))]) H := hP
  have hD : va_D A (X ++ [(q, .inr (5, [.int (nI 0), .int (nI 0), .int 0, .null, .null, .null, .null, .null]))]) := hD
  refine lv_aload_n hx hb dX5_init_14 rfl (lv_at hl 0 rfl) ?_
  refine lv_iconst (v := (nI 0)) hx hb dX5_init_15 rfl ?_
  refine va_put (D := D) (ci := 5) (v := .int (nI 0)) (ty := .int) (C := RX5) (T := TX5) (N := 8) hx hb hts hinX5 tyX5 tyX5_ok nmX5 hown hK hP hD hS (X.length + 0) (pre_he rfl) rfl 2 (by decide) (hts (.fieldLink RX5 18 "OneNail$Street" "rusted" "I") (by decide +kernel)) (fun _ h9 => h9) rfl (by decide +kernel) rfl rfl (Nat.le_of_ble_eq_true rfl) dX5_init_16 (fun H locs hP hD hS => ?_)
  rw [pre_set] at hP hD
  have hP : va_P D vwCl (X ++ [(q, .inr (5, [.int (nI 0), .int (nI 0), .int (nI 0), .null, .null, .null, .null, .null]))]) H := hP
  have hD : va_D A (X ++ [(q, .inr (5, [.int (nI 0), .int (nI 0), .int (nI 0), .null, .null, .null, .null, .null]))]) := hD
  refine lv_aload_n hx hb dX5_init_19 rfl (lv_at hl 0 rfl) ?_
  refine lv_bipush (v := (nI 6)) hx hb dX5_init_20 rfl ?_
  refine wNewQ (t0 := 3) hx hb hown (hts (.classLink RX5 21 RX6) (by decide +kernel)) hE.1 rfl hK hP hD hS hA 6 (by decide) (Nat.le_of_ble_eq_true rfl) (Nat.le_of_ble_eq_true rfl) dX5_init_22 (fun q1 H hP hD hS => ?_)
  rw [pre_app] at hP hD
  have hP : va_P D vwCl (X ++ [(q, .inr (5, [.int (nI 0), .int (nI 0), .int (nI 0), .null, .null, .null, .null, .null])), (q1, .inl (cA 3, 6, .inr (.inr (.inr (.inr (fun _ => none))))))]) H := hP
  have hD : va_D A (X ++ [(q, .inr (5, [.int (nI 0), .int (nI 0), .int (nI 0), .null, .null, .null, .null, .null])), (q1, .inl (cA 3, 6, .inr (.inr (.inr (.inr (fun _ => none))))))]) := hD
  refine va_putF (D := D) (ci := 5) (v := .ref (q1)) (ty := .array (.object "OneNail$Thing")) (C := RX5) (T := TX5) (N := 8) hx hb hts hinX5 tyX5 tyX5_ok nmX5 hown hK hP hD hS (X.length + 0) (pre_he rfl) rfl 3 (by decide) (hts (.fieldLink RX5 23 "OneNail$Street" "things" "[LOneNail$Thing;") (by decide +kernel)) (fun _ h9 => h9) rfl hini rfl (by decide +kernel) rfl rfl (Nat.le_of_ble_eq_true rfl) dX5_init_25 (fun H locs hP hD hS => ?_)
  rw [pre_set] at hP hD
  have hP : va_P D vwCl (X ++ [(q, .inr (5, [.int (nI 0), .int (nI 0), .int (nI 0), .ref (q1), .null, .null, .null, .null])), (q1, .inl (cA 3, 6, .inr (.inr (.inr (.inr (fun _ => none))))))]) H := hP
  have hD : va_D A (X ++ [(q, .inr (5, [.int (nI 0), .int (nI 0), .int (nI 0), .ref (q1), .null, .null, .null, .null])), (q1, .inl (cA 3, 6, .inr (.inr (.inr (.inr (fun _ => none))))))]) := hD
  refine lv_aload_n hx hb dX5_init_28 rfl (lv_at hl 0 rfl) ?_
  refine lv_bipush (v := (nI 6)) hx hb dX5_init_29 rfl ?_
  refine wNewI hx hb (hts (.arrayClass .int) (by decide +kernel)) hK hP hD hS hA 6 (by decide) (Nat.le_of_ble_eq_true rfl) (Nat.le_of_ble_eq_true rfl) dX5_init_31 (fun q2 H hP hD hS => ?_)
  rw [pre_app] at hP hD
  have hP : va_P D vwCl (X ++ [(q, .inr (5, [.int (nI 0), .int (nI 0), .int (nI 0), .ref (q1), .null, .null, .null, .null])), (q1, .inl (cA 3, 6, .inr (.inr (.inr (.inr (fun _ => none)))))), (q2, .inl (cA 0, 6, .inl (fun _ => 0)))]) H := hP
  have hD : va_D A (X ++ [(q, .inr (5, [.int (nI 0), .int (nI 0), .int (nI 0), .ref (q1), .null, .null, .null, .null])), (q1, .inl (cA 3, 6, .inr (.inr (.inr (.inr (fun _ => none)))))), (q2, .inl (cA 0, 6, .inl (fun _ => 0)))]) := hD
  refine va_putF (D := D) (ci := 5) (v := .ref (q2)) (ty := .array .int) (C := RX5) (T := TX5) (N := 8) hx hb hts hinX5 tyX5 tyX5_ok nmX5 hown hK hP hD hS (X.length + 0) (pre_he rfl) rfl 4 (by decide) (hts (.fieldLink RX5 27 "OneNail$Street" "places" "[I") (by decide +kernel)) (fun _ h9 => h9) rfl hini rfl (by decide +kernel) rfl rfl (Nat.le_of_ble_eq_true rfl) dX5_init_33 (fun H locs hP hD hS => ?_)
  rw [pre_set] at hP hD
  have hP : va_P D vwCl (X ++ [(q, .inr (5, [.int (nI 0), .int (nI 0), .int (nI 0), .ref (q1), .ref (q2), .null, .null, .null])), (q1, .inl (cA 3, 6, .inr (.inr (.inr (.inr (fun _ => none)))))), (q2, .inl (cA 0, 6, .inl (fun _ => 0)))]) H := hP
  have hD : va_D A (X ++ [(q, .inr (5, [.int (nI 0), .int (nI 0), .int (nI 0), .ref (q1), .ref (q2), .null, .null, .null])), (q1, .inl (cA 3, 6, .inr (.inr (.inr (.inr (fun _ => none)))))), (q2, .inl (cA 0, 6, .inl (fun _ => 0)))]) := hD
  refine lv_aload_n hx hb dX5_init_36 rfl (lv_at hl 0 rfl) ?_
  refine lv_bipush (v := (nI 6)) hx hb dX5_init_37 rfl ?_
  refine wNewI hx hb (hts (.arrayClass .int) (by decide +kernel)) hK hP hD hS hA 6 (by decide) (Nat.le_of_ble_eq_true rfl) (Nat.le_of_ble_eq_true rfl) dX5_init_39 (fun q3 H hP hD hS => ?_)
  rw [pre_app] at hP hD
  have hP : va_P D vwCl (X ++ [(q, .inr (5, [.int (nI 0), .int (nI 0), .int (nI 0), .ref (q1), .ref (q2), .null, .null, .null])), (q1, .inl (cA 3, 6, .inr (.inr (.inr (.inr (fun _ => none)))))), (q2, .inl (cA 0, 6, .inl (fun _ => 0))), (q3, .inl (cA 0, 6, .inl (fun _ => 0)))]) H := hP
  have hD : va_D A (X ++ [(q, .inr (5, [.int (nI 0), .int (nI 0), .int (nI 0), .ref (q1), .ref (q2), .null, .null, .null])), (q1, .inl (cA 3, 6, .inr (.inr (.inr (.inr (fun _ => none)))))), (q2, .inl (cA 0, 6, .inl (fun _ => 0))), (q3, .inl (cA 0, 6, .inl (fun _ => 0)))]) := hD
  refine va_putF (D := D) (ci := 5) (v := .ref (q3)) (ty := .array .int) (C := RX5) (T := TX5) (N := 8) hx hb hts hinX5 tyX5 tyX5_ok nmX5 hown hK hP hD hS (X.length + 0) (pre_he rfl) rfl 5 (by decide) (hts (.fieldLink RX5 31 "OneNail$Street" "stays" "[I") (by decide +kernel)) (fun _ h9 => h9) rfl hini rfl (by decide +kernel) rfl rfl (Nat.le_of_ble_eq_true rfl) dX5_init_41 (fun H locs hP hD hS => ?_)
  rw [pre_set] at hP hD
  have hP : va_P D vwCl (X ++ [(q, .inr (5, [.int (nI 0), .int (nI 0), .int (nI 0), .ref (q1), .ref (q2), .ref (q3), .null, .null])), (q1, .inl (cA 3, 6, .inr (.inr (.inr (.inr (fun _ => none)))))), (q2, .inl (cA 0, 6, .inl (fun _ => 0))), (q3, .inl (cA 0, 6, .inl (fun _ => 0)))]) H := hP
  have hD : va_D A (X ++ [(q, .inr (5, [.int (nI 0), .int (nI 0), .int (nI 0), .ref (q1), .ref (q2), .ref (q3), .null, .null])), (q1, .inl (cA 3, 6, .inr (.inr (.inr (.inr (fun _ => none)))))), (q2, .inl (cA 0, 6, .inl (fun _ => 0))), (q3, .inl (cA 0, 6, .inl (fun _ => 0)))]) := hD
  refine lv_aload_n hx hb dX5_init_44 rfl (lv_at hl 0 rfl) ?_
  refine lv_bipush (v := (nI 6)) hx hb dX5_init_45 rfl ?_
  refine wNewI hx hb (hts (.arrayClass .int) (by decide +kernel)) hK hP hD hS hA 6 (by decide) (Nat.le_of_ble_eq_true rfl) (Nat.le_of_ble_eq_true rfl) dX5_init_47 (fun q4 H hP hD hS => ?_)
  rw [pre_app] at hP hD
  have hP : va_P D vwCl (X ++ [(q, .inr (5, [.int (nI 0), .int (nI 0), .int (nI 0), .ref (q1), .ref (q2), .ref (q3), .null, .null])), (q1, .inl (cA 3, 6, .inr (.inr (.inr (.inr (fun _ => none)))))), (q2, .inl (cA 0, 6, .inl (fun _ => 0))), (q3, .inl (cA 0, 6, .inl (fun _ => 0))), (q4, .inl (cA 0, 6, .inl (fun _ => 0)))]) H := hP
  have hD : va_D A (X ++ [(q, .inr (5, [.int (nI 0), .int (nI 0), .int (nI 0), .ref (q1), .ref (q2), .ref (q3), .null, .null])), (q1, .inl (cA 3, 6, .inr (.inr (.inr (.inr (fun _ => none)))))), (q2, .inl (cA 0, 6, .inl (fun _ => 0))), (q3, .inl (cA 0, 6, .inl (fun _ => 0))), (q4, .inl (cA 0, 6, .inl (fun _ => 0)))]) := hD
  refine va_putF (D := D) (ci := 5) (v := .ref (q4)) (ty := .array .int) (C := RX5) (T := TX5) (N := 8) hx hb hts hinX5 tyX5 tyX5_ok nmX5 hown hK hP hD hS (X.length + 0) (pre_he rfl) rfl 6 (by decide) (hts (.fieldLink RX5 34 "OneNail$Street" "harms" "[I") (by decide +kernel)) (fun _ h9 => h9) rfl hini rfl (by decide +kernel) rfl rfl (Nat.le_of_ble_eq_true rfl) dX5_init_49 (fun H locs hP hD hS => ?_)
  rw [pre_set] at hP hD
  have hP : va_P D vwCl (X ++ [(q, .inr (5, [.int (nI 0), .int (nI 0), .int (nI 0), .ref (q1), .ref (q2), .ref (q3), .ref (q4), .null])), (q1, .inl (cA 3, 6, .inr (.inr (.inr (.inr (fun _ => none)))))), (q2, .inl (cA 0, 6, .inl (fun _ => 0))), (q3, .inl (cA 0, 6, .inl (fun _ => 0))), (q4, .inl (cA 0, 6, .inl (fun _ => 0)))]) H := hP
  have hD : va_D A (X ++ [(q, .inr (5, [.int (nI 0), .int (nI 0), .int (nI 0), .ref (q1), .ref (q2), .ref (q3), .ref (q4), .null])), (q1, .inl (cA 3, 6, .inr (.inr (.inr (.inr (fun _ => none)))))), (q2, .inl (cA 0, 6, .inl (fun _ => 0))), (q3, .inl (cA 0, 6, .inl (fun _ => 0))), (q4, .inl (cA 0, 6, .inl (fun _ => 0)))]) := hD
  refine lv_aload_n hx hb dX5_init_52 rfl (lv_at hl 0 rfl) ?_
  refine lv_bipush (v := (nI 6)) hx hb dX5_init_53 rfl ?_
  refine wNewI hx hb (hts (.arrayClass .int) (by decide +kernel)) hK hP hD hS hA 6 (by decide) (Nat.le_of_ble_eq_true rfl) (Nat.le_of_ble_eq_true rfl) dX5_init_55 (fun q5 H hP hD hS => ?_)
  rw [pre_app] at hP hD
  have hP : va_P D vwCl (X ++ [(q, .inr (5, [.int (nI 0), .int (nI 0), .int (nI 0), .ref (q1), .ref (q2), .ref (q3), .ref (q4), .null])), (q1, .inl (cA 3, 6, .inr (.inr (.inr (.inr (fun _ => none)))))), (q2, .inl (cA 0, 6, .inl (fun _ => 0))), (q3, .inl (cA 0, 6, .inl (fun _ => 0))), (q4, .inl (cA 0, 6, .inl (fun _ => 0))), (q5, .inl (cA 0, 6, .inl (fun _ => 0)))]) H := hP
  have hD : va_D A (X ++ [(q, .inr (5, [.int (nI 0), .int (nI 0), .int (nI 0), .ref (q1), .ref (q2), .ref (q3), .ref (q4), .null])), (q1, .inl (cA 3, 6, .inr (.inr (.inr (.inr (fun _ => none)))))), (q2, .inl (cA 0, 6, .inl (fun _ => 0))), (q3, .inl (cA 0, 6, .inl (fun _ => 0))), (q4, .inl (cA 0, 6, .inl (fun _ => 0))), (q5, .inl (cA 0, 6, .inl (fun _ => 0)))]) := hD
  refine va_putF (D := D) (ci := 5) (v := .ref (q5)) (ty := .array .int) (C := RX5) (T := TX5) (N := 8) hx hb hts hinX5 tyX5 tyX5_ok nmX5 hown hK hP hD hS (X.length + 0) (pre_he rfl) rfl 7 (by decide) (hts (.fieldLink RX5 37 "OneNail$Street" "holds" "[I") (by decide +kernel)) (fun _ h9 => h9) rfl hini rfl (by decide +kernel) rfl rfl (Nat.le_of_ble_eq_true rfl) dX5_init_57 (fun H locs hP hD hS => ?_)
  rw [pre_set] at hP hD
  have hP : va_P D vwCl (X ++ [(q, .inr (5, [.int (nI 0), .int (nI 0), .int (nI 0), .ref (q1), .ref (q2), .ref (q3), .ref (q4), .ref (q5)])), (q1, .inl (cA 3, 6, .inr (.inr (.inr (.inr (fun _ => none)))))), (q2, .inl (cA 0, 6, .inl (fun _ => 0))), (q3, .inl (cA 0, 6, .inl (fun _ => 0))), (q4, .inl (cA 0, 6, .inl (fun _ => 0))), (q5, .inl (cA 0, 6, .inl (fun _ => 0)))]) H := hP
  have hD : va_D A (X ++ [(q, .inr (5, [.int (nI 0), .int (nI 0), .int (nI 0), .ref (q1), .ref (q2), .ref (q3), .ref (q4), .ref (q5)])), (q1, .inl (cA 3, 6, .inr (.inr (.inr (.inr (fun _ => none)))))), (q2, .inl (cA 0, 6, .inl (fun _ => 0))), (q3, .inl (cA 0, 6, .inl (fun _ => 0))), (q4, .inl (cA 0, 6, .inl (fun _ => 0))), (q5, .inl (cA 0, 6, .inl (fun _ => 0)))]) := hD
  exact wVret hx hb hr hlocks (some (fun k => ([q1, q2, q3, q4, q5] : List Nat).getD k 0)) ⟨_, rfl⟩ hK hP hD hS dX5_init_60

def wdX3_init (cA : Nat → ClassId) (X : va_W) (q : Nat)  : Option (Nat → Nat) → va_W
  | none => X ++ [(q, .inr (3, [.int 0, .null, .null, .null]))]
  | some ro => X ++ [(q, .inr (3, [.int (nI 0), .ref ((ro 0)), .ref ((ro 1)), .ref ((ro 2))])), ((ro 0), .inl (cA 0, 8, .inl (fun _ => 0))), ((ro 1), .inl (cA 0, 8, .inl (fun _ => 0))), ((ro 2), .inl (cA 1, 8, .inl (fun _ => 0)))]
set_option maxHeartbeats 4000000 in
set_option maxRecDepth 100000 in
theorem kX3_init (l : Launch) (D : va_G) (cA : Nat → ClassId) (X : va_W) (q sz : Nat)  : Met l yX3_init wsX3_init ({ frames := 1, cells := 3, slots := 24, locals := 23 } : Room) (va_Pc [.ref (q)] (wA D vwCl (tyA cA) eA (wdX3_init cA X q) none sz)) (va_Qv (fun (z : Option (Nat → Nat)) => ∃ ro, z = some ro) (wB D vwCl (tyA cA) (wdX3_init cA X q) (va_A ((wdX3_init cA X q) none) sz)) (va_A ((wdX3_init cA X q) none) sz)) 3 24 (va_A ((wdX3_init cA X q) none) sz) := by
  refine Met.ofW (cc := cX3_init) (maxL := 1) (ret := none) (by decide) rfl ?_
  intro p e s m args below meth c s₁ B hml hv
  obtain ⟨rfl, hsz, hP, hK, hD0, hE⟩ := hv
  have hx := B.exec
  have hb := B.bytes
  have hr := B.returns
  have hts := atoms_spec (ws := wsX3_init) B.pre
  have hown : s.vm.findClass RX3 = some m.cls := findClass_of_methodNamed B.named
  have hlocks := B.notSynchronized
  have hini : meth.name = "<init>" := (name_of_methodNamed B.named B.method).1
  subst hsz
  have hD := hD0.self (sz := s.heap.size)
  generalize hAe : va_A ((wdX3_init cA X q) none) s.heap.size = A at hD hE ⊢
  have hA : ∀ q : Nat, s.heap.size ≤ q → A q := fun q h => by rw [← hAe]; exact Or.inr h
  have hS : va_S A s.heap s.heap [] := va_S.rf
  have hinX3 : ∀ w ∈ u_ws RX3 TX3 4, w ∈ wsX3_init := by decide +kernel
  have hl := lv_entry ([.ref (q)]) (n := 1) (Nat.le_of_ble_eq_true rfl)
  rw [lg_entry_eq]
  generalize (lg_sl ([.ref (q)]) ++ List.replicate (1 - (lg_sl ([.ref (q)])).length) Slot.unset).toArray = ls at hl ⊢
  have hl : lv_has ls 1 [(0, .ref (q))] := hl
  have hP : va_P D vwCl (X ++ [(q, .inr (3, [.int 0, .null, .null, .null]))]) s.heap := hP
  have hD : va_D A (X ++ [(q, .inr (3, [.int 0, .null, .null, .null]))]) := hD
  refine lv_aload_n hx hb dX3_init_0 rfl (lv_at hl 0 rfl) ?_
  refine W.objInit hx hb hown (hts (.methodLink RX3 3 objectInit) (by decide +kernel)) (hts (.instanceMethod objectInit) (by decide +kernel)) (hts (.code objectInit ⟨#[0xb1]⟩ 1 none) (by decide +kernel)) rfl (by rw [hml]; exact hl.1) rfl dX3_init_1 (Nat.le_of_ble_eq_true rfl) (Nat.le_of_ble_eq_true rfl) ?_
  refine W.eq (g2 := F0 m 4 ls []) rfl ?_
  refine lv_aload_n hx hb dX3_init_4 rfl (lv_at hl 0 rfl) ?_
  refine lv_iconst (v := (nI 0)) hx hb dX3_init_5 rfl ?_
  refine va_put (D := D) (ci := 3) (v := .int (nI 0)) (ty := .int) (C := RX3) (T := TX3) (N := 4) hx hb hts hinX3 tyX3 tyX3_ok nmX3 hown hK hP hD hS (X.length + 0) (pre_he rfl) rfl 0 (by decide) (hts (.fieldLink RX3 9 "OneNail$Readings" "count" "I") (by decide +kernel)) (fun _ h9 => h9) rfl (by decide +kernel) rfl rfl (Nat.le_of_ble_eq_true rfl) dX3_init_6 (fun H locs hP hD hS => ?_)
  rw [pre_set] at hP hD
  have hP : va_P D vwCl (X ++ [(q, .inr (3, [.int (nI 0), .null, .null, .null]))]) H := hP
  have hD : va_D A (X ++ [(q, .inr (3, [.int (nI 0), .null, .null, .null]))]) := hD
  refine lv_aload_n hx hb dX3_init_9 rfl (lv_at hl 0 rfl) ?_
  refine lv_bipush (v := (nI 8)) hx hb dX3_init_10 rfl ?_
  refine wNewI hx hb (hts (.arrayClass .int) (by decide +kernel)) hK hP hD hS hA 8 (by decide) (Nat.le_of_ble_eq_true rfl) (Nat.le_of_ble_eq_true rfl) dX3_init_12 (fun q1 H hP hD hS => ?_)
  rw [pre_app] at hP hD
  have hP : va_P D vwCl (X ++ [(q, .inr (3, [.int (nI 0), .null, .null, .null])), (q1, .inl (cA 0, 8, .inl (fun _ => 0)))]) H := hP
  have hD : va_D A (X ++ [(q, .inr (3, [.int (nI 0), .null, .null, .null])), (q1, .inl (cA 0, 8, .inl (fun _ => 0)))]) := hD
  refine va_putF (D := D) (ci := 3) (v := .ref (q1)) (ty := .array .int) (C := RX3) (T := TX3) (N := 4) hx hb hts hinX3 tyX3 tyX3_ok nmX3 hown hK hP hD hS (X.length + 0) (pre_he rfl) rfl 1 (by decide) (hts (.fieldLink RX3 15 "OneNail$Readings" "things" "[I") (by decide +kernel)) (fun _ h9 => h9) rfl hini rfl (by decide +kernel) rfl rfl (Nat.le_of_ble_eq_true rfl) dX3_init_14 (fun H locs hP hD hS => ?_)
  rw [pre_set] at hP hD
  have hP : va_P D vwCl (X ++ [(q, .inr (3, [.int (nI 0), .ref (q1), .null, .null])), (q1, .inl (cA 0, 8, .inl (fun _ => 0)))]) H := hP
  have hD : va_D A (X ++ [(q, .inr (3, [.int (nI 0), .ref (q1), .null, .null])), (q1, .inl (cA 0, 8, .inl (fun _ => 0)))]) := hD
  refine lv_aload_n hx hb dX3_init_17 rfl (lv_at hl 0 rfl) ?_
  refine lv_bipush (v := (nI 8)) hx hb dX3_init_18 rfl ?_
  refine wNewI hx hb (hts (.arrayClass .int) (by decide +kernel)) hK hP hD hS hA 8 (by decide) (Nat.le_of_ble_eq_true rfl) (Nat.le_of_ble_eq_true rfl) dX3_init_20 (fun q2 H hP hD hS => ?_)
  rw [pre_app] at hP hD
  have hP : va_P D vwCl (X ++ [(q, .inr (3, [.int (nI 0), .ref (q1), .null, .null])), (q1, .inl (cA 0, 8, .inl (fun _ => 0))), (q2, .inl (cA 0, 8, .inl (fun _ => 0)))]) H := hP
  have hD : va_D A (X ++ [(q, .inr (3, [.int (nI 0), .ref (q1), .null, .null])), (q1, .inl (cA 0, 8, .inl (fun _ => 0))), (q2, .inl (cA 0, 8, .inl (fun _ => 0)))]) := hD
  refine va_putF (D := D) (ci := 3) (v := .ref (q2)) (ty := .array .int) (C := RX3) (T := TX3) (N := 4) hx hb hts hinX3 tyX3 tyX3_ok nmX3 hown hK hP hD hS (X.length + 0) (pre_he rfl) rfl 2 (by decide) (hts (.fieldLink RX3 19 "OneNail$Readings" "minutes" "[I") (by decide +kernel)) (fun _ h9 => h9) rfl hini rfl (by decide +kernel) rfl rfl (Nat.le_of_ble_eq_true rfl) dX3_init_22 (fun H locs hP hD hS => ?_)
  rw [pre_set] at hP hD
  have hP : va_P D vwCl (X ++ [(q, .inr (3, [.int (nI 0), .ref (q1), .ref (q2), .null])), (q1, .inl (cA 0, 8, .inl (fun _ => 0))), (q2, .inl (cA 0, 8, .inl (fun _ => 0)))]) H := hP
  have hD : va_D A (X ++ [(q, .inr (3, [.int (nI 0), .ref (q1), .ref (q2), .null])), (q1, .inl (cA 0, 8, .inl (fun _ => 0))), (q2, .inl (cA 0, 8, .inl (fun _ => 0)))]) := hD
  refine lv_aload_n hx hb dX3_init_25 rfl (lv_at hl 0 rfl) ?_
  refine lv_bipush (v := (nI 8)) hx hb dX3_init_26 rfl ?_
  refine wNewZ hx hb (hts (.arrayClass .boolean) (by decide +kernel)) hK hP hD hS hA 8 (by decide) (Nat.le_of_ble_eq_true rfl) (Nat.le_of_ble_eq_true rfl) dX3_init_28 (fun q3 H hP hD hS => ?_)
  rw [pre_app] at hP hD
  have hP : va_P D vwCl (X ++ [(q, .inr (3, [.int (nI 0), .ref (q1), .ref (q2), .null])), (q1, .inl (cA 0, 8, .inl (fun _ => 0))), (q2, .inl (cA 0, 8, .inl (fun _ => 0))), (q3, .inl (cA 1, 8, .inl (fun _ => 0)))]) H := hP
  have hD : va_D A (X ++ [(q, .inr (3, [.int (nI 0), .ref (q1), .ref (q2), .null])), (q1, .inl (cA 0, 8, .inl (fun _ => 0))), (q2, .inl (cA 0, 8, .inl (fun _ => 0))), (q3, .inl (cA 1, 8, .inl (fun _ => 0)))]) := hD
  refine va_putF (D := D) (ci := 3) (v := .ref (q3)) (ty := .array .boolean) (C := RX3) (T := TX3) (N := 4) hx hb hts hinX3 tyX3 tyX3_ok nmX3 hown hK hP hD hS (X.length + 0) (pre_he rfl) rfl 3 (by decide) (hts (.fieldLink RX3 22 "OneNail$Readings" "ups" "[Z") (by decide +kernel)) (fun _ h9 => h9) rfl hini rfl (by decide +kernel) rfl rfl (Nat.le_of_ble_eq_true rfl) dX3_init_30 (fun H locs hP hD hS => ?_)
  rw [pre_set] at hP hD
  have hP : va_P D vwCl (X ++ [(q, .inr (3, [.int (nI 0), .ref (q1), .ref (q2), .ref (q3)])), (q1, .inl (cA 0, 8, .inl (fun _ => 0))), (q2, .inl (cA 0, 8, .inl (fun _ => 0))), (q3, .inl (cA 1, 8, .inl (fun _ => 0)))]) H := hP
  have hD : va_D A (X ++ [(q, .inr (3, [.int (nI 0), .ref (q1), .ref (q2), .ref (q3)])), (q1, .inl (cA 0, 8, .inl (fun _ => 0))), (q2, .inl (cA 0, 8, .inl (fun _ => 0))), (q3, .inl (cA 1, 8, .inl (fun _ => 0)))]) := hD
  exact wVret hx hb hr hlocks (some (fun k => ([q1, q2, q3] : List Nat).getD k 0)) ⟨_, rfl⟩ hK hP hD hS dX3_init_33

def wdX4_init (cA : Nat → ClassId) (X : va_W) (q : Nat)  : Option (Nat → Nat) → va_W
  | none => X ++ [(q, .inr (4, [.int 0, .int 0, .null]))]
  | some ro => X ++ [(q, .inr (4, [.int (-1), .int (nI 0), .ref ((ro 0))])), ((ro 0), .inl (cA 0, 60, .inl (fun _ => 0)))]
set_option maxHeartbeats 4000000 in
set_option maxRecDepth 100000 in
theorem kX4_init (l : Launch) (D : va_G) (cA : Nat → ClassId) (X : va_W) (q sz : Nat)  : Met l yX4_init wsX4_init ({ frames := 1, cells := 1, slots := 60, locals := 23 } : Room) (va_Pc [.ref (q)] (wA D vwCl (tyA cA) eA (wdX4_init cA X q) none sz)) (va_Qv (fun (z : Option (Nat → Nat)) => ∃ ro, z = some ro) (wB D vwCl (tyA cA) (wdX4_init cA X q) (va_A ((wdX4_init cA X q) none) sz)) (va_A ((wdX4_init cA X q) none) sz)) 1 60 (va_A ((wdX4_init cA X q) none) sz) := by
  refine Met.ofW (cc := cX4_init) (maxL := 1) (ret := none) (by decide) rfl ?_
  intro p e s m args below meth c s₁ B hml hv
  obtain ⟨rfl, hsz, hP, hK, hD0, hE⟩ := hv
  have hx := B.exec
  have hb := B.bytes
  have hr := B.returns
  have hts := atoms_spec (ws := wsX4_init) B.pre
  have hown : s.vm.findClass RX4 = some m.cls := findClass_of_methodNamed B.named
  have hlocks := B.notSynchronized
  have hini : meth.name = "<init>" := (name_of_methodNamed B.named B.method).1
  subst hsz
  have hD := hD0.self (sz := s.heap.size)
  generalize hAe : va_A ((wdX4_init cA X q) none) s.heap.size = A at hD hE ⊢
  have hA : ∀ q : Nat, s.heap.size ≤ q → A q := fun q h => by rw [← hAe]; exact Or.inr h
  have hS : va_S A s.heap s.heap [] := va_S.rf
  have hinX4 : ∀ w ∈ u_ws RX4 TX4 3, w ∈ wsX4_init := by decide +kernel
  have hl := lv_entry ([.ref (q)]) (n := 1) (Nat.le_of_ble_eq_true rfl)
  rw [lg_entry_eq]
  generalize (lg_sl ([.ref (q)]) ++ List.replicate (1 - (lg_sl ([.ref (q)])).length) Slot.unset).toArray = ls at hl ⊢
  have hl : lv_has ls 1 [(0, .ref (q))] := hl
  have hP : va_P D vwCl (X ++ [(q, .inr (4, [.int 0, .int 0, .null]))]) s.heap := hP
  have hD : va_D A (X ++ [(q, .inr (4, [.int 0, .int 0, .null]))]) := hD
  refine lv_aload_n hx hb dX4_init_0 rfl (lv_at hl 0 rfl) ?_
  refine W.objInit hx hb hown (hts (.methodLink RX4 3 objectInit) (by decide +kernel)) (hts (.instanceMethod objectInit) (by decide +kernel)) (hts (.code objectInit ⟨#[0xb1]⟩ 1 none) (by decide +kernel)) rfl (by rw [hml]; exact hl.1) rfl dX4_init_1 (Nat.le_of_ble_eq_true rfl) (Nat.le_of_ble_eq_true rfl) ?_
  refine W.eq (g2 := F0 m 4 ls []) rfl ?_
  refine lv_aload_n hx hb dX4_init_4 rfl (lv_at hl 0 rfl) ?_
  refine lv_iconst (v := (-1)) hx hb dX4_init_5 (by decide) ?_
  refine va_put (D := D) (ci := 4) (v := .int (-1)) (ty := .int) (C := RX4) (T := TX4) (N := 3) hx hb hts hinX4 tyX4 tyX4_ok nmX4 hown hK hP hD hS (X.length + 0) (pre_he rfl) rfl 0 (by decide) (hts (.fieldLink RX4 11 "OneNail$Sheet" "lane" "I") (by decide +kernel)) (fun _ h9 => h9) rfl (by decide +kernel) rfl rfl (Nat.le_of_ble_eq_true rfl) dX4_init_6 (fun H locs hP hD hS => ?_)
  rw [pre_set] at hP hD
  have hP : va_P D vwCl (X ++ [(q, .inr (4, [.int (-1), .int 0, .null]))]) H := hP
  have hD : va_D A (X ++ [(q, .inr (4, [.int (-1), .int 0, .null]))]) := hD
  refine lv_aload_n hx hb dX4_init_9 rfl (lv_at hl 0 rfl) ?_
  refine lv_iconst (v := (nI 0)) hx hb dX4_init_10 rfl ?_
  refine va_put (D := D) (ci := 4) (v := .int (nI 0)) (ty := .int) (C := RX4) (T := TX4) (N := 3) hx hb hts hinX4 tyX4 tyX4_ok nmX4 hown hK hP hD hS (X.length + 0) (pre_he rfl) rfl 1 (by decide) (hts (.fieldLink RX4 15 "OneNail$Sheet" "length" "I") (by decide +kernel)) (fun _ h9 => h9) rfl (by decide +kernel) rfl rfl (Nat.le_of_ble_eq_true rfl) dX4_init_11 (fun H locs hP hD hS => ?_)
  rw [pre_set] at hP hD
  have hP : va_P D vwCl (X ++ [(q, .inr (4, [.int (-1), .int (nI 0), .null]))]) H := hP
  have hD : va_D A (X ++ [(q, .inr (4, [.int (-1), .int (nI 0), .null]))]) := hD
  refine lv_aload_n hx hb dX4_init_14 rfl (lv_at hl 0 rfl) ?_
  refine lv_bipush (v := (nI 60)) hx hb dX4_init_15 rfl ?_
  refine wNewI hx hb (hts (.arrayClass .int) (by decide +kernel)) hK hP hD hS hA 60 (by decide) (Nat.le_of_ble_eq_true rfl) (Nat.le_of_ble_eq_true rfl) dX4_init_17 (fun q1 H hP hD hS => ?_)
  rw [pre_app] at hP hD
  have hP : va_P D vwCl (X ++ [(q, .inr (4, [.int (-1), .int (nI 0), .null])), (q1, .inl (cA 0, 60, .inl (fun _ => 0)))]) H := hP
  have hD : va_D A (X ++ [(q, .inr (4, [.int (-1), .int (nI 0), .null])), (q1, .inl (cA 0, 60, .inl (fun _ => 0)))]) := hD
  refine va_putF (D := D) (ci := 4) (v := .ref (q1)) (ty := .array .int) (C := RX4) (T := TX4) (N := 3) hx hb hts hinX4 tyX4 tyX4_ok nmX4 hown hK hP hD hS (X.length + 0) (pre_he rfl) rfl 2 (by decide) (hts (.fieldLink RX4 18 "OneNail$Sheet" "cells" "[I") (by decide +kernel)) (fun _ h9 => h9) rfl hini rfl (by decide +kernel) rfl rfl (Nat.le_of_ble_eq_true rfl) dX4_init_19 (fun H locs hP hD hS => ?_)
  rw [pre_set] at hP hD
  have hP : va_P D vwCl (X ++ [(q, .inr (4, [.int (-1), .int (nI 0), .ref (q1)])), (q1, .inl (cA 0, 60, .inl (fun _ => 0)))]) H := hP
  have hD : va_D A (X ++ [(q, .inr (4, [.int (-1), .int (nI 0), .ref (q1)])), (q1, .inl (cA 0, 60, .inl (fun _ => 0)))]) := hD
  exact wVret hx hb hr hlocks (some (fun k => ([q1] : List Nat).getD k 0)) ⟨_, rfl⟩ hK hP hD hS dX4_init_22

def wdX7_init (cA : Nat → ClassId) (X : va_W) (q : Nat)  : Option (Nat → Nat) → va_W
  | none => X ++ [(q, .inr (7, [.int 0]))]
  | some ro => X ++ [(q, .inr (7, [.int (nI 0)]))]
set_option maxHeartbeats 4000000 in
set_option maxRecDepth 100000 in
theorem kX7_init (l : Launch) (D : va_G) (cA : Nat → ClassId) (X : va_W) (q sz : Nat)  : Met l yX7_init wsX7_init ({ frames := 1, cells := 0, slots := 0, locals := 23 } : Room) (va_Pc [.ref (q)] (wA D vwCl (tyA cA) eA (wdX7_init cA X q) none sz)) (va_Qv (fun (z : Option (Nat → Nat)) => ∃ ro, z = some ro) (wB D vwCl (tyA cA) (wdX7_init cA X q) (va_A ((wdX7_init cA X q) none) sz)) (va_A ((wdX7_init cA X q) none) sz)) 0 0 (va_A ((wdX7_init cA X q) none) sz) := by
  refine Met.ofW (cc := cX7_init) (maxL := 1) (ret := none) (by decide) rfl ?_
  intro p e s m args below meth c s₁ B hml hv
  obtain ⟨rfl, hsz, hP, hK, hD0, hE⟩ := hv
  have hx := B.exec
  have hb := B.bytes
  have hr := B.returns
  have hts := atoms_spec (ws := wsX7_init) B.pre
  have hown : s.vm.findClass RX7 = some m.cls := findClass_of_methodNamed B.named
  have hlocks := B.notSynchronized
  have hini : meth.name = "<init>" := (name_of_methodNamed B.named B.method).1
  subst hsz
  have hD := hD0.self (sz := s.heap.size)
  generalize hAe : va_A ((wdX7_init cA X q) none) s.heap.size = A at hD hE ⊢
  have hA : ∀ q : Nat, s.heap.size ≤ q → A q := fun q h => by rw [← hAe]; exact Or.inr h
  have hS : va_S A s.heap s.heap [] := va_S.rf
  have hinX7 : ∀ w ∈ u_ws RX7 TX7 1, w ∈ wsX7_init := by decide +kernel
  have hl := lv_entry ([.ref (q)]) (n := 1) (Nat.le_of_ble_eq_true rfl)
  rw [lg_entry_eq]
  generalize (lg_sl ([.ref (q)]) ++ List.replicate (1 - (lg_sl ([.ref (q)])).length) Slot.unset).toArray = ls at hl ⊢
  have hl : lv_has ls 1 [(0, .ref (q))] := hl
  have hP : va_P D vwCl (X ++ [(q, .inr (7, [.int 0]))]) s.heap := hP
  have hD : va_D A (X ++ [(q, .inr (7, [.int 0]))]) := hD
  refine lv_aload_n hx hb dX7_init_0 rfl (lv_at hl 0 rfl) ?_
  refine W.objInit hx hb hown (hts (.methodLink RX7 1 objectInit) (by decide +kernel)) (hts (.instanceMethod objectInit) (by decide +kernel)) (hts (.code objectInit ⟨#[0xb1]⟩ 1 none) (by decide +kernel)) rfl (by rw [hml]; exact hl.1) rfl dX7_init_1 (Nat.le_of_ble_eq_true rfl) (Nat.le_of_ble_eq_true rfl) ?_
  refine W.eq (g2 := F0 m 4 ls []) rfl ?_
  refine lv_aload_n hx hb dX7_init_4 rfl (lv_at hl 0 rfl) ?_
  refine lv_iconst (v := (nI 0)) hx hb dX7_init_5 rfl ?_
  refine va_put (D := D) (ci := 7) (v := .int (nI 0)) (ty := .int) (C := RX7) (T := TX7) (N := 1) hx hb hts hinX7 tyX7 tyX7_ok nmX7 hown hK hP hD hS (X.length + 0) (pre_he rfl) rfl 0 (by decide) (hts (.fieldLink RX7 7 "OneNail$Trace" "value" "I") (by decide +kernel)) (fun _ h9 => h9) rfl (by decide +kernel) rfl rfl (Nat.le_of_ble_eq_true rfl) dX7_init_6 (fun H locs hP hD hS => ?_)
  rw [pre_set] at hP hD
  have hP : va_P D vwCl (X ++ [(q, .inr (7, [.int (nI 0)]))]) H := hP
  have hD : va_D A (X ++ [(q, .inr (7, [.int (nI 0)]))]) := hD
  exact wVret hx hb hr hlocks (some (fun k => ([] : List Nat).getD k 0)) ⟨_, rfl⟩ hK hP hD hS dX7_init_9

def wdX8_init (cA : Nat → ClassId) (X : va_W) (q : Nat) (w0 : Nat) : Option (Nat → Nat) → va_W
  | none => X ++ [(q, .inr (8, [.null, .null, .int 0, .null, .null, .int 0, .int 0, .int 0, .int 0, .int 0]))]
  | some ro => X ++ [(q, .inr (8, [.ref (w0), .ref ((ro 0)), .int (nI 0), .ref ((ro 1)), .ref ((ro 2)), .int (nI 0), .int (nI 0), .int (nI 0), .int (nI 0), .int (nI 0)])), ((ro 0), .inl (cA 0, 8, .inl (fun _ => 0))), ((ro 1), .inl (cA 0, 6, .inl (fun _ => 0))), ((ro 2), .inl (cA 0, 300, .inl (fun _ => 0)))]
set_option maxHeartbeats 4000000 in
set_option maxRecDepth 100000 in
theorem kX8_init (l : Launch) (D : va_G) (cA : Nat → ClassId) (X : va_W) (q sz : Nat) (w0 : Nat) : Met l yX8_init wsX8_init ({ frames := 1, cells := 3, slots := 314, locals := 23 } : Room) (va_Pc [.ref (q), .ref (w0)] (wA D vwCl (tyA cA) eA (wdX8_init cA X q w0) none sz)) (va_Qv (fun (z : Option (Nat → Nat)) => ∃ ro, z = some ro) (wB D vwCl (tyA cA) (wdX8_init cA X q w0) (va_A ((wdX8_init cA X q w0) none) sz)) (va_A ((wdX8_init cA X q w0) none) sz)) 3 314 (va_A ((wdX8_init cA X q w0) none) sz) := by
  refine Met.ofW (cc := cX8_init) (maxL := 2) (ret := none) (by decide) rfl ?_
  intro p e s m args below meth c s₁ B hml hv
  obtain ⟨rfl, hsz, hP, hK, hD0, hE⟩ := hv
  have hx := B.exec
  have hb := B.bytes
  have hr := B.returns
  have hts := atoms_spec (ws := wsX8_init) B.pre
  have hown : s.vm.findClass RX8 = some m.cls := findClass_of_methodNamed B.named
  have hlocks := B.notSynchronized
  have hini : meth.name = "<init>" := (name_of_methodNamed B.named B.method).1
  subst hsz
  have hD := hD0.self (sz := s.heap.size)
  generalize hAe : va_A ((wdX8_init cA X q w0) none) s.heap.size = A at hD hE ⊢
  have hA : ∀ q : Nat, s.heap.size ≤ q → A q := fun q h => by rw [← hAe]; exact Or.inr h
  have hS : va_S A s.heap s.heap [] := va_S.rf
  have hinX8 : ∀ w ∈ u_ws RX8 TX8 10, w ∈ wsX8_init := by decide +kernel
  have hl := lv_entry ([.ref (q), .ref (w0)]) (n := 2) (Nat.le_of_ble_eq_true rfl)
  rw [lg_entry_eq]
  generalize (lg_sl ([.ref (q), .ref (w0)]) ++ List.replicate (2 - (lg_sl ([.ref (q), .ref (w0)])).length) Slot.unset).toArray = ls at hl ⊢
  have hl : lv_has ls 2 [(0, .ref (q)), (1, .ref (w0))] := hl
  have hP : va_P D vwCl (X ++ [(q, .inr (8, [.null, .null, .int 0, .null, .null, .int 0, .int 0, .int 0, .int 0, .int 0]))]) s.heap := hP
  have hD : va_D A (X ++ [(q, .inr (8, [.null, .null, .int 0, .null, .null, .int 0, .int 0, .int 0, .int 0, .int 0]))]) := hD
  refine lv_aload_n hx hb dX8_init_0 rfl (lv_at hl 0 rfl) ?_
  refine W.objInit hx hb hown (hts (.methodLink RX8 3 objectInit) (by decide +kernel)) (hts (.instanceMethod objectInit) (by decide +kernel)) (hts (.code objectInit ⟨#[0xb1]⟩ 1 none) (by decide +kernel)) rfl (by rw [hml]; exact hl.1) rfl dX8_init_1 (Nat.le_of_ble_eq_true rfl) (Nat.le_of_ble_eq_true rfl) ?_
  refine W.eq (g2 := F0 m 4 ls []) rfl ?_
  refine lv_aload_n hx hb dX8_init_4 rfl (lv_at hl 0 rfl) ?_
  refine lv_bipush (v := (nI 8)) hx hb dX8_init_5 rfl ?_
  refine wNewI hx hb (hts (.arrayClass .int) (by decide +kernel)) hK hP hD hS hA 8 (by decide) (Nat.le_of_ble_eq_true rfl) (Nat.le_of_ble_eq_true rfl) dX8_init_7 (fun q1 H hP hD hS => ?_)
  rw [pre_app] at hP hD
  have hP : va_P D vwCl (X ++ [(q, .inr (8, [.null, .null, .int 0, .null, .null, .int 0, .int 0, .int 0, .int 0, .int 0])), (q1, .inl (cA 0, 8, .inl (fun _ => 0)))]) H := hP
  have hD : va_D A (X ++ [(q, .inr (8, [.null, .null, .int 0, .null, .null, .int 0, .int 0, .int 0, .int 0, .int 0])), (q1, .inl (cA 0, 8, .inl (fun _ => 0)))]) := hD
  refine va_putF (D := D) (ci := 8) (v := .ref (q1)) (ty := .array .int) (C := RX8) (T := TX8) (N := 10) hx hb hts hinX8 tyX8 tyX8_ok nmX8 hown hK hP hD hS (X.length + 0) (pre_he rfl) rfl 1 (by decide) (hts (.fieldLink RX8 9 "OneNail$Walk" "round" "[I") (by decide +kernel)) (fun _ h9 => h9) rfl hini rfl (by decide +kernel) rfl rfl (Nat.le_of_ble_eq_true rfl) dX8_init_9 (fun H locs hP hD hS => ?_)
  rw [pre_set] at hP hD
  have hP : va_P D vwCl (X ++ [(q, .inr (8, [.null, .ref (q1), .int 0, .null, .null, .int 0, .int 0, .int 0, .int 0, .int 0])), (q1, .inl (cA 0, 8, .inl (fun _ => 0)))]) H := hP
  have hD : va_D A (X ++ [(q, .inr (8, [.null, .ref (q1), .int 0, .null, .null, .int 0, .int 0, .int 0, .int 0, .int 0])), (q1, .inl (cA 0, 8, .inl (fun _ => 0)))]) := hD
  refine lv_aload_n hx hb dX8_init_12 rfl (lv_at hl 0 rfl) ?_
  refine lv_iconst (v := (nI 0)) hx hb dX8_init_13 rfl ?_
  refine va_put (D := D) (ci := 8) (v := .int (nI 0)) (ty := .int) (C := RX8) (T := TX8) (N := 10) hx hb hts hinX8 tyX8 tyX8_ok nmX8 hown hK hP hD hS (X.length + 0) (pre_he rfl) rfl 2 (by decide) (hts (.fieldLink RX8 15 "OneNail$Walk" "length" "I") (by decide +kernel)) (fun _ h9 => h9) rfl (by decide +kernel) rfl rfl (Nat.le_of_ble_eq_true rfl) dX8_init_14 (fun H locs hP hD hS => ?_)
  rw [pre_set] at hP hD
  have hP : va_P D vwCl (X ++ [(q, .inr (8, [.null, .ref (q1), .int (nI 0), .null, .null, .int 0, .int 0, .int 0, .int 0, .int 0])), (q1, .inl (cA 0, 8, .inl (fun _ => 0)))]) H := hP
  have hD : va_D A (X ++ [(q, .inr (8, [.null, .ref (q1), .int (nI 0), .null, .null, .int 0, .int 0, .int 0, .int 0, .int 0])), (q1, .inl (cA 0, 8, .inl (fun _ => 0)))]) := hD
  refine lv_aload_n hx hb dX8_init_17 rfl (lv_at hl 0 rfl) ?_
  refine lv_bipush (v := (nI 6)) hx hb dX8_init_18 rfl ?_
  refine wNewI hx hb (hts (.arrayClass .int) (by decide +kernel)) hK hP hD hS hA 6 (by decide) (Nat.le_of_ble_eq_true rfl) (Nat.le_of_ble_eq_true rfl) dX8_init_20 (fun q2 H hP hD hS => ?_)
  rw [pre_app] at hP hD
  have hP : va_P D vwCl (X ++ [(q, .inr (8, [.null, .ref (q1), .int (nI 0), .null, .null, .int 0, .int 0, .int 0, .int 0, .int 0])), (q1, .inl (cA 0, 8, .inl (fun _ => 0))), (q2, .inl (cA 0, 6, .inl (fun _ => 0)))]) H := hP
  have hD : va_D A (X ++ [(q, .inr (8, [.null, .ref (q1), .int (nI 0), .null, .null, .int 0, .int 0, .int 0, .int 0, .int 0])), (q1, .inl (cA 0, 8, .inl (fun _ => 0))), (q2, .inl (cA 0, 6, .inl (fun _ => 0)))]) := hD
  refine va_putF (D := D) (ci := 8) (v := .ref (q2)) (ty := .array .int) (C := RX8) (T := TX8) (N := 10) hx hb hts hinX8 tyX8 tyX8_ok nmX8 hown hK hP hD hS (X.length + 0) (pre_he rfl) rfl 3 (by decide) (hts (.fieldLink RX8 19 "OneNail$Walk" "until" "[I") (by decide +kernel)) (fun _ h9 => h9) rfl hini rfl (by decide +kernel) rfl rfl (Nat.le_of_ble_eq_true rfl) dX8_init_22 (fun H locs hP hD hS => ?_)
  rw [pre_set] at hP hD
  have hP : va_P D vwCl (X ++ [(q, .inr (8, [.null, .ref (q1), .int (nI 0), .ref (q2), .null, .int 0, .int 0, .int 0, .int 0, .int 0])), (q1, .inl (cA 0, 8, .inl (fun _ => 0))), (q2, .inl (cA 0, 6, .inl (fun _ => 0)))]) H := hP
  have hD : va_D A (X ++ [(q, .inr (8, [.null, .ref (q1), .int (nI 0), .ref (q2), .null, .int 0, .int 0, .int 0, .int 0, .int 0])), (q1, .inl (cA 0, 8, .inl (fun _ => 0))), (q2, .inl (cA 0, 6, .inl (fun _ => 0)))]) := hD
  refine lv_aload_n hx hb dX8_init_25 rfl (lv_at hl 0 rfl) ?_
  refine lv_sipush (v := (nI 300)) hx hb dX8_init_26 rfl ?_
  refine wNewI hx hb (hts (.arrayClass .int) (by decide +kernel)) hK hP hD hS hA 300 (by decide) (Nat.le_of_ble_eq_true rfl) (Nat.le_of_ble_eq_true rfl) dX8_init_29 (fun q3 H hP hD hS => ?_)
  rw [pre_app] at hP hD
  have hP : va_P D vwCl (X ++ [(q, .inr (8, [.null, .ref (q1), .int (nI 0), .ref (q2), .null, .int 0, .int 0, .int 0, .int 0, .int 0])), (q1, .inl (cA 0, 8, .inl (fun _ => 0))), (q2, .inl (cA 0, 6, .inl (fun _ => 0))), (q3, .inl (cA 0, 300, .inl (fun _ => 0)))]) H := hP
  have hD : va_D A (X ++ [(q, .inr (8, [.null, .ref (q1), .int (nI 0), .ref (q2), .null, .int 0, .int 0, .int 0, .int 0, .int 0])), (q1, .inl (cA 0, 8, .inl (fun _ => 0))), (q2, .inl (cA 0, 6, .inl (fun _ => 0))), (q3, .inl (cA 0, 300, .inl (fun _ => 0)))]) := hD
  refine va_putF (D := D) (ci := 8) (v := .ref (q3)) (ty := .array .int) (C := RX8) (T := TX8) (N := 10) hx hb hts hinX8 tyX8 tyX8_ok nmX8 hown hK hP hD hS (X.length + 0) (pre_he rfl) rfl 4 (by decide) (hts (.fieldLink RX8 22 "OneNail$Walk" "fallen" "[I") (by decide +kernel)) (fun _ h9 => h9) rfl hini rfl (by decide +kernel) rfl rfl (Nat.le_of_ble_eq_true rfl) dX8_init_31 (fun H locs hP hD hS => ?_)
  rw [pre_set] at hP hD
  have hP : va_P D vwCl (X ++ [(q, .inr (8, [.null, .ref (q1), .int (nI 0), .ref (q2), .ref (q3), .int 0, .int 0, .int 0, .int 0, .int 0])), (q1, .inl (cA 0, 8, .inl (fun _ => 0))), (q2, .inl (cA 0, 6, .inl (fun _ => 0))), (q3, .inl (cA 0, 300, .inl (fun _ => 0)))]) H := hP
  have hD : va_D A (X ++ [(q, .inr (8, [.null, .ref (q1), .int (nI 0), .ref (q2), .ref (q3), .int 0, .int 0, .int 0, .int 0, .int 0])), (q1, .inl (cA 0, 8, .inl (fun _ => 0))), (q2, .inl (cA 0, 6, .inl (fun _ => 0))), (q3, .inl (cA 0, 300, .inl (fun _ => 0)))]) := hD
  refine lv_aload_n hx hb dX8_init_34 rfl (lv_at hl 0 rfl) ?_
  refine lv_iconst (v := (nI 0)) hx hb dX8_init_35 rfl ?_
  refine va_put (D := D) (ci := 8) (v := .int (nI 0)) (ty := .int) (C := RX8) (T := TX8) (N := 10) hx hb hts hinX8 tyX8 tyX8_ok nmX8 hown hK hP hD hS (X.length + 0) (pre_he rfl) rfl 5 (by decide) (hts (.fieldLink RX8 25 "OneNail$Walk" "spot" "I") (by decide +kernel)) (fun _ h9 => h9) rfl (by decide +kernel) rfl rfl (Nat.le_of_ble_eq_true rfl) dX8_init_36 (fun H locs hP hD hS => ?_)
  rw [pre_set] at hP hD
  have hP : va_P D vwCl (X ++ [(q, .inr (8, [.null, .ref (q1), .int (nI 0), .ref (q2), .ref (q3), .int (nI 0), .int 0, .int 0, .int 0, .int 0])), (q1, .inl (cA 0, 8, .inl (fun _ => 0))), (q2, .inl (cA 0, 6, .inl (fun _ => 0))), (q3, .inl (cA 0, 300, .inl (fun _ => 0)))]) H := hP
  have hD : va_D A (X ++ [(q, .inr (8, [.null, .ref (q1), .int (nI 0), .ref (q2), .ref (q3), .int (nI 0), .int 0, .int 0, .int 0, .int 0])), (q1, .inl (cA 0, 8, .inl (fun _ => 0))), (q2, .inl (cA 0, 6, .inl (fun _ => 0))), (q3, .inl (cA 0, 300, .inl (fun _ => 0)))]) := hD
  refine lv_aload_n hx hb dX8_init_39 rfl (lv_at hl 0 rfl) ?_
  refine lv_iconst (v := (nI 0)) hx hb dX8_init_40 rfl ?_
  refine va_put (D := D) (ci := 8) (v := .int (nI 0)) (ty := .int) (C := RX8) (T := TX8) (N := 10) hx hb hts hinX8 tyX8 tyX8_ok nmX8 hown hK hP hD hS (X.length + 0) (pre_he rfl) rfl 6 (by decide) (hts (.fieldLink RX8 28 "OneNail$Walk" "from" "I") (by decide +kernel)) (fun _ h9 => h9) rfl (by decide +kernel) rfl rfl (Nat.le_of_ble_eq_true rfl) dX8_init_41 (fun H locs hP hD hS => ?_)
  rw [pre_set] at hP hD
  have hP : va_P D vwCl (X ++ [(q, .inr (8, [.null, .ref (q1), .int (nI 0), .ref (q2), .ref (q3), .int (nI 0), .int (nI 0), .int 0, .int 0, .int 0])), (q1, .inl (cA 0, 8, .inl (fun _ => 0))), (q2, .inl (cA 0, 6, .inl (fun _ => 0))), (q3, .inl (cA 0, 300, .inl (fun _ => 0)))]) H := hP
  have hD : va_D A (X ++ [(q, .inr (8, [.null, .ref (q1), .int (nI 0), .ref (q2), .ref (q3), .int (nI 0), .int (nI 0), .int 0, .int 0, .int 0])), (q1, .inl (cA 0, 8, .inl (fun _ => 0))), (q2, .inl (cA 0, 6, .inl (fun _ => 0))), (q3, .inl (cA 0, 300, .inl (fun _ => 0)))]) := hD
  refine lv_aload_n hx hb dX8_init_44 rfl (lv_at hl 0 rfl) ?_
  refine lv_iconst (v := (nI 0)) hx hb dX8_init_45 rfl ?_
  refine va_put (D := D) (ci := 8) (v := .int (nI 0)) (ty := .int) (C := RX8) (T := TX8) (N := 10) hx hb hts hinX8 tyX8 tyX8_ok nmX8 hown hK hP hD hS (X.length + 0) (pre_he rfl) rfl 7 (by decide) (hts (.fieldLink RX8 31 "OneNail$Walk" "leaves" "I") (by decide +kernel)) (fun _ h9 => h9) rfl (by decide +kernel) rfl rfl (Nat.le_of_ble_eq_true rfl) dX8_init_46 (fun H locs hP hD hS => ?_)
  rw [pre_set] at hP hD
  have hP : va_P D vwCl (X ++ [(q, .inr (8, [.null, .ref (q1), .int (nI 0), .ref (q2), .ref (q3), .int (nI 0), .int (nI 0), .int (nI 0), .int 0, .int 0])), (q1, .inl (cA 0, 8, .inl (fun _ => 0))), (q2, .inl (cA 0, 6, .inl (fun _ => 0))), (q3, .inl (cA 0, 300, .inl (fun _ => 0)))]) H := hP
  have hD : va_D A (X ++ [(q, .inr (8, [.null, .ref (q1), .int (nI 0), .ref (q2), .ref (q3), .int (nI 0), .int (nI 0), .int (nI 0), .int 0, .int 0])), (q1, .inl (cA 0, 8, .inl (fun _ => 0))), (q2, .inl (cA 0, 6, .inl (fun _ => 0))), (q3, .inl (cA 0, 300, .inl (fun _ => 0)))]) := hD
  refine lv_aload_n hx hb dX8_init_49 rfl (lv_at hl 0 rfl) ?_
  refine lv_iconst (v := (nI 0)) hx hb dX8_init_50 rfl ?_
  refine va_put (D := D) (ci := 8) (v := .int (nI 0)) (ty := .int) (C := RX8) (T := TX8) (N := 10) hx hb hts hinX8 tyX8 tyX8_ok nmX8 hown hK hP hD hS (X.length + 0) (pre_he rfl) rfl 8 (by decide) (hts (.fieldLink RX8 34 "OneNail$Walk" "thing" "I") (by decide +kernel)) (fun _ h9 => h9) rfl (by decide +kernel) rfl rfl (Nat.le_of_ble_eq_true rfl) dX8_init_51 (fun H locs hP hD hS => ?_)
  rw [pre_set] at hP hD
  have hP : va_P D vwCl (X ++ [(q, .inr (8, [.null, .ref (q1), .int (nI 0), .ref (q2), .ref (q3), .int (nI 0), .int (nI 0), .int (nI 0), .int (nI 0), .int 0])), (q1, .inl (cA 0, 8, .inl (fun _ => 0))), (q2, .inl (cA 0, 6, .inl (fun _ => 0))), (q3, .inl (cA 0, 300, .inl (fun _ => 0)))]) H := hP
  have hD : va_D A (X ++ [(q, .inr (8, [.null, .ref (q1), .int (nI 0), .ref (q2), .ref (q3), .int (nI 0), .int (nI 0), .int (nI 0), .int (nI 0), .int 0])), (q1, .inl (cA 0, 8, .inl (fun _ => 0))), (q2, .inl (cA 0, 6, .inl (fun _ => 0))), (q3, .inl (cA 0, 300, .inl (fun _ => 0)))]) := hD
  refine lv_aload_n hx hb dX8_init_54 rfl (lv_at hl 0 rfl) ?_
  refine lv_iconst (v := (nI 0)) hx hb dX8_init_55 rfl ?_
  refine va_put (D := D) (ci := 8) (v := .int (nI 0)) (ty := .int) (C := RX8) (T := TX8) (N := 10) hx hb hts hinX8 tyX8 tyX8_ok nmX8 hown hK hP hD hS (X.length + 0) (pre_he rfl) rfl 9 (by decide) (hts (.fieldLink RX8 37 "OneNail$Walk" "comes" "I") (by decide +kernel)) (fun _ h9 => h9) rfl (by decide +kernel) rfl rfl (Nat.le_of_ble_eq_true rfl) dX8_init_56 (fun H locs hP hD hS => ?_)
  rw [pre_set] at hP hD
  have hP : va_P D vwCl (X ++ [(q, .inr (8, [.null, .ref (q1), .int (nI 0), .ref (q2), .ref (q3), .int (nI 0), .int (nI 0), .int (nI 0), .int (nI 0), .int (nI 0)])), (q1, .inl (cA 0, 8, .inl (fun _ => 0))), (q2, .inl (cA 0, 6, .inl (fun _ => 0))), (q3, .inl (cA 0, 300, .inl (fun _ => 0)))]) H := hP
  have hD : va_D A (X ++ [(q, .inr (8, [.null, .ref (q1), .int (nI 0), .ref (q2), .ref (q3), .int (nI 0), .int (nI 0), .int (nI 0), .int (nI 0), .int (nI 0)])), (q1, .inl (cA 0, 8, .inl (fun _ => 0))), (q2, .inl (cA 0, 6, .inl (fun _ => 0))), (q3, .inl (cA 0, 300, .inl (fun _ => 0)))]) := hD
  refine lv_aload_n hx hb dX8_init_59 rfl (lv_at hl 0 rfl) ?_
  refine lv_aload_n hx hb dX8_init_60 rfl (lv_at hl 1 rfl) ?_
  refine va_putF (D := D) (ci := 8) (v := .ref (w0)) (ty := .object "OneNail$Street") (C := RX8) (T := TX8) (N := 10) hx hb hts hinX8 tyX8 tyX8_ok nmX8 hown hK hP hD hS (X.length + 0) (pre_he rfl) rfl 0 (by decide) (hts (.fieldLink RX8 40 "OneNail$Walk" "town" "LOneNail$Street;") (by decide +kernel)) (fun _ h9 => h9) rfl hini rfl (by decide +kernel) rfl rfl (Nat.le_of_ble_eq_true rfl) dX8_init_61 (fun H locs hP hD hS => ?_)
  rw [pre_set] at hP hD
  have hP : va_P D vwCl (X ++ [(q, .inr (8, [.ref (w0), .ref (q1), .int (nI 0), .ref (q2), .ref (q3), .int (nI 0), .int (nI 0), .int (nI 0), .int (nI 0), .int (nI 0)])), (q1, .inl (cA 0, 8, .inl (fun _ => 0))), (q2, .inl (cA 0, 6, .inl (fun _ => 0))), (q3, .inl (cA 0, 300, .inl (fun _ => 0)))]) H := hP
  have hD : va_D A (X ++ [(q, .inr (8, [.ref (w0), .ref (q1), .int (nI 0), .ref (q2), .ref (q3), .int (nI 0), .int (nI 0), .int (nI 0), .int (nI 0), .int (nI 0)])), (q1, .inl (cA 0, 8, .inl (fun _ => 0))), (q2, .inl (cA 0, 6, .inl (fun _ => 0))), (q3, .inl (cA 0, 300, .inl (fun _ => 0)))]) := hD
  exact wVret hx hb hr hlocks (some (fun k => ([q1, q2, q3] : List Nat).getD k 0)) ⟨_, rfl⟩ hK hP hD hS dX8_init_64

def wdX2_init (cA : Nat → ClassId) (X : va_W) (q : Nat) (w0 : Nat) : Option (Nat → Nat) → va_W
  | none => X ++ [(q, .inr (2, [.null, .null, .int 0, .null, .int 0, .null]))]
  | some ro => X ++ [(q, .inr (2, [.ref (w0), .ref ((ro 0)), .int (nI 0), .ref ((ro 1)), .int (nI 0), .ref ((ro 2))])), ((ro 0), .inl (cA 0, 6, .inl (fun _ => 0))), ((ro 1), .inl (cA 0, 6, .inl (fun _ => 0))), ((ro 2), .inl (cA 0, 6, .inl (fun _ => 0)))]
set_option maxHeartbeats 4000000 in
set_option maxRecDepth 100000 in
theorem kX2_init (l : Launch) (D : va_G) (cA : Nat → ClassId) (X : va_W) (q sz : Nat) (w0 : Nat) : Met l yX2_init wsX2_init ({ frames := 1, cells := 3, slots := 18, locals := 23 } : Room) (va_Pc [.ref (q), .ref (w0)] (wA D vwCl (tyA cA) eA (wdX2_init cA X q w0) none sz)) (va_Qv (fun (z : Option (Nat → Nat)) => ∃ ro, z = some ro) (wB D vwCl (tyA cA) (wdX2_init cA X q w0) (va_A ((wdX2_init cA X q w0) none) sz)) (va_A ((wdX2_init cA X q w0) none) sz)) 3 18 (va_A ((wdX2_init cA X q w0) none) sz) := by
  refine Met.ofW (cc := cX2_init) (maxL := 2) (ret := none) (by decide) rfl ?_
  intro p e s m args below meth c s₁ B hml hv
  obtain ⟨rfl, hsz, hP, hK, hD0, hE⟩ := hv
  have hx := B.exec
  have hb := B.bytes
  have hr := B.returns
  have hts := atoms_spec (ws := wsX2_init) B.pre
  have hown : s.vm.findClass RX2 = some m.cls := findClass_of_methodNamed B.named
  have hlocks := B.notSynchronized
  have hini : meth.name = "<init>" := (name_of_methodNamed B.named B.method).1
  subst hsz
  have hD := hD0.self (sz := s.heap.size)
  generalize hAe : va_A ((wdX2_init cA X q w0) none) s.heap.size = A at hD hE ⊢
  have hA : ∀ q : Nat, s.heap.size ≤ q → A q := fun q h => by rw [← hAe]; exact Or.inr h
  have hS : va_S A s.heap s.heap [] := va_S.rf
  have hinX2 : ∀ w ∈ u_ws RX2 TX2 6, w ∈ wsX2_init := by decide +kernel
  have hl := lv_entry ([.ref (q), .ref (w0)]) (n := 2) (Nat.le_of_ble_eq_true rfl)
  rw [lg_entry_eq]
  generalize (lg_sl ([.ref (q), .ref (w0)]) ++ List.replicate (2 - (lg_sl ([.ref (q), .ref (w0)])).length) Slot.unset).toArray = ls at hl ⊢
  have hl : lv_has ls 2 [(0, .ref (q)), (1, .ref (w0))] := hl
  have hP : va_P D vwCl (X ++ [(q, .inr (2, [.null, .null, .int 0, .null, .int 0, .null]))]) s.heap := hP
  have hD : va_D A (X ++ [(q, .inr (2, [.null, .null, .int 0, .null, .int 0, .null]))]) := hD
  refine lv_aload_n hx hb dX2_init_0 rfl (lv_at hl 0 rfl) ?_
  refine W.objInit hx hb hown (hts (.methodLink RX2 3 objectInit) (by decide +kernel)) (hts (.instanceMethod objectInit) (by decide +kernel)) (hts (.code objectInit ⟨#[0xb1]⟩ 1 none) (by decide +kernel)) rfl (by rw [hml]; exact hl.1) rfl dX2_init_1 (Nat.le_of_ble_eq_true rfl) (Nat.le_of_ble_eq_true rfl) ?_
  refine W.eq (g2 := F0 m 4 ls []) rfl ?_
  refine lv_aload_n hx hb dX2_init_4 rfl (lv_at hl 0 rfl) ?_
  refine lv_bipush (v := (nI 6)) hx hb dX2_init_5 rfl ?_
  refine wNewI hx hb (hts (.arrayClass .int) (by decide +kernel)) hK hP hD hS hA 6 (by decide) (Nat.le_of_ble_eq_true rfl) (Nat.le_of_ble_eq_true rfl) dX2_init_7 (fun q1 H hP hD hS => ?_)
  rw [pre_app] at hP hD
  have hP : va_P D vwCl (X ++ [(q, .inr (2, [.null, .null, .int 0, .null, .int 0, .null])), (q1, .inl (cA 0, 6, .inl (fun _ => 0)))]) H := hP
  have hD : va_D A (X ++ [(q, .inr (2, [.null, .null, .int 0, .null, .int 0, .null])), (q1, .inl (cA 0, 6, .inl (fun _ => 0)))]) := hD
  refine va_putF (D := D) (ci := 2) (v := .ref (q1)) (ty := .array .int) (C := RX2) (T := TX2) (N := 6) hx hb hts hinX2 tyX2 tyX2_ok nmX2 hown hK hP hD hS (X.length + 0) (pre_he rfl) rfl 1 (by decide) (hts (.fieldLink RX2 9 "OneNail$Orders" "row" "[I") (by decide +kernel)) (fun _ h9 => h9) rfl hini rfl (by decide +kernel) rfl rfl (Nat.le_of_ble_eq_true rfl) dX2_init_9 (fun H locs hP hD hS => ?_)
  rw [pre_set] at hP hD
  have hP : va_P D vwCl (X ++ [(q, .inr (2, [.null, .ref (q1), .int 0, .null, .int 0, .null])), (q1, .inl (cA 0, 6, .inl (fun _ => 0)))]) H := hP
  have hD : va_D A (X ++ [(q, .inr (2, [.null, .ref (q1), .int 0, .null, .int 0, .null])), (q1, .inl (cA 0, 6, .inl (fun _ => 0)))]) := hD
  refine lv_aload_n hx hb dX2_init_12 rfl (lv_at hl 0 rfl) ?_
  refine lv_iconst (v := (nI 0)) hx hb dX2_init_13 rfl ?_
  refine va_put (D := D) (ci := 2) (v := .int (nI 0)) (ty := .int) (C := RX2) (T := TX2) (N := 6) hx hb hts hinX2 tyX2 tyX2_ok nmX2 hown hK hP hD hS (X.length + 0) (pre_he rfl) rfl 2 (by decide) (hts (.fieldLink RX2 15 "OneNail$Orders" "length" "I") (by decide +kernel)) (fun _ h9 => h9) rfl (by decide +kernel) rfl rfl (Nat.le_of_ble_eq_true rfl) dX2_init_14 (fun H locs hP hD hS => ?_)
  rw [pre_set] at hP hD
  have hP : va_P D vwCl (X ++ [(q, .inr (2, [.null, .ref (q1), .int (nI 0), .null, .int 0, .null])), (q1, .inl (cA 0, 6, .inl (fun _ => 0)))]) H := hP
  have hD : va_D A (X ++ [(q, .inr (2, [.null, .ref (q1), .int (nI 0), .null, .int 0, .null])), (q1, .inl (cA 0, 6, .inl (fun _ => 0)))]) := hD
  refine lv_aload_n hx hb dX2_init_17 rfl (lv_at hl 0 rfl) ?_
  refine lv_bipush (v := (nI 6)) hx hb dX2_init_18 rfl ?_
  refine wNewI hx hb (hts (.arrayClass .int) (by decide +kernel)) hK hP hD hS hA 6 (by decide) (Nat.le_of_ble_eq_true rfl) (Nat.le_of_ble_eq_true rfl) dX2_init_20 (fun q2 H hP hD hS => ?_)
  rw [pre_app] at hP hD
  have hP : va_P D vwCl (X ++ [(q, .inr (2, [.null, .ref (q1), .int (nI 0), .null, .int 0, .null])), (q1, .inl (cA 0, 6, .inl (fun _ => 0))), (q2, .inl (cA 0, 6, .inl (fun _ => 0)))]) H := hP
  have hD : va_D A (X ++ [(q, .inr (2, [.null, .ref (q1), .int (nI 0), .null, .int 0, .null])), (q1, .inl (cA 0, 6, .inl (fun _ => 0))), (q2, .inl (cA 0, 6, .inl (fun _ => 0)))]) := hD
  refine va_putF (D := D) (ci := 2) (v := .ref (q2)) (ty := .array .int) (C := RX2) (T := TX2) (N := 6) hx hb hts hinX2 tyX2 tyX2_ok nmX2 hown hK hP hD hS (X.length + 0) (pre_he rfl) rfl 3 (by decide) (hts (.fieldLink RX2 19 "OneNail$Orders" "comes" "[I") (by decide +kernel)) (fun _ h9 => h9) rfl hini rfl (by decide +kernel) rfl rfl (Nat.le_of_ble_eq_true rfl) dX2_init_22 (fun H locs hP hD hS => ?_)
  rw [pre_set] at hP hD
  have hP : va_P D vwCl (X ++ [(q, .inr (2, [.null, .ref (q1), .int (nI 0), .ref (q2), .int 0, .null])), (q1, .inl (cA 0, 6, .inl (fun _ => 0))), (q2, .inl (cA 0, 6, .inl (fun _ => 0)))]) H := hP
  have hD : va_D A (X ++ [(q, .inr (2, [.null, .ref (q1), .int (nI 0), .ref (q2), .int 0, .null])), (q1, .inl (cA 0, 6, .inl (fun _ => 0))), (q2, .inl (cA 0, 6, .inl (fun _ => 0)))]) := hD
  refine lv_aload_n hx hb dX2_init_25 rfl (lv_at hl 0 rfl) ?_
  refine lv_iconst (v := (nI 0)) hx hb dX2_init_26 rfl ?_
  refine va_put (D := D) (ci := 2) (v := .int (nI 0)) (ty := .int) (C := RX2) (T := TX2) (N := 6) hx hb hts hinX2 tyX2 tyX2_ok nmX2 hown hK hP hD hS (X.length + 0) (pre_he rfl) rfl 4 (by decide) (hts (.fieldLink RX2 22 "OneNail$Orders" "period" "I") (by decide +kernel)) (fun _ h9 => h9) rfl (by decide +kernel) rfl rfl (Nat.le_of_ble_eq_true rfl) dX2_init_27 (fun H locs hP hD hS => ?_)
  rw [pre_set] at hP hD
  have hP : va_P D vwCl (X ++ [(q, .inr (2, [.null, .ref (q1), .int (nI 0), .ref (q2), .int (nI 0), .null])), (q1, .inl (cA 0, 6, .inl (fun _ => 0))), (q2, .inl (cA 0, 6, .inl (fun _ => 0)))]) H := hP
  have hD : va_D A (X ++ [(q, .inr (2, [.null, .ref (q1), .int (nI 0), .ref (q2), .int (nI 0), .null])), (q1, .inl (cA 0, 6, .inl (fun _ => 0))), (q2, .inl (cA 0, 6, .inl (fun _ => 0)))]) := hD
  refine lv_aload_n hx hb dX2_init_30 rfl (lv_at hl 0 rfl) ?_
  refine lv_bipush (v := (nI 6)) hx hb dX2_init_31 rfl ?_
  refine wNewI hx hb (hts (.arrayClass .int) (by decide +kernel)) hK hP hD hS hA 6 (by decide) (Nat.le_of_ble_eq_true rfl) (Nat.le_of_ble_eq_true rfl) dX2_init_33 (fun q3 H hP hD hS => ?_)
  rw [pre_app] at hP hD
  have hP : va_P D vwCl (X ++ [(q, .inr (2, [.null, .ref (q1), .int (nI 0), .ref (q2), .int (nI 0), .null])), (q1, .inl (cA 0, 6, .inl (fun _ => 0))), (q2, .inl (cA 0, 6, .inl (fun _ => 0))), (q3, .inl (cA 0, 6, .inl (fun _ => 0)))]) H := hP
  have hD : va_D A (X ++ [(q, .inr (2, [.null, .ref (q1), .int (nI 0), .ref (q2), .int (nI 0), .null])), (q1, .inl (cA 0, 6, .inl (fun _ => 0))), (q2, .inl (cA 0, 6, .inl (fun _ => 0))), (q3, .inl (cA 0, 6, .inl (fun _ => 0)))]) := hD
  refine va_putF (D := D) (ci := 2) (v := .ref (q3)) (ty := .array .int) (C := RX2) (T := TX2) (N := 6) hx hb hts hinX2 tyX2 tyX2_ok nmX2 hown hK hP hD hS (X.length + 0) (pre_he rfl) rfl 5 (by decide) (hts (.fieldLink RX2 25 "OneNail$Orders" "kept" "[I") (by decide +kernel)) (fun _ h9 => h9) rfl hini rfl (by decide +kernel) rfl rfl (Nat.le_of_ble_eq_true rfl) dX2_init_35 (fun H locs hP hD hS => ?_)
  rw [pre_set] at hP hD
  have hP : va_P D vwCl (X ++ [(q, .inr (2, [.null, .ref (q1), .int (nI 0), .ref (q2), .int (nI 0), .ref (q3)])), (q1, .inl (cA 0, 6, .inl (fun _ => 0))), (q2, .inl (cA 0, 6, .inl (fun _ => 0))), (q3, .inl (cA 0, 6, .inl (fun _ => 0)))]) H := hP
  have hD : va_D A (X ++ [(q, .inr (2, [.null, .ref (q1), .int (nI 0), .ref (q2), .int (nI 0), .ref (q3)])), (q1, .inl (cA 0, 6, .inl (fun _ => 0))), (q2, .inl (cA 0, 6, .inl (fun _ => 0))), (q3, .inl (cA 0, 6, .inl (fun _ => 0)))]) := hD
  refine lv_aload_n hx hb dX2_init_38 rfl (lv_at hl 0 rfl) ?_
  refine lv_aload_n hx hb dX2_init_39 rfl (lv_at hl 1 rfl) ?_
  refine va_putF (D := D) (ci := 2) (v := .ref (w0)) (ty := .object "OneNail$Street") (C := RX2) (T := TX2) (N := 6) hx hb hts hinX2 tyX2 tyX2_ok nmX2 hown hK hP hD hS (X.length + 0) (pre_he rfl) rfl 0 (by decide) (hts (.fieldLink RX2 28 "OneNail$Orders" "town" "LOneNail$Street;") (by decide +kernel)) (fun _ h9 => h9) rfl hini rfl (by decide +kernel) rfl rfl (Nat.le_of_ble_eq_true rfl) dX2_init_40 (fun H locs hP hD hS => ?_)
  rw [pre_set] at hP hD
  have hP : va_P D vwCl (X ++ [(q, .inr (2, [.ref (w0), .ref (q1), .int (nI 0), .ref (q2), .int (nI 0), .ref (q3)])), (q1, .inl (cA 0, 6, .inl (fun _ => 0))), (q2, .inl (cA 0, 6, .inl (fun _ => 0))), (q3, .inl (cA 0, 6, .inl (fun _ => 0)))]) H := hP
  have hD : va_D A (X ++ [(q, .inr (2, [.ref (w0), .ref (q1), .int (nI 0), .ref (q2), .int (nI 0), .ref (q3)])), (q1, .inl (cA 0, 6, .inl (fun _ => 0))), (q2, .inl (cA 0, 6, .inl (fun _ => 0))), (q3, .inl (cA 0, 6, .inl (fun _ => 0)))]) := hD
  exact wVret hx hb hr hlocks (some (fun k => ([q1, q2, q3] : List Nat).getD k 0)) ⟨_, rfl⟩ hK hP hD hS dX2_init_43
