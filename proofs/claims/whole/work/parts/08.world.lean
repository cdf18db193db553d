def WM (cA : Nat → ClassId) (r : Nat → Nat) (u : Nat → Int32) (a : Nat → Nat → Int32) : va_W := [(r 0, .inr (10, [.int (u 0), .int (u 1), .ref (r 2), .ref (r 3), .ref (r 4), .int (u 5), .int (u 6), .int (u 7), .ref (r 8), .ref (r 9), .ref (r 10), .ref (r 11), .ref (r 12), .int (u 13), .int (u 14), .int (u 15), .ref (r 16), .ref (r 17), .ref (r 18), .ref (r 19), .ref (r 20), .ref (r 21), .int (u 22), .ref (r 23), .ref (r 24), .int (u 25), .ref (r 26), .ref (r 27), .ref (r 28), .ref (r 29), .int (u 30), .ref (r 31), .ref (r 32), .ref (r 33)])), (r 2, .inl (cA 0, 4, .inl (a 2))), (r 3, .inl (cA 0, 4, .inl (a 3))), (r 4, .inl (cA 0, 240, .inl (a 4))), (r 8, .inl (cA 0, 6, .inl (a 8))), (r 9, .inl (cA 0, 6, .inl (a 9))), (r 10, .inl (cA 0, 6, .inl (a 10))), (r 11, .inl (cA 0, 6, .inl (a 11))), (r 12, .inl (cA 0, 6, .inl (a 12))), (r 16, .inl (cA 0, 6, .inl (a 16))), (r 17, .inl (cA 0, 6, .inl (a 17))), (r 18, .inl (cA 0, 6, .inl (a 18))), (r 19, .inl (cA 0, 6, .inl (a 19))), (r 20, .inl (cA 0, 6, .inl (a 20))), (r 21, .inl (cA 0, 8, .inl (a 21))), (r 23, .inl (cA 0, 400, .inl (a 23))), (r 24, .inl (cA 0, 400, .inl (a 24))), (r 26, .inl (cA 0, 400, .inl (a 26))), (r 27, .inl (cA 1, 1800, .inl (a 27))), (r 28, .inl (cA 0, 6, .inl (a 28))), (r 29, .inl (cA 0, 64, .inl (a 29))), (r 31, .inl (cA 0, 8, .inl (a 31))), (r 32, .inl (cA 0, 8, .inl (a 32))), (r 33, .inl (cA 1, 8, .inl (a 33)))]
def WN (cA : Nat → ClassId) (r : Nat → Nat) (u : Nat → Int32) (a : Nat → Nat → Int32) (th : Nat → Option Nat) : va_W := [(r 0, .inr (9, [.ref (r 1), .ref (r 2), .ref (r 3), .ref (r 4), .ref (r 10), .ref (r 11), .ref (r 5), .int (u 0)])), (r 1, .inr (5, [.int (u 1), .int (u 2), .int (u 3), .ref (r 12), .ref (r 13), .ref (r 14), .ref (r 15), .ref (r 16)])), (r 2, .inr (3, [.int (u 4), .ref (r 17), .ref (r 18), .ref (r 19)])), (r 3, .inr (8, [.ref (r 1), .ref (r 20), .int (u 5), .ref (r 21), .ref (r 22), .int (u 6), .int (u 7), .int (u 8), .int (u 9), .int (u 10)])), (r 4, .inr (2, [.ref (r 1), .ref (r 23), .int (u 11), .ref (r 24), .int (u 12), .ref (r 25)])), (r 5, .inr (7, [.int (u 13)])), (r 6, .inr (4, [.int (u 14), .int (u 18), .ref (r 26)])), (r 7, .inr (4, [.int (u 15), .int (u 19), .ref (r 27)])), (r 8, .inr (4, [.int (u 16), .int (u 20), .ref (r 28)])), (r 9, .inr (4, [.int (u 17), .int (u 21), .ref (r 29)])), (r 10, .inl (cA 2, 4, .inr (.inr (.inr (.inr (fun k => if k < 4 then some (r (6 + k)) else none)))))), (r 12, .inl (cA 3, 6, .inr (.inr (.inr (.inr th))))), (r 11, .inl (cA 0, 64, .inl (a 11))), (r 13, .inl (cA 0, 6, .inl (a 13))), (r 14, .inl (cA 0, 6, .inl (a 14))), (r 15, .inl (cA 0, 6, .inl (a 15))), (r 16, .inl (cA 0, 6, .inl (a 16))), (r 17, .inl (cA 0, 8, .inl (a 17))), (r 18, .inl (cA 0, 8, .inl (a 18))), (r 19, .inl (cA 1, 8, .inl (a 19))), (r 20, .inl (cA 0, 8, .inl (a 20))), (r 21, .inl (cA 0, 6, .inl (a 21))), (r 22, .inl (cA 0, 300, .inl (a 22))), (r 23, .inl (cA 0, 6, .inl (a 23))), (r 24, .inl (cA 0, 6, .inl (a 24))), (r 25, .inl (cA 0, 6, .inl (a 25))), (r 26, .inl (cA 0, 60, .inl (a 26))), (r 27, .inl (cA 0, 60, .inl (a 27))), (r 28, .inl (cA 0, 60, .inl (a 28))), (r 29, .inl (cA 0, 60, .inl (a 29)))]
def tyA (cA : Nat → ClassId) : List (ClassId × FieldType) := [(cA 0, .int), (cA 1, .boolean), (cA 2, .object "OneNail$Sheet"), (cA 3, .object "OneNail$Thing")]
abbrev sM : Type := (Nat → Int32) × (Nat → Nat → Int32)
abbrev sN : Type := (Nat → Int32) × (Nat → Nat → Int32) × (Nat → Option Nat) × List Nat × (Nat → va_E)
abbrev xM (cA : Nat → ClassId) (r : Nat → Nat) (x : sM) : va_W := WM cA r x.1 x.2
abbrev xN (cA : Nat → ClassId) (r : Nat → Nat) (x : sN) : va_W := WN cA r x.1 x.2.1 x.2.2.1 ++ va_pl x.2.2.2.1 x.2.2.2.2
/-- what is carried of cells that nobody writes -/
abbrev eT : Type := (Nat → Prop) → State → Heap → Prop
def eS (E : eT) : Prop := ∀ (A B : Nat → Prop) (u U : State) (H H1 : Heap), E A u H → (∀ q, B q → A q) → (∀ q : Nat, q < H.size → ¬ A q → H1[q]? = H[q]?) → u.vm.Alike U.vm → E B U H1
def e0 : eT := fun _ _ _ => True
theorem e0_S : eS e0 := fun _ _ _ _ _ _ _ _ _ _ => trivial
def eO (t : Nat) : eT := fun A U H => va_Z "OneNail$Orders" "ORDERS_OF" "[I" (.ref t) A U H ∧ va_T .int t 7 (fun j => .int (nI (match j with | 0 => 1 | 1 => 1 | 2 => 2 | 3 => 6 | 4 => 24 | 5 => 120 | _ => 720))) A U H
def wA (D : va_G) (cl : List vw_C) (tys : List (ClassId × FieldType)) (E : eT) {σ : Type} (Wd : σ → va_W) (x : σ) (sz : Nat) (U : State) : Prop :=
  U.heap.size = sz ∧ va_P D cl (Wd x) U.heap ∧ va_K D cl tys U ∧ va_D (fun _ => True) (Wd x) ∧ E (va_A (Wd x) sz) U U.heap
def wB (D : va_G) (cl : List vw_C) (tys : List (ClassId × FieldType)) {σ : Type} (Wd : σ → va_W) (A : Nat → Prop) (y : σ) (t : State) : Prop :=
  va_P D cl (Wd y) t.heap ∧ va_K D cl tys t ∧ va_D A (Wd y)
theorem wA_blind {D : va_G} {cl : List vw_C} {tys : List (ClassId × FieldType)} {E : eT} {σ : Type} {Wd : σ → va_W} {x : σ} {sz : Nat} {av : List Value} (hE : eS E) : FrameBlind (va_Pc av (wA D cl tys E Wd x sz)) := fun a U g mk q => by
  obtain ⟨q0, q1, qP, qK, qD, qE⟩ := q
  exact ⟨q0, q1, qP, va_K.moved (u := U) (U := U.calling g mk a) (Vm.Alike.refl U.vm) qK, qD, hE _ _ U _ _ _ qE (fun _ h => h) (fun _ _ _ => rfl) (Vm.Alike.refl U.vm)⟩
theorem wF {A0 : Nat → Prop} {ws : va_W} {H0 H : Heap} {locs : List Loc} (hD : va_D A0 ws) (hS : va_S A0 H0 H locs) (hA : ∀ q, H0.size ≤ q → A0 q) : ∀ q, va_A ws H.size q → A0 q := fun q h => h.elim (fun ⟨k, _, hk⟩ => hD.2 k _ hk) (fun h => hA q (Nat.le_trans hS.1 h))
section
variable {p : Program} {l : Launch} {e : Env} {R : Room} {s : State} {m : MethodId} {args : Array Value} {below : List Frame} {meth : Method} {c : Code} {H : Heap} {locs : List Loc} {cells slots : Nat} {Q : State → Prop}
variable {y : MethodName} {bytes cc : ByteArray} {maxL nL mc ms n index pc : Nat} {ret : Option FieldType} {ws : List Cond} {rm : Room} {Ts : List Cond} {own C : String} {b : Addr} {As rest st0 : List Value} {ls : Array Slot}
variable {D : va_G} {cl : List vw_C} {A0 : Nat → Prop} {tys : List (ClassId × FieldType)} {H0 : Heap} {E : eT} {σ : Type} {Wd : σ → va_W} {x : σ}
theorem wPre {av : List Value} (hE : eS E) (hK : va_K D cl tys s) (hP : va_P D cl (Wd x) H) (hD : va_D A0 (Wd x)) (hS : va_S A0 s.heap H locs) (hA : ∀ q, s.heap.size ≤ q → A0 q) (hEs : E A0 s s.heap) : ∀ U : State, U.heap = H → s.WarmedH U.vm → va_Pc av (wA D cl tys E Wd x H.size) av.toArray U := fun U hU hW => by
  refine ⟨rfl, by rw [hU], by rw [hU]; exact hP, va_K.moved hW.alike hK, hD.weaken (fun _ _ _ _ => trivial), hE A0 _ s U s.heap _ hEs (wF hD hS hA) (fun q h1 h2 => by rw [hU]; exact hS.2.1 q h1 h2) hW.alike⟩
theorem wVi {post : Int32 → σ → Prop} (hE : eS E) (S : CallFix p m c cc nL s args Ts own)
    (hM : Met l y ws rm (va_Pc (.ref b :: As) (wA D cl tys E Wd x H.size)) (va_Qi post (wB D cl tys Wd (va_A (Wd x) H.size)) (va_A (Wd x) H.size)) mc ms (va_A (Wd x) H.size))
    (cw : CallW R s args own C index y bytes maxL ret ws rm mc ms n) (hrc : ∃ cell : Cell, H[b]? = some cell ∧ cell.vm.isStatics = false ∧ s.vm.findClass C = some cell.cls)
    (hK : va_K D cl tys s) (hP : va_P D cl (Wd x) H) (hD : va_D A0 (Wd x)) (hS : va_S A0 s.heap H locs) (hA : ∀ q, s.heap.size ≤ q → A0 q) (hEs : E A0 s s.heap)
    (hn : As.length = n) (hsize : ls.size = nL) (hst : st0 = As.reverse ++ .ref b :: rest) (hW : (rest.map fun v => v.category).sum ≤ 8) (hdg : decode cc pc = .ok (.invokevirtual index, 3)) (hf : cells + mc ≤ R.cells ∧ slots + ms ≤ R.slots)
    (kk : ∀ (rv : Int32) (z : σ) (H1 : Heap) (locs1 : List Loc), post rv z → va_P D cl (Wd z) H1 → va_D A0 (Wd z) → va_S A0 s.heap H1 locs1 → W p l e R s m args below meth c H1 locs1 (cells + mc) (slots + ms) Q (F0 m (pc + 3) ls (.int rv :: rest))) :
    W p l e R s m args below meth c H locs cells slots Q (F0 m pc ls st0) := by
  have hF := wF hD hS hA
  refine va_calli (va_runV (As := As) (rest := rest) S hM cw ⟨wA_blind hE, hrc, wPre hE hK hP hD hS hA hEs⟩ rfl hn hsize hst (lv_room hW) hdg hf) hS (fun q _ h => hF q h) hF (fun rv z t H1 locs1 ht hvm hw hB hz1 hk1 hS1 => ?_)
  obtain ⟨hP1, hK1, hD1⟩ := hB
  rw [ht] at hP1
  exact kk rv z H1 locs1 hw hP1 (hD1.weaken (fun _ _ _ h => hF _ h)) hS1
theorem wVl {post : Int64 → σ → Prop} (hE : eS E) (S : CallFix p m c cc nL s args Ts own)
    (hM : Met l y ws rm (va_Pc (.ref b :: As) (wA D cl tys E Wd x H.size)) (va_Ql post (wB D cl tys Wd (va_A (Wd x) H.size)) (va_A (Wd x) H.size)) mc ms (va_A (Wd x) H.size))
    (cw : CallW R s args own C index y bytes maxL ret ws rm mc ms n) (hrc : ∃ cell : Cell, H[b]? = some cell ∧ cell.vm.isStatics = false ∧ s.vm.findClass C = some cell.cls)
    (hK : va_K D cl tys s) (hP : va_P D cl (Wd x) H) (hD : va_D A0 (Wd x)) (hS : va_S A0 s.heap H locs) (hA : ∀ q, s.heap.size ≤ q → A0 q) (hEs : E A0 s s.heap)
    (hn : As.length = n) (hsize : ls.size = nL) (hst : st0 = As.reverse ++ .ref b :: rest) (hW : (rest.map fun v => v.category).sum ≤ 8) (hdg : decode cc pc = .ok (.invokevirtual index, 3)) (hf : cells + mc ≤ R.cells ∧ slots + ms ≤ R.slots)
    (kk : ∀ (rv : Int64) (z : σ) (H1 : Heap) (locs1 : List Loc), post rv z → va_P D cl (Wd z) H1 → va_D A0 (Wd z) → va_S A0 s.heap H1 locs1 → W p l e R s m args below meth c H1 locs1 (cells + mc) (slots + ms) Q (F0 m (pc + 3) ls (.long rv :: rest))) :
    W p l e R s m args below meth c H locs cells slots Q (F0 m pc ls st0) := by
  have hF := wF hD hS hA
  refine va_calll (va_runV (As := As) (rest := rest) S hM cw ⟨wA_blind hE, hrc, wPre hE hK hP hD hS hA hEs⟩ rfl hn hsize hst (lv_room hW) hdg hf) hS (fun q _ h => hF q h) hF (fun rv z t H1 locs1 ht hvm hw hB hz1 hk1 hS1 => ?_)
  obtain ⟨hP1, hK1, hD1⟩ := hB
  rw [ht] at hP1
  exact kk rv z H1 locs1 hw hP1 (hD1.weaken (fun _ _ _ h => hF _ h)) hS1
theorem wVv {post : σ → Prop} (hE : eS E) (S : CallFix p m c cc nL s args Ts own)
    (hM : Met l y ws rm (va_Pc (.ref b :: As) (wA D cl tys E Wd x H.size)) (va_Qv post (wB D cl tys Wd (va_A (Wd x) H.size)) (va_A (Wd x) H.size)) mc ms (va_A (Wd x) H.size))
    (cw : CallW R s args own C index y bytes maxL ret ws rm mc ms n) (hrc : ∃ cell : Cell, H[b]? = some cell ∧ cell.vm.isStatics = false ∧ s.vm.findClass C = some cell.cls)
    (hK : va_K D cl tys s) (hP : va_P D cl (Wd x) H) (hD : va_D A0 (Wd x)) (hS : va_S A0 s.heap H locs) (hA : ∀ q, s.heap.size ≤ q → A0 q) (hEs : E A0 s s.heap)
    (hn : As.length = n) (hsize : ls.size = nL) (hst : st0 = As.reverse ++ .ref b :: rest) (hW : (rest.map fun v => v.category).sum ≤ 8) (hdg : decode cc pc = .ok (.invokevirtual index, 3)) (hf : cells + mc ≤ R.cells ∧ slots + ms ≤ R.slots)
    (kk : ∀ (z : σ) (H1 : Heap) (locs1 : List Loc), post z → va_P D cl (Wd z) H1 → va_D A0 (Wd z) → va_S A0 s.heap H1 locs1 → W p l e R s m args below meth c H1 locs1 (cells + mc) (slots + ms) Q (F0 m (pc + 3) ls rest)) :
    W p l e R s m args below meth c H locs cells slots Q (F0 m pc ls st0) := by
  have hF := wF hD hS hA
  refine va_callv (va_runV (As := As) (rest := rest) S hM cw ⟨wA_blind hE, hrc, wPre hE hK hP hD hS hA hEs⟩ rfl hn hsize hst (lv_room hW) hdg hf) hS (fun q _ h => hF q h) hF (fun z t H1 locs1 ht hvm hw hB hz1 hk1 hS1 => ?_)
  obtain ⟨hP1, hK1, hD1⟩ := hB
  rw [ht] at hP1
  exact kk z H1 locs1 hw hP1 (hD1.weaken (fun _ _ _ h => hF _ h)) hS1
/-- a static method that touches no cell -/
theorem wSi {post : Int32 → Prop} (S : CallFix p m c cc nL s args Ts own)
    (hM : Met l y ws rm (va_Pc As (fun _ => True)) (vp_Si post) 0 0 (fun _ => False))
    (cw : CallB R s args own index y bytes maxL ret ws rm 0 0 n ∧ (Cond.static y).before args s = true)
    (hn : As.length = n) (hsize : ls.size = nL) (hst : st0 = As.reverse ++ rest) (hW : (rest.map fun v => v.category).sum ≤ 8) (hdg : decode cc pc = .ok (.invokestatic index, 3)) (hf : cells + 0 ≤ R.cells ∧ slots + 0 ≤ R.slots)
    (kk : ∀ rv : Int32, post rv → W p l e R s m args below meth c H locs cells slots Q (F0 m (pc + 3) ls (.int rv :: rest))) :
    W p l e R s m args below meth c H locs cells slots Q (F0 m pc ls st0) :=
  vp_callSi (va_Run.run (va_runS (As := As) (rest := rest) S hM cw ⟨fun _ _ _ _ q => q, fun _ _ _ => ⟨rfl, trivial⟩⟩ rfl hn hsize hst (lv_room hW) hdg hf)) kk
theorem wIret {post : Int32 → σ → Prop} (hx : p.tables.exec = Jvm.exec) (hb : c.code = cc) (hr : meth.sig.returnType = some .int) (hlocks : meth.locks = false) {v : Int32} (z : σ) (hp : post v z) (hK : va_K D cl tys s) (hP : va_P D cl (Wd z) H) (hD : va_D A0 (Wd z)) (hS : va_S A0 s.heap H locs) (hdg : decode cc pc = .ok (.ireturn, 1)) :
    W p l e R s m args below meth c H locs cells slots (MQ below (va_Qi post (wB D cl tys Wd A0) A0) args s cells slots A0) (F0 m pc ls [.int v]) :=
  W.iret hx hb hr (fun t ht hW => ⟨⟨v, z, rfl, hp, by rw [ht]; exact hP, va_K.moved hW.alike hK, hD⟩, hS.F ht⟩) hS.2.2 hdg
theorem wZret {post : Int32 → σ → Prop} (hx : p.tables.exec = Jvm.exec) (hb : c.code = cc) (hr : meth.sig.returnType = some .boolean) (hlocks : meth.locks = false) {v : Int32} (hv : v = 0 ∨ v = 1) (z : σ) (hp : post v z) (hK : va_K D cl tys s) (hP : va_P D cl (Wd z) H) (hD : va_D A0 (Wd z)) (hS : va_S A0 s.heap H locs) (hdg : decode cc pc = .ok (.ireturn, 1)) :
    W p l e R s m args below meth c H locs cells slots (MQ below (va_Qi post (wB D cl tys Wd A0) A0) args s cells slots A0) (F0 m pc ls [.int v]) :=
  W.zret hx hb hr (by rcases hv with rfl | rfl <;> rfl) (fun t ht hW => ⟨⟨v, z, rfl, hp, by rw [ht]; exact hP, va_K.moved hW.alike hK, hD⟩, hS.F ht⟩) hS.2.2 hdg
theorem wLret {post : Int64 → σ → Prop} (hx : p.tables.exec = Jvm.exec) (hb : c.code = cc) (hr : meth.sig.returnType = some .long) (hlocks : meth.locks = false) {v : Int64} (z : σ) (hp : post v z) (hK : va_K D cl tys s) (hP : va_P D cl (Wd z) H) (hD : va_D A0 (Wd z)) (hS : va_S A0 s.heap H locs) (hdg : decode cc pc = .ok (.lreturn, 1)) :
    W p l e R s m args below meth c H locs cells slots (MQ below (va_Ql post (wB D cl tys Wd A0) A0) args s cells slots A0) (F0 m pc ls [.long v]) :=
  W.lret hx hb hr (fun t ht hW => ⟨⟨v, z, rfl, hp, by rw [ht]; exact hP, va_K.moved hW.alike hK, hD⟩, hS.F ht⟩) hS.2.2 hdg
theorem wVret {post : σ → Prop} (hx : p.tables.exec = Jvm.exec) (hb : c.code = cc) (hr : meth.sig.returnType = none) (hlocks : meth.locks = false) (z : σ) (hp : post z) (hK : va_K D cl tys s) (hP : va_P D cl (Wd z) H) (hD : va_D A0 (Wd z)) (hS : va_S A0 s.heap H locs) (hdg : decode cc pc = .ok (.return_, 1)) :
    W p l e R s m args below meth c H locs cells slots (MQ below (va_Qv post (wB D cl tys Wd A0) A0) args s cells slots A0) (F0 m pc ls []) :=
  W.vret hx hb hr (fun t ht hW => ⟨⟨z, rfl, hp, by rw [ht]; exact hP, va_K.moved hW.alike hK, hD⟩, hS.F ht⟩) hS.2.2 hdg
theorem wSret {post : Int32 → Prop} (hx : p.tables.exec = Jvm.exec) (hb : c.code = cc) (hr : meth.sig.returnType = some .int) (hlocks : meth.locks = false) {v : Int32} (hp : post v) (hdg : decode cc pc = .ok (.ireturn, 1)) :
    W p l e R s m args below meth c s.heap [] cells slots (MQ below (vp_Si post) args s cells slots (fun _ => False)) (F0 m pc ls [.int v]) :=
  W.iret hx hb hr (fun t ht hW => ⟨v, rfl, hp, ht⟩) (fun _ h => absurd h List.not_mem_nil) hdg
theorem wSzret {post : Int32 → Prop} (hx : p.tables.exec = Jvm.exec) (hb : c.code = cc) (hr : meth.sig.returnType = some .boolean) (hlocks : meth.locks = false) {v : Int32} (hv : v = 0 ∨ v = 1) (hp : post v) (hdg : decode cc pc = .ok (.ireturn, 1)) :
    W p l e R s m args below meth c s.heap [] cells slots (MQ below (vp_Si post) args s cells slots (fun _ => False)) (F0 m pc ls [.int v]) :=
  W.zret hx hb hr (by rcases hv with rfl | rfl <;> rfl) (fun t ht hW => ⟨v, rfl, hp, ht⟩) (fun _ h => absurd h List.not_mem_nil) hdg
end
