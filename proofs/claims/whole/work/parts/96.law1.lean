section
variable {p : Program} {l : Launch} {e : Env} {R : Room} {s : State} {m : MethodId} {args : Array Value} {below : List Frame} {meth : Method} {c : Code} {H : Heap} {locs : List Loc} {cells slots : Nat} {Q : State → Prop}
variable {y : MethodName} {bytes cc : ByteArray} {maxL nL mc ms n index pc : Nat} {ret : Option FieldType} {ws : List Cond} {rm : Room} {Ts : List Cond} {own C : String} {b : Addr} {As rest st0 : List Value} {ls : Array Slot}
variable {D : va_G} {cl : List vw_C} {A0 : Nat → Prop} {tys : List (ClassId × FieldType)} {H0 : Heap} {E : eT} {σ : Type} {Wd : σ → va_W} {x : σ}
theorem w2Vi {post : Int32 → σ → Prop} (hE : eS E) (S : CallFix p m c cc nL s args Ts own)
    (hM : Met l y ws rm (va_Pc (.ref b :: As) (wA D cl tys E Wd x H.size)) (va_Qi post (wB D cl tys Wd (va_A (Wd x) H.size)) (va_A (Wd x) H.size)) mc ms (va_A (Wd x) H.size))
    (cw : CallW R s args own C index y bytes maxL ret ws rm mc ms n) (hrc : ∃ cell : Cell, H[b]? = some cell ∧ cell.vm.isStatics = false ∧ s.vm.findClass C = some cell.cls)
    (hK : va_K D cl tys s) (hP : va_P D cl (Wd x) H) (hD : va_D A0 (Wd x)) {M : va_W} (hPM : va_P D cl M H) (hX : ∀ (i j : Nat) (p q : Nat × va_E), M[i]? = some p → (Wd x)[j]? = some q → p.1 ≠ q.1) (hS : va_S A0 s.heap H locs) (hA : ∀ q, s.heap.size ≤ q → A0 q) (hEs : E A0 s s.heap)
    (hn : As.length = n) (hsize : ls.size = nL) (hst : st0 = As.reverse ++ .ref b :: rest) (hW : (rest.map fun v => v.category).sum ≤ 8) (hdg : decode cc pc = .ok (.invokevirtual index, 3)) (hf : cells + mc ≤ R.cells ∧ slots + ms ≤ R.slots)
    (kk : ∀ (rv : Int32) (z : σ) (H1 : Heap) (locs1 : List Loc), post rv z → va_P D cl (Wd z) H1 → va_D A0 (Wd z) → va_P D cl M H1 → (∀ (i j : Nat) (p q : Nat × va_E), M[i]? = some p → (Wd z)[j]? = some q → p.1 ≠ q.1) → va_S A0 s.heap H1 locs1 → W p l e R s m args below meth c H1 locs1 (cells + mc) (slots + ms) Q (F0 m (pc + 3) ls (.int rv :: rest))) :
    W p l e R s m args below meth c H locs cells slots Q (F0 m pc ls st0) := by
  have hF := wF hD hS hA
  refine va_calli (va_runV (As := As) (rest := rest) S hM cw ⟨wA_blind hE, hrc, wPre hE hK hP hD hS hA hEs⟩ rfl hn hsize hst (lv_room hW) hdg hf) hS (fun q _ h => hF q h) hF (fun rv z t H1 locs1 ht hvm hw hB hz1 hk1 hS1 => ?_)
  obtain ⟨hP1, hK1, hD1⟩ := hB
  rw [ht] at hP1
  have notA : ∀ (k : Nat) (q : Nat × va_E), M[k]? = some q → ¬ va_A (Wd x) H.size q.1 := fun k q hk h => h.elim (fun ⟨j, e, he⟩ => hX k j q _ hk he rfl) (fun h => absurd (hPM k q hk).lt (Nat.not_lt.mpr h))
  exact kk rv z H1 locs1 hw hP1 (hD1.weaken (fun _ _ _ h => hF _ h)) (hPM.kept (fun k q hk => hk1 q.1 (hPM k q hk).lt (notA k q hk))) (fun i j p q hi hj e9 => notA i p hi (by rw [e9]; exact hD1.2 j q hj)) hS1
theorem w2Vl {post : Int64 → σ → Prop} (hE : eS E) (S : CallFix p m c cc nL s args Ts own)
    (hM : Met l y ws rm (va_Pc (.ref b :: As) (wA D cl tys E Wd x H.size)) (va_Ql post (wB D cl tys Wd (va_A (Wd x) H.size)) (va_A (Wd x) H.size)) mc ms (va_A (Wd x) H.size))
    (cw : CallW R s args own C index y bytes maxL ret ws rm mc ms n) (hrc : ∃ cell : Cell, H[b]? = some cell ∧ cell.vm.isStatics = false ∧ s.vm.findClass C = some cell.cls)
    (hK : va_K D cl tys s) (hP : va_P D cl (Wd x) H) (hD : va_D A0 (Wd x)) {M : va_W} (hPM : va_P D cl M H) (hX : ∀ (i j : Nat) (p q : Nat × va_E), M[i]? = some p → (Wd x)[j]? = some q → p.1 ≠ q.1) (hS : va_S A0 s.heap H locs) (hA : ∀ q, s.heap.size ≤ q → A0 q) (hEs : E A0 s s.heap)
    (hn : As.length = n) (hsize : ls.size = nL) (hst : st0 = As.reverse ++ .ref b :: rest) (hW : (rest.map fun v => v.category).sum ≤ 8) (hdg : decode cc pc = .ok (.invokevirtual index, 3)) (hf : cells + mc ≤ R.cells ∧ slots + ms ≤ R.slots)
    (kk : ∀ (rv : Int64) (z : σ) (H1 : Heap) (locs1 : List Loc), post rv z → va_P D cl (Wd z) H1 → va_D A0 (Wd z) → va_P D cl M H1 → (∀ (i j : Nat) (p q : Nat × va_E), M[i]? = some p → (Wd z)[j]? = some q → p.1 ≠ q.1) → va_S A0 s.heap H1 locs1 → W p l e R s m args below meth c H1 locs1 (cells + mc) (slots + ms) Q (F0 m (pc + 3) ls (.long rv :: rest))) :
    W p l e R s m args below meth c H locs cells slots Q (F0 m pc ls st0) := by
  have hF := wF hD hS hA
  refine va_calll (va_runV (As := As) (rest := rest) S hM cw ⟨wA_blind hE, hrc, wPre hE hK hP hD hS hA hEs⟩ rfl hn hsize hst (lv_room hW) hdg hf) hS (fun q _ h => hF q h) hF (fun rv z t H1 locs1 ht hvm hw hB hz1 hk1 hS1 => ?_)
  obtain ⟨hP1, hK1, hD1⟩ := hB
  rw [ht] at hP1
  have notA : ∀ (k : Nat) (q : Nat × va_E), M[k]? = some q → ¬ va_A (Wd x) H.size q.1 := fun k q hk h => h.elim (fun ⟨j, e, he⟩ => hX k j q _ hk he rfl) (fun h => absurd (hPM k q hk).lt (Nat.not_lt.mpr h))
  exact kk rv z H1 locs1 hw hP1 (hD1.weaken (fun _ _ _ h => hF _ h)) (hPM.kept (fun k q hk => hk1 q.1 (hPM k q hk).lt (notA k q hk))) (fun i j p q hi hj e9 => notA i p hi (by rw [e9]; exact hD1.2 j q hj)) hS1
end
/-- what holds at the head of the law's loop: both sides stand for one state -/
def lI (D : va_G) (cA : Nat → ClassId) (rN rM : Nat → Nat) (A : Nat → Prop) (H0 H : Heap) (locs : List Loc) : Prop := ∃ (u : Nat → Int32) (a : Nat → Nat → Int32) (th : Nat → Option Nat) (LP : List Nat) (tf : Nat → va_E) (um : Nat → Int32) (am : Nat → Nat → Int32) (g : Nat → Nat) (T : Nat → Nat → Nat) (R : Nat → Nat → Nat) (so : Nat → Int32) (ln : Nat → Nat) (ce : Nat → Nat → Int32) (f tr : Int32), CI u a th LP tf g T R so ln ce f tr ∧ MI um am g T R so ln ce f tr ∧ va_P D vwCl (xN cA rN (u, a, th, LP, tf)) H ∧ va_D A (xN cA rN (u, a, th, LP, tf)) ∧ va_P D vwCl (xM cA rM (um, am)) H ∧ va_D A (xM cA rM (um, am)) ∧ (∀ (i j : Nat) (p q : Nat × va_E), (xM cA rM (um, am))[i]? = some p → (xN cA rN (u, a, th, LP, tf))[j]? = some q → p.1 ≠ q.1) ∧ va_S A H0 H locs
theorem wSld {p : Program} {l : Launch} {e : Env} {R : Room} {s : State} {m : MethodId} {args : Array Value} {below : List Frame} {meth : Method} {c : Code} {H : Heap} {locs : List Loc} {cells slots : Nat} {Q : State → Prop} {cc : ByteArray} {pc : Nat} {ls : Array Slot} {rest : List Value} {A : Nat → Prop} {H0 : Heap} (hexec : p.tables.exec = Jvm.exec) (hb : c.code = cc) {b L : Nat} {xs : Nat → Int32} (hX : va_X b L xs s H0) (hbl : b < H0.size) (hbA : ¬ A b) (hS : va_S A H0 H locs) {j : Nat} (hj : j < L) (hL : L ≤ 3072) (hdg : decode cc pc = .ok (.iaload, 1))
    (kk : W p l e R s m args below meth c H locs cells slots Q (F0 m (pc + 1) ls (.int (xs j) :: rest))) : W p l e R s m args below meth c H locs cells slots Q (F0 m pc ls (.int (nI j) :: .ref b :: rest)) := by
  refine va_sld hexec hb hX hbl hbA hS (vp_in_nI hj (by omega)) hdg ?_
  rw [nI_clamp (by omega)]; exact kk
theorem cmp_same (x : Int64) : lg_cmp x x = 0 := by
  have h : ¬ x < x := Int64.lt_irrefl
  simp [lg_cmp, h]
