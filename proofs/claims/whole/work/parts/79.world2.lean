theorem WN_o {cA : Nat → ClassId} {r : Nat → Nat} {x : sN} {k : Nat} (hk : k < 4) : (xN cA r x)[6 + k]? = some (r (6 + k), .inr (4, [.int (x.1 (14 + k)), .int (x.1 (18 + k)), .ref (r (26 + k))])) := by
  rcases (show k = 0 ∨ k = 1 ∨ k = 2 ∨ k = 3 by omega) with rfl | rfl | rfl | rfl <;> rfl
theorem WN_a {cA : Nat → ClassId} {r : Nat → Nat} {x : sN} {k : Nat} (hk : k < 4) : (xN cA r x)[26 + k]? = some (r (26 + k), .inl (cA 0, 60, .inl (x.2.1 (26 + k)))) := by
  rcases (show k = 0 ∨ k = 1 ∨ k = 2 ∨ k = 3 by omega) with rfl | rfl | rfl | rfl <;> rfl
theorem WN_sa {cA : Nat → ClassId} {r : Nat → Nat} {u : Nat → Int32} {a : Nat → Nat → Int32} {th : Nat → Option Nat} {LP : List Nat} {tf : Nat → va_E} {k : Nat} {f : Nat → Int32} (hk : k < 4) : (xN cA r (u, a, th, LP, tf)).set (26 + k) (r (26 + k), .inl (cA 0, 60, .inl f)) = xN cA r (u, va_up a (26 + k) f, th, LP, tf) := by
  rcases (show k = 0 ∨ k = 1 ∨ k = 2 ∨ k = 3 by omega) with rfl | rfl | rfl | rfl <;> rfl
section
variable {p : Program} {l : Launch} {e : Env} {R : Room} {s : State} {m : MethodId} {args : Array Value} {below : List Frame} {meth : Method} {c : Code} {H : Heap} {locs : List Loc} {cells slots : Nat} {Q : State → Prop}
variable {y : MethodName} {bytes cc : ByteArray} {maxL nL mc ms n index pc : Nat} {ret : Option FieldType} {ws : List Cond} {rm : Room} {Ts : List Cond} {own C : String} {b : Addr} {As rest st0 : List Value} {ls : Array Slot}
variable {D : va_G} {cl : List vw_C} {A0 : Nat → Prop} {tys : List (ClassId × FieldType)} {H0 : Heap} {E : eT} {σ : Type} {Wd : σ → va_W} {x : σ}
theorem wVq {post : Option Nat → σ → Prop} (hE : eS E) (S : CallFix p m c cc nL s args Ts own)
    (hM : Met l y ws rm (va_Pc (.ref b :: As) (wA D cl tys E Wd x H.size)) (va_Qq post (wB D cl tys Wd (va_A (Wd x) H.size)) (va_A (Wd x) H.size)) mc ms (va_A (Wd x) H.size))
    (cw : CallW R s args own C index y bytes maxL ret ws rm mc ms n) (hrc : ∃ cell : Cell, H[b]? = some cell ∧ cell.vm.isStatics = false ∧ s.vm.findClass C = some cell.cls)
    (hK : va_K D cl tys s) (hP : va_P D cl (Wd x) H) (hD : va_D A0 (Wd x)) (hS : va_S A0 s.heap H locs) (hA : ∀ q, s.heap.size ≤ q → A0 q) (hEs : E A0 s s.heap)
    (hn : As.length = n) (hsize : ls.size = nL) (hst : st0 = As.reverse ++ .ref b :: rest) (hW : (rest.map fun v => v.category).sum ≤ 8) (hdg : decode cc pc = .ok (.invokevirtual index, 3)) (hf : cells + mc ≤ R.cells ∧ slots + ms ≤ R.slots)
    (kk : ∀ (rv : Option Nat) (z : σ) (H1 : Heap) (locs1 : List Loc), post rv z → va_P D cl (Wd z) H1 → va_D A0 (Wd z) → va_S A0 s.heap H1 locs1 → W p l e R s m args below meth c H1 locs1 (cells + mc) (slots + ms) Q (F0 m (pc + 3) ls (va_rf rv :: rest))) :
    W p l e R s m args below meth c H locs cells slots Q (F0 m pc ls st0) := by
  have hF := wF hD hS hA
  refine va_callq (va_runV (As := As) (rest := rest) S hM cw ⟨wA_blind hE, hrc, wPre hE hK hP hD hS hA hEs⟩ rfl hn hsize hst (lv_room hW) hdg hf) hS (fun q _ h => hF q h) hF (fun rv z t H1 locs1 ht hvm hw hB hz1 hk1 hS1 => ?_)
  obtain ⟨hP1, hK1, hD1⟩ := hB
  rw [ht] at hP1
  exact kk rv z H1 locs1 hw hP1 (hD1.weaken (fun _ _ _ h => hF _ h)) hS1
theorem wTi {post : Int32 → σ → Prop} (hE : eS E) (S : CallFix p m c cc nL s args Ts own)
    (hM : Met l y ws rm (va_Pc As (wA D cl tys E Wd x H.size)) (va_Qi post (wB D cl tys Wd (va_A (Wd x) H.size)) (va_A (Wd x) H.size)) mc ms (va_A (Wd x) H.size))
    (cw : CallB R s args own index y bytes maxL ret ws rm mc ms n ∧ (Cond.static y).before args s = true)
    (hK : va_K D cl tys s) (hP : va_P D cl (Wd x) H) (hD : va_D A0 (Wd x)) (hS : va_S A0 s.heap H locs) (hA : ∀ q, s.heap.size ≤ q → A0 q) (hEs : E A0 s s.heap)
    (hn : As.length = n) (hsize : ls.size = nL) (hst : st0 = As.reverse ++ rest) (hW : (rest.map fun v => v.category).sum ≤ 8) (hdg : decode cc pc = .ok (.invokestatic index, 3)) (hf : cells + mc ≤ R.cells ∧ slots + ms ≤ R.slots)
    (kk : ∀ (rv : Int32) (z : σ) (H1 : Heap) (locs1 : List Loc), post rv z → va_P D cl (Wd z) H1 → va_D A0 (Wd z) → va_S A0 s.heap H1 locs1 → W p l e R s m args below meth c H1 locs1 (cells + mc) (slots + ms) Q (F0 m (pc + 3) ls (.int rv :: rest))) :
    W p l e R s m args below meth c H locs cells slots Q (F0 m pc ls st0) := by
  have hF := wF hD hS hA
  refine va_calli (va_runS (As := As) (rest := rest) S hM cw ⟨wA_blind hE, wPre hE hK hP hD hS hA hEs⟩ rfl hn hsize hst (lv_room hW) hdg hf) hS (fun q _ h => hF q h) hF (fun rv z t H1 locs1 ht hvm hw hB hz1 hk1 hS1 => ?_)
  obtain ⟨hP1, hK1, hD1⟩ := hB
  rw [ht] at hP1
  exact kk rv z H1 locs1 hw hP1 (hD1.weaken (fun _ _ _ h => hF _ h)) hS1
theorem wTq {post : Option Nat → σ → Prop} (hE : eS E) (S : CallFix p m c cc nL s args Ts own)
    (hM : Met l y ws rm (va_Pc As (wA D cl tys E Wd x H.size)) (va_Qq post (wB D cl tys Wd (va_A (Wd x) H.size)) (va_A (Wd x) H.size)) mc ms (va_A (Wd x) H.size))
    (cw : CallB R s args own index y bytes maxL ret ws rm mc ms n ∧ (Cond.static y).before args s = true)
    (hK : va_K D cl tys s) (hP : va_P D cl (Wd x) H) (hD : va_D A0 (Wd x)) (hS : va_S A0 s.heap H locs) (hA : ∀ q, s.heap.size ≤ q → A0 q) (hEs : E A0 s s.heap)
    (hn : As.length = n) (hsize : ls.size = nL) (hst : st0 = As.reverse ++ rest) (hW : (rest.map fun v => v.category).sum ≤ 8) (hdg : decode cc pc = .ok (.invokestatic index, 3)) (hf : cells + mc ≤ R.cells ∧ slots + ms ≤ R.slots)
    (kk : ∀ (rv : Option Nat) (z : σ) (H1 : Heap) (locs1 : List Loc), post rv z → va_P D cl (Wd z) H1 → va_D A0 (Wd z) → va_S A0 s.heap H1 locs1 → W p l e R s m args below meth c H1 locs1 (cells + mc) (slots + ms) Q (F0 m (pc + 3) ls (va_rf rv :: rest))) :
    W p l e R s m args below meth c H locs cells slots Q (F0 m pc ls st0) := by
  have hF := wF hD hS hA
  refine va_callq (va_runS (As := As) (rest := rest) S hM cw ⟨wA_blind hE, wPre hE hK hP hD hS hA hEs⟩ rfl hn hsize hst (lv_room hW) hdg hf) hS (fun q _ h => hF q h) hF (fun rv z t H1 locs1 ht hvm hw hB hz1 hk1 hS1 => ?_)
  obtain ⟨hP1, hK1, hD1⟩ := hB
  rw [ht] at hP1
  exact kk rv z H1 locs1 hw hP1 (hD1.weaken (fun _ _ _ h => hF _ h)) hS1
theorem wQret {post : Option Nat → σ → Prop} {Cn : String} (hx : p.tables.exec = Jvm.exec) (hb : c.code = cc) (hr : meth.sig.returnType = some (.object Cn)) (hlocks : meth.locks = false) {v : Option Nat} (z : σ) (hp : post v z) (hK : va_K D cl tys s) (hP : va_P D cl (Wd z) H) (hD : va_D A0 (Wd z)) (hS : va_S A0 s.heap H locs) (hdg : decode cc pc = .ok (.areturn, 1)) :
    W p l e R s m args below meth c H locs cells slots (MQ below (va_Qq post (wB D cl tys Wd A0) A0) args s cells slots A0) (F0 m pc ls [va_rf v]) :=
  W.aret hx hb hr (Or.inl ⟨Cn, rfl⟩) (va_rf_or v) (fun t ht hW => ⟨⟨v, z, rfl, hp, by rw [ht]; exact hP, va_K.moved hW.alike hK, hD⟩, hS.F ht⟩) hS.2.2 hdg
theorem wAld {ws : va_W} {a : Nat} (hx : p.tables.exec = Jvm.exec) (hb : c.code = cc) (hK : va_K D cl tys s) (hP : va_P D cl ws H) (q0 t0 : Nat) {cA : ClassId} {Cn : String} {n y : Nat} {f : Nat → Option Nat} (ha : ws[q0]? = some (a, .inl (cA, n, .inr (.inr (.inr (.inr f)))))) (ht : tys[t0]? = some (cA, .object Cn)) {j : Nat} (hj : j < n) (hn : n < 2 ^ 31) (hf : f j = some y) (hdg : decode cc pc = .ok (.aaload, 1))
    (kk : W p l e R s m args below meth c H locs cells slots Q (F0 m (pc + 1) ls (.ref y :: rest))) : W p l e R s m args below meth c H locs cells slots Q (F0 m pc ls (.int (nI j) :: .ref a :: rest)) := by
  refine va_aldq hx hb hK hP q0 t0 ha ht (vp_in_nI hj hn) hdg ?_
  rw [nI_clamp (by omega), hf]; exact kk
end
