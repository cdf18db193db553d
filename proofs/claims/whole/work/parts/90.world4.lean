theorem pre_he {X L : va_W} {i : Nat} {e : Nat × va_E} (h : L[i]? = some e) : (X ++ L)[X.length + i]? = some e := by
  rw [List.getElem?_append_right (Nat.le_add_right _ _), Nat.add_sub_cancel_left]; exact h
theorem pre_set {X L : va_W} {i : Nat} {e : Nat × va_E} : (X ++ L).set (X.length + i) e = X ++ L.set i e := by
  rw [List.set_append_right _ _ (Nat.le_add_right _ _), Nat.add_sub_cancel_left]
theorem pre_app {X L M : va_W} : (X ++ L) ++ M = X ++ (L ++ M) := List.append_assoc X L M
def eA : eT := fun _ U _ => va_AO "OneNail$Thing" U ∧ va_AO "OneNail$Sheet" U
theorem eA_S : eS eA := fun _ _ _ _ _ _ h _ _ hv => ⟨h.1.moved hv, h.2.moved hv⟩
theorem ty_one {D : va_G} {cl : List vw_C} {tys : List (ClassId × FieldType)} {s : State} {c c' : ClassId} {ty : FieldType} (h : va_K D cl (tys ++ [(c', ty)]) s) (k : Nat) (hk : tys[k]? = some (c, ty)) : c' = c := by
  have hl := (List.getElem?_eq_some_iff.mp hk).1
  have h1 := (h.2 k (c, ty) (by rw [List.getElem?_append_left hl]; exact hk)).2
  have h2 := (h.2 tys.length (c', ty) (by rw [List.getElem?_append_right (Nat.le_refl _), Nat.sub_self]; rfl)).2
  cases ty with
  | object C =>
    obtain ⟨_, _, -, -, -, e1⟩ := h1
    obtain ⟨_, _, -, -, -, e2⟩ := h2
    exact Option.some.inj (e2.symm.trans e1)
  | _ => exact Option.some.inj (Eq.trans (Eq.symm h2) h1)
theorem sub_step {vm : Vm} {n : Nat} {c t q : ClassId} {k : Class} (hk : vm.classes[c]? = some k) (hs : k.super = some q) (h : vm.isSubclassAux n q t = true) : vm.isSubclassAux (n + 1) c t = true := by
  simp [Vm.isSubclassAux, hk, hs, h]
theorem sub_self {vm : Vm} {n : Nat} {t : ClassId} : vm.isSubclassAux (n + 1) t t = true := by simp [Vm.isSubclassAux]
theorem asg_of {vm : Vm} {c t : ClassId} {k kt : Class} (hk : vm.classes[c]? = some k) (ht : vm.classes[t]? = some kt) (h1 : k.kind = .ordinary) (h2 : kt.kind = .ordinary) (hif : kt.isInterface = false) (h : vm.isSubclass c t = true) : vm.assignable c t = true := by
  simp [Vm.assignable, Vm.assignableAux, hk, ht, h1, h2, hif, h]
theorem inst_if {s : State} {args : Array Value} {C : String} {n : Nat} {t : ClassId} {kt : Class} (h : (Cond.instantiable C n).before args s = true) (hf : s.vm.findClass C = some t) (ht : s.vm.classes[t]? = some kt) : kt.isInterface = false := by
  obtain ⟨c2, k2, e1, e2, -, e3, -, -⟩ := Cond.instantiable_spec h
  have q : c2 = t := Option.some.inj (e1.symm.trans hf)
  rw [q] at e2
  have q2 : k2 = kt := Option.some.inj (e2.symm.trans ht)
  rw [q2] at e3
  exact (Bool.or_eq_false_iff.mp e3).1
theorem asg_1 {s : State} {args : Array Value} {A B : String} {n : Nat} (h1 : (Cond.superclass A B).before args s = true) (h2 : (Cond.instantiable B n).before args s = true) : ∀ comp c0 : ClassId, s.vm.findClass B = some comp → s.vm.findClass A = some c0 → s.vm.assignable c0 comp = true := by
  intro comp c0 hB hA
  obtain ⟨q, k, kp, e1, e2, e3, e4, e5, e6, -⟩ := Cond.superclass_spec hA h1
  have hq : q = comp := Option.some.inj (e1.symm.trans hB)
  subst hq
  refine asg_of e2 e3 e5 e6 (inst_if h2 hB e3) ?_
  have hz : c0 < s.vm.classes.size := (Array.getElem?_eq_some_iff.mp e2).1
  unfold Vm.isSubclass
  have hz0 : 0 < s.vm.classes.size := Nat.lt_of_le_of_lt (Nat.zero_le _) hz
  obtain ⟨n, hn⟩ : ∃ n, s.vm.classes.size = n + 1 := ⟨s.vm.classes.size - 1, by omega⟩
  rw [hn]
  exact sub_step e2 e4 sub_self
theorem asg_2 {s : State} {args : Array Value} {A B C : String} {n : Nat} (h0 : (Cond.superclass A B).before args s = true) (h1 : (Cond.superclass B C).before args s = true) (h2 : (Cond.instantiable C n).before args s = true) : ∀ comp c0 : ClassId, s.vm.findClass C = some comp → s.vm.findClass A = some c0 → s.vm.assignable c0 comp = true := by
  intro comp c0 hC hA
  obtain ⟨b, k, kb, f1, f2, f3, f4, f5, f6, -⟩ := Cond.superclass_spec hA h0
  obtain ⟨q, k1, kp, e1, e2, e3, e4, e5, e6, -⟩ := Cond.superclass_spec f1 h1
  have hq : q = comp := Option.some.inj (e1.symm.trans hC)
  subst hq
  refine asg_of f2 e3 f5 e6 (inst_if h2 hC e3) ?_
  have hz : c0 < s.vm.classes.size := (Array.getElem?_eq_some_iff.mp f2).1
  have hz1 : b < s.vm.classes.size := (Array.getElem?_eq_some_iff.mp e2).1
  unfold Vm.isSubclass
  by_cases hcb : c0 = b
  · rw [hcb] at f2
    have hk : k = k1 := Option.some.inj (f2.symm.trans e2)
    rw [hk] at f4
    have hb : b = q := Option.some.inj (f4.symm.trans e4)
    rw [hcb, hb]; exact sub_self
  · have hz2 : 2 ≤ s.vm.classes.size := by
      have a1 : (c0 : Nat) < s.vm.classes.size := hz
      have b1 : (b : Nat) < s.vm.classes.size := hz1
      have n1 : ¬ (c0 : Nat) = (b : Nat) := hcb
      rcases Nat.lt_or_ge (c0 : Nat) (b : Nat) with w | w
      · exact Nat.lt_of_le_of_lt (Nat.succ_le_of_lt (Nat.lt_of_le_of_lt (Nat.zero_le _) w)) b1
      · exact Nat.lt_of_le_of_lt (Nat.succ_le_of_lt (Nat.lt_of_le_of_lt (Nat.zero_le _) (Nat.lt_of_le_of_ne w (fun q => n1 q.symm)))) a1
    obtain ⟨n, hn⟩ : ∃ n, s.vm.classes.size = n + 1 + 1 := ⟨s.vm.classes.size - 2, by omega⟩
    rw [hn]
    exact sub_step f2 f4 (sub_step e2 e4 sub_self)
theorem xN_push {cA : Nat → ClassId} {r : Nat → Nat} {u : Nat → Int32} {a : Nat → Nat → Int32} {th : Nat → Option Nat} {LP : List Nat} {tf : Nat → va_E} {q : Nat} {e : va_E} (h : q ∉ LP) : xN cA r (u, a, th, LP, tf) ++ [(q, e)] = xN cA r (u, a, th, LP ++ [q], va_up tf q e) := by
  show (WN cA r u a th ++ va_pl LP tf) ++ [(q, e)] = WN cA r u a th ++ va_pl (LP ++ [q]) (va_up tf q e)
  rw [List.append_assoc, va_pl_push h]
theorem xN_fresh {A : Nat → Prop} {cA : Nat → ClassId} {r : Nat → Nat} {u : Nat → Int32} {a : Nat → Nat → Int32} {th : Nat → Option Nat} {LP : List Nat} {tf : Nat → va_E} {q : Nat} {e : va_E} (hD : va_D A (xN cA r (u, a, th, LP, tf) ++ [(q, e)])) : q ∉ LP := va_pl_fresh2 (X := WN cA r u a th) hD
section
variable {p : Program} {l : Launch} {e : Env} {R : Room} {s : State} {m : MethodId} {args : Array Value} {below : List Frame} {meth : Method} {c : Code} {H : Heap} {locs : List Loc} {cells slots : Nat} {Q : State → Prop}
variable {y : MethodName} {bytes cc : ByteArray} {maxL nL mc ms n index pc : Nat} {ret : Option FieldType} {ws : List Cond} {rm : Room} {Ts : List Cond} {own C : String} {b : Addr} {As rest st0 : List Value} {ls : Array Slot}
variable {D : va_G} {cl : List vw_C} {A0 : Nat → Prop} {tys : List (ClassId × FieldType)} {H0 : Heap} {E : eT} {σ : Type} {Wd : σ → va_W} {x : σ}
theorem wIv {post : σ → Prop} (hE : eS E) (S : CallFix p m c cc nL s args Ts own)
    (hM : Met l y ws rm (va_Pc (.ref b :: As) (wA D cl tys E Wd x H.size)) (va_Qv post (wB D cl tys Wd (va_A (Wd x) H.size)) (va_A (Wd x) H.size)) mc ms (va_A (Wd x) H.size))
    (cw : CallB R s args own index y bytes maxL none ws rm mc ms n ∧ y.name = "<init>" ∧ (Cond.instanceMethod y).before args s = true)
    (hK : va_K D cl tys s) (hP : va_P D cl (Wd x) H) (hD : va_D A0 (Wd x)) (hS : va_S A0 s.heap H locs) (hA : ∀ q, s.heap.size ≤ q → A0 q) (hEs : E A0 s s.heap)
    (hn : As.length = n) (hsize : ls.size = nL) (hst : st0 = As.reverse ++ .ref b :: rest) (hW : (rest.map fun v => v.category).sum ≤ 8) (hdg : decode cc pc = .ok (.invokespecial index, 3)) (hf : cells + mc ≤ R.cells ∧ slots + ms ≤ R.slots)
    (kk : ∀ (z : σ) (H1 : Heap) (locs1 : List Loc), post z → va_P D cl (Wd z) H1 → va_D A0 (Wd z) → va_S A0 s.heap H1 locs1 → W p l e R s m args below meth c H1 locs1 (cells + mc) (slots + ms) Q (F0 m (pc + 3) ls rest)) :
    W p l e R s m args below meth c H locs cells slots Q (F0 m pc ls st0) := by
  have hF := wF hD hS hA
  refine va_callv (va_runI (As := As) (rest := rest) S hM cw ⟨wA_blind hE, wPre hE hK hP hD hS hA hEs⟩ rfl hn hsize hst (lv_room hW) hdg hf) hS (fun q _ h => hF q h) hF (fun z t H1 locs1 ht hvm hw hB hz1 hk1 hS1 => ?_)
  obtain ⟨hP1, hK1, hD1⟩ := hB
  rw [ht] at hP1
  exact kk z H1 locs1 hw hP1 (hD1.weaken (fun _ _ _ h => hF _ h)) hS1
theorem wNewI {ws : va_W} {cA : Nat → ClassId} (hx : p.tables.exec = Jvm.exec) (hb : c.code = cc) (harr : (Cond.arrayClass .int).before args s = true) (hK : va_K D cl (tyA cA) s) (hP : va_P D cl ws H) (hD : va_D A0 ws) (hS : va_S A0 s.heap H locs) (hA : ∀ q, s.heap.size ≤ q → A0 q) (N' : Nat) (hN : N' < 100000) (hcells : cells + 1 ≤ R.cells) (hslots : slots + N' ≤ R.slots) (hdg : decode cc pc = .ok (.newarray .int, 2))
    (kk : ∀ (q : Nat) (H1 : Heap), va_P D cl (ws ++ [(q, .inl (cA 0, N', .inl (fun _ => 0)))]) H1 → va_D A0 (ws ++ [(q, .inl (cA 0, N', .inl (fun _ => 0)))]) → va_S A0 s.heap H1 locs → W p l e R s m args below meth c H1 locs (cells + 1) (slots + N') Q (F0 m (pc + 2) ls (.ref q :: rest))) : W p l e R s m args below meth c H locs cells slots Q (F0 m pc ls (.int (nI N') :: rest)) := by
  refine va_newa (atype := .int) (ty := .int) (a0 := (N', .inl (fun _ => 0))) hx hb harr rfl hK hP hD hS hA (fun _ => rfl) (nI_pos (by omega)) (nI_clamp (by omega)) (show N' * 4 ≤ 536870912 by omega) hcells hslots hdg (fun q cA' H1 hK1 hP1 hD1 hS1 => ?_)
  have e9 := ty_one hK1 0 (c := cA 0) rfl
  rw [e9] at hP1 hD1
  exact kk q H1 hP1 hD1 hS1
theorem wNewZ {ws : va_W} {cA : Nat → ClassId} (hx : p.tables.exec = Jvm.exec) (hb : c.code = cc) (harr : (Cond.arrayClass .boolean).before args s = true) (hK : va_K D cl (tyA cA) s) (hP : va_P D cl ws H) (hD : va_D A0 ws) (hS : va_S A0 s.heap H locs) (hA : ∀ q, s.heap.size ≤ q → A0 q) (N' : Nat) (hN : N' < 100000) (hcells : cells + 1 ≤ R.cells) (hslots : slots + N' ≤ R.slots) (hdg : decode cc pc = .ok (.newarray .boolean, 2))
    (kk : ∀ (q : Nat) (H1 : Heap), va_P D cl (ws ++ [(q, .inl (cA 1, N', .inl (fun _ => 0)))]) H1 → va_D A0 (ws ++ [(q, .inl (cA 1, N', .inl (fun _ => 0)))]) → va_S A0 s.heap H1 locs → W p l e R s m args below meth c H1 locs (cells + 1) (slots + N') Q (F0 m (pc + 2) ls (.ref q :: rest))) : W p l e R s m args below meth c H locs cells slots Q (F0 m pc ls (.int (nI N') :: rest)) := by
  refine va_newa (atype := .boolean) (ty := .boolean) (a0 := (N', .inl (fun _ => 0))) hx hb harr rfl hK hP hD hS hA (fun _ => rfl) (nI_pos (by omega)) (nI_clamp (by omega)) (show N' * 1 ≤ 536870912 by omega) hcells hslots hdg (fun q cA' H1 hK1 hP1 hD1 hS1 => ?_)
  have e9 := ty_one hK1 1 (c := cA 1) rfl
  rw [e9] at hP1 hD1
  exact kk q H1 hP1 hD1 hS1
theorem wNewQ {ws : va_W} {cA : Nat → ClassId} {Cn : String} {t0 : Nat} {cT : ClassId} (hx : p.tables.exec = Jvm.exec) (hb : c.code = cc) (hown : s.vm.findClass own = some m.cls) (hcl : (Cond.classLink own index Cn).before args s = true) (hov : va_AO Cn s) (ht : (tyA cA)[t0]? = some (cT, .object Cn)) (hK : va_K D cl (tyA cA) s) (hP : va_P D cl ws H) (hD : va_D A0 ws) (hS : va_S A0 s.heap H locs) (hA : ∀ q, s.heap.size ≤ q → A0 q) (N' : Nat) (hN : N' < 100000) (hcells : cells + 1 ≤ R.cells) (hslots : slots + N' ≤ R.slots) (hdg : decode cc pc = .ok (.anewarray index, 3))
    (kk : ∀ (q : Nat) (H1 : Heap), va_P D cl (ws ++ [(q, .inl (cT, N', .inr (.inr (.inr (.inr (fun _ => none))))))]) H1 → va_D A0 (ws ++ [(q, .inl (cT, N', .inr (.inr (.inr (.inr (fun _ => none))))))]) → va_S A0 s.heap H1 locs → W p l e R s m args below meth c H1 locs (cells + 1) (slots + N') Q (F0 m (pc + 3) ls (.ref q :: rest))) : W p l e R s m args below meth c H locs cells slots Q (F0 m pc ls (.int (nI N') :: rest)) := by
  refine va_newq hx hb hown hcl hov hK hP hD hS hA (nI_pos (by omega)) (nI_clamp (by omega)) (show N' * 4 ≤ 536870912 by omega) hcells hslots hdg (fun q cA' H1 hK1 hP1 hD1 hS1 => ?_)
  have e9 := ty_one hK1 t0 ht
  rw [e9] at hP1 hD1
  exact kk q H1 hP1 hD1 hS1
/-- a thing is put into the row of things -/
theorem wAstT {cA : Nat → ClassId} {r : Nat → Nat} {u : Nat → Int32} {a : Nat → Nat → Int32} {th : Nat → Option Nat} {LP : List Nat} {tf : Nat → va_E} {q : Nat} {Cn : String} (hx : p.tables.exec = Jvm.exec) (hb : c.code = cc) (hK : va_K D cl (tyA cA) s) (hP : va_P D cl (xN cA r (u, a, th, LP, tf)) H) (hD : va_D A0 (xN cA r (u, a, th, LP, tf))) (hS : va_S A0 H0 H locs) (hr : ∃ cellV : Cell, H[q]? = some cellV ∧ cellV.vm.isStatics = false ∧ s.vm.findClass Cn = some cellV.cls) (hasg : ∀ comp c0 : ClassId, s.vm.findClass "OneNail$Thing" = some comp → s.vm.findClass Cn = some c0 → s.vm.assignable c0 comp = true) {j : Nat} (hj : j < 6) (hdg : decode cc pc = .ok (.aastore, 1))
    (kk : ∀ (H1 : Heap) (locs1 : List Loc), va_P D cl (xN cA r (u, a, va_up th j (some q), LP, tf)) H1 → va_D A0 (xN cA r (u, a, va_up th j (some q), LP, tf)) → va_S A0 H0 H1 locs1 → W p l e R s m args below meth c H1 locs1 cells slots Q (F0 m (pc + 1) ls rest)) : W p l e R s m args below meth c H locs cells slots Q (F0 m pc ls (.ref q :: .int (nI j) :: .ref (r 12) :: rest)) := by
  refine vb_astq hx hb hK hP hD hS 11 3 (n := 6) (f := th) rfl rfl hr hasg (vp_in_nI hj (by decide)) hdg (fun H1 locs1 hP1 hD1 hS1 => ?_)
  rw [nI_clamp (by omega)] at hP1 hD1
  exact kk H1 locs1 hP1 hD1 hS1
end
section
variable {p : Program} {l : Launch} {e : Env} {R : Room} {s : State} {m : MethodId} {args : Array Value} {below : List Frame} {meth : Method} {c : Code} {H : Heap} {locs : List Loc} {Q : State → Prop} {pc : Nat} {ls : Array Slot} {st : List Value}
theorem wLoopC {τ : Type} (ce sl : τ → Nat) (I : τ → Heap → List Loc → Array Slot → Prop) (μ : τ → Nat) (z0 : τ) (h0 : I z0 H locs ls)
    (step : ∀ (z : τ) (H : Heap) (locs : List Loc) (ls : Array Slot), I z H locs ls → (∀ (z' : τ) (H' : Heap) (locs' : List Loc) (ls' : Array Slot), μ z' < μ z → I z' H' locs' ls' → W p l e R s m args below meth c H' locs' (ce z') (sl z') Q (F0 m pc ls' st)) → W p l e R s m args below meth c H locs (ce z) (sl z) Q (F0 m pc ls st)) :
    W p l e R s m args below meth c H locs (ce z0) (sl z0) Q (F0 m pc ls st) := by
  have key : ∀ (n : Nat) (z : τ) (H : Heap) (locs : List Loc) (ls : Array Slot), μ z < n → I z H locs ls → W p l e R s m args below meth c H locs (ce z) (sl z) Q (F0 m pc ls st) := by
    intro n
    induction n with
    | zero => intro z H locs ls h; exact absurd h (Nat.not_lt_zero _)
    | succ n ih => intro z H locs ls h hI; exact step z H locs ls hI (fun z' H' locs' ls' h' hI' => ih z' H' locs' ls' (Nat.lt_of_lt_of_le h' (Nat.le_of_lt_succ h)) hI')
  exact key (μ z0 + 1) z0 H locs ls (Nat.lt_succ_self _) h0
end
