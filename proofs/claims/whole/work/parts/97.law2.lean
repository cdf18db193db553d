set_option maxHeartbeats 4000000 in
set_option maxRecDepth 100000 in
theorem law_street {p : Program} {l : Launch} {e : Env} {s : State} {m : MethodId} {below : List Frame} {meth : Method} {c : Code} {H : Heap} {locs : List Loc} {cells slots : Nat} {Q : State → Prop} {ls : Array Slot} {D : va_G} {cA : Nat → ClassId} {rN rM : Nat → Nat} {b L i tO : Nat} {xs : Nat → Int32} (hx : p.tables.exec = Jvm.exec) (hb : c.code = code) (hml : c.maxLocals = 4) (hown : s.vm.findClass RL = some m.cls) (hts : ∀ w ∈ wsL_law, w.before #[Value.ref b] s = true) (hX0 : va_X b L xs s s.heap) (hbl : b < s.heap.size) (hL : L ≤ 3072) (hK : va_K D vwCl (tyA cA) s) (hE : eO tO (fun q : Nat => s.heap.size ≤ q) s s.heap) (hi : i + 6 ≤ L) (hc6 : cells + 6 ≤ 600000) (hs30 : slots + 30 ≤ 7302250) (hI : lI D cA rN rM (fun q : Nat => s.heap.size ≤ q) s.heap H locs) (hl : lv_has ls 4 [(3, .int (nI i)), (0, .ref b), (1, .ref (rN 0)), (2, .ref (rM 0))])
    (kk : ∀ (H1 : Heap) (locs1 : List Loc) (ls1 : Array Slot), lI D cA rN rM (fun q : Nat => s.heap.size ≤ q) s.heap H1 locs1 → lv_has ls1 4 [(3, .int (nI i)), (0, .ref b), (1, .ref (rN 0)), (2, .ref (rM 0))] → W p l e room_1 s m #[Value.ref b] below meth c H1 locs1 (cells + 6) (slots + 30) Q (F0 m 1104 ls1 [])) : W p l e room_1 s m #[Value.ref b] below meth c H locs cells slots Q (F0 m 156 ls []) := by
  obtain ⟨u, a, th, LP, tf, um, am, g, T, R, so, ln, ce, f, tr, hCI, hMI, hPN, hDN, hPM, hDM, hX, hS⟩ := hI
  have hA : ∀ q : Nat, s.heap.size ≤ q → (fun q : Nat => s.heap.size ≤ q) q := fun _ h => h
  have hbA : ¬ (fun q : Nat => s.heap.size ≤ q) b := Nat.not_le.mpr hbl
  refine lv_aload_n hx hb dL_law_156 rfl (lv_at hl 2 rfl) ?_
  refine lv_aload_n hx hb dL_law_157 rfl (lv_at hl 1 rfl) ?_
  refine lv_iload_n hx hb dL_law_158 rfl (lv_at hl 0 rfl) ?_
  refine lv_iconst (v := (nI 1)) hx hb dL_law_159 rfl ?_
  refine rn_iadd (x := i) (y := 1) hx hb dL_law_160 ?_
  refine wSld hx hb hX0 hbl hbA hS (j := i + 1) (by omega) hL dL_law_161 ?_
  refine lv_aload_n hx hb dL_law_162 rfl (lv_at hl 1 rfl) ?_
  refine lv_iload_n hx hb dL_law_163 rfl (lv_at hl 0 rfl) ?_
  refine lv_iconst (v := (nI 2)) hx hb dL_law_164 rfl ?_
  refine rn_iadd (x := i) (y := 2) hx hb dL_law_165 ?_
  refine wSld hx hb hX0 hbl hbA hS (j := i + 2) (by omega) hL dL_law_166 ?_
  refine lv_aload_n hx hb dL_law_167 rfl (lv_at hl 1 rfl) ?_
  refine lv_iload_n hx hb dL_law_168 rfl (lv_at hl 0 rfl) ?_
  refine lv_iconst (v := (nI 3)) hx hb dL_law_169 rfl ?_
  refine rn_iadd (x := i) (y := 3) hx hb dL_law_170 ?_
  refine wSld hx hb hX0 hbl hbA hS (j := i + 3) (by omega) hL dL_law_171 ?_
  refine lv_aload_n hx hb dL_law_172 rfl (lv_at hl 1 rfl) ?_
  refine lv_iload_n hx hb dL_law_173 rfl (lv_at hl 0 rfl) ?_
  refine lv_iconst (v := (nI 4)) hx hb dL_law_174 rfl ?_
  refine rn_iadd (x := i) (y := 4) hx hb dL_law_175 ?_
  refine wSld hx hb hX0 hbl hbA hS (j := i + 4) (by omega) hL dL_law_176 ?_
  refine w2Vi (eO_S tO) (As := [.int (xs (i + 1)), .int (xs (i + 2)), .int (xs (i + 3)), .int (xs (i + 4))]) (rest := []) ⟨hx, hb, hml, hown, hts⟩ (kX9_street l D cA rN _ u a th LP tf tO g T R so ln ce f tr (xs (i + 1)) (xs (i + 2)) (xs (i + 3)) (xs (i + 4)) hCI) (cwV 4 hts gL_law_X9_street rfl rfl rfl (by decide +kernel) ⟨Nat.le_of_ble_eq_true rfl, Nat.le_of_ble_eq_true rfl⟩) (va_recv hK hPN (ci := 9) (q0 := 0) rfl rfl) hK hPN hDN hPM hX hS hA hE rfl hl.1 rfl (Nat.le_of_ble_eq_true rfl) dL_law_177 ⟨hc6, hs30⟩ (fun rv_1 z_1 H locs hw_1 hPN hDN hPM hX hS => ?_)
  obtain ⟨u1, a1, th1, LP1, tf1⟩ := z_1
  obtain ⟨rfl, hCI1⟩ := hw_1
  refine lv_aload_n hx hb dL_law_180 rfl (lv_at hl 3 rfl) ?_
  refine lv_aload_n hx hb dL_law_181 rfl (lv_at hl 1 rfl) ?_
  refine lv_iload_n hx hb dL_law_182 rfl (lv_at hl 0 rfl) ?_
  refine lv_iconst (v := (nI 1)) hx hb dL_law_183 rfl ?_
  refine rn_iadd (x := i) (y := 1) hx hb dL_law_184 ?_
  refine wSld hx hb hX0 hbl hbA hS (j := i + 1) (by omega) hL dL_law_185 ?_
  refine lv_aload_n hx hb dL_law_186 rfl (lv_at hl 1 rfl) ?_
  refine lv_iload_n hx hb dL_law_187 rfl (lv_at hl 0 rfl) ?_
  refine lv_iconst (v := (nI 2)) hx hb dL_law_188 rfl ?_
  refine rn_iadd (x := i) (y := 2) hx hb dL_law_189 ?_
  refine wSld hx hb hX0 hbl hbA hS (j := i + 2) (by omega) hL dL_law_190 ?_
  refine lv_aload_n hx hb dL_law_191 rfl (lv_at hl 1 rfl) ?_
  refine lv_iload_n hx hb dL_law_192 rfl (lv_at hl 0 rfl) ?_
  refine lv_iconst (v := (nI 3)) hx hb dL_law_193 rfl ?_
  refine rn_iadd (x := i) (y := 3) hx hb dL_law_194 ?_
  refine wSld hx hb hX0 hbl hbA hS (j := i + 3) (by omega) hL dL_law_195 ?_
  refine lv_aload_n hx hb dL_law_196 rfl (lv_at hl 1 rfl) ?_
  refine lv_iload_n hx hb dL_law_197 rfl (lv_at hl 0 rfl) ?_
  refine lv_iconst (v := (nI 4)) hx hb dL_law_198 rfl ?_
  refine rn_iadd (x := i) (y := 4) hx hb dL_law_199 ?_
  refine wSld hx hb hX0 hbl hbA hS (j := i + 4) (by omega) hL dL_law_200 ?_
  refine w2Vi e0_S (As := [.int (xs (i + 1)), .int (xs (i + 2)), .int (xs (i + 3)), .int (xs (i + 4))]) (rest := [.int (aStreet so ln ce (xs (i + 1)) (xs (i + 2)) (xs (i + 3)) (xs (i + 4)))]) ⟨hx, hb, hml, hown, hts⟩ (kX10_street l D cA rM _ um am g T R so ln ce f tr (xs (i + 1)) (xs (i + 2)) (xs (i + 3)) (xs (i + 4)) hMI) (cwV 4 hts gL_law_X10_street rfl rfl rfl (by decide +kernel) ⟨Nat.le_of_ble_eq_true rfl, Nat.le_of_ble_eq_true rfl⟩) (va_recv hK hPM (ci := 10) (q0 := 0) rfl rfl) hK hPM hDM hPN (fun i j p q hi hj e9 => hX j i q p hj hi e9.symm) hS hA trivial rfl hl.1 rfl (Nat.le_of_ble_eq_true rfl) dL_law_201 ⟨by show cells + 6 + 0 ≤ 600000; omega, by show slots + 30 + 0 ≤ 7302250; omega⟩ (fun rv_2 z_2 H locs hw_2 hPM hDM hPN hX2 hS => ?_)
  obtain ⟨um1, am1⟩ := z_2
  obtain ⟨rfl, hMI1⟩ := hw_2
  refine lv_icmp_eq (tgt := 1104) hx hb dL_law_204 (by decide) (fun _ => ?_) (fun c9 => absurd rfl c9)
  refine W.widen (k := cells + 6) (n := slots + 30) (by omega) (by omega) ?_
  exact kk _ _ _ ⟨_, _, _, _, _, _, _, _, _, _, _, _, _, _, _, hCI1, hMI1, hPN, hDN, hPM, hDM, fun i j p q hi hj e9 => hX2 j i q p hj hi e9.symm, hS⟩ hl

set_option maxHeartbeats 4000000 in
set_option maxRecDepth 100000 in
theorem law_ofThing {p : Program} {l : Launch} {e : Env} {s : State} {m : MethodId} {below : List Frame} {meth : Method} {c : Code} {H : Heap} {locs : List Loc} {cells slots : Nat} {Q : State → Prop} {ls : Array Slot} {D : va_G} {cA : Nat → ClassId} {rN rM : Nat → Nat} {b L i tO : Nat} {xs : Nat → Int32} (hx : p.tables.exec = Jvm.exec) (hb : c.code = code) (hml : c.maxLocals = 4) (hown : s.vm.findClass RL = some m.cls) (hts : ∀ w ∈ wsL_law, w.before #[Value.ref b] s = true) (hX0 : va_X b L xs s s.heap) (hbl : b < s.heap.size) (hL : L ≤ 3072) (hK : va_K D vwCl (tyA cA) s) (hE : eO tO (fun q : Nat => s.heap.size ≤ q) s s.heap) (hi : i + 6 ≤ L) (hc6 : cells + 6 ≤ 600000) (hs30 : slots + 30 ≤ 7302250) (hI : lI D cA rN rM (fun q : Nat => s.heap.size ≤ q) s.heap H locs) (hl : lv_has ls 4 [(3, .int (nI i)), (0, .ref b), (1, .ref (rN 0)), (2, .ref (rM 0))])
    (kk : ∀ (H1 : Heap) (locs1 : List Loc) (ls1 : Array Slot), lI D cA rN rM (fun q : Nat => s.heap.size ≤ q) s.heap H1 locs1 → lv_has ls1 4 [(3, .int (nI i)), (0, .ref b), (1, .ref (rN 0)), (2, .ref (rM 0))] → W p l e room_1 s m #[Value.ref b] below meth c H1 locs1 (cells + 6) (slots + 30) Q (F0 m 1104 ls1 [])) : W p l e room_1 s m #[Value.ref b] below meth c H locs cells slots Q (F0 m 209 ls []) := by
  obtain ⟨u, a, th, LP, tf, um, am, g, T, R, so, ln, ce, f, tr, hCI, hMI, hPN, hDN, hPM, hDM, hX, hS⟩ := hI
  have hA : ∀ q : Nat, s.heap.size ≤ q → (fun q : Nat => s.heap.size ≤ q) q := fun _ h => h
  have hbA : ¬ (fun q : Nat => s.heap.size ≤ q) b := Nat.not_le.mpr hbl
  refine lv_aload_n hx hb dL_law_209 rfl (lv_at hl 2 rfl) ?_
  refine lv_aload_n hx hb dL_law_210 rfl (lv_at hl 1 rfl) ?_
  refine lv_iload_n hx hb dL_law_211 rfl (lv_at hl 0 rfl) ?_
  refine lv_iconst (v := (nI 1)) hx hb dL_law_212 rfl ?_
  refine rn_iadd (x := i) (y := 1) hx hb dL_law_213 ?_
  refine wSld hx hb hX0 hbl hbA hS (j := i + 1) (by omega) hL dL_law_214 ?_
  refine lv_aload_n hx hb dL_law_215 rfl (lv_at hl 1 rfl) ?_
  refine lv_iload_n hx hb dL_law_216 rfl (lv_at hl 0 rfl) ?_
  refine lv_iconst (v := (nI 2)) hx hb dL_law_217 rfl ?_
  refine rn_iadd (x := i) (y := 2) hx hb dL_law_218 ?_
  refine wSld hx hb hX0 hbl hbA hS (j := i + 2) (by omega) hL dL_law_219 ?_
  refine w2Vi (eO_S tO) (As := [.int (xs (i + 1)), .int (xs (i + 2))]) (rest := []) ⟨hx, hb, hml, hown, hts⟩ (kX9_ofThing l D cA rN _ u a th LP tf tO g T R so ln ce f tr (xs (i + 1)) (xs (i + 2)) hCI) (cwV 2 hts gL_law_X9_ofThing rfl rfl rfl (by decide +kernel) ⟨Nat.le_of_ble_eq_true rfl, Nat.le_of_ble_eq_true rfl⟩) (va_recv hK hPN (ci := 9) (q0 := 0) rfl rfl) hK hPN hDN hPM hX hS hA hE rfl hl.1 rfl (Nat.le_of_ble_eq_true rfl) dL_law_220 ⟨by show cells + 0 ≤ 600000; omega, by show slots + 0 ≤ 7302250; omega⟩ (fun rv_1 z_1 H locs hw_1 hPN hDN hPM hX hS => ?_)
  obtain ⟨u1, a1, th1, LP1, tf1⟩ := z_1
  obtain ⟨rfl, hCI1⟩ := hw_1
  refine lv_aload_n hx hb dL_law_223 rfl (lv_at hl 3 rfl) ?_
  refine lv_aload_n hx hb dL_law_224 rfl (lv_at hl 1 rfl) ?_
  refine lv_iload_n hx hb dL_law_225 rfl (lv_at hl 0 rfl) ?_
  refine lv_iconst (v := (nI 1)) hx hb dL_law_226 rfl ?_
  refine rn_iadd (x := i) (y := 1) hx hb dL_law_227 ?_
  refine wSld hx hb hX0 hbl hbA hS (j := i + 1) (by omega) hL dL_law_228 ?_
  refine lv_aload_n hx hb dL_law_229 rfl (lv_at hl 1 rfl) ?_
  refine lv_iload_n hx hb dL_law_230 rfl (lv_at hl 0 rfl) ?_
  refine lv_iconst (v := (nI 2)) hx hb dL_law_231 rfl ?_
  refine rn_iadd (x := i) (y := 2) hx hb dL_law_232 ?_
  refine wSld hx hb hX0 hbl hbA hS (j := i + 2) (by omega) hL dL_law_233 ?_
  refine w2Vi e0_S (As := [.int (xs (i + 1)), .int (xs (i + 2))]) (rest := [.int (aOf g T (xs (i + 1)) (xs (i + 2)))]) ⟨hx, hb, hml, hown, hts⟩ (kX10_ofThing l D cA rM _ um am g T R so ln ce f tr (xs (i + 1)) (xs (i + 2)) hMI) (cwV 2 hts gL_law_X10_ofThing rfl rfl rfl (by decide +kernel) ⟨Nat.le_of_ble_eq_true rfl, Nat.le_of_ble_eq_true rfl⟩) (va_recv hK hPM (ci := 10) (q0 := 0) rfl rfl) hK hPM hDM hPN (fun i j p q hi hj e9 => hX j i q p hj hi e9.symm) hS hA trivial rfl hl.1 rfl (Nat.le_of_ble_eq_true rfl) dL_law_234 ⟨by show cells + 0 + 0 ≤ 600000; omega, by show slots + 0 + 0 ≤ 7302250; omega⟩ (fun rv_2 z_2 H locs hw_2 hPM hDM hPN hX2 hS => ?_)
  obtain ⟨um1, am1⟩ := z_2
  obtain ⟨rfl, hMI1⟩ := hw_2
  refine lv_icmp_eq (tgt := 1104) hx hb dL_law_237 (by decide) (fun _ => ?_) (fun c9 => absurd rfl c9)
  refine W.widen (k := cells + 6) (n := slots + 30) (by omega) (by omega) ?_
  exact kk _ _ _ ⟨_, _, _, _, _, _, _, _, _, _, _, _, _, _, _, hCI1, hMI1, hPN, hDN, hPM, hDM, fun i j p q hi hj e9 => hX2 j i q p hj hi e9.symm, hS⟩ hl

set_option maxHeartbeats 4000000 in
set_option maxRecDepth 100000 in
theorem law_smithy {p : Program} {l : Launch} {e : Env} {s : State} {m : MethodId} {below : List Frame} {meth : Method} {c : Code} {H : Heap} {locs : List Loc} {cells slots : Nat} {Q : State → Prop} {ls : Array Slot} {D : va_G} {cA : Nat → ClassId} {rN rM : Nat → Nat} {b L i tO : Nat} {xs : Nat → Int32} (hx : p.tables.exec = Jvm.exec) (hb : c.code = code) (hml : c.maxLocals = 4) (hown : s.vm.findClass RL = some m.cls) (hts : ∀ w ∈ wsL_law, w.before #[Value.ref b] s = true) (hX0 : va_X b L xs s s.heap) (hbl : b < s.heap.size) (hL : L ≤ 3072) (hK : va_K D vwCl (tyA cA) s) (hE : eO tO (fun q : Nat => s.heap.size ≤ q) s s.heap) (hi : i + 6 ≤ L) (hc6 : cells + 6 ≤ 600000) (hs30 : slots + 30 ≤ 7302250) (hI : lI D cA rN rM (fun q : Nat => s.heap.size ≤ q) s.heap H locs) (hl : lv_has ls 4 [(3, .int (nI i)), (0, .ref b), (1, .ref (rN 0)), (2, .ref (rM 0))])
    (kk : ∀ (H1 : Heap) (locs1 : List Loc) (ls1 : Array Slot), lI D cA rN rM (fun q : Nat => s.heap.size ≤ q) s.heap H1 locs1 → lv_has ls1 4 [(3, .int (nI i)), (0, .ref b), (1, .ref (rN 0)), (2, .ref (rM 0))] → W p l e room_1 s m #[Value.ref b] below meth c H1 locs1 (cells + 6) (slots + 30) Q (F0 m 1104 ls1 [])) : W p l e room_1 s m #[Value.ref b] below meth c H locs cells slots Q (F0 m 242 ls []) := by
  obtain ⟨u, a, th, LP, tf, um, am, g, T, R, so, ln, ce, f, tr, hCI, hMI, hPN, hDN, hPM, hDM, hX, hS⟩ := hI
  have hA : ∀ q : Nat, s.heap.size ≤ q → (fun q : Nat => s.heap.size ≤ q) q := fun _ h => h
  have hbA : ¬ (fun q : Nat => s.heap.size ≤ q) b := Nat.not_le.mpr hbl
  refine lv_aload_n hx hb dL_law_242 rfl (lv_at hl 2 rfl) ?_
  refine lv_aload_n hx hb dL_law_243 rfl (lv_at hl 1 rfl) ?_
  refine lv_iload_n hx hb dL_law_244 rfl (lv_at hl 0 rfl) ?_
  refine lv_iconst (v := (nI 1)) hx hb dL_law_245 rfl ?_
  refine rn_iadd (x := i) (y := 1) hx hb dL_law_246 ?_
  refine wSld hx hb hX0 hbl hbA hS (j := i + 1) (by omega) hL dL_law_247 ?_
  refine w2Vi (eO_S tO) (As := [.int (xs (i + 1))]) (rest := []) ⟨hx, hb, hml, hown, hts⟩ (kX9_smithy l D cA rN _ u a th LP tf tO g T R so ln ce f tr (xs (i + 1)) hCI) (cwV 1 hts gL_law_X9_smithy rfl rfl rfl (by decide +kernel) ⟨Nat.le_of_ble_eq_true rfl, Nat.le_of_ble_eq_true rfl⟩) (va_recv hK hPN (ci := 9) (q0 := 0) rfl rfl) hK hPN hDN hPM hX hS hA hE rfl hl.1 rfl (Nat.le_of_ble_eq_true rfl) dL_law_248 ⟨by show cells + 0 ≤ 600000; omega, by show slots + 0 ≤ 7302250; omega⟩ (fun rv_1 z_1 H locs hw_1 hPN hDN hPM hX hS => ?_)
  obtain ⟨u1, a1, th1, LP1, tf1⟩ := z_1
  obtain ⟨rfl, hCI1⟩ := hw_1
  refine lv_aload_n hx hb dL_law_251 rfl (lv_at hl 3 rfl) ?_
  refine lv_aload_n hx hb dL_law_252 rfl (lv_at hl 1 rfl) ?_
  refine lv_iload_n hx hb dL_law_253 rfl (lv_at hl 0 rfl) ?_
  refine lv_iconst (v := (nI 1)) hx hb dL_law_254 rfl ?_
  refine rn_iadd (x := i) (y := 1) hx hb dL_law_255 ?_
  refine wSld hx hb hX0 hbl hbA hS (j := i + 1) (by omega) hL dL_law_256 ?_
  refine w2Vi e0_S (As := [.int (xs (i + 1))]) (rest := [.int (aSmithy g (xs (i + 1)))]) ⟨hx, hb, hml, hown, hts⟩ (kX10_smithy l D cA rM _ um am g T R so ln ce f tr (xs (i + 1)) hMI) (cwV 1 hts gL_law_X10_smithy rfl rfl rfl (by decide +kernel) ⟨Nat.le_of_ble_eq_true rfl, Nat.le_of_ble_eq_true rfl⟩) (va_recv hK hPM (ci := 10) (q0 := 0) rfl rfl) hK hPM hDM hPN (fun i j p q hi hj e9 => hX j i q p hj hi e9.symm) hS hA trivial rfl hl.1 rfl (Nat.le_of_ble_eq_true rfl) dL_law_257 ⟨by show cells + 0 + 0 ≤ 600000; omega, by show slots + 0 + 0 ≤ 7302250; omega⟩ (fun rv_2 z_2 H locs hw_2 hPM hDM hPN hX2 hS => ?_)
  obtain ⟨um1, am1⟩ := z_2
  obtain ⟨rfl, hMI1⟩ := hw_2
  refine lv_icmp_eq (tgt := 1104) hx hb dL_law_260 (by decide) (fun _ => ?_) (fun c9 => absurd rfl c9)
  refine W.widen (k := cells + 6) (n := slots + 30) (by omega) (by omega) ?_
  exact kk _ _ _ ⟨_, _, _, _, _, _, _, _, _, _, _, _, _, _, _, hCI1, hMI1, hPN, hDN, hPM, hDM, fun i j p q hi hj e9 => hX2 j i q p hj hi e9.symm, hS⟩ hl

set_option maxHeartbeats 4000000 in
set_option maxRecDepth 100000 in
theorem law_rust {p : Program} {l : Launch} {e : Env} {s : State} {m : MethodId} {below : List Frame} {meth : Method} {c : Code} {H : Heap} {locs : List Loc} {cells slots : Nat} {Q : State → Prop} {ls : Array Slot} {D : va_G} {cA : Nat → ClassId} {rN rM : Nat → Nat} {b L i tO : Nat} {xs : Nat → Int32} (hx : p.tables.exec = Jvm.exec) (hb : c.code = code) (hml : c.maxLocals = 4) (hown : s.vm.findClass RL = some m.cls) (hts : ∀ w ∈ wsL_law, w.before #[Value.ref b] s = true) (hX0 : va_X b L xs s s.heap) (hbl : b < s.heap.size) (hL : L ≤ 3072) (hK : va_K D vwCl (tyA cA) s) (hE : eO tO (fun q : Nat => s.heap.size ≤ q) s s.heap) (hi : i + 6 ≤ L) (hc6 : cells + 6 ≤ 600000) (hs30 : slots + 30 ≤ 7302250) (hI : lI D cA rN rM (fun q : Nat => s.heap.size ≤ q) s.heap H locs) (hl : lv_has ls 4 [(3, .int (nI i)), (0, .ref b), (1, .ref (rN 0)), (2, .ref (rM 0))])
    (kk : ∀ (H1 : Heap) (locs1 : List Loc) (ls1 : Array Slot), lI D cA rN rM (fun q : Nat => s.heap.size ≤ q) s.heap H1 locs1 → lv_has ls1 4 [(3, .int (nI i)), (0, .ref b), (1, .ref (rN 0)), (2, .ref (rM 0))] → W p l e room_1 s m #[Value.ref b] below meth c H1 locs1 (cells + 6) (slots + 30) Q (F0 m 1104 ls1 [])) : W p l e room_1 s m #[Value.ref b] below meth c H locs cells slots Q (F0 m 265 ls []) := by
  obtain ⟨u, a, th, LP, tf, um, am, g, T, R, so, ln, ce, f, tr, hCI, hMI, hPN, hDN, hPM, hDM, hX, hS⟩ := hI
  have hA : ∀ q : Nat, s.heap.size ≤ q → (fun q : Nat => s.heap.size ≤ q) q := fun _ h => h
  have hbA : ¬ (fun q : Nat => s.heap.size ≤ q) b := Nat.not_le.mpr hbl
  refine lv_aload_n hx hb dL_law_265 rfl (lv_at hl 2 rfl) ?_
  refine lv_aload_n hx hb dL_law_266 rfl (lv_at hl 1 rfl) ?_
  refine lv_iload_n hx hb dL_law_267 rfl (lv_at hl 0 rfl) ?_
  refine lv_iconst (v := (nI 1)) hx hb dL_law_268 rfl ?_
  refine rn_iadd (x := i) (y := 1) hx hb dL_law_269 ?_
  refine wSld hx hb hX0 hbl hbA hS (j := i + 1) (by omega) hL dL_law_270 ?_
  refine w2Vi (eO_S tO) (As := [.int (xs (i + 1))]) (rest := []) ⟨hx, hb, hml, hown, hts⟩ (kX9_rust l D cA rN _ u a th LP tf tO g T R so ln ce f tr (xs (i + 1)) hCI) (cwV 1 hts gL_law_X9_rust rfl rfl rfl (by decide +kernel) ⟨Nat.le_of_ble_eq_true rfl, Nat.le_of_ble_eq_true rfl⟩) (va_recv hK hPN (ci := 9) (q0 := 0) rfl rfl) hK hPN hDN hPM hX hS hA hE rfl hl.1 rfl (Nat.le_of_ble_eq_true rfl) dL_law_271 ⟨by show cells + 0 ≤ 600000; omega, by show slots + 0 ≤ 7302250; omega⟩ (fun rv_1 z_1 H locs hw_1 hPN hDN hPM hX hS => ?_)
  obtain ⟨u1, a1, th1, LP1, tf1⟩ := z_1
  obtain ⟨rfl, hCI1⟩ := hw_1
  refine lv_aload_n hx hb dL_law_274 rfl (lv_at hl 3 rfl) ?_
  refine lv_aload_n hx hb dL_law_275 rfl (lv_at hl 1 rfl) ?_
  refine lv_iload_n hx hb dL_law_276 rfl (lv_at hl 0 rfl) ?_
  refine lv_iconst (v := (nI 1)) hx hb dL_law_277 rfl ?_
  refine rn_iadd (x := i) (y := 1) hx hb dL_law_278 ?_
  refine wSld hx hb hX0 hbl hbA hS (j := i + 1) (by omega) hL dL_law_279 ?_
  refine w2Vi e0_S (As := [.int (xs (i + 1))]) (rest := [.int (aRust g (xs (i + 1)))]) ⟨hx, hb, hml, hown, hts⟩ (kX10_rust l D cA rM _ um am g T R so ln ce f tr (xs (i + 1)) hMI) (cwV 1 hts gL_law_X10_rust rfl rfl rfl (by decide +kernel) ⟨Nat.le_of_ble_eq_true rfl, Nat.le_of_ble_eq_true rfl⟩) (va_recv hK hPM (ci := 10) (q0 := 0) rfl rfl) hK hPM hDM hPN (fun i j p q hi hj e9 => hX j i q p hj hi e9.symm) hS hA trivial rfl hl.1 rfl (Nat.le_of_ble_eq_true rfl) dL_law_280 ⟨by show cells + 0 + 0 ≤ 600000; omega, by show slots + 0 + 0 ≤ 7302250; omega⟩ (fun rv_2 z_2 H locs hw_2 hPM hDM hPN hX2 hS => ?_)
  obtain ⟨um1, am1⟩ := z_2
  obtain ⟨rfl, hMI1⟩ := hw_2
  refine lv_icmp_eq (tgt := 1104) hx hb dL_law_283 (by decide) (fun _ => ?_) (fun c9 => absurd rfl c9)
  refine W.widen (k := cells + 6) (n := slots + 30) (by omega) (by omega) ?_
  exact kk _ _ _ ⟨_, _, _, _, _, _, _, _, _, _, _, _, _, _, _, hCI1, hMI1, hPN, hDN, hPM, hDM, fun i j p q hi hj e9 => hX2 j i q p hj hi e9.symm, hS⟩ hl

set_option maxHeartbeats 4000000 in
set_option maxRecDepth 100000 in
theorem law_harm {p : Program} {l : Launch} {e : Env} {s : State} {m : MethodId} {below : List Frame} {meth : Method} {c : Code} {H : Heap} {locs : List Loc} {cells slots : Nat} {Q : State → Prop} {ls : Array Slot} {D : va_G} {cA : Nat → ClassId} {rN rM : Nat → Nat} {b L i tO : Nat} {xs : Nat → Int32} (hx : p.tables.exec = Jvm.exec) (hb : c.code = code) (hml : c.maxLocals = 4) (hown : s.vm.findClass RL = some m.cls) (hts : ∀ w ∈ wsL_law, w.before #[Value.ref b] s = true) (hX0 : va_X b L xs s s.heap) (hbl : b < s.heap.size) (hL : L ≤ 3072) (hK : va_K D vwCl (tyA cA) s) (hE : eO tO (fun q : Nat => s.heap.size ≤ q) s s.heap) (hi : i + 6 ≤ L) (hc6 : cells + 6 ≤ 600000) (hs30 : slots + 30 ≤ 7302250) (hI : lI D cA rN rM (fun q : Nat => s.heap.size ≤ q) s.heap H locs) (hl : lv_has ls 4 [(3, .int (nI i)), (0, .ref b), (1, .ref (rN 0)), (2, .ref (rM 0))])
    (kk : ∀ (H1 : Heap) (locs1 : List Loc) (ls1 : Array Slot), lI D cA rN rM (fun q : Nat => s.heap.size ≤ q) s.heap H1 locs1 → lv_has ls1 4 [(3, .int (nI i)), (0, .ref b), (1, .ref (rN 0)), (2, .ref (rM 0))] → W p l e room_1 s m #[Value.ref b] below meth c H1 locs1 (cells + 6) (slots + 30) Q (F0 m 1104 ls1 [])) : W p l e room_1 s m #[Value.ref b] below meth c H locs cells slots Q (F0 m 288 ls []) := by
  obtain ⟨u, a, th, LP, tf, um, am, g, T, R, so, ln, ce, f, tr, hCI, hMI, hPN, hDN, hPM, hDM, hX, hS⟩ := hI
  have hA : ∀ q : Nat, s.heap.size ≤ q → (fun q : Nat => s.heap.size ≤ q) q := fun _ h => h
  have hbA : ¬ (fun q : Nat => s.heap.size ≤ q) b := Nat.not_le.mpr hbl
  refine lv_aload_n hx hb dL_law_288 rfl (lv_at hl 2 rfl) ?_
  refine lv_aload_n hx hb dL_law_289 rfl (lv_at hl 1 rfl) ?_
  refine lv_iload_n hx hb dL_law_290 rfl (lv_at hl 0 rfl) ?_
  refine lv_iconst (v := (nI 1)) hx hb dL_law_291 rfl ?_
  refine rn_iadd (x := i) (y := 1) hx hb dL_law_292 ?_
  refine wSld hx hb hX0 hbl hbA hS (j := i + 1) (by omega) hL dL_law_293 ?_
  refine lv_aload_n hx hb dL_law_294 rfl (lv_at hl 1 rfl) ?_
  refine lv_iload_n hx hb dL_law_295 rfl (lv_at hl 0 rfl) ?_
  refine lv_iconst (v := (nI 2)) hx hb dL_law_296 rfl ?_
  refine rn_iadd (x := i) (y := 2) hx hb dL_law_297 ?_
  refine wSld hx hb hX0 hbl hbA hS (j := i + 2) (by omega) hL dL_law_298 ?_
  refine lv_aload_n hx hb dL_law_299 rfl (lv_at hl 1 rfl) ?_
  refine lv_iload_n hx hb dL_law_300 rfl (lv_at hl 0 rfl) ?_
  refine lv_iconst (v := (nI 3)) hx hb dL_law_301 rfl ?_
  refine rn_iadd (x := i) (y := 3) hx hb dL_law_302 ?_
  refine wSld hx hb hX0 hbl hbA hS (j := i + 3) (by omega) hL dL_law_303 ?_
  refine lv_aload_n hx hb dL_law_304 rfl (lv_at hl 1 rfl) ?_
  refine lv_iload_n hx hb dL_law_305 rfl (lv_at hl 0 rfl) ?_
  refine lv_iconst (v := (nI 4)) hx hb dL_law_306 rfl ?_
  refine rn_iadd (x := i) (y := 4) hx hb dL_law_307 ?_
  refine wSld hx hb hX0 hbl hbA hS (j := i + 4) (by omega) hL dL_law_308 ?_
  refine lv_aload_n hx hb dL_law_309 rfl (lv_at hl 1 rfl) ?_
  refine lv_iload_n hx hb dL_law_310 rfl (lv_at hl 0 rfl) ?_
  refine lv_iconst (v := (nI 5)) hx hb dL_law_311 rfl ?_
  refine rn_iadd (x := i) (y := 5) hx hb dL_law_312 ?_
  refine wSld hx hb hX0 hbl hbA hS (j := i + 5) (by omega) hL dL_law_313 ?_
  refine w2Vi (eO_S tO) (As := [.int (xs (i + 1)), .int (xs (i + 2)), .int (xs (i + 3)), .int (xs (i + 4)), .int (xs (i + 5))]) (rest := []) ⟨hx, hb, hml, hown, hts⟩ (kX9_harm l D cA rN _ u a th LP tf tO g T R so ln ce f tr (xs (i + 1)) (xs (i + 2)) (xs (i + 3)) (xs (i + 4)) (xs (i + 5)) hCI) (cwV 5 hts gL_law_X9_harm rfl rfl rfl (by decide +kernel) ⟨Nat.le_of_ble_eq_true rfl, Nat.le_of_ble_eq_true rfl⟩) (va_recv hK hPN (ci := 9) (q0 := 0) rfl rfl) hK hPN hDN hPM hX hS hA hE rfl hl.1 rfl (Nat.le_of_ble_eq_true rfl) dL_law_314 ⟨by show cells + 0 ≤ 600000; omega, by show slots + 0 ≤ 7302250; omega⟩ (fun rv_1 z_1 H locs hw_1 hPN hDN hPM hX hS => ?_)
  obtain ⟨u1, a1, th1, LP1, tf1⟩ := z_1
  obtain ⟨rfl, hCI1⟩ := hw_1
  refine lv_aload_n hx hb dL_law_317 rfl (lv_at hl 3 rfl) ?_
  refine lv_aload_n hx hb dL_law_318 rfl (lv_at hl 1 rfl) ?_
  refine lv_iload_n hx hb dL_law_319 rfl (lv_at hl 0 rfl) ?_
  refine lv_iconst (v := (nI 1)) hx hb dL_law_320 rfl ?_
  refine rn_iadd (x := i) (y := 1) hx hb dL_law_321 ?_
  refine wSld hx hb hX0 hbl hbA hS (j := i + 1) (by omega) hL dL_law_322 ?_
  refine lv_aload_n hx hb dL_law_323 rfl (lv_at hl 1 rfl) ?_
  refine lv_iload_n hx hb dL_law_324 rfl (lv_at hl 0 rfl) ?_
  refine lv_iconst (v := (nI 2)) hx hb dL_law_325 rfl ?_
  refine rn_iadd (x := i) (y := 2) hx hb dL_law_326 ?_
  refine wSld hx hb hX0 hbl hbA hS (j := i + 2) (by omega) hL dL_law_327 ?_
  refine lv_aload_n hx hb dL_law_328 rfl (lv_at hl 1 rfl) ?_
  refine lv_iload_n hx hb dL_law_329 rfl (lv_at hl 0 rfl) ?_
  refine lv_iconst (v := (nI 3)) hx hb dL_law_330 rfl ?_
  refine rn_iadd (x := i) (y := 3) hx hb dL_law_331 ?_
  refine wSld hx hb hX0 hbl hbA hS (j := i + 3) (by omega) hL dL_law_332 ?_
  refine lv_aload_n hx hb dL_law_333 rfl (lv_at hl 1 rfl) ?_
  refine lv_iload_n hx hb dL_law_334 rfl (lv_at hl 0 rfl) ?_
  refine lv_iconst (v := (nI 4)) hx hb dL_law_335 rfl ?_
  refine rn_iadd (x := i) (y := 4) hx hb dL_law_336 ?_
  refine wSld hx hb hX0 hbl hbA hS (j := i + 4) (by omega) hL dL_law_337 ?_
  refine lv_aload_n hx hb dL_law_338 rfl (lv_at hl 1 rfl) ?_
  refine lv_iload_n hx hb dL_law_339 rfl (lv_at hl 0 rfl) ?_
  refine lv_iconst (v := (nI 5)) hx hb dL_law_340 rfl ?_
  refine rn_iadd (x := i) (y := 5) hx hb dL_law_341 ?_
  refine wSld hx hb hX0 hbl hbA hS (j := i + 5) (by omega) hL dL_law_342 ?_
  refine w2Vi e0_S (As := [.int (xs (i + 1)), .int (xs (i + 2)), .int (xs (i + 3)), .int (xs (i + 4)), .int (xs (i + 5))]) (rest := [.int (aRnd g so ln ce (inR (xs (i + 1)) 0 3) (inR (xs (i + 2)) 0 2 ∧ inR (xs (i + 5)) 1 300) (xs (i + 1)) (xs (i + 2)) (xs (i + 3)) (xs (i + 4)) (nI (hv g T (RO ce (xs (i + 1)) (xs (i + 3))) (xs (i + 4)).toNatClampNeg (2 ^ g 0 - 1) (xs (i + 5)).toNatClampNeg)))]) ⟨hx, hb, hml, hown, hts⟩ (kX10_harm l D cA rM _ um am g T R so ln ce f tr (xs (i + 1)) (xs (i + 2)) (xs (i + 3)) (xs (i + 4)) (xs (i + 5)) hMI) (cwV 5 hts gL_law_X10_harm rfl rfl rfl (by decide +kernel) ⟨Nat.le_of_ble_eq_true rfl, Nat.le_of_ble_eq_true rfl⟩) (va_recv hK hPM (ci := 10) (q0 := 0) rfl rfl) hK hPM hDM hPN (fun i j p q hi hj e9 => hX j i q p hj hi e9.symm) hS hA trivial rfl hl.1 rfl (Nat.le_of_ble_eq_true rfl) dL_law_343 ⟨by show cells + 0 + 0 ≤ 600000; omega, by show slots + 0 + 0 ≤ 7302250; omega⟩ (fun rv_2 z_2 H locs hw_2 hPM hDM hPN hX2 hS => ?_)
  obtain ⟨um1, am1⟩ := z_2
  obtain ⟨rfl, hMI1⟩ := hw_2
  refine lv_icmp_eq (tgt := 1104) hx hb dL_law_346 (by decide) (fun _ => ?_) (fun c9 => absurd rfl c9)
  refine W.widen (k := cells + 6) (n := slots + 30) (by omega) (by omega) ?_
  exact kk _ _ _ ⟨_, _, _, _, _, _, _, _, _, _, _, _, _, _, _, hCI1, hMI1, hPN, hDN, hPM, hDM, fun i j p q hi hj e9 => hX2 j i q p hj hi e9.symm, hS⟩ hl

set_option maxHeartbeats 4000000 in
set_option maxRecDepth 100000 in
theorem law_never {p : Program} {l : Launch} {e : Env} {s : State} {m : MethodId} {below : List Frame} {meth : Method} {c : Code} {H : Heap} {locs : List Loc} {cells slots : Nat} {Q : State → Prop} {ls : Array Slot} {D : va_G} {cA : Nat → ClassId} {rN rM : Nat → Nat} {b L i tO : Nat} {xs : Nat → Int32} (hx : p.tables.exec = Jvm.exec) (hb : c.code = code) (hml : c.maxLocals = 4) (hown : s.vm.findClass RL = some m.cls) (hts : ∀ w ∈ wsL_law, w.before #[Value.ref b] s = true) (hX0 : va_X b L xs s s.heap) (hbl : b < s.heap.size) (hL : L ≤ 3072) (hK : va_K D vwCl (tyA cA) s) (hE : eO tO (fun q : Nat => s.heap.size ≤ q) s s.heap) (hi : i + 6 ≤ L) (hc6 : cells + 6 ≤ 600000) (hs30 : slots + 30 ≤ 7302250) (hI : lI D cA rN rM (fun q : Nat => s.heap.size ≤ q) s.heap H locs) (hl : lv_has ls 4 [(3, .int (nI i)), (0, .ref b), (1, .ref (rN 0)), (2, .ref (rM 0))])
    (kk : ∀ (H1 : Heap) (locs1 : List Loc) (ls1 : Array Slot), lI D cA rN rM (fun q : Nat => s.heap.size ≤ q) s.heap H1 locs1 → lv_has ls1 4 [(3, .int (nI i)), (0, .ref b), (1, .ref (rN 0)), (2, .ref (rM 0))] → W p l e room_1 s m #[Value.ref b] below meth c H1 locs1 (cells + 6) (slots + 30) Q (F0 m 1104 ls1 [])) : W p l e room_1 s m #[Value.ref b] below meth c H locs cells slots Q (F0 m 351 ls []) := by
  obtain ⟨u, a, th, LP, tf, um, am, g, T, R, so, ln, ce, f, tr, hCI, hMI, hPN, hDN, hPM, hDM, hX, hS⟩ := hI
  have hA : ∀ q : Nat, s.heap.size ≤ q → (fun q : Nat => s.heap.size ≤ q) q := fun _ h => h
  have hbA : ¬ (fun q : Nat => s.heap.size ≤ q) b := Nat.not_le.mpr hbl
  refine lv_aload_n hx hb dL_law_351 rfl (lv_at hl 2 rfl) ?_
  refine lv_aload_n hx hb dL_law_352 rfl (lv_at hl 1 rfl) ?_
  refine lv_iload_n hx hb dL_law_353 rfl (lv_at hl 0 rfl) ?_
  refine lv_iconst (v := (nI 1)) hx hb dL_law_354 rfl ?_
  refine rn_iadd (x := i) (y := 1) hx hb dL_law_355 ?_
  refine wSld hx hb hX0 hbl hbA hS (j := i + 1) (by omega) hL dL_law_356 ?_
  refine lv_aload_n hx hb dL_law_357 rfl (lv_at hl 1 rfl) ?_
  refine lv_iload_n hx hb dL_law_358 rfl (lv_at hl 0 rfl) ?_
  refine lv_iconst (v := (nI 2)) hx hb dL_law_359 rfl ?_
  refine rn_iadd (x := i) (y := 2) hx hb dL_law_360 ?_
  refine wSld hx hb hX0 hbl hbA hS (j := i + 2) (by omega) hL dL_law_361 ?_
  refine lv_aload_n hx hb dL_law_362 rfl (lv_at hl 1 rfl) ?_
  refine lv_iload_n hx hb dL_law_363 rfl (lv_at hl 0 rfl) ?_
  refine lv_iconst (v := (nI 3)) hx hb dL_law_364 rfl ?_
  refine rn_iadd (x := i) (y := 3) hx hb dL_law_365 ?_
  refine wSld hx hb hX0 hbl hbA hS (j := i + 3) (by omega) hL dL_law_366 ?_
  refine lv_aload_n hx hb dL_law_367 rfl (lv_at hl 1 rfl) ?_
  refine lv_iload_n hx hb dL_law_368 rfl (lv_at hl 0 rfl) ?_
  refine lv_iconst (v := (nI 4)) hx hb dL_law_369 rfl ?_
  refine rn_iadd (x := i) (y := 4) hx hb dL_law_370 ?_
  refine wSld hx hb hX0 hbl hbA hS (j := i + 4) (by omega) hL dL_law_371 ?_
  refine w2Vi (eO_S tO) (As := [.int (xs (i + 1)), .int (xs (i + 2)), .int (xs (i + 3)), .int (xs (i + 4))]) (rest := []) ⟨hx, hb, hml, hown, hts⟩ (kX9_never l D cA rN _ u a th LP tf tO g T R so ln ce f tr (xs (i + 1)) (xs (i + 2)) (xs (i + 3)) (xs (i + 4)) hCI) (cwV 4 hts gL_law_X9_never rfl rfl rfl (by decide +kernel) ⟨Nat.le_of_ble_eq_true rfl, Nat.le_of_ble_eq_true rfl⟩) (va_recv hK hPN (ci := 9) (q0 := 0) rfl rfl) hK hPN hDN hPM hX hS hA hE rfl hl.1 rfl (Nat.le_of_ble_eq_true rfl) dL_law_372 ⟨by show cells + 0 ≤ 600000; omega, by show slots + 0 ≤ 7302250; omega⟩ (fun rv_1 z_1 H locs hw_1 hPN hDN hPM hX hS => ?_)
  obtain ⟨u1, a1, th1, LP1, tf1⟩ := z_1
  obtain ⟨rfl, hCI1⟩ := hw_1
  refine lv_aload_n hx hb dL_law_375 rfl (lv_at hl 3 rfl) ?_
  refine lv_aload_n hx hb dL_law_376 rfl (lv_at hl 1 rfl) ?_
  refine lv_iload_n hx hb dL_law_377 rfl (lv_at hl 0 rfl) ?_
  refine lv_iconst (v := (nI 1)) hx hb dL_law_378 rfl ?_
  refine rn_iadd (x := i) (y := 1) hx hb dL_law_379 ?_
  refine wSld hx hb hX0 hbl hbA hS (j := i + 1) (by omega) hL dL_law_380 ?_
  refine lv_aload_n hx hb dL_law_381 rfl (lv_at hl 1 rfl) ?_
  refine lv_iload_n hx hb dL_law_382 rfl (lv_at hl 0 rfl) ?_
  refine lv_iconst (v := (nI 2)) hx hb dL_law_383 rfl ?_
  refine rn_iadd (x := i) (y := 2) hx hb dL_law_384 ?_
  refine wSld hx hb hX0 hbl hbA hS (j := i + 2) (by omega) hL dL_law_385 ?_
  refine lv_aload_n hx hb dL_law_386 rfl (lv_at hl 1 rfl) ?_
  refine lv_iload_n hx hb dL_law_387 rfl (lv_at hl 0 rfl) ?_
  refine lv_iconst (v := (nI 3)) hx hb dL_law_388 rfl ?_
  refine rn_iadd (x := i) (y := 3) hx hb dL_law_389 ?_
  refine wSld hx hb hX0 hbl hbA hS (j := i + 3) (by omega) hL dL_law_390 ?_
  refine lv_aload_n hx hb dL_law_391 rfl (lv_at hl 1 rfl) ?_
  refine lv_iload_n hx hb dL_law_392 rfl (lv_at hl 0 rfl) ?_
  refine lv_iconst (v := (nI 4)) hx hb dL_law_393 rfl ?_
  refine rn_iadd (x := i) (y := 4) hx hb dL_law_394 ?_
  refine wSld hx hb hX0 hbl hbA hS (j := i + 4) (by omega) hL dL_law_395 ?_
  refine w2Vi e0_S (As := [.int (xs (i + 1)), .int (xs (i + 2)), .int (xs (i + 3)), .int (xs (i + 4))]) (rest := [.int (aRnd g so ln ce (inR (xs (i + 1)) 0 3) (inR (xs (i + 2)) 0 2) (xs (i + 1)) (xs (i + 2)) (xs (i + 3)) (xs (i + 4)) (cif (sf g T (RO ce (xs (i + 1)) (xs (i + 3))) (xs (i + 4)).toNatClampNeg (2 ^ g 0 - 1)) (nI 1) (nI 0)))]) ⟨hx, hb, hml, hown, hts⟩ (kX10_never l D cA rM _ um am g T R so ln ce f tr (xs (i + 1)) (xs (i + 2)) (xs (i + 3)) (xs (i + 4)) hMI) (cwV 4 hts gL_law_X10_never rfl rfl rfl (by decide +kernel) ⟨Nat.le_of_ble_eq_true rfl, Nat.le_of_ble_eq_true rfl⟩) (va_recv hK hPM (ci := 10) (q0 := 0) rfl rfl) hK hPM hDM hPN (fun i j p q hi hj e9 => hX j i q p hj hi e9.symm) hS hA trivial rfl hl.1 rfl (Nat.le_of_ble_eq_true rfl) dL_law_396 ⟨by show cells + 0 + 0 ≤ 600000; omega, by show slots + 0 + 0 ≤ 7302250; omega⟩ (fun rv_2 z_2 H locs hw_2 hPM hDM hPN hX2 hS => ?_)
  obtain ⟨um1, am1⟩ := z_2
  obtain ⟨rfl, hMI1⟩ := hw_2
  refine lv_icmp_eq (tgt := 1104) hx hb dL_law_399 (by decide) (fun _ => ?_) (fun c9 => absurd rfl c9)
  refine W.widen (k := cells + 6) (n := slots + 30) (by omega) (by omega) ?_
  exact kk _ _ _ ⟨_, _, _, _, _, _, _, _, _, _, _, _, _, _, _, hCI1, hMI1, hPN, hDN, hPM, hDM, fun i j p q hi hj e9 => hX2 j i q p hj hi e9.symm, hS⟩ hl

set_option maxHeartbeats 4000000 in
set_option maxRecDepth 100000 in
theorem law_fall {p : Program} {l : Launch} {e : Env} {s : State} {m : MethodId} {below : List Frame} {meth : Method} {c : Code} {H : Heap} {locs : List Loc} {cells slots : Nat} {Q : State → Prop} {ls : Array Slot} {D : va_G} {cA : Nat → ClassId} {rN rM : Nat → Nat} {b L i tO : Nat} {xs : Nat → Int32} (hx : p.tables.exec = Jvm.exec) (hb : c.code = code) (hml : c.maxLocals = 4) (hown : s.vm.findClass RL = some m.cls) (hts : ∀ w ∈ wsL_law, w.before #[Value.ref b] s = true) (hX0 : va_X b L xs s s.heap) (hbl : b < s.heap.size) (hL : L ≤ 3072) (hK : va_K D vwCl (tyA cA) s) (hE : eO tO (fun q : Nat => s.heap.size ≤ q) s s.heap) (hi : i + 6 ≤ L) (hc6 : cells + 6 ≤ 600000) (hs30 : slots + 30 ≤ 7302250) (hI : lI D cA rN rM (fun q : Nat => s.heap.size ≤ q) s.heap H locs) (hl : lv_has ls 4 [(3, .int (nI i)), (0, .ref b), (1, .ref (rN 0)), (2, .ref (rM 0))])
    (kk : ∀ (H1 : Heap) (locs1 : List Loc) (ls1 : Array Slot), lI D cA rN rM (fun q : Nat => s.heap.size ≤ q) s.heap H1 locs1 → lv_has ls1 4 [(3, .int (nI i)), (0, .ref b), (1, .ref (rN 0)), (2, .ref (rM 0))] → W p l e room_1 s m #[Value.ref b] below meth c H1 locs1 (cells + 6) (slots + 30) Q (F0 m 1104 ls1 [])) : W p l e room_1 s m #[Value.ref b] below meth c H locs cells slots Q (F0 m 404 ls []) := by
  obtain ⟨u, a, th, LP, tf, um, am, g, T, R, so, ln, ce, f, tr, hCI, hMI, hPN, hDN, hPM, hDM, hX, hS⟩ := hI
  have hA : ∀ q : Nat, s.heap.size ≤ q → (fun q : Nat => s.heap.size ≤ q) q := fun _ h => h
  have hbA : ¬ (fun q : Nat => s.heap.size ≤ q) b := Nat.not_le.mpr hbl
  refine lv_aload_n hx hb dL_law_404 rfl (lv_at hl 2 rfl) ?_
  refine lv_aload_n hx hb dL_law_405 rfl (lv_at hl 1 rfl) ?_
  refine lv_iload_n hx hb dL_law_406 rfl (lv_at hl 0 rfl) ?_
  refine lv_iconst (v := (nI 1)) hx hb dL_law_407 rfl ?_
  refine rn_iadd (x := i) (y := 1) hx hb dL_law_408 ?_
  refine wSld hx hb hX0 hbl hbA hS (j := i + 1) (by omega) hL dL_law_409 ?_
  refine lv_aload_n hx hb dL_law_410 rfl (lv_at hl 1 rfl) ?_
  refine lv_iload_n hx hb dL_law_411 rfl (lv_at hl 0 rfl) ?_
  refine lv_iconst (v := (nI 2)) hx hb dL_law_412 rfl ?_
  refine rn_iadd (x := i) (y := 2) hx hb dL_law_413 ?_
  refine wSld hx hb hX0 hbl hbA hS (j := i + 2) (by omega) hL dL_law_414 ?_
  refine lv_aload_n hx hb dL_law_415 rfl (lv_at hl 1 rfl) ?_
  refine lv_iload_n hx hb dL_law_416 rfl (lv_at hl 0 rfl) ?_
  refine lv_iconst (v := (nI 3)) hx hb dL_law_417 rfl ?_
  refine rn_iadd (x := i) (y := 3) hx hb dL_law_418 ?_
  refine wSld hx hb hX0 hbl hbA hS (j := i + 3) (by omega) hL dL_law_419 ?_
  refine lv_aload_n hx hb dL_law_420 rfl (lv_at hl 1 rfl) ?_
  refine lv_iload_n hx hb dL_law_421 rfl (lv_at hl 0 rfl) ?_
  refine lv_iconst (v := (nI 4)) hx hb dL_law_422 rfl ?_
  refine rn_iadd (x := i) (y := 4) hx hb dL_law_423 ?_
  refine wSld hx hb hX0 hbl hbA hS (j := i + 4) (by omega) hL dL_law_424 ?_
  refine lv_aload_n hx hb dL_law_425 rfl (lv_at hl 1 rfl) ?_
  refine lv_iload_n hx hb dL_law_426 rfl (lv_at hl 0 rfl) ?_
  refine lv_iconst (v := (nI 5)) hx hb dL_law_427 rfl ?_
  refine rn_iadd (x := i) (y := 5) hx hb dL_law_428 ?_
  refine wSld hx hb hX0 hbl hbA hS (j := i + 5) (by omega) hL dL_law_429 ?_
  refine w2Vi (eO_S tO) (As := [.int (xs (i + 1)), .int (xs (i + 2)), .int (xs (i + 3)), .int (xs (i + 4)), .int (xs (i + 5))]) (rest := []) ⟨hx, hb, hml, hown, hts⟩ (kX9_fall l D cA rN _ u a th LP tf tO g T R so ln ce f tr (xs (i + 1)) (xs (i + 2)) (xs (i + 3)) (xs (i + 4)) (xs (i + 5)) hCI) (cwV 5 hts gL_law_X9_fall rfl rfl rfl (by decide +kernel) ⟨Nat.le_of_ble_eq_true rfl, Nat.le_of_ble_eq_true rfl⟩) (va_recv hK hPN (ci := 9) (q0 := 0) rfl rfl) hK hPN hDN hPM hX hS hA hE rfl hl.1 rfl (Nat.le_of_ble_eq_true rfl) dL_law_430 ⟨by show cells + 0 ≤ 600000; omega, by show slots + 0 ≤ 7302250; omega⟩ (fun rv_1 z_1 H locs hw_1 hPN hDN hPM hX hS => ?_)
  obtain ⟨u1, a1, th1, LP1, tf1⟩ := z_1
  obtain ⟨rfl, hCI1⟩ := hw_1
  refine lv_aload_n hx hb dL_law_433 rfl (lv_at hl 3 rfl) ?_
  refine lv_aload_n hx hb dL_law_434 rfl (lv_at hl 1 rfl) ?_
  refine lv_iload_n hx hb dL_law_435 rfl (lv_at hl 0 rfl) ?_
  refine lv_iconst (v := (nI 1)) hx hb dL_law_436 rfl ?_
  refine rn_iadd (x := i) (y := 1) hx hb dL_law_437 ?_
  refine wSld hx hb hX0 hbl hbA hS (j := i + 1) (by omega) hL dL_law_438 ?_
  refine lv_aload_n hx hb dL_law_439 rfl (lv_at hl 1 rfl) ?_
  refine lv_iload_n hx hb dL_law_440 rfl (lv_at hl 0 rfl) ?_
  refine lv_iconst (v := (nI 2)) hx hb dL_law_441 rfl ?_
  refine rn_iadd (x := i) (y := 2) hx hb dL_law_442 ?_
  refine wSld hx hb hX0 hbl hbA hS (j := i + 2) (by omega) hL dL_law_443 ?_
  refine lv_aload_n hx hb dL_law_444 rfl (lv_at hl 1 rfl) ?_
  refine lv_iload_n hx hb dL_law_445 rfl (lv_at hl 0 rfl) ?_
  refine lv_iconst (v := (nI 3)) hx hb dL_law_446 rfl ?_
  refine rn_iadd (x := i) (y := 3) hx hb dL_law_447 ?_
  refine wSld hx hb hX0 hbl hbA hS (j := i + 3) (by omega) hL dL_law_448 ?_
  refine lv_aload_n hx hb dL_law_449 rfl (lv_at hl 1 rfl) ?_
  refine lv_iload_n hx hb dL_law_450 rfl (lv_at hl 0 rfl) ?_
  refine lv_iconst (v := (nI 4)) hx hb dL_law_451 rfl ?_
  refine rn_iadd (x := i) (y := 4) hx hb dL_law_452 ?_
  refine wSld hx hb hX0 hbl hbA hS (j := i + 4) (by omega) hL dL_law_453 ?_
  refine lv_aload_n hx hb dL_law_454 rfl (lv_at hl 1 rfl) ?_
  refine lv_iload_n hx hb dL_law_455 rfl (lv_at hl 0 rfl) ?_
  refine lv_iconst (v := (nI 5)) hx hb dL_law_456 rfl ?_
  refine rn_iadd (x := i) (y := 5) hx hb dL_law_457 ?_
  refine wSld hx hb hX0 hbl hbA hS (j := i + 5) (by omega) hL dL_law_458 ?_
  refine w2Vi e0_S (As := [.int (xs (i + 1)), .int (xs (i + 2)), .int (xs (i + 3)), .int (xs (i + 4)), .int (xs (i + 5))]) (rest := [.int (aRnd g so ln ce (inR (xs (i + 1)) 0 3 ∧ (-1) ≤ (xs (i + 5))) (inR (xs (i + 2)) 0 2) (xs (i + 1)) (xs (i + 2)) (xs (i + 3)) (xs (i + 4)) (cif ((xs (i + 5)) = -1) (nI (fc g T (RO ce (xs (i + 1)) (xs (i + 3))) (xs (i + 4)).toNatClampNeg)) (fnV (g 0) (fs g T (RO ce (xs (i + 1)) (xs (i + 3))) (xs (i + 4)).toNatClampNeg 300) (xs (i + 5)).toNatClampNeg)))]) ⟨hx, hb, hml, hown, hts⟩ (kX10_fall l D cA rM _ um am g T R so ln ce f tr (xs (i + 1)) (xs (i + 2)) (xs (i + 3)) (xs (i + 4)) (xs (i + 5)) hMI) (cwV 5 hts gL_law_X10_fall rfl rfl rfl (by decide +kernel) ⟨Nat.le_of_ble_eq_true rfl, Nat.le_of_ble_eq_true rfl⟩) (va_recv hK hPM (ci := 10) (q0 := 0) rfl rfl) hK hPM hDM hPN (fun i j p q hi hj e9 => hX j i q p hj hi e9.symm) hS hA trivial rfl hl.1 rfl (Nat.le_of_ble_eq_true rfl) dL_law_459 ⟨by show cells + 0 + 0 ≤ 600000; omega, by show slots + 0 + 0 ≤ 7302250; omega⟩ (fun rv_2 z_2 H locs hw_2 hPM hDM hPN hX2 hS => ?_)
  obtain ⟨um1, am1⟩ := z_2
  obtain ⟨rfl, hMI1⟩ := hw_2
  refine lv_icmp_eq (tgt := 1104) hx hb dL_law_462 (by decide) (fun _ => ?_) (fun c9 => absurd rfl c9)
  refine W.widen (k := cells + 6) (n := slots + 30) (by omega) (by omega) ?_
  exact kk _ _ _ ⟨_, _, _, _, _, _, _, _, _, _, _, _, _, _, _, hCI1, hMI1, hPN, hDN, hPM, hDM, fun i j p q hi hj e9 => hX2 j i q p hj hi e9.symm, hS⟩ hl

set_option maxHeartbeats 4000000 in
set_option maxRecDepth 100000 in
theorem law_nail {p : Program} {l : Launch} {e : Env} {s : State} {m : MethodId} {below : List Frame} {meth : Method} {c : Code} {H : Heap} {locs : List Loc} {cells slots : Nat} {Q : State → Prop} {ls : Array Slot} {D : va_G} {cA : Nat → ClassId} {rN rM : Nat → Nat} {b L i tO : Nat} {xs : Nat → Int32} (hx : p.tables.exec = Jvm.exec) (hb : c.code = code) (hml : c.maxLocals = 4) (hown : s.vm.findClass RL = some m.cls) (hts : ∀ w ∈ wsL_law, w.before #[Value.ref b] s = true) (hX0 : va_X b L xs s s.heap) (hbl : b < s.heap.size) (hL : L ≤ 3072) (hK : va_K D vwCl (tyA cA) s) (hE : eO tO (fun q : Nat => s.heap.size ≤ q) s s.heap) (hi : i + 6 ≤ L) (hc6 : cells + 6 ≤ 600000) (hs30 : slots + 30 ≤ 7302250) (hI : lI D cA rN rM (fun q : Nat => s.heap.size ≤ q) s.heap H locs) (hl : lv_has ls 4 [(3, .int (nI i)), (0, .ref b), (1, .ref (rN 0)), (2, .ref (rM 0))])
    (kk : ∀ (H1 : Heap) (locs1 : List Loc) (ls1 : Array Slot), lI D cA rN rM (fun q : Nat => s.heap.size ≤ q) s.heap H1 locs1 → lv_has ls1 4 [(3, .int (nI i)), (0, .ref b), (1, .ref (rN 0)), (2, .ref (rM 0))] → W p l e room_1 s m #[Value.ref b] below meth c H1 locs1 (cells + 6) (slots + 30) Q (F0 m 1104 ls1 [])) : W p l e room_1 s m #[Value.ref b] below meth c H locs cells slots Q (F0 m 467 ls []) := by
  obtain ⟨u, a, th, LP, tf, um, am, g, T, R, so, ln, ce, f, tr, hCI, hMI, hPN, hDN, hPM, hDM, hX, hS⟩ := hI
  have hA : ∀ q : Nat, s.heap.size ≤ q → (fun q : Nat => s.heap.size ≤ q) q := fun _ h => h
  have hbA : ¬ (fun q : Nat => s.heap.size ≤ q) b := Nat.not_le.mpr hbl
  refine lv_aload_n hx hb dL_law_467 rfl (lv_at hl 2 rfl) ?_
  refine lv_aload_n hx hb dL_law_468 rfl (lv_at hl 1 rfl) ?_
  refine lv_iload_n hx hb dL_law_469 rfl (lv_at hl 0 rfl) ?_
  refine lv_iconst (v := (nI 1)) hx hb dL_law_470 rfl ?_
  refine rn_iadd (x := i) (y := 1) hx hb dL_law_471 ?_
  refine wSld hx hb hX0 hbl hbA hS (j := i + 1) (by omega) hL dL_law_472 ?_
  refine lv_aload_n hx hb dL_law_473 rfl (lv_at hl 1 rfl) ?_
  refine lv_iload_n hx hb dL_law_474 rfl (lv_at hl 0 rfl) ?_
  refine lv_iconst (v := (nI 2)) hx hb dL_law_475 rfl ?_
  refine rn_iadd (x := i) (y := 2) hx hb dL_law_476 ?_
  refine wSld hx hb hX0 hbl hbA hS (j := i + 2) (by omega) hL dL_law_477 ?_
  refine lv_aload_n hx hb dL_law_478 rfl (lv_at hl 1 rfl) ?_
  refine lv_iload_n hx hb dL_law_479 rfl (lv_at hl 0 rfl) ?_
  refine lv_iconst (v := (nI 3)) hx hb dL_law_480 rfl ?_
  refine rn_iadd (x := i) (y := 3) hx hb dL_law_481 ?_
  refine wSld hx hb hX0 hbl hbA hS (j := i + 3) (by omega) hL dL_law_482 ?_
  refine lv_aload_n hx hb dL_law_483 rfl (lv_at hl 1 rfl) ?_
  refine lv_iload_n hx hb dL_law_484 rfl (lv_at hl 0 rfl) ?_
  refine lv_iconst (v := (nI 4)) hx hb dL_law_485 rfl ?_
  refine rn_iadd (x := i) (y := 4) hx hb dL_law_486 ?_
  refine wSld hx hb hX0 hbl hbA hS (j := i + 4) (by omega) hL dL_law_487 ?_
  refine lv_aload_n hx hb dL_law_488 rfl (lv_at hl 1 rfl) ?_
  refine lv_iload_n hx hb dL_law_489 rfl (lv_at hl 0 rfl) ?_
  refine lv_iconst (v := (nI 5)) hx hb dL_law_490 rfl ?_
  refine rn_iadd (x := i) (y := 5) hx hb dL_law_491 ?_
  refine wSld hx hb hX0 hbl hbA hS (j := i + 5) (by omega) hL dL_law_492 ?_
  refine w2Vi (eO_S tO) (As := [.int (xs (i + 1)), .int (xs (i + 2)), .int (xs (i + 3)), .int (xs (i + 4)), .int (xs (i + 5))]) (rest := []) ⟨hx, hb, hml, hown, hts⟩ (kX9_nail l D cA rN _ u a th LP tf tO g T R so ln ce f tr (xs (i + 1)) (xs (i + 2)) (xs (i + 3)) (xs (i + 4)) (xs (i + 5)) hCI) (cwV 5 hts gL_law_X9_nail rfl rfl rfl (by decide +kernel) ⟨Nat.le_of_ble_eq_true rfl, Nat.le_of_ble_eq_true rfl⟩) (va_recv hK hPN (ci := 9) (q0 := 0) rfl rfl) hK hPN hDN hPM hX hS hA hE rfl hl.1 rfl (Nat.le_of_ble_eq_true rfl) dL_law_493 ⟨by show cells + 0 ≤ 600000; omega, by show slots + 0 ≤ 7302250; omega⟩ (fun rv_1 z_1 H locs hw_1 hPN hDN hPM hX hS => ?_)
  obtain ⟨u1, a1, th1, LP1, tf1⟩ := z_1
  obtain ⟨rfl, hCI1⟩ := hw_1
  refine lv_aload_n hx hb dL_law_496 rfl (lv_at hl 3 rfl) ?_
  refine lv_aload_n hx hb dL_law_497 rfl (lv_at hl 1 rfl) ?_
  refine lv_iload_n hx hb dL_law_498 rfl (lv_at hl 0 rfl) ?_
  refine lv_iconst (v := (nI 1)) hx hb dL_law_499 rfl ?_
  refine rn_iadd (x := i) (y := 1) hx hb dL_law_500 ?_
  refine wSld hx hb hX0 hbl hbA hS (j := i + 1) (by omega) hL dL_law_501 ?_
  refine lv_aload_n hx hb dL_law_502 rfl (lv_at hl 1 rfl) ?_
  refine lv_iload_n hx hb dL_law_503 rfl (lv_at hl 0 rfl) ?_
  refine lv_iconst (v := (nI 2)) hx hb dL_law_504 rfl ?_
  refine rn_iadd (x := i) (y := 2) hx hb dL_law_505 ?_
  refine wSld hx hb hX0 hbl hbA hS (j := i + 2) (by omega) hL dL_law_506 ?_
  refine lv_aload_n hx hb dL_law_507 rfl (lv_at hl 1 rfl) ?_
  refine lv_iload_n hx hb dL_law_508 rfl (lv_at hl 0 rfl) ?_
  refine lv_iconst (v := (nI 3)) hx hb dL_law_509 rfl ?_
  refine rn_iadd (x := i) (y := 3) hx hb dL_law_510 ?_
  refine wSld hx hb hX0 hbl hbA hS (j := i + 3) (by omega) hL dL_law_511 ?_
  refine lv_aload_n hx hb dL_law_512 rfl (lv_at hl 1 rfl) ?_
  refine lv_iload_n hx hb dL_law_513 rfl (lv_at hl 0 rfl) ?_
  refine lv_iconst (v := (nI 4)) hx hb dL_law_514 rfl ?_
  refine rn_iadd (x := i) (y := 4) hx hb dL_law_515 ?_
  refine wSld hx hb hX0 hbl hbA hS (j := i + 4) (by omega) hL dL_law_516 ?_
  refine lv_aload_n hx hb dL_law_517 rfl (lv_at hl 1 rfl) ?_
  refine lv_iload_n hx hb dL_law_518 rfl (lv_at hl 0 rfl) ?_
  refine lv_iconst (v := (nI 5)) hx hb dL_law_519 rfl ?_
  refine rn_iadd (x := i) (y := 5) hx hb dL_law_520 ?_
  refine wSld hx hb hX0 hbl hbA hS (j := i + 5) (by omega) hL dL_law_521 ?_
  refine w2Vi e0_S (As := [.int (xs (i + 1)), .int (xs (i + 2)), .int (xs (i + 3)), .int (xs (i + 4)), .int (xs (i + 5))]) (rest := [.int (aRnd g so ln ce (inR (xs (i + 1)) 0 3) (inR (xs (i + 2)) 0 2 ∧ inR (xs (i + 5)) 0 299) (xs (i + 1)) (xs (i + 2)) (xs (i + 3)) (xs (i + 4)) (whV g T (RO ce (xs (i + 1)) (xs (i + 3))) (xs (i + 4)).toNatClampNeg (xs (i + 5)).toNatClampNeg))]) ⟨hx, hb, hml, hown, hts⟩ (kX10_nail l D cA rM _ um am g T R so ln ce f tr (xs (i + 1)) (xs (i + 2)) (xs (i + 3)) (xs (i + 4)) (xs (i + 5)) hMI) (cwV 5 hts gL_law_X10_nail rfl rfl rfl (by decide +kernel) ⟨Nat.le_of_ble_eq_true rfl, Nat.le_of_ble_eq_true rfl⟩) (va_recv hK hPM (ci := 10) (q0 := 0) rfl rfl) hK hPM hDM hPN (fun i j p q hi hj e9 => hX j i q p hj hi e9.symm) hS hA trivial rfl hl.1 rfl (Nat.le_of_ble_eq_true rfl) dL_law_522 ⟨by show cells + 0 + 0 ≤ 600000; omega, by show slots + 0 + 0 ≤ 7302250; omega⟩ (fun rv_2 z_2 H locs hw_2 hPM hDM hPN hX2 hS => ?_)
  obtain ⟨um1, am1⟩ := z_2
  obtain ⟨rfl, hMI1⟩ := hw_2
  refine lv_icmp_eq (tgt := 1104) hx hb dL_law_525 (by decide) (fun _ => ?_) (fun c9 => absurd rfl c9)
  refine W.widen (k := cells + 6) (n := slots + 30) (by omega) (by omega) ?_
  exact kk _ _ _ ⟨_, _, _, _, _, _, _, _, _, _, _, _, _, _, _, hCI1, hMI1, hPN, hDN, hPM, hDM, fun i j p q hi hj e9 => hX2 j i q p hj hi e9.symm, hS⟩ hl

set_option maxHeartbeats 4000000 in
set_option maxRecDepth 100000 in
theorem law_best {p : Program} {l : Launch} {e : Env} {s : State} {m : MethodId} {below : List Frame} {meth : Method} {c : Code} {H : Heap} {locs : List Loc} {cells slots : Nat} {Q : State → Prop} {ls : Array Slot} {D : va_G} {cA : Nat → ClassId} {rN rM : Nat → Nat} {b L i tO : Nat} {xs : Nat → Int32} (hx : p.tables.exec = Jvm.exec) (hb : c.code = code) (hml : c.maxLocals = 4) (hown : s.vm.findClass RL = some m.cls) (hts : ∀ w ∈ wsL_law, w.before #[Value.ref b] s = true) (hX0 : va_X b L xs s s.heap) (hbl : b < s.heap.size) (hL : L ≤ 3072) (hK : va_K D vwCl (tyA cA) s) (hE : eO tO (fun q : Nat => s.heap.size ≤ q) s s.heap) (hi : i + 6 ≤ L) (hc6 : cells + 6 ≤ 600000) (hs30 : slots + 30 ≤ 7302250) (hI : lI D cA rN rM (fun q : Nat => s.heap.size ≤ q) s.heap H locs) (hl : lv_has ls 4 [(3, .int (nI i)), (0, .ref b), (1, .ref (rN 0)), (2, .ref (rM 0))])
    (kk : ∀ (H1 : Heap) (locs1 : List Loc) (ls1 : Array Slot), lI D cA rN rM (fun q : Nat => s.heap.size ≤ q) s.heap H1 locs1 → lv_has ls1 4 [(3, .int (nI i)), (0, .ref b), (1, .ref (rN 0)), (2, .ref (rM 0))] → W p l e room_1 s m #[Value.ref b] below meth c H1 locs1 (cells + 6) (slots + 30) Q (F0 m 1104 ls1 [])) : W p l e room_1 s m #[Value.ref b] below meth c H locs cells slots Q (F0 m 530 ls []) := by
  obtain ⟨u, a, th, LP, tf, um, am, g, T, R, so, ln, ce, f, tr, hCI, hMI, hPN, hDN, hPM, hDM, hX, hS⟩ := hI
  have hA : ∀ q : Nat, s.heap.size ≤ q → (fun q : Nat => s.heap.size ≤ q) q := fun _ h => h
  have hbA : ¬ (fun q : Nat => s.heap.size ≤ q) b := Nat.not_le.mpr hbl
  refine lv_aload_n hx hb dL_law_530 rfl (lv_at hl 2 rfl) ?_
  refine lv_aload_n hx hb dL_law_531 rfl (lv_at hl 1 rfl) ?_
  refine lv_iload_n hx hb dL_law_532 rfl (lv_at hl 0 rfl) ?_
  refine lv_iconst (v := (nI 1)) hx hb dL_law_533 rfl ?_
  refine rn_iadd (x := i) (y := 1) hx hb dL_law_534 ?_
  refine wSld hx hb hX0 hbl hbA hS (j := i + 1) (by omega) hL dL_law_535 ?_
  refine lv_aload_n hx hb dL_law_536 rfl (lv_at hl 1 rfl) ?_
  refine lv_iload_n hx hb dL_law_537 rfl (lv_at hl 0 rfl) ?_
  refine lv_iconst (v := (nI 2)) hx hb dL_law_538 rfl ?_
  refine rn_iadd (x := i) (y := 2) hx hb dL_law_539 ?_
  refine wSld hx hb hX0 hbl hbA hS (j := i + 2) (by omega) hL dL_law_540 ?_
  refine w2Vi (eO_S tO) (As := [.int (xs (i + 1)), .int (xs (i + 2))]) (rest := []) ⟨hx, hb, hml, hown, hts⟩ (kX9_best l D cA rN _ u a th LP tf tO g T R so ln ce f tr (xs (i + 1)) (xs (i + 2)) hCI) (cwV 2 hts gL_law_X9_best rfl rfl rfl (by decide +kernel) ⟨Nat.le_of_ble_eq_true rfl, Nat.le_of_ble_eq_true rfl⟩) (va_recv hK hPN (ci := 9) (q0 := 0) rfl rfl) hK hPN hDN hPM hX hS hA hE rfl hl.1 rfl (Nat.le_of_ble_eq_true rfl) dL_law_541 ⟨by show cells + 0 ≤ 600000; omega, by show slots + 0 ≤ 7302250; omega⟩ (fun rv_1 z_1 H locs hw_1 hPN hDN hPM hX hS => ?_)
  obtain ⟨u1, a1, th1, LP1, tf1⟩ := z_1
  obtain ⟨rfl, hCI1⟩ := hw_1
  refine lv_aload_n hx hb dL_law_544 rfl (lv_at hl 3 rfl) ?_
  refine lv_aload_n hx hb dL_law_545 rfl (lv_at hl 1 rfl) ?_
  refine lv_iload_n hx hb dL_law_546 rfl (lv_at hl 0 rfl) ?_
  refine lv_iconst (v := (nI 1)) hx hb dL_law_547 rfl ?_
  refine rn_iadd (x := i) (y := 1) hx hb dL_law_548 ?_
  refine wSld hx hb hX0 hbl hbA hS (j := i + 1) (by omega) hL dL_law_549 ?_
  refine lv_aload_n hx hb dL_law_550 rfl (lv_at hl 1 rfl) ?_
  refine lv_iload_n hx hb dL_law_551 rfl (lv_at hl 0 rfl) ?_
  refine lv_iconst (v := (nI 2)) hx hb dL_law_552 rfl ?_
  refine rn_iadd (x := i) (y := 2) hx hb dL_law_553 ?_
  refine wSld hx hb hX0 hbl hbA hS (j := i + 2) (by omega) hL dL_law_554 ?_
  refine w2Vi e0_S (As := [.int (xs (i + 1)), .int (xs (i + 2))]) (rest := [.int (aBest g T (xs (i + 1)) (xs (i + 2)))]) ⟨hx, hb, hml, hown, hts⟩ (kX10_best l D cA rM _ um am g T R so ln ce f tr (xs (i + 1)) (xs (i + 2)) hMI) (cwV 2 hts gL_law_X10_best rfl rfl rfl (by decide +kernel) ⟨Nat.le_of_ble_eq_true rfl, Nat.le_of_ble_eq_true rfl⟩) (va_recv hK hPM (ci := 10) (q0 := 0) rfl rfl) hK hPM hDM hPN (fun i j p q hi hj e9 => hX j i q p hj hi e9.symm) hS hA trivial rfl hl.1 rfl (Nat.le_of_ble_eq_true rfl) dL_law_555 ⟨by show cells + 0 + 0 ≤ 600000; omega, by show slots + 0 + 0 ≤ 7302250; omega⟩ (fun rv_2 z_2 H locs hw_2 hPM hDM hPN hX2 hS => ?_)
  obtain ⟨um1, am1⟩ := z_2
  obtain ⟨rfl, hMI1⟩ := hw_2
  refine lv_icmp_eq (tgt := 1104) hx hb dL_law_558 (by decide) (fun _ => ?_) (fun c9 => absurd rfl c9)
  refine W.widen (k := cells + 6) (n := slots + 30) (by omega) (by omega) ?_
  exact kk _ _ _ ⟨_, _, _, _, _, _, _, _, _, _, _, _, _, _, _, hCI1, hMI1, hPN, hDN, hPM, hDM, fun i j p q hi hj e9 => hX2 j i q p hj hi e9.symm, hS⟩ hl

set_option maxHeartbeats 4000000 in
set_option maxRecDepth 100000 in
theorem law_safe {p : Program} {l : Launch} {e : Env} {s : State} {m : MethodId} {below : List Frame} {meth : Method} {c : Code} {H : Heap} {locs : List Loc} {cells slots : Nat} {Q : State → Prop} {ls : Array Slot} {D : va_G} {cA : Nat → ClassId} {rN rM : Nat → Nat} {b L i tO : Nat} {xs : Nat → Int32} (hx : p.tables.exec = Jvm.exec) (hb : c.code = code) (hml : c.maxLocals = 4) (hown : s.vm.findClass RL = some m.cls) (hts : ∀ w ∈ wsL_law, w.before #[Value.ref b] s = true) (hX0 : va_X b L xs s s.heap) (hbl : b < s.heap.size) (hL : L ≤ 3072) (hK : va_K D vwCl (tyA cA) s) (hE : eO tO (fun q : Nat => s.heap.size ≤ q) s s.heap) (hi : i + 6 ≤ L) (hc6 : cells + 6 ≤ 600000) (hs30 : slots + 30 ≤ 7302250) (hI : lI D cA rN rM (fun q : Nat => s.heap.size ≤ q) s.heap H locs) (hl : lv_has ls 4 [(3, .int (nI i)), (0, .ref b), (1, .ref (rN 0)), (2, .ref (rM 0))])
    (kk : ∀ (H1 : Heap) (locs1 : List Loc) (ls1 : Array Slot), lI D cA rN rM (fun q : Nat => s.heap.size ≤ q) s.heap H1 locs1 → lv_has ls1 4 [(3, .int (nI i)), (0, .ref b), (1, .ref (rN 0)), (2, .ref (rM 0))] → W p l e room_1 s m #[Value.ref b] below meth c H1 locs1 (cells + 6) (slots + 30) Q (F0 m 1104 ls1 [])) : W p l e room_1 s m #[Value.ref b] below meth c H locs cells slots Q (F0 m 563 ls []) := by
  obtain ⟨u, a, th, LP, tf, um, am, g, T, R, so, ln, ce, f, tr, hCI, hMI, hPN, hDN, hPM, hDM, hX, hS⟩ := hI
  have hA : ∀ q : Nat, s.heap.size ≤ q → (fun q : Nat => s.heap.size ≤ q) q := fun _ h => h
  have hbA : ¬ (fun q : Nat => s.heap.size ≤ q) b := Nat.not_le.mpr hbl
  refine lv_aload_n hx hb dL_law_563 rfl (lv_at hl 2 rfl) ?_
  refine w2Vi (eO_S tO) (As := []) (rest := []) ⟨hx, hb, hml, hown, hts⟩ (kX9_safe l D cA rN _ u a th LP tf tO g T R so ln ce f tr  hCI) (cwV 0 hts gL_law_X9_safe rfl rfl rfl (by decide +kernel) ⟨Nat.le_of_ble_eq_true rfl, Nat.le_of_ble_eq_true rfl⟩) (va_recv hK hPN (ci := 9) (q0 := 0) rfl rfl) hK hPN hDN hPM hX hS hA hE rfl hl.1 rfl (Nat.le_of_ble_eq_true rfl) dL_law_564 ⟨by show cells + 0 ≤ 600000; omega, by show slots + 0 ≤ 7302250; omega⟩ (fun rv_1 z_1 H locs hw_1 hPN hDN hPM hX hS => ?_)
  obtain ⟨u1, a1, th1, LP1, tf1⟩ := z_1
  obtain ⟨rfl, hCI1⟩ := hw_1
  refine lv_aload_n hx hb dL_law_567 rfl (lv_at hl 3 rfl) ?_
  refine w2Vi e0_S (As := []) (rest := [.int (aSafe g T)]) ⟨hx, hb, hml, hown, hts⟩ (kX10_safe l D cA rM _ um am g T R so ln ce f tr  hMI) (cwV 0 hts gL_law_X10_safe rfl rfl rfl (by decide +kernel) ⟨Nat.le_of_ble_eq_true rfl, Nat.le_of_ble_eq_true rfl⟩) (va_recv hK hPM (ci := 10) (q0 := 0) rfl rfl) hK hPM hDM hPN (fun i j p q hi hj e9 => hX j i q p hj hi e9.symm) hS hA trivial rfl hl.1 rfl (Nat.le_of_ble_eq_true rfl) dL_law_568 ⟨by show cells + 0 + 0 ≤ 600000; omega, by show slots + 0 + 0 ≤ 7302250; omega⟩ (fun rv_2 z_2 H locs hw_2 hPM hDM hPN hX2 hS => ?_)
  obtain ⟨um1, am1⟩ := z_2
  obtain ⟨rfl, hMI1⟩ := hw_2
  refine lv_icmp_eq (tgt := 1104) hx hb dL_law_571 (by decide) (fun _ => ?_) (fun c9 => absurd rfl c9)
  refine W.widen (k := cells + 6) (n := slots + 30) (by omega) (by omega) ?_
  exact kk _ _ _ ⟨_, _, _, _, _, _, _, _, _, _, _, _, _, _, _, hCI1, hMI1, hPN, hDN, hPM, hDM, fun i j p q hi hj e9 => hX2 j i q p hj hi e9.symm, hS⟩ hl

set_option maxHeartbeats 4000000 in
set_option maxRecDepth 100000 in
theorem law_letGo {p : Program} {l : Launch} {e : Env} {s : State} {m : MethodId} {below : List Frame} {meth : Method} {c : Code} {H : Heap} {locs : List Loc} {cells slots : Nat} {Q : State → Prop} {ls : Array Slot} {D : va_G} {cA : Nat → ClassId} {rN rM : Nat → Nat} {b L i tO : Nat} {xs : Nat → Int32} (hx : p.tables.exec = Jvm.exec) (hb : c.code = code) (hml : c.maxLocals = 4) (hown : s.vm.findClass RL = some m.cls) (hts : ∀ w ∈ wsL_law, w.before #[Value.ref b] s = true) (hX0 : va_X b L xs s s.heap) (hbl : b < s.heap.size) (hL : L ≤ 3072) (hK : va_K D vwCl (tyA cA) s) (hE : eO tO (fun q : Nat => s.heap.size ≤ q) s s.heap) (hi : i + 6 ≤ L) (hc6 : cells + 6 ≤ 600000) (hs30 : slots + 30 ≤ 7302250) (hI : lI D cA rN rM (fun q : Nat => s.heap.size ≤ q) s.heap H locs) (hl : lv_has ls 4 [(3, .int (nI i)), (0, .ref b), (1, .ref (rN 0)), (2, .ref (rM 0))])
    (kk : ∀ (H1 : Heap) (locs1 : List Loc) (ls1 : Array Slot), lI D cA rN rM (fun q : Nat => s.heap.size ≤ q) s.heap H1 locs1 → lv_has ls1 4 [(3, .int (nI i)), (0, .ref b), (1, .ref (rN 0)), (2, .ref (rM 0))] → W p l e room_1 s m #[Value.ref b] below meth c H1 locs1 (cells + 6) (slots + 30) Q (F0 m 1104 ls1 [])) : W p l e room_1 s m #[Value.ref b] below meth c H locs cells slots Q (F0 m 576 ls []) := by
  obtain ⟨u, a, th, LP, tf, um, am, g, T, R, so, ln, ce, f, tr, hCI, hMI, hPN, hDN, hPM, hDM, hX, hS⟩ := hI
  have hA : ∀ q : Nat, s.heap.size ≤ q → (fun q : Nat => s.heap.size ≤ q) q := fun _ h => h
  have hbA : ¬ (fun q : Nat => s.heap.size ≤ q) b := Nat.not_le.mpr hbl
  refine lv_aload_n hx hb dL_law_576 rfl (lv_at hl 2 rfl) ?_
  refine w2Vi (eO_S tO) (As := []) (rest := []) ⟨hx, hb, hml, hown, hts⟩ (kX9_letGo l D cA rN _ u a th LP tf tO g T R so ln ce f tr  hCI) (cwV 0 hts gL_law_X9_letGo rfl rfl rfl (by decide +kernel) ⟨Nat.le_of_ble_eq_true rfl, Nat.le_of_ble_eq_true rfl⟩) (va_recv hK hPN (ci := 9) (q0 := 0) rfl rfl) hK hPN hDN hPM hX hS hA hE rfl hl.1 rfl (Nat.le_of_ble_eq_true rfl) dL_law_577 ⟨by show cells + 0 ≤ 600000; omega, by show slots + 0 ≤ 7302250; omega⟩ (fun rv_1 z_1 H locs hw_1 hPN hDN hPM hX hS => ?_)
  obtain ⟨u1, a1, th1, LP1, tf1⟩ := z_1
  obtain ⟨rfl, hCI1⟩ := hw_1
  refine lv_aload_n hx hb dL_law_580 rfl (lv_at hl 3 rfl) ?_
  refine w2Vi e0_S (As := []) (rest := [.int (aLet g T)]) ⟨hx, hb, hml, hown, hts⟩ (kX10_letGo l D cA rM _ um am g T R so ln ce f tr  hMI) (cwV 0 hts gL_law_X10_letGo rfl rfl rfl (by decide +kernel) ⟨Nat.le_of_ble_eq_true rfl, Nat.le_of_ble_eq_true rfl⟩) (va_recv hK hPM (ci := 10) (q0 := 0) rfl rfl) hK hPM hDM hPN (fun i j p q hi hj e9 => hX j i q p hj hi e9.symm) hS hA trivial rfl hl.1 rfl (Nat.le_of_ble_eq_true rfl) dL_law_581 ⟨by show cells + 0 + 0 ≤ 600000; omega, by show slots + 0 + 0 ≤ 7302250; omega⟩ (fun rv_2 z_2 H locs hw_2 hPM hDM hPN hX2 hS => ?_)
  obtain ⟨um1, am1⟩ := z_2
  obtain ⟨rfl, hMI1⟩ := hw_2
  refine lv_icmp_eq (tgt := 1104) hx hb dL_law_584 (by decide) (fun _ => ?_) (fun c9 => absurd rfl c9)
  refine W.widen (k := cells + 6) (n := slots + 30) (by omega) (by omega) ?_
  exact kk _ _ _ ⟨_, _, _, _, _, _, _, _, _, _, _, _, _, _, _, hCI1, hMI1, hPN, hDN, hPM, hDM, fun i j p q hi hj e9 => hX2 j i q p hj hi e9.symm, hS⟩ hl

set_option maxHeartbeats 4000000 in
set_option maxRecDepth 100000 in
theorem law_two {p : Program} {l : Launch} {e : Env} {s : State} {m : MethodId} {below : List Frame} {meth : Method} {c : Code} {H : Heap} {locs : List Loc} {cells slots : Nat} {Q : State → Prop} {ls : Array Slot} {D : va_G} {cA : Nat → ClassId} {rN rM : Nat → Nat} {b L i tO : Nat} {xs : Nat → Int32} (hx : p.tables.exec = Jvm.exec) (hb : c.code = code) (hml : c.maxLocals = 4) (hown : s.vm.findClass RL = some m.cls) (hts : ∀ w ∈ wsL_law, w.before #[Value.ref b] s = true) (hX0 : va_X b L xs s s.heap) (hbl : b < s.heap.size) (hL : L ≤ 3072) (hK : va_K D vwCl (tyA cA) s) (hE : eO tO (fun q : Nat => s.heap.size ≤ q) s s.heap) (hi : i + 6 ≤ L) (hc6 : cells + 6 ≤ 600000) (hs30 : slots + 30 ≤ 7302250) (hI : lI D cA rN rM (fun q : Nat => s.heap.size ≤ q) s.heap H locs) (hl : lv_has ls 4 [(3, .int (nI i)), (0, .ref b), (1, .ref (rN 0)), (2, .ref (rM 0))])
    (kk : ∀ (H1 : Heap) (locs1 : List Loc) (ls1 : Array Slot), lI D cA rN rM (fun q : Nat => s.heap.size ≤ q) s.heap H1 locs1 → lv_has ls1 4 [(3, .int (nI i)), (0, .ref b), (1, .ref (rN 0)), (2, .ref (rM 0))] → W p l e room_1 s m #[Value.ref b] below meth c H1 locs1 (cells + 6) (slots + 30) Q (F0 m 1104 ls1 [])) : W p l e room_1 s m #[Value.ref b] below meth c H locs cells slots Q (F0 m 589 ls []) := by
  obtain ⟨u, a, th, LP, tf, um, am, g, T, R, so, ln, ce, f, tr, hCI, hMI, hPN, hDN, hPM, hDM, hX, hS⟩ := hI
  have hA : ∀ q : Nat, s.heap.size ≤ q → (fun q : Nat => s.heap.size ≤ q) q := fun _ h => h
  have hbA : ¬ (fun q : Nat => s.heap.size ≤ q) b := Nat.not_le.mpr hbl
  refine lv_aload_n hx hb dL_law_589 rfl (lv_at hl 2 rfl) ?_
  refine lv_aload_n hx hb dL_law_590 rfl (lv_at hl 1 rfl) ?_
  refine lv_iload_n hx hb dL_law_591 rfl (lv_at hl 0 rfl) ?_
  refine lv_iconst (v := (nI 1)) hx hb dL_law_592 rfl ?_
  refine rn_iadd (x := i) (y := 1) hx hb dL_law_593 ?_
  refine wSld hx hb hX0 hbl hbA hS (j := i + 1) (by omega) hL dL_law_594 ?_
  refine lv_aload_n hx hb dL_law_595 rfl (lv_at hl 1 rfl) ?_
  refine lv_iload_n hx hb dL_law_596 rfl (lv_at hl 0 rfl) ?_
  refine lv_iconst (v := (nI 2)) hx hb dL_law_597 rfl ?_
  refine rn_iadd (x := i) (y := 2) hx hb dL_law_598 ?_
  refine wSld hx hb hX0 hbl hbA hS (j := i + 2) (by omega) hL dL_law_599 ?_
  refine w2Vi (eO_S tO) (As := [.int (xs (i + 1)), .int (xs (i + 2))]) (rest := []) ⟨hx, hb, hml, hown, hts⟩ (kX9_two l D cA rN _ u a th LP tf tO g T R so ln ce f tr (xs (i + 1)) (xs (i + 2)) hCI) (cwV 2 hts gL_law_X9_two rfl rfl rfl (by decide +kernel) ⟨Nat.le_of_ble_eq_true rfl, Nat.le_of_ble_eq_true rfl⟩) (va_recv hK hPN (ci := 9) (q0 := 0) rfl rfl) hK hPN hDN hPM hX hS hA hE rfl hl.1 rfl (Nat.le_of_ble_eq_true rfl) dL_law_600 ⟨by show cells + 0 ≤ 600000; omega, by show slots + 0 ≤ 7302250; omega⟩ (fun rv_1 z_1 H locs hw_1 hPN hDN hPM hX hS => ?_)
  obtain ⟨u1, a1, th1, LP1, tf1⟩ := z_1
  obtain ⟨rfl, hCI1⟩ := hw_1
  refine lv_aload_n hx hb dL_law_603 rfl (lv_at hl 3 rfl) ?_
  refine lv_aload_n hx hb dL_law_604 rfl (lv_at hl 1 rfl) ?_
  refine lv_iload_n hx hb dL_law_605 rfl (lv_at hl 0 rfl) ?_
  refine lv_iconst (v := (nI 1)) hx hb dL_law_606 rfl ?_
  refine rn_iadd (x := i) (y := 1) hx hb dL_law_607 ?_
  refine wSld hx hb hX0 hbl hbA hS (j := i + 1) (by omega) hL dL_law_608 ?_
  refine lv_aload_n hx hb dL_law_609 rfl (lv_at hl 1 rfl) ?_
  refine lv_iload_n hx hb dL_law_610 rfl (lv_at hl 0 rfl) ?_
  refine lv_iconst (v := (nI 2)) hx hb dL_law_611 rfl ?_
  refine rn_iadd (x := i) (y := 2) hx hb dL_law_612 ?_
  refine wSld hx hb hX0 hbl hbA hS (j := i + 2) (by omega) hL dL_law_613 ?_
  refine w2Vi e0_S (As := [.int (xs (i + 1)), .int (xs (i + 2))]) (rest := [.int (aTwo g T (xs (i + 1)) (xs (i + 2)))]) ⟨hx, hb, hml, hown, hts⟩ (kX10_two l D cA rM _ um am g T R so ln ce f tr (xs (i + 1)) (xs (i + 2)) hMI) (cwV 2 hts gL_law_X10_two rfl rfl rfl (by decide +kernel) ⟨Nat.le_of_ble_eq_true rfl, Nat.le_of_ble_eq_true rfl⟩) (va_recv hK hPM (ci := 10) (q0 := 0) rfl rfl) hK hPM hDM hPN (fun i j p q hi hj e9 => hX j i q p hj hi e9.symm) hS hA trivial rfl hl.1 rfl (Nat.le_of_ble_eq_true rfl) dL_law_614 ⟨by show cells + 0 + 0 ≤ 600000; omega, by show slots + 0 + 0 ≤ 7302250; omega⟩ (fun rv_2 z_2 H locs hw_2 hPM hDM hPN hX2 hS => ?_)
  obtain ⟨um1, am1⟩ := z_2
  obtain ⟨rfl, hMI1⟩ := hw_2
  refine lv_icmp_eq (tgt := 1104) hx hb dL_law_617 (by decide) (fun _ => ?_) (fun c9 => absurd rfl c9)
  refine W.widen (k := cells + 6) (n := slots + 30) (by omega) (by omega) ?_
  exact kk _ _ _ ⟨_, _, _, _, _, _, _, _, _, _, _, _, _, _, _, hCI1, hMI1, hPN, hDN, hPM, hDM, fun i j p q hi hj e9 => hX2 j i q p hj hi e9.symm, hS⟩ hl

set_option maxHeartbeats 4000000 in
set_option maxRecDepth 100000 in
theorem law_site {p : Program} {l : Launch} {e : Env} {s : State} {m : MethodId} {below : List Frame} {meth : Method} {c : Code} {H : Heap} {locs : List Loc} {cells slots : Nat} {Q : State → Prop} {ls : Array Slot} {D : va_G} {cA : Nat → ClassId} {rN rM : Nat → Nat} {b L i tO : Nat} {xs : Nat → Int32} (hx : p.tables.exec = Jvm.exec) (hb : c.code = code) (hml : c.maxLocals = 4) (hown : s.vm.findClass RL = some m.cls) (hts : ∀ w ∈ wsL_law, w.before #[Value.ref b] s = true) (hX0 : va_X b L xs s s.heap) (hbl : b < s.heap.size) (hL : L ≤ 3072) (hK : va_K D vwCl (tyA cA) s) (hE : eO tO (fun q : Nat => s.heap.size ≤ q) s s.heap) (hi : i + 6 ≤ L) (hc6 : cells + 6 ≤ 600000) (hs30 : slots + 30 ≤ 7302250) (hI : lI D cA rN rM (fun q : Nat => s.heap.size ≤ q) s.heap H locs) (hl : lv_has ls 4 [(3, .int (nI i)), (0, .ref b), (1, .ref (rN 0)), (2, .ref (rM 0))])
    (kk : ∀ (H1 : Heap) (locs1 : List Loc) (ls1 : Array Slot), lI D cA rN rM (fun q : Nat => s.heap.size ≤ q) s.heap H1 locs1 → lv_has ls1 4 [(3, .int (nI i)), (0, .ref b), (1, .ref (rN 0)), (2, .ref (rM 0))] → W p l e room_1 s m #[Value.ref b] below meth c H1 locs1 (cells + 6) (slots + 30) Q (F0 m 1104 ls1 [])) : W p l e room_1 s m #[Value.ref b] below meth c H locs cells slots Q (F0 m 622 ls []) := by
  obtain ⟨u, a, th, LP, tf, um, am, g, T, R, so, ln, ce, f, tr, hCI, hMI, hPN, hDN, hPM, hDM, hX, hS⟩ := hI
  have hA : ∀ q : Nat, s.heap.size ≤ q → (fun q : Nat => s.heap.size ≤ q) q := fun _ h => h
  have hbA : ¬ (fun q : Nat => s.heap.size ≤ q) b := Nat.not_le.mpr hbl
  refine lv_aload_n hx hb dL_law_622 rfl (lv_at hl 2 rfl) ?_
  refine lv_aload_n hx hb dL_law_623 rfl (lv_at hl 1 rfl) ?_
  refine lv_iload_n hx hb dL_law_624 rfl (lv_at hl 0 rfl) ?_
  refine lv_iconst (v := (nI 1)) hx hb dL_law_625 rfl ?_
  refine rn_iadd (x := i) (y := 1) hx hb dL_law_626 ?_
  refine wSld hx hb hX0 hbl hbA hS (j := i + 1) (by omega) hL dL_law_627 ?_
  refine lv_aload_n hx hb dL_law_628 rfl (lv_at hl 1 rfl) ?_
  refine lv_iload_n hx hb dL_law_629 rfl (lv_at hl 0 rfl) ?_
  refine lv_iconst (v := (nI 2)) hx hb dL_law_630 rfl ?_
  refine rn_iadd (x := i) (y := 2) hx hb dL_law_631 ?_
  refine wSld hx hb hX0 hbl hbA hS (j := i + 2) (by omega) hL dL_law_632 ?_
  refine w2Vi (eO_S tO) (As := [.int (xs (i + 1)), .int (xs (i + 2))]) (rest := []) ⟨hx, hb, hml, hown, hts⟩ (kX9_site l D cA rN _ u a th LP tf tO g T R so ln ce f tr (xs (i + 1)) (xs (i + 2)) hCI) (cwV 2 hts gL_law_X9_site rfl rfl rfl (by decide +kernel) ⟨Nat.le_of_ble_eq_true rfl, Nat.le_of_ble_eq_true rfl⟩) (va_recv hK hPN (ci := 9) (q0 := 0) rfl rfl) hK hPN hDN hPM hX hS hA hE rfl hl.1 rfl (Nat.le_of_ble_eq_true rfl) dL_law_633 ⟨by show cells + 0 ≤ 600000; omega, by show slots + 0 ≤ 7302250; omega⟩ (fun rv_1 z_1 H locs hw_1 hPN hDN hPM hX hS => ?_)
  obtain ⟨u1, a1, th1, LP1, tf1⟩ := z_1
  obtain ⟨rfl, hCI1⟩ := hw_1
  refine lv_aload_n hx hb dL_law_636 rfl (lv_at hl 3 rfl) ?_
  refine lv_aload_n hx hb dL_law_637 rfl (lv_at hl 1 rfl) ?_
  refine lv_iload_n hx hb dL_law_638 rfl (lv_at hl 0 rfl) ?_
  refine lv_iconst (v := (nI 1)) hx hb dL_law_639 rfl ?_
  refine rn_iadd (x := i) (y := 1) hx hb dL_law_640 ?_
  refine wSld hx hb hX0 hbl hbA hS (j := i + 1) (by omega) hL dL_law_641 ?_
  refine lv_aload_n hx hb dL_law_642 rfl (lv_at hl 1 rfl) ?_
  refine lv_iload_n hx hb dL_law_643 rfl (lv_at hl 0 rfl) ?_
  refine lv_iconst (v := (nI 2)) hx hb dL_law_644 rfl ?_
  refine rn_iadd (x := i) (y := 2) hx hb dL_law_645 ?_
  refine wSld hx hb hX0 hbl hbA hS (j := i + 2) (by omega) hL dL_law_646 ?_
  refine w2Vi e0_S (As := [.int (xs (i + 1)), .int (xs (i + 2))]) (rest := [.int (aSite g T (xs (i + 1)) (xs (i + 2)))]) ⟨hx, hb, hml, hown, hts⟩ (kX10_site l D cA rM _ um am g T R so ln ce f tr (xs (i + 1)) (xs (i + 2)) hMI) (cwV 2 hts gL_law_X10_site rfl rfl rfl (by decide +kernel) ⟨Nat.le_of_ble_eq_true rfl, Nat.le_of_ble_eq_true rfl⟩) (va_recv hK hPM (ci := 10) (q0 := 0) rfl rfl) hK hPM hDM hPN (fun i j p q hi hj e9 => hX j i q p hj hi e9.symm) hS hA trivial rfl hl.1 rfl (Nat.le_of_ble_eq_true rfl) dL_law_647 ⟨by show cells + 0 + 0 ≤ 600000; omega, by show slots + 0 + 0 ≤ 7302250; omega⟩ (fun rv_2 z_2 H locs hw_2 hPM hDM hPN hX2 hS => ?_)
  obtain ⟨um1, am1⟩ := z_2
  obtain ⟨rfl, hMI1⟩ := hw_2
  refine lv_icmp_eq (tgt := 1104) hx hb dL_law_650 (by decide) (fun _ => ?_) (fun c9 => absurd rfl c9)
  refine W.widen (k := cells + 6) (n := slots + 30) (by omega) (by omega) ?_
  exact kk _ _ _ ⟨_, _, _, _, _, _, _, _, _, _, _, _, _, _, _, hCI1, hMI1, hPN, hDN, hPM, hDM, fun i j p q hi hj e9 => hX2 j i q p hj hi e9.symm, hS⟩ hl

set_option maxHeartbeats 4000000 in
set_option maxRecDepth 100000 in
theorem law_reading {p : Program} {l : Launch} {e : Env} {s : State} {m : MethodId} {below : List Frame} {meth : Method} {c : Code} {H : Heap} {locs : List Loc} {cells slots : Nat} {Q : State → Prop} {ls : Array Slot} {D : va_G} {cA : Nat → ClassId} {rN rM : Nat → Nat} {b L i tO : Nat} {xs : Nat → Int32} (hx : p.tables.exec = Jvm.exec) (hb : c.code = code) (hml : c.maxLocals = 4) (hown : s.vm.findClass RL = some m.cls) (hts : ∀ w ∈ wsL_law, w.before #[Value.ref b] s = true) (hX0 : va_X b L xs s s.heap) (hbl : b < s.heap.size) (hL : L ≤ 3072) (hK : va_K D vwCl (tyA cA) s) (hE : eO tO (fun q : Nat => s.heap.size ≤ q) s s.heap) (hi : i + 6 ≤ L) (hc6 : cells + 6 ≤ 600000) (hs30 : slots + 30 ≤ 7302250) (hI : lI D cA rN rM (fun q : Nat => s.heap.size ≤ q) s.heap H locs) (hl : lv_has ls 4 [(3, .int (nI i)), (0, .ref b), (1, .ref (rN 0)), (2, .ref (rM 0))])
    (kk : ∀ (H1 : Heap) (locs1 : List Loc) (ls1 : Array Slot), lI D cA rN rM (fun q : Nat => s.heap.size ≤ q) s.heap H1 locs1 → lv_has ls1 4 [(3, .int (nI i)), (0, .ref b), (1, .ref (rN 0)), (2, .ref (rM 0))] → W p l e room_1 s m #[Value.ref b] below meth c H1 locs1 (cells + 6) (slots + 30) Q (F0 m 1104 ls1 [])) : W p l e room_1 s m #[Value.ref b] below meth c H locs cells slots Q (F0 m 655 ls []) := by
  obtain ⟨u, a, th, LP, tf, um, am, g, T, R, so, ln, ce, f, tr, hCI, hMI, hPN, hDN, hPM, hDM, hX, hS⟩ := hI
  have hA : ∀ q : Nat, s.heap.size ≤ q → (fun q : Nat => s.heap.size ≤ q) q := fun _ h => h
  have hbA : ¬ (fun q : Nat => s.heap.size ≤ q) b := Nat.not_le.mpr hbl
  refine lv_aload_n hx hb dL_law_655 rfl (lv_at hl 2 rfl) ?_
  refine lv_aload_n hx hb dL_law_656 rfl (lv_at hl 1 rfl) ?_
  refine lv_iload_n hx hb dL_law_657 rfl (lv_at hl 0 rfl) ?_
  refine lv_iconst (v := (nI 1)) hx hb dL_law_658 rfl ?_
  refine rn_iadd (x := i) (y := 1) hx hb dL_law_659 ?_
  refine wSld hx hb hX0 hbl hbA hS (j := i + 1) (by omega) hL dL_law_660 ?_
  refine lv_aload_n hx hb dL_law_661 rfl (lv_at hl 1 rfl) ?_
  refine lv_iload_n hx hb dL_law_662 rfl (lv_at hl 0 rfl) ?_
  refine lv_iconst (v := (nI 2)) hx hb dL_law_663 rfl ?_
  refine rn_iadd (x := i) (y := 2) hx hb dL_law_664 ?_
  refine wSld hx hb hX0 hbl hbA hS (j := i + 2) (by omega) hL dL_law_665 ?_
  refine lv_aload_n hx hb dL_law_666 rfl (lv_at hl 1 rfl) ?_
  refine lv_iload_n hx hb dL_law_667 rfl (lv_at hl 0 rfl) ?_
  refine lv_iconst (v := (nI 3)) hx hb dL_law_668 rfl ?_
  refine rn_iadd (x := i) (y := 3) hx hb dL_law_669 ?_
  refine wSld hx hb hX0 hbl hbA hS (j := i + 3) (by omega) hL dL_law_670 ?_
  refine lv_if_eq (tgt := 678) hx hb dL_law_671 (by decide) (fun c7 => ?_) (fun c7 => ?_)
  · refine lv_iconst (v := (nI 0)) hx hb dL_law_678 rfl ?_
    refine w2Vi (eO_S tO) (As := [.int (xs (i + 1)), .int (xs (i + 2)), .int (nI 0)]) (rest := []) ⟨hx, hb, hml, hown, hts⟩ (kX9_reading l D cA rN _ u a th LP tf tO g T R so ln ce f tr (xs (i + 1)) (xs (i + 2)) (nI 0) hCI (by first | exact Or.inl rfl | exact Or.inr rfl)) (cwV 3 hts gL_law_X9_reading rfl rfl rfl (by decide +kernel) ⟨Nat.le_of_ble_eq_true rfl, Nat.le_of_ble_eq_true rfl⟩) (va_recv hK hPN (ci := 9) (q0 := 0) rfl rfl) hK hPN hDN hPM hX hS hA hE rfl hl.1 rfl (Nat.le_of_ble_eq_true rfl) dL_law_679 ⟨by show cells + 0 ≤ 600000; omega, by show slots + 0 ≤ 7302250; omega⟩ (fun rv_1 z_1 H locs hw_1 hPN hDN hPM hX hS => ?_)
    obtain ⟨u1, a1, th1, LP1, tf1⟩ := z_1
    obtain ⟨rfl, hCI1⟩ := hw_1
    refine lv_aload_n hx hb dL_law_682 rfl (lv_at hl 3 rfl) ?_
    refine lv_aload_n hx hb dL_law_683 rfl (lv_at hl 1 rfl) ?_
    refine lv_iload_n hx hb dL_law_684 rfl (lv_at hl 0 rfl) ?_
    refine lv_iconst (v := (nI 1)) hx hb dL_law_685 rfl ?_
    refine rn_iadd (x := i) (y := 1) hx hb dL_law_686 ?_
    refine wSld hx hb hX0 hbl hbA hS (j := i + 1) (by omega) hL dL_law_687 ?_
    refine lv_aload_n hx hb dL_law_688 rfl (lv_at hl 1 rfl) ?_
    refine lv_iload_n hx hb dL_law_689 rfl (lv_at hl 0 rfl) ?_
    refine lv_iconst (v := (nI 2)) hx hb dL_law_690 rfl ?_
    refine rn_iadd (x := i) (y := 2) hx hb dL_law_691 ?_
    refine wSld hx hb hX0 hbl hbA hS (j := i + 2) (by omega) hL dL_law_692 ?_
    refine lv_aload_n hx hb dL_law_693 rfl (lv_at hl 1 rfl) ?_
    refine lv_iload_n hx hb dL_law_694 rfl (lv_at hl 0 rfl) ?_
    refine lv_iconst (v := (nI 3)) hx hb dL_law_695 rfl ?_
    refine rn_iadd (x := i) (y := 3) hx hb dL_law_696 ?_
    refine wSld hx hb hX0 hbl hbA hS (j := i + 3) (by omega) hL dL_law_697 ?_
    refine lv_if_eq (tgt := 705) hx hb dL_law_698 (by decide) (fun _ => ?_) (fun c9 => absurd c7 c9)
    refine lv_iconst (v := (nI 0)) hx hb dL_law_705 rfl ?_
    refine w2Vi e0_S (As := [.int (xs (i + 1)), .int (xs (i + 2)), .int (nI 0)]) (rest := [.int (aRead g (xs (i + 1)) (xs (i + 2)))]) ⟨hx, hb, hml, hown, hts⟩ (kX10_reading l D cA rM _ um am g T R so ln ce f tr (xs (i + 1)) (xs (i + 2)) (nI 0) hMI (by first | exact Or.inl rfl | exact Or.inr rfl)) (cwV 3 hts gL_law_X10_reading rfl rfl rfl (by decide +kernel) ⟨Nat.le_of_ble_eq_true rfl, Nat.le_of_ble_eq_true rfl⟩) (va_recv hK hPM (ci := 10) (q0 := 0) rfl rfl) hK hPM hDM hPN (fun i j p q hi hj e9 => hX j i q p hj hi e9.symm) hS hA trivial rfl hl.1 rfl (Nat.le_of_ble_eq_true rfl) dL_law_706 ⟨by show cells + 0 + 0 ≤ 600000; omega, by show slots + 0 + 0 ≤ 7302250; omega⟩ (fun rv_2 z_2 H locs hw_2 hPM hDM hPN hX2 hS => ?_)
    obtain ⟨um1, am1⟩ := z_2
    obtain ⟨rfl, hMI1⟩ := hw_2
    refine lv_icmp_eq (tgt := 1104) hx hb dL_law_709 (by decide) (fun _ => ?_) (fun c9 => absurd rfl c9)
    refine W.widen (k := cells + 6) (n := slots + 30) (by omega) (by omega) ?_
    exact kk _ _ _ ⟨_, _, _, _, _, _, _, _, _, _, _, _, _, _, _, hCI1, hMI1, hPN, hDN, hPM, hDM, fun i j p q hi hj e9 => hX2 j i q p hj hi e9.symm, hS⟩ hl
  · refine lv_iconst (v := (nI 1)) hx hb dL_law_674 rfl ?_
    refine lv_goto (tgt := 679) hx hb dL_law_675 (by decide) ?_
    refine w2Vi (eO_S tO) (As := [.int (xs (i + 1)), .int (xs (i + 2)), .int (nI 1)]) (rest := []) ⟨hx, hb, hml, hown, hts⟩ (kX9_reading l D cA rN _ u a th LP tf tO g T R so ln ce f tr (xs (i + 1)) (xs (i + 2)) (nI 1) hCI (by first | exact Or.inl rfl | exact Or.inr rfl)) (cwV 3 hts gL_law_X9_reading rfl rfl rfl (by decide +kernel) ⟨Nat.le_of_ble_eq_true rfl, Nat.le_of_ble_eq_true rfl⟩) (va_recv hK hPN (ci := 9) (q0 := 0) rfl rfl) hK hPN hDN hPM hX hS hA hE rfl hl.1 rfl (Nat.le_of_ble_eq_true rfl) dL_law_679 ⟨by show cells + 0 ≤ 600000; omega, by show slots + 0 ≤ 7302250; omega⟩ (fun rv_1 z_1 H locs hw_1 hPN hDN hPM hX hS => ?_)
    obtain ⟨u1, a1, th1, LP1, tf1⟩ := z_1
    obtain ⟨rfl, hCI1⟩ := hw_1
    refine lv_aload_n hx hb dL_law_682 rfl (lv_at hl 3 rfl) ?_
    refine lv_aload_n hx hb dL_law_683 rfl (lv_at hl 1 rfl) ?_
    refine lv_iload_n hx hb dL_law_684 rfl (lv_at hl 0 rfl) ?_
    refine lv_iconst (v := (nI 1)) hx hb dL_law_685 rfl ?_
    refine rn_iadd (x := i) (y := 1) hx hb dL_law_686 ?_
    refine wSld hx hb hX0 hbl hbA hS (j := i + 1) (by omega) hL dL_law_687 ?_
    refine lv_aload_n hx hb dL_law_688 rfl (lv_at hl 1 rfl) ?_
    refine lv_iload_n hx hb dL_law_689 rfl (lv_at hl 0 rfl) ?_
    refine lv_iconst (v := (nI 2)) hx hb dL_law_690 rfl ?_
    refine rn_iadd (x := i) (y := 2) hx hb dL_law_691 ?_
    refine wSld hx hb hX0 hbl hbA hS (j := i + 2) (by omega) hL dL_law_692 ?_
    refine lv_aload_n hx hb dL_law_693 rfl (lv_at hl 1 rfl) ?_
    refine lv_iload_n hx hb dL_law_694 rfl (lv_at hl 0 rfl) ?_
    refine lv_iconst (v := (nI 3)) hx hb dL_law_695 rfl ?_
    refine rn_iadd (x := i) (y := 3) hx hb dL_law_696 ?_
    refine wSld hx hb hX0 hbl hbA hS (j := i + 3) (by omega) hL dL_law_697 ?_
    refine lv_if_eq (tgt := 705) hx hb dL_law_698 (by decide) (fun c9 => absurd c9 c7) (fun _ => ?_)
    refine lv_iconst (v := (nI 1)) hx hb dL_law_701 rfl ?_
    refine lv_goto (tgt := 706) hx hb dL_law_702 (by decide) ?_
    refine w2Vi e0_S (As := [.int (xs (i + 1)), .int (xs (i + 2)), .int (nI 1)]) (rest := [.int (aRead g (xs (i + 1)) (xs (i + 2)))]) ⟨hx, hb, hml, hown, hts⟩ (kX10_reading l D cA rM _ um am g T R so ln ce f tr (xs (i + 1)) (xs (i + 2)) (nI 1) hMI (by first | exact Or.inl rfl | exact Or.inr rfl)) (cwV 3 hts gL_law_X10_reading rfl rfl rfl (by decide +kernel) ⟨Nat.le_of_ble_eq_true rfl, Nat.le_of_ble_eq_true rfl⟩) (va_recv hK hPM (ci := 10) (q0 := 0) rfl rfl) hK hPM hDM hPN (fun i j p q hi hj e9 => hX j i q p hj hi e9.symm) hS hA trivial rfl hl.1 rfl (Nat.le_of_ble_eq_true rfl) dL_law_706 ⟨by show cells + 0 + 0 ≤ 600000; omega, by show slots + 0 + 0 ≤ 7302250; omega⟩ (fun rv_2 z_2 H locs hw_2 hPM hDM hPN hX2 hS => ?_)
    obtain ⟨um1, am1⟩ := z_2
    obtain ⟨rfl, hMI1⟩ := hw_2
    refine lv_icmp_eq (tgt := 1104) hx hb dL_law_709 (by decide) (fun _ => ?_) (fun c9 => absurd rfl c9)
    refine W.widen (k := cells + 6) (n := slots + 30) (by omega) (by omega) ?_
    exact kk _ _ _ ⟨_, _, _, _, _, _, _, _, _, _, _, _, _, _, _, hCI1, hMI1, hPN, hDN, hPM, hDM, fun i j p q hi hj e9 => hX2 j i q p hj hi e9.symm, hS⟩ hl

set_option maxHeartbeats 4000000 in
set_option maxRecDepth 100000 in
theorem law_back {p : Program} {l : Launch} {e : Env} {s : State} {m : MethodId} {below : List Frame} {meth : Method} {c : Code} {H : Heap} {locs : List Loc} {cells slots : Nat} {Q : State → Prop} {ls : Array Slot} {D : va_G} {cA : Nat → ClassId} {rN rM : Nat → Nat} {b L i tO : Nat} {xs : Nat → Int32} (hx : p.tables.exec = Jvm.exec) (hb : c.code = code) (hml : c.maxLocals = 4) (hown : s.vm.findClass RL = some m.cls) (hts : ∀ w ∈ wsL_law, w.before #[Value.ref b] s = true) (hX0 : va_X b L xs s s.heap) (hbl : b < s.heap.size) (hL : L ≤ 3072) (hK : va_K D vwCl (tyA cA) s) (hE : eO tO (fun q : Nat => s.heap.size ≤ q) s s.heap) (hi : i + 6 ≤ L) (hc6 : cells + 6 ≤ 600000) (hs30 : slots + 30 ≤ 7302250) (hI : lI D cA rN rM (fun q : Nat => s.heap.size ≤ q) s.heap H locs) (hl : lv_has ls 4 [(3, .int (nI i)), (0, .ref b), (1, .ref (rN 0)), (2, .ref (rM 0))])
    (kk : ∀ (H1 : Heap) (locs1 : List Loc) (ls1 : Array Slot), lI D cA rN rM (fun q : Nat => s.heap.size ≤ q) s.heap H1 locs1 → lv_has ls1 4 [(3, .int (nI i)), (0, .ref b), (1, .ref (rN 0)), (2, .ref (rM 0))] → W p l e room_1 s m #[Value.ref b] below meth c H1 locs1 (cells + 6) (slots + 30) Q (F0 m 1104 ls1 [])) : W p l e room_1 s m #[Value.ref b] below meth c H locs cells slots Q (F0 m 714 ls []) := by
  obtain ⟨u, a, th, LP, tf, um, am, g, T, R, so, ln, ce, f, tr, hCI, hMI, hPN, hDN, hPM, hDM, hX, hS⟩ := hI
  have hA : ∀ q : Nat, s.heap.size ≤ q → (fun q : Nat => s.heap.size ≤ q) q := fun _ h => h
  have hbA : ¬ (fun q : Nat => s.heap.size ≤ q) b := Nat.not_le.mpr hbl
  refine lv_aload_n hx hb dL_law_714 rfl (lv_at hl 2 rfl) ?_
  refine lv_aload_n hx hb dL_law_715 rfl (lv_at hl 1 rfl) ?_
  refine lv_iload_n hx hb dL_law_716 rfl (lv_at hl 0 rfl) ?_
  refine lv_iconst (v := (nI 1)) hx hb dL_law_717 rfl ?_
  refine rn_iadd (x := i) (y := 1) hx hb dL_law_718 ?_
  refine wSld hx hb hX0 hbl hbA hS (j := i + 1) (by omega) hL dL_law_719 ?_
  refine w2Vi (eO_S tO) (As := [.int (xs (i + 1))]) (rest := []) ⟨hx, hb, hml, hown, hts⟩ (kX9_back l D cA rN _ u a th LP tf tO g T R so ln ce f tr (xs (i + 1)) hCI) (cwV 1 hts gL_law_X9_back rfl rfl rfl (by decide +kernel) ⟨Nat.le_of_ble_eq_true rfl, Nat.le_of_ble_eq_true rfl⟩) (va_recv hK hPN (ci := 9) (q0 := 0) rfl rfl) hK hPN hDN hPM hX hS hA hE rfl hl.1 rfl (Nat.le_of_ble_eq_true rfl) dL_law_720 ⟨by show cells + 0 ≤ 600000; omega, by show slots + 0 ≤ 7302250; omega⟩ (fun rv_1 z_1 H locs hw_1 hPN hDN hPM hX hS => ?_)
  obtain ⟨u1, a1, th1, LP1, tf1⟩ := z_1
  obtain ⟨rfl, hCI1⟩ := hw_1
  refine lv_aload_n hx hb dL_law_723 rfl (lv_at hl 3 rfl) ?_
  refine lv_aload_n hx hb dL_law_724 rfl (lv_at hl 1 rfl) ?_
  refine lv_iload_n hx hb dL_law_725 rfl (lv_at hl 0 rfl) ?_
  refine lv_iconst (v := (nI 1)) hx hb dL_law_726 rfl ?_
  refine rn_iadd (x := i) (y := 1) hx hb dL_law_727 ?_
  refine wSld hx hb hX0 hbl hbA hS (j := i + 1) (by omega) hL dL_law_728 ?_
  refine w2Vi e0_S (As := [.int (xs (i + 1))]) (rest := [.int (aBack g (xs (i + 1)))]) ⟨hx, hb, hml, hown, hts⟩ (kX10_back l D cA rM _ um am g T R so ln ce f tr (xs (i + 1)) hMI) (cwV 1 hts gL_law_X10_back rfl rfl rfl (by decide +kernel) ⟨Nat.le_of_ble_eq_true rfl, Nat.le_of_ble_eq_true rfl⟩) (va_recv hK hPM (ci := 10) (q0 := 0) rfl rfl) hK hPM hDM hPN (fun i j p q hi hj e9 => hX j i q p hj hi e9.symm) hS hA trivial rfl hl.1 rfl (Nat.le_of_ble_eq_true rfl) dL_law_729 ⟨by show cells + 0 + 0 ≤ 600000; omega, by show slots + 0 + 0 ≤ 7302250; omega⟩ (fun rv_2 z_2 H locs hw_2 hPM hDM hPN hX2 hS => ?_)
  obtain ⟨um1, am1⟩ := z_2
  obtain ⟨rfl, hMI1⟩ := hw_2
  refine lv_icmp_eq (tgt := 1104) hx hb dL_law_732 (by decide) (fun _ => ?_) (fun c9 => absurd rfl c9)
  refine W.widen (k := cells + 6) (n := slots + 30) (by omega) (by omega) ?_
  exact kk _ _ _ ⟨_, _, _, _, _, _, _, _, _, _, _, _, _, _, _, hCI1, hMI1, hPN, hDN, hPM, hDM, fun i j p q hi hj e9 => hX2 j i q p hj hi e9.symm, hS⟩ hl

set_option maxHeartbeats 4000000 in
set_option maxRecDepth 100000 in
theorem law_fits {p : Program} {l : Launch} {e : Env} {s : State} {m : MethodId} {below : List Frame} {meth : Method} {c : Code} {H : Heap} {locs : List Loc} {cells slots : Nat} {Q : State → Prop} {ls : Array Slot} {D : va_G} {cA : Nat → ClassId} {rN rM : Nat → Nat} {b L i tO : Nat} {xs : Nat → Int32} (hx : p.tables.exec = Jvm.exec) (hb : c.code = code) (hml : c.maxLocals = 4) (hown : s.vm.findClass RL = some m.cls) (hts : ∀ w ∈ wsL_law, w.before #[Value.ref b] s = true) (hX0 : va_X b L xs s s.heap) (hbl : b < s.heap.size) (hL : L ≤ 3072) (hK : va_K D vwCl (tyA cA) s) (hE : eO tO (fun q : Nat => s.heap.size ≤ q) s s.heap) (hi : i + 6 ≤ L) (hc6 : cells + 6 ≤ 600000) (hs30 : slots + 30 ≤ 7302250) (hI : lI D cA rN rM (fun q : Nat => s.heap.size ≤ q) s.heap H locs) (hl : lv_has ls 4 [(3, .int (nI i)), (0, .ref b), (1, .ref (rN 0)), (2, .ref (rM 0))])
    (kk : ∀ (H1 : Heap) (locs1 : List Loc) (ls1 : Array Slot), lI D cA rN rM (fun q : Nat => s.heap.size ≤ q) s.heap H1 locs1 → lv_has ls1 4 [(3, .int (nI i)), (0, .ref b), (1, .ref (rN 0)), (2, .ref (rM 0))] → W p l e room_1 s m #[Value.ref b] below meth c H1 locs1 (cells + 6) (slots + 30) Q (F0 m 1104 ls1 [])) : W p l e room_1 s m #[Value.ref b] below meth c H locs cells slots Q (F0 m 737 ls []) := by
  obtain ⟨u, a, th, LP, tf, um, am, g, T, R, so, ln, ce, f, tr, hCI, hMI, hPN, hDN, hPM, hDM, hX, hS⟩ := hI
  have hA : ∀ q : Nat, s.heap.size ≤ q → (fun q : Nat => s.heap.size ≤ q) q := fun _ h => h
  have hbA : ¬ (fun q : Nat => s.heap.size ≤ q) b := Nat.not_le.mpr hbl
  refine lv_aload_n hx hb dL_law_737 rfl (lv_at hl 2 rfl) ?_
  refine lv_aload_n hx hb dL_law_738 rfl (lv_at hl 1 rfl) ?_
  refine lv_iload_n hx hb dL_law_739 rfl (lv_at hl 0 rfl) ?_
  refine lv_iconst (v := (nI 1)) hx hb dL_law_740 rfl ?_
  refine rn_iadd (x := i) (y := 1) hx hb dL_law_741 ?_
  refine wSld hx hb hX0 hbl hbA hS (j := i + 1) (by omega) hL dL_law_742 ?_
  refine w2Vi (eO_S tO) (As := [.int (xs (i + 1))]) (rest := []) ⟨hx, hb, hml, hown, hts⟩ (kX9_fits l D cA rN _ u a th LP tf tO g T R so ln ce f tr (xs (i + 1)) hCI) (cwV 1 hts gL_law_X9_fits rfl rfl rfl (by decide +kernel) ⟨Nat.le_of_ble_eq_true rfl, Nat.le_of_ble_eq_true rfl⟩) (va_recv hK hPN (ci := 9) (q0 := 0) rfl rfl) hK hPN hDN hPM hX hS hA hE rfl hl.1 rfl (Nat.le_of_ble_eq_true rfl) dL_law_743 ⟨by show cells + 0 ≤ 600000; omega, by show slots + 0 ≤ 7302250; omega⟩ (fun rv_1 z_1 H locs hw_1 hPN hDN hPM hX hS => ?_)
  obtain ⟨u1, a1, th1, LP1, tf1⟩ := z_1
  obtain ⟨rfl, hCI1⟩ := hw_1
  refine lv_aload_n hx hb dL_law_746 rfl (lv_at hl 3 rfl) ?_
  refine lv_aload_n hx hb dL_law_747 rfl (lv_at hl 1 rfl) ?_
  refine lv_iload_n hx hb dL_law_748 rfl (lv_at hl 0 rfl) ?_
  refine lv_iconst (v := (nI 1)) hx hb dL_law_749 rfl ?_
  refine rn_iadd (x := i) (y := 1) hx hb dL_law_750 ?_
  refine wSld hx hb hX0 hbl hbA hS (j := i + 1) (by omega) hL dL_law_751 ?_
  refine w2Vi e0_S (As := [.int (xs (i + 1))]) (rest := [.int (aFits g T R (xs (i + 1)))]) ⟨hx, hb, hml, hown, hts⟩ (kX10_fits l D cA rM _ um am g T R so ln ce f tr (xs (i + 1)) hMI) (cwV 1 hts gL_law_X10_fits rfl rfl rfl (by decide +kernel) ⟨Nat.le_of_ble_eq_true rfl, Nat.le_of_ble_eq_true rfl⟩) (va_recv hK hPM (ci := 10) (q0 := 0) rfl rfl) hK hPM hDM hPN (fun i j p q hi hj e9 => hX j i q p hj hi e9.symm) hS hA trivial rfl hl.1 rfl (Nat.le_of_ble_eq_true rfl) dL_law_752 ⟨by show cells + 0 + 0 ≤ 600000; omega, by show slots + 0 + 0 ≤ 7302250; omega⟩ (fun rv_2 z_2 H locs hw_2 hPM hDM hPN hX2 hS => ?_)
  obtain ⟨um1, am1⟩ := z_2
  obtain ⟨rfl, hMI1⟩ := hw_2
  refine lv_icmp_eq (tgt := 1104) hx hb dL_law_755 (by decide) (fun _ => ?_) (fun c9 => absurd rfl c9)
  refine W.widen (k := cells + 6) (n := slots + 30) (by omega) (by omega) ?_
  exact kk _ _ _ ⟨_, _, _, _, _, _, _, _, _, _, _, _, _, _, _, hCI1, hMI1, hPN, hDN, hPM, hDM, fun i j p q hi hj e9 => hX2 j i q p hj hi e9.symm, hS⟩ hl

set_option maxHeartbeats 4000000 in
set_option maxRecDepth 100000 in
theorem law_sheet {p : Program} {l : Launch} {e : Env} {s : State} {m : MethodId} {below : List Frame} {meth : Method} {c : Code} {H : Heap} {locs : List Loc} {cells slots : Nat} {Q : State → Prop} {ls : Array Slot} {D : va_G} {cA : Nat → ClassId} {rN rM : Nat → Nat} {b L i tO : Nat} {xs : Nat → Int32} (hx : p.tables.exec = Jvm.exec) (hb : c.code = code) (hml : c.maxLocals = 4) (hown : s.vm.findClass RL = some m.cls) (hts : ∀ w ∈ wsL_law, w.before #[Value.ref b] s = true) (hX0 : va_X b L xs s s.heap) (hbl : b < s.heap.size) (hL : L ≤ 3072) (hK : va_K D vwCl (tyA cA) s) (hE : eO tO (fun q : Nat => s.heap.size ≤ q) s s.heap) (hi : i + 6 ≤ L) (hc6 : cells + 6 ≤ 600000) (hs30 : slots + 30 ≤ 7302250) (hI : lI D cA rN rM (fun q : Nat => s.heap.size ≤ q) s.heap H locs) (hl : lv_has ls 4 [(3, .int (nI i)), (0, .ref b), (1, .ref (rN 0)), (2, .ref (rM 0))])
    (kk : ∀ (H1 : Heap) (locs1 : List Loc) (ls1 : Array Slot), lI D cA rN rM (fun q : Nat => s.heap.size ≤ q) s.heap H1 locs1 → lv_has ls1 4 [(3, .int (nI i)), (0, .ref b), (1, .ref (rN 0)), (2, .ref (rM 0))] → W p l e room_1 s m #[Value.ref b] below meth c H1 locs1 (cells + 6) (slots + 30) Q (F0 m 1104 ls1 [])) : W p l e room_1 s m #[Value.ref b] below meth c H locs cells slots Q (F0 m 760 ls []) := by
  obtain ⟨u, a, th, LP, tf, um, am, g, T, R, so, ln, ce, f, tr, hCI, hMI, hPN, hDN, hPM, hDM, hX, hS⟩ := hI
  have hA : ∀ q : Nat, s.heap.size ≤ q → (fun q : Nat => s.heap.size ≤ q) q := fun _ h => h
  have hbA : ¬ (fun q : Nat => s.heap.size ≤ q) b := Nat.not_le.mpr hbl
  refine lv_aload_n hx hb dL_law_760 rfl (lv_at hl 2 rfl) ?_
  refine lv_aload_n hx hb dL_law_761 rfl (lv_at hl 1 rfl) ?_
  refine lv_iload_n hx hb dL_law_762 rfl (lv_at hl 0 rfl) ?_
  refine lv_iconst (v := (nI 1)) hx hb dL_law_763 rfl ?_
  refine rn_iadd (x := i) (y := 1) hx hb dL_law_764 ?_
  refine wSld hx hb hX0 hbl hbA hS (j := i + 1) (by omega) hL dL_law_765 ?_
  refine lv_aload_n hx hb dL_law_766 rfl (lv_at hl 1 rfl) ?_
  refine lv_iload_n hx hb dL_law_767 rfl (lv_at hl 0 rfl) ?_
  refine lv_iconst (v := (nI 2)) hx hb dL_law_768 rfl ?_
  refine rn_iadd (x := i) (y := 2) hx hb dL_law_769 ?_
  refine wSld hx hb hX0 hbl hbA hS (j := i + 2) (by omega) hL dL_law_770 ?_
  refine lv_aload_n hx hb dL_law_771 rfl (lv_at hl 1 rfl) ?_
  refine lv_iload_n hx hb dL_law_772 rfl (lv_at hl 0 rfl) ?_
  refine lv_iconst (v := (nI 3)) hx hb dL_law_773 rfl ?_
  refine rn_iadd (x := i) (y := 3) hx hb dL_law_774 ?_
  refine wSld hx hb hX0 hbl hbA hS (j := i + 3) (by omega) hL dL_law_775 ?_
  refine w2Vi (eO_S tO) (As := [.int (xs (i + 1)), .int (xs (i + 2)), .int (xs (i + 3))]) (rest := []) ⟨hx, hb, hml, hown, hts⟩ (kX9_sheet l D cA rN _ u a th LP tf tO g T R so ln ce f tr (xs (i + 1)) (xs (i + 2)) (xs (i + 3)) hCI) (cwV 3 hts gL_law_X9_sheet rfl rfl rfl (by decide +kernel) ⟨Nat.le_of_ble_eq_true rfl, Nat.le_of_ble_eq_true rfl⟩) (va_recv hK hPN (ci := 9) (q0 := 0) rfl rfl) hK hPN hDN hPM hX hS hA hE rfl hl.1 rfl (Nat.le_of_ble_eq_true rfl) dL_law_776 ⟨by show cells + 0 ≤ 600000; omega, by show slots + 0 ≤ 7302250; omega⟩ (fun rv_1 z_1 H locs hw_1 hPN hDN hPM hX hS => ?_)
  obtain ⟨u1, a1, th1, LP1, tf1⟩ := z_1
  obtain ⟨rfl, hCI1⟩ := hw_1
  refine lv_aload_n hx hb dL_law_779 rfl (lv_at hl 3 rfl) ?_
  refine lv_aload_n hx hb dL_law_780 rfl (lv_at hl 1 rfl) ?_
  refine lv_iload_n hx hb dL_law_781 rfl (lv_at hl 0 rfl) ?_
  refine lv_iconst (v := (nI 1)) hx hb dL_law_782 rfl ?_
  refine rn_iadd (x := i) (y := 1) hx hb dL_law_783 ?_
  refine wSld hx hb hX0 hbl hbA hS (j := i + 1) (by omega) hL dL_law_784 ?_
  refine lv_aload_n hx hb dL_law_785 rfl (lv_at hl 1 rfl) ?_
  refine lv_iload_n hx hb dL_law_786 rfl (lv_at hl 0 rfl) ?_
  refine lv_iconst (v := (nI 2)) hx hb dL_law_787 rfl ?_
  refine rn_iadd (x := i) (y := 2) hx hb dL_law_788 ?_
  refine wSld hx hb hX0 hbl hbA hS (j := i + 2) (by omega) hL dL_law_789 ?_
  refine lv_aload_n hx hb dL_law_790 rfl (lv_at hl 1 rfl) ?_
  refine lv_iload_n hx hb dL_law_791 rfl (lv_at hl 0 rfl) ?_
  refine lv_iconst (v := (nI 3)) hx hb dL_law_792 rfl ?_
  refine rn_iadd (x := i) (y := 3) hx hb dL_law_793 ?_
  refine wSld hx hb hX0 hbl hbA hS (j := i + 3) (by omega) hL dL_law_794 ?_
  refine w2Vi e0_S (As := [.int (xs (i + 1)), .int (xs (i + 2)), .int (xs (i + 3))]) (rest := [.int (aSheet (xs (i + 1)) (xs (i + 2)) (xs (i + 3)))]) ⟨hx, hb, hml, hown, hts⟩ (kX10_sheet l D cA rM _ um am g T R so ln ce f tr (xs (i + 1)) (xs (i + 2)) (xs (i + 3)) hMI) (cwV 3 hts gL_law_X10_sheet rfl rfl rfl (by decide +kernel) ⟨Nat.le_of_ble_eq_true rfl, Nat.le_of_ble_eq_true rfl⟩) (va_recv hK hPM (ci := 10) (q0 := 0) rfl rfl) hK hPM hDM hPN (fun i j p q hi hj e9 => hX j i q p hj hi e9.symm) hS hA trivial rfl hl.1 rfl (Nat.le_of_ble_eq_true rfl) dL_law_795 ⟨by show cells + 0 + 0 ≤ 600000; omega, by show slots + 0 + 0 ≤ 7302250; omega⟩ (fun rv_2 z_2 H locs hw_2 hPM hDM hPN hX2 hS => ?_)
  obtain ⟨um1, am1⟩ := z_2
  obtain ⟨rfl, hMI1⟩ := hw_2
  refine lv_icmp_eq (tgt := 1104) hx hb dL_law_798 (by decide) (fun _ => ?_) (fun c9 => absurd rfl c9)
  refine W.widen (k := cells + 6) (n := slots + 30) (by omega) (by omega) ?_
  exact kk _ _ _ ⟨_, _, _, _, _, _, _, _, _, _, _, _, _, _, _, hCI1, hMI1, hPN, hDN, hPM, hDM, fun i j p q hi hj e9 => hX2 j i q p hj hi e9.symm, hS⟩ hl

set_option maxHeartbeats 4000000 in
set_option maxRecDepth 100000 in
theorem law_lose {p : Program} {l : Launch} {e : Env} {s : State} {m : MethodId} {below : List Frame} {meth : Method} {c : Code} {H : Heap} {locs : List Loc} {cells slots : Nat} {Q : State → Prop} {ls : Array Slot} {D : va_G} {cA : Nat → ClassId} {rN rM : Nat → Nat} {b L i tO : Nat} {xs : Nat → Int32} (hx : p.tables.exec = Jvm.exec) (hb : c.code = code) (hml : c.maxLocals = 4) (hown : s.vm.findClass RL = some m.cls) (hts : ∀ w ∈ wsL_law, w.before #[Value.ref b] s = true) (hX0 : va_X b L xs s s.heap) (hbl : b < s.heap.size) (hL : L ≤ 3072) (hK : va_K D vwCl (tyA cA) s) (hE : eO tO (fun q : Nat => s.heap.size ≤ q) s s.heap) (hi : i + 6 ≤ L) (hc6 : cells + 6 ≤ 600000) (hs30 : slots + 30 ≤ 7302250) (hI : lI D cA rN rM (fun q : Nat => s.heap.size ≤ q) s.heap H locs) (hl : lv_has ls 4 [(3, .int (nI i)), (0, .ref b), (1, .ref (rN 0)), (2, .ref (rM 0))])
    (kk : ∀ (H1 : Heap) (locs1 : List Loc) (ls1 : Array Slot), lI D cA rN rM (fun q : Nat => s.heap.size ≤ q) s.heap H1 locs1 → lv_has ls1 4 [(3, .int (nI i)), (0, .ref b), (1, .ref (rN 0)), (2, .ref (rM 0))] → W p l e room_1 s m #[Value.ref b] below meth c H1 locs1 (cells + 6) (slots + 30) Q (F0 m 1104 ls1 [])) : W p l e room_1 s m #[Value.ref b] below meth c H locs cells slots Q (F0 m 803 ls []) := by
  obtain ⟨u, a, th, LP, tf, um, am, g, T, R, so, ln, ce, f, tr, hCI, hMI, hPN, hDN, hPM, hDM, hX, hS⟩ := hI
  have hA : ∀ q : Nat, s.heap.size ≤ q → (fun q : Nat => s.heap.size ≤ q) q := fun _ h => h
  have hbA : ¬ (fun q : Nat => s.heap.size ≤ q) b := Nat.not_le.mpr hbl
  refine lv_aload_n hx hb dL_law_803 rfl (lv_at hl 2 rfl) ?_
  refine lv_aload_n hx hb dL_law_804 rfl (lv_at hl 1 rfl) ?_
  refine lv_iload_n hx hb dL_law_805 rfl (lv_at hl 0 rfl) ?_
  refine lv_iconst (v := (nI 1)) hx hb dL_law_806 rfl ?_
  refine rn_iadd (x := i) (y := 1) hx hb dL_law_807 ?_
  refine wSld hx hb hX0 hbl hbA hS (j := i + 1) (by omega) hL dL_law_808 ?_
  refine w2Vi (eO_S tO) (As := [.int (xs (i + 1))]) (rest := []) ⟨hx, hb, hml, hown, hts⟩ (kX9_lose l D cA rN _ u a th LP tf tO g T R so ln ce f tr (xs (i + 1)) hCI) (cwV 1 hts gL_law_X9_lose rfl rfl rfl (by decide +kernel) ⟨Nat.le_of_ble_eq_true rfl, Nat.le_of_ble_eq_true rfl⟩) (va_recv hK hPN (ci := 9) (q0 := 0) rfl rfl) hK hPN hDN hPM hX hS hA hE rfl hl.1 rfl (Nat.le_of_ble_eq_true rfl) dL_law_809 ⟨by show cells + 0 ≤ 600000; omega, by show slots + 0 ≤ 7302250; omega⟩ (fun rv_1 z_1 H locs hw_1 hPN hDN hPM hX hS => ?_)
  obtain ⟨u1, a1, th1, LP1, tf1⟩ := z_1
  obtain ⟨rfl, hCI1⟩ := hw_1
  refine lv_aload_n hx hb dL_law_812 rfl (lv_at hl 3 rfl) ?_
  refine lv_aload_n hx hb dL_law_813 rfl (lv_at hl 1 rfl) ?_
  refine lv_iload_n hx hb dL_law_814 rfl (lv_at hl 0 rfl) ?_
  refine lv_iconst (v := (nI 1)) hx hb dL_law_815 rfl ?_
  refine rn_iadd (x := i) (y := 1) hx hb dL_law_816 ?_
  refine wSld hx hb hX0 hbl hbA hS (j := i + 1) (by omega) hL dL_law_817 ?_
  refine w2Vi e0_S (As := [.int (xs (i + 1))]) (rest := [.int (aLose so (xs (i + 1)))]) ⟨hx, hb, hml, hown, hts⟩ (kX10_lose l D cA rM _ um am g T R so ln ce f tr (xs (i + 1)) hMI) (cwV 1 hts gL_law_X10_lose rfl rfl rfl (by decide +kernel) ⟨Nat.le_of_ble_eq_true rfl, Nat.le_of_ble_eq_true rfl⟩) (va_recv hK hPM (ci := 10) (q0 := 0) rfl rfl) hK hPM hDM hPN (fun i j p q hi hj e9 => hX j i q p hj hi e9.symm) hS hA trivial rfl hl.1 rfl (Nat.le_of_ble_eq_true rfl) dL_law_818 ⟨by show cells + 0 + 0 ≤ 600000; omega, by show slots + 0 + 0 ≤ 7302250; omega⟩ (fun rv_2 z_2 H locs hw_2 hPM hDM hPN hX2 hS => ?_)
  obtain ⟨um1, am1⟩ := z_2
  obtain ⟨rfl, hMI1⟩ := hw_2
  refine lv_icmp_eq (tgt := 1104) hx hb dL_law_821 (by decide) (fun _ => ?_) (fun c9 => absurd rfl c9)
  refine W.widen (k := cells + 6) (n := slots + 30) (by omega) (by omega) ?_
  exact kk _ _ _ ⟨_, _, _, _, _, _, _, _, _, _, _, _, _, _, _, hCI1, hMI1, hPN, hDN, hPM, hDM, fun i j p q hi hj e9 => hX2 j i q p hj hi e9.symm, hS⟩ hl

set_option maxHeartbeats 4000000 in
set_option maxRecDepth 100000 in
theorem law_put {p : Program} {l : Launch} {e : Env} {s : State} {m : MethodId} {below : List Frame} {meth : Method} {c : Code} {H : Heap} {locs : List Loc} {cells slots : Nat} {Q : State → Prop} {ls : Array Slot} {D : va_G} {cA : Nat → ClassId} {rN rM : Nat → Nat} {b L i tO : Nat} {xs : Nat → Int32} (hx : p.tables.exec = Jvm.exec) (hb : c.code = code) (hml : c.maxLocals = 4) (hown : s.vm.findClass RL = some m.cls) (hts : ∀ w ∈ wsL_law, w.before #[Value.ref b] s = true) (hX0 : va_X b L xs s s.heap) (hbl : b < s.heap.size) (hL : L ≤ 3072) (hK : va_K D vwCl (tyA cA) s) (hE : eO tO (fun q : Nat => s.heap.size ≤ q) s s.heap) (hi : i + 6 ≤ L) (hc6 : cells + 6 ≤ 600000) (hs30 : slots + 30 ≤ 7302250) (hI : lI D cA rN rM (fun q : Nat => s.heap.size ≤ q) s.heap H locs) (hl : lv_has ls 4 [(3, .int (nI i)), (0, .ref b), (1, .ref (rN 0)), (2, .ref (rM 0))])
    (kk : ∀ (H1 : Heap) (locs1 : List Loc) (ls1 : Array Slot), lI D cA rN rM (fun q : Nat => s.heap.size ≤ q) s.heap H1 locs1 → lv_has ls1 4 [(3, .int (nI i)), (0, .ref b), (1, .ref (rN 0)), (2, .ref (rM 0))] → W p l e room_1 s m #[Value.ref b] below meth c H1 locs1 (cells + 6) (slots + 30) Q (F0 m 1104 ls1 [])) : W p l e room_1 s m #[Value.ref b] below meth c H locs cells slots Q (F0 m 826 ls []) := by
  obtain ⟨u, a, th, LP, tf, um, am, g, T, R, so, ln, ce, f, tr, hCI, hMI, hPN, hDN, hPM, hDM, hX, hS⟩ := hI
  have hA : ∀ q : Nat, s.heap.size ≤ q → (fun q : Nat => s.heap.size ≤ q) q := fun _ h => h
  have hbA : ¬ (fun q : Nat => s.heap.size ≤ q) b := Nat.not_le.mpr hbl
  refine lv_aload_n hx hb dL_law_826 rfl (lv_at hl 2 rfl) ?_
  refine lv_aload_n hx hb dL_law_827 rfl (lv_at hl 1 rfl) ?_
  refine lv_iload_n hx hb dL_law_828 rfl (lv_at hl 0 rfl) ?_
  refine lv_iconst (v := (nI 1)) hx hb dL_law_829 rfl ?_
  refine rn_iadd (x := i) (y := 1) hx hb dL_law_830 ?_
  refine wSld hx hb hX0 hbl hbA hS (j := i + 1) (by omega) hL dL_law_831 ?_
  refine lv_aload_n hx hb dL_law_832 rfl (lv_at hl 1 rfl) ?_
  refine lv_iload_n hx hb dL_law_833 rfl (lv_at hl 0 rfl) ?_
  refine lv_iconst (v := (nI 2)) hx hb dL_law_834 rfl ?_
  refine rn_iadd (x := i) (y := 2) hx hb dL_law_835 ?_
  refine wSld hx hb hX0 hbl hbA hS (j := i + 2) (by omega) hL dL_law_836 ?_
  refine lv_aload_n hx hb dL_law_837 rfl (lv_at hl 1 rfl) ?_
  refine lv_iload_n hx hb dL_law_838 rfl (lv_at hl 0 rfl) ?_
  refine lv_iconst (v := (nI 3)) hx hb dL_law_839 rfl ?_
  refine rn_iadd (x := i) (y := 3) hx hb dL_law_840 ?_
  refine wSld hx hb hX0 hbl hbA hS (j := i + 3) (by omega) hL dL_law_841 ?_
  refine w2Vi (eO_S tO) (As := [.int (xs (i + 1)), .int (xs (i + 2)), .int (xs (i + 3))]) (rest := []) ⟨hx, hb, hml, hown, hts⟩ (kX9_put l D cA rN _ u a th LP tf tO g T R so ln ce f tr (xs (i + 1)) (xs (i + 2)) (xs (i + 3)) hCI) (cwV 3 hts gL_law_X9_put rfl rfl rfl (by decide +kernel) ⟨Nat.le_of_ble_eq_true rfl, Nat.le_of_ble_eq_true rfl⟩) (va_recv hK hPN (ci := 9) (q0 := 0) rfl rfl) hK hPN hDN hPM hX hS hA hE rfl hl.1 rfl (Nat.le_of_ble_eq_true rfl) dL_law_842 ⟨by show cells + 0 ≤ 600000; omega, by show slots + 0 ≤ 7302250; omega⟩ (fun rv_1 z_1 H locs hw_1 hPN hDN hPM hX hS => ?_)
  obtain ⟨u1, a1, th1, LP1, tf1⟩ := z_1
  obtain ⟨rfl, hCI1⟩ := hw_1
  refine lv_aload_n hx hb dL_law_845 rfl (lv_at hl 3 rfl) ?_
  refine lv_aload_n hx hb dL_law_846 rfl (lv_at hl 1 rfl) ?_
  refine lv_iload_n hx hb dL_law_847 rfl (lv_at hl 0 rfl) ?_
  refine lv_iconst (v := (nI 1)) hx hb dL_law_848 rfl ?_
  refine rn_iadd (x := i) (y := 1) hx hb dL_law_849 ?_
  refine wSld hx hb hX0 hbl hbA hS (j := i + 1) (by omega) hL dL_law_850 ?_
  refine lv_aload_n hx hb dL_law_851 rfl (lv_at hl 1 rfl) ?_
  refine lv_iload_n hx hb dL_law_852 rfl (lv_at hl 0 rfl) ?_
  refine lv_iconst (v := (nI 2)) hx hb dL_law_853 rfl ?_
  refine rn_iadd (x := i) (y := 2) hx hb dL_law_854 ?_
  refine wSld hx hb hX0 hbl hbA hS (j := i + 2) (by omega) hL dL_law_855 ?_
  refine lv_aload_n hx hb dL_law_856 rfl (lv_at hl 1 rfl) ?_
  refine lv_iload_n hx hb dL_law_857 rfl (lv_at hl 0 rfl) ?_
  refine lv_iconst (v := (nI 3)) hx hb dL_law_858 rfl ?_
  refine rn_iadd (x := i) (y := 3) hx hb dL_law_859 ?_
  refine wSld hx hb hX0 hbl hbA hS (j := i + 3) (by omega) hL dL_law_860 ?_
  refine w2Vi e0_S (As := [.int (xs (i + 1)), .int (xs (i + 2)), .int (xs (i + 3))]) (rest := [.int (aPut so ln (xs (i + 1)) (xs (i + 2)))]) ⟨hx, hb, hml, hown, hts⟩ (kX10_put l D cA rM _ um am g T R so ln ce f tr (xs (i + 1)) (xs (i + 2)) (xs (i + 3)) hMI) (cwV 3 hts gL_law_X10_put rfl rfl rfl (by decide +kernel) ⟨Nat.le_of_ble_eq_true rfl, Nat.le_of_ble_eq_true rfl⟩) (va_recv hK hPM (ci := 10) (q0 := 0) rfl rfl) hK hPM hDM hPN (fun i j p q hi hj e9 => hX j i q p hj hi e9.symm) hS hA trivial rfl hl.1 rfl (Nat.le_of_ble_eq_true rfl) dL_law_861 ⟨by show cells + 0 + 0 ≤ 600000; omega, by show slots + 0 + 0 ≤ 7302250; omega⟩ (fun rv_2 z_2 H locs hw_2 hPM hDM hPN hX2 hS => ?_)
  obtain ⟨um1, am1⟩ := z_2
  obtain ⟨rfl, hMI1⟩ := hw_2
  refine lv_icmp_eq (tgt := 1104) hx hb dL_law_864 (by decide) (fun _ => ?_) (fun c9 => absurd rfl c9)
  refine W.widen (k := cells + 6) (n := slots + 30) (by omega) (by omega) ?_
  exact kk _ _ _ ⟨_, _, _, _, _, _, _, _, _, _, _, _, _, _, _, hCI1, hMI1, hPN, hDN, hPM, hDM, fun i j p q hi hj e9 => hX2 j i q p hj hi e9.symm, hS⟩ hl

set_option maxHeartbeats 4000000 in
set_option maxRecDepth 100000 in
theorem law_cell {p : Program} {l : Launch} {e : Env} {s : State} {m : MethodId} {below : List Frame} {meth : Method} {c : Code} {H : Heap} {locs : List Loc} {cells slots : Nat} {Q : State → Prop} {ls : Array Slot} {D : va_G} {cA : Nat → ClassId} {rN rM : Nat → Nat} {b L i tO : Nat} {xs : Nat → Int32} (hx : p.tables.exec = Jvm.exec) (hb : c.code = code) (hml : c.maxLocals = 4) (hown : s.vm.findClass RL = some m.cls) (hts : ∀ w ∈ wsL_law, w.before #[Value.ref b] s = true) (hX0 : va_X b L xs s s.heap) (hbl : b < s.heap.size) (hL : L ≤ 3072) (hK : va_K D vwCl (tyA cA) s) (hE : eO tO (fun q : Nat => s.heap.size ≤ q) s s.heap) (hi : i + 6 ≤ L) (hc6 : cells + 6 ≤ 600000) (hs30 : slots + 30 ≤ 7302250) (hI : lI D cA rN rM (fun q : Nat => s.heap.size ≤ q) s.heap H locs) (hl : lv_has ls 4 [(3, .int (nI i)), (0, .ref b), (1, .ref (rN 0)), (2, .ref (rM 0))])
    (kk : ∀ (H1 : Heap) (locs1 : List Loc) (ls1 : Array Slot), lI D cA rN rM (fun q : Nat => s.heap.size ≤ q) s.heap H1 locs1 → lv_has ls1 4 [(3, .int (nI i)), (0, .ref b), (1, .ref (rN 0)), (2, .ref (rM 0))] → W p l e room_1 s m #[Value.ref b] below meth c H1 locs1 (cells + 6) (slots + 30) Q (F0 m 1104 ls1 [])) : W p l e room_1 s m #[Value.ref b] below meth c H locs cells slots Q (F0 m 869 ls []) := by
  obtain ⟨u, a, th, LP, tf, um, am, g, T, R, so, ln, ce, f, tr, hCI, hMI, hPN, hDN, hPM, hDM, hX, hS⟩ := hI
  have hA : ∀ q : Nat, s.heap.size ≤ q → (fun q : Nat => s.heap.size ≤ q) q := fun _ h => h
  have hbA : ¬ (fun q : Nat => s.heap.size ≤ q) b := Nat.not_le.mpr hbl
  refine lv_aload_n hx hb dL_law_869 rfl (lv_at hl 2 rfl) ?_
  refine lv_aload_n hx hb dL_law_870 rfl (lv_at hl 1 rfl) ?_
  refine lv_iload_n hx hb dL_law_871 rfl (lv_at hl 0 rfl) ?_
  refine lv_iconst (v := (nI 1)) hx hb dL_law_872 rfl ?_
  refine rn_iadd (x := i) (y := 1) hx hb dL_law_873 ?_
  refine wSld hx hb hX0 hbl hbA hS (j := i + 1) (by omega) hL dL_law_874 ?_
  refine lv_aload_n hx hb dL_law_875 rfl (lv_at hl 1 rfl) ?_
  refine lv_iload_n hx hb dL_law_876 rfl (lv_at hl 0 rfl) ?_
  refine lv_iconst (v := (nI 2)) hx hb dL_law_877 rfl ?_
  refine rn_iadd (x := i) (y := 2) hx hb dL_law_878 ?_
  refine wSld hx hb hX0 hbl hbA hS (j := i + 2) (by omega) hL dL_law_879 ?_
  refine lv_aload_n hx hb dL_law_880 rfl (lv_at hl 1 rfl) ?_
  refine lv_iload_n hx hb dL_law_881 rfl (lv_at hl 0 rfl) ?_
  refine lv_iconst (v := (nI 3)) hx hb dL_law_882 rfl ?_
  refine rn_iadd (x := i) (y := 3) hx hb dL_law_883 ?_
  refine wSld hx hb hX0 hbl hbA hS (j := i + 3) (by omega) hL dL_law_884 ?_
  refine w2Vl (eO_S tO) (As := [.int (xs (i + 1)), .int (xs (i + 2)), .int (xs (i + 3))]) (rest := []) ⟨hx, hb, hml, hown, hts⟩ (kX9_cell l D cA rN _ u a th LP tf tO g T R so ln ce f tr (xs (i + 1)) (xs (i + 2)) (xs (i + 3)) hCI) (cwV 3 hts gL_law_X9_cell rfl rfl rfl (by decide +kernel) ⟨Nat.le_of_ble_eq_true rfl, Nat.le_of_ble_eq_true rfl⟩) (va_recv hK hPN (ci := 9) (q0 := 0) rfl rfl) hK hPN hDN hPM hX hS hA hE rfl hl.1 rfl (Nat.le_of_ble_eq_true rfl) dL_law_885 ⟨by show cells + 0 ≤ 600000; omega, by show slots + 0 ≤ 7302250; omega⟩ (fun rv_1 z_1 H locs hw_1 hPN hDN hPM hX hS => ?_)
  obtain ⟨u1, a1, th1, LP1, tf1⟩ := z_1
  obtain ⟨rfl, hCI1⟩ := hw_1
  refine lv_aload_n hx hb dL_law_888 rfl (lv_at hl 3 rfl) ?_
  refine lv_aload_n hx hb dL_law_889 rfl (lv_at hl 1 rfl) ?_
  refine lv_iload_n hx hb dL_law_890 rfl (lv_at hl 0 rfl) ?_
  refine lv_iconst (v := (nI 1)) hx hb dL_law_891 rfl ?_
  refine rn_iadd (x := i) (y := 1) hx hb dL_law_892 ?_
  refine wSld hx hb hX0 hbl hbA hS (j := i + 1) (by omega) hL dL_law_893 ?_
  refine lv_aload_n hx hb dL_law_894 rfl (lv_at hl 1 rfl) ?_
  refine lv_iload_n hx hb dL_law_895 rfl (lv_at hl 0 rfl) ?_
  refine lv_iconst (v := (nI 2)) hx hb dL_law_896 rfl ?_
  refine rn_iadd (x := i) (y := 2) hx hb dL_law_897 ?_
  refine wSld hx hb hX0 hbl hbA hS (j := i + 2) (by omega) hL dL_law_898 ?_
  refine lv_aload_n hx hb dL_law_899 rfl (lv_at hl 1 rfl) ?_
  refine lv_iload_n hx hb dL_law_900 rfl (lv_at hl 0 rfl) ?_
  refine lv_iconst (v := (nI 3)) hx hb dL_law_901 rfl ?_
  refine rn_iadd (x := i) (y := 3) hx hb dL_law_902 ?_
  refine wSld hx hb hX0 hbl hbA hS (j := i + 3) (by omega) hL dL_law_903 ?_
  refine w2Vl e0_S (As := [.int (xs (i + 1)), .int (xs (i + 2)), .int (xs (i + 3))]) (rest := [.long (aCell so ln ce (xs (i + 1)) (xs (i + 2)) (xs (i + 3)))]) ⟨hx, hb, hml, hown, hts⟩ (kX10_cell l D cA rM _ um am g T R so ln ce f tr (xs (i + 1)) (xs (i + 2)) (xs (i + 3)) hMI) (cwV 3 hts gL_law_X10_cell rfl rfl rfl (by decide +kernel) ⟨Nat.le_of_ble_eq_true rfl, Nat.le_of_ble_eq_true rfl⟩) (va_recv hK hPM (ci := 10) (q0 := 0) rfl rfl) hK hPM hDM hPN (fun i j p q hi hj e9 => hX j i q p hj hi e9.symm) hS hA trivial rfl hl.1 rfl (Nat.le_of_ble_eq_true rfl) dL_law_904 ⟨by show cells + 0 + 0 ≤ 600000; omega, by show slots + 0 + 0 ≤ 7302250; omega⟩ (fun rv_2 z_2 H locs hw_2 hPM hDM hPN hX2 hS => ?_)
  obtain ⟨um1, am1⟩ := z_2
  obtain ⟨rfl, hMI1⟩ := hw_2
  refine W.lcmp hx hb dL_law_907 ?_
  rw [cmp_same]
  refine lv_if_eq (tgt := 1104) hx hb dL_law_908 (by decide) (fun _ => ?_) (fun c9 => absurd rfl c9)
  refine W.widen (k := cells + 6) (n := slots + 30) (by omega) (by omega) ?_
  exact kk _ _ _ ⟨_, _, _, _, _, _, _, _, _, _, _, _, _, _, _, hCI1, hMI1, hPN, hDN, hPM, hDM, fun i j p q hi hj e9 => hX2 j i q p hj hi e9.symm, hS⟩ hl

set_option maxHeartbeats 4000000 in
set_option maxRecDepth 100000 in
theorem law_copy {p : Program} {l : Launch} {e : Env} {s : State} {m : MethodId} {below : List Frame} {meth : Method} {c : Code} {H : Heap} {locs : List Loc} {cells slots : Nat} {Q : State → Prop} {ls : Array Slot} {D : va_G} {cA : Nat → ClassId} {rN rM : Nat → Nat} {b L i tO : Nat} {xs : Nat → Int32} (hx : p.tables.exec = Jvm.exec) (hb : c.code = code) (hml : c.maxLocals = 4) (hown : s.vm.findClass RL = some m.cls) (hts : ∀ w ∈ wsL_law, w.before #[Value.ref b] s = true) (hX0 : va_X b L xs s s.heap) (hbl : b < s.heap.size) (hL : L ≤ 3072) (hK : va_K D vwCl (tyA cA) s) (hE : eO tO (fun q : Nat => s.heap.size ≤ q) s s.heap) (hi : i + 6 ≤ L) (hc6 : cells + 6 ≤ 600000) (hs30 : slots + 30 ≤ 7302250) (hI : lI D cA rN rM (fun q : Nat => s.heap.size ≤ q) s.heap H locs) (hl : lv_has ls 4 [(3, .int (nI i)), (0, .ref b), (1, .ref (rN 0)), (2, .ref (rM 0))])
    (kk : ∀ (H1 : Heap) (locs1 : List Loc) (ls1 : Array Slot), lI D cA rN rM (fun q : Nat => s.heap.size ≤ q) s.heap H1 locs1 → lv_has ls1 4 [(3, .int (nI i)), (0, .ref b), (1, .ref (rN 0)), (2, .ref (rM 0))] → W p l e room_1 s m #[Value.ref b] below meth c H1 locs1 (cells + 6) (slots + 30) Q (F0 m 1104 ls1 [])) : W p l e room_1 s m #[Value.ref b] below meth c H locs cells slots Q (F0 m 913 ls []) := by
  obtain ⟨u, a, th, LP, tf, um, am, g, T, R, so, ln, ce, f, tr, hCI, hMI, hPN, hDN, hPM, hDM, hX, hS⟩ := hI
  have hA : ∀ q : Nat, s.heap.size ≤ q → (fun q : Nat => s.heap.size ≤ q) q := fun _ h => h
  have hbA : ¬ (fun q : Nat => s.heap.size ≤ q) b := Nat.not_le.mpr hbl
  refine lv_aload_n hx hb dL_law_913 rfl (lv_at hl 2 rfl) ?_
  refine lv_aload_n hx hb dL_law_914 rfl (lv_at hl 1 rfl) ?_
  refine lv_iload_n hx hb dL_law_915 rfl (lv_at hl 0 rfl) ?_
  refine lv_iconst (v := (nI 1)) hx hb dL_law_916 rfl ?_
  refine rn_iadd (x := i) (y := 1) hx hb dL_law_917 ?_
  refine wSld hx hb hX0 hbl hbA hS (j := i + 1) (by omega) hL dL_law_918 ?_
  refine lv_aload_n hx hb dL_law_919 rfl (lv_at hl 1 rfl) ?_
  refine lv_iload_n hx hb dL_law_920 rfl (lv_at hl 0 rfl) ?_
  refine lv_iconst (v := (nI 2)) hx hb dL_law_921 rfl ?_
  refine rn_iadd (x := i) (y := 2) hx hb dL_law_922 ?_
  refine wSld hx hb hX0 hbl hbA hS (j := i + 2) (by omega) hL dL_law_923 ?_
  refine lv_aload_n hx hb dL_law_924 rfl (lv_at hl 1 rfl) ?_
  refine lv_iload_n hx hb dL_law_925 rfl (lv_at hl 0 rfl) ?_
  refine lv_iconst (v := (nI 3)) hx hb dL_law_926 rfl ?_
  refine rn_iadd (x := i) (y := 3) hx hb dL_law_927 ?_
  refine wSld hx hb hX0 hbl hbA hS (j := i + 3) (by omega) hL dL_law_928 ?_
  refine lv_aload_n hx hb dL_law_929 rfl (lv_at hl 1 rfl) ?_
  refine lv_iload_n hx hb dL_law_930 rfl (lv_at hl 0 rfl) ?_
  refine lv_iconst (v := (nI 4)) hx hb dL_law_931 rfl ?_
  refine rn_iadd (x := i) (y := 4) hx hb dL_law_932 ?_
  refine wSld hx hb hX0 hbl hbA hS (j := i + 4) (by omega) hL dL_law_933 ?_
  refine lv_aload_n hx hb dL_law_934 rfl (lv_at hl 1 rfl) ?_
  refine lv_iload_n hx hb dL_law_935 rfl (lv_at hl 0 rfl) ?_
  refine lv_iconst (v := (nI 5)) hx hb dL_law_936 rfl ?_
  refine rn_iadd (x := i) (y := 5) hx hb dL_law_937 ?_
  refine wSld hx hb hX0 hbl hbA hS (j := i + 5) (by omega) hL dL_law_938 ?_
  refine w2Vi (eO_S tO) (As := [.int (xs (i + 1)), .int (xs (i + 2)), .int (xs (i + 3)), .int (xs (i + 4)), .int (xs (i + 5))]) (rest := []) ⟨hx, hb, hml, hown, hts⟩ (kX9_copy l D cA rN _ u a th LP tf tO g T R so ln ce f tr (xs (i + 1)) (xs (i + 2)) (xs (i + 3)) (xs (i + 4)) (xs (i + 5)) hCI) (cwV 5 hts gL_law_X9_copy rfl rfl rfl (by decide +kernel) ⟨Nat.le_of_ble_eq_true rfl, Nat.le_of_ble_eq_true rfl⟩) (va_recv hK hPN (ci := 9) (q0 := 0) rfl rfl) hK hPN hDN hPM hX hS hA hE rfl hl.1 rfl (Nat.le_of_ble_eq_true rfl) dL_law_939 ⟨by show cells + 0 ≤ 600000; omega, by show slots + 0 ≤ 7302250; omega⟩ (fun rv_1 z_1 H locs hw_1 hPN hDN hPM hX hS => ?_)
  obtain ⟨u1, a1, th1, LP1, tf1⟩ := z_1
  obtain ⟨rfl, hCI1⟩ := hw_1
  refine lv_aload_n hx hb dL_law_942 rfl (lv_at hl 3 rfl) ?_
  refine lv_aload_n hx hb dL_law_943 rfl (lv_at hl 1 rfl) ?_
  refine lv_iload_n hx hb dL_law_944 rfl (lv_at hl 0 rfl) ?_
  refine lv_iconst (v := (nI 1)) hx hb dL_law_945 rfl ?_
  refine rn_iadd (x := i) (y := 1) hx hb dL_law_946 ?_
  refine wSld hx hb hX0 hbl hbA hS (j := i + 1) (by omega) hL dL_law_947 ?_
  refine lv_aload_n hx hb dL_law_948 rfl (lv_at hl 1 rfl) ?_
  refine lv_iload_n hx hb dL_law_949 rfl (lv_at hl 0 rfl) ?_
  refine lv_iconst (v := (nI 2)) hx hb dL_law_950 rfl ?_
  refine rn_iadd (x := i) (y := 2) hx hb dL_law_951 ?_
  refine wSld hx hb hX0 hbl hbA hS (j := i + 2) (by omega) hL dL_law_952 ?_
  refine lv_aload_n hx hb dL_law_953 rfl (lv_at hl 1 rfl) ?_
  refine lv_iload_n hx hb dL_law_954 rfl (lv_at hl 0 rfl) ?_
  refine lv_iconst (v := (nI 3)) hx hb dL_law_955 rfl ?_
  refine rn_iadd (x := i) (y := 3) hx hb dL_law_956 ?_
  refine wSld hx hb hX0 hbl hbA hS (j := i + 3) (by omega) hL dL_law_957 ?_
  refine lv_aload_n hx hb dL_law_958 rfl (lv_at hl 1 rfl) ?_
  refine lv_iload_n hx hb dL_law_959 rfl (lv_at hl 0 rfl) ?_
  refine lv_iconst (v := (nI 4)) hx hb dL_law_960 rfl ?_
  refine rn_iadd (x := i) (y := 4) hx hb dL_law_961 ?_
  refine wSld hx hb hX0 hbl hbA hS (j := i + 4) (by omega) hL dL_law_962 ?_
  refine lv_aload_n hx hb dL_law_963 rfl (lv_at hl 1 rfl) ?_
  refine lv_iload_n hx hb dL_law_964 rfl (lv_at hl 0 rfl) ?_
  refine lv_iconst (v := (nI 5)) hx hb dL_law_965 rfl ?_
  refine rn_iadd (x := i) (y := 5) hx hb dL_law_966 ?_
  refine wSld hx hb hX0 hbl hbA hS (j := i + 5) (by omega) hL dL_law_967 ?_
  refine w2Vi e0_S (As := [.int (xs (i + 1)), .int (xs (i + 2)), .int (xs (i + 3)), .int (xs (i + 4)), .int (xs (i + 5))]) (rest := [.int (aCopy so ln (xs (i + 1)) (xs (i + 2)) (xs (i + 3)) (xs (i + 4)) (xs (i + 5)))]) ⟨hx, hb, hml, hown, hts⟩ (kX10_copy l D cA rM _ um am g T R so ln ce f tr (xs (i + 1)) (xs (i + 2)) (xs (i + 3)) (xs (i + 4)) (xs (i + 5)) hMI) (cwV 5 hts gL_law_X10_copy rfl rfl rfl (by decide +kernel) ⟨Nat.le_of_ble_eq_true rfl, Nat.le_of_ble_eq_true rfl⟩) (va_recv hK hPM (ci := 10) (q0 := 0) rfl rfl) hK hPM hDM hPN (fun i j p q hi hj e9 => hX j i q p hj hi e9.symm) hS hA trivial rfl hl.1 rfl (Nat.le_of_ble_eq_true rfl) dL_law_968 ⟨by show cells + 0 + 0 ≤ 600000; omega, by show slots + 0 + 0 ≤ 7302250; omega⟩ (fun rv_2 z_2 H locs hw_2 hPM hDM hPN hX2 hS => ?_)
  obtain ⟨um1, am1⟩ := z_2
  obtain ⟨rfl, hMI1⟩ := hw_2
  refine lv_icmp_eq (tgt := 1104) hx hb dL_law_971 (by decide) (fun _ => ?_) (fun c9 => absurd rfl c9)
  refine W.widen (k := cells + 6) (n := slots + 30) (by omega) (by omega) ?_
  exact kk _ _ _ ⟨_, _, _, _, _, _, _, _, _, _, _, _, _, _, _, hCI1, hMI1, hPN, hDN, hPM, hDM, fun i j p q hi hj e9 => hX2 j i q p hj hi e9.symm, hS⟩ hl

set_option maxHeartbeats 4000000 in
set_option maxRecDepth 100000 in
theorem law_tell {p : Program} {l : Launch} {e : Env} {s : State} {m : MethodId} {below : List Frame} {meth : Method} {c : Code} {H : Heap} {locs : List Loc} {cells slots : Nat} {Q : State → Prop} {ls : Array Slot} {D : va_G} {cA : Nat → ClassId} {rN rM : Nat → Nat} {b L i tO : Nat} {xs : Nat → Int32} (hx : p.tables.exec = Jvm.exec) (hb : c.code = code) (hml : c.maxLocals = 4) (hown : s.vm.findClass RL = some m.cls) (hts : ∀ w ∈ wsL_law, w.before #[Value.ref b] s = true) (hX0 : va_X b L xs s s.heap) (hbl : b < s.heap.size) (hL : L ≤ 3072) (hK : va_K D vwCl (tyA cA) s) (hE : eO tO (fun q : Nat => s.heap.size ≤ q) s s.heap) (hi : i + 6 ≤ L) (hc6 : cells + 6 ≤ 600000) (hs30 : slots + 30 ≤ 7302250) (hI : lI D cA rN rM (fun q : Nat => s.heap.size ≤ q) s.heap H locs) (hl : lv_has ls 4 [(3, .int (nI i)), (0, .ref b), (1, .ref (rN 0)), (2, .ref (rM 0))])
    (kk : ∀ (H1 : Heap) (locs1 : List Loc) (ls1 : Array Slot), lI D cA rN rM (fun q : Nat => s.heap.size ≤ q) s.heap H1 locs1 → lv_has ls1 4 [(3, .int (nI i)), (0, .ref b), (1, .ref (rN 0)), (2, .ref (rM 0))] → W p l e room_1 s m #[Value.ref b] below meth c H1 locs1 (cells + 6) (slots + 30) Q (F0 m 1104 ls1 [])) : W p l e room_1 s m #[Value.ref b] below meth c H locs cells slots Q (F0 m 976 ls []) := by
  obtain ⟨u, a, th, LP, tf, um, am, g, T, R, so, ln, ce, f, tr, hCI, hMI, hPN, hDN, hPM, hDM, hX, hS⟩ := hI
  have hA : ∀ q : Nat, s.heap.size ≤ q → (fun q : Nat => s.heap.size ≤ q) q := fun _ h => h
  have hbA : ¬ (fun q : Nat => s.heap.size ≤ q) b := Nat.not_le.mpr hbl
  refine lv_aload_n hx hb dL_law_976 rfl (lv_at hl 2 rfl) ?_
  refine lv_aload_n hx hb dL_law_977 rfl (lv_at hl 1 rfl) ?_
  refine lv_iload_n hx hb dL_law_978 rfl (lv_at hl 0 rfl) ?_
  refine lv_iconst (v := (nI 1)) hx hb dL_law_979 rfl ?_
  refine rn_iadd (x := i) (y := 1) hx hb dL_law_980 ?_
  refine wSld hx hb hX0 hbl hbA hS (j := i + 1) (by omega) hL dL_law_981 ?_
  refine w2Vi (eO_S tO) (As := [.int (xs (i + 1))]) (rest := []) ⟨hx, hb, hml, hown, hts⟩ (kX9_tell l D cA rN _ u a th LP tf tO g T R so ln ce f tr (xs (i + 1)) hCI) (cwV 1 hts gL_law_X9_tell rfl rfl rfl (by decide +kernel) ⟨Nat.le_of_ble_eq_true rfl, Nat.le_of_ble_eq_true rfl⟩) (va_recv hK hPN (ci := 9) (q0 := 0) rfl rfl) hK hPN hDN hPM hX hS hA hE rfl hl.1 rfl (Nat.le_of_ble_eq_true rfl) dL_law_982 ⟨by show cells + 0 ≤ 600000; omega, by show slots + 0 ≤ 7302250; omega⟩ (fun rv_1 z_1 H locs hw_1 hPN hDN hPM hX hS => ?_)
  obtain ⟨u1, a1, th1, LP1, tf1⟩ := z_1
  obtain ⟨rfl, hCI1⟩ := hw_1
  refine lv_aload_n hx hb dL_law_985 rfl (lv_at hl 3 rfl) ?_
  refine lv_aload_n hx hb dL_law_986 rfl (lv_at hl 1 rfl) ?_
  refine lv_iload_n hx hb dL_law_987 rfl (lv_at hl 0 rfl) ?_
  refine lv_iconst (v := (nI 1)) hx hb dL_law_988 rfl ?_
  refine rn_iadd (x := i) (y := 1) hx hb dL_law_989 ?_
  refine wSld hx hb hX0 hbl hbA hS (j := i + 1) (by omega) hL dL_law_990 ?_
  refine w2Vi e0_S (As := [.int (xs (i + 1))]) (rest := [.int (aTell g T (xs (i + 1)))]) ⟨hx, hb, hml, hown, hts⟩ (kX10_tell l D cA rM _ um am g T R so ln ce f tr (xs (i + 1)) hMI) (cwV 1 hts gL_law_X10_tell rfl rfl rfl (by decide +kernel) ⟨Nat.le_of_ble_eq_true rfl, Nat.le_of_ble_eq_true rfl⟩) (va_recv hK hPM (ci := 10) (q0 := 0) rfl rfl) hK hPM hDM hPN (fun i j p q hi hj e9 => hX j i q p hj hi e9.symm) hS hA trivial rfl hl.1 rfl (Nat.le_of_ble_eq_true rfl) dL_law_991 ⟨by show cells + 0 + 0 ≤ 600000; omega, by show slots + 0 + 0 ≤ 7302250; omega⟩ (fun rv_2 z_2 H locs hw_2 hPM hDM hPN hX2 hS => ?_)
  obtain ⟨um1, am1⟩ := z_2
  obtain ⟨rfl, hMI1⟩ := hw_2
  refine lv_icmp_eq (tgt := 1104) hx hb dL_law_994 (by decide) (fun _ => ?_) (fun c9 => absurd rfl c9)
  refine W.widen (k := cells + 6) (n := slots + 30) (by omega) (by omega) ?_
  exact kk _ _ _ ⟨_, _, _, _, _, _, _, _, _, _, _, _, _, _, _, hCI1, hMI1, hPN, hDN, hPM, hDM, fun i j p q hi hj e9 => hX2 j i q p hj hi e9.symm, hS⟩ hl

set_option maxHeartbeats 4000000 in
set_option maxRecDepth 100000 in
theorem law_strike {p : Program} {l : Launch} {e : Env} {s : State} {m : MethodId} {below : List Frame} {meth : Method} {c : Code} {H : Heap} {locs : List Loc} {cells slots : Nat} {Q : State → Prop} {ls : Array Slot} {D : va_G} {cA : Nat → ClassId} {rN rM : Nat → Nat} {b L i tO : Nat} {xs : Nat → Int32} (hx : p.tables.exec = Jvm.exec) (hb : c.code = code) (hml : c.maxLocals = 4) (hown : s.vm.findClass RL = some m.cls) (hts : ∀ w ∈ wsL_law, w.before #[Value.ref b] s = true) (hX0 : va_X b L xs s s.heap) (hbl : b < s.heap.size) (hL : L ≤ 3072) (hK : va_K D vwCl (tyA cA) s) (hE : eO tO (fun q : Nat => s.heap.size ≤ q) s s.heap) (hi : i + 6 ≤ L) (hc6 : cells + 6 ≤ 600000) (hs30 : slots + 30 ≤ 7302250) (hI : lI D cA rN rM (fun q : Nat => s.heap.size ≤ q) s.heap H locs) (hl : lv_has ls 4 [(3, .int (nI i)), (0, .ref b), (1, .ref (rN 0)), (2, .ref (rM 0))])
    (kk : ∀ (H1 : Heap) (locs1 : List Loc) (ls1 : Array Slot), lI D cA rN rM (fun q : Nat => s.heap.size ≤ q) s.heap H1 locs1 → lv_has ls1 4 [(3, .int (nI i)), (0, .ref b), (1, .ref (rN 0)), (2, .ref (rM 0))] → W p l e room_1 s m #[Value.ref b] below meth c H1 locs1 (cells + 6) (slots + 30) Q (F0 m 1104 ls1 [])) : W p l e room_1 s m #[Value.ref b] below meth c H locs cells slots Q (F0 m 999 ls []) := by
  obtain ⟨u, a, th, LP, tf, um, am, g, T, R, so, ln, ce, f, tr, hCI, hMI, hPN, hDN, hPM, hDM, hX, hS⟩ := hI
  have hA : ∀ q : Nat, s.heap.size ≤ q → (fun q : Nat => s.heap.size ≤ q) q := fun _ h => h
  have hbA : ¬ (fun q : Nat => s.heap.size ≤ q) b := Nat.not_le.mpr hbl
  refine lv_aload_n hx hb dL_law_999 rfl (lv_at hl 2 rfl) ?_
  refine lv_aload_n hx hb dL_law_1000 rfl (lv_at hl 1 rfl) ?_
  refine lv_iload_n hx hb dL_law_1001 rfl (lv_at hl 0 rfl) ?_
  refine lv_iconst (v := (nI 1)) hx hb dL_law_1002 rfl ?_
  refine rn_iadd (x := i) (y := 1) hx hb dL_law_1003 ?_
  refine wSld hx hb hX0 hbl hbA hS (j := i + 1) (by omega) hL dL_law_1004 ?_
  refine w2Vi (eO_S tO) (As := [.int (xs (i + 1))]) (rest := []) ⟨hx, hb, hml, hown, hts⟩ (kX9_strike l D cA rN _ u a th LP tf tO g T R so ln ce f tr (xs (i + 1)) hCI) (cwV 1 hts gL_law_X9_strike rfl rfl rfl (by decide +kernel) ⟨Nat.le_of_ble_eq_true rfl, Nat.le_of_ble_eq_true rfl⟩) (va_recv hK hPN (ci := 9) (q0 := 0) rfl rfl) hK hPN hDN hPM hX hS hA hE rfl hl.1 rfl (Nat.le_of_ble_eq_true rfl) dL_law_1005 ⟨by show cells + 0 ≤ 600000; omega, by show slots + 0 ≤ 7302250; omega⟩ (fun rv_1 z_1 H locs hw_1 hPN hDN hPM hX hS => ?_)
  obtain ⟨u1, a1, th1, LP1, tf1⟩ := z_1
  obtain ⟨rfl, hCI1⟩ := hw_1
  refine lv_aload_n hx hb dL_law_1008 rfl (lv_at hl 3 rfl) ?_
  refine lv_aload_n hx hb dL_law_1009 rfl (lv_at hl 1 rfl) ?_
  refine lv_iload_n hx hb dL_law_1010 rfl (lv_at hl 0 rfl) ?_
  refine lv_iconst (v := (nI 1)) hx hb dL_law_1011 rfl ?_
  refine rn_iadd (x := i) (y := 1) hx hb dL_law_1012 ?_
  refine wSld hx hb hX0 hbl hbA hS (j := i + 1) (by omega) hL dL_law_1013 ?_
  refine w2Vi e0_S (As := [.int (xs (i + 1))]) (rest := [.int (aStrike g T (xs (i + 1)))]) ⟨hx, hb, hml, hown, hts⟩ (kX10_strike l D cA rM _ um am g T R so ln ce f tr (xs (i + 1)) hMI) (cwV 1 hts gL_law_X10_strike rfl rfl rfl (by decide +kernel) ⟨Nat.le_of_ble_eq_true rfl, Nat.le_of_ble_eq_true rfl⟩) (va_recv hK hPM (ci := 10) (q0 := 0) rfl rfl) hK hPM hDM hPN (fun i j p q hi hj e9 => hX j i q p hj hi e9.symm) hS hA trivial rfl hl.1 rfl (Nat.le_of_ble_eq_true rfl) dL_law_1014 ⟨by show cells + 0 + 0 ≤ 600000; omega, by show slots + 0 + 0 ≤ 7302250; omega⟩ (fun rv_2 z_2 H locs hw_2 hPM hDM hPN hX2 hS => ?_)
  obtain ⟨um1, am1⟩ := z_2
  obtain ⟨rfl, hMI1⟩ := hw_2
  refine lv_icmp_eq (tgt := 1104) hx hb dL_law_1017 (by decide) (fun _ => ?_) (fun c9 => absurd rfl c9)
  refine W.widen (k := cells + 6) (n := slots + 30) (by omega) (by omega) ?_
  exact kk _ _ _ ⟨_, _, _, _, _, _, _, _, _, _, _, _, _, _, _, hCI1, hMI1, hPN, hDN, hPM, hDM, fun i j p q hi hj e9 => hX2 j i q p hj hi e9.symm, hS⟩ hl

set_option maxHeartbeats 4000000 in
set_option maxRecDepth 100000 in
theorem law_as {p : Program} {l : Launch} {e : Env} {s : State} {m : MethodId} {below : List Frame} {meth : Method} {c : Code} {H : Heap} {locs : List Loc} {cells slots : Nat} {Q : State → Prop} {ls : Array Slot} {D : va_G} {cA : Nat → ClassId} {rN rM : Nat → Nat} {b L i tO : Nat} {xs : Nat → Int32} (hx : p.tables.exec = Jvm.exec) (hb : c.code = code) (hml : c.maxLocals = 4) (hown : s.vm.findClass RL = some m.cls) (hts : ∀ w ∈ wsL_law, w.before #[Value.ref b] s = true) (hX0 : va_X b L xs s s.heap) (hbl : b < s.heap.size) (hL : L ≤ 3072) (hK : va_K D vwCl (tyA cA) s) (hE : eO tO (fun q : Nat => s.heap.size ≤ q) s s.heap) (hi : i + 6 ≤ L) (hc6 : cells + 6 ≤ 600000) (hs30 : slots + 30 ≤ 7302250) (hI : lI D cA rN rM (fun q : Nat => s.heap.size ≤ q) s.heap H locs) (hl : lv_has ls 4 [(3, .int (nI i)), (0, .ref b), (1, .ref (rN 0)), (2, .ref (rM 0))])
    (kk : ∀ (H1 : Heap) (locs1 : List Loc) (ls1 : Array Slot), lI D cA rN rM (fun q : Nat => s.heap.size ≤ q) s.heap H1 locs1 → lv_has ls1 4 [(3, .int (nI i)), (0, .ref b), (1, .ref (rN 0)), (2, .ref (rM 0))] → W p l e room_1 s m #[Value.ref b] below meth c H1 locs1 (cells + 6) (slots + 30) Q (F0 m 1104 ls1 [])) : W p l e room_1 s m #[Value.ref b] below meth c H locs cells slots Q (F0 m 1022 ls []) := by
  obtain ⟨u, a, th, LP, tf, um, am, g, T, R, so, ln, ce, f, tr, hCI, hMI, hPN, hDN, hPM, hDM, hX, hS⟩ := hI
  have hA : ∀ q : Nat, s.heap.size ≤ q → (fun q : Nat => s.heap.size ≤ q) q := fun _ h => h
  have hbA : ¬ (fun q : Nat => s.heap.size ≤ q) b := Nat.not_le.mpr hbl
  refine lv_aload_n hx hb dL_law_1022 rfl (lv_at hl 2 rfl) ?_
  refine lv_aload_n hx hb dL_law_1023 rfl (lv_at hl 1 rfl) ?_
  refine lv_iload_n hx hb dL_law_1024 rfl (lv_at hl 0 rfl) ?_
  refine lv_iconst (v := (nI 1)) hx hb dL_law_1025 rfl ?_
  refine rn_iadd (x := i) (y := 1) hx hb dL_law_1026 ?_
  refine wSld hx hb hX0 hbl hbA hS (j := i + 1) (by omega) hL dL_law_1027 ?_
  refine lv_aload_n hx hb dL_law_1028 rfl (lv_at hl 1 rfl) ?_
  refine lv_iload_n hx hb dL_law_1029 rfl (lv_at hl 0 rfl) ?_
  refine lv_iconst (v := (nI 2)) hx hb dL_law_1030 rfl ?_
  refine rn_iadd (x := i) (y := 2) hx hb dL_law_1031 ?_
  refine wSld hx hb hX0 hbl hbA hS (j := i + 2) (by omega) hL dL_law_1032 ?_
  refine w2Vi (eO_S tO) (As := [.int (xs (i + 1)), .int (xs (i + 2))]) (rest := []) ⟨hx, hb, hml, hown, hts⟩ (kX9_as l D cA rN _ u a th LP tf tO g T R so ln ce f tr (xs (i + 1)) (xs (i + 2)) hCI) (cwV 2 hts gL_law_X9_as rfl rfl rfl (by decide +kernel) ⟨Nat.le_of_ble_eq_true rfl, Nat.le_of_ble_eq_true rfl⟩) (va_recv hK hPN (ci := 9) (q0 := 0) rfl rfl) hK hPN hDN hPM hX hS hA hE rfl hl.1 rfl (Nat.le_of_ble_eq_true rfl) dL_law_1033 ⟨by show cells + 0 ≤ 600000; omega, by show slots + 0 ≤ 7302250; omega⟩ (fun rv_1 z_1 H locs hw_1 hPN hDN hPM hX hS => ?_)
  obtain ⟨u1, a1, th1, LP1, tf1⟩ := z_1
  obtain ⟨rfl, hCI1⟩ := hw_1
  refine lv_aload_n hx hb dL_law_1036 rfl (lv_at hl 3 rfl) ?_
  refine lv_aload_n hx hb dL_law_1037 rfl (lv_at hl 1 rfl) ?_
  refine lv_iload_n hx hb dL_law_1038 rfl (lv_at hl 0 rfl) ?_
  refine lv_iconst (v := (nI 1)) hx hb dL_law_1039 rfl ?_
  refine rn_iadd (x := i) (y := 1) hx hb dL_law_1040 ?_
  refine wSld hx hb hX0 hbl hbA hS (j := i + 1) (by omega) hL dL_law_1041 ?_
  refine lv_aload_n hx hb dL_law_1042 rfl (lv_at hl 1 rfl) ?_
  refine lv_iload_n hx hb dL_law_1043 rfl (lv_at hl 0 rfl) ?_
  refine lv_iconst (v := (nI 2)) hx hb dL_law_1044 rfl ?_
  refine rn_iadd (x := i) (y := 2) hx hb dL_law_1045 ?_
  refine wSld hx hb hX0 hbl hbA hS (j := i + 2) (by omega) hL dL_law_1046 ?_
  refine w2Vi e0_S (As := [.int (xs (i + 1)), .int (xs (i + 2))]) (rest := [.int (aAs g T (xs (i + 1)) (xs (i + 2)))]) ⟨hx, hb, hml, hown, hts⟩ (kX10_as l D cA rM _ um am g T R so ln ce f tr (xs (i + 1)) (xs (i + 2)) hMI) (cwV 2 hts gL_law_X10_as rfl rfl rfl (by decide +kernel) ⟨Nat.le_of_ble_eq_true rfl, Nat.le_of_ble_eq_true rfl⟩) (va_recv hK hPM (ci := 10) (q0 := 0) rfl rfl) hK hPM hDM hPN (fun i j p q hi hj e9 => hX j i q p hj hi e9.symm) hS hA trivial rfl hl.1 rfl (Nat.le_of_ble_eq_true rfl) dL_law_1047 ⟨by show cells + 0 + 0 ≤ 600000; omega, by show slots + 0 + 0 ≤ 7302250; omega⟩ (fun rv_2 z_2 H locs hw_2 hPM hDM hPN hX2 hS => ?_)
  obtain ⟨um1, am1⟩ := z_2
  obtain ⟨rfl, hMI1⟩ := hw_2
  refine lv_icmp_eq (tgt := 1104) hx hb dL_law_1050 (by decide) (fun _ => ?_) (fun c9 => absurd rfl c9)
  refine W.widen (k := cells + 6) (n := slots + 30) (by omega) (by omega) ?_
  exact kk _ _ _ ⟨_, _, _, _, _, _, _, _, _, _, _, _, _, _, _, hCI1, hMI1, hPN, hDN, hPM, hDM, fun i j p q hi hj e9 => hX2 j i q p hj hi e9.symm, hS⟩ hl

set_option maxHeartbeats 4000000 in
set_option maxRecDepth 100000 in
theorem law_trace {p : Program} {l : Launch} {e : Env} {s : State} {m : MethodId} {below : List Frame} {meth : Method} {c : Code} {H : Heap} {locs : List Loc} {cells slots : Nat} {Q : State → Prop} {ls : Array Slot} {D : va_G} {cA : Nat → ClassId} {rN rM : Nat → Nat} {b L i tO : Nat} {xs : Nat → Int32} (hx : p.tables.exec = Jvm.exec) (hb : c.code = code) (hml : c.maxLocals = 4) (hown : s.vm.findClass RL = some m.cls) (hts : ∀ w ∈ wsL_law, w.before #[Value.ref b] s = true) (hX0 : va_X b L xs s s.heap) (hbl : b < s.heap.size) (hL : L ≤ 3072) (hK : va_K D vwCl (tyA cA) s) (hE : eO tO (fun q : Nat => s.heap.size ≤ q) s s.heap) (hi : i + 6 ≤ L) (hc6 : cells + 6 ≤ 600000) (hs30 : slots + 30 ≤ 7302250) (hI : lI D cA rN rM (fun q : Nat => s.heap.size ≤ q) s.heap H locs) (hl : lv_has ls 4 [(3, .int (nI i)), (0, .ref b), (1, .ref (rN 0)), (2, .ref (rM 0))])
    (kk : ∀ (H1 : Heap) (locs1 : List Loc) (ls1 : Array Slot), lI D cA rN rM (fun q : Nat => s.heap.size ≤ q) s.heap H1 locs1 → lv_has ls1 4 [(3, .int (nI i)), (0, .ref b), (1, .ref (rN 0)), (2, .ref (rM 0))] → W p l e room_1 s m #[Value.ref b] below meth c H1 locs1 (cells + 6) (slots + 30) Q (F0 m 1104 ls1 [])) : W p l e room_1 s m #[Value.ref b] below meth c H locs cells slots Q (F0 m 1055 ls []) := by
  obtain ⟨u, a, th, LP, tf, um, am, g, T, R, so, ln, ce, f, tr, hCI, hMI, hPN, hDN, hPM, hDM, hX, hS⟩ := hI
  have hA : ∀ q : Nat, s.heap.size ≤ q → (fun q : Nat => s.heap.size ≤ q) q := fun _ h => h
  have hbA : ¬ (fun q : Nat => s.heap.size ≤ q) b := Nat.not_le.mpr hbl
  refine lv_aload_n hx hb dL_law_1055 rfl (lv_at hl 2 rfl) ?_
  refine w2Vi (eO_S tO) (As := []) (rest := []) ⟨hx, hb, hml, hown, hts⟩ (kX9_trace l D cA rN _ u a th LP tf tO g T R so ln ce f tr  hCI) (cwV 0 hts gL_law_X9_trace rfl rfl rfl (by decide +kernel) ⟨Nat.le_of_ble_eq_true rfl, Nat.le_of_ble_eq_true rfl⟩) (va_recv hK hPN (ci := 9) (q0 := 0) rfl rfl) hK hPN hDN hPM hX hS hA hE rfl hl.1 rfl (Nat.le_of_ble_eq_true rfl) dL_law_1056 ⟨by show cells + 0 ≤ 600000; omega, by show slots + 0 ≤ 7302250; omega⟩ (fun rv_1 z_1 H locs hw_1 hPN hDN hPM hX hS => ?_)
  obtain ⟨u1, a1, th1, LP1, tf1⟩ := z_1
  obtain ⟨hv9, hCI1⟩ := hw_1
  have hv9 := hv9.symm
  subst hv9
  refine lv_aload_n hx hb dL_law_1059 rfl (lv_at hl 3 rfl) ?_
  refine w2Vi e0_S (As := []) (rest := [.int (tr)]) ⟨hx, hb, hml, hown, hts⟩ (kX10_trace l D cA rM _ um am g T R so ln ce f tr  hMI) (cwV 0 hts gL_law_X10_trace rfl rfl rfl (by decide +kernel) ⟨Nat.le_of_ble_eq_true rfl, Nat.le_of_ble_eq_true rfl⟩) (va_recv hK hPM (ci := 10) (q0 := 0) rfl rfl) hK hPM hDM hPN (fun i j p q hi hj e9 => hX j i q p hj hi e9.symm) hS hA trivial rfl hl.1 rfl (Nat.le_of_ble_eq_true rfl) dL_law_1060 ⟨by show cells + 0 + 0 ≤ 600000; omega, by show slots + 0 + 0 ≤ 7302250; omega⟩ (fun rv_2 z_2 H locs hw_2 hPM hDM hPN hX2 hS => ?_)
  obtain ⟨um1, am1⟩ := z_2
  obtain ⟨hv8, hMI1⟩ := hw_2
  have hv8 := hv8.symm
  subst hv8
  refine lv_icmp_eq (tgt := 1104) hx hb dL_law_1063 (by decide) (fun _ => ?_) (fun c9 => absurd rfl c9)
  refine W.widen (k := cells + 6) (n := slots + 30) (by omega) (by omega) ?_
  exact kk _ _ _ ⟨_, _, _, _, _, _, _, _, _, _, _, _, _, _, _, hCI1, hMI1, hPN, hDN, hPM, hDM, fun i j p q hi hj e9 => hX2 j i q p hj hi e9.symm, hS⟩ hl

set_option maxHeartbeats 4000000 in
set_option maxRecDepth 100000 in
theorem law_fault {p : Program} {l : Launch} {e : Env} {s : State} {m : MethodId} {below : List Frame} {meth : Method} {c : Code} {H : Heap} {locs : List Loc} {cells slots : Nat} {Q : State → Prop} {ls : Array Slot} {D : va_G} {cA : Nat → ClassId} {rN rM : Nat → Nat} {b L i tO : Nat} {xs : Nat → Int32} (hx : p.tables.exec = Jvm.exec) (hb : c.code = code) (hml : c.maxLocals = 4) (hown : s.vm.findClass RL = some m.cls) (hts : ∀ w ∈ wsL_law, w.before #[Value.ref b] s = true) (hX0 : va_X b L xs s s.heap) (hbl : b < s.heap.size) (hL : L ≤ 3072) (hK : va_K D vwCl (tyA cA) s) (hE : eO tO (fun q : Nat => s.heap.size ≤ q) s s.heap) (hi : i + 6 ≤ L) (hc6 : cells + 6 ≤ 600000) (hs30 : slots + 30 ≤ 7302250) (hI : lI D cA rN rM (fun q : Nat => s.heap.size ≤ q) s.heap H locs) (hl : lv_has ls 4 [(3, .int (nI i)), (0, .ref b), (1, .ref (rN 0)), (2, .ref (rM 0))])
    (kk : ∀ (H1 : Heap) (locs1 : List Loc) (ls1 : Array Slot), lI D cA rN rM (fun q : Nat => s.heap.size ≤ q) s.heap H1 locs1 → lv_has ls1 4 [(3, .int (nI i)), (0, .ref b), (1, .ref (rN 0)), (2, .ref (rM 0))] → W p l e room_1 s m #[Value.ref b] below meth c H1 locs1 (cells + 6) (slots + 30) Q (F0 m 1104 ls1 [])) : W p l e room_1 s m #[Value.ref b] below meth c H locs cells slots Q (F0 m 1068 ls []) := by
  obtain ⟨u, a, th, LP, tf, um, am, g, T, R, so, ln, ce, f, tr, hCI, hMI, hPN, hDN, hPM, hDM, hX, hS⟩ := hI
  have hA : ∀ q : Nat, s.heap.size ≤ q → (fun q : Nat => s.heap.size ≤ q) q := fun _ h => h
  have hbA : ¬ (fun q : Nat => s.heap.size ≤ q) b := Nat.not_le.mpr hbl
  refine lv_aload_n hx hb dL_law_1068 rfl (lv_at hl 2 rfl) ?_
  refine w2Vi (eO_S tO) (As := []) (rest := []) ⟨hx, hb, hml, hown, hts⟩ (kX9_fault l D cA rN _ u a th LP tf tO g T R so ln ce f tr  hCI) (cwV 0 hts gL_law_X9_fault rfl rfl rfl (by decide +kernel) ⟨Nat.le_of_ble_eq_true rfl, Nat.le_of_ble_eq_true rfl⟩) (va_recv hK hPN (ci := 9) (q0 := 0) rfl rfl) hK hPN hDN hPM hX hS hA hE rfl hl.1 rfl (Nat.le_of_ble_eq_true rfl) dL_law_1069 ⟨by show cells + 0 ≤ 600000; omega, by show slots + 0 ≤ 7302250; omega⟩ (fun rv_1 z_1 H locs hw_1 hPN hDN hPM hX hS => ?_)
  obtain ⟨u1, a1, th1, LP1, tf1⟩ := z_1
  obtain ⟨hv9, hCI1⟩ := hw_1
  have hv9 := hv9.symm
  subst hv9
  refine lv_aload_n hx hb dL_law_1072 rfl (lv_at hl 3 rfl) ?_
  refine w2Vi e0_S (As := []) (rest := [.int (f)]) ⟨hx, hb, hml, hown, hts⟩ (kX10_fault l D cA rM _ um am g T R so ln ce f tr  hMI) (cwV 0 hts gL_law_X10_fault rfl rfl rfl (by decide +kernel) ⟨Nat.le_of_ble_eq_true rfl, Nat.le_of_ble_eq_true rfl⟩) (va_recv hK hPM (ci := 10) (q0 := 0) rfl rfl) hK hPM hDM hPN (fun i j p q hi hj e9 => hX j i q p hj hi e9.symm) hS hA trivial rfl hl.1 rfl (Nat.le_of_ble_eq_true rfl) dL_law_1073 ⟨by show cells + 0 + 0 ≤ 600000; omega, by show slots + 0 + 0 ≤ 7302250; omega⟩ (fun rv_2 z_2 H locs hw_2 hPM hDM hPN hX2 hS => ?_)
  obtain ⟨um1, am1⟩ := z_2
  obtain ⟨hv8, hMI1⟩ := hw_2
  have hv8 := hv8.symm
  subst hv8
  refine lv_icmp_eq (tgt := 1104) hx hb dL_law_1076 (by decide) (fun _ => ?_) (fun c9 => absurd rfl c9)
  refine W.widen (k := cells + 6) (n := slots + 30) (by omega) (by omega) ?_
  exact kk _ _ _ ⟨_, _, _, _, _, _, _, _, _, _, _, _, _, _, _, hCI1, hMI1, hPN, hDN, hPM, hDM, fun i j p q hi hj e9 => hX2 j i q p hj hi e9.symm, hS⟩ hl

set_option maxHeartbeats 4000000 in
set_option maxRecDepth 100000 in
theorem law_many {p : Program} {l : Launch} {e : Env} {s : State} {m : MethodId} {below : List Frame} {meth : Method} {c : Code} {H : Heap} {locs : List Loc} {cells slots : Nat} {Q : State → Prop} {ls : Array Slot} {D : va_G} {cA : Nat → ClassId} {rN rM : Nat → Nat} {b L i tO : Nat} {xs : Nat → Int32} (hx : p.tables.exec = Jvm.exec) (hb : c.code = code) (hml : c.maxLocals = 4) (hown : s.vm.findClass RL = some m.cls) (hts : ∀ w ∈ wsL_law, w.before #[Value.ref b] s = true) (hX0 : va_X b L xs s s.heap) (hbl : b < s.heap.size) (hL : L ≤ 3072) (hK : va_K D vwCl (tyA cA) s) (hE : eO tO (fun q : Nat => s.heap.size ≤ q) s s.heap) (hi : i + 6 ≤ L) (hc6 : cells + 6 ≤ 600000) (hs30 : slots + 30 ≤ 7302250) (hI : lI D cA rN rM (fun q : Nat => s.heap.size ≤ q) s.heap H locs) (hl : lv_has ls 4 [(3, .int (nI i)), (0, .ref b), (1, .ref (rN 0)), (2, .ref (rM 0))])
    (kk : ∀ (H1 : Heap) (locs1 : List Loc) (ls1 : Array Slot), lI D cA rN rM (fun q : Nat => s.heap.size ≤ q) s.heap H1 locs1 → lv_has ls1 4 [(3, .int (nI i)), (0, .ref b), (1, .ref (rN 0)), (2, .ref (rM 0))] → W p l e room_1 s m #[Value.ref b] below meth c H1 locs1 (cells + 6) (slots + 30) Q (F0 m 1104 ls1 [])) : W p l e room_1 s m #[Value.ref b] below meth c H locs cells slots Q (F0 m 1081 ls []) := by
  obtain ⟨u, a, th, LP, tf, um, am, g, T, R, so, ln, ce, f, tr, hCI, hMI, hPN, hDN, hPM, hDM, hX, hS⟩ := hI
  have hA : ∀ q : Nat, s.heap.size ≤ q → (fun q : Nat => s.heap.size ≤ q) q := fun _ h => h
  have hbA : ¬ (fun q : Nat => s.heap.size ≤ q) b := Nat.not_le.mpr hbl
  refine lv_aload_n hx hb dL_law_1081 rfl (lv_at hl 2 rfl) ?_
  refine lv_aload_n hx hb dL_law_1082 rfl (lv_at hl 1 rfl) ?_
  refine lv_iload_n hx hb dL_law_1083 rfl (lv_at hl 0 rfl) ?_
  refine lv_iconst (v := (nI 1)) hx hb dL_law_1084 rfl ?_
  refine rn_iadd (x := i) (y := 1) hx hb dL_law_1085 ?_
  refine wSld hx hb hX0 hbl hbA hS (j := i + 1) (by omega) hL dL_law_1086 ?_
  refine w2Vi (eO_S tO) (As := [.int (xs (i + 1))]) (rest := []) ⟨hx, hb, hml, hown, hts⟩ (kX9_many l D cA rN _ u a th LP tf tO g T R so ln ce f tr (xs (i + 1)) hCI) (cwV 1 hts gL_law_X9_many rfl rfl rfl (by decide +kernel) ⟨Nat.le_of_ble_eq_true rfl, Nat.le_of_ble_eq_true rfl⟩) (va_recv hK hPN (ci := 9) (q0 := 0) rfl rfl) hK hPN hDN hPM hX hS hA hE rfl hl.1 rfl (Nat.le_of_ble_eq_true rfl) dL_law_1087 ⟨by show cells + 0 ≤ 600000; omega, by show slots + 0 ≤ 7302250; omega⟩ (fun rv_1 z_1 H locs hw_1 hPN hDN hPM hX hS => ?_)
  obtain ⟨u1, a1, th1, LP1, tf1⟩ := z_1
  obtain ⟨rfl, hCI1⟩ := hw_1
  refine lv_aload_n hx hb dL_law_1090 rfl (lv_at hl 3 rfl) ?_
  refine lv_aload_n hx hb dL_law_1091 rfl (lv_at hl 1 rfl) ?_
  refine lv_iload_n hx hb dL_law_1092 rfl (lv_at hl 0 rfl) ?_
  refine lv_iconst (v := (nI 1)) hx hb dL_law_1093 rfl ?_
  refine rn_iadd (x := i) (y := 1) hx hb dL_law_1094 ?_
  refine wSld hx hb hX0 hbl hbA hS (j := i + 1) (by omega) hL dL_law_1095 ?_
  refine w2Vi e0_S (As := [.int (xs (i + 1))]) (rest := [.int (aMany g (xs (i + 1)))]) ⟨hx, hb, hml, hown, hts⟩ (kX10_many l D cA rM _ um am g T R so ln ce f tr (xs (i + 1)) hMI) (cwV 1 hts gL_law_X10_many rfl rfl rfl (by decide +kernel) ⟨Nat.le_of_ble_eq_true rfl, Nat.le_of_ble_eq_true rfl⟩) (va_recv hK hPM (ci := 10) (q0 := 0) rfl rfl) hK hPM hDM hPN (fun i j p q hi hj e9 => hX j i q p hj hi e9.symm) hS hA trivial rfl hl.1 rfl (Nat.le_of_ble_eq_true rfl) dL_law_1096 ⟨by show cells + 0 + 0 ≤ 600000; omega, by show slots + 0 + 0 ≤ 7302250; omega⟩ (fun rv_2 z_2 H locs hw_2 hPM hDM hPN hX2 hS => ?_)
  obtain ⟨um1, am1⟩ := z_2
  obtain ⟨rfl, hMI1⟩ := hw_2
  refine lv_icmp_eq (tgt := 1104) hx hb dL_law_1099 (by decide) (fun _ => ?_) (fun c9 => absurd rfl c9)
  refine W.widen (k := cells + 6) (n := slots + 30) (by omega) (by omega) ?_
  exact kk _ _ _ ⟨_, _, _, _, _, _, _, _, _, _, _, _, _, _, _, hCI1, hMI1, hPN, hDN, hPM, hDM, fun i j p q hi hj e9 => hX2 j i q p hj hi e9.symm, hS⟩ hl
