/-! ===== the abstract state: g (0 things, 1 smithy, 2 rust, 3 readings), T, R (readings: 0 thing, 1 minute, 2 up), so (lanes), ln, ce (cells), fa (fault), tr (trace) ===== -/
def RdI (u : Nat → Int32) (a : Nat → Nat → Int32) (g : Nat → Nat) (R : Nat → Nat → Nat) : Prop := u 30 = nI (g 3) ∧ g 3 ≤ 8 ∧ (∀ q, q < g 3 → a 31 q = nI (R 0 q) ∧ R 0 q < g 0) ∧ (∀ q, q < g 3 → a 32 q = nI (R 1 q) ∧ R 1 q < 300) ∧ (∀ q, q < g 3 → a 33 q = nI (R 2 q) ∧ R 2 q ≤ 1)
abbrev isL (x : Int32) : Prop := x = nI 0 ∨ x = nI 1 ∨ x = nI 2
def ShI (a : Nat → Nat → Int32) (so : Nat → Int32) (ln : Nat → Nat) (ce : Nat → Nat → Int32) : Prop := ∀ k, k < 4 → a 2 k = so k ∧ (so k = -9 ∨ isL (so k)) ∧ a 3 k = nI (ln k) ∧ ln k ≤ 60 ∧ ∀ i, i < 60 → a 4 (60 * k + i) = ce k i
def MI (u : Nat → Int32) (a : Nat → Nat → Int32) (g : Nat → Nat) (T : Nat → Nat → Nat) (R : Nat → Nat → Nat) (so : Nat → Int32) (ln : Nat → Nat) (ce : Nat → Nat → Int32) (f tr : Int32) : Prop := MT u a g T ∧ TB g T ∧ RdI u a g R ∧ ShI a so ln ce ∧ u 0 = f ∧ u 1 = tr
theorem MI.keep {u u' : Nat → Int32} {a a' : Nat → Nat → Int32} {g : Nat → Nat} {T : Nat → Nat → Nat} {R : Nat → Nat → Nat} {so : Nat → Int32} {ln : Nat → Nat} {ce : Nat → Nat → Int32} {f f' tr tr' : Int32} (h : MI u a g T R so ln ce f tr) (h0 : u' 0 = f') (h1 : u' 1 = tr') (h5 : u' 5 = u 5) (h6 : u' 6 = u 6) (h7 : u' 7 = u 7) (h30 : u' 30 = u 30) (a2 : a' 2 = a 2) (a3 : a' 3 = a 3) (a4 : a' 4 = a 4) (a8 : a' 8 = a 8) (a9 : a' 9 = a 9) (a10 : a' 10 = a 10) (a11 : a' 11 = a 11) (a12 : a' 12 = a 12) (a31 : a' 31 = a 31) (a32 : a' 32 = a 32) (a33 : a' 33 = a 33) : MI u' a' g T R so ln ce f' tr' := by
  obtain ⟨q1, q2, q3, q4, -, -⟩ := h
  refine ⟨q1.keep h5 h6 h7 a8 a9 a10 a11 a12, q2, ?_, ?_, h0, h1⟩
  · unfold RdI; rw [h30, a31, a32, a33]; exact q3
  · unfold ShI; rw [a2, a3, a4]; exact q4
/-- one number of the town changed -/
def gu (g : Nat → Nat) (i x : Nat) : Nat → Nat := fun k => if k = i then x else g k
theorem gu_ne {g : Nat → Nat} {i x k : Nat} (h : k ≠ i) : gu g i x k = g k := if_neg h
theorem gu_eq {g : Nat → Nat} {i x : Nat} : gu g i x i = x := if_pos rfl
abbrev inR (x : Int32) (lo hi : Nat) : Prop := nI lo ≤ x ∧ x ≤ nI hi
theorem inR_of {x : Int32} {lo hi : Nat} (h : inR x lo hi) (hl : lo < 2 ^ 31) (hh : hi < 2 ^ 31) : ∃ j : Nat, x = nI j ∧ lo ≤ j ∧ j ≤ hi ∧ x.toNatClampNeg = j := by
  have h0 : ¬ x < 0 := fun q => nI_pos hl (Int32.lt_of_le_of_lt h.1 q)
  obtain ⟨j, hj, rfl⟩ := nI_of h0
  exact ⟨j, rfl, (nI_leI hl hj).mp h.1, (nI_leI hj hh).mp h.2, nI_clamp hj⟩
/-- x is a thing -/
abbrev isT (n : Nat) (x : Int32) : Prop := ∃ j : Nat, j < n ∧ x = nI j
theorem isT_of {n : Nat} {x : Int32} (h : isT n x) (hn : n ≤ 6) : x = nI x.toNatClampNeg ∧ x.toNatClampNeg < n := by
  obtain ⟨j, hj, rfl⟩ := h
  rw [nI_clamp (by omega)]; exact ⟨rfl, hj⟩
-- answers
noncomputable def aSmithy (g : Nat → Nat) (x : Int32) : Int32 := cif (inR x 0 9) (cif (g 0 = 0) (-3) (nI (g 1))) (-2)
noncomputable def gSmithy (g : Nat → Nat) (x : Int32) : Nat → Nat := cif (inR x 0 9) (cif (g 0 = 0) g (gu g 1 x.toNatClampNeg)) g
noncomputable def aRust (g : Nat → Nat) (x : Int32) : Int32 := cif (inR x 0 50) (cif (g 0 = 0) (-3) (nI (g 2))) (-2)
noncomputable def gRust (g : Nat → Nat) (x : Int32) : Nat → Nat := cif (inR x 0 50) (cif (g 0 = 0) g (gu g 2 x.toNatClampNeg)) g
noncomputable def aMany (g : Nat → Nat) (x : Int32) : Int32 := cif (x = 0) (nI (g 0)) (cif (x = nI 1) (nI (g 1)) (cif (x = nI 2) (nI (g 2)) (cif (x = nI 3) (nI (g 3)) (-2))))
noncomputable def aOf (g : Nat → Nat) (T : Nat → Nat → Nat) (x w : Int32) : Int32 := cif (isT (g 0) x) (cif (w = nI 0) (nI (T 0 x.toNatClampNeg)) (cif (w = nI 1) (nI (T 1 x.toNatClampNeg)) (cif (w = nI 2) (nI (T 2 x.toNatClampNeg)) (cif (w = nI 3) (nI (T 3 x.toNatClampNeg)) (cif (w = nI 4) (nI (T 4 x.toNatClampNeg)) (cif (w = nI 5) (nI (hd g T x.toNatClampNeg)) (-2))))))) (-1)
noncomputable def aBack (g : Nat → Nat) (k : Int32) : Int32 := cif (inR k 0 (g 3)) (nI (g 3 - k.toNatClampNeg)) (-2)
noncomputable def gBack (g : Nat → Nat) (k : Int32) : Nat → Nat := cif (inR k 0 (g 3)) (gu g 3 (g 3 - k.toNatClampNeg)) g
noncomputable def aRead (g : Nat → Nat) (x w : Int32) : Int32 := cif (isT (g 0) x) (cif (inR w 0 299) (cif (g 3 = 8) (-4) (nI (g 3))) (-2)) (-1)
noncomputable def gRead (g : Nat → Nat) (x w : Int32) : Nat → Nat := cif (isT (g 0) x) (cif (inR w 0 299) (cif (g 3 = 8) g (gu g 3 (g 3 + 1))) g) g
noncomputable def rRead (g : Nat → Nat) (R : Nat → Nat → Nat) (x w b : Int32) : Nat → Nat → Nat := cif (isT (g 0) x) (cif (inR w 0 299) (cif (g 3 = 8) R (fun f q => if q = g 3 then (if f = 0 then x.toNatClampNeg else if f = 1 then w.toNatClampNeg else b.toNatClampNeg) else R f q)) R) R
noncomputable def aAs (g : Nat → Nat) (T : Nat → Nat → Nat) (x w : Int32) : Int32 := cif (isT (g 0) x) (cif (inR w 0 2) (cif (w.toNatClampNeg ≤ T 0 x.toNatClampNeg) (nI 1) (-12)) (-2)) (-1)
noncomputable def fAs (g : Nat → Nat) (T : Nat → Nat → Nat) (x w : Int32) : Int32 := cif (isT (g 0) x) (cif (inR w 0 2) (cif (w.toNatClampNeg ≤ T 0 x.toNatClampNeg) (nI 0) (nI 2)) (nI 0)) (nI 0)
noncomputable def aTell (g : Nat → Nat) (T : Nat → Nat → Nat) (x : Int32) : Int32 := cif (isT (g 0) x) (cif (T 0 x.toNatClampNeg = 1) (nI (T 3 x.toNatClampNeg + 100)) (cif (T 0 x.toNatClampNeg = 2) (nI (2 * T 3 x.toNatClampNeg + 100)) (nI (T 3 x.toNatClampNeg)))) (-1)
def bg (tr : Int32) (n : Nat) : Int32 := nI 31 * tr + nI n
noncomputable def tTell (g : Nat → Nat) (T : Nat → Nat → Nat) (tr x : Int32) : Int32 := cif (isT (g 0) x) (cif (T 0 x.toNatClampNeg = 1) (bg (bg tr 2) 1) (cif (T 0 x.toNatClampNeg = 2) (bg (bg (bg (bg tr 3) 2) 1) 1) (bg tr 1))) tr
noncomputable def aStrike (g : Nat → Nat) (T : Nat → Nat → Nat) (x : Int32) : Int32 := cif (isT (g 0) x) (cif (T 0 x.toNatClampNeg = 2) (nI 30) x) (-1)
noncomputable def tStrike (g : Nat → Nat) (T : Nat → Nat → Nat) (tr x : Int32) : Int32 := cif (isT (g 0) x) (cif (T 0 x.toNatClampNeg = 2) (bg tr 5) (bg tr 4)) tr
theorem TB_gu1 {g : Nat → Nat} {T : Nat → Nat → Nat} (h : TB g T) {x : Nat} (hx : x ≤ 9) : TB (gu g 1 x) T := ⟨h.1, hx, h.2.2.1, h.2.2.2⟩
theorem TB_gu2 {g : Nat → Nat} {T : Nat → Nat → Nat} (h : TB g T) {x : Nat} (hx : x ≤ 50) : TB (gu g 2 x) T := ⟨h.1, h.2.1, hx, h.2.2.2⟩
theorem TB_gu3 {g : Nat → Nat} {T : Nat → Nat → Nat} (h : TB g T) {x : Nat} : TB (gu g 3 x) T := ⟨h.1, h.2.1, h.2.2.1, h.2.2.2⟩
