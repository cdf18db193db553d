theorem lrA_congr {n0 l : Nat} {so lane i n : Int32} {c1 c2 : Nat → Int32} (hl : l ≤ 60) (h : ∀ q, q < 60 → c1 q = c2 q) : lrA n0 so (nI l) c1 lane i n = lrA n0 so (nI l) c2 lane i n := by
  by_cases e : ag so (nI l) lane i n = 0
  · obtain ⟨i0, m0, hi, hn, hin, -, -⟩ := ag_ok hl e
    unfold lrA
    rw [cif_pos e, cif_pos e, hi, hn, nI_clamp (by omega), nI_clamp (by omega)]
    have key : (∀ j, j < m0 → ∃ x, x < n0 ∧ c1 (i0 + j) = nI x) ↔ (∀ j, j < m0 → ∃ x, x < n0 ∧ c2 (i0 + j) = nI x) :=
      ⟨fun w j hj => by rw [← h (i0 + j) (by omega)]; exact w j hj, fun w j hj => by rw [h (i0 + j) (by omega)]; exact w j hj⟩
    by_cases q : ∀ j, j < m0 → ∃ x, x < n0 ∧ c1 (i0 + j) = nI x
    · rw [cif_pos q, cif_pos (key.mp q)]
    · rw [cif_neg q, cif_neg (fun w => q (key.mpr w))]
  · unfold lrA; rw [cif_neg e, cif_neg e]
theorem cif_ag (x : Int32) : cif (x = 0) (nI 0) x = x := by
  by_cases e : x = 0
  · rw [cif_pos e, e]; rfl
  · rw [cif_neg e]
/-- the refusal of a row of a sheet that there is -/
noncomputable def LR (g : Nat → Nat) (so : Nat → Int32) (ln : Nat → Nat) (ce : Nat → Nat → Int32) (sh lane i n : Int32) : Int32 := lrA (g 0) (so sh.toNatClampNeg) (nI (ln sh.toNatClampNeg)) (ce sh.toNatClampNeg) lane i n
def AG (so : Nat → Int32) (ln : Nat → Nat) (sh lane i n : Int32) : Int32 := ag (so sh.toNatClampNeg) (nI (ln sh.toNatClampNeg)) lane i n
def RO (ce : Nat → Nat → Int32) (sh i : Int32) : Nat → Nat := roC (ce sh.toNatClampNeg) i.toNatClampNeg
noncomputable def aRnd (g : Nat → Nat) (so : Nat → Int32) (ln : Nat → Nat) (ce : Nat → Nat → Int32) (C1 C2 : Prop) (sh lane i n v : Int32) : Int32 := cif C1 (cif C2 (cif (LR g so ln ce sh lane i n = 0) v (LR g so ln ce sh lane i n)) (-2)) (-1)
noncomputable def fRnd (so : Nat → Int32) (ln : Nat → Nat) (C1 C2 : Prop) (sh lane i n : Int32) : Int32 := cif C1 (cif C2 (AG so ln sh lane i n) (nI 0)) (nI 0)
/-- what is known of a row that was laid -/
theorem row_ok {g : Nat → Nat} {ce : Nat → Nat → Int32} {c : Nat → Int32} {a21 : Nat → Int32} {k i0 n0 : Nat} (hg : g 0 ≤ 6) (hin : i0 + n0 ≤ 60) (hc : ∀ q, q < 60 → c q = ce k q) (h : ∀ q, q < n0 → ∃ x, x < g 0 ∧ a21 q = nI x ∧ roC c i0 q = x) : (∀ q, q < n0 → a21 q = nI (roC (ce k) i0 q)) ∧ ∀ q, q < n0 → roC (ce k) i0 q < g 0 := by
  have e : ∀ q, q < n0 → roC (ce k) i0 q = roC c i0 q := fun q hq => by unfold roC; rw [hc (i0 + q) (by omega)]
  exact ⟨fun q hq => by obtain ⟨x, h1, h2, h3⟩ := h q hq; rw [e q hq, h3]; exact h2, fun q hq => by obtain ⟨x, h1, h2, h3⟩ := h q hq; rw [e q hq, h3]; exact h1⟩
