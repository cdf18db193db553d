/-! ===== what a call answers, and what it does: words for both sides ===== -/
noncomputable def cif {α : Type} (P : Prop) (x y : α) : α := @ite α P (Classical.propDecidable P) x y
theorem cif_pos {α : Type} {P : Prop} {x y : α} (h : P) : cif P x y = x := @if_pos P (Classical.propDecidable P) h α x y
theorem cif_neg {α : Type} {P : Prop} {x y : α} (h : ¬ P) : cif P x y = y := @if_neg P (Classical.propDecidable P) h α x y
theorem ag_ok {so sort i n : Int32} {l : Nat} (hl : l ≤ 60) (h : ag so (nI l) sort i n = 0) : ∃ i0 n0 : Nat, i = nI i0 ∧ n = nI n0 ∧ i0 + n0 ≤ l ∧ so = sort ∧ so ≠ -9 := by
  unfold ag at h
  split at h
  · exact absurd h (by decide)
  split at h
  · exact absurd h (by decide)
  split at h
  · exact absurd h (by decide)
  split at h
  · exact absurd h (by decide)
  rename_i h1 h2 h3 h4
  have hi0 : ¬ i < 0 := fun q => h4 (Or.inl q)
  obtain ⟨i0, hi1, rfl⟩ := nI_of hi0
  obtain ⟨n0, hn1, rfl⟩ := nI_of h3
  have hil : i0 ≤ l := by
    rcases Nat.lt_or_ge l i0 with q | q
    · exact absurd (Or.inr (Or.inl ((nI_ltI (by omega) hi1).mpr q))) h4
    · exact q
  have hnl : n0 ≤ l - i0 := by
    rcases Nat.lt_or_ge (l - i0) n0 with q | q
    · exact absurd (Or.inr (Or.inr (by rw [pk_sub hil]; exact (nI_ltI (by omega) hn1).mpr q))) h4
    · exact q
  refine ⟨i0, n0, rfl, rfl, by omega, ?_, h2⟩
  exact Classical.byContradiction (fun q => h1 ⟨h2, q⟩)
/-- the answer of a row that is to be laid: n0 things there are, the sheet has lane so, length ln, cells ce -/
noncomputable def lrA (n0 : Nat) (so ln : Int32) (ce : Nat → Int32) (lane i n : Int32) : Int32 :=
  cif (ag so ln lane i n = 0) (cif (n0 = 0) (-3) (cif (nI 1 ≤ n ∧ n ≤ nI 8) (cif (∀ j, j < n.toNatClampNeg → ∃ x, x < n0 ∧ ce (i.toNatClampNeg + j) = nI x) (nI 0) (-1)) (-2))) ((-10) - ag so ln lane i n)
/-- a row of cells as a round -/
def roC (ce : Nat → Int32) (i j : Nat) : Nat := (ce (i + j)).toNatClampNeg
theorem roC_eq {ce : Nat → Int32} {i j x : Nat} (h : ce (i + j) = nI x) (hx : x < 6) : roC ce i j = x := by unfold roC; rw [h, nI_clamp (by omega)]
