/-! ===== the class's picture of the same state ===== -/
def RdN (u : Nat → Int32) (a : Nat → Nat → Int32) (g : Nat → Nat) (R : Nat → Nat → Nat) : Prop := u 4 = nI (g 3) ∧ g 3 ≤ 8 ∧ (∀ q, q < g 3 → a 17 q = nI (R 0 q) ∧ R 0 q < g 0) ∧ (∀ q, q < g 3 → a 18 q = nI (R 1 q) ∧ R 1 q < 300) ∧ (∀ q, q < g 3 → a 19 q = nI (R 2 q) ∧ R 2 q ≤ 1)
def ShN (u : Nat → Int32) (a : Nat → Nat → Int32) (so : Nat → Int32) (ln : Nat → Nat) (ce : Nat → Nat → Int32) : Prop := ∀ k, k < 4 → (so k = -9 ∨ isL (so k)) ∧ u (14 + k) = (if so k = -9 then -1 else so k) ∧ u (18 + k) = nI (if so k = -9 then 0 else ln k) ∧ ln k ≤ 60 ∧ (so k ≠ -9 → ∀ i, i < ln k → a (26 + k) i = ce k i)
def kc (k : Nat) : Nat := if k = 0 then 6 else if k = 1 then 1 else 0
def thE (T : Nat → Nat → Nat) (x : Nat) : va_E := .inr (kc (T 0 x), [.int (nI x), .int (nI (T 1 x)), .int (nI (T 2 x)), .int (nI (T 3 x)), .int (nI (T 4 x))])
def PoN (th : Nat → Option Nat) (LP : List Nat) (tf : Nat → va_E) (g : Nat → Nat) (T : Nat → Nat → Nat) : Prop := ∀ x, x < g 0 → ∃ q, th x = some q ∧ q ∈ LP ∧ tf q = thE T x
def CI (u : Nat → Int32) (a : Nat → Nat → Int32) (th : Nat → Option Nat) (LP : List Nat) (tf : Nat → va_E) (g : Nat → Nat) (T : Nat → Nat → Nat) (R : Nat → Nat → Nat) (so : Nat → Int32) (ln : Nat → Nat) (ce : Nat → Nat → Int32) (f tr : Int32) : Prop := NT u a g T ∧ TB g T ∧ u 2 = nI (g 1) ∧ u 3 = nI (g 2) ∧ RdN u a g R ∧ ShN u a so ln ce ∧ u 0 = f ∧ u 13 = tr ∧ PoN th LP tf g T
abbrev ku (i : Nat) : Prop := (1 ≤ i ∧ i ≤ 4) ∨ (14 ≤ i ∧ i ≤ 21)
abbrev ka (i : Nat) : Prop := (13 ≤ i ∧ i ≤ 19) ∨ (26 ≤ i ∧ i ≤ 29)
theorem ShN.keep {u u' : Nat → Int32} {a a' : Nat → Nat → Int32} {so : Nat → Int32} {ln : Nat → Nat} {ce : Nat → Nat → Int32} (h : ShN u a so ln ce) (hu : ∀ i, 14 ≤ i ∧ i ≤ 21 → u' i = u i) (ha : ∀ i, 26 ≤ i ∧ i ≤ 29 → a' i = a i) : ShN u' a' so ln ce := fun k hk => by
  have h1 := h k hk
  rw [hu (14 + k) (by omega), hu (18 + k) (by omega), ha (26 + k) (by omega)]; exact h1
theorem RdN.keep {u u' : Nat → Int32} {a a' : Nat → Nat → Int32} {g : Nat → Nat} {R : Nat → Nat → Nat} (h : RdN u a g R) (h4 : u' 4 = u 4) (a17 : a' 17 = a 17) (a18 : a' 18 = a 18) (a19 : a' 19 = a 19) : RdN u' a' g R := by unfold RdN; rw [h4, a17, a18, a19]; exact h
theorem CI.keep {u u' : Nat → Int32} {a a' : Nat → Nat → Int32} {th : Nat → Option Nat} {LP : List Nat} {tf : Nat → va_E} {g : Nat → Nat} {T : Nat → Nat → Nat} {R : Nat → Nat → Nat} {so : Nat → Int32} {ln : Nat → Nat} {ce : Nat → Nat → Int32} {f f' tr tr' : Int32} (h : CI u a th LP tf g T R so ln ce f tr) (h0 : u' 0 = f') (h13 : u' 13 = tr') (hu : ∀ i, ku i → u' i = u i) (ha : ∀ i, ka i → a' i = a i) : CI u' a' th LP tf g T R so ln ce f' tr' := by
  obtain ⟨q1, q2, q3, q4, q5, q6, -, -, q9⟩ := h
  exact ⟨q1.keep (hu 1 (by omega)) (ha 13 (by omega)) (ha 14 (by omega)) (ha 15 (by omega)) (ha 16 (by omega)), q2, (hu 2 (by omega)).trans q3, (hu 3 (by omega)).trans q4, q5.keep (hu 4 (by omega)) (ha 17 (by omega)) (ha 18 (by omega)) (ha 19 (by omega)), q6.keep (fun i hi => hu i (Or.inr hi)) (fun i hi => ha i (Or.inr hi)), h0, h13, q9⟩
theorem ir_in {x : Int32} {lo hi : Nat} (h : ¬ x < nI lo) (h2 : ¬ nI (hi + 1) ≤ x) (hh : hi + 1 < 2 ^ 31) (hl : lo < 2 ^ 31) : inR x lo hi := by
  have h0 : ¬ x < 0 := fun q => nI_pos hl (Int32.lt_of_le_of_lt (Int32.not_lt.mp h) q)
  obtain ⟨j, hj, rfl⟩ := nI_of h0
  refine ⟨Int32.not_lt.mp h, (nI_leI hj (by omega)).mpr ?_⟩
  rcases Nat.lt_or_ge hi j with q | q
  · exact absurd ((nI_leI hh hj).mpr q) h2
  · exact q
theorem ir_hi {x : Int32} {lo hi : Nat} (h2 : nI (hi + 1) ≤ x) (hh : hi + 1 < 2 ^ 31) : ¬ inR x lo hi := fun q => by
  have := Int32.le_trans h2 q.2
  exact absurd ((nI_leI hh (by omega)).mp this) (by omega)
theorem ir_lo {x : Int32} {lo hi : Nat} (h : x < nI lo) : ¬ inR x lo hi := fun q => absurd q.1 (Int32.not_le.mpr h)
theorem ir_gt {x : Int32} {lo hi : Nat} (h : nI hi < x) : ¬ inR x lo hi := fun q => absurd q.2 (Int32.not_le.mpr h)
theorem half_in {x : Int32} (h : x = 0 ∨ x = nI 1) : inR x 0 1 := by
  rcases h with rfl | rfl <;> exact ⟨by decide, by decide⟩
theorem half_out {x : Int32} (h : ¬ x = 0) (h1 : ¬ x = nI 1) : ¬ inR x 0 1 := fun q => by
  obtain ⟨j, e, h2, h3, -⟩ := inR_of q (by decide) (by decide)
  rcases (show j = 0 ∨ j = 1 by omega) with w | w
  · exact h (by rw [e, w]; rfl)
  · exact h1 (by rw [e, w])
theorem m1_lt {n : Nat} {q : Int32} (hn : 0 < n) (h6 : n ≤ 6) : ((-1) ≤ q ∧ q ≤ nI (n - 1)) ↔ ¬ q < -1 ∧ q < nI n := by
  constructor
  · rintro ⟨h1, h2⟩
    refine ⟨Int32.not_lt.mpr h1, ?_⟩
    exact Int32.lt_of_le_of_lt h2 ((nI_ltI (by omega) (by omega)).mpr (by omega))
  · rintro ⟨h1, h2⟩
    refine ⟨Int32.not_lt.mp h1, ?_⟩
    by_cases e : q = -1
    · rw [e]; exact Int32.le_trans (by decide : (-1 : Int32) ≤ 0) (nI_pos' (by omega))
    · obtain ⟨j, hj, rfl⟩ := nI_of (m1_of (Int32.not_lt.mp h1) e)
      exact (nI_leI hj (by omega)).mpr (by have := (nI_ltI hj (by omega)).mp h2; omega)
theorem andn_row : ∀ n, n ≤ 6 → ∀ q, q < 2 ^ n → (nI (2 ^ n - 1) &&& (nI q ^^^ (-1))) = nI (2 ^ n - 1 - q) := by decide +kernel
theorem sb_full : ∀ n, n ≤ 6 → ∀ q, q < 2 ^ n → sb (2 ^ n - 1) 6 ≤ sb q 6 → q = 2 ^ n - 1 := by decide +kernel
theorem am_stop {W : Nat → Nat} {n : Nat} (h : W (am W n) = 0) : ∀ d, am W (n + d) = am W n
  | 0 => rfl
  | d + 1 => by
    have ih := am_stop h d
    rw [← Nat.add_assoc, am_no (by rw [ih, h]; exact Nat.not_lt_zero _)]; exact ih
