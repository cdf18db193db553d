/-! ===== the text of a street ===== -/
abbrev dgt (l : Nat) (c : Int32) : Prop := ∃ d : Nat, l ≤ d ∧ d ≤ 9 ∧ c = nI (48 + d)
def GO (p : Nat) (c : Int32) : Prop := if p < 2 then (if p = 0 then c = nI 115 else dgt 0 c) else if (p - 2) % 7 = 0 then (c = nI 59 ∧ (p - 2) / 7 < 6) else if (p - 2) % 7 = 1 then (c = nI 116 ∨ c = nI 100 ∨ c = nI 99) else if (p - 2) % 7 = 3 ∨ (p - 2) % 7 = 6 then dgt 1 c else dgt 0 c
theorem GO_0 {c : Int32} : GO 0 c ↔ c = nI 115 := by unfold GO; rw [if_pos (by decide), if_pos rfl]
theorem GO_1 {c : Int32} : GO 1 c ↔ dgt 0 c := by unfold GO; rw [if_pos (by decide), if_neg (by decide)]
theorem GO_s {p x : Nat} {c : Int32} (h : p = 2 + 7 * x) : GO p c ↔ (c = nI 59 ∧ x < 6) := by
  unfold GO; rw [if_neg (by omega), if_pos (by omega), show (p - 2) / 7 = x by omega]
theorem GO_k {p x : Nat} {c : Int32} (h : p = 3 + 7 * x) : GO p c ↔ (c = nI 116 ∨ c = nI 100 ∨ c = nI 99) := by
  unfold GO; rw [if_neg (by omega), if_neg (by omega), if_pos (by omega)]
theorem GO_d1 {p x : Nat} {c : Int32} (h : p = 5 + 7 * x ∨ p = 8 + 7 * x) : GO p c ↔ dgt 1 c := by
  unfold GO; rw [if_neg (by omega), if_neg (by omega), if_neg (by omega), if_pos (by omega)]
theorem GO_d0 {p x : Nat} {c : Int32} (h : p = 4 + 7 * x ∨ p = 6 + 7 * x ∨ p = 7 + 7 * x) : GO p c ↔ dgt 0 c := by
  unfold GO; rw [if_neg (by omega), if_neg (by omega), if_neg (by omega), if_neg (by omega)]
def Zr (cd : Nat → Int32) (p : Nat) : Prop := 2 ≤ p ∧ (p - 2) % 7 = 5 ∧ cd p = nI 48 ∧ cd (p - 1) = nI 48
theorem Zr_no {cd : Nat → Int32} {p : Nat} (h : p < 2 ∨ (p - 2) % 7 ≠ 5) : ¬ Zr cd p := fun q => by obtain ⟨h1, h2, -, -⟩ := q; omega
abbrev Gd (cd : Nat → Int32) (p : Nat) : Prop := GO p (cd p) ∧ ¬ Zr cd p
theorem Gd_ext {cd : Nat → Int32} {p p' : Nat} (h : ∀ j, j < p → Gd cd j) (hp : Gd cd p) (e : p' = p + 1) : ∀ j, j < p' → Gd cd j := fun j hj => by
  rcases Nat.lt_or_ge j p with w | w
  · exact h j w
  · rw [show j = p by omega]; exact hp
abbrev whole_ (n : Nat) : Prop := 9 ≤ n ∧ (n - 2) % 7 = 0
def FR (cd : Nat → Int32) (n F : Nat) : Prop := ∃ p, p ≤ n ∧ (∀ j, j < p → Gd cd j) ∧ ((p < n ∧ ¬ GO p (cd p) ∧ F = p) ∨ (p < n ∧ GO p (cd p) ∧ Zr cd p ∧ F = p - 1) ∨ (p = n ∧ ¬ whole_ n ∧ F = n))
def PASS (cd : Nat → Int32) (n : Nat) : Prop := (∀ j, j < n → Gd cd j) ∧ whole_ n
theorem FR_at {cd : Nat → Int32} {n p : Nat} (hp : p ≤ n) (h : ∀ j, j < p → Gd cd j) (h1 : p < n → ¬ GO p (cd p)) (h2 : p = n → ¬ whole_ n) : FR cd n p := by
  rcases Nat.lt_or_ge p n with w | w
  · exact ⟨p, hp, h, Or.inl ⟨w, h1 w, rfl⟩⟩
  · exact ⟨p, hp, h, Or.inr (Or.inr ⟨by omega, h2 (by omega), by omega⟩)⟩
theorem FR_np {cd : Nat → Int32} {n F : Nat} (h : FR cd n F) : ¬ PASS cd n := fun k => by
  obtain ⟨p, hp, -, h1 | h1 | h1⟩ := h
  · exact h1.2.1 (k.1 p h1.1).1
  · exact (k.1 p h1.1).2 h1.2.2.1
  · exact h1.2.1 k.2
theorem FR_one {cd : Nat → Int32} {n F F' : Nat} (h : FR cd n F) (k : FR cd n F') : F = F' := by
  obtain ⟨p, hp, hG, h1⟩ := h
  obtain ⟨q, hq, kG, k1⟩ := k
  have hpq : p = q := by
    rcases Nat.lt_trichotomy p q with w | w | w
    · have := kG p w
      rcases h1 with h1 | h1 | h1
      · exact absurd this.1 h1.2.1
      · exact absurd h1.2.2.1 this.2
      · omega
    · exact w
    · have := hG q w
      rcases k1 with k1 | k1 | k1
      · exact absurd this.1 k1.2.1
      · exact absurd k1.2.2.1 this.2
      · omega
  rw [← hpq] at k1
  rcases h1 with h1 | h1 | h1 <;> rcases k1 with k1 | k1 | k1
  · omega
  · exact absurd k1.2.1 h1.2.1
  · omega
  · exact absurd h1.2.1 k1.2.1
  · omega
  · omega
  · omega
  · omega
  · omega
noncomputable def FV (cd : Nat → Int32) (n : Nat) : Nat := @Classical.epsilon Nat ⟨0⟩ (FR cd n)
theorem FV_eq {cd : Nat → Int32} {n F : Nat} (h : FR cd n F) : F = FV cd n := FR_one h (Classical.epsilon_spec ⟨F, h⟩)
def vl (c : Int32) : Nat := c.toNatClampNeg - 48
theorem vl_eq {c : Int32} {d : Nat} (h : c = nI (48 + d)) (hd : d ≤ 9) : vl c = d := by unfold vl; rw [h, nI_clamp (by omega)]; omega
def kdn (c : Int32) : Nat := if c = nI 116 then 0 else if c = nI 100 then 1 else 2
/-- the numbers of thing x as the text tells them -/
def TP (cd : Nat → Int32) (f x : Nat) : Nat := if f = 0 then kdn (cd (3 + 7 * x)) else if f = 1 then vl (cd (4 + 7 * x)) else if f = 2 then vl (cd (5 + 7 * x)) else if f = 3 then 10 * vl (cd (6 + 7 * x)) + vl (cd (7 + 7 * x)) else vl (cd (8 + 7 * x))
theorem dgt_vl {l : Nat} {c : Int32} (h : dgt l c) : l ≤ vl c ∧ vl c ≤ 9 ∧ c = nI (48 + vl c) := by
  obtain ⟨d, h1, h2, h3⟩ := h
  rw [vl_eq h3 h2]; exact ⟨h1, h2, h3⟩
/-- the town that a text tells -/
def gP (cd : Nat → Int32) (n : Nat) : Nat → Nat := fun k => if k = 0 then (n - 2) / 7 else if k = 1 then vl (cd 1) else 0
theorem TB_P {cd : Nat → Int32} {n : Nat} (h : PASS cd n) : TB (gP cd n) (TP cd) := by
  obtain ⟨h1, h2⟩ := h
  have h0 : (n - 2) / 7 ≤ 6 := by
    have := ((GO_s (x := (n - 2) / 7 - 1) (c := cd (2 + 7 * ((n - 2) / 7 - 1))) rfl).mp (h1 _ (by omega)).1).2
    omega
  refine ⟨h0, (dgt_vl (GO_1.mp (h1 1 (by omega)).1)).2.1, Nat.zero_le _, fun x hx => ?_⟩
  have hx : x < (n - 2) / 7 := hx
  have k1 := dgt_vl ((GO_d0 (x := x) (Or.inl rfl)).mp (h1 (4 + 7 * x) (by omega)).1)
  have k2 := dgt_vl ((GO_d1 (x := x) (Or.inl rfl)).mp (h1 (5 + 7 * x) (by omega)).1)
  have k3 := dgt_vl ((GO_d0 (x := x) (Or.inr (Or.inl rfl))).mp (h1 (6 + 7 * x) (by omega)).1)
  have k4 := dgt_vl ((GO_d0 (x := x) (Or.inr (Or.inr rfl))).mp (h1 (7 + 7 * x) (by omega)).1)
  have k5 := dgt_vl ((GO_d1 (x := x) (Or.inr rfl)).mp (h1 (8 + 7 * x) (by omega)).1)
  have kz := (h1 (7 + 7 * x) (by omega)).2
  have k6 : kdn (cd (3 + 7 * x)) ≤ 2 := by unfold kdn; repeat' split
                                           all_goals decide
  have kh : 1 ≤ 10 * vl (cd (6 + 7 * x)) + vl (cd (7 + 7 * x)) := by
    rcases Nat.eq_zero_or_pos (10 * vl (cd (6 + 7 * x)) + vl (cd (7 + 7 * x))) with w | w
    · exact absurd ⟨by omega, by omega, by rw [k4.2.2, show vl (cd (7 + 7 * x)) = 0 by omega], by rw [show 7 + 7 * x - 1 = 6 + 7 * x by omega, k3.2.2, show vl (cd (6 + 7 * x)) = 0 by omega]⟩ kz
    · exact w
  exact ⟨k6, k1.2.1, k2.1, k2.2.1, kh, (show 10 * vl (cd (6 + 7 * x)) + vl (cd (7 + 7 * x)) ≤ 99 by omega), k5.1, k5.2.1⟩
def CD (ce : Nat → Nat → Int32) (sh i : Int32) : Nat → Int32 := fun q => ce sh.toNatClampNeg (i.toNatClampNeg + q)
abbrev stOK (so : Nat → Int32) (ln : Nat → Nat) (ce : Nat → Nat → Int32) (sh lane i n : Int32) : Prop := inR sh 0 3 ∧ inR lane 0 2 ∧ AG so ln sh lane i n = 0 ∧ PASS (CD ce sh i) n.toNatClampNeg
noncomputable def aStreet (so : Nat → Int32) (ln : Nat → Nat) (ce : Nat → Nat → Int32) (sh lane i n : Int32) : Int32 := cif (inR sh 0 3) (cif (inR lane 0 2) (cif (AG so ln sh lane i n = 0) (cif (PASS (CD ce sh i) n.toNatClampNeg) (nI ((n.toNatClampNeg - 2) / 7)) ((-100) - nI (FV (CD ce sh i) n.toNatClampNeg))) ((-10) - AG so ln sh lane i n)) (-2)) (-1)
noncomputable def fStreet (so : Nat → Int32) (ln : Nat → Nat) (sh lane i n : Int32) : Int32 := cif (inR sh 0 3) (cif (inR lane 0 2) (AG so ln sh lane i n) (nI 0)) (nI 0)
noncomputable def gStreet (g : Nat → Nat) (so : Nat → Int32) (ln : Nat → Nat) (ce : Nat → Nat → Int32) (sh lane i n : Int32) : Nat → Nat := cif (stOK so ln ce sh lane i n) (gP (CD ce sh i) n.toNatClampNeg) g
noncomputable def tStreet (T : Nat → Nat → Nat) (so : Nat → Int32) (ln : Nat → Nat) (ce : Nat → Nat → Int32) (sh lane i n : Int32) : Nat → Nat → Nat := cif (stOK so ln ce sh lane i n) (TP (CD ce sh i)) T
theorem whole_no {n p : Nat} (e : p = n) (h : p = 0 ∨ p = 1 ∨ p = 2 ∨ (p - 2) % 7 ≠ 0) : ¬ whole_ n := fun w => by omega
