/-! ===== the orders one after another ===== -/
def okr (S L N : Nat) : Bool := (List.range L).all (fun k => bi S (dg N k) == 1) && (List.range L).all (fun i => (List.range i).all (fun j => dg N i != dg N j)) && (List.range 6).all (fun x => bi S x == 0 || (List.range L).any (fun k => dg N k == x))
def chk (S L : Nat) : Nat → Nat → Bool
  | 0, N => okr S L N && (fk N (L - 1) == 0)
  | k + 1, N => okr S L N && (fk N (L - 1) != 0) && chk S L k (nx N L)
def fct (L : Nat) : Nat := match L with
  | 0 => 1
  | 1 => 1
  | 2 => 2
  | 3 => 6
  | 4 => 24
  | 5 => 120
  | _ => 720
def f1c (S n : Nat) : Nat := mk (of1 S n) (ol S n)
theorem perms_ok : ∀ n, n ≤ 6 → ∀ S, S < 2 ^ n → chk S (ol S n) (fct (ol S n) - 1) (f1c S n) = true := by decide +kernel
theorem chk_okr {S L k N : Nat} (h : chk S L k N = true) : okr S L N = true := by
  cases k with
  | zero => rw [chk, Bool.and_eq_true] at h; exact h.1
  | succ k => rw [chk, Bool.and_eq_true, Bool.and_eq_true] at h; exact h.1.1
theorem chk_in {S L k N : Nat} (h : chk S L k N = true) : ∀ i, i < L → bi S (dg N i) = 1 := fun i hi => by
  have := chk_okr h
  rw [okr, Bool.and_eq_true, Bool.and_eq_true] at this
  have := List.all_eq_true.mp this.1.1 i (List.mem_range.mpr hi)
  exact eq_of_beq this
theorem chk_on {S L k N : Nat} (h : chk S L k N = true) : ∀ x, x < 6 → bi S x = 1 → ∃ i, i < L ∧ dg N i = x := fun x hx hb => by
  have := chk_okr h
  rw [okr, Bool.and_eq_true] at this
  have := List.all_eq_true.mp this.2 x (List.mem_range.mpr hx)
  rw [hb] at this
  have h2 : (List.range L).any (fun k => dg N k == x) = true := by simpa using this
  obtain ⟨i, hi, e⟩ := List.any_eq_true.mp h2
  exact ⟨i, List.mem_range.mp hi, eq_of_beq e⟩
theorem chk_ne {S L k N : Nat} (h : chk S L k N = true) : ∀ i, i < L → ∀ j, j < i → dg N i ≠ dg N j := fun i hi j hj => by
  have := chk_okr h
  rw [okr, Bool.and_eq_true, Bool.and_eq_true] at this
  have := List.all_eq_true.mp this.1.2 i (List.mem_range.mpr hi)
  have := List.all_eq_true.mp this j (List.mem_range.mpr hj)
  simpa using this
theorem chk_end {S L k N : Nat} (h : chk S L k N = true) (hf : fk N (L - 1) = 0) : k = 0 := by
  cases k with
  | zero => rfl
  | succ k => rw [chk, Bool.and_eq_true, Bool.and_eq_true, hf] at h; exact absurd h.1.2 (by decide)
theorem chk_next {S L k N : Nat} (h : chk S L k N = true) (hf : fk N (L - 1) ≠ 0) : 0 < k ∧ chk S L (k - 1) (nx N L) = true := by
  cases k with
  | zero =>
    rw [chk, Bool.and_eq_true] at h
    exact absurd (eq_of_beq h.2) hf
  | succ k => rw [chk, Bool.and_eq_true] at h; exact ⟨Nat.succ_pos k, h.2⟩
theorem bi_in {S n x : Nat} (hS : S < 2 ^ n) (h : bi S x = 1) : x < n := by
  rcases Nat.lt_or_ge x n with q | q
  · exact q
  · have : S / 2 ^ x = 0 := Nat.div_eq_of_lt (Nat.lt_of_lt_of_le hS (Nat.pow_le_pow_right (by decide) q))
    rw [bi, this] at h; exact absurd h (by decide)
theorem ol_pos {S x : Nat} : ∀ {n : Nat}, x < n → bi S x = 1 → 0 < ol S n
  | 0, h, _ => absurd h (Nat.not_lt_zero x)
  | n + 1, h, hb => by
    unfold ol
    rcases Nat.lt_or_ge x n with q | q
    · have := ol_pos q hb; split <;> omega
    · obtain rfl : x = n := by omega
      rw [if_pos hb]; omega
theorem of_lt {S : Nat} : ∀ {n : Nat}, n ≤ 6 → ∀ k, of1 S n k < 8
  | 0, _, k => by show 0 < 8; decide
  | n + 1, h, k => by
    unfold of1
    split
    · show (if k = ol S n then n else of1 S n k) < 8
      split
      · omega
      · exact of_lt (by omega) k
    · exact of_lt (by omega) k
theorem dg_f1 {S n k : Nat} (hn : n ≤ 6) (hk : k < ol S n) : dg (f1c S n) k = of1 S n k := dg_mk _ _ k (fun i _ => of_lt hn i) hk
theorem p2_64 {n S : Nat} (hn : n ≤ 6) (hS : S < 2 ^ n) : S < 64 := Nat.lt_of_lt_of_le hS (Nat.le_trans (Nat.pow_le_pow_right (by decide) hn) (by decide))
/-- the first of the least -/
def cm (x r : Nat × Nat) : Nat × Nat := if r.1 < x.1 then r else x
theorem cm_as (x y r : Nat × Nat) : cm x (cm y r) = cm (cm x y) r := by
  unfold cm; repeat' split
  all_goals first | rfl | omega
def bo (val : Nat → Nat) (L : Nat) : Nat → Nat → Nat × Nat
  | 0, N => (val N, N)
  | k + 1, N => cm (val N, N) (bo val L k (nx N L))
/-- some order of those that follow -/
def an (P : Nat → Prop) (L : Nat) : Nat → Nat → Prop
  | 0, N => P N
  | k + 1, N => P N ∨ an P L k (nx N L)
/-- how many of those that follow (p N is 0 or 1) -/
def cq (p : Nat → Nat) (L : Nat) : Nat → Nat → Nat
  | 0, N => p N
  | k + 1, N => p N + cq p L k (nx N L)
theorem nI_ne9 {b : Nat} (h : b < 2 ^ 31) : ¬ nI b = -9 := fun e => by
  have := nI_pos h
  rw [e] at this; exact this (by decide)
/-- bits below place j -/
def sb (S : Nat) : Nat → Nat
  | 0 => 0
  | j + 1 => sb S j + bi S j
theorem sb_le (S : Nat) : ∀ j, sb S j ≤ j
  | 0 => Nat.le_refl _
  | j + 1 => by have := sb_le S j; have := bi_lt S j; unfold sb; omega
theorem sb_top {S j : Nat} (h : S / 2 ^ j = 0) : ∀ n, sb S (j + n) = sb S j
  | 0 => rfl
  | n + 1 => by
    rw [← Nat.add_assoc, sb, sb_top h n]
    have : S / 2 ^ (j + n) = 0 := by rw [Nat.pow_add, ← Nat.div_div_eq_div_mul, h, Nat.zero_div]
    rw [bi, this]; rfl
theorem and1_row : ∀ m, m < 64 → nI m &&& nI 1 = nI (m % 2) := by decide +kernel
theorem shr1_row : ∀ m, m < 64 → nI m >>> (nI 1 &&& 31) = nI (m / 2) := by decide +kernel
theorem hs_le2 {T : Nat → Nat → Nat} {f : Nat → Nat} {S : Nat} : ∀ {n : Nat}, (∀ x, x < n → T 4 x ≤ 9 ∧ (bi S x = 1 → f x ≤ 301)) → hs T f S n ≤ 2709 * n
  | 0, _ => Nat.zero_le _
  | n + 1, h => by
    have ih := hs_le2 (T := T) (f := f) (S := S) (n := n) (fun x hx => h x (by omega))
    have h1 := h n (by omega)
    unfold hs; split
    · rename_i hb
      have : T 4 n * f n ≤ 9 * 301 := Nat.mul_le_mul h1.1 (h1.2 hb)
      omega
    · omega
