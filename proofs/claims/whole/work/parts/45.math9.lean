def ps (N x : Nat) : Nat → Nat
  | 0 => 0
  | i + 1 => if dg N i = x then i else ps N x i
theorem ps_ok {N x : Nat} : ∀ {L : Nat}, (∃ i, i < L ∧ dg N i = x) → ps N x L < L ∧ dg N (ps N x L) = x
  | 0, h => by obtain ⟨i, hi, -⟩ := h; exact absurd hi (Nat.not_lt_zero i)
  | L + 1, h => by
    by_cases q : dg N L = x
    · rw [ps, if_pos q]; exact ⟨by omega, q⟩
    · rw [ps, if_neg q]
      obtain ⟨i, hi, e⟩ := h
      have := ps_ok (L := L) ⟨i, by
        rcases Nat.lt_or_ge i L with w | w
        · exact w
        · exact absurd (by rw [show L = i by omega]; exact e) q, e⟩
      exact ⟨by omega, this.2⟩
/-- all readings are so, by the round (model's words) -/
def aR (g : Nat → Nat) (T : Nat → Nat → Nat) (ro : Nat → Nat) (L nr : Nat) (rx rm rb : Nat → Nat) : Prop := ∀ q, q < nr → (rm q < ua (ct g T ro L) (fun k => ro (k % L)) (rx q) (hd g T (rx q)) (T 2 (rx q)) (rm q) (cnf (ct g T ro L) 300 400) ↔ rb q = 1)
theorem aR_ord {g : Nat → Nat} {T : Nat → Nat → Nat} {S L k N nr : Nat} {rx rm rb : Nat → Nat} (hB : TB g T) (h : chk S L k N = true) (hSn : S < 2 ^ g 0) (hall : ∀ x, x < g 0 → bi S x = 1) (hL : 0 < L) (hx : ∀ q, q < nr → rx q < g 0) (hm : ∀ q, q < nr → rm q < 300) : aR g T (dg N) L nr rx rm rb ↔ ∀ q, q < nr → ((if rm q < ct g T (dg N) L (ps N (rx q) L) then rm q < hd g T (rx q) else (rm q - ct g T (dg N) L (ps N (rx q) L)) % pd g T (dg N) L < T 2 (rx q) + hd g T (rx q)) ↔ rb q = 1) := by
  have hrg : ∀ k, k < L → dg N k < g 0 := fun k hk => bi_in hSn (chk_in h k hk)
  have key : ∀ q, q < nr → (rm q < ua (ct g T (dg N) L) (fun k => dg N (k % L)) (rx q) (hd g T (rx q)) (T 2 (rx q)) (rm q) (cnf (ct g T (dg N) L) 300 400) ↔ (if rm q < ct g T (dg N) L (ps N (rx q) L) then rm q < hd g T (rx q) else (rm q - ct g T (dg N) L (ps N (rx q) L)) % pd g T (dg N) L < T 2 (rx q) + hd g T (rx q))) := fun q hq => by
    obtain ⟨h1, h2⟩ := ps_ok (chk_on h (rx q) (by have := hB.1; have := hx q hq; omega) (hall _ (hx q hq)))
    have h3 := ua_order (w := rm q) hB hL hrg h1 (chk_ne2 h _ h1) (hm q hq) (hd g T (rx q)) (T 2 (rx q))
    rw [h2] at h3; exact h3
  exact ⟨fun w q hq => (key q hq).symm.trans (w q hq), fun w q hq => (key q hq).trans (w q hq)⟩
/-- counted: 1 where all readings are so; the first such order -/
noncomputable def pF (g : Nat → Nat) (T : Nat → Nat → Nat) (L nr : Nat) (rx rm rb : Nat → Nat) (N : Nat) : Nat := cif (aR g T (dg N) L nr rx rm rb) 1 0
theorem pF_le (g : Nat → Nat) (T : Nat → Nat → Nat) (L nr : Nat) (rx rm rb : Nat → Nat) (N : Nat) : pF g T L nr rx rm rb N ≤ 1 := by
  unfold pF
  by_cases q : aR g T (dg N) L nr rx rm rb
  · rw [cif_pos q]; exact Nat.le_refl 1
  · rw [cif_neg q]; exact Nat.zero_le 1
noncomputable def ft (p : Nat → Nat) (L : Nat) : Nat → Nat → Nat
  | 0, N => N
  | k + 1, N => cif (p N = 1) N (ft p L k (nx N L))
theorem ft_yes {p : Nat → Nat} {L k N : Nat} (h : p N = 1) : ft p L k N = N := by
  cases k with
  | zero => rfl
  | succ k => rw [ft, cif_pos h]
theorem ft_no {p : Nat → Nat} {L k N : Nat} (hk : 0 < k) (h : ¬ p N = 1) : ft p L k N = ft p L (k - 1) (nx N L) := by
  obtain ⟨k2, rfl⟩ : ∃ k2, k = k2 + 1 := ⟨k - 1, by omega⟩
  rw [ft, cif_neg h]; rfl
