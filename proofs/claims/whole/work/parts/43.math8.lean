theorem fct_le (L : Nat) : 1 ≤ fct L ∧ fct L ≤ 720 := by unfold fct; split <;> decide
theorem fB_le {h y c P t : Nat} : fB h y c P t ≤ t + 3 := by
  unfold fB
  have : (t - 1 - (c + (y + h))) / P ≤ t := Nat.le_trans (Nat.div_le_self _ _) (by omega)
  split <;> split <;> omega
theorem sm_mono {F : Nat → Nat} : ∀ {d k : Nat}, sm F k ≤ sm F (k + d)
  | 0, k => Nat.le_refl _
  | d + 1, k => by
    have := sm_mono (F := F) (d := d) (k := k)
    rw [show k + (d + 1) = k + d + 1 by omega, sm]; omega
theorem sm_le {F : Nat → Nat} {M : Nat} : ∀ {n : Nat}, (∀ x, x < n → F x ≤ M) → sm F n ≤ n * M
  | 0, _ => by rw [Nat.zero_mul]; exact Nat.le_refl _
  | n + 1, h => by
    have := sm_le (n := n) (fun x hx => h x (by omega))
    have := h n (by omega)
    rw [sm, Nat.succ_mul]; omega
/-- the harm of an order, by divisions -/
def oH (g : Nat → Nat) (T : Nat → Nat → Nat) (ro cf : Nat → Nat) (P t k : Nat) : Nat := fB (hd g T (ro k)) (T 2 (ro k)) (cf k) P t * T 4 (ro k)
theorem oH_le {g : Nat → Nat} {T : Nat → Nat → Nat} {ro cf : Nat → Nat} {P t k : Nat} (hB : TB g T) (hk : ro k < g 0) (ht : t ≤ 300) : oH g T ro cf P t k ≤ 2727 := by
  have h1 := hB.2.2.2 _ hk
  have h2 := fB_le (h := hd g T (ro k)) (y := T 2 (ro k)) (c := cf k) (P := P) (t := t)
  have : fB (hd g T (ro k)) (T 2 (ro k)) (cf k) P t * T 4 (ro k) ≤ 303 * 9 := Nat.mul_le_mul (by omega) (by omega)
  unfold oH; omega
theorem chk_ne2 {S L k N : Nat} (h : chk S L k N = true) : ∀ i, i < L → ∀ j, j < L → dg N j = dg N i → j = i := fun i hi j hj e => by
  rcases Nat.lt_or_ge j i with q | q
  · exact absurd e.symm (chk_ne h i hi j q)
  · rcases Nat.lt_or_ge i j with w | w
    · exact absurd e (chk_ne h j hj i w)
    · omega
theorem hv_ord {g : Nat → Nat} {T : Nat → Nat → Nat} {S L k N t : Nat} (hB : TB g T) (h : chk S L k N = true) (hSn : S < 2 ^ g 0) (ht : t ≤ 300) : hv g T (dg N) L S t = sm (oH g T (dg N) (ct g T (dg N) L) (pd g T (dg N) L) t) L := by
  have hrg : ∀ k, k < L → dg N k < g 0 := fun k hk => bi_in hSn (chk_in h k hk)
  have hon : ∀ x, x < g 0 → bi S x = 1 → ∃ i, i < L ∧ dg N i = x := fun x hx hb => chk_on h x (by have := hB.1; omega) hb
  unfold hv
  rw [hs_order hrg (chk_ne2 h) (chk_in h) hon]
  refine sm_congr (fun i hi => ?_)
  rw [fs_order hB (by omega) hrg hi (chk_ne2 h i hi) ht]
  unfold oH; rw [Nat.mul_comm]
theorem sf_ord {g : Nat → Nat} {T : Nat → Nat → Nat} {S L k N : Nat} (hB : TB g T) (h : chk S L k N = true) (hSn : S < 2 ^ g 0) : sf g T (dg N) L S ↔ ∀ i, i < L → ct g T (dg N) L i ≤ hd g T (dg N i) ∧ (if L = 0 then 0 else pd g T (dg N) L) ≤ T 2 (dg N i) + hd g T (dg N i) := by
  have hrg : ∀ k, k < L → dg N k < g 0 := fun k hk => bi_in hSn (chk_in h k hk)
  have hon : ∀ x, x < g 0 → bi S x = 1 → ∃ i, i < L ∧ dg N i = x := fun x hx hb => chk_on h x (by have := hB.1; omega) hb
  rcases Nat.eq_zero_or_pos L with q | q
  · subst q
    exact ⟨fun _ i hi => absurd hi (Nat.not_lt_zero i), fun _ x hx hb => by obtain ⟨i, hi, -⟩ := hon x hx hb; exact absurd hi (Nat.not_lt_zero i)⟩
  · rw [if_neg (by omega)]
    exact sf_order hB q hrg (chk_ne2 h) (chk_in h) hon
/-- counted: 1 where none ever falls -/
noncomputable def pS (g : Nat → Nat) (T : Nat → Nat → Nat) (L S N : Nat) : Nat := cif (sf g T (dg N) L S) 1 0
theorem pS_le (g : Nat → Nat) (T : Nat → Nat → Nat) (L S N : Nat) : pS g T L S N ≤ 1 := by
  unfold pS
  by_cases q : sf g T (dg N) L S
  · rw [cif_pos q]; exact Nat.le_refl 1
  · rw [cif_neg q]; exact Nat.zero_le 1
theorem cq_le {p : Nat → Nat} (hp : ∀ N, p N ≤ 1) (L : Nat) : ∀ k N, cq p L k N ≤ k + 1
  | 0, N => by have := hp N; unfold cq; omega
  | k + 1, N => by have := hp N; have := cq_le hp L k (nx N L); unfold cq; omega
theorem cq_step {p : Nat → Nat} {L k N : Nat} (hk : 0 < k) : cq p L k N = p N + cq p L (k - 1) (nx N L) := by
  obtain ⟨k2, rfl⟩ : ∃ k2, k = k2 + 1 := ⟨k - 1, by omega⟩
  rfl
theorem bo_step {val : Nat → Nat} {L k N : Nat} (hk : 0 < k) : bo val L k N = cm (val N, N) (bo val L (k - 1) (nx N L)) := by
  obtain ⟨k2, rfl⟩ : ∃ k2, k = k2 + 1 := ⟨k - 1, by omega⟩
  rfl
theorem an_cq {P : Nat → Prop} {p : Nat → Nat} (h1 : ∀ N, P N → p N = 1) (h0 : ∀ N, ¬ P N → p N = 0) (L : Nat) : ∀ k N, an P L k N ↔ 0 < cq p L k N
  | 0, N => by
    unfold an cq
    by_cases q : P N
    · rw [h1 N q]; exact ⟨fun _ => by decide, fun _ => q⟩
    · rw [h0 N q]; exact ⟨fun w => absurd w q, fun w => absurd w (by decide)⟩
  | k + 1, N => by
    unfold an cq
    have ih := an_cq h1 h0 L k (nx N L)
    by_cases q : P N
    · rw [h1 N q]; exact ⟨fun _ => by omega, fun _ => Or.inl q⟩
    · rw [h0 N q, Nat.zero_add]; exact ⟨fun w => ih.mp (w.resolve_left q), fun w => Or.inr (ih.mpr w)⟩
theorem cm_zero {B : Nat} (r : Nat × Nat) : cm (0, B) r = (0, B) := by unfold cm; rw [if_neg (Nat.not_lt_zero _)]
