theorem of_push {f : Nat → Int32} {S x : Nat} (h : ∀ k, k < ol S x → f k = nI (of1 S x k)) (hb : bi S x = 1) : ∀ k, k < ol S (x + 1) → upd f (ol S x) (nI x) k = nI (of1 S (x + 1) k) := fun k hk => by
  rw [ol, if_pos hb] at hk
  rw [of1, if_pos hb]
  rcases Nat.lt_or_ge k (ol S x) with q | q
  · rw [up_ne (by omega), h k q]; show _ = nI (if k = ol S x then x else of1 S x k); rw [if_neg (by omega)]
  · obtain rfl : k = ol S x := by omega
    rw [up_eq]; show _ = nI (if ol S x = ol S x then x else of1 S x (ol S x)); rw [if_pos rfl]
theorem of_keep {f : Nat → Int32} {S x : Nat} (h : ∀ k, k < ol S x → f k = nI (of1 S x k)) (hb : ¬ bi S x = 1) : ∀ k, k < ol S (x + 1) → f k = nI (of1 S (x + 1) k) := fun k hk => by
  rw [ol, if_neg hb] at hk
  rw [of1, if_neg hb]; exact h k hk
theorem sw_row {f : Nat → Int32} {F : Nat → Nat} {L i j : Nat} (h : ∀ k, k < L → f k = nI (F k)) (hi : i < L) (hj : j < L) : ∀ k, k < L → upd (upd f i (f j)) j (f i) k = nI (sw F i j k) := fun k hk => by
  unfold sw
  by_cases q : k = j
  · rw [if_pos q, q, up_eq]; exact h i hi
  · rw [if_neg q, up_ne q]
    by_cases w : k = i
    · rw [if_pos w, w, up_eq]; exact h j hj
    · rw [if_neg w, up_ne w]; exact h k hk
theorem sw_lt {F : Nat → Nat} (h : ∀ k, F k < 8) (i j : Nat) : ∀ k, sw F i j k < 8 := fun k => by
  unfold sw; repeat' split
  all_goals exact h _
theorem rv_lt : ∀ (n : Nat) {F : Nat → Nat} (_ : ∀ k, F k < 8) (i j : Nat), ∀ k, rv F n i j k < 8
  | 0, F, h, i, j => h
  | n + 1, F, h, i, j => fun k => by
    unfold rv; split
    · exact rv_lt n (sw_lt h i j) _ _ k
    · exact h k
theorem nxf_lt (N L k : Nat) : nxf N L k < 8 := rv_lt 6 (sw_lt (dg_lt N) _ _) _ _ k
theorem dg_nx {N L k : Nat} (hk : k < L) : dg (nx N L) k = nxf N L k := dg_mk _ L k (fun i _ => nxf_lt N L i) hk
theorem rv_done {F : Nat → Nat} {n i j : Nat} (h : ¬ i < j) : rv F n i j = F := by
  cases n with
  | zero => rfl
  | succ n => rw [rv, if_neg h]
theorem rv_step {F : Nat → Nat} {n i j : Nat} (h : i < j) (hn : 0 < n) : rv F n i j = rv (sw F i j) (n - 1) (i + 1) (j - 1) := by
  cases n with
  | zero => omega
  | succ n => rw [rv, if_pos h]; rfl
theorem sub_a {L : Nat} (h : 0 < L) : nI L - nI 2 = nI (L - 1) - nI 1 := by
  have e : nI L = nI (L - 1) + nI 1 := by rw [nI_add]; congr 1; omega
  rw [e]
  generalize nI (L - 1) = x
  have : nI 2 = nI 1 + nI 1 := by decide
  rw [this, Int32.sub_eq_add_neg, Int32.sub_eq_add_neg, Int32.add_assoc, show nI 1 + -(nI 1 + nI 1) = -nI 1 from by decide]
theorem sub_1 (x : Int32) : x + Int32.ofInt (-1) = x - nI 1 := by rw [Int32.sub_eq_add_neg]; rfl
theorem sub_n {q : Nat} (h : 0 < q) : nI q + Int32.ofInt (-1) = nI (q - 1) := by rw [sub_1, pk_sub (by omega)]
theorem fk_yes {N j : Nat} (h0 : 0 < j) (h : dg N (j - 1 + 1) < dg N (j - 1)) : fk N j = fk N (j - 1) := by
  obtain ⟨i, rfl⟩ : ∃ i, j = i + 1 := ⟨j - 1, by omega⟩
  rw [fk]; simp only [Nat.add_sub_cancel] at h ⊢; rw [if_pos h]
theorem fk_no {N j : Nat} (h0 : 0 < j) (h : ¬ dg N (j - 1 + 1) < dg N (j - 1)) : fk N j = j := by
  obtain ⟨i, rfl⟩ : ∃ i, j = i + 1 := ⟨j - 1, by omega⟩
  rw [fk]; simp only [Nat.add_sub_cancel] at h; rw [if_neg h]
theorem fq_yes {N v q : Nat} (h0 : 0 < q) (h : dg N q < v) : fq N v q = fq N v (q - 1) := by
  obtain ⟨i, rfl⟩ : ∃ i, q = i + 1 := ⟨q - 1, by omega⟩
  rw [fq, if_pos h]; rfl
theorem fq_no {N v q : Nat} (h : ¬ dg N q < v) : fq N v q = q := by
  cases q with
  | zero => rfl
  | succ q => rw [fq, if_neg h]
