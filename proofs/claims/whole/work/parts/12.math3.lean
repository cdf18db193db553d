theorem up_le {cf tg : Nat → Nat} {x h y M : Nat} {n : Nat} (hc : ∀ k, k < n → cf k ≤ M) : ∀ k, k ≤ n → up cf tg x h y k ≤ M + y + h
  | 0, _ => by unfold up; omega
  | k + 1, hk => by
    have ih := up_le (tg := tg) (x := x) (h := h) (y := y) hc k (by omega)
    have := hc k (by omega)
    unfold up; split <;> omega
theorem up_yes {cf tg : Nat → Nat} {x h y k : Nat} (e : tg k = x) : up cf tg x h y (k + 1) = cf k + y + h := by unfold up; rw [if_pos e]
theorem up_no {cf tg : Nat → Nat} {x h y k : Nat} (e : ¬ tg k = x) : up cf tg x h y (k + 1) = up cf tg x h y k := by rw [up, if_neg e]
theorem fl_yes {cf tg : Nat → Nat} {x h y t k : Nat} (e : tg k = x ∧ up cf tg x h y k < cf k ∧ up cf tg x h y k < t) : fl cf tg x h y t (k + 1) = fl cf tg x h y t k ++ [up cf tg x h y k] := by rw [fl, if_pos e]
theorem fl_no {cf tg : Nat → Nat} {x h y t k : Nat} (e : ¬ (tg k = x ∧ up cf tg x h y k < cf k ∧ up cf tg x h y k < t)) : fl cf tg x h y t (k + 1) = fl cf tg x h y t k := by rw [fl, if_neg e]
theorem fa_yes {cf tg : Nat → Nat} {x h y t k : Nat} (e : up cf tg x h y k < t) : fa cf tg x h y t k = fl cf tg x h y t k ++ [up cf tg x h y k] := by rw [fa, if_pos e]
theorem fa_no {cf tg : Nat → Nat} {x h y t k : Nat} (e : ¬ up cf tg x h y k < t) : fa cf tg x h y t k = fl cf tg x h y t k := by rw [fa, if_neg e]
theorem len_push (l : List Nat) (v : Nat) : (l ++ [v]).length = l.length + 1 := by rw [List.length_append, List.length_singleton]
theorem fl_push {f : Nat → Int32} {l : List Nat} (h : ∀ j, j < l.length → f j = nI (l.getD j 0)) (v : Nat) : ∀ j, j < (l ++ [v]).length → upd f l.length (nI v) j = nI ((l ++ [v]).getD j 0) := fun j hj => by
  rw [len_push] at hj
  rcases Nat.lt_or_ge j l.length with q | q
  · rw [up_ne (by omega), h j q]
    simp [List.getD, List.getElem?_append_left q]
  · obtain rfl : j = l.length := by omega
    rw [up_eq]; simp [List.getD]
