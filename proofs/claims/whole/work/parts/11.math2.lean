theorem lv_re {ls : Array Slot} {nL : Nat} {lv : List (Nat × Value)} (h : lv_has ls nL lv) (k : Nat) {i : Nat} {x y : Int32} {lv' : List (Nat × Value)} (hk : (lv[k]? = some (i, .int x) ∧ lv.set k (i, .int y) = lv')) (e : x = y) : lv_has ls nL lv' := by
  obtain ⟨hk, rfl⟩ := hk
  refine ⟨h.1, h.2.1, ?_⟩
  intro q hq
  obtain ⟨j, hj⟩ := List.getElem?_of_mem hq
  rw [List.getElem?_set] at hj
  split at hj
  · split at hj
    · cases hj
      rw [← e]
      exact h.2.2 (i, .int x) (List.mem_of_getElem? hk)
    · cases hj
  · exact h.2.2 q (List.mem_of_getElem? hj)
theorem arr_push {f F : Nat → Int32} {c : Nat} (h : ∀ k, k < c → f k = F k) {v : Int32} (hv : v = F c) : ∀ k, k < c + 1 → upd f c v k = F k := fun k hk => by
  rcases Nat.lt_or_ge k c with q | q
  · rw [up_ne (by omega)]; exact h k q
  · obtain rfl : k = c := by omega
    rw [up_eq]; exact hv
theorem md_s {c L : Nat} (h : c % L + 1 = L) : 0 = (c + 1) % L := by
  rw [Nat.add_mod]
  rcases Nat.lt_or_ge 1 L with q | q
  · rw [Nat.mod_eq_of_lt q, h, Nat.mod_self]
  · obtain rfl : L = 1 := by omega
    omega
theorem md_n {c L : Nat} (hL : 0 < L) (h : ¬ c % L + 1 = L) : c % L + 1 = (c + 1) % L := by
  have h1 := Nat.mod_lt c hL
  rw [Nat.add_mod, Nat.mod_eq_of_lt (show 1 < L by omega), Nat.mod_eq_of_lt (show c % L + 1 < L by omega)]
/-- what the row of comings holds -/
def LC (g : Nat → Nat) (T : Nat → Nat → Nat) (ro : Nat → Nat) (L till most cN : Nat) : Prop := cN ≤ most ∧ (L = 0 → cN = 0) ∧ (0 < L → (∀ k, k < cN → ct g T ro L k < till) ∧ (cN = most ∨ till ≤ ct g T ro L cN))
/-- what is wrong with a row that is asked for: of a sheet with lane so and length ln -/
def ag (so ln sort i n : Int32) : Int32 := if so ≠ -9 ∧ so ≠ sort then nI 2 else if so = -9 then nI 1 else if n < 0 then nI 4 else if i < 0 ∨ ln < i ∨ ln - i < n then nI 3 else nI 0
