noncomputable def whV (g : Nat → Nat) (T : Nat → Nat → Nat) (ro : Nat → Nat) (L t : Nat) : Int32 := @Classical.epsilon Int32 ⟨0⟩ (whR g T ro L t)
theorem whV_eq {g : Nat → Nat} {T : Nat → Nat → Nat} {ro : Nat → Nat} {L t : Nat} {v : Int32} (hB : TB g T) (hL : 0 < L) (hrg : ∀ k, k < L → ro k < g 0) (h : whR g T ro L t v) : v = whV g T ro L t := whR_one hB hL hrg h (Classical.epsilon_spec ⟨v, h⟩)
noncomputable def fnV (n : Nat) (ll : Nat → List Nat) (k : Nat) : Int32 := @Classical.epsilon Int32 ⟨0⟩ (fnR n ll k)
theorem fnV_eq {n : Nat} {ll : Nat → List Nat} {k : Nat} {v : Int32} (h : fnR n ll k v) : v = fnV n ll k := fnR_one h (Classical.epsilon_spec ⟨v, h⟩)
theorem ol_all : ∀ n, n ≤ 6 → ol (2 ^ n - 1) n = n := by decide +kernel
