theorem un_push {f : Nat → Int32} {g : Nat → Nat} {T : Nat → Nat → Nat} {ro : Nat → Nat} {L k : Nat} (h : ∀ x, x < g 0 → f x = nI (uk g T ro L k x)) : ∀ x, x < g 0 → upd f (ro (k % L)) (nI (ct g T ro L k + T 2 (ro (k % L)) + hd g T (ro (k % L)))) x = nI (uk g T ro L (k + 1) x) := fun x hx => by
  by_cases e : x = ro (k % L)
  · rw [e, up_eq, uk_yes]
  · rw [up_ne e, uk_no e]; exact h x hx
theorem fi_up {g : Nat → Nat} {T : Nat → Nat → Nat} {ro : Nat → Nat} {L k : Nat} {fm : Nat → Nat} (h : fmI (g 0) fm (lk g T ro L k)) (hu : ct g T ro L k ≤ uk g T ro L k (ro (k % L))) : fmI (g 0) fm (lk g T ro L (k + 1)) := fmI_same h (fun y _ => by
  by_cases e : y = ro (k % L)
  · rw [e]; exact lk_up hu
  · exact lk_no e)
theorem fi_fall {g : Nat → Nat} {T : Nat → Nat → Nat} {ro : Nat → Nat} {L k : Nat} {fm : Nat → Nat} (h : fmI (g 0) fm (lk g T ro L k)) (hn : g 0 ≤ 6) (hr : ro (k % L) < g 0) (hu : uk g T ro L k (ro (k % L)) < ct g T ro L k) : fmI (g 0) (fun q => if q = uk g T ro L k (ro (k % L)) then fm q ||| 2 ^ (ro (k % L)) else fm q) (lk g T ro L (k + 1)) := fmI_put h hr hn (lk_fall hu) (fun _ hy => lk_no hy)
theorem fi_lz {g : Nat → Nat} {T : Nat → Nat → Nat} {ro : Nat → Nat} {L k j : Nat} {fm : Nat → Nat} (h : fmI (g 0) fm (lz g T ro L k j)) (hn : g 0 ≤ 6) (hr : j < g 0) : fmI (g 0) (fun q => if q = uk g T ro L k j then fm q ||| 2 ^ j else fm q) (lz g T ro L k (j + 1)) := fmI_put h hr hn lz_at (fun _ hy => lz_no hy)
theorem lz_0 {g : Nat → Nat} {T : Nat → Nat → Nat} {ro : Nat → Nat} {L k : Nat} : lz g T ro L k 0 = lk g T ro L k := by funext y; unfold lz; rw [if_neg (Nat.not_lt_zero y)]
theorem cn_eq {g : Nat → Nat} {T : Nat → Nat → Nat} {ro : Nat → Nat} {L k : Nat} (hB : TB g T) (hL : 0 < L) (hrg : ∀ k, k < L → ro k < g 0) (hk : k ≤ 300) (hlt : ∀ j, j < k → ct g T ro L j < 300) (h : 300 ≤ ct g T ro L k) : k = cnf (ct g T ro L) 300 400 := cnf_eq (ct_lt hB hL hrg) (by omega) hlt (Or.inr h)
def hI (T : Nat → Nat → Nat) (fm : Nat → Nat) (m x : Nat) : Nat := bi (fm m) x * T 4 x
def hJ (T : Nat → Nat → Nat) (fm : Nat → Nat) (n m : Nat) : Nat := sm (hI T fm m) n
theorem hI_le {T : Nat → Nat → Nat} {fm : Nat → Nat} {m x : Nat} (h : T 4 x ≤ 9) : hI T fm m x ≤ 9 := by
  have := bi_lt (fm m) x
  have : bi (fm m) x * T 4 x ≤ 1 * 9 := Nat.mul_le_mul (by omega) h
  unfold hI; omega
theorem hI_0 {T : Nat → Nat → Nat} {fm : Nat → Nat} {m : Nat} (h : fm m = 0) : ∀ n, n ≤ 6 → sm (hI T fm m) n = 0
  | 0, _ => rfl
  | n + 1, hn => by
    rw [sm, hI_0 h n (by omega)]; unfold hI; rw [h, bi_0 n (by omega), Nat.zero_mul]
theorem hJ_le {g : Nat → Nat} {T : Nat → Nat → Nat} {fm : Nat → Nat} (hB : TB g T) (m : Nat) : hJ T fm (g 0) m ≤ 54 := by
  have h1 := sm_le (F := hI T fm m) (M := 9) (n := g 0) (fun x hx => hI_le (hB.2.2.2 x hx).2.2.2.2.2.2.2)
  have := hB.1
  unfold hJ; omega
