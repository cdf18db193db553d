/-! ===== the falls by minutes, then by things: place q = 6 times the minute and the thing ===== -/
def DF (n : Nat) (ll : Nat → List Nat) (q : Nat) : Prop := q % 6 < n ∧ q / 6 ∈ ll (q % 6)
noncomputable def dF (n : Nat) (ll : Nat → List Nat) (q : Nat) : Nat := cif (DF n ll q) 1 0
theorem dF_le (n : Nat) (ll : Nat → List Nat) (q : Nat) : dF n ll q ≤ 1 := by
  unfold dF
  by_cases h : DF n ll q
  · rw [cif_pos h]; exact Nat.le_refl 1
  · rw [cif_neg h]; exact Nat.zero_le 1
def fnR (n : Nat) (ll : Nat → List Nat) (k : Nat) (v : Int32) : Prop := (∃ q, q < 1800 ∧ DF n ll q ∧ sm (dF n ll) q = k ∧ v = nI (10 * (q / 6) + q % 6)) ∨ (sm (dF n ll) 1800 ≤ k ∧ v = -9)
theorem cD_lt {n : Nat} {ll : Nat → List Nat} {p q : Nat} (h : DF n ll p) (hpq : p < q) : sm (dF n ll) p + 1 ≤ sm (dF n ll) q := by
  have h1 : sm (dF n ll) (p + 1) = sm (dF n ll) p + 1 := by rw [sm]; unfold dF; rw [cif_pos h]
  have h2 := sm_mono (F := dF n ll) (d := q - (p + 1)) (k := p + 1)
  rw [show p + 1 + (q - (p + 1)) = q by omega] at h2; omega
theorem fnR_one {n : Nat} {ll : Nat → List Nat} {k : Nat} {v w : Int32} (h1 : fnR n ll k v) (h2 : fnR n ll k w) : v = w := by
  rcases h1 with ⟨p, hp, d1, e1, r1⟩ | ⟨e1, r1⟩
  · rcases h2 with ⟨q, hq, d2, e2, r2⟩ | ⟨e2, r2⟩
    · have : p = q := by
        rcases Nat.lt_or_ge p q with z | z
        · have := cD_lt d1 z; omega
        · rcases Nat.lt_or_ge q p with y | y
          · have := cD_lt d2 y; omega
          · omega
      rw [r1, r2, this]
    · have := cD_lt d1 hp; omega
  · rcases h2 with ⟨q, hq, d2, e2, r2⟩ | ⟨e2, r2⟩
    · have := cD_lt d2 hq; omega
    · rw [r1, r2]
theorem DF_at {n m x : Nat} {ll : Nat → List Nat} (hx : x < 6) : DF n ll (6 * m + x) ↔ (x < n ∧ m ∈ ll x) := by
  unfold DF
  rw [show (6 * m + x) % 6 = x by omega, show (6 * m + x) / 6 = m by omega]
theorem cD_yes {n m x : Nat} {ll : Nat → List Nat} (hx : x < 6) (h : x < n ∧ m ∈ ll x) : sm (dF n ll) (6 * m + (x + 1)) = sm (dF n ll) (6 * m + x) + 1 := by
  rw [← Nat.add_assoc, sm]; unfold dF; rw [cif_pos ((DF_at hx).mpr h)]
theorem cD_no {n m x : Nat} {ll : Nat → List Nat} (hx : x < 6) (h : ¬ (x < n ∧ m ∈ ll x)) : sm (dF n ll) (6 * m + (x + 1)) = sm (dF n ll) (6 * m + x) := by
  rw [← Nat.add_assoc, sm]; unfold dF; rw [cif_neg (fun e => h ((DF_at hx).mp e)), Nat.add_zero]
theorem cD_row {n m x : Nat} {ll : Nat → List Nat} (hx : x ≤ 6) (h : ∀ y, x ≤ y → y < 6 → ¬ (y < n ∧ m ∈ ll y)) : sm (dF n ll) (6 * (m + 1)) = sm (dF n ll) (6 * m + x) := by
  have := sm_cut (F := dF n ll) (n := 6 * m + x) (6 - x) (fun q h1 h2 => by
    have hq : q = 6 * m + (q - 6 * m) := by omega
    unfold dF
    rw [cif_neg]
    intro e
    rw [hq] at e
    exact h (q - 6 * m) (by omega) (by omega) ((DF_at (by omega)).mp e))
  rw [show 6 * m + x + (6 - x) = 6 * (m + 1) by omega] at this; exact this
theorem fa_bd {cf tg : Nat → Nat} {x h y t cN : Nat} : ∀ m, m ∈ fa cf tg x h y t cN → m < t := by
  have key : ∀ k m, m ∈ fl cf tg x h y t k → m < t := by
    intro k
    induction k with
    | zero => intro m hm; exact absurd hm List.not_mem_nil
    | succ k ih =>
      intro m hm
      by_cases q : tg k = x ∧ up cf tg x h y k < cf k ∧ up cf tg x h y k < t
      · rw [fl_yes q] at hm
        rcases List.mem_append.mp hm with e | e
        · exact ih m e
        · rw [List.mem_singleton] at e; omega
      · rw [fl_no q] at hm; exact ih m hm
  intro m hm
  by_cases q : up cf tg x h y cN < t
  · rw [fa_yes q] at hm
    rcases List.mem_append.mp hm with e | e
    · exact key _ m e
    · rw [List.mem_singleton] at e; omega
  · rw [fa_no q] at hm; exact key _ m hm
theorem getD_mem {l : List Nat} {j : Nat} (h : j < l.length) : l.getD j 0 ∈ l := by
  rw [List.getD_eq_getElem?_getD, List.getElem?_eq_getElem h]; exact List.getElem_mem h
/-- the row as it grows: things below x, and j falls of thing x -/
noncomputable def dG (x : Nat) (ll : Nat → List Nat) (j q : Nat) : Nat := cif (DF x ll q ∨ (q % 6 = x ∧ q / 6 ∈ (ll x).take j)) 1 0
theorem dG_0 (x : Nat) (ll : Nat → List Nat) (q : Nat) : dG x ll 0 q = dF x ll q := by
  unfold dG dF
  by_cases h : DF x ll q
  · rw [cif_pos (Or.inl h), cif_pos h]
  · rw [cif_neg h, cif_neg]
    rintro (e | e)
    · exact h e
    · rw [List.take_zero] at e; exact absurd e.2 List.not_mem_nil
theorem dG_end (x : Nat) (ll : Nat → List Nat) (q : Nat) : dG x ll (ll x).length q = dF (x + 1) ll q := by
  unfold dG dF
  rw [List.take_length]
  by_cases h : DF (x + 1) ll q
  · rw [cif_pos h, cif_pos]
    obtain ⟨h1, h2⟩ := h
    rcases Nat.lt_or_ge (q % 6) x with z | z
    · exact Or.inl ⟨z, h2⟩
    · exact Or.inr ⟨by omega, by rw [show x = q % 6 by omega]; exact h2⟩
  · rw [cif_neg h, cif_neg]
    rintro (e | e)
    · exact h ⟨by have := e.1; omega, e.2⟩
    · exact h ⟨by omega, by rw [e.1]; exact e.2⟩
theorem dG_put {f : Nat → Int32} {x j : Nat} {ll : Nat → List Nat} (h : ∀ q, q < 1800 → f q = nI (dG x ll j q)) (hx : x < 6) (hj : j < (ll x).length) : ∀ q, q < 1800 → upd f (6 * (ll x).getD j 0 + x) (nI 1) q = nI (dG x ll (j + 1) q) := fun q hq => by
  have ht : (ll x).take (j + 1) = (ll x).take j ++ [(ll x).getD j 0] := by
    rw [List.take_succ_eq_append_getElem hj, List.getD_eq_getElem?_getD, List.getElem?_eq_getElem hj]; rfl
  by_cases e : q = 6 * (ll x).getD j 0 + x
  · rw [e, up_eq]
    unfold dG
    rw [cif_pos (Or.inr ⟨by omega, by rw [ht, show (6 * (ll x).getD j 0 + x) / 6 = (ll x).getD j 0 by omega]; simp⟩)]
  · rw [up_ne e, h q hq]
    unfold dG
    by_cases z : DF x ll q ∨ (q % 6 = x ∧ q / 6 ∈ (ll x).take j)
    · rw [cif_pos z, cif_pos (z.imp id (fun w => ⟨w.1, by rw [ht]; exact List.mem_append_left _ w.2⟩))]
    · rw [cif_neg z, cif_neg]
      rintro (w | w)
      · exact z (Or.inl w)
      · rw [ht] at w
        rcases List.mem_append.mp w.2 with y | y
        · exact z (Or.inr ⟨w.1, y⟩)
        · rw [List.mem_singleton] at y; omega
theorem dG_le (x : Nat) (ll : Nat → List Nat) (j q : Nat) : dG x ll j q ≤ 1 := by
  unfold dG
  by_cases h : DF x ll q ∨ (q % 6 = x ∧ q / 6 ∈ (ll x).take j)
  · rw [cif_pos h]; exact Nat.le_refl 1
  · rw [cif_neg h]; exact Nat.zero_le 1
theorem dF_0 (ll : Nat → List Nat) (q : Nat) : dF 0 ll q = 0 := by unfold dF; rw [cif_neg (fun e => absurd e.1 (Nat.not_lt_zero _))]
theorem fs_llc {g : Nat → Nat} {T : Nat → Nat → Nat} {ro : Nat → Nat} {L cN : Nat} (h : cN = cnf (ct g T ro L) 300 400) : (fun x => fa (ct g T ro L) (fun k => ro (k % L)) x (hd g T x) (T 2 x) 300 cN) = fs g T ro L 300 := by funext x; rw [h]; rfl
