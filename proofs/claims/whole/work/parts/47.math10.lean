/-! ===== a round, gone from one coming to the next ===== -/
def wI (g : Nat → Nat) (T : Nat → Nat → Nat) (ro : Nat → Nat) (L k fr lv : Nat) : Prop := (k = 0 ∧ fr = g 1 ∧ lv = 0) ∨ (0 < k ∧ fr = T 1 (ro ((k - 1) % L)) ∧ lv = ct g T ro L (k - 1) + T 2 (ro ((k - 1) % L)))
theorem wI_b {g : Nat → Nat} {T : Nat → Nat → Nat} {ro : Nat → Nat} {L k fr lv : Nat} (hB : TB g T) (hL : 0 < L) (hrg : ∀ k, k < L → ro k < g 0) (h : wI g T ro L k fr lv) : fr ≤ 9 ∧ lv ≤ 18 * k + 9 := by
  have := hB.2.1
  rcases h with ⟨h0, h1, h2⟩ | ⟨h0, h1, h2⟩
  · omega
  · have h3 := hB.2.2.2 _ (hrg _ (Nat.mod_lt (k - 1) hL))
    have h4 := ct_le hB hL hrg (k - 1)
    omega
theorem wI_ct {g : Nat → Nat} {T : Nat → Nat → Nat} {ro : Nat → Nat} {L k fr lv : Nat} (hL : 0 < L) (h : wI g T ro L k fr lv) : lv + md fr (T 1 (ro (k % L))) = ct g T ro L k := by
  rcases h with ⟨h0, h1, h2⟩ | ⟨h0, h1, h2⟩
  · rw [h0, h1, h2, Nat.zero_add, Nat.zero_mod]; rfl
  · obtain ⟨k2, rfl⟩ : ∃ k2, k = k2 + 1 := ⟨k - 1, by omega⟩
    rw [h1, h2, Nat.add_sub_cancel, ct, Nat.add_assoc]
theorem or_row : ∀ b, b < 64 → ∀ x, x < 6 → nI b ||| (nI 1 <<< (nI x &&& 31)) = nI (b ||| 2 ^ x) := by decide +kernel
theorem or_lt : ∀ b, b < 64 → ∀ x, x < 6 → b ||| 2 ^ x < 64 := by decide +kernel
theorem or_bi : ∀ b, b < 64 → ∀ x, x < 6 → ∀ y, y < 6 → bi (b ||| 2 ^ x) y = if y = x then 1 else bi b y := by decide +kernel
theorem bi_0 : ∀ y, y < 6 → bi 0 y = 0 := by decide +kernel
theorem bi_ext : ∀ b, b < 64 → (b = 0 ∨ ∃ y, y < 6 ∧ bi b y = 1) := by decide +kernel
theorem sh_row : ∀ b, b < 64 → ∀ x, x < 6 → (nI b >>> (nI x &&& 31)) &&& nI 1 = nI (bi b x) := bi_row
/-- the sets of what falls at each minute: fm m, told by lists -/
def fmI (n : Nat) (fm : Nat → Nat) (ll : Nat → List Nat) : Prop := ∀ m, m < 300 → fm m < 64 ∧ ∀ x, x < 6 → (bi (fm m) x = 1 ↔ (x < n ∧ m ∈ ll x))
theorem fmI_0 (n : Nat) : fmI n (fun _ => 0) (fun _ => []) := fun m _ => ⟨show 0 < 64 by decide, fun x hx => by show bi 0 x = 1 ↔ _; rw [bi_0 x hx]; simp⟩
theorem fmI_put {n : Nat} {fm : Nat → Nat} {ll : Nat → List Nat} (h : fmI n fm ll) {x w : Nat} (hx : x < n) (hn : n ≤ 6) {ll' : Nat → List Nat} (h1 : ∀ m, m < 300 → (m ∈ ll' x ↔ m ∈ ll x ∨ m = w)) (h2 : ∀ y, y ≠ x → ll' y = ll y) : fmI n (fun q => if q = w then fm q ||| 2 ^ x else fm q) ll' := fun m hm => by
  obtain ⟨h3, h4⟩ := h m hm
  show (if m = w then fm m ||| 2 ^ x else fm m) < 64 ∧ ∀ y, y < 6 → (bi (if m = w then fm m ||| 2 ^ x else fm m) y = 1 ↔ (y < n ∧ m ∈ ll' y))
  by_cases e : m = w
  · rw [if_pos e]
    refine ⟨or_lt _ h3 x (by omega), fun y hy => ?_⟩
    rw [or_bi _ h3 x (by omega) y hy]
    by_cases z : y = x
    · rw [if_pos z, z, h1 m hm]; exact ⟨fun _ => ⟨hx, Or.inr e⟩, fun _ => rfl⟩
    · rw [if_neg z, h2 y z]; exact h4 y hy
  · rw [if_neg e]
    refine ⟨h3, fun y hy => ?_⟩
    by_cases z : y = x
    · rw [z, h1 m hm, h4 x (by omega)]; exact ⟨fun q => ⟨q.1, Or.inl q.2⟩, fun q => ⟨q.1, q.2.resolve_right e⟩⟩
    · rw [h2 y z]; exact h4 y hy
theorem fmI_same {n : Nat} {fm : Nat → Nat} {ll ll' : Nat → List Nat} (h : fmI n fm ll) (h2 : ∀ y, y < n → ll' y = ll y) : fmI n fm ll' := fun m hm => by
  obtain ⟨h3, h4⟩ := h m hm
  refine ⟨h3, fun x hx => (h4 x hx).trans ?_⟩
  exact ⟨fun q => ⟨q.1, by rw [h2 x q.1]; exact q.2⟩, fun q => ⟨q.1, by rw [← h2 x q.1]; exact q.2⟩⟩
/-- falls of all things ahead of the k-th coming -/
def lk (g : Nat → Nat) (T : Nat → Nat → Nat) (ro : Nat → Nat) (L k x : Nat) : List Nat := fl (ct g T ro L) (fun n => ro (n % L)) x (hd g T x) (T 2 x) 300 k
def uk (g : Nat → Nat) (T : Nat → Nat → Nat) (ro : Nat → Nat) (L k x : Nat) : Nat := up (ct g T ro L) (fun n => ro (n % L)) x (hd g T x) (T 2 x) k
theorem uk_yes {g : Nat → Nat} {T : Nat → Nat → Nat} {ro : Nat → Nat} {L k : Nat} : uk g T ro L (k + 1) (ro (k % L)) = ct g T ro L k + T 2 (ro (k % L)) + hd g T (ro (k % L)) := up_yes (tg := fun n => ro (n % L)) rfl
theorem uk_no {g : Nat → Nat} {T : Nat → Nat → Nat} {ro : Nat → Nat} {L k x : Nat} (h : x ≠ ro (k % L)) : uk g T ro L (k + 1) x = uk g T ro L k x := up_no (tg := fun n => ro (n % L)) (fun e => h e.symm)
theorem lk_no {g : Nat → Nat} {T : Nat → Nat → Nat} {ro : Nat → Nat} {L k x : Nat} (h : x ≠ ro (k % L)) : lk g T ro L (k + 1) x = lk g T ro L k x := fl_no (tg := fun n => ro (n % L)) (fun e => h e.1.symm)
theorem lk_up {g : Nat → Nat} {T : Nat → Nat → Nat} {ro : Nat → Nat} {L k : Nat} (h : ct g T ro L k ≤ uk g T ro L k (ro (k % L))) : lk g T ro L (k + 1) (ro (k % L)) = lk g T ro L k (ro (k % L)) := fl_no (tg := fun n => ro (n % L)) (fun e => absurd e.2.1 (Nat.not_lt.mpr h))
theorem lk_fall {g : Nat → Nat} {T : Nat → Nat → Nat} {ro : Nat → Nat} {L k : Nat} (h : uk g T ro L k (ro (k % L)) < ct g T ro L k) : ∀ m, m < 300 → (m ∈ lk g T ro L (k + 1) (ro (k % L)) ↔ m ∈ lk g T ro L k (ro (k % L)) ∨ m = uk g T ro L k (ro (k % L))) := fun m hm => by
  by_cases q : uk g T ro L k (ro (k % L)) < 300
  · have e : lk g T ro L (k + 1) (ro (k % L)) = lk g T ro L k (ro (k % L)) ++ [uk g T ro L k (ro (k % L))] := fl_yes (tg := fun n => ro (n % L)) ⟨rfl, h, q⟩
    rw [e]; simp
  · have e : lk g T ro L (k + 1) (ro (k % L)) = lk g T ro L k (ro (k % L)) := fl_no (tg := fun n => ro (n % L)) (fun e => q e.2.2)
    rw [e]; exact ⟨fun w => Or.inl w, fun w => w.resolve_right (by omega)⟩
theorem uk_le {g : Nat → Nat} {T : Nat → Nat → Nat} {ro : Nat → Nat} {L k x : Nat} (hB : TB g T) (hL : 0 < L) (hrg : ∀ k, k < L → ro k < g 0) (hk : k ≤ 400) (hx : x < g 0) : uk g T ro L k x ≤ 10000 := by
  have h1 := up_le (cf := ct g T ro L) (tg := fun n => ro (n % L)) (x := x) (h := hd g T x) (y := T 2 x) (M := 7300) (n := k) (fun j hj => by have := ct_le hB hL hrg j; omega) k (Nat.le_refl _)
  have h2 := hB.2.2.2 x hx
  have h3 := hd_le hB hx
  unfold uk; omega
/-- the last: what would fall behind the comings -/
def lz (g : Nat → Nat) (T : Nat → Nat → Nat) (ro : Nat → Nat) (L cN j x : Nat) : List Nat := if x < j then (if uk g T ro L cN x < 300 then lk g T ro L cN x ++ [uk g T ro L cN x] else lk g T ro L cN x) else lk g T ro L cN x
theorem lz_at {g : Nat → Nat} {T : Nat → Nat → Nat} {ro : Nat → Nat} {L cN j : Nat} : ∀ m, m < 300 → (m ∈ lz g T ro L cN (j + 1) j ↔ m ∈ lz g T ro L cN j j ∨ m = uk g T ro L cN j) := fun m hm => by
  unfold lz
  rw [if_pos (Nat.lt_succ_self j), if_neg (Nat.lt_irrefl j)]
  by_cases q : uk g T ro L cN j < 300
  · rw [if_pos q]; simp
  · rw [if_neg q]; exact ⟨fun w => Or.inl w, fun w => w.resolve_right (by omega)⟩
theorem lz_no {g : Nat → Nat} {T : Nat → Nat → Nat} {ro : Nat → Nat} {L cN j y : Nat} (h : y ≠ j) : lz g T ro L cN (j + 1) y = lz g T ro L cN j y := by
  unfold lz
  by_cases q : y < j
  · rw [if_pos q, if_pos (show y < j + 1 by omega)]
  · rw [if_neg q, if_neg (show ¬ y < j + 1 by omega)]
theorem lz_fs {g : Nat → Nat} {T : Nat → Nat → Nat} {ro : Nat → Nat} {L n y : Nat} (h : y < n) : lz g T ro L (cnf (ct g T ro L) 300 400) n y = fs g T ro L 300 y := by
  unfold lz; rw [if_pos h]; rfl
