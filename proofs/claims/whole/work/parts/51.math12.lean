/-! ===== falls as sets of minutes, and as lists ===== -/
theorem fl_filter (cf tg : Nat → Nat) (x h y t t2 : Nat) (ht : t ≤ t2) : ∀ k, fl cf tg x h y t k = (fl cf tg x h y t2 k).filter (fun m => decide (m < t))
  | 0 => rfl
  | k + 1 => by
    have ih := fl_filter cf tg x h y t t2 ht k
    by_cases q : tg k = x ∧ up cf tg x h y k < cf k
    · by_cases w : up cf tg x h y k < t2
      · rw [fl_yes (t := t2) ⟨q.1, q.2, w⟩, List.filter_append, ← ih]
        by_cases z : up cf tg x h y k < t
        · rw [fl_yes ⟨q.1, q.2, z⟩]; simp [z]
        · rw [fl_no (fun e => z e.2.2)]; simp [z]
      · rw [fl_no (t := t2) (fun e => w e.2.2), fl_no (fun e => w (by omega))]; exact ih
    · rw [fl_no (t := t2) (fun e => q ⟨e.1, e.2.1⟩), fl_no (fun e => q ⟨e.1, e.2.1⟩)]; exact ih
theorem fa_filter (cf tg : Nat → Nat) (x h y t t2 cN : Nat) (ht : t ≤ t2) : fa cf tg x h y t cN = (fa cf tg x h y t2 cN).filter (fun m => decide (m < t)) := by
  have ih := fl_filter cf tg x h y t t2 ht cN
  by_cases w : up cf tg x h y cN < t2
  · rw [fa_yes (t := t2) w, List.filter_append, ← ih]
    by_cases z : up cf tg x h y cN < t
    · rw [fa_yes z]; simp [z]
    · rw [fa_no z]; simp [z]
  · rw [fa_no (t := t2) w, fa_no (fun e => w (by omega))]; exact ih
theorem fl_inc {cf tg : Nat → Nat} {x h y t : Nat} (hc : ∀ k, cf k + 1 ≤ cf (k + 1)) (hy : 1 ≤ y) : ∀ k, (fl cf tg x h y t k).Nodup ∧ ∀ m, m ∈ fl cf tg x h y t k → m < up cf tg x h y k ∧ m < cf k
  | 0 => ⟨List.nodup_nil, fun m hm => absurd hm List.not_mem_nil⟩
  | k + 1 => by
    obtain ⟨h1, h2⟩ := fl_inc (h := h) (t := t) (tg := tg) (x := x) hc hy k
    have hck := hc k
    by_cases q : tg k = x
    · rw [up_yes q]
      by_cases w : up cf tg x h y k < cf k ∧ up cf tg x h y k < t
      · rw [fl_yes ⟨q, w.1, w.2⟩]
        refine ⟨List.nodup_append.mpr ⟨h1, by simp, fun a ha b hb => ?_⟩, fun m hm => ?_⟩
        · rw [List.mem_singleton] at hb
          have := (h2 a ha).1; omega
        · rcases List.mem_append.mp hm with e | e
          · have := h2 m e; omega
          · rw [List.mem_singleton] at e; omega
      · rw [fl_no (fun e => w e.2)]
        exact ⟨h1, fun m hm => by have := h2 m hm; omega⟩
    · rw [up_no q, fl_no (fun e => q e.1)]
      exact ⟨h1, fun m hm => by have := h2 m hm; omega⟩
theorem fa_nodup {cf tg : Nat → Nat} {x h y t cN : Nat} (hc : ∀ k, cf k + 1 ≤ cf (k + 1)) (hy : 1 ≤ y) : (fa cf tg x h y t cN).Nodup := by
  obtain ⟨h1, h2⟩ := fl_inc (h := h) (t := t) (tg := tg) (x := x) hc hy cN
  by_cases w : up cf tg x h y cN < t
  · rw [fa_yes w]
    refine List.nodup_append.mpr ⟨h1, by simp, fun a ha b hb => ?_⟩
    rw [List.mem_singleton] at hb
    have := (h2 a ha).1; omega
  · rw [fa_no w]; exact h1
theorem cnt_list (t : Nat) : ∀ l : List Nat, l.Nodup → (l.filter (fun m => decide (m < t))).length = sm (fun m => if m ∈ l then 1 else 0) t
  | [], _ => by
    have : ∀ n, sm (fun m => if m ∈ ([] : List Nat) then 1 else 0) n = 0 := by
      intro n
      induction n with
      | zero => rfl
      | succ n ih => rw [sm, ih, if_neg List.not_mem_nil]
    rw [this]; rfl
  | a :: l, h => by
    obtain ⟨h1, h2⟩ := List.nodup_cons.mp h
    have ih := cnt_list t l h2
    by_cases q : a < t
    · rw [sm_point (F := fun m => if m ∈ l then 1 else 0) (q := a) (d := 1) (by show (if a ∈ a :: l then 1 else 0) = (if a ∈ l then 1 else 0) + 1; rw [if_pos List.mem_cons_self, if_neg h1]) (fun x hx => by simp [hx]) q, ← ih]
      simp [q]
    · rw [show (a :: l).filter (fun m => decide (m < t)) = l.filter (fun m => decide (m < t)) by simp [q], ih]
      exact sm_congr (fun x hx => by have : x ≠ a := by omega
                                     simp [this])
theorem fs_cnt {g : Nat → Nat} {T : Nat → Nat → Nat} {ro : Nat → Nat} {L t x : Nat} (hB : TB g T) (hL : 0 < L) (hrg : ∀ k, k < L → ro k < g 0) (ht : t ≤ 300) (hx : x < g 0) : (fs g T ro L t x).length = sm (fun m => if m ∈ fs g T ro L 300 x then 1 else 0) t := by
  have h1 := hB.2.2.2 x hx
  unfold fs
  rw [fa_filter _ _ _ _ _ t 300 _ ht]
  exact cnt_list t _ (fa_nodup (ct_lt hB hL hrg) h1.2.2.1)
theorem sm_add (F G : Nat → Nat) : ∀ n, sm (fun x => F x + G x) n = sm F n + sm G n
  | 0 => rfl
  | n + 1 => by rw [sm, sm, sm, sm_add F G n]; omega
theorem sm_zero : ∀ n, sm (fun _ => 0) n = 0
  | 0 => rfl
  | n + 1 => by rw [sm, sm_zero n]
theorem sm_mul (c : Nat) (F : Nat → Nat) : ∀ n, sm (fun x => c * F x) n = c * sm F n
  | 0 => by rw [sm, sm, Nat.mul_zero]
  | n + 1 => by rw [sm, sm, sm_mul c F n, Nat.mul_add]
theorem sm_swap (F : Nat → Nat → Nat) (n : Nat) : ∀ t, sm (fun m => sm (fun x => F m x) n) t = sm (fun x => sm (fun m => F m x) t) n
  | 0 => by rw [sm]; exact (sm_zero n).symm
  | t + 1 => by
    rw [sm, sm_swap F n t, ← sm_add]
    exact sm_congr (fun x _ => rfl)
theorem bi_all : ∀ n, n ≤ 6 → ∀ x, x < n → bi (2 ^ n - 1) x = 1 := by decide +kernel
theorem all_lt (n : Nat) : 2 ^ n - 1 < 2 ^ n := by have := Nat.two_pow_pos n; omega
theorem fm_cnt {g : Nat → Nat} {T : Nat → Nat → Nat} {ro : Nat → Nat} {L t : Nat} {fm : Nat → Nat} (hB : TB g T) (hL : 0 < L) (hrg : ∀ k, k < L → ro k < g 0) (hf : fmI (g 0) fm (fs g T ro L 300)) (ht : t ≤ 300) (w : Nat → Nat) : sm (fun m => sm (fun x => bi (fm m) x * w x) (g 0)) t = sm (fun x => w x * (fs g T ro L t x).length) (g 0) := by
  rw [sm_swap]
  refine sm_congr (fun x hx => ?_)
  rw [fs_cnt hB hL hrg ht hx, ← sm_mul]
  refine sm_congr (fun m hm => ?_)
  obtain ⟨-, h2⟩ := hf m (by omega)
  have h3 := h2 x (by have := hB.1; omega)
  have h4 := bi_lt (fm m) x
  by_cases q : m ∈ fs g T ro L 300 x
  · rw [if_pos q, h3.mpr ⟨hx, q⟩, Nat.mul_comm]
  · rw [if_neg q, show bi (fm m) x = 0 by
      rcases Nat.lt_or_ge (bi (fm m) x) 1 with z | z
      · omega
      · exact absurd (h3.mp (by omega)).2 q, Nat.zero_mul, Nat.mul_zero]
theorem harm_eq {g : Nat → Nat} {T : Nat → Nat → Nat} {ro : Nat → Nat} {L t : Nat} {fm : Nat → Nat} (hB : TB g T) (hL : 0 < L) (hrg : ∀ k, k < L → ro k < g 0) (hf : fmI (g 0) fm (fs g T ro L 300)) (ht : t ≤ 300) : sm (hJ T fm (g 0)) t = hv g T ro L (2 ^ g 0 - 1) t := by
  have h1 := fm_cnt hB hL hrg hf ht (T 4)
  unfold hv
  rw [hs_sm]
  refine (show sm (hJ T fm (g 0)) t = sm (fun m => sm (fun x => bi (fm m) x * T 4 x) (g 0)) t from rfl).trans (h1.trans ?_)
  exact sm_congr (fun x hx => by rw [if_pos (bi_all _ hB.1 x hx)])
/-- how many falls there are below minute 300 -/
def fc (g : Nat → Nat) (T : Nat → Nat → Nat) (ro : Nat → Nat) (L : Nat) : Nat := sm (fun x => (fs g T ro L 300 x).length) (g 0)
