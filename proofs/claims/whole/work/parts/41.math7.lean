/-! ===== an order's comings repeat by a period ===== -/
theorem ct_per {g : Nat → Nat} {T : Nat → Nat → Nat} {ro : Nat → Nat} {L : Nat} (h0 : ct g T ro L 0 ≤ ct g T ro L L) : ∀ k, ct g T ro L (k + L) = ct g T ro L k + (ct g T ro L L - ct g T ro L 0)
  | 0 => by rw [Nat.zero_add]; omega
  | k + 1 => by
    have ih := ct_per h0 k
    have e1 : ct g T ro L (k + L + 1) = ct g T ro L (k + L) + (T 2 (ro ((k + L) % L)) + md (T 1 (ro ((k + L) % L))) (T 1 (ro ((k + L + 1) % L)))) := rfl
    have e2 : ct g T ro L (k + 1) = ct g T ro L k + (T 2 (ro (k % L)) + md (T 1 (ro (k % L))) (T 1 (ro ((k + 1) % L)))) := rfl
    rw [Nat.add_mod_right, show (k + L + 1) % L = (k + 1) % L by rw [show k + L + 1 = (k + 1) + L by omega, Nat.add_mod_right]] at e1
    rw [show k + 1 + L = k + L + 1 by omega, e1, e2, ih]
    omega
theorem ct_mono {g : Nat → Nat} {T : Nat → Nat → Nat} {ro : Nat → Nat} {L : Nat} (hB : TB g T) (hL : 0 < L) (hro : ∀ k, k < L → ro k < g 0) : ∀ d k, ct g T ro L k + d ≤ ct g T ro L (k + d)
  | 0, k => Nat.le_refl _
  | d + 1, k => by
    have := ct_mono hB hL hro d k
    have := ct_lt hB hL hro (k + d)
    rw [show k + (d + 1) = k + d + 1 by omega]; omega
theorem ct_le2 {g : Nat → Nat} {T : Nat → Nat → Nat} {ro : Nat → Nat} {L : Nat} (hB : TB g T) (hL : 0 < L) (hro : ∀ k, k < L → ro k < g 0) {i j : Nat} (h : i ≤ j) : ct g T ro L i ≤ ct g T ro L j := by
  have := ct_mono hB hL hro (j - i) i
  rw [show i + (j - i) = j by omega] at this; omega
/-- the period -/
def pd (g : Nat → Nat) (T : Nat → Nat → Nat) (ro : Nat → Nat) (L : Nat) : Nat := ct g T ro L L - ct g T ro L 0
/-- how often the nail has come to the i-th of the row, ahead of the k-th coming -/
def vs (L i : Nat) : Nat → Nat
  | 0 => 0
  | k + 1 => vs L i k + (if k % L = i then 1 else 0)
theorem vs_low {L i : Nat} (hi : i < L) : ∀ k, k ≤ i → vs L i k = 0
  | 0, _ => rfl
  | k + 1, h => by
    rw [vs, vs_low hi k (by omega), Nat.mod_eq_of_lt (by omega), if_neg (by omega)]
theorem mod_far {L k i d : Nat} (hk : k % L = i) (hi : i < L) (h0 : 0 < d) (hd : d < L) : ¬ (k + d) % L = i := by
  intro e
  have h1 := Nat.div_add_mod k L
  have h2 := Nat.div_add_mod (k + d) L
  rw [e] at h2; rw [hk] at h1
  have h3 : L * ((k + d) / L) = L * (k / L) + d := by omega
  have h4 : (k + d) / L = k / L ∨ k / L + 1 ≤ (k + d) / L := by
    have := Nat.div_le_div_right (c := L) (Nat.le_add_right k d); omega
  rcases h4 with q | q
  · rw [q] at h3; omega
  · have := Nat.mul_le_mul_left L q
    rw [Nat.mul_add, Nat.mul_one] at this; omega
theorem vs_one {L k i : Nat} (hk : k % L = i) (hi : i < L) : ∀ d, d < L → vs L i (k + d + 1) = vs L i k + 1
  | 0, _ => by rw [Nat.add_zero, vs, if_pos hk]
  | d + 1, hd => by
    have ih := vs_one hk hi d (by omega)
    rw [show k + (d + 1) + 1 = (k + d + 1) + 1 by omega, vs, ih, show k + d + 1 = k + (d + 1) by omega, if_neg (mod_far hk hi (by omega) hd)]
theorem vs_at {L i : Nat} (hi : i < L) : ∀ j, vs L i (i + j * L) = j ∧ (i + j * L) % L = i
  | 0 => by rw [Nat.zero_mul, Nat.add_zero]; exact ⟨vs_low hi i (Nat.le_refl _), Nat.mod_eq_of_lt hi⟩
  | j + 1 => by
    obtain ⟨h1, h2⟩ := vs_at hi j
    refine ⟨?_, by rw [Nat.add_mul_mod_self_right]; exact Nat.mod_eq_of_lt hi⟩
    have := vs_one h2 hi (L - 1) (by omega)
    rw [show i + j * L + (L - 1) + 1 = i + (j + 1) * L by rw [Nat.succ_mul]; omega] at this
    rw [this, h1]
theorem vs_mono (L i : Nat) : ∀ d k, vs L i k ≤ vs L i (k + d)
  | 0, k => Nat.le_refl _
  | d + 1, k => by
    have := vs_mono L i d k
    rw [show k + (d + 1) = k + d + 1 by omega, vs]; omega
theorem vs_form {L i k : Nat} (hi : i < L) (hk : k % L = i) : k = i + vs L i k * L := by
  have h1 := Nat.div_add_mod k L
  obtain ⟨h2, -⟩ := vs_at hi (k / L)
  have e : i + k / L * L = k := by rw [Nat.mul_comm]; omega
  rw [e] at h2; rw [h2, e]
theorem ct_at {g : Nat → Nat} {T : Nat → Nat → Nat} {ro : Nat → Nat} {L : Nat} (h0 : ct g T ro L 0 ≤ ct g T ro L L) (i : Nat) : ∀ j, ct g T ro L (i + j * L) = ct g T ro L i + j * pd g T ro L
  | 0 => by rw [Nat.zero_mul, Nat.zero_mul, Nat.add_zero, Nat.add_zero]
  | j + 1 => by
    rw [show i + (j + 1) * L = (i + j * L) + L by rw [Nat.succ_mul]; omega, ct_per h0, ct_at h0 i j, Nat.succ_mul]
    unfold pd; omega
theorem ct_vis {g : Nat → Nat} {T : Nat → Nat → Nat} {ro : Nat → Nat} {L i k : Nat} (h0 : ct g T ro L 0 ≤ ct g T ro L L) (hi : i < L) (hk : k % L = i) : ct g T ro L k = ct g T ro L i + vs L i k * pd g T ro L := by
  have := ct_at h0 i (vs L i k)
  rw [← vs_form hi hk] at this; exact this
/-- till when the i-th of the row is up, by how often the nail has come -/
def ux (h c P l v : Nat) : Nat := if v = 0 then h else c + (v - 1) * P + l
theorem up_vis {g : Nat → Nat} {T : Nat → Nat → Nat} {ro : Nat → Nat} {L i : Nat} (h0 : ct g T ro L 0 ≤ ct g T ro L L) (hi : i < L) (hne : ∀ k, k < L → ro k = ro i → k = i) (h y : Nat) : ∀ k, up (ct g T ro L) (fun n => ro (n % L)) (ro i) h y k = ux h (ct g T ro L i) (pd g T ro L) (y + h) (vs L i k)
  | 0 => by unfold ux; rw [vs, if_pos rfl]; rfl
  | k + 1 => by
    have ih := up_vis h0 hi hne h y k
    by_cases q : k % L = i
    · rw [up_yes (tg := fun n => ro (n % L)) (k := k) (show ro (k % L) = ro i by rw [q]), vs, if_pos q, ct_vis h0 hi q]
      unfold ux; rw [if_neg (by omega), Nat.add_sub_cancel]; omega
    · rw [up_no (tg := fun n => ro (n % L)) (k := k) (show ¬ ro (k % L) = ro i from fun e => q (hne _ (Nat.mod_lt _ (by omega)) e)), vs, if_neg q, Nat.add_zero]; exact ih
/-- how many of next, next + P, .. (w of them) lie below t -/
def qn (next P t : Nat) : Nat → Nat
  | 0 => 0
  | w + 1 => qn next P t w + (if next + w * P < t then 1 else 0)
theorem qn_eq {next P t : Nat} (hP : 0 < P) : ∀ w, qn next P t w = if next < t then (if w ≤ 1 + (t - 1 - next) / P then w else 1 + (t - 1 - next) / P) else 0
  | 0 => by unfold qn; split <;> simp
  | w + 1 => by
    have ih := qn_eq (next := next) (t := t) hP w
    rw [qn, ih]
    have key : next < t → (next + w * P < t ↔ w ≤ (t - 1 - next) / P) := fun hn => by
      rw [Nat.le_div_iff_mul_le hP]; omega
    by_cases q : next < t
    · rw [if_pos q, if_pos q]
      by_cases e : w ≤ (t - 1 - next) / P
      · rw [if_pos (show w ≤ 1 + (t - 1 - next) / P by omega), if_pos ((key q).mpr e), if_pos (by omega)]
      · rw [if_neg (fun z => e ((key q).mp z))]
        split <;> split <;> omega
    · rw [if_neg q, if_neg q, if_neg (by omega)]
theorem fl_vis {g : Nat → Nat} {T : Nat → Nat → Nat} {ro : Nat → Nat} {L i : Nat} (h0 : ct g T ro L 0 ≤ ct g T ro L L) (hi : i < L) (hne : ∀ k, k < L → ro k = ro i → k = i) (h y t : Nat) : ∀ k, (fl (ct g T ro L) (fun n => ro (n % L)) (ro i) h y t k).length = (if 0 < vs L i k ∧ h < ct g T ro L i ∧ h < t then 1 else 0) + (if y + h < pd g T ro L then qn (ct g T ro L i + (y + h)) (pd g T ro L) t (vs L i k - 1) else 0)
  | 0 => by rw [vs, if_neg (by omega)]; split <;> rfl
  | k + 1 => by
    have ih := fl_vis h0 hi hne h y t k
    have hu := up_vis h0 hi hne h y k
    by_cases q : k % L = i
    · have hc := ct_vis h0 hi q
      have hv : vs L i (k + 1) = vs L i k + 1 := by rw [vs, if_pos q]
      rw [hv, Nat.add_sub_cancel]
      by_cases z : vs L i k = 0
      · rw [z] at ih hu hc ⊢
        unfold ux at hu; rw [if_pos rfl] at hu
        rw [if_neg (show ¬ (0 < 0 ∧ h < ct g T ro L i ∧ h < t) by omega)] at ih
        have ih0 : (fl (ct g T ro L) (fun n => ro (n % L)) (ro i) h y t k).length = 0 := by
          rw [ih]; split <;> rfl
        rw [Nat.zero_mul, Nat.add_zero] at hc
        by_cases w : h < ct g T ro L i ∧ h < t
        · rw [fl_yes ⟨by show ro (k % L) = ro i; rw [q], by rw [hu, hc]; exact w.1, by rw [hu]; exact w.2⟩, len_push, ih0, if_pos ⟨by omega, w⟩]
          split <;> rfl
        · rw [fl_no (fun e => w (by rw [hu, hc] at e; exact e.2)), ih0, if_neg (fun e => w e.2)]
          split <;> rfl
      · unfold ux at hu; rw [if_neg z] at hu
        have hq : qn (ct g T ro L i + (y + h)) (pd g T ro L) t (vs L i k) = qn (ct g T ro L i + (y + h)) (pd g T ro L) t (vs L i k - 1) + (if ct g T ro L i + (y + h) + (vs L i k - 1) * pd g T ro L < t then 1 else 0) := by
          obtain ⟨v, hv2⟩ : ∃ v, vs L i k = v + 1 := ⟨vs L i k - 1, by omega⟩
          rw [hv2, qn, Nat.add_sub_cancel]
        have hm : vs L i k * pd g T ro L = (vs L i k - 1) * pd g T ro L + pd g T ro L := by
          obtain ⟨v, hv2⟩ : ∃ v, vs L i k = v + 1 := ⟨vs L i k - 1, by omega⟩
          rw [hv2, Nat.add_sub_cancel, Nat.succ_mul]
        have e1 : (0 < vs L i k + 1 ∧ h < ct g T ro L i ∧ h < t) ↔ (0 < vs L i k ∧ h < ct g T ro L i ∧ h < t) := by constructor <;> (intro e; exact ⟨by omega, e.2⟩)
        by_cases w : y + h < pd g T ro L
        · rw [if_pos w] at ih ⊢
          rw [hq]
          by_cases x1 : ct g T ro L i + (y + h) + (vs L i k - 1) * pd g T ro L < t
          · rw [fl_yes ⟨by show ro (k % L) = ro i; rw [q], by rw [hu, hc]; omega, by rw [hu]; omega⟩, len_push, ih, if_pos x1]
            simp only [e1]; omega
          · rw [fl_no (fun e => x1 (by rw [hu] at e; omega)), ih, if_neg x1]
            simp only [e1]; omega
        · rw [if_neg w] at ih ⊢
          rw [fl_no (fun e => w (by rw [hu, hc] at e; omega)), ih]
          simp only [e1]
    · rw [fl_no (tg := fun n => ro (n % L)) (k := k) (fun e => q (hne _ (Nat.mod_lt _ (by omega)) e.1)), vs, if_neg q, Nat.add_zero]; exact ih
/-- how many falls by a division -/
def fB (h y c P t : Nat) : Nat := (if h < c ∧ h < t then 1 else 0) + (if 0 < P ∧ y + h < P ∧ c + (y + h) < t then 1 + (t - 1 - (c + (y + h))) / P else 0)
theorem cnf_prop {cf : Nat → Nat} {till : Nat} (mono : ∀ i j, i ≤ j → cf i ≤ cf j) : ∀ most, cnf cf till most ≤ most ∧ (∀ k, k < cnf cf till most → cf k < till) ∧ (cnf cf till most = most ∨ till ≤ cf (cnf cf till most))
  | 0 => ⟨Nat.le_refl _, fun k h => absurd h (Nat.not_lt_zero k), Or.inl rfl⟩
  | m + 1 => by
    obtain ⟨h1, h2, h3⟩ := cnf_prop mono m
    by_cases q : cf m < till
    · rw [cnf, if_pos q]
      exact ⟨Nat.le_refl _, fun k hk => Nat.lt_of_le_of_lt (mono k m (by omega)) q, Or.inl rfl⟩
    · rw [cnf, if_neg q]
      refine ⟨by omega, h2, Or.inr ?_⟩
      rcases h3 with e | e
      · rw [e]; omega
      · exact e
theorem cn300 {g : Nat → Nat} {T : Nat → Nat → Nat} {ro : Nat → Nat} {L : Nat} (hB : TB g T) (hL : 0 < L) (hro : ∀ k, k < L → ro k < g 0) : (∀ k, k < cnf (ct g T ro L) 300 400 → ct g T ro L k < 300) ∧ 300 ≤ ct g T ro L (cnf (ct g T ro L) 300 400) := by
  obtain ⟨h1, h2, h3⟩ := cnf_prop (cf := ct g T ro L) (till := 300) (fun i j h => ct_le2 hB hL hro h) 400
  refine ⟨h2, ?_⟩
  rcases h3 with e | e
  · have := ct_ge hB hL hro (cnf (ct g T ro L) 300 400); omega
  · exact e
theorem pd_pos {g : Nat → Nat} {T : Nat → Nat → Nat} {ro : Nat → Nat} {L : Nat} (hB : TB g T) (hL : 0 < L) (hro : ∀ k, k < L → ro k < g 0) : 0 < pd g T ro L ∧ ct g T ro L 0 ≤ ct g T ro L L ∧ pd g T ro L ≤ 18 * L + 9 := by
  have h1 := ct_mono hB hL hro L 0
  rw [Nat.zero_add] at h1
  have h2 := ct_le hB hL hro L
  unfold pd; omega
theorem vs_far {g : Nat → Nat} {T : Nat → Nat → Nat} {ro : Nat → Nat} {L i c : Nat} (hB : TB g T) (hL : 0 < L) (hro : ∀ k, k < L → ro k < g 0) (hi : i < L) : ct g T ro L c ≤ ct g T ro L i + vs L i c * pd g T ro L := by
  obtain ⟨h1, h2⟩ := vs_at hi (vs L i c)
  have h3 : c ≤ i + vs L i c * L := by
    rcases Nat.lt_or_ge (i + vs L i c * L) c with q | q
    · have h4 := vs_one h2 hi 0 (by omega)
      have h5 := vs_mono L i (c - (i + vs L i c * L + 1)) (i + vs L i c * L + 1)
      rw [show i + vs L i c * L + 1 + (c - (i + vs L i c * L + 1)) = c by omega] at h5
      rw [Nat.add_zero, h1] at h4; omega
    · exact q
  rw [← ct_at (pd_pos hB hL hro).2.1]
  exact ct_le2 hB hL hro h3
theorem fs_order {g : Nat → Nat} {T : Nat → Nat → Nat} {ro : Nat → Nat} {L i t : Nat} (hB : TB g T) (hL : 0 < L) (hro : ∀ k, k < L → ro k < g 0) (hi : i < L) (hne : ∀ k, k < L → ro k = ro i → k = i) (ht : t ≤ 300) : (fs g T ro L t (ro i)).length = fB (hd g T (ro i)) (T 2 (ro i)) (ct g T ro L i) (pd g T ro L) t := by
  obtain ⟨-, hE⟩ := cn300 hB hL hro
  obtain ⟨hP, h0, -⟩ := pd_pos hB hL hro
  have hF := vs_far (c := cnf (ct g T ro L) 300 400) hB hL hro hi
  have hu := up_vis h0 hi hne (hd g T (ro i)) (T 2 (ro i)) (cnf (ct g T ro L) 300 400)
  have hl := fl_vis h0 hi hne (hd g T (ro i)) (T 2 (ro i)) t (cnf (ct g T ro L) 300 400)
  unfold fs
  generalize cnf (ct g T ro L) 300 400 = cN at *
  generalize hv : vs L i cN = v at *
  generalize hd g T (ro i) = h at *
  generalize T 2 (ro i) = y at *
  generalize hc : ct g T ro L i = c at *
  generalize hp : pd g T ro L = P at *
  have hlen : (fa (ct g T ro L) (fun n => ro (n % L)) (ro i) h y t cN).length = (fl (ct g T ro L) (fun n => ro (n % L)) (ro i) h y t cN).length + (if ux h c P (y + h) v < t then 1 else 0) := by
    by_cases q : ux h c P (y + h) v < t
    · rw [fa_yes (by rw [hu]; exact q), len_push, if_pos q]
    · rw [fa_no (by rw [hu]; exact q), if_neg q, Nat.add_zero]
  rw [hlen, hl]
  unfold fB
  by_cases z : v = 0
  · subst z
    rw [Nat.zero_mul, Nat.add_zero] at hF
    unfold ux; rw [if_pos rfl, if_neg (show ¬ (0 < 0 ∧ h < c ∧ h < t) by omega)]
    have e0 : (if y + h < P then qn (c + (y + h)) P t (0 - 1) else 0) = 0 := by split <;> rfl
    rw [e0, if_neg (show ¬ (0 < P ∧ y + h < P ∧ c + (y + h) < t) by omega)]
    by_cases q : h < t
    · rw [if_pos q, if_pos ⟨by omega, q⟩]
    · rw [if_neg q, if_neg (fun e => q e.2)]
  · have hm : v * P = (v - 1) * P + P := by
      obtain ⟨w, rfl⟩ : ∃ w, v = w + 1 := ⟨v - 1, by omega⟩
      rw [Nat.add_sub_cancel, Nat.succ_mul]
    have e1 : (if 0 < v ∧ h < c ∧ h < t then 1 else 0) = (if h < c ∧ h < t then 1 else 0) := by
      by_cases q : h < c ∧ h < t
      · rw [if_pos q, if_pos ⟨by omega, q⟩]
      · rw [if_neg q, if_neg (fun e => q e.2)]
    rw [e1]
    unfold ux; rw [if_neg z]
    by_cases w : y + h < P
    · rw [if_pos w]
      have hq : qn (c + (y + h)) P t (v - 1) + (if c + (v - 1) * P + (y + h) < t then 1 else 0) = qn (c + (y + h)) P t v := by
        obtain ⟨x, rfl⟩ : ∃ x, v = x + 1 := ⟨v - 1, by omega⟩
        rw [qn, Nat.add_sub_cancel]
        have e2 : c + x * P + (y + h) = c + (y + h) + x * P := by omega
        rw [e2]
      rw [Nat.add_assoc, hq, qn_eq hP]
      by_cases n : c + (y + h) < t
      · rw [if_pos n, if_pos (c := 0 < P ∧ y + h < P ∧ c + (y + h) < t) ⟨hP, w, n⟩]
        have k1 : ¬ v ≤ (t - 1 - (c + (y + h))) / P := fun e => by
          rw [Nat.le_div_iff_mul_le hP] at e; omega
        have k2 : (if v ≤ 1 + (t - 1 - (c + (y + h))) / P then v else 1 + (t - 1 - (c + (y + h))) / P) = 1 + (t - 1 - (c + (y + h))) / P := by split <;> omega
        rw [k2]
      · rw [if_neg n, if_neg (c := 0 < P ∧ y + h < P ∧ c + (y + h) < t) (fun e => n e.2.2)]
    · rw [if_neg w, if_neg (c := 0 < P ∧ y + h < P ∧ c + (y + h) < t) (fun e => w e.2.1), if_neg (c := c + (v - 1) * P + (y + h) < t) (by omega)]
/-- none ever falls, by an order: told by the period -/
theorem sf_order {g : Nat → Nat} {T : Nat → Nat → Nat} {ro : Nat → Nat} {L S : Nat} (hB : TB g T) (hL : 0 < L) (hro : ∀ k, k < L → ro k < g 0) (hne : ∀ i, i < L → ∀ k, k < L → ro k = ro i → k = i) (hin : ∀ i, i < L → bi S (ro i) = 1) (hon : ∀ x, x < g 0 → bi S x = 1 → ∃ i, i < L ∧ ro i = x) : sf g T ro L S ↔ ∀ i, i < L → ct g T ro L i ≤ hd g T (ro i) ∧ pd g T ro L ≤ T 2 (ro i) + hd g T (ro i) := by
  obtain ⟨hP, h0, -⟩ := pd_pos hB hL hro
  constructor
  · intro h i hi
    obtain ⟨-, h2⟩ := h (ro i) (hro i hi) (hin i hi)
    have a1 := h2 i (by omega) (by rw [Nat.mod_eq_of_lt hi])
    have a2 := h2 (i + L) (by omega) (by rw [Nat.add_mod_right, Nat.mod_eq_of_lt hi])
    rw [up_vis h0 hi (hne i hi)] at a1 a2
    have v1 : vs L i i = 0 := vs_low hi i (Nat.le_refl _)
    have v2 := (vs_at hi 1).1
    rw [Nat.one_mul] at v2
    have c2 := ct_at h0 i 1
    rw [Nat.one_mul, Nat.one_mul] at c2
    rw [v1] at a1; rw [v2, c2] at a2
    unfold ux at a1 a2
    rw [if_pos rfl] at a1; rw [if_neg (by decide), Nat.sub_self, Nat.zero_mul, Nat.add_zero] at a2
    exact ⟨a1, by omega⟩
  · intro h x hx hb
    obtain ⟨i, hi, rfl⟩ := hon x hx hb
    refine ⟨⟨i, by omega, by rw [Nat.mod_eq_of_lt hi]⟩, fun k hk e => ?_⟩
    have hk2 : k % L = i := hne i hi _ (Nat.mod_lt _ hL) e
    rw [up_vis h0 hi (hne i hi), ct_vis h0 hi hk2]
    obtain ⟨h1, h2⟩ := h i hi
    unfold ux
    by_cases z : vs L i k = 0
    · rw [if_pos z, z, Nat.zero_mul]; omega
    · rw [if_neg z]
      have hm : vs L i k * pd g T ro L = (vs L i k - 1) * pd g T ro L + pd g T ro L := by
        obtain ⟨w, hw⟩ : ∃ w, vs L i k = w + 1 := ⟨vs L i k - 1, by omega⟩
        rw [hw, Nat.add_sub_cancel, Nat.succ_mul]
      omega
theorem ua_order {g : Nat → Nat} {T : Nat → Nat → Nat} {ro : Nat → Nat} {L i w : Nat} (hB : TB g T) (hL : 0 < L) (hro : ∀ k, k < L → ro k < g 0) (hi : i < L) (hne : ∀ k, k < L → ro k = ro i → k = i) (hw : w < 300) (h y : Nat) : w < ua (ct g T ro L) (fun n => ro (n % L)) (ro i) h y w (cnf (ct g T ro L) 300 400) ↔ (if w < ct g T ro L i then w < h else (w - ct g T ro L i) % pd g T ro L < y + h) := by
  obtain ⟨-, hE⟩ := cn300 hB hL hro
  obtain ⟨hP, h0, -⟩ := pd_pos hB hL hro
  have hF := vs_far (c := cnf (ct g T ro L) 300 400) hB hL hro hi
  have key : ∀ m, (∀ v, ct g T ro L i + v * pd g T ro L ≤ w ↔ v < m) → ∀ k, ua (ct g T ro L) (fun n => ro (n % L)) (ro i) h y w k = ux h (ct g T ro L i) (pd g T ro L) (y + h) (if vs L i k ≤ m then vs L i k else m) := by
    intro m hm k
    induction k with
    | zero => rw [vs, if_pos (Nat.zero_le _)]; unfold ux; rw [if_pos rfl]; rfl
    | succ k ih =>
      by_cases q : k % L = i
      · have hc := ct_vis h0 hi q
        have hv : vs L i (k + 1) = vs L i k + 1 := by rw [vs, if_pos q]
        by_cases e : vs L i k < m
        · rw [ua_yes ⟨by show ro (k % L) = ro i; rw [q], by rw [hc]; exact (hm _).mpr e⟩, hv, if_pos (by omega), hc]
          unfold ux; rw [if_neg (by omega), Nat.add_sub_cancel]; omega
        · rw [ua_no (fun z => e ((hm _).mp (by rw [← hc]; exact z.2))), ih, hv]
          congr 1
          split <;> split <;> omega
      · rw [ua_no (tg := fun n => ro (n % L)) (k := k) (fun z => q (hne _ (Nat.mod_lt _ hL) z.1)), ih, vs, if_neg q, Nat.add_zero]
  generalize cnf (ct g T ro L) 300 400 = cN at *
  by_cases q : w < ct g T ro L i
  · rw [key 0 (fun v => ⟨fun e => by omega, fun e => absurd e (Nat.not_lt_zero v)⟩), if_pos q]
    have : (if vs L i cN ≤ 0 then vs L i cN else 0) = 0 := by split <;> omega
    rw [this]; unfold ux; rw [if_pos rfl]
  · have hm : ∀ v, ct g T ro L i + v * pd g T ro L ≤ w ↔ v < (w - ct g T ro L i) / pd g T ro L + 1 := fun v => by
      rw [Nat.lt_succ_iff, Nat.le_div_iff_mul_le hP]; omega
    rw [key _ hm, if_neg q]
    have hle : (w - ct g T ro L i) / pd g T ro L + 1 ≤ vs L i cN := by
      rcases Nat.lt_or_ge (vs L i cN) ((w - ct g T ro L i) / pd g T ro L + 1) with z | z
      · have := (hm _).mpr z; omega
      · exact z
    have e : (if vs L i cN ≤ (w - ct g T ro L i) / pd g T ro L + 1 then vs L i cN else (w - ct g T ro L i) / pd g T ro L + 1) = (w - ct g T ro L i) / pd g T ro L + 1 := by split <;> omega
    rw [e]; unfold ux; rw [if_neg (Nat.succ_ne_zero _), Nat.add_sub_cancel]
    have h9 := Nat.div_add_mod (w - ct g T ro L i) (pd g T ro L)
    rw [Nat.mul_comm] at h9
    omega
def sm (F : Nat → Nat) : Nat → Nat
  | 0 => 0
  | n + 1 => sm F n + F n
theorem sm_congr {F G : Nat → Nat} : ∀ {n : Nat}, (∀ x, x < n → F x = G x) → sm F n = sm G n
  | 0, _ => rfl
  | n + 1, h => by rw [sm, sm, sm_congr (fun x hx => h x (by omega)), h n (by omega)]
theorem sm_point {F G : Nat → Nat} {q d : Nat} (hq : G q = F q + d) (ho : ∀ x, x ≠ q → G x = F x) : ∀ {n : Nat}, q < n → sm G n = sm F n + d
  | 0, h => absurd h (Nat.not_lt_zero q)
  | n + 1, h => by
    rw [sm, sm]
    rcases Nat.lt_or_ge q n with w | w
    · rw [sm_point hq ho w, ho n (by omega)]; omega
    · obtain rfl : q = n := by omega
      rw [sm_congr (F := G) (G := F) (fun x hx => ho x (by omega)), hq]; omega
theorem hs_sm (T : Nat → Nat → Nat) (f : Nat → Nat) (S : Nat) : ∀ n, hs T f S n = sm (fun x => if bi S x = 1 then T 4 x * f x else 0) n
  | 0 => rfl
  | n + 1 => by rw [hs, sm, hs_sm T f S n]
theorem hs_order {T : Nat → Nat → Nat} {f : Nat → Nat} {S n L : Nat} {ro : Nat → Nat} (hro : ∀ k, k < L → ro k < n) (hne : ∀ i, i < L → ∀ k, k < L → ro k = ro i → k = i) (hin : ∀ i, i < L → bi S (ro i) = 1) (hon : ∀ x, x < n → bi S x = 1 → ∃ i, i < L ∧ ro i = x) : hs T f S n = sm (fun k => T 4 (ro k) * f (ro k)) L := by
  have key : ∀ m, m ≤ L → sm (fun x => cif (∃ k, k < m ∧ ro k = x) (T 4 x * f x) 0) n = sm (fun k => T 4 (ro k) * f (ro k)) m := by
    intro m
    induction m with
    | zero =>
      intro _
      have : ∀ n, sm (fun x => cif (∃ k, k < 0 ∧ ro k = x) (T 4 x * f x) 0) n = 0 := by
        intro n
        induction n with
        | zero => rfl
        | succ n ih => rw [sm, ih, cif_neg (fun ⟨k, hk, _⟩ => absurd hk (Nat.not_lt_zero k))]
      rw [this]; rfl
    | succ m ih =>
      intro hm
      rw [sm, ← ih (by omega)]
      refine sm_point (q := ro m) ?_ ?_ (hro m (by omega))
      · show cif (∃ k, k < m + 1 ∧ ro k = ro m) _ _ = cif (∃ k, k < m ∧ ro k = ro m) _ _ + _
        rw [cif_pos ⟨m, by omega, rfl⟩, cif_neg (fun ⟨k, hk, e⟩ => by have := hne m (by omega) k (by omega) e; omega), Nat.zero_add]
      · intro x hx
        show cif (∃ k, k < m + 1 ∧ ro k = x) _ _ = cif (∃ k, k < m ∧ ro k = x) _ _
        by_cases q : ∃ k, k < m ∧ ro k = x
        · rw [cif_pos q, cif_pos (by obtain ⟨k, hk, e⟩ := q; exact ⟨k, by omega, e⟩)]
        · rw [cif_neg q, cif_neg (fun ⟨k, hk, e⟩ => q ⟨k, by
            rcases Nat.lt_or_ge k m with w | w
            · exact w
            · exact absurd (by rw [← e]; congr 1; omega) hx, e⟩)]
  rw [hs_sm, ← key L (Nat.le_refl _)]
  refine sm_congr (fun x hx => ?_)
  by_cases q : bi S x = 1
  · rw [if_pos q, cif_pos (hon x hx q)]
  · rw [if_neg q, cif_neg (fun ⟨k, hk, e⟩ => q (by rw [← e]; exact hin k hk))]
theorem abs_row : ∀ x, x ≤ 9 → ∀ y, y ≤ 9 → (if 0 ≤ nI x - nI y then nI x - nI y else 0 - (nI x - nI y)) = nI (md y x) := by decide +kernel
def tiI (g : Nat → Nat) (T : Nat → Nat → Nat) (ro : Nat → Nat) (L k mi pa : Nat) : Prop := (k = 0 ∧ mi = 0 ∧ pa = g 1) ∨ (0 < k ∧ mi = ct g T ro L (k - 1) + T 2 (ro (k - 1)) ∧ pa = T 1 (ro (k - 1)))
theorem ti_pa {g : Nat → Nat} {T : Nat → Nat → Nat} {ro : Nat → Nat} {L k mi pa : Nat} (hB : TB g T) (hrg : ∀ k, k < L → ro k < g 0) (hL : L ≤ 6) (hk : k ≤ L) (h : tiI g T ro L k mi pa) : pa ≤ 9 ∧ mi ≤ 10000 := by
  have := hB.2.1
  rcases h with ⟨-, h1, h2⟩ | ⟨h0, h1, h2⟩
  · omega
  · have h3 := hB.2.2.2 _ (hrg (k - 1) (by omega))
    have h4 := ct_le hB (by omega) hrg (k - 1)
    omega
theorem ti_ck {g : Nat → Nat} {T : Nat → Nat → Nat} {ro : Nat → Nat} {L k mi pa : Nat} (hk : k < L) (h : tiI g T ro L k mi pa) : mi + md pa (T 1 (ro k)) = ct g T ro L k := by
  rcases h with ⟨h0, h1, h2⟩ | ⟨h0, h1, h2⟩
  · rw [h0, h1, h2, Nat.zero_add]; rfl
  · obtain ⟨k2, rfl⟩ : ∃ k2, k = k2 + 1 := ⟨k - 1, by omega⟩
    rw [h1, h2, Nat.add_sub_cancel, ct, Nat.mod_eq_of_lt (show k2 < L by omega), Nat.mod_eq_of_lt hk, Nat.add_assoc]
theorem ti_cL {g : Nat → Nat} {T : Nat → Nat → Nat} {ro : Nat → Nat} {L mi pa : Nat} (hL : 0 < L) (h : tiI g T ro L L mi pa) : mi + md pa (T 1 (ro 0)) = ct g T ro L L := by
  rcases h with ⟨h0, h1, h2⟩ | ⟨h0, h1, h2⟩
  · omega
  · obtain ⟨k2, rfl⟩ : ∃ k2, L = k2 + 1 := ⟨L - 1, by omega⟩
    rw [h1, h2, Nat.add_sub_cancel, ct, Nat.mod_eq_of_lt (show k2 < k2 + 1 by omega), Nat.mod_self, Nat.add_assoc]
theorem ti_push {f : Nat → Int32} {ro : Nat → Nat} {F : Nat → Nat} {k : Nat} (h : ∀ j, j < k → f (ro j) = nI (F j)) (hne : ∀ j, j < k → ro k ≠ ro j) : ∀ j, j < k + 1 → upd f (ro k) (nI (F k)) (ro j) = nI (F j) := fun j hj => by
  rcases Nat.lt_or_ge j k with w | w
  · rw [up_ne (fun e => hne j w e.symm)]; exact h j w
  · obtain rfl : j = k := by omega
    exact up_eq
