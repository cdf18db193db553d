/-- where the nail is -/
def whR (g : Nat → Nat) (T : Nat → Nat → Nat) (ro : Nat → Nat) (L t : Nat) (v : Int32) : Prop := (v = -9 ∧ ∀ k, ¬ (ct g T ro L k ≤ t ∧ t < ct g T ro L k + T 2 (ro (k % L)))) ∨ ∃ k, ct g T ro L k ≤ t ∧ t < ct g T ro L k + T 2 (ro (k % L)) ∧ v = nI (ro (k % L))
theorem ct_gap {g : Nat → Nat} {T : Nat → Nat → Nat} {ro : Nat → Nat} {L : Nat} (hB : TB g T) (hL : 0 < L) (hrg : ∀ k, k < L → ro k < g 0) {i j : Nat} (h : i < j) : ct g T ro L i + T 2 (ro (i % L)) ≤ ct g T ro L j := by
  have h1 := ct_le2 hB hL hrg (show i + 1 ≤ j by omega)
  have h2 : ct g T ro L (i + 1) = ct g T ro L i + (T 2 (ro (i % L)) + md (T 1 (ro (i % L))) (T 1 (ro ((i + 1) % L)))) := rfl
  omega
theorem whR_one {g : Nat → Nat} {T : Nat → Nat → Nat} {ro : Nat → Nat} {L t : Nat} {v w : Int32} (hB : TB g T) (hL : 0 < L) (hrg : ∀ k, k < L → ro k < g 0) (h1 : whR g T ro L t v) (h2 : whR g T ro L t w) : v = w := by
  rcases h1 with ⟨e1, n1⟩ | ⟨k, a1, b1, e1⟩
  · rcases h2 with ⟨e2, -⟩ | ⟨j, a2, b2, -⟩
    · rw [e1, e2]
    · exact absurd ⟨a2, b2⟩ (n1 j)
  · rcases h2 with ⟨-, n2⟩ | ⟨j, a2, b2, e2⟩
    · exact absurd ⟨a1, b1⟩ (n2 k)
    · have : k = j := by
        rcases Nat.lt_or_ge k j with q | q
        · have := ct_gap hB hL hrg q; omega
        · rcases Nat.lt_or_ge j k with w | w
          · have := ct_gap hB hL hrg w; omega
          · omega
      rw [e1, e2, this]
theorem sb_sm (b : Nat) : ∀ n, sb b n = sm (bi b) n
  | 0 => rfl
  | n + 1 => by rw [sb, sm, sb_sm b n]
theorem sm_cut {F : Nat → Nat} {n : Nat} : ∀ d, (∀ x, n ≤ x → x < n + d → F x = 0) → sm F (n + d) = sm F n
  | 0, _ => rfl
  | d + 1, h => by rw [show n + (d + 1) = n + d + 1 by omega, sm, sm_cut d (fun x h1 h2 => h x h1 (by omega)), h (n + d) (by omega) (by omega)]; rfl
theorem fc_eq {g : Nat → Nat} {T : Nat → Nat → Nat} {ro : Nat → Nat} {L : Nat} {fm : Nat → Nat} (hB : TB g T) (hL : 0 < L) (hrg : ∀ k, k < L → ro k < g 0) (hf : fmI (g 0) fm (fs g T ro L 300)) : sm (fun m => sb (fm m) 6) 300 = fc g T ro L := by
  have h1 := fm_cnt hB hL hrg hf (Nat.le_refl 300) (fun _ => 1)
  have h2 : sm (fun m => sb (fm m) 6) 300 = sm (fun m => sm (fun x => bi (fm m) x * 1) (g 0)) 300 := sm_congr (fun m hm => by
    show sb (fm m) 6 = sm (fun x => bi (fm m) x * 1) (g 0)
    rw [sb_sm]
    obtain ⟨-, h3⟩ := hf m hm
    have h4 := sm_cut (F := bi (fm m)) (n := g 0) (6 - g 0) (fun x a b => by
      have := hB.1
      have h5 := (h3 x (by omega))
      have h6 := bi_lt (fm m) x
      rcases Nat.lt_or_ge (bi (fm m) x) 1 with z | z
      · omega
      · have := (h5.mp (by omega)).1; omega)
    rw [show g 0 + (6 - g 0) = 6 by have := hB.1; omega] at h4
    rw [h4]; exact sm_congr (fun x _ => (Nat.mul_one _).symm))
  rw [h2, h1]
  exact sm_congr (fun x _ => Nat.one_mul _)
/-- never, by two rounds -/
def nv2 (g : Nat → Nat) (T : Nat → Nat → Nat) (ro : Nat → Nat) (L : Nat) : Prop := (∀ x, x < g 0 → ∃ j, j < 2 * L ∧ ro (j % L) = x) ∧ ∀ j, j < 2 * L → ct g T ro L j ≤ uk g T ro L j (ro (j % L))
theorem uk_per {g : Nat → Nat} {T : Nat → Nat → Nat} {ro : Nat → Nat} {L x : Nat} (h0 : ct g T ro L 0 ≤ ct g T ro L L) : ∀ k, (∃ j, j < k ∧ ro (j % L) = x) → uk g T ro L (k + L) x = uk g T ro L k x + pd g T ro L
  | 0, h => by obtain ⟨j, hj, -⟩ := h; exact absurd hj (Nat.not_lt_zero j)
  | k + 1, h => by
    have hm : (k + L) % L = k % L := Nat.add_mod_right k L
    rw [show k + 1 + L = (k + L) + 1 by omega]
    by_cases q : x = ro (k % L)
    · have e1 : uk g T ro L (k + 1) x = ct g T ro L k + T 2 (ro (k % L)) + hd g T (ro (k % L)) := by rw [q]; exact uk_yes
      have e2 := uk_yes (g := g) (T := T) (ro := ro) (L := L) (k := k + L)
      rw [hm] at e2
      rw [e1, q, e2, ct_per h0]; unfold pd; omega
    · rw [uk_no q, uk_no (show x ≠ ro ((k + L) % L) by rw [hm]; exact q)]
      refine uk_per h0 k ?_
      obtain ⟨j, hj, e⟩ := h
      exact ⟨j, by
        rcases Nat.lt_or_ge j k with w | w
        · exact w
        · exact absurd (by rw [← e, show j = k by omega]) q, e⟩
theorem nv2_sf {g : Nat → Nat} {T : Nat → Nat → Nat} {ro : Nat → Nat} {L : Nat} (hB : TB g T) (hL : 0 < L) (hrg : ∀ k, k < L → ro k < g 0) : nv2 g T ro L ↔ sf g T ro L (2 ^ g 0 - 1) := by
  obtain ⟨hP, h0, -⟩ := pd_pos hB hL hrg
  constructor
  · rintro ⟨h1, h2⟩ x hx -
    obtain ⟨j, hj, e⟩ := h1 x hx
    refine ⟨⟨j, by omega, e⟩, fun k hk e2 => ?_⟩
    show ct g T ro L k ≤ uk g T ro L k x
    rcases Nat.lt_or_ge k (2 * L) with q | q
    · have := h2 k q; rw [e2] at this; exact this
    · obtain ⟨i, rfl⟩ : ∃ i, k = i + L := ⟨k - L, by omega⟩
      have hm : (i + L) % L = i % L := Nat.add_mod_right i L
      rw [hm] at e2
      have h3 := h2 i (by omega)
      rw [e2] at h3
      rw [uk_per h0 i ⟨i - L, by omega, by
        have : (i - L + L) % L = (i - L) % L := Nat.add_mod_right _ L
        rw [show i - L + L = i by omega] at this
        rw [← this]; exact e2⟩, ct_per h0]
      unfold pd; omega
  · intro h
    refine ⟨fun x hx => ?_, fun j hj => ?_⟩
    · obtain ⟨⟨k, -, e⟩, -⟩ := h x hx (bi_all _ hB.1 x hx)
      exact ⟨k % L, by have := Nat.mod_lt k hL; omega, by rw [Nat.mod_mod]; exact e⟩
    · have hr := hrg _ (Nat.mod_lt j hL)
      exact (h _ hr (bi_all _ hB.1 _ hr)).2 j (by omega) rfl
theorem came_all : ∀ n, n ≤ 6 → ∀ b, b < 64 → ((∀ x, x < 6 → (bi b x = 1 → x < n)) → (b = 2 ^ n - 1 ↔ ∀ x, x < n → bi b x = 1)) := by decide +kernel
theorem or_row2 : ∀ b, b < 64 → ∀ x, x < 6 → nI b ||| (nI 1 <<< (nI x &&& 31)) = nI (b ||| 2 ^ x) := or_row
