/-! ===== rows on a number beside 0; words for the town, for comings and falls, for orders ===== -/
section
variable {p : Program} {l : Launch} {e : Env} {R : Room} {s : State} {m : MethodId} {args : Array Value} {below : List Frame} {meth : Method} {c : Code} {H : Heap} {locs : List Loc} {cells slots : Nat} {Q : State → Prop}
variable {cc : ByteArray} {pc : Nat} {ls : Array Slot} {rest : List Value}
theorem rz_eq (hexec : p.tables.exec = Jvm.exec) (hb : c.code = cc) {x : Nat} (hx : x < 2 ^ 31) {off : Int} {tgt : Nat} (hdg : decode cc pc = .ok (.ifCond .eq off, 3)) (ht : (pc : Int) + off = (tgt : Int))
    (kt : x = 0 → W p l e R s m args below meth c H locs cells slots Q (F0 m tgt ls rest)) (kf : ¬ x = 0 → W p l e R s m args below meth c H locs cells slots Q (F0 m (pc + 3) ls rest)) : W p l e R s m args below meth c H locs cells slots Q (F0 m pc ls (.int (nI x) :: rest)) :=
  lv_if_eq hexec hb hdg ht (fun h => kt ((nI_eq hx (by decide)).mp h)) (fun h => kf (fun q => h (by rw [q]; rfl)))
theorem rz_ne (hexec : p.tables.exec = Jvm.exec) (hb : c.code = cc) {x : Nat} (hx : x < 2 ^ 31) {off : Int} {tgt : Nat} (hdg : decode cc pc = .ok (.ifCond .ne off, 3)) (ht : (pc : Int) + off = (tgt : Int))
    (kt : ¬ x = 0 → W p l e R s m args below meth c H locs cells slots Q (F0 m tgt ls rest)) (kf : x = 0 → W p l e R s m args below meth c H locs cells slots Q (F0 m (pc + 3) ls rest)) : W p l e R s m args below meth c H locs cells slots Q (F0 m pc ls (.int (nI x) :: rest)) :=
  lv_if_ne hexec hb hdg ht (fun h => kt (fun q => h (by rw [q]; rfl))) (fun h => kf ((nI_eq hx (by decide)).mp h))
theorem rz_lt (hexec : p.tables.exec = Jvm.exec) (hb : c.code = cc) {x : Nat} (hx : x < 2 ^ 31) {off : Int} {tgt : Nat} (hdg : decode cc pc = .ok (.ifCond .lt off, 3)) (ht : (pc : Int) + off = (tgt : Int))
    (kf : W p l e R s m args below meth c H locs cells slots Q (F0 m (pc + 3) ls rest)) : W p l e R s m args below meth c H locs cells slots Q (F0 m pc ls (.int (nI x) :: rest)) :=
  lv_if_lt hexec hb hdg ht (fun h => absurd h (nI_pos hx)) (fun _ => kf)
theorem rz_ge (hexec : p.tables.exec = Jvm.exec) (hb : c.code = cc) {x : Nat} (hx : x < 2 ^ 31) {off : Int} {tgt : Nat} (hdg : decode cc pc = .ok (.ifCond .ge off, 3)) (ht : (pc : Int) + off = (tgt : Int))
    (kt : W p l e R s m args below meth c H locs cells slots Q (F0 m tgt ls rest)) : W p l e R s m args below meth c H locs cells slots Q (F0 m pc ls (.int (nI x) :: rest)) :=
  lv_if_ge hexec hb hdg ht (fun _ => kt) (fun h => absurd (nI_pos' hx) h)
theorem rz_le (hexec : p.tables.exec = Jvm.exec) (hb : c.code = cc) {x : Nat} (hx : x < 2 ^ 31) {off : Int} {tgt : Nat} (hdg : decode cc pc = .ok (.ifCond .le off, 3)) (ht : (pc : Int) + off = (tgt : Int))
    (kt : x = 0 → W p l e R s m args below meth c H locs cells slots Q (F0 m tgt ls rest)) (kf : 0 < x → W p l e R s m args below meth c H locs cells slots Q (F0 m (pc + 3) ls rest)) : W p l e R s m args below meth c H locs cells slots Q (F0 m pc ls (.int (nI x) :: rest)) :=
  lv_if_le hexec hb hdg ht (fun h => kt (by
    rcases Nat.eq_zero_or_pos x with q | q
    · exact q
    · exact absurd h (nI_nle q hx))) (fun h => kf (Nat.pos_of_ne_zero (fun q => h (by rw [q]; exact Int32.le_refl _))))
end
theorem up_ne {f : Nat → Int32} {k i : Nat} {x : Int32} (h : i ≠ k) : upd f k x i = f i := if_neg h
theorem up_eq {f : Nat → Int32} {k : Nat} {x : Int32} : upd f k x k = x := if_pos rfl
theorem vup_ne {α : Type} {f : Nat → α} {k i : Nat} {x : α} (h : i ≠ k) : va_up f k x i = f i := if_neg h
theorem vup_eq {α : Type} {f : Nat → α} {k : Nat} {x : α} : va_up f k x k = x := if_pos rfl
/-- the way between two places -/
def md (x y : Nat) : Nat := if x < y then y - x else x - y
theorem md_le {x y : Nat} (hx : x ≤ 9) (hy : y ≤ 9) : md x y ≤ 9 := by unfold md; split <;> omega
/-- the town: g 0 things, g 1 the smithy's place, g 2 rust; T 0 kind, T 1 place, T 2 stay, T 3 hold, T 4 harm -/
def TB (g : Nat → Nat) (T : Nat → Nat → Nat) : Prop := g 0 ≤ 6 ∧ g 1 ≤ 9 ∧ g 2 ≤ 50 ∧ ∀ x, x < g 0 → T 0 x ≤ 2 ∧ T 1 x ≤ 9 ∧ 1 ≤ T 2 x ∧ T 2 x ≤ 9 ∧ 1 ≤ T 3 x ∧ T 3 x ≤ 99 ∧ 1 ≤ T 4 x ∧ T 4 x ≤ 9
/-- the model's picture of the town -/
def MT (u : Nat → Int32) (a : Nat → Nat → Int32) (g : Nat → Nat) (T : Nat → Nat → Nat) : Prop := u 5 = nI (g 0) ∧ u 6 = nI (g 1) ∧ u 7 = nI (g 2) ∧ ∀ x, x < g 0 → a 8 x = nI (T 0 x) ∧ a 9 x = nI (T 1 x) ∧ a 10 x = nI (T 2 x) ∧ a 11 x = nI (T 3 x) ∧ a 12 x = nI (T 4 x)
theorem MT.keep {u u' : Nat → Int32} {a a' : Nat → Nat → Int32} {g : Nat → Nat} {T : Nat → Nat → Nat} (h : MT u a g T) (h5 : u' 5 = u 5) (h6 : u' 6 = u 6) (h7 : u' 7 = u 7) (h8 : a' 8 = a 8) (h9 : a' 9 = a 9) (h10 : a' 10 = a 10) (h11 : a' 11 = a 11) (h12 : a' 12 = a 12) : MT u' a' g T := by
  unfold MT; rw [h5, h6, h7, h8, h9, h10, h11, h12]; exact h
/-- how long a thing holds -/
def hd (g : Nat → Nat) (T : Nat → Nat → Nat) (x : Nat) : Nat :=
  (if T 0 x = 2 then 10 else 0) + ((if g 2 < T 3 x then T 3 x - g 2 else 1) + (if 0 < T 0 x then (if g 2 < T 3 x then T 3 x - g 2 else 1) / 2 else 0))
theorem hd_le {g : Nat → Nat} {T : Nat → Nat → Nat} (hB : TB g T) {x : Nat} (hx : x < g 0) : 1 ≤ hd g T x ∧ hd g T x ≤ 158 := by
  obtain ⟨-, -, -, h⟩ := hB
  have := h x hx
  unfold hd
  repeat' split
  all_goals omega
/-- the minute of the k-th coming of a round ro of length L -/
def ct (g : Nat → Nat) (T : Nat → Nat → Nat) (ro : Nat → Nat) (L : Nat) : Nat → Nat
  | 0 => md (g 1) (T 1 (ro 0))
  | k + 1 => ct g T ro L k + (T 2 (ro (k % L)) + md (T 1 (ro (k % L))) (T 1 (ro ((k + 1) % L))))
theorem ct_le {g : Nat → Nat} {T : Nat → Nat → Nat} {ro : Nat → Nat} {L : Nat} (hB : TB g T) (hL : 0 < L) (hro : ∀ k, k < L → ro k < g 0) : ∀ k, ct g T ro L k ≤ 9 + 18 * k
  | 0 => by
    have h1 := hB.2.2.2 (ro 0) (hro 0 hL)
    have := md_le hB.2.1 h1.2.1
    unfold ct; omega
  | k + 1 => by
    have ih := ct_le hB hL hro k
    have h1 := hB.2.2.2 (ro (k % L)) (hro _ (Nat.mod_lt _ hL))
    have h2 := hB.2.2.2 (ro ((k + 1) % L)) (hro _ (Nat.mod_lt _ hL))
    have := md_le h1.2.1 h2.2.1
    unfold ct; omega
theorem ct_lt {g : Nat → Nat} {T : Nat → Nat → Nat} {ro : Nat → Nat} {L : Nat} (hB : TB g T) (hL : 0 < L) (hro : ∀ k, k < L → ro k < g 0) (k : Nat) : ct g T ro L k + 1 ≤ ct g T ro L (k + 1) := by
  have h1 := hB.2.2.2 (ro (k % L)) (hro _ (Nat.mod_lt _ hL))
  show _ ≤ ct g T ro L k + (T 2 (ro (k % L)) + md (T 1 (ro (k % L))) (T 1 (ro ((k + 1) % L))))
  omega
theorem ct_ge {g : Nat → Nat} {T : Nat → Nat → Nat} {ro : Nat → Nat} {L : Nat} (hB : TB g T) (hL : 0 < L) (hro : ∀ k, k < L → ro k < g 0) : ∀ k, k ≤ ct g T ro L k
  | 0 => Nat.zero_le _
  | k + 1 => by have := ct_ge hB hL hro k; have := ct_lt hB hL hro k; omega
/-- till when thing x is up, ahead of the k-th coming (tg k: to which thing, cf k: when) -/
def up (cf tg : Nat → Nat) (x h y : Nat) : Nat → Nat
  | 0 => h
  | k + 1 => if tg k = x then cf k + y + h else up cf tg x h y k
/-- the falls of x below minute t, ahead of the k-th coming -/
def fl (cf tg : Nat → Nat) (x h y t : Nat) : Nat → List Nat
  | 0 => []
  | k + 1 => if tg k = x ∧ up cf tg x h y k < cf k ∧ up cf tg x h y k < t then fl cf tg x h y t k ++ [up cf tg x h y k] else fl cf tg x h y t k
theorem fl_len (cf tg : Nat → Nat) (x h y t : Nat) : ∀ k, (fl cf tg x h y t k).length ≤ k
  | 0 => Nat.le_refl _
  | k + 1 => by
    have := fl_len cf tg x h y t k
    unfold fl; split
    · rw [List.length_append, List.length_singleton]; omega
    · omega
/-- all falls of x below minute t: cN comings lie below minute 300 -/
def fa (cf tg : Nat → Nat) (x h y t cN : Nat) : List Nat := if up cf tg x h y cN < t then fl cf tg x h y t cN ++ [up cf tg x h y cN] else fl cf tg x h y t cN
theorem fa_len (cf tg : Nat → Nat) (x h y t cN : Nat) : (fa cf tg x h y t cN).length ≤ cN + 1 := by
  have := fl_len cf tg x h y t cN
  unfold fa; split
  · rw [List.length_append, List.length_singleton]; omega
  · omega
/-- a row of digits as one number -/
def dg (N k : Nat) : Nat := N / 8 ^ k % 8
def mk (f : Nat → Nat) : Nat → Nat
  | 0 => 0
  | k + 1 => mk f k + f k * 8 ^ k
theorem mk_lt (f : Nat → Nat) : ∀ L, (∀ k, k < L → f k < 8) → mk f L < 8 ^ L
  | 0, _ => Nat.lt_succ_self 0
  | k + 1, h => by
    have ih := mk_lt f k (fun i hi => h i (by omega))
    have h1 := h k (by omega)
    have h2 : f k * 8 ^ k ≤ 7 * 8 ^ k := Nat.mul_le_mul_right _ (by omega)
    unfold mk; rw [Nat.pow_succ]; omega
theorem dg_mk (f : Nat → Nat) : ∀ (L x : Nat), (∀ k, k < L → f k < 8) → x < L → dg (mk f L) x = f x
  | 0, x, _, hx => absurd hx (Nat.not_lt_zero x)
  | L + 1, x, h, hx => by
    have hl := mk_lt f L (fun i hi => h i (by omega))
    rcases Nat.lt_or_ge x L with q | q
    · have ih := dg_mk f L x (fun i hi => h i (by omega)) q
      unfold dg at ih ⊢; unfold mk
      have e : f L * 8 ^ L = 8 ^ x * (8 * (f L * 8 ^ (L - x - 1))) := by
        have : 8 ^ L = 8 ^ x * (8 * 8 ^ (L - x - 1)) := by rw [← Nat.pow_succ', ← Nat.pow_add]; congr 1; omega
        rw [this, Nat.mul_left_comm, Nat.mul_left_comm (f L)]
      rw [e, Nat.add_mul_div_left _ _ (Nat.pow_pos (by decide)), Nat.add_mul_mod_self_left, ih]
    · obtain rfl : x = L := by omega
      unfold dg; unfold mk
      rw [Nat.mul_comm, Nat.add_mul_div_left _ _ (Nat.pow_pos (by decide)), Nat.div_eq_of_lt hl, Nat.zero_add, Nat.mod_eq_of_lt (h x (by omega))]
theorem dg_lt (N k : Nat) : dg N k < 8 := Nat.mod_lt _ (by decide)
/-- the next order: the place of the last rise (and 1), the place to change with, the row behind turned -/
def fk (N : Nat) : Nat → Nat
  | 0 => 0
  | k + 1 => if dg N (k + 1) < dg N k then fk N k else k + 1
def fq (N v : Nat) : Nat → Nat
  | 0 => 0
  | q + 1 => if dg N (q + 1) < v then fq N v q else q + 1
def sw (f : Nat → Nat) (i j : Nat) : Nat → Nat := fun x => if x = j then f i else if x = i then f j else f x
def rv (f : Nat → Nat) : Nat → Nat → Nat → (Nat → Nat)
  | 0, _, _ => f
  | n + 1, i, j => if i < j then rv (sw f i j) n (i + 1) (j - 1) else f
def nxf (N L : Nat) : Nat → Nat := rv (sw (dg N) (fk N (L - 1) - 1) (fq N (dg N (fk N (L - 1) - 1)) (L - 1))) 6 (fk N (L - 1)) (L - 1)
def nx (N L : Nat) : Nat := mk (nxf N L) L
/-- bit x of a set -/
def bi (S x : Nat) : Nat := S / 2 ^ x % 2
theorem bi_lt (S x : Nat) : bi S x < 2 := Nat.mod_lt _ (by decide)
theorem bi_row : ∀ S, S < 64 → ∀ x, x < 6 → (nI S >>> (nI x &&& 31)) &&& nI 1 = nI (bi S x) := by decide +kernel
theorem all_row : ∀ n, n ≤ 6 → (nI 1 <<< (nI n &&& 31)) - nI 1 = nI (2 ^ n - 1) := by decide +kernel
/-- the first order of a set: how many, and the row -/
def ol (S : Nat) : Nat → Nat
  | 0 => 0
  | x + 1 => if bi S x = 1 then ol S x + 1 else ol S x
theorem ol_le (S : Nat) : ∀ n, ol S n ≤ n
  | 0 => Nat.le_refl _
  | n + 1 => by have := ol_le S n; unfold ol; split <;> omega
def of1 (S : Nat) : Nat → (Nat → Nat)
  | 0 => fun _ => 0
  | x + 1 => if bi S x = 1 then (fun k => if k = ol S x then x else of1 S x k) else of1 S x
/-- how many things a set has -/
def sz6 (S : Nat) : Nat := bi S 0 + bi S 1 + bi S 2 + bi S 3 + bi S 4 + bi S 5
