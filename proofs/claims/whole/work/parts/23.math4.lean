/-- how many comings lie below minute till -/
def cnf (cf : Nat → Nat) (till : Nat) : Nat → Nat
  | 0 => 0
  | k + 1 => if cf k < till then k + 1 else cnf cf till k
theorem cnf_eq {cf : Nat → Nat} {till : Nat} (hm : ∀ k, cf k + 1 ≤ cf (k + 1)) : ∀ {most cN : Nat}, cN ≤ most → (∀ k, k < cN → cf k < till) → (cN = most ∨ till ≤ cf cN) → cN = cnf cf till most
  | 0, cN, h, _, _ => by unfold cnf; omega
  | most + 1, cN, h, h1, h2 => by
    unfold cnf
    have mono : ∀ i j, i ≤ j → cf i ≤ cf j := by
      intro i j hij
      induction j with
      | zero => obtain rfl : i = 0 := by omega
                exact Nat.le_refl _
      | succ j ih =>
        rcases Nat.lt_or_ge i (j + 1) with q | q
        · have := ih (by omega); have := hm j; omega
        · obtain rfl : i = j + 1 := by omega
          exact Nat.le_refl _
    split
    · rcases h2 with q | q
      · exact q
      · rcases Nat.lt_or_ge most cN with w | w
        · omega
        · have := mono cN most w; omega
    · rcases Nat.lt_or_ge most cN with w | w
      · have := h1 most w; omega
      · exact cnf_eq hm w h1 (by
          rcases h2 with q | q
          · omega
          · exact Or.inr q)
theorem LC_cnf {g : Nat → Nat} {T : Nat → Nat → Nat} {ro : Nat → Nat} {L till most cN : Nat} (h : LC g T ro L till most cN) (hB : TB g T) (hL : 0 < L) (hro : ∀ k, k < L → ro k < g 0) : cN = cnf (ct g T ro L) till most :=
  cnf_eq (ct_lt hB hL hro) h.1 (h.2.2 hL).1 (h.2.2 hL).2
theorem LC_300 {g : Nat → Nat} {T : Nat → Nat → Nat} {ro : Nat → Nat} {L most cN : Nat} (h : LC g T ro L 300 most cN) (hB : TB g T) (hro : ∀ k, k < L → ro k < g 0) : cN ≤ 300 := by
  rcases Nat.eq_zero_or_pos L with q | q
  · have := h.2.1 q; omega
  · rcases Nat.lt_or_ge 300 cN with w | w
    · have := (h.2.2 q).1 300 w
      have := ct_ge hB q hro 300
      omega
    · exact w
theorem LC_3L {g : Nat → Nat} {T : Nat → Nat → Nat} {ro : Nat → Nat} {L cN : Nat} (h : LC g T ro L 100000 (3 * L) cN) (hB : TB g T) (hL : L ≤ 8) (hro : ∀ k, k < L → ro k < g 0) : cN = 3 * L := by
  rcases Nat.eq_zero_or_pos L with q | q
  · have := h.2.1 q; omega
  · rcases (h.2.2 q).2 with w | w
    · exact w
    · have := ct_le hB q hro cN; have := h.1; omega
/-- the harm of the things of a set, f x falls each -/
def hs (T : Nat → Nat → Nat) (f : Nat → Nat) (S : Nat) : Nat → Nat
  | 0 => 0
  | x + 1 => hs T f S x + (if bi S x = 1 then T 4 x * f x else 0)
theorem hs_congr {T : Nat → Nat → Nat} {f f' : Nat → Nat} {S : Nat} : ∀ {n : Nat}, (∀ x, x < n → bi S x = 1 → f x = f' x) → hs T f S n = hs T f' S n
  | 0, _ => rfl
  | n + 1, h => by
    unfold hs
    rw [hs_congr (fun x hx => h x (by omega))]
    split
    · rename_i q; rw [h n (by omega) q]
    · rfl
theorem hs_le {T : Nat → Nat → Nat} {f : Nat → Nat} {S : Nat} : ∀ {n : Nat}, (∀ x, x < n → T 4 x ≤ 9 ∧ f x ≤ 301) → hs T f S n ≤ 2709 * n
  | 0, _ => Nat.zero_le _
  | n + 1, h => by
    have ih := hs_le (T := T) (f := f) (S := S) (n := n) (fun x hx => h x (by omega))
    have h1 := h n (by omega)
    have : T 4 n * f n ≤ 9 * 301 := Nat.mul_le_mul h1.1 h1.2
    unfold hs; split <;> omega
/-- the falls of x by the round, below minute t -/
def fs (g : Nat → Nat) (T : Nat → Nat → Nat) (ro : Nat → Nat) (L t x : Nat) : List Nat := fa (ct g T ro L) (fun k => ro (k % L)) x (hd g T x) (T 2 x) t (cnf (ct g T ro L) 300 400)
/-- the harm of the things of S by the round below minute t -/
def hv (g : Nat → Nat) (T : Nat → Nat → Nat) (ro : Nat → Nat) (L S t : Nat) : Nat := hs T (fun x => (fs g T ro L t x).length) S (g 0)
theorem fs_len {g : Nat → Nat} {T : Nat → Nat → Nat} {ro : Nat → Nat} {L t x : Nat} (hB : TB g T) (hL : 0 < L) (hro : ∀ k, k < L → ro k < g 0) : (fs g T ro L t x).length ≤ 301 := by
  have h1 := fa_len (ct g T ro L) (fun k => ro (k % L)) x (hd g T x) (T 2 x) t (cnf (ct g T ro L) 300 400)
  have h2 : cnf (ct g T ro L) 300 400 ≤ 300 := by
    have key : ∀ n, cnf (ct g T ro L) 300 n ≤ 300 := by
      intro n
      induction n with
      | zero => exact Nat.zero_le _
      | succ n ih =>
        unfold cnf; split
        · have := ct_ge hB hL hro n; omega
        · exact ih
    exact key 400
  unfold fs; omega
/-- whether none of the things of S ever falls by the round -/
def sf (g : Nat → Nat) (T : Nat → Nat → Nat) (ro : Nat → Nat) (L S : Nat) : Prop := ∀ x, x < g 0 → bi S x = 1 → (∃ k, k < 3 * L ∧ ro (k % L) = x) ∧ ∀ k, k < 3 * L → ro (k % L) = x → ct g T ro L k ≤ up (ct g T ro L) (fun k => ro (k % L)) x (hd g T x) (T 2 x) k
/-- till when x is up, as far as comings till a minute tell -/
def ua (cf tg : Nat → Nat) (x h y w : Nat) : Nat → Nat
  | 0 => h
  | k + 1 => if tg k = x ∧ cf k ≤ w then cf k + y + h else ua cf tg x h y w k
theorem ua_yes {cf tg : Nat → Nat} {x h y w k : Nat} (e : tg k = x ∧ cf k ≤ w) : ua cf tg x h y w (k + 1) = cf k + y + h := by rw [ua, if_pos e]
theorem ua_no {cf tg : Nat → Nat} {x h y w k : Nat} (e : ¬ (tg k = x ∧ cf k ≤ w)) : ua cf tg x h y w (k + 1) = ua cf tg x h y w k := by rw [ua, if_neg e]
theorem ua_le {cf tg : Nat → Nat} {x h y w M : Nat} {n : Nat} (hc : ∀ k, k < n → cf k ≤ M) : ∀ k, k ≤ n → ua cf tg x h y w k ≤ M + y + h
  | 0, _ => by unfold ua; omega
  | k + 1, hk => by
    have ih := ua_le (tg := tg) (x := x) (h := h) (y := y) (w := w) hc k (by omega)
    have := hc k (by omega)
    unfold ua; split <;> omega
