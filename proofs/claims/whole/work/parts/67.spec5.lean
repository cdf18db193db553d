/-- the best order of a set: its harm, and the order -/
def BF (g : Nat → Nat) (T : Nat → Nat → Nat) (S t : Nat) : Nat × Nat := bo (fun n9 => hv g T (dg n9) (ol S (g 0)) S t) (ol S (g 0)) (fct (ol S (g 0)) - 1) (f1c S (g 0))
theorem bo_val {val : Nat → Nat} {L M : Nat} {S : Nat} (hv : ∀ k N, chk S L k N = true → val N ≤ M) : ∀ k N, chk S L k N = true → (bo val L k N).1 ≤ M
  | 0, N, h => hv 0 N h
  | k + 1, N, h => by
    have h1 := hv (k + 1) N h
    unfold bo cm
    split
    · rename_i q
      have : (bo val L k (nx N L)).1 < val N := q
      exact Nat.le_trans (Nat.le_of_lt this) h1
    · exact h1
theorem BF_le {g : Nat → Nat} {T : Nat → Nat → Nat} {S t : Nat} (hB : TB g T) (hSn : S < 2 ^ g 0) (ht : t ≤ 300) : (BF g T S t).1 ≤ 20000 := by
  refine bo_val (S := S) (fun k N h => ?_) _ _ (perms_ok _ hB.1 _ hSn)
  have h1 := hv_ord (t := t) hB h hSn ht
  have hrg : ∀ k, k < ol S (g 0) → dg N k < g 0 := fun k hk => bi_in hSn (chk_in h k hk)
  have h2 := sm_le (F := oH g T (dg N) (ct g T (dg N) (ol S (g 0))) (pd g T (dg N) (ol S (g 0))) t) (M := 2727) (n := ol S (g 0)) (fun x hx => oH_le hB (hrg x hx) ht)
  have h3 := ol_le S (g 0)
  have h4 := hB.1
  show hv g T (dg N) (ol S (g 0)) S t ≤ 20000
  omega
noncomputable def aBest (g : Nat → Nat) (T : Nat → Nat → Nat) (t q : Int32) : Int32 := cif (g 0 = 0) (-3) (cif (inR t 1 300) (cif ((-1) ≤ q ∧ q ≤ nI (g 0 - 1)) (cif (q = -1) (nI (BF g T (2 ^ g 0 - 1) t.toNatClampNeg).1) (nI (dg (BF g T (2 ^ g 0 - 1) t.toNatClampNeg).2 q.toNatClampNeg))) (-1)) (-2))
/-- the first place of the least of W 0 .. W n -/
def am (W : Nat → Nat) : Nat → Nat
  | 0 => 0
  | n + 1 => if W (n + 1) < W (am W n) then n + 1 else am W n
theorem am_le (W : Nat → Nat) : ∀ n, am W n ≤ n
  | 0 => Nat.le_refl _
  | n + 1 => by have := am_le W n; unfold am; split <;> omega
theorem am_yes {W : Nat → Nat} {n : Nat} (h : W (n + 1) < W (am W n)) : am W (n + 1) = n + 1 := by rw [am, if_pos h]
theorem am_no {W : Nat → Nat} {n : Nat} (h : ¬ W (n + 1) < W (am W n)) : am W (n + 1) = am W n := by rw [am, if_neg h]
def w2 (g : Nat → Nat) (T : Nat → Nat → Nat) (t s : Nat) : Nat := (BF g T s t).1 + (BF g T (2 ^ g 0 - 1 - s) t).1
noncomputable def aTwo (g : Nat → Nat) (T : Nat → Nat → Nat) (t w : Int32) : Int32 := cif (g 0 = 0) (-3) (cif (inR t 1 300 ∧ inR w 0 1) (cif (w = 0) (nI (am (w2 g T t.toNatClampNeg) (2 ^ g 0 - 1))) (nI (w2 g T t.toNatClampNeg (am (w2 g T t.toNatClampNeg) (2 ^ g 0 - 1))))) (-2))
def ws (g : Nat → Nat) (T : Nat → Nat → Nat) (t x : Nat) : Nat := (BF (gu g 1 x) T (2 ^ g 0 - 1) t).1
noncomputable def aSite (g : Nat → Nat) (T : Nat → Nat → Nat) (t w : Int32) : Int32 := cif (g 0 = 0) (-3) (cif (inR t 1 300 ∧ inR w 0 1) (cif (w = 0) (nI (am (ws g T t.toNatClampNeg) 9)) (nI (ws g T t.toNatClampNeg (am (ws g T t.toNatClampNeg) 9)))) (-2))
def CS (g : Nat → Nat) (T : Nat → Nat → Nat) (S : Nat) (p : Nat → Nat) : Nat := cq p (ol S (g 0)) (fct (ol S (g 0)) - 1) (f1c S (g 0))
noncomputable def aSafe (g : Nat → Nat) (T : Nat → Nat → Nat) : Int32 := cif (g 0 = 0) (-3) (nI (CS g T (2 ^ g 0 - 1) (pS g T (ol (2 ^ g 0 - 1) (g 0)) (2 ^ g 0 - 1))))
theorem MT_gu1 {u u' : Nat → Int32} {a a' : Nat → Nat → Int32} {g : Nat → Nat} {T : Nat → Nat → Nat} {x : Nat} (h : MT u a g T) (h5 : u' 5 = u 5) (h6 : u' 6 = nI x) (h7 : u' 7 = u 7) (a8 : a' 8 = a 8) (a9 : a' 9 = a 9) (a10 : a' 10 = a 10) (a11 : a' 11 = a 11) (a12 : a' 12 = a 12) : MT u' a' (gu g 1 x) T := by
  refine ⟨h5.trans h.1, h6, h7.trans h.2.2.1, ?_⟩
  rw [a8, a9, a10, a11, a12]; exact h.2.2.2
