section
variable {p : Program} {l : Launch} {e : Env} {R : Room} {s : State} {m : MethodId} {args : Array Value} {below : List Frame} {meth : Method} {c : Code} {H : Heap} {locs : List Loc} {cells slots : Nat} {Q : State → Prop} {pc : Nat} {ls : Array Slot} {st : List Value}
theorem wLoop {τ : Type} (I : τ → Heap → List Loc → Array Slot → Prop) (μ : τ → Nat) (z0 : τ) (h0 : I z0 H locs ls)
    (step : ∀ (z : τ) (H : Heap) (locs : List Loc) (ls : Array Slot), I z H locs ls → (∀ (z' : τ) (H' : Heap) (locs' : List Loc) (ls' : Array Slot), μ z' < μ z → I z' H' locs' ls' → W p l e R s m args below meth c H' locs' cells slots Q (F0 m pc ls' st)) → W p l e R s m args below meth c H locs cells slots Q (F0 m pc ls st)) :
    W p l e R s m args below meth c H locs cells slots Q (F0 m pc ls st) := by
  have key : ∀ (n : Nat) (z : τ) (H : Heap) (locs : List Loc) (ls : Array Slot), μ z < n → I z H locs ls → W p l e R s m args below meth c H locs cells slots Q (F0 m pc ls st) := by
    intro n
    induction n with
    | zero => intro z H locs ls h; exact absurd h (Nat.not_lt_zero _)
    | succ n ih => intro z H locs ls h hI; exact step z H locs ls hI (fun z' H' locs' ls' h' hI' => ih z' H' locs' ls' (Nat.lt_of_lt_of_le h' (Nat.le_of_lt_succ h)) hI')
  exact key (μ z0 + 1) z0 H locs ls (Nat.lt_succ_self _) h0
/-- a place where roads meet -/
theorem wJoin {τ : Type} (I : τ → Heap → List Loc → Array Slot → Prop) (st : τ → List Value)
    (body : ∀ (z : τ) (H : Heap) (locs : List Loc) (ls : Array Slot), I z H locs ls → W p l e R s m args below meth c H locs cells slots Q (F0 m pc ls (st z)))
    {pc0 : Nat} {st0 : List Value} (k : (∀ (z : τ) (H : Heap) (locs : List Loc) (ls : Array Slot), I z H locs ls → W p l e R s m args below meth c H locs cells slots Q (F0 m pc ls (st z))) → W p l e R s m args below meth c H locs cells slots Q (F0 m pc0 ls st0)) : W p l e R s m args below meth c H locs cells slots Q (F0 m pc0 ls st0) := k body
end
theorem eO_S (t : Nat) : eS (eO t) := by
  intro A B u U H H1 h hBA hk hvm
  exact ⟨((h.1.kept hk).narrow hBA).moved hvm, ((h.2.kept hk).narrow hBA).moved hvm⟩
