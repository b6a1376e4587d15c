/-! THE REFERENCE'S OWN WAYS -/
def nbS (xs : List Int) (k : Int) : Int := if h : k < xs.length then (if atS xs k = 32 then nbS xs (k + 1) else k) else k
termination_by (xs.length - k).toNat
decreasing_by all_goals omega
theorem nbS_rng (xs : List Int) : ∀ (N : Nat) (k : Int), (xs.length - k).toNat < N → k ≤ nbS xs k ∧ (k ≤ xs.length → nbS xs k ≤ xs.length) := by
  intro N
  induction N with
  | zero => intro k h; omega
  | succ N ih =>
    intro k h
    rw [nbS]
    split
    · split
      · have := ih (k + 1) (by omega)
        omega
      · omega
    · omega
abbrev isP2 (xs w : List Int) (fr to : Int) : Prop := to - fr = w.length ∧ ∀ j : Nat, j < w.length → atS xs (fr + j) = w.getD j 0
def putS (len : Nat) (xs : List Int) (c : Int) : List Int := if xs.length < len then xs ++ [sgb c] else xs
