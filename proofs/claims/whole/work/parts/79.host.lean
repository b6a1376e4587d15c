/-! THE REFERENCE'S HOSTS -/
theorem bits_gd (xs : List Int) (q to : Int) : -1 ≤ (bitsS xs q to).getD (-1) ∧ (bitsS xs q to).getD (-1) ≤ 32 := by
  cases h : bitsS xs q to with
  | none => simp
  | some v =>
    have := bitsS_rng h
    simp
    omega
theorem bits_neg {xs : List Int} {q to : Int} (h : ¬ 0 ≤ (bitsS xs q to).getD (-1)) : bitsS xs q to = none := by
  cases h1 : bitsS xs q to with
  | none => rfl
  | some v =>
    have := bitsS_rng h1
    rw [h1] at h
    simp at h
    omega
theorem bits_pos {xs : List Int} {q to : Int} (h : 0 ≤ (bitsS xs q to).getD (-1)) : ∃ v, bitsS xs q to = some v ∧ (bitsS xs q to).getD (-1) = v := by
  cases h1 : bitsS xs q to with
  | none => rw [h1] at h; simp at h
  | some v => exact ⟨v, rfl, rfl⟩
/-- the reference's fields behind a host -/
def hosQ (P : Option Tm) (k0 f0 k1 n1 f1 o1 : Int) : Prop := (P = none → k1 = k0) ∧ ∀ tm, P = some tm → k1 = tm.1 ∧ n1 = tm.2.1 ∧ (∀ d, tm.2.2.2 = some d → f1 = d.1 ∧ o1 = d.2) ∧ (tm.2.2.2 = none → f1 = f0)
theorem hosQ_no {P : Option Tm} {k0 f0 n1 f1 o1 : Int} (h : P = none) : hosQ P k0 f0 k0 n1 f1 o1 := ⟨fun _ => rfl, fun tm htm => by rw [h] at htm; cases htm⟩
