/-! RECORDS AND EXCHANGES, as the reference finds them -/
theorem w08 : (wrd 8).length = 7 ∧ (wrd 0).length = 6 ∧ (∀ j, j < 6 → (wrd 8).getD j 0 = (wrd 0).getD j 0) ∧ (wrd 8).getD 6 0 = 32 := by decide
theorem recP_iff {v : List Int} : recP v ↔ (isP2 v (wrd 0) 0 v.length ∨ hasS v (wrd 8) 0 v.length = true) := by
  obtain ⟨w1, w2, w3, w4⟩ := w08
  constructor
  · rintro ⟨h1, h2⟩
    have h3 := of_decide_eq_true h1
    rw [w2] at h3 h2
    by_cases h4 : (v.length : Int) = 6
    · exact Or.inl ⟨by rw [w2]; omega, fun j hj => h3.2 j (by rw [w2] at hj; exact hj)⟩
    · refine Or.inr (decide_eq_true ⟨by rw [w1]; omega, fun j hj => ?_⟩)
      rw [w1] at hj
      by_cases hj6 : j < 6
      · rw [w3 j hj6]
        exact h3.2 j hj6
      · have : j = 6 := by omega
        subst this
        rw [w4]
        rcases h2 with h2 | h2
        · omega
        · rw [show (0 : Int) + ((6 : Nat) : Int) = ((6 : Nat) : Int) by omega]
          exact h2
  · rintro (h | h)
    · refine ⟨decide_eq_true ⟨by have := h.1; omega, h.2⟩, Or.inl (by have := h.1; omega)⟩
    · have h3 := of_decide_eq_true h
      rw [w1] at h3
      refine ⟨decide_eq_true ⟨by rw [w2]; omega, fun j hj => ?_⟩, Or.inr ?_⟩
      · rw [w2] at hj
        rw [← w3 j hj]
        exact h3.2 j (by omega)
      · rw [w2]
        have h4 := h3.2 6 (by omega)
        rw [w4, show (0 : Int) + ((6 : Nat) : Int) = ((6 : Nat) : Int) by omega] at h4
        exact h4
theorem isP_iff {X : List Int} {x : Ent} : isP X x = true ↔ (isD 0 X x = true ∧ (isP2 x.2.2.2 (wrd 0) 0 x.2.2.2.length ∨ hasS x.2.2.2 (wrd 8) 0 x.2.2.2.length = true)) := by
  rw [← recP_iff]
  unfold isP isD
  simp only [decide_eq_true_eq]
  constructor
  · rintro ⟨h1, h2, h3⟩
    exact ⟨⟨h1, h3⟩, h2⟩
  · rintro ⟨⟨h1, h3⟩, h2⟩
    exact ⟨h1, h2, h3⟩
/-- the answers of exchanges in the reference's numbers -/
def excM (r : Int) : Int := if r = -1 then 0 else if r = -2 then 1 else r
theorem rea_step {X : List Int} {a : Int32} {n : Int} {x : Ent} : reaP X a n x = (isD 1 X x && sbS x.2.1 a n) := by
  unfold reaP isD
  by_cases h1 : x.1 = 1 ∧ x.2.2.1 = X
  · rw [decide_eq_true h1, Bool.true_and]
    cases h2 : sbS x.2.1 a n with
    | true => exact decide_eq_true ⟨h1.1, rfl, h1.2⟩
    | false => exact decide_eq_false (fun z => by cases z.2.1)
  · rw [decide_eq_false h1, Bool.false_and]
    exact decide_eq_false (fun z => h1 ⟨z.1, z.2.2⟩)
