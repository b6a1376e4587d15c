/-! RECORDS: the reference's place of the one record, and the class's row of them -/
theorem recL_f {X : List Int} : ∀ (l : List Ent) (k found : Int), 0 ≤ found → recL X l k found = if l.filter (isP X) = [] then found else -2 := by
  intro l
  induction l with
  | nil => intro k found h; rfl
  | cons x l ih =>
    intro k found h
    unfold recL
    by_cases h1 : isP X x = true
    · rw [if_pos h1, if_pos h, List.filter_cons_of_pos h1, if_neg (List.cons_ne_nil _ _)]
    · rw [if_neg h1, List.filter_cons_of_neg h1]
      exact ih (k + 1) found h
theorem recL_n {X : List Int} : ∀ (l : List Ent) (k : Int), 0 ≤ k → (l.filter (isP X) = [] ∧ recL X l k (-1) = -1) ∨ (∃ x y r, l.filter (isP X) = x :: y :: r ∧ recL X l k (-1) = -2) ∨ (∃ (x : Ent) (j : Nat), l.filter (isP X) = [x] ∧ recL X l k (-1) = k + j ∧ l[j]? = some x) := by
  intro l
  induction l with
  | nil => intro k h; exact Or.inl ⟨rfl, rfl⟩
  | cons x l ih =>
    intro k h
    unfold recL
    by_cases h1 : isP X x = true
    · rw [if_pos h1, if_neg (by decide), List.filter_cons_of_pos h1, recL_f l (k + 1) k h]
      cases h2 : l.filter (isP X) with
      | nil => exact Or.inr (Or.inr ⟨x, 0, rfl, by rw [if_pos rfl]; omega, rfl⟩)
      | cons y r => exact Or.inr (Or.inl ⟨x, y, r, rfl, by rw [if_neg (List.cons_ne_nil _ _)]⟩)
    · rw [if_neg h1, List.filter_cons_of_neg h1]
      rcases ih (k + 1) (by omega) with g | g | ⟨y, j, g1, g2, g3⟩
      · exact Or.inl g
      · exact Or.inr (Or.inl g)
      · exact Or.inr (Or.inr ⟨y, j + 1, g1, by rw [g2]; omega, by rw [List.getElem?_cons_succ]; exact g3⟩)
