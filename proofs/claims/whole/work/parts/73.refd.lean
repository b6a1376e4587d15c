/-! THE REFERENCE'S DIRECTORY -/
def IsMd (D : Dg) (M : Mp) (sa aa na va : Nat) (es : List Ent) : Prop := ∃ (g ga : Nat → Int) (fn fv : Nat → Option Nat), M sa = some (504, arI D 40 g) ∧ M aa = some (505, arI D 40 ga) ∧ M na = some (506, arR D 4 40 fn) ∧ M va = some (507, arR D 4 40 fv) ∧ es.length ≤ 40 ∧ (∀ (j : Nat) (x : Ent), es[j]? = some x → g j = x.1 ∧ zI (ga j) = x.2.1 ∧ 0 ≤ x.1 ∧ x.1 ≤ 3) ∧ ∀ j : Nat, j < 40 → ∃ (t u : Nat) (ns vs : List Int), fn j = some t ∧ fv j = some u ∧ IsT D M t (600 + 4 * j) 60 ns ∧ IsT D M u (600 + 4 * j + 2) 700 vs ∧ ∀ x : Ent, es[j]? = some x → ns = x.2.2.1 ∧ vs = x.2.2.2
theorem IsMd.fr {D : Dg} {M M' : Mp} {sa aa na va : Nat} {es : List Ent} {T : List Nat} (h : IsMd D M sa aa na va es) (hf : Fr T M M') (hn : ∀ u ∈ T, u < 504 ∨ (507 < u ∧ u < 600) ∨ 759 < u) : IsMd D M' sa aa na va es := by
  obtain ⟨g, ga, fn, fv, h1, h2, h3, h4, h5, h6, h7⟩ := h
  have k : ∀ t : Nat, (504 ≤ t ∧ t ≤ 507) ∨ (600 ≤ t ∧ t ≤ 759) → t ∉ T := fun t ht z => by
    have := hn _ z
    omega
  refine ⟨g, ga, fn, fv, hf.at h1 (k _ (by omega)), hf.at h2 (k _ (by omega)), hf.at h3 (k _ (by omega)), hf.at h4 (k _ (by omega)), h5, h6, fun j hj => ?_⟩
  obtain ⟨t, u, ns, vs, g1, g2, g3, g4, g5⟩ := h7 j hj
  exact ⟨t, u, ns, vs, g1, g2, g3.fr hf (k _ (by omega)) (k _ (by omega)), g4.fr hf (k _ (by omega)) (k _ (by omega)), g5⟩
theorem IsMd.len {D : Dg} {M : Mp} {sa aa na va : Nat} {es : List Ent} (h : IsMd D M sa aa na va es) : es.length ≤ 40 := by
  obtain ⟨g, ga, fn, fv, h1, h2, h3, h4, h5, h6⟩ := h
  exact h5
/-- as recordOf counts: none -1, more than one -2, else its place -/
def recL (X : List Int) : List Ent → Int → Int → Int
  | [], _, found => found
  | x :: l, k, found => if isP X x = true then (if 0 ≤ found then -2 else recL X l (k + 1) k) else recL X l (k + 1) found
