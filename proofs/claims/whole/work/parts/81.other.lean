/-! OTHER WORDS, as the reference finds their end -/
abbrev wcP (xs : List Int) (q k : Int) : Prop := letP (atS xs k) ∨ (q < k ∧ (digP (atS xs k) ∨ atS xs k = 45 ∨ atS xs k = 95 ∨ atS xs k = 46))
def wdE (xs : List Int) (q to k : Int) : Int := if h : k < to then (if wcP xs q k then wdE xs q to (k + 1) else k) else k
termination_by (to - k).toNat
decreasing_by all_goals omega
theorem wdE_P (xs : List Int) (q to : Int) : ∀ (N : Nat) (k : Int), (to - k).toNat < N → k ≤ wdE xs q to k ∧ (k ≤ to → wdE xs q to k ≤ to) ∧ (∀ j, k ≤ j ∧ j < wdE xs q to k → wcP xs q j) ∧ (wdE xs q to k < to → ¬ wcP xs q (wdE xs q to k)) := by
  intro N
  induction N with
  | zero => intro k h; omega
  | succ N ih =>
    intro k h
    rw [wdE]
    split
    · split
      · next h1 h2 =>
        obtain ⟨g1, g2, g3, g4⟩ := ih (k + 1) (by omega)
        refine ⟨by omega, fun _ => g2 (by omega), fun j hj => ?_, g4⟩
        by_cases hjk : j = k
        · rw [hjk]; exact h2
        · exact g3 j (by omega)
      · next h1 h2 => exact ⟨by omega, fun _ => by omega, fun j hj => by omega, fun _ => h2⟩
    · exact ⟨by omega, fun _ => by omega, fun j hj => by omega, fun z => by omega⟩
theorem wordL_iff (xs : List Int) (m : Int) : ∀ (N : Nat) (k : Int), (m - k).toNat < N → (wordL xs m k = true ↔ ∀ j, k ≤ j ∧ j < m → nsP (atS xs j) ∨ atS xs j = 46) := by
  intro N
  induction N with
  | zero => intro k h; omega
  | succ N ih =>
    intro k h
    rw [wordL]
    split
    · split
      · next h1 h2 =>
        constructor
        · intro z; cases z
        · intro z
          have := z k (by omega)
          omega
      · next h1 h2 =>
        rw [ih (k + 1) (by omega)]
        constructor
        · intro z j hj
          by_cases hjk : j = k
          · subst hjk; omega
          · exact z j (by omega)
        · intro z j hj
          exact z j (by omega)
    · next h1 =>
      constructor
      · intro _ j hj; omega
      · intro _; rfl
theorem findS_is {xs : List Int} {c q to e : Int} (h : q ≤ e ∧ e < to) (h1 : atS xs e = c) (h2 : ∀ j, q ≤ j ∧ j < e → ¬ atS xs j = c) : findS xs c q to = e := by
  have r := findS_rng xs c q to
  by_cases h3 : findS xs c q to < e
  · exact absurd (findS_at xs c to _ q (Nat.lt_succ_self _) (by omega)) (h2 _ (by omega))
  · by_cases h4 : e < findS xs c q to
    · exact absurd h1 (findS_before xs c to _ q (Nat.lt_succ_self _) e h.1 h4)
    · omega
theorem other_ref {xs : List Int} {q to : Int} (hq : q ≤ to) : otherS xs q to = decide (q < wdE xs q to q ∧ wdE xs q to q < to ∧ atS xs (wdE xs q to q) = 61) := by
  obtain ⟨g1, g2, g3, g4⟩ := wdE_P xs q to _ q (Nat.lt_succ_self _)
  by_cases h : q < wdE xs q to q ∧ wdE xs q to q < to ∧ atS xs (wdE xs q to q) = 61
  · rw [decide_eq_true h]
    have e : findS xs 61 q to = wdE xs q to q := findS_is ⟨g1, h.2.1⟩ h.2.2 (fun j hj => by have := g3 j hj; omega)
    unfold otherS wordS
    rw [e, decide_eq_true h.2.1, Bool.true_and]
    have h0 := g3 q (by omega)
    rw [if_neg (by omega)]
    exact (wordL_iff xs _ _ q (Nat.lt_succ_self _)).mpr (fun j hj => by have := g3 j hj; omega)
  · rw [decide_eq_false h]
    apply Decidable.byContradiction
    intro z
    have z1 : otherS xs q to = true := by
      cases hz : otherS xs q to with
      | true => rfl
      | false => exact absurd hz z
    obtain ⟨z2, z3⟩ := Bool.and_eq_true_iff.mp z1
    have z4 := of_decide_eq_true z2
    have z5 := findS_at xs 61 to _ q (Nat.lt_succ_self _) z4
    have z6 := findS_rng xs 61 q to
    unfold wordS at z3
    split at z3
    · cases z3
    · next z7 =>
      have z8 := (wordL_iff xs _ _ q (Nat.lt_succ_self _)).mp z3
      apply h
      have e : wdE xs q to q = findS xs 61 q to := by
        by_cases h3 : wdE xs q to q < findS xs 61 q to
        · have y1 := g4 (by omega)
          have y2 := z8 (wdE xs q to q) (by omega)
          by_cases y3 : wdE xs q to q = q
          · rw [y3] at y1
            omega
          · omega
        · by_cases h4 : findS xs 61 q to < wdE xs q to q
          · have := g3 (findS xs 61 q to) (by omega)
            omega
          · omega
      rw [e]
      omega
