/-! HOW LONG what a macro stands for can be -/
theorem stL_inc (xs : List Int) : ∀ (N : Nat) (k : Int), (xs.length + 1 - k).toNat < N → ∀ j : Nat, j < (stL xs k).length → (k :: stL xs k).getD j 0 + 1 ≤ (stL xs k).getD j 0 := by
  intro N
  induction N with
  | zero => intro k h; omega
  | succ N ih =>
    intro k h j hj
    by_cases hk : k ≤ xs.length
    · have h1 := ih (k + 1) (by omega)
      by_cases c : k = xs.length ∨ atS xs k = 46
      · rw [stL_yes hk c] at hj ⊢
        cases j with
        | zero => exact Int.le_refl _
        | succ j =>
          have := h1 j (by rw [List.length_cons] at hj; omega)
          rw [List.getD_cons_succ, List.getD_cons_succ]
          exact this
      · rw [stL_no hk c] at hj ⊢
        have := h1 j hj
        cases j with
        | zero =>
          rw [List.getD_cons_zero] at this ⊢
          omega
        | succ j =>
          rw [List.getD_cons_succ] at this ⊢
          exact this
    · rw [stL_end hk] at hj
      exact absurd hj (Nat.not_lt_zero _)
theorem stG_inc {xs : List Int} {p : Int} (h : 0 ≤ p ∧ p < (stL xs 0).length) : stG xs p + 1 ≤ stG xs (p + 1) := by
  have h1 := stL_inc xs _ 0 (Nat.lt_succ_self _) p.toNat (by omega)
  unfold stG
  have e : (p + 1).toNat = p.toNat + 1 := by omega
  rw [e, List.getD_cons_succ]
  exact h1
theorem partS_len {xs : List Int} {p : Int} (h : 0 ≤ p ∧ p < (stL xs 0).length) : ((partS xs p).length : Int) ≤ stG xs (p + 1) - 1 - stG xs p := by
  have h1 := stG_inc h
  have e2 : (stL xs 0).getD p.toNat 0 = stG xs (p + 1) := by
    unfold stG
    have e : (p + 1).toNat = p.toNat + 1 := by omega
    rw [e, List.getD_cons_succ]
  have e3 : partS xs p = sliS xs (stG xs p) (stG xs (p + 1) - 1) := by
    unfold partS
    rw [e2]
    rfl
  rw [e3]
  unfold sliS
  rw [List.length_take]
  omega
theorem outL_len {xs : List Int} {first : Int} {tu : Bool} : ∀ (N : Nat) (k : Int), ((stL xs 0).length - k).toNat < N → 0 ≤ k ∧ first ≤ k ∧ k ≤ (stL xs 0).length →
    ((outL xs first tu k).length : Int) ≤ (if tu = true then stG xs ((stL xs 0).length - k) - stG xs 0 else stG xs (stL xs 0).length - stG xs k) - (if first < k ∨ k = (stL xs 0).length then 0 else 1) := by
  intro N
  induction N with
  | zero => intro k h; omega
  | succ N ih =>
    intro k h hk
    rw [outL]
    by_cases h1 : k < (stL xs 0).length
    · have g := ih (k + 1) (by omega) (by omega)
      rw [dif_pos h1, List.length_append, List.length_append]
      rw [if_pos (show first < k + 1 ∨ k + 1 = (stL xs 0).length by omega)] at g
      have d : (((if first < k then [46] else [] : List Int).length : Nat) : Int) = 1 - (if first < k ∨ k = (stL xs 0).length then 0 else 1) := by
        by_cases hf : first < k
        · rw [if_pos hf, if_pos (Or.inl hf)]
          rfl
        · rw [if_neg hf, if_neg (by omega)]
          rfl
      cases tu with
      | true =>
        rw [if_pos rfl] at g ⊢
        rw [if_pos rfl]
        have p := partS_len (xs := xs) (p := (stL xs 0).length - 1 - k) (by omega)
        have e1 : ((stL xs 0).length : Int) - 1 - k + 1 = (stL xs 0).length - k := by omega
        have e2 : ((stL xs 0).length : Int) - (k + 1) = (stL xs 0).length - 1 - k := by omega
        rw [e1] at p
        rw [e2] at g
        omega
      | false =>
        rw [if_neg Bool.false_ne_true] at g ⊢
        rw [if_neg Bool.false_ne_true]
        have p := partS_len (xs := xs) (p := k) (by omega)
        omega
    · have e : k = (stL xs 0).length := by omega
      rw [dif_neg h1, if_pos (Or.inr e)]
      cases tu with
      | true =>
        rw [if_pos rfl, e]
        have e1 : ((stL xs 0).length : Int) - (stL xs 0).length = 0 := by omega
        rw [e1, List.length_nil]
        omega
      | false =>
        rw [if_neg Bool.false_ne_true, e, List.length_nil]
        omega
theorem outS_len (xs : List Int) (most : Int) (tu : Bool) (hm : 0 ≤ most) : ((outS xs most tu).length : Int) ≤ xs.length := by
  unfold outS
  have h0 := stL_pos (xs := xs) (k := 0) (by omega)
  have g := outL_len (xs := xs) (first := max 0 ((stL xs 0).length - most)) (tu := tu) _ (max 0 ((stL xs 0).length - most)) (Nat.lt_succ_self _) (by omega)
  by_cases h1 : max 0 (((stL xs 0).length : Int) - most) = (stL xs 0).length
  · rw [h1] at g ⊢
    rw [outL, dif_neg (by omega), List.length_nil]
    omega
  · rw [if_neg (show ¬ (max 0 (((stL xs 0).length : Int) - most) < max 0 (((stL xs 0).length : Int) - most) ∨ max 0 (((stL xs 0).length : Int) - most) = (stL xs 0).length) by omega)] at g
    have r0 := stG_rng xs 0
    have r1 := stG_rng xs ((stL xs 0).length - max 0 ((stL xs 0).length - most))
    have r2 := stG_rng xs (stL xs 0).length
    have r3 := stG_rng xs (max 0 ((stL xs 0).length - most))
    cases tu with
    | true => rw [if_pos rfl] at g; omega
    | false => rw [if_neg Bool.false_ne_true] at g; omega
theorem mlenS_4 {xs : List Int} {q to : Int} (h : ¬ mlenS xs q to = 0) (h2 : ¬ mlenS xs q to = 2) : 4 ≤ mlenS xs q to := by
  revert h h2
  unfold mlenS
  dsimp only
  repeat' split
  all_goals omega
theorem expL_len {s : Snd} {chk xs : List Int} {to : Int} (hs : ∀ c, (srcS s chk c).length ≤ 91) : ∀ (N : Nat) (k : Int), (to - k).toNat < N → 4 * ((expL s chk xs to k).length : Int) ≤ 91 * max 0 (to - k) := by
  intro N
  induction N with
  | zero => intro k h; omega
  | succ N ih =>
    intro k h
    rw [expL]
    by_cases h1 : k < to
    · rw [dif_pos h1]
      by_cases h2 : atS xs k = 37 ∧ ¬ mlenS xs k to = 0
      · rw [dif_pos h2, List.length_append]
        have h9 := mlenS_rng xs k to
        have g := ih (k + mlenS xs k to) (by omega)
        by_cases h3 : mlenS xs k to = 2
        · rw [if_pos h3]
          have : (signS (atS xs (k + 1))).length ≤ 3 := by
            unfold signS
            split
            · decide
            · split <;> decide
          omega
        · rw [if_neg h3]
          have h4 := mlenS_4 h2.2 h3
          have g2 : ((macS s chk xs k (mlenS xs k to)).length : Int) ≤ (srcS s chk (atS xs (k + 2))).length := by
            unfold macS
            refine outS_len _ _ _ ?_
            by_cases hp : pnP (atS xs (k + 3))
            · rw [if_pos hp]
              have := hp.1
              omega
            · rw [if_neg hp]
              omega
          have g3 := hs (atS xs (k + 2))
          omega
      · rw [dif_neg h2, List.length_append]
        have g := ih (k + 1) (by omega)
        rw [List.length_singleton]
        omega
    · rw [dif_neg h1, List.length_nil]
      omega
