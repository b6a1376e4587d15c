/-! ONE WORD, as the reference reads it -/
theorem has_no {xs : List Int} {i j : Nat} {q stop : Int} (h : hasS xs (wrd i) q stop = true) (n : Nat) (c c' : Int) (h1 : n < (wrd i).length ∧ (wrd i).getD n 0 = c) (h2 : n < (wrd j).length ∧ (wrd j).getD n 0 = c') (hne : ¬ c = c') : hasS xs (wrd j) q stop = false := by
  cases hj : hasS xs (wrd j) q stop with
  | false => rfl
  | true => exact absurd ((has_nth h n h1).symm.trans (has_nth hj n h2)) hne
/-- a or mx, with a look at the sign behind it -/
def altA (xs : List Int) (i : Nat) (kind q stop d : Int) : Option Tm := if hasS xs (wrd i) q stop = true ∧ (stop = q + d ∨ atS xs (q + d) = 58 ∨ atS xs (q + d) = 47) then hostS xs kind (q + d) stop else none
theorem altA_H {xs : List Int} {i : Nat} {kind q stop d : Int} (hl : ((wrd i).length : Int) = d) (hq : 0 ≤ q ∧ stop ≤ xs.length) : altA xs i kind q stop d = altH xs i kind q stop d := by
  unfold altA altH
  cases h : hasS xs (wrd i) q stop with
  | false => rfl
  | true =>
    rw [if_pos rfl]
    by_cases h1 : stop = q + d ∨ atS xs (q + d) = 58 ∨ atS xs (q + d) = 47
    · rw [if_pos ⟨rfl, h1⟩]
    · rw [if_neg (fun z => h1 z.2)]
      have h2 := (of_decide_eq_true h).1
      have h3 : q + d < stop := by omega
      have h4 : findS xs 47 (q + d) stop = findS xs 47 (q + d + 1) stop := by
        rw [findS, dif_pos h3, if_neg (by omega)]
      have h5 := findS_rng xs 47 (q + d + 1) stop
      rw [host_f1 (by omega) (fun z => by omega)]
/-- what the reference tries before it looks at modifiers -/
def refT (xs : List Int) (q stop : Int) : Option Tm :=
  if stop - q = 3 ∧ hasS xs (wrd 1) q stop = true then some (0, 32, 0, none)
  else if hasS xs (wrd 2) q stop = true then targT xs 1 (q + 8) stop
  else if hasS xs (wrd 6) q stop = true then targT xs 5 (q + 7) stop
  else if hasS xs (wrd 5) q stop = true then ip4S xs (q + 4) stop
  else if hasS xs (wrd 3) q stop = true ∧ (stop = q + 1 ∨ atS xs (q + 1) = 58 ∨ atS xs (q + 1) = 47) then hostS xs 2 (q + 1) stop
  else if hasS xs (wrd 4) q stop = true ∧ (stop = q + 2 ∨ atS xs (q + 2) = 58 ∨ atS xs (q + 2) = 47) then hostS xs 3 (q + 2) stop
  else none
def refM (xs : List Int) (q stop : Int) (sg : Bool) : Option Tm :=
  if sg = true then none else if hasS xs (wrd 7) q stop = true then targT xs 6 (q + 9) stop else if otherS xs q stop = true then some (7, 32, 0, none) else none
theorem refM_rs6 {xs : List Int} {q stop : Int} {sg : Bool} : refM xs q stop sg = rs6 xs q stop sg := by
  unfold refM rs6 rs7 altT altO
  cases sg <;> cases hasS xs (wrd 7) q stop <;> simp
theorem ref_rs0 {xs : List Int} {q stop : Int} {sg : Bool} (hq : 0 ≤ q ∧ stop ≤ xs.length) : (refT xs q stop).or (refM xs q stop sg) = rs0 xs q stop sg := by
  rw [refM_rs6]
  unfold rs0 rs1 rs2 rs3 rs4 rs5
  rw [← altA_H (i := 3) (kind := 2) (q := q) (stop := stop) (d := 1) (by decide) hq, ← altA_H (i := 4) (kind := 3) (q := q) (stop := stop) (d := 2) (by decide) hq]
  unfold refT altAll altT altI altA
  by_cases h1 : stop - q = 3 ∧ hasS xs (wrd 1) q stop = true
  · rw [if_pos h1, if_pos h1, Option.some_or, Option.some_or]
  · rw [if_neg h1, if_neg h1, Option.none_or]
    cases h2 : hasS xs (wrd 2) q stop with
    | true =>
      have e3 := has_no (j := 3) h2 0 105 97 (by decide) (by decide) (by decide)
      have e4 := has_no (j := 4) h2 0 105 109 (by decide) (by decide) (by decide)
      have e5 := has_no (j := 5) h2 1 110 112 (by decide) (by decide) (by decide)
      have e6 := has_no (j := 6) h2 0 105 101 (by decide) (by decide) (by decide)
      simp [e3, e4, e5, e6]
    | false =>
      cases h6 : hasS xs (wrd 6) q stop with
      | true =>
        have e3 := has_no (j := 3) h6 0 101 97 (by decide) (by decide) (by decide)
        have e4 := has_no (j := 4) h6 0 101 109 (by decide) (by decide) (by decide)
        have e5 := has_no (j := 5) h6 0 101 105 (by decide) (by decide) (by decide)
        simp [e3, e4, e5]
      | false =>
        cases h5 : hasS xs (wrd 5) q stop with
        | true =>
          have e3 := has_no (j := 3) h5 0 105 97 (by decide) (by decide) (by decide)
          have e4 := has_no (j := 4) h5 0 105 109 (by decide) (by decide) (by decide)
          simp [e3, e4]
        | false =>
          cases h3 : hasS xs (wrd 3) q stop with
          | true =>
            have e4 := has_no (j := 4) h3 0 97 109 (by decide) (by decide) (by decide)
            simp [e4]
          | false => simp
