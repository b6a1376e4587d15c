/-! The slash of an ip4 word, sought from the word's own beginning -/
theorem findS_skip {xs : List Int} {c q to : Int} (h : q < to) (h1 : ¬ atS xs q = c) : findS xs c q to = findS xs c (q + 1) to := by
  rw [findS, dif_pos h, if_neg h1]
theorem ip4_sl {xs : List Int} {q stop : Int} (h : hasS xs (wrd 5) q stop = true) : findS xs 47 q stop = findS xs 47 (q + 4) stop := by
  have hl : ((wrd 5).length : Int) = 4 := by decide
  have h0 := (of_decide_eq_true h).1
  have a0 := has_nth h 0 (c := 105) (by decide)
  have a1 := has_nth h 1 (c := 112) (by decide)
  have a2 := has_nth h 2 (c := 52) (by decide)
  have a3 := has_nth h 3 (c := 58) (by decide)
  rw [findS_skip (by omega) (fun z => by have e : q + ((0 : Nat) : Int) = q := by omega
                                         rw [e, z] at a0; exact absurd a0 (by decide))]
  rw [findS_skip (q := q + 1) (by omega) (fun z => by have e : q + ((1 : Nat) : Int) = q + 1 := by omega
                                                      rw [e, z] at a1; exact absurd a1 (by decide))]
  rw [findS_skip (q := q + 1 + 1) (by omega) (fun z => by have e : q + ((2 : Nat) : Int) = q + 1 + 1 := by omega
                                                          rw [e, z] at a2; exact absurd a2 (by decide))]
  rw [findS_skip (q := q + 1 + 1 + 1) (by omega) (fun z => by have e : q + ((3 : Nat) : Int) = q + 1 + 1 + 1 := by omega
                                                              rw [e, z] at a3; exact absurd a3 (by decide))]
  have e : q + 1 + 1 + 1 + 1 = q + 4 := by omega
  rw [e]
