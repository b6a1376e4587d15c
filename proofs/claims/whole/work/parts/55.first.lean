/-! FIRST MATCH: one step each -/
theorem fmL_skip {mt : Tm → Int → Int → Rs} {txt : List Int} {q cn vo : Int} (h : q < txt.length) (h1 : ¬ begP txt q) : fmL mt txt q cn vo = fmL mt txt (q + 1) cn vo := by
  rw [fmL, dif_pos h, if_neg h1]
theorem fmL_none {mt : Tm → Int → Int → Rs} {txt : List Int} {q cn vo : Int} (h : q < txt.length) (h2 : readS txt q = none) : fmL mt txt q cn vo = fmL mt txt (q + 1) cn vo := by
  rw [fmL, dif_pos h]
  split
  · rw [h2]
  · rfl
theorem fmL_miss {mt : Tm → Int → Int → Rs} {txt : List Int} {q cn vo : Int} {tm : Tm} (h : q < txt.length) (h1 : begP txt q) (h2 : readS txt q = some tm) (h3 : (mt tm cn vo).1 = -1) : fmL mt txt q cn vo = fmL mt txt (q + 1) (mt tm cn vo).2.1 (mt tm cn vo).2.2 := by
  rw [fmL, dif_pos h, if_pos h1, h2]
  dsimp only
  rw [if_pos h3]
theorem fmL_hit {mt : Tm → Int → Int → Rs} {txt : List Int} {q cn vo : Int} {tm : Tm} (h : q < txt.length) (h1 : begP txt q) (h2 : readS txt q = some tm) (h3 : ¬ (mt tm cn vo).1 = -1) : fmL mt txt q cn vo = (if (mt tm cn vo).1 = -2 then verS (sgnS txt q) else (mt tm cn vo).1, (mt tm cn vo).2) := by
  rw [fmL, dif_pos h, if_pos h1, h2]
  dsimp only
  rw [if_neg h3]
theorem fmL_end {mt : Tm → Int → Int → Rs} {txt : List Int} {q cn vo : Int} (h : ¬ q < txt.length) : fmL mt txt q cn vo = (-1, cn, vo) := by
  rw [fmL, dif_neg h]
theorem sgnS_rng (xs : List Int) (q : Int) : -1 ≤ sgnS xs q ∧ sgnS xs q ≤ 255 := by
  unfold sgnS atS
  repeat' split
  all_goals omega
