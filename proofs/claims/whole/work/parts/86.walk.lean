/-! WORDS, from one to the next as the reference goes -/
theorem nbS_P (xs : List Int) : ∀ (N : Nat) (k : Int), (xs.length - k).toNat < N → (∀ j, k ≤ j ∧ j < nbS xs k → atS xs j = 32) ∧ (nbS xs k < xs.length → ¬ atS xs (nbS xs k) = 32) := by
  intro N
  induction N with
  | zero => intro k h; omega
  | succ N ih =>
    intro k h
    rw [nbS]
    split
    · split
      · next h1 h2 =>
        obtain ⟨g1, g2⟩ := ih (k + 1) (by omega)
        refine ⟨fun j hj => ?_, g2⟩
        by_cases hjk : j = k
        · rw [hjk]; exact h2
        · exact g1 j (by omega)
      · next h1 h2 => exact ⟨fun j hj => by omega, fun _ => h2⟩
    · exact ⟨fun j hj => by omega, fun z => by omega⟩
theorem rtL_over {xs : List Int} {rd : Option (Int × Int)} {e : Int} (he : e ≤ xs.length) : ∀ (N : Nat) (q : Int), (e - q).toNat < N → q ≤ e → (∀ j, q ≤ j ∧ j < e → ¬ begP xs j) → rtL xs q rd = rtL xs e rd := by
  intro N
  induction N with
  | zero => intro q h; omega
  | succ N ih =>
    intro q h hq hn
    by_cases h1 : q = e
    · rw [h1]
    · rw [rtL, dif_pos (by omega), if_neg (hn q (by omega))]
      exact ih (q + 1) (by omega) (by omega) (fun j hj => hn j (by omega))
theorem fmL_over {mt : Tm → Int → Int → Rs} {xs : List Int} {cn vo e : Int} (he : e ≤ xs.length) : ∀ (N : Nat) (q : Int), (e - q).toNat < N → q ≤ e → (∀ j, q ≤ j ∧ j < e → ¬ begP xs j) → fmL mt xs q cn vo = fmL mt xs e cn vo := by
  intro N
  induction N with
  | zero => intro q h; omega
  | succ N ih =>
    intro q h hq hn
    by_cases h1 : q = e
    · rw [h1]
    · rw [fmL, dif_pos (by omega), if_neg (hn q (by omega))]
      exact ih (q + 1) (by omega) (by omega) (fun j hj => hn j (by omega))
/-- behind a blank, up to the next word -/
theorem nb_none {xs : List Int} {q : Int} : ∀ j, q ≤ j ∧ j < nbS xs q → ¬ begP xs j := fun j hj z => z.1 ((nbS_P xs _ q (Nat.lt_succ_self _)).1 j hj)
theorem nb_beg {xs : List Int} {q : Int} (h : atS xs (q - 1) = 32 ∨ atS xs q = 32) (hl : nbS xs q < xs.length) : begP xs (nbS xs q) := by
  have g := nbS_P xs _ q (Nat.lt_succ_self _)
  have r := nbS_rng xs _ q (Nat.lt_succ_self _)
  refine ⟨g.2 hl, ?_⟩
  by_cases h1 : nbS xs q = q
  · rcases h with h | h
    · rw [h1]; exact h
    · exact absurd h (by have := g.2 hl; rw [h1] at this; exact this)
  · exact g.1 (nbS xs q - 1) (by omega)
/-- from behind a word's beginning to the next word's -/
theorem nx_none {xs : List Int} {k : Int} (hk : k < xs.length) : (∀ j, k + 1 ≤ j ∧ j < nbS xs (findS xs 32 k xs.length) → ¬ begP xs j) ∧ (¬ atS xs k = 32 → k + 1 ≤ nbS xs (findS xs 32 k xs.length)) ∧ nbS xs (findS xs 32 k xs.length) ≤ xs.length := by
  have r := findS_rng xs 32 k xs.length
  have r2 := nbS_rng xs _ (findS xs 32 k xs.length) (Nat.lt_succ_self _)
  refine ⟨fun j hj z => ?_, fun h => ?_, r2.2 (by omega)⟩
  · by_cases h1 : j ≤ findS xs 32 k xs.length
    · by_cases h2 : j = findS xs 32 k xs.length
      · exact nb_none (xs := xs) (q := findS xs 32 k xs.length) j (by omega) z
      · exact findS_before xs 32 xs.length _ k (Nat.lt_succ_self _) (j - 1) (by omega) (by omega) z.2
    · exact nb_none (xs := xs) (q := findS xs 32 k xs.length) j (by omega) z
  · by_cases h1 : findS xs 32 k xs.length = k
    · have := findS_at xs 32 xs.length _ k (Nat.lt_succ_self _) (by omega)
      rw [h1] at this
      exact absurd this h
    · omega
theorem nx_beg {xs : List Int} {k : Int} (hk : k < xs.length) (hl : nbS xs (findS xs 32 k xs.length) < xs.length) : begP xs (nbS xs (findS xs 32 k xs.length)) := by
  have r := findS_rng xs 32 k xs.length
  have r2 := nbS_rng xs _ (findS xs 32 k xs.length) (Nat.lt_succ_self _)
  exact nb_beg (Or.inr (findS_at xs 32 xs.length _ k (Nat.lt_succ_self _) (by omega))) hl
theorem rtL_next {xs : List Int} {k : Int} {rd : Option (Int × Int)} (hk : k < xs.length) (h : ¬ atS xs k = 32) : rtL xs (k + 1) rd = rtL xs (nbS xs (findS xs 32 k xs.length)) rd :=
  rtL_over (nx_none hk).2.2 _ (k + 1) (Nat.lt_succ_self _) ((nx_none hk).2.1 h) (nx_none hk).1
theorem fmL_next {mt : Tm → Int → Int → Rs} {xs : List Int} {k cn vo : Int} (hk : k < xs.length) (h : ¬ atS xs k = 32) : fmL mt xs (k + 1) cn vo = fmL mt xs (nbS xs (findS xs 32 k xs.length)) cn vo :=
  fmL_over (nx_none hk).2.2 _ (k + 1) (Nat.lt_succ_self _) ((nx_none hk).2.1 h) (nx_none hk).1
theorem rtL_first {xs : List Int} {q : Int} {rd : Option (Int × Int)} (hq : q ≤ xs.length) : rtL xs q rd = rtL xs (nbS xs q) rd :=
  rtL_over ((nbS_rng xs _ q (Nat.lt_succ_self _)).2 hq) _ q (Nat.lt_succ_self _) (nbS_rng xs _ q (Nat.lt_succ_self _)).1 nb_none
theorem fmL_first {mt : Tm → Int → Int → Rs} {xs : List Int} {q cn vo : Int} (hq : q ≤ xs.length) : fmL mt xs q cn vo = fmL mt xs (nbS xs q) cn vo :=
  fmL_over ((nbS_rng xs _ q (Nat.lt_succ_self _)).2 hq) _ q (Nat.lt_succ_self _) (nbS_rng xs _ q (Nat.lt_succ_self _)).1 nb_none
