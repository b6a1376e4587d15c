/-! WORDS OF A POLICY: what a term that was read is like; all of them read -/
theorem targ_lt {xs : List Int} {q stop : Int} (h : targS xs q stop = true) : q < stop := by
  unfold targS at h
  exact of_decide_eq_true (Bool.and_eq_true_iff.mp h).2
theorem bitsL_rng (xs : List Int) (stop : Int) : ∀ (N : Nat) (k v w : Int), (stop - k).toNat < N → 0 ≤ v → bitsL xs stop k v = some w → 0 ≤ w ∧ w ≤ 32 := by
  intro N
  induction N with
  | zero => intro k v w h; omega
  | succ N ih =>
    intro k v w h hv hb
    rw [bitsL] at hb
    split at hb
    · split at hb
      · exact ih (k + 1) _ w (by omega) (by omega) hb
      · cases hb
    · split at hb
      · have := Option.some.inj hb
        omega
      · cases hb
theorem bitsS_rng {xs : List Int} {q stop w : Int} (h : bitsS xs q stop = some w) : 0 ≤ w ∧ w ≤ 32 := by
  unfold bitsS at h
  split at h
  · cases h
  · exact bitsL_rng xs stop _ q 0 w (Nat.lt_succ_self _) (by omega) h
/-- what holds of a term -/
def tmP (xs : List Int) (start : Int) (tm : Tm) : Prop := (0 ≤ tm.1 ∧ tm.1 ≤ 7) ∧ (0 ≤ tm.2.1 ∧ tm.2.1 ≤ 32) ∧ (∀ d, tm.2.2.2 = some d → start ≤ d.1 ∧ d.1 < d.2 ∧ d.2 ≤ xs.length ∧ targS xs d.1 d.2 = true) ∧ (tm.1 = 1 ∨ tm.1 = 5 ∨ tm.1 = 6 → ∃ d, tm.2.2.2 = some d)
theorem or_some {α : Type} {x y : Option α} {v : α} (h : x.or y = some v) : x = some v ∨ y = some v := by
  cases x with
  | none => exact Or.inr (by rw [Option.none_or] at h; exact h)
  | some a => exact Or.inl (by rw [Option.some_or] at h; exact h)
theorem altT_P {xs : List Int} {start q stop d kind : Int} {i : Nat} {tm : Tm} (h : altT xs i kind q stop d = some tm) (hq : start ≤ q + d) (hs : stop ≤ xs.length) (hk : 0 ≤ kind ∧ kind ≤ 7) : tmP xs start tm := by
  unfold altT targT at h
  split at h
  · split at h
    · next h2 =>
      have e := (Option.some.inj h).symm
      subst e
      exact ⟨hk, by show (0 : Int) ≤ 32 ∧ (32 : Int) ≤ 32; omega, (fun d hd => by cases hd; exact ⟨hq, targ_lt h2, hs, h2⟩), fun _ => ⟨_, rfl⟩⟩
    · cases h
  · cases h
theorem hostS_P {xs : List Int} {start q stop kind : Int} {tm : Tm} (h : hostS xs kind q stop = some tm) (hq : start ≤ q + 1) (hs : stop ≤ xs.length) (hqs : q ≤ stop) (hk : kind = 2 ∨ kind = 3) : tmP xs start tm := by
  unfold hostS at h
  by_cases h1 : q < findS xs 47 q stop ∧ ¬ (atS xs q = 58 ∧ targS xs (q + 1) (findS xs 47 q stop) = true)
  · rw [if_pos h1] at h
    cases h
  · rw [if_neg h1] at h
    have hf := findS_rng xs 47 q stop
    split at h
    · cases h
    · next w hw =>
      have e := (Option.some.inj h).symm
      subst e
      refine ⟨by show 0 ≤ kind ∧ kind ≤ 7; omega, ?_, (fun d hd => ?_), fun z => absurd z (by show ¬ (kind = 1 ∨ kind = 5 ∨ kind = 6); omega)⟩
      · show 0 ≤ w ∧ w ≤ 32
        split at hw
        · have := Option.some.inj hw
          omega
        · exact bitsS_rng hw
      · replace hd : (if q < findS xs 47 q stop then some (q + 1, findS xs 47 q stop) else none) = some d := hd
        split at hd
        · next h2 =>
          cases hd
          have h3 : atS xs q = 58 ∧ targS xs (q + 1) (findS xs 47 q stop) = true := Decidable.byContradiction (fun z => h1 ⟨h2, z⟩)
          exact ⟨hq, targ_lt h3.2, by show findS xs 47 q stop ≤ _; omega, h3.2⟩
        · cases hd
theorem ip4S_P {xs : List Int} {start q stop : Int} {tm : Tm} (h : ip4S xs q stop = some tm) : tmP xs start tm := by
  unfold ip4S at h
  split at h
  · next n w hn hw =>
    have e := (Option.some.inj h).symm
    subst e
    refine ⟨by show (0 : Int) ≤ 4 ∧ (4 : Int) ≤ 7; omega, ?_, (fun d hd => by cases hd), fun z => absurd z (by show ¬ ((4 : Int) = 1 ∨ (4 : Int) = 5 ∨ (4 : Int) = 6); omega)⟩
    show 0 ≤ w ∧ w ≤ 32
    split at hw
    · have := Option.some.inj hw
      omega
    · exact bitsS_rng hw
  · cases h
theorem rs0_P {xs : List Int} {start q stop : Int} {sg : Bool} {tm : Tm} (h : rs0 xs q stop sg = some tm) (hq : start ≤ q) (hs : stop ≤ xs.length) : tmP xs start tm := by
  have z0 : tmP xs start (0, 32, 0, none) := ⟨by show (0 : Int) ≤ 0 ∧ (0 : Int) ≤ 7; omega, by show (0 : Int) ≤ 32 ∧ (32 : Int) ≤ 32; omega, (fun d hd => by cases hd), fun z => absurd z (by show ¬ ((0 : Int) = 1 ∨ (0 : Int) = 5 ∨ (0 : Int) = 6); omega)⟩
  have z7 : tmP xs start (7, 32, 0, none) := ⟨by show (0 : Int) ≤ 7 ∧ (7 : Int) ≤ 7; omega, by show (0 : Int) ≤ 32 ∧ (32 : Int) ≤ 32; omega, (fun d hd => by cases hd), fun z => absurd z (by show ¬ ((7 : Int) = 1 ∨ (7 : Int) = 5 ∨ (7 : Int) = 6); omega)⟩
  rcases or_some h with h | h
  · unfold altAll at h
    split at h
    · cases h; exact z0
    · cases h
  rcases or_some h with h | h
  · exact altT_P h (by omega) hs (by omega)
  rcases or_some h with h | h
  · unfold altH at h
    split at h
    · next h2 =>
      have hl := (of_decide_eq_true h2).1
      exact hostS_P h (by omega) hs (by rw [show (wrd 3).length = 1 by decide] at hl; omega) (by omega)
    · cases h
  rcases or_some h with h | h
  · unfold altH at h
    split at h
    · next h2 =>
      have hl := (of_decide_eq_true h2).1
      exact hostS_P h (by omega) hs (by rw [show (wrd 4).length = 2 by decide] at hl; omega) (by omega)
    · cases h
  rcases or_some h with h | h
  · unfold altI at h
    split at h
    · exact ip4S_P h
    · cases h
  rcases or_some h with h | h
  · exact altT_P h (by omega) hs (by omega)
  rcases or_some h with h | h
  · split at h
    · cases h
    · exact altT_P h (by omega) hs (by omega)
  · unfold rs7 at h
    split at h
    · cases h
    · have e := altO_is h
      subst e
      exact z7
theorem readS_P {xs : List Int} {start : Int} {tm : Tm} (h : readS xs start = some tm) : tmP xs start tm := by
  unfold readS at h
  have hf := findS_rng xs 32 start xs.length
  exact rs0_P h (by split <;> omega) (by omega)
abbrev begP (xs : List Int) (q : Int) : Prop := ¬ atS xs q = 32 ∧ atS xs (q - 1) = 32
/-- all terms read: none if one is none, or if a second redirect comes; else the redirect's D -/
def rtL (xs : List Int) (q : Int) (rd : Option (Int × Int)) : Option (Option (Int × Int)) :=
  if h : q < xs.length then
    (if begP xs q then
      (match readS xs q with
      | none => none
      | some tm => if tm.1 = 6 then (if rd.isSome = true then none else rtL xs (q + 1) tm.2.2.2) else rtL xs (q + 1) rd)
    else rtL xs (q + 1) rd)
  else some rd
termination_by (xs.length - q).toNat
decreasing_by all_goals omega
theorem rtL_skip {xs : List Int} {q : Int} {rd : Option (Int × Int)} (h : q < xs.length) (h1 : ¬ begP xs q) : rtL xs q rd = rtL xs (q + 1) rd := by
  rw [rtL, dif_pos h, if_neg h1]
theorem rtL_bad {xs : List Int} {q : Int} {rd : Option (Int × Int)} (h : q < xs.length) (h1 : begP xs q) (h2 : readS xs q = none) : rtL xs q rd = none := by
  rw [rtL, dif_pos h, if_pos h1, h2]
theorem rtL_term {xs : List Int} {q : Int} {rd : Option (Int × Int)} {tm : Tm} (h : q < xs.length) (h1 : begP xs q) (h2 : readS xs q = some tm) : rtL xs q rd = if tm.1 = 6 then (if rd.isSome = true then none else rtL xs (q + 1) tm.2.2.2) else rtL xs (q + 1) rd := by
  rw [rtL, dif_pos h, if_pos h1, h2]
theorem rtL_end {xs : List Int} {q : Int} {rd : Option (Int × Int)} (h : ¬ q < xs.length) : rtL xs q rd = some rd := by
  rw [rtL, dif_neg h]
/-- the redirect as a level keeps it -/
def rdP (xs : List Int) (rd : Option (Int × Int)) (f o : Int) : Prop := (rd = none → f = 0 ∧ o = 0) ∧ ∀ d, rd = some d → f = d.1 ∧ o = d.2 ∧ 0 ≤ f ∧ f < o ∧ o ≤ xs.length ∧ targS xs d.1 d.2 = true
theorem rdP_0 (xs : List Int) : rdP xs none 0 0 := ⟨fun _ => ⟨rfl, rfl⟩, fun d hd => by cases hd⟩
theorem rdP_rng {xs : List Int} {rd : Option (Int × Int)} {f o : Int} (h : rdP xs rd f o) : 0 ≤ f ∧ 0 ≤ o ∧ f ≤ xs.length ∧ o ≤ xs.length ∧ (rd.isSome = true ↔ 0 < o) := by
  cases rd with
  | none =>
    have := h.1 rfl
    simp
    omega
  | some d =>
    have := h.2 d rfl
    simp
    omega
