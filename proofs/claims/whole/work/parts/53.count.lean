/-! THE CHECK COUNTS: bounds; levels -/
abbrev okC (cn vo : Int) : Prop := 0 ≤ cn ∧ cn ≤ 10 ∧ 0 ≤ vo ∧ vo ≤ 2
def cvP (r : Rs) : Prop := (-2 ≤ r.1 ∧ r.1 ≤ 6) ∧ (0 ≤ r.2.1 ∧ r.2.1 ≤ 11) ∧ (0 ≤ r.2.2 ∧ r.2.2 ≤ 3) ∧ (r.1 = 6 ∨ (r.2.1 ≤ 10 ∧ r.2.2 ≤ 2))
theorem cv_mk {a b c : Int} (h : (-2 ≤ a ∧ a ≤ 6) ∧ (0 ≤ b ∧ b ≤ 11) ∧ (0 ≤ c ∧ c ≤ 3) ∧ (a = 6 ∨ (b ≤ 10 ∧ c ≤ 2))) : cvP (a, b, c) := h
theorem excL_rng (es : List Ent) (T : List Int) (a : Int32) (n : Int) : ∀ l : List Ent, -2 ≤ excL es T a n l ∧ excL es T a n l ≤ 5 := by
  intro l
  induction l with
  | nil => unfold excL; omega
  | cons x l ih =>
    unfold excL
    repeat' split
    all_goals omega
theorem lookS_cv {es : List Ent} {sd : Snd} {X txt : List Int} {tm : Tm} {cn vo : Int} (h : okC cn vo) : cvP (lookS es sd X txt tm cn vo) := by
  have key : ¬ 10 < cn + 1 → ∀ T : List Int, cvP (if hasD es 3 T = true then (5, cn + 1, vo) else
      if hasD es (if tm.1 = 3 then 2 else 1) T = false then (if 2 < vo + 1 then 6 else -1, cn + 1, vo + 1) else
      if tm.1 = 3 then (excL es T sd.2.2 tm.2.1 es, cn + 1, vo) else
      (if tm.1 = 5 ∨ reaD es T sd.2.2 tm.2.1 = true then -2 else -1, cn + 1, vo)) := by
    intro h1 T
    by_cases h2 : hasD es 3 T = true
    · rw [if_pos h2]
      exact cv_mk (by omega)
    · rw [if_neg h2]
      by_cases h3 : hasD es (if tm.1 = 3 then 2 else 1) T = false
      · rw [if_pos h3]
        by_cases h4 : 2 < vo + 1
        · rw [if_pos h4]
          exact cv_mk (by omega)
        · rw [if_neg h4]
          exact cv_mk (by omega)
      · rw [if_neg h3]
        by_cases h5 : tm.1 = 3
        · rw [if_pos h5]
          have := excL_rng es T sd.2.2 tm.2.1 es
          exact cv_mk (by omega)
        · rw [if_neg h5]
          by_cases h6 : tm.1 = 5 ∨ reaD es T sd.2.2 tm.2.1 = true
          · rw [if_pos h6]
            exact cv_mk (by omega)
          · rw [if_neg h6]
            exact cv_mk (by omega)
  unfold lookS
  by_cases h1 : 10 < cn + 1
  · rw [if_pos h1]
    exact cv_mk (by omega)
  · rw [if_neg h1]
    exact key h1 _
theorem insS_cv {ck : List Int → Int → Int → Rs} {more : Bool} {sd : Snd} {X txt : List Int} {d : Int × Int} {cn vo : Int} (hck : ∀ (X : List Int) (cn vo : Int), okC cn vo → cvP (ck X cn vo)) (h : okC cn vo) : cvP (insS ck more sd X txt d cn vo) := by
  unfold insS
  dsimp only
  by_cases h1 : 10 < cn + 1 ∨ more = false
  · rw [if_pos h1]
    exact cv_mk (by omega)
  · rw [if_neg h1]
    have h2 : ¬ 10 < cn + 1 := fun z => h1 (Or.inl z)
    have h3 := hck (tgS sd X txt d) (cn + 1) vo (by omega)
    unfold cvP at h3 ⊢
    by_cases h4 : (ck (tgS sd X txt d) (cn + 1) vo).1 = 0
    · rw [if_pos h4]
      dsimp only
      omega
    · rw [if_neg h4]
      exact h3
theorem incS_6 {r : Int} (h : -2 ≤ r ∧ r ≤ 6) : (-2 ≤ incS r ∧ incS r ≤ 6) ∧ (incS r = 6 ↔ r = 6) := by
  unfold incS
  repeat' split
  all_goals omega
theorem matS_cv {ck : List Int → Int → Int → Rs} {more : Bool} {es : List Ent} {sd : Snd} {X txt : List Int} {tm : Tm} {cn vo : Int} (hck : ∀ (X : List Int) (cn vo : Int), okC cn vo → cvP (ck X cn vo)) (h : okC cn vo) : cvP (matS ck more es sd X txt tm cn vo) := by
  unfold matS
  dsimp only
  by_cases h1 : tm.1 = 0
  · rw [if_pos h1]
    exact cv_mk (by omega)
  · rw [if_neg h1]
    by_cases h2 : tm.1 = 4
    · rw [if_pos h2]
      split <;> exact cv_mk (by omega)
    · rw [if_neg h2]
      by_cases h3 : tm.1 = 1
      · rw [if_pos h3]
        have h4 := insS_cv (more := more) (sd := sd) (X := X) (txt := txt) (d := tm.2.2.2.getD (0, 0)) hck h
        unfold cvP at h4 ⊢
        have h5 := incS_6 h4.1
        dsimp only
        omega
      · rw [if_neg h3]
        by_cases h4 : tm.1 = 2 ∨ tm.1 = 3 ∨ tm.1 = 5
        · rw [if_pos h4]
          exact lookS_cv h
        · rw [if_neg h4]
          exact cv_mk (by omega)
theorem verS_rng (c : Int) : 1 ≤ verS c ∧ verS c ≤ 4 := by
  unfold verS
  repeat' split
  all_goals omega
theorem fmL_cv {mt : Tm → Int → Int → Rs} {txt : List Int} (hmt : ∀ (tm : Tm) (cn vo : Int), okC cn vo → cvP (mt tm cn vo)) : ∀ (N : Nat) (q cn vo : Int), (txt.length - q).toNat < N → okC cn vo → cvP (fmL mt txt q cn vo) := by
  intro N
  induction N with
  | zero => intro q cn vo h; omega
  | succ N ih =>
    intro q cn vo h ho
    rw [fmL]
    by_cases hq : q < txt.length
    · rw [dif_pos hq]
      by_cases hb : begP txt q
      · rw [if_pos hb]
        cases hr : readS txt q with
        | none => exact ih (q + 1) cn vo (by omega) ho
        | some tm =>
          dsimp only
          have h1 := hmt tm cn vo ho
          by_cases h2 : (mt tm cn vo).1 = -1
          · rw [if_pos h2]
            unfold cvP at h1
            exact ih (q + 1) _ _ (by omega) (by omega)
          · rw [if_neg h2]
            unfold cvP at h1 ⊢
            dsimp only
            have h4 := verS_rng (sgnS txt q)
            by_cases h3 : (mt tm cn vo).1 = -2
            · rw [if_pos h3]
              omega
            · rw [if_neg h3]
              exact h1
      · rw [if_neg hb]
        exact ih (q + 1) cn vo (by omega) ho
    · rw [dif_neg hq]
      exact cv_mk (by omega)
theorem chkS_cv (es : List Ent) (sd : Snd) : ∀ (n : Nat) (X : List Int) (cn vo : Int), okC cn vo → cvP (chkS es sd n X cn vo) := by
  intro n
  induction n with
  | zero => intro X cn vo h; exact cv_mk (by omega)
  | succ n ih =>
    intro X cn vo h
    unfold chkS
    by_cases h1 : hasD es 3 X = true
    · rw [if_pos h1]
      exact cv_mk (by omega)
    · rw [if_neg h1]
      split
      · exact cv_mk (by omega)
      · next x l hx =>
        by_cases h2 : ¬ l = []
        · rw [if_pos h2]
          exact cv_mk (by omega)
        · rw [if_neg h2]
          split
          · exact cv_mk (by omega)
          · next rd hrd =>
            have h3 := fmL_cv (mt := matS (chkS es sd n) (decide (0 < n)) es sd X x.2.2.2) (txt := x.2.2.2) (fun tm cn vo ho => matS_cv ih ho) _ 7 cn vo (Nat.lt_succ_self _) h
            dsimp only
            generalize fmL (matS (chkS es sd n) (decide (0 < n)) es sd X x.2.2.2) x.2.2.2 7 cn vo = r at h3 ⊢
            obtain ⟨r1, r2, r3⟩ := r
            unfold cvP at h3
            dsimp only at h3 ⊢
            by_cases h4 : ¬ r1 = -1
            · rw [if_pos h4]
              exact h3
            · rw [if_neg h4]
              split
              · exact cv_mk (by omega)
              · exact insS_cv ih (by omega)
theorem LvA_up {D : Dg} {M : Mp} {f : Nat → Option Nat} {d d2 : Nat} (h : LvA D M f d) (hd : d ≤ d2) : LvA D M f d2 := fun k h1 h2 => h k (by omega) h2
theorem LvA_cons {D : Dg} {M : Mp} {f : Nat → Option Nat} {d L : Nat} {xs : List Int} (hf : f d = some L) (hL : IsLv D M L d xs) (h : LvA D M f (d + 1)) : LvA D M f d := fun k h1 h2 => by
  by_cases hk : k = d
  · subst hk
    exact ⟨L, xs, hf, hL⟩
  · exact h k (by omega) h2
