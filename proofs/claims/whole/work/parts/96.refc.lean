/-! THE REFERENCE'S CHECK: what counts never falls; its own answers -/
def upP (cn : Int) (r : Rs) : Prop := cn ≤ r.2.1
theorem up_mk {cn a b c : Int} (h : cn ≤ b) : upP cn (a, b, c) := h
theorem lookS_up {es : List Ent} {sd : Snd} {X txt : List Int} {tm : Tm} {cn vo : Int} : upP cn (lookS es sd X txt tm cn vo) := by
  have key : ∀ T : List Int, upP cn (if hasD es 3 T = true then (5, cn + 1, vo) else
      if hasD es (if tm.1 = 3 then 2 else 1) T = false then (if 2 < vo + 1 then 6 else -1, cn + 1, vo + 1) else
      if tm.1 = 3 then (excL es T sd.2.2 tm.2.1 es, cn + 1, vo) else
      (if tm.1 = 5 ∨ reaD es T sd.2.2 tm.2.1 = true then -2 else -1, cn + 1, vo)) := by
    intro T
    by_cases h2 : hasD es 3 T = true
    · rw [if_pos h2]
      exact up_mk (by omega)
    · rw [if_neg h2]
      by_cases h3 : hasD es (if tm.1 = 3 then 2 else 1) T = false
      · rw [if_pos h3]
        exact up_mk (by omega)
      · rw [if_neg h3]
        by_cases h5 : tm.1 = 3
        · rw [if_pos h5]
          exact up_mk (by omega)
        · rw [if_neg h5]
          exact up_mk (by omega)
  unfold lookS
  by_cases h1 : 10 < cn + 1
  · rw [if_pos h1]
    exact up_mk (by omega)
  · rw [if_neg h1]
    exact key _
theorem insS_up {ck : List Int → Int → Int → Rs} {more : Bool} {sd : Snd} {X txt : List Int} {d : Int × Int} {cn vo : Int} (hck : ∀ (X : List Int) (cn vo : Int), upP cn (ck X cn vo)) : upP cn (insS ck more sd X txt d cn vo) := by
  unfold insS
  dsimp only
  by_cases h1 : 10 < cn + 1 ∨ more = false
  · rw [if_pos h1]
    exact up_mk (by omega)
  · rw [if_neg h1]
    have h3 := hck (tgS sd X txt d) (cn + 1) vo
    unfold upP at h3 ⊢
    dsimp only
    omega
theorem matS_up {ck : List Int → Int → Int → Rs} {more : Bool} {es : List Ent} {sd : Snd} {X txt : List Int} {tm : Tm} {cn vo : Int} (hck : ∀ (X : List Int) (cn vo : Int), upP cn (ck X cn vo)) : upP cn (matS ck more es sd X txt tm cn vo) := by
  unfold matS
  dsimp only
  by_cases h1 : tm.1 = 0
  · rw [if_pos h1]
    exact up_mk (by omega)
  · rw [if_neg h1]
    by_cases h2 : tm.1 = 4
    · rw [if_pos h2]
      exact up_mk (by omega)
    · rw [if_neg h2]
      by_cases h3 : tm.1 = 1
      · rw [if_pos h3]
        exact insS_up hck
      · rw [if_neg h3]
        by_cases h4 : tm.1 = 2 ∨ tm.1 = 3 ∨ tm.1 = 5
        · rw [if_pos h4]
          exact lookS_up
        · rw [if_neg h4]
          exact up_mk (by omega)
theorem fmL_up {mt : Tm → Int → Int → Rs} {txt : List Int} (hmt : ∀ (tm : Tm) (cn vo : Int), upP cn (mt tm cn vo)) : ∀ (N : Nat) (q cn vo : Int), (txt.length - q).toNat < N → upP cn (fmL mt txt q cn vo) := by
  intro N
  induction N with
  | zero => intro q cn vo h; omega
  | succ N ih =>
    intro q cn vo h
    rw [fmL]
    by_cases hq : q < txt.length
    · rw [dif_pos hq]
      by_cases hb : begP txt q
      · rw [if_pos hb]
        cases hr : readS txt q with
        | none => exact ih (q + 1) cn vo (by omega)
        | some tm =>
          dsimp only
          have h1 := hmt tm cn vo
          by_cases h2 : (mt tm cn vo).1 = -1
          · rw [if_pos h2]
            have h3 := ih (q + 1) (mt tm cn vo).2.1 (mt tm cn vo).2.2 (by omega)
            unfold upP at h1 h3 ⊢
            omega
          · rw [if_neg h2]
            exact h1
      · rw [if_neg hb]
        exact ih (q + 1) cn vo (by omega)
    · rw [dif_neg hq]
      exact up_mk (by omega)
theorem chkS_up (es : List Ent) (sd : Snd) : ∀ (n : Nat) (X : List Int) (cn vo : Int), upP cn (chkS es sd n X cn vo) := by
  intro n
  induction n with
  | zero => intro X cn vo; exact up_mk (by omega)
  | succ n ih =>
    intro X cn vo
    unfold chkS
    by_cases h1 : hasD es 3 X = true
    · rw [if_pos h1]
      exact up_mk (by omega)
    · rw [if_neg h1]
      split
      · exact up_mk (by omega)
      · next x l hx =>
        by_cases h2 : ¬ l = []
        · rw [if_pos h2]
          exact up_mk (by omega)
        · rw [if_neg h2]
          split
          · exact up_mk (by omega)
          · next rd hrd =>
            have h3 := fmL_up (mt := matS (chkS es sd n) (decide (0 < n)) es sd X x.2.2.2) (txt := x.2.2.2) (fun tm cn vo => matS_up ih) _ 7 cn vo (Nat.lt_succ_self _)
            dsimp only
            generalize fmL (matS (chkS es sd n) (decide (0 < n)) es sd X x.2.2.2) x.2.2.2 7 cn vo = r at h3 ⊢
            obtain ⟨r1, r2, r3⟩ := r
            unfold upP at h3
            dsimp only at h3 ⊢
            by_cases h4 : ¬ r1 = -1
            · rw [if_pos h4]
              exact h3
            · rw [if_neg h4]
              split
              · exact h3
              · next d =>
                have h5 := insS_up (ck := chkS es sd n) (more := decide (0 < n)) (sd := sd) (X := X) (txt := x.2.2.2) (d := d) (cn := r2) (vo := r3) ih
                unfold upP at h5 ⊢
                omega
/-- the numbers a match answers -/
abbrev mvP (r : Int) : Prop := r = -2 ∨ r = -1 ∨ r = 5 ∨ r = 6
theorem excL_mv (es : List Ent) (T : List Int) (a : Int32) (n : Int) : ∀ l : List Ent, mvP (excL es T a n l) := by
  intro l
  induction l with
  | nil => unfold excL; omega
  | cons x l ih =>
    unfold excL
    repeat' split
    all_goals omega
theorem incS_mv (r : Int) : mvP (incS r) := by
  unfold incS
  repeat' split
  all_goals omega
theorem lookS_mv {es : List Ent} {sd : Snd} {X txt : List Int} {tm : Tm} {cn vo : Int} : mvP (lookS es sd X txt tm cn vo).1 := by
  have key : ∀ T : List Int, mvP (if hasD es 3 T = true then (5, cn + 1, vo) else
      if hasD es (if tm.1 = 3 then 2 else 1) T = false then (if 2 < vo + 1 then 6 else -1, cn + 1, vo + 1) else
      if tm.1 = 3 then (excL es T sd.2.2 tm.2.1 es, cn + 1, vo) else
      ((if tm.1 = 5 ∨ reaD es T sd.2.2 tm.2.1 = true then -2 else -1, cn + 1, vo) : Rs)).1 := by
    intro T
    by_cases h2 : hasD es 3 T = true
    · rw [if_pos h2]
      exact Or.inr (Or.inr (Or.inl rfl))
    rw [if_neg h2]
    by_cases h3 : hasD es (if tm.1 = 3 then 2 else 1) T = false
    · rw [if_pos h3]
      show mvP (if 2 < vo + 1 then 6 else -1)
      split <;> omega
    rw [if_neg h3]
    by_cases h5 : tm.1 = 3
    · rw [if_pos h5]
      exact excL_mv es T sd.2.2 tm.2.1 es
    rw [if_neg h5]
    show mvP (if tm.1 = 5 ∨ reaD es T sd.2.2 tm.2.1 = true then -2 else -1)
    split <;> omega
  unfold lookS
  by_cases h1 : 10 < cn + 1
  · rw [if_pos h1]
    exact Or.inr (Or.inr (Or.inr rfl))
  · rw [if_neg h1]
    exact key _
theorem matS_mv {ck : List Int → Int → Int → Rs} {more : Bool} {es : List Ent} {sd : Snd} {X txt : List Int} {tm : Tm} {cn vo : Int} : mvP (matS ck more es sd X txt tm cn vo).1 := by
  unfold matS
  dsimp only
  by_cases h1 : tm.1 = 0
  · rw [if_pos h1]
    exact Or.inl rfl
  rw [if_neg h1]
  by_cases h2 : tm.1 = 4
  · rw [if_pos h2]
    show mvP (if sbS tm.2.2.1 sd.2.2 tm.2.1 = true then -2 else -1)
    split <;> omega
  rw [if_neg h2]
  by_cases h3 : tm.1 = 1
  · rw [if_pos h3]
    exact incS_mv _
  rw [if_neg h3]
  by_cases h4 : tm.1 = 2 ∨ tm.1 = 3 ∨ tm.1 = 5
  · rw [if_pos h4]
    exact lookS_mv
  rw [if_neg h4]
  exact Or.inr (Or.inl rfl)
theorem excM_mv {r : Int} (h : mvP r) : (r = -1 ↔ excM r = 0) ∧ (r = -2 ↔ excM r = 1) ∧ (1 < excM r → excM r = r) ∧ 0 ≤ excM r ∧ excM r ≤ 6 := by
  unfold excM
  rcases h with h | h | h | h <;> subst h <;> decide
theorem sgn_vals (xs : List Int) (q : Int) : sgnS xs q = 43 ∨ sgnS xs q = 63 ∨ sgnS xs q = 126 ∨ sgnS xs q = 45 := by
  unfold sgnS
  split
  · next h => omega
  · omega
/-- where a word says all, a match is found -/
theorem all_hit {mt : Tm → Int → Int → Rs} {xs : List Int} {q0 : Int} {tm : Tm} (hb : begP xs q0) (hr : readS xs q0 = some tm) (hq : q0 < xs.length) (hm : ∀ cn vo, (mt tm cn vo).1 = -2) : ∀ (N : Nat) (q cn vo : Int), (xs.length - q).toNat < N → q ≤ q0 → ¬ (fmL mt xs q cn vo).1 = -1 := by
  intro N
  induction N with
  | zero => intro q cn vo h; omega
  | succ N ih =>
    intro q cn vo h h1
    rw [fmL, dif_pos (by omega)]
    by_cases h2 : q = q0
    · subst h2
      rw [if_pos hb, hr]
      dsimp only
      rw [if_neg (by rw [hm cn vo]; decide), if_pos (hm cn vo)]
      have := verS_rng (sgnS xs q)
      show ¬ verS (sgnS xs q) = -1
      omega
    · by_cases h3 : begP xs q
      · rw [if_pos h3]
        cases h4 : readS xs q with
        | none => exact ih (q + 1) cn vo (by omega) (by omega)
        | some t9 =>
          dsimp only
          by_cases h5 : (mt t9 cn vo).1 = -1
          · rw [if_pos h5]
            exact ih (q + 1) _ _ (by omega) (by omega)
          · rw [if_neg h5]
            have := verS_rng (sgnS xs q)
            show ¬ (if (mt t9 cn vo).1 = -2 then verS (sgnS xs q) else (mt t9 cn vo).1) = -1
            split
            · omega
            · exact h5
      · rw [if_neg h3]
        exact ih (q + 1) cn vo (by omega) (by omega)
theorem zI_or {a b c : Int} (ha : a = 0 ∨ a = 1) (hb : b = 0 ∨ b = 1) (hc : c = max a b) : zI a ||| zI b = zI c := by
  subst hc
  rcases ha with rfl | rfl <;> rcases hb with rfl | rfl <;> decide +kernel
-- what is found by going through all entries
theorem any_step {es : List Ent} {k : Int} {x : Ent} {p : Ent → Bool} {a r : Bool} (hx : es.drop k.toNat = x :: es.drop (k + 1).toNat) (h : (a || (es.drop k.toNat).any p) = r) : ((a || p x) || (es.drop (k + 1).toNat).any p) = r := by
  rw [hx, List.any_cons, ← Bool.or_assoc] at h
  exact h
theorem exc_none {es : List Ent} {T : List Int} {a : Int32} {n : Int} : ∀ l : List Ent, l.any (isD 2 T) = false → excL es T a n l = -1 := by
  intro l
  induction l with
  | nil => intro _; rfl
  | cons x l ih =>
    intro h
    rw [List.any_cons, Bool.or_eq_false_iff] at h
    unfold excL
    rw [if_neg (nt h.1)]
    exact ih h.2
theorem rea_none {T : List Int} {a : Int32} {n : Int} : ∀ l : List Ent, l.any (isD 1 T) = false → l.any (reaP T a n) = false := by
  intro l
  induction l with
  | nil => intro _; rfl
  | cons x l ih =>
    intro h
    rw [List.any_cons, Bool.or_eq_false_iff] at h
    rw [List.any_cons, ih h.2, rea_step, h.1]
    rfl
/-- the text a term looks up -/
def tgQ (sd : Snd) (X txt : List Int) (tm : Tm) : List Int := match tm.2.2.2 with
  | some d => tgS sd X txt d
  | none => X
theorem tgQ_s {sd : Snd} {X txt : List Int} {tm : Tm} {d : Int × Int} (h : tm.2.2.2 = some d) : tgQ sd X txt tm = tgS sd X txt d := by
  unfold tgQ
  rw [h]
theorem tgQ_n {sd : Snd} {X txt : List Int} {tm : Tm} (h : tm.2.2.2 = none) : tgQ sd X txt tm = X := by
  unfold tgQ
  rw [h]
theorem look_eq {es : List Ent} {sd : Snd} {X txt : List Int} {tm : Tm} {cn vo : Int} : lookS es sd X txt tm cn vo = if 10 < cn + 1 then (6, cn + 1, vo) else
    if hasD es 3 (tgQ sd X txt tm) = true then (5, cn + 1, vo) else
    if hasD es (if tm.1 = 3 then 2 else 1) (tgQ sd X txt tm) = false then (if 2 < vo + 1 then 6 else -1, cn + 1, vo + 1) else
    if tm.1 = 3 then (excL es (tgQ sd X txt tm) sd.2.2 tm.2.1 es, cn + 1, vo) else
    (if tm.1 = 5 ∨ reaD es (tgQ sd X txt tm) sd.2.2 tm.2.1 = true then -2 else -1, cn + 1, vo) := rfl
theorem tg_take (sd : Snd) (X txt : List Int) (f o : Int) : (expL sd X txt o f).take 61 = tgS sd X txt (f, o) := (wr_take (lim := 61) (n := 61) (by omega)).symm
theorem isD_any {es : List Ent} {s : Int} {T : List Int} : hasD es s T = es.any (isD s T) := rfl
theorem targ_L {xs : List Int} {q e : Int} (h : targS xs q e = true) : targL xs e q = true := by
  unfold targS at h
  exact (Bool.and_eq_true_iff.mp h).1
-- a match, by its kind
theorem mat_0 {ck : List Int → Int → Int → Rs} {more : Bool} {es : List Ent} {sd : Snd} {X txt : List Int} {tm : Tm} {cn vo : Int} (h : tm.1 = 0) : matS ck more es sd X txt tm cn vo = (-2, cn, vo) := by
  unfold matS
  rw [if_pos h]
theorem mat_4 {ck : List Int → Int → Int → Rs} {more : Bool} {es : List Ent} {sd : Snd} {X txt : List Int} {tm : Tm} {cn vo : Int} (h : tm.1 = 4) : matS ck more es sd X txt tm cn vo = (if sbS tm.2.2.1 sd.2.2 tm.2.1 = true then -2 else -1, cn, vo) := by
  unfold matS
  rw [if_neg (by omega), if_pos h]
theorem mat_l {ck : List Int → Int → Int → Rs} {more : Bool} {es : List Ent} {sd : Snd} {X txt : List Int} {tm : Tm} {cn vo : Int} (h : tm.1 = 2 ∨ tm.1 = 3 ∨ tm.1 = 5) : matS ck more es sd X txt tm cn vo = lookS es sd X txt tm cn vo := by
  unfold matS
  rw [if_neg (by omega), if_neg (by omega), if_neg (by omega), if_pos h]
theorem mat_7 {ck : List Int → Int → Int → Rs} {more : Bool} {es : List Ent} {sd : Snd} {X txt : List Int} {tm : Tm} {cn vo : Int} (h : 6 ≤ tm.1) : matS ck more es sd X txt tm cn vo = (-1, cn, vo) := by
  unfold matS
  rw [if_neg (by omega), if_neg (by omega), if_neg (by omega), if_neg (by omega)]
theorem mat_in {ck : List Int → Int → Int → Rs} {more : Bool} {es : List Ent} {sd : Snd} {X txt : List Int} {tm : Tm} {cn vo : Int} {d : Int × Int} (h : tm.1 = 1) (hd : tm.2.2.2 = some d) (hm : more = true) (hc : ¬ 10 < cn + 1) : matS ck more es sd X txt tm cn vo = (incS (if (ck (tgS sd X txt d) (cn + 1) vo).1 = 0 then 6 else (ck (tgS sd X txt d) (cn + 1) vo).1), (ck (tgS sd X txt d) (cn + 1) vo).2) := by
  unfold matS
  rw [if_neg (by omega), if_neg (by omega), if_pos h, hd]
  unfold insS
  dsimp only
  rw [if_neg (show ¬ (10 < cn + 1 ∨ more = false) from fun z => by rcases z with z | z; exact hc z; (rw [hm] at z; cases z))]
  rfl
theorem mat_over {ck : List Int → Int → Int → Rs} {more : Bool} {es : List Ent} {sd : Snd} {X txt : List Int} {tm : Tm} {cn vo : Int} (h : tm.1 = 1 ∨ tm.1 = 2 ∨ tm.1 = 3 ∨ tm.1 = 5) (hc : 10 < cn + 1) : matS ck more es sd X txt tm cn vo = (6, cn + 1, vo) := by
  rcases h with h | h
  · unfold matS
    rw [if_neg (by omega), if_neg (by omega), if_pos h]
    unfold insS
    dsimp only
    rw [if_pos (Or.inl hc)]
    rfl
  · rw [mat_l h]
    unfold lookS
    rw [if_pos hc]
theorem look_a {es : List Ent} {sd : Snd} {X txt T : List Int} {tm : Tm} {cn vo : Int} (hT : T = tgQ sd X txt tm) (h : tm.1 = 2) (hc : ¬ 10 < cn + 1) : lookS es sd X txt tm cn vo = if hasD es 3 T = true then (5, cn + 1, vo) else if hasD es 1 T = false then (if 2 < vo + 1 then 6 else -1, cn + 1, vo + 1) else (if reaD es T sd.2.2 tm.2.1 = true then -2 else -1, cn + 1, vo) := by
  subst hT
  rw [look_eq, if_neg hc]
  simp only [h]
  simp
theorem look_e {es : List Ent} {sd : Snd} {X txt T : List Int} {tm : Tm} {cn vo : Int} (hT : T = tgQ sd X txt tm) (h : tm.1 = 5) (hc : ¬ 10 < cn + 1) : lookS es sd X txt tm cn vo = if hasD es 3 T = true then (5, cn + 1, vo) else if hasD es 1 T = false then (if 2 < vo + 1 then 6 else -1, cn + 1, vo + 1) else (-2, cn + 1, vo) := by
  subst hT
  rw [look_eq, if_neg hc]
  simp only [h]
  simp
theorem look_x {es : List Ent} {sd : Snd} {X txt T : List Int} {tm : Tm} {cn vo : Int} (hT : T = tgQ sd X txt tm) (h : tm.1 = 3) (hc : ¬ 10 < cn + 1) : lookS es sd X txt tm cn vo = if hasD es 3 T = true then (5, cn + 1, vo) else if hasD es 2 T = false then (if 2 < vo + 1 then 6 else -1, cn + 1, vo + 1) else (excL es T sd.2.2 tm.2.1 es, cn + 1, vo) := by
  subst hT
  rw [look_eq, if_neg hc]
  simp only [h]
  simp
/-- what the reference's word says of D -/
theorem rq_some {tm : Tm} {k1 n1 : Int} {w1 : Int32} {f1 o1 start : Int} {xs : List Int} (h : refQ (some tm) k1 n1 w1 f1 o1) (hp : tmP xs start tm) (h0 : 0 ≤ start) (hk : tm.1 = 1 ∨ tm.1 = 2 ∨ tm.1 = 3 ∨ tm.1 = 5 ∨ tm.1 = 6) : (f1 < 0 → tm.2.2.2 = none) ∧ (¬ f1 < 0 → ∃ d, tm.2.2.2 = some d ∧ f1 = d.1 ∧ o1 = d.2 ∧ 0 ≤ d.1 ∧ d.1 < d.2 ∧ d.2 ≤ xs.length ∧ targL xs o1 f1 = true) ∧ (-1 ≤ f1 ∧ f1 ≤ xs.length) := by
  obtain ⟨h1, h2, h3, h4, h5⟩ := h.2 tm rfl
  obtain ⟨p1, p2, p3, p4⟩ := hp
  cases hd : tm.2.2.2 with
  | none =>
    have h6 : tm.1 = 2 ∨ tm.1 = 3 := by
      apply Decidable.byContradiction
      intro y
      obtain ⟨d, hd2⟩ := p4 (by omega)
      rw [hd] at hd2
      cases hd2
    have h7 := h5 hd h6
    exact ⟨fun _ => rfl, fun z => absurd (show f1 < 0 by omega) z, by omega⟩
  | some d =>
    have h6 := h4 d hd
    have h7 := p3 d hd
    refine ⟨fun z => by omega, fun _ => ⟨d, rfl, h6.1, h6.2, by omega, h7.2.1, h7.2.2.1, ?_⟩, by omega⟩
    rw [h6.1, h6.2]
    exact targ_L h7.2.2.2
theorem rq_k {xs : List Int} {q k1 n1 : Int} {w1 : Int32} {f1 o1 : Int} (h : refQ (readS xs q) k1 n1 w1 f1 o1) : (readS xs q = none ∧ k1 = 8) ∨ (∃ tm, readS xs q = some tm ∧ k1 = tm.1 ∧ tmP xs q tm ∧ refQ (some tm) k1 n1 w1 f1 o1) := by
  cases hr : readS xs q with
  | none => exact Or.inl ⟨rfl, h.1 hr⟩
  | some tm =>
    refine Or.inr ⟨tm, rfl, (h.2 tm hr).1, readS_P hr, ?_⟩
    rw [← hr]
    exact h
-- the first word
theorem rec_sp {v : List Int} (h : isP2 v (wrd 0) 0 v.length ∨ hasS v (wrd 8) 0 v.length = true) : v.length = 6 ∨ (7 ≤ v.length ∧ atS v 6 = 32) := by
  have h1 := recP_iff.mpr h
  obtain ⟨h2, h3⟩ := h1
  have h4 := (of_decide_eq_true h2).1
  rw [w08.2.1] at h3 h4
  rcases h3 with h3 | h3
  · exact Or.inl (by omega)
  · refine Or.inr ⟨?_, h3⟩
    apply Decidable.byContradiction
    intro z
    unfold atS at h3
    rw [if_neg (by omega)] at h3
    exact absurd h3 (by decide)
theorem nb_7 {v : List Int} (h : 7 ≤ v.length ∧ atS v 6 = 32) : nbS v 6 = nbS v 7 := by
  rw [nbS, dif_pos (by omega), if_pos h.2]
  rfl
theorem nb_6 {v : List Int} (h : v.length = 6) : nbS v 6 = 6 := by
  rw [nbS, dif_neg (by omega)]
theorem nb_rng6 {v : List Int} (h : v.length = 6 ∨ (7 ≤ v.length ∧ atS v 6 = 32)) : 6 ≤ nbS v 6 ∧ nbS v 6 ≤ v.length := by
  have := nbS_rng v _ 6 (Nat.lt_succ_self _)
  omega
theorem rt_start {v : List Int} {rd : Option (Int × Int)} {RT : Option (Option (Int × Int))} (h : v.length = 6 ∨ (7 ≤ v.length ∧ atS v 6 = 32)) (hR : rtL v 7 rd = RT) : rtL v (nbS v 6) rd = RT := by
  rcases h with h | h
  · rw [nb_6 h, rtL_end (by omega), ← hR, rtL_end (by omega)]
  · rw [nb_7 h, ← rtL_first (by omega)]
    exact hR
theorem fm_start {mt : Tm → Int → Int → Rs} {v : List Int} {cn vo : Int} {FM : Rs} (h : v.length = 6 ∨ (7 ≤ v.length ∧ atS v 6 = 32)) (hR : fmL mt v 7 cn vo = FM) : fmL mt v (nbS v 6) cn vo = FM := by
  rcases h with h | h
  · rw [nb_6 h, fmL_end (by omega), ← hR, fmL_end (by omega)]
  · rw [nb_7 h, ← fmL_first (by omega)]
    exact hR
theorem nb_beg6 {v : List Int} (h : v.length = 6 ∨ (7 ≤ v.length ∧ atS v 6 = 32)) (hl : nbS v 6 < v.length) : 7 ≤ nbS v 6 ∧ begP v (nbS v 6) := by
  rcases h with h | h
  · rw [nb_6 h] at hl
    omega
  · rw [nb_7 h] at hl ⊢
    have := nbS_rng v _ 7 (Nat.lt_succ_self _)
    exact ⟨by omega, nb_beg (Or.inl h.2) hl⟩
theorem nx_beg7 {v : List Int} {k : Int} (hk : 7 ≤ k) (hk2 : k < v.length) (hl : nbS v (findS v 32 k v.length) < v.length) : 7 ≤ nbS v (findS v 32 k v.length) ∧ begP v (nbS v (findS v 32 k v.length)) := by
  have r := findS_rng v 32 k v.length
  have r2 := nbS_rng v _ (findS v 32 k v.length) (Nat.lt_succ_self _)
  exact ⟨by omega, nx_beg hk2 hl⟩
