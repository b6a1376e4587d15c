/-! THE CHECK: what the class answers, by fuel (eleven less the depth) -/
/-- a row whose array is as long as its limit never grows -/
theorem wsB_1 {lim : Int} {b : Bv} (c : Int) (h : (b.1 : Int) = lim) : (wsB lim b c).1 = b.1 := by
  unfold wsB
  split
  · exact addB_1 _ h
  · split
    · exact addB_1 _ h
    · have h1 := addB_1 (b := b) 37 h
      have h2 := addB_1 (lim := lim) (b := addB lim b 37) 50 (by rw [h1]; exact h)
      have h3 := addB_1 (lim := lim) (b := addB lim (addB lim b 37) 50) 48 (by rw [h2, h1]; exact h)
      rw [h3, h2, h1]
theorem wpL_1 {lim : Int} {xs : List Int} {first : Int} {tu : Bool} : ∀ (N : Nat) (k : Int) (b : Bv), ((stL xs 0).length - k).toNat < N → (b.1 : Int) = lim → (wpL lim xs first tu k b).1 = b.1 := by
  intro N
  induction N with
  | zero => intro k b h; omega
  | succ N ih =>
    intro k b h hb
    rw [wpL]
    split
    · have h1 : (if first < k then addB lim b 46 else b).1 = b.1 := by
        split
        · exact addB_1 _ hb
        · rfl
      rw [ih (k + 1) _ (by omega) (by rw [addPB_1 _ _ _ (by rw [h1]; exact hb), h1]; exact hb), addPB_1 _ _ _ (by rw [h1]; exact hb), h1]
    · rfl
theorem wpB_1 {lim : Int} {b : Bv} (xs : List Int) (most : Int) (tu : Bool) (h : (b.1 : Int) = lim) : (wpB lim b xs most tu).1 = b.1 := wpL_1 _ _ _ (Nat.lt_succ_self _) h
theorem wrL_1 {lim : Int} {s : Snd} {chk xs : List Int} {to : Int} : ∀ (N : Nat) (k : Int) (b : Bv), (to - k).toNat < N → (b.1 : Int) = lim → (wrL lim s chk xs to k b).1 = b.1 := by
  intro N
  induction N with
  | zero => intro k b h; omega
  | succ N ih =>
    intro k b h hb
    rw [wrL]
    split
    · split
      · have h9 := mlenS_rng xs k to
        have h1 : (if mlenS xs k to = 2 then wsB lim b (atS xs (k + 1)) else wpB lim b (srcS s chk (atS xs (k + 2))) (mostS s chk xs k) (decide (atS xs (k + mlenS xs k to - 2) = 114))).1 = b.1 := by
          split
          · exact wsB_1 _ hb
          · exact wpB_1 _ _ _ hb
        rw [ih _ _ (by omega) (by rw [h1]; exact hb), h1]
      · have h1 := addB_1 (b := b) (atS xs k) hb
        rw [ih _ _ (by omega) (by rw [h1]; exact hb), h1]
    · rfl
theorem psi_same {lim : Int} {b b' : Bv} (h : b'.1 = b.1) : psi lim b' = psi lim b := by
  unfold psi
  rw [h]
/-- what a D becomes, as a level or the target keeps it -/
def tgS (sd : Snd) (X txt : List Int) (d : Int × Int) : List Int := (wrL 61 sd X txt d.2 d.1 (61, [])).2
theorem tg_row (sd : Snd) (X txt : List Int) (f o : Int) : wrL 61 sd X txt o f (61, []) = (61, tgS sd X txt (f, o)) := by
  have h := wrL_1 (lim := 61) (s := sd) (chk := X) (xs := txt) (to := o) _ f (61, []) (Nat.lt_succ_self _) rfl
  exact Prod.ext h rfl
theorem tg_len (sd : Snd) (X txt : List Int) (d : Int × Int) : (tgS sd X txt d).length ≤ 61 := by
  have h := wrL_gr (lim := 61) (s := sd) (chk := X) (xs := txt) (to := d.2) _ d.1 (61, []) (Nat.lt_succ_self _) ⟨Nat.zero_le _, by show ((61 : Nat) : Int) ≤ 61; omega⟩
  have h1 := tg_row sd X txt d.1 d.2
  rw [h1] at h
  exact h.2.1
theorem part_row {X : List Int} (h : X.length ≤ 61) : addPB 61 (61, []) X 0 X.length = (61, X) := by
  refine Prod.ext (addPB_1 (b := (61, [])) _ _ _ rfl) ?_
  by_cases h0 : X.length = 0
  · rw [addPB_none (by omega)]
    exact (List.length_eq_zero_iff.mp h0).symm
  · rw [addPB_app (by omega) (by omega)]
    exact List.take_of_length_le (by rw [List.length_drop]; omega)
def excL (es : List Ent) (T : List Int) (a : Int32) (n : Int) : List Ent → Int
  | [] => -1
  | x :: l => if isD 2 T x = true then (if hasD es 3 x.2.2.2 = true then 5 else if reaD es x.2.2.2 a n = true then -2 else excL es T a n l) else excL es T a n l
/-- an answer, what was counted, the empty ones -/
abbrev Rs : Type := Int × Int × Int
def lookS (es : List Ent) (sd : Snd) (X txt : List Int) (tm : Tm) (cn vo : Int) : Rs :=
  if 10 < cn + 1 then (6, cn + 1, vo) else
  let T := match tm.2.2.2 with
    | some d => tgS sd X txt d
    | none => X
  if hasD es 3 T = true then (5, cn + 1, vo) else
  if hasD es (if tm.1 = 3 then 2 else 1) T = false then (if 2 < vo + 1 then 6 else -1, cn + 1, vo + 1) else
  if tm.1 = 3 then (excL es T sd.2.2 tm.2.1 es, cn + 1, vo) else
  (if tm.1 = 5 ∨ reaD es T sd.2.2 tm.2.1 = true then -2 else -1, cn + 1, vo)
def incS (r : Int) : Int := if r = 5 ∨ r = 6 then r else if r = 2 then -2 else -1
def insS (ck : List Int → Int → Int → Rs) (more : Bool) (sd : Snd) (X txt : List Int) (d : Int × Int) (cn vo : Int) : Rs :=
  if 10 < cn + 1 ∨ more = false then (6, cn + 1, vo) else
  let r := ck (tgS sd X txt d) (cn + 1) vo
  (if r.1 = 0 then 6 else r.1, r.2)
def matS (ck : List Int → Int → Int → Rs) (more : Bool) (es : List Ent) (sd : Snd) (X txt : List Int) (tm : Tm) (cn vo : Int) : Rs :=
  if tm.1 = 0 then (-2, cn, vo) else
  if tm.1 = 4 then (if sbS tm.2.2.1 sd.2.2 tm.2.1 = true then -2 else -1, cn, vo) else
  if tm.1 = 1 then (let r := insS ck more sd X txt (tm.2.2.2.getD (0, 0)) cn vo; (incS r.1, r.2)) else
  if tm.1 = 2 ∨ tm.1 = 3 ∨ tm.1 = 5 then lookS es sd X txt tm cn vo else (-1, cn, vo)
def fmL (mt : Tm → Int → Int → Rs) (txt : List Int) (q cn vo : Int) : Rs :=
  if h : q < txt.length then
    (if begP txt q then
      (match readS txt q with
      | none => fmL mt txt (q + 1) cn vo
      | some tm => if (mt tm cn vo).1 = -1 then fmL mt txt (q + 1) (mt tm cn vo).2.1 (mt tm cn vo).2.2 else (if (mt tm cn vo).1 = -2 then verS (sgnS txt q) else (mt tm cn vo).1, (mt tm cn vo).2))
    else fmL mt txt (q + 1) cn vo)
  else (-1, cn, vo)
termination_by (txt.length - q).toNat
decreasing_by all_goals omega
def chkS (es : List Ent) (sd : Snd) : Nat → List Int → Int → Int → Rs
  | 0, _, cn, vo => (6, cn, vo)
  | n + 1, X, cn, vo =>
    if hasD es 3 X = true then (5, cn, vo) else
    match es.filter (isP X) with
    | [] => (0, cn, vo)
    | x :: l =>
      if ¬ l = [] then (6, cn, vo) else
      match rtL x.2.2.2 7 none with
      | none => (6, cn, vo)
      | some rd =>
        let r := fmL (matS (chkS es sd n) (decide (0 < n)) es sd X x.2.2.2) x.2.2.2 7 cn vo
        if ¬ r.1 = -1 then r else
        match rd with
        | none => (1, r.2)
        | some d => insS (chkS es sd n) (decide (0 < n)) sd X x.2.2.2 d r.2.1 r.2.2
/-! worlds of the checker -/
def lvT (d : Nat) : List Nat := (List.range (144 - (100 + 4 * d))).map (fun i => 100 + 4 * d + i)
theorem mem_lvT {t d : Nat} : t ∈ lvT d ↔ 100 + 4 * d ≤ t ∧ t < 144 := by
  unfold lvT
  rw [List.mem_map]
  constructor
  · rintro ⟨i, hi, rfl⟩
    rw [List.mem_range] at hi
    omega
  · rintro ⟨h1, h2⟩
    exact ⟨t - (100 + 4 * d), by rw [List.mem_range]; omega, by omega⟩
def IsLv (D : Dg) (M : Mp) (L k : Nat) (xs : List Int) : Prop := ∃ (nm te : Nat) (rf rt k0 s0 n0 : Int) (w0 : Int32) (f0 o0 : Int), M L = some (100 + 4 * k, .inr (cLe, [.ref nm, .ref te, vI rf, vI rt])) ∧ IsB D M nm (100 + 4 * k + 1) 61 (61, xs) ∧ M te = some (100 + 4 * k + 3, .inr (cTe, [vI k0, vI s0, vI n0, .int w0, vI f0, vI o0]))
theorem IsLv.fr {D : Dg} {M M' : Mp} {L k : Nat} {xs : List Int} {T : List Nat} (h : IsLv D M L k xs) (hf : Fr T M M') (hn : ∀ u ∈ T, u < 100 + 4 * k ∨ 100 + 4 * k + 3 < u) : IsLv D M' L k xs := by
  obtain ⟨nm, te, rf, rt, k0, s0, n0, w0, f0, o0, h1, h2, h3⟩ := h
  have g : ∀ i : Nat, i ≤ 3 → 100 + 4 * k + i ∉ T := fun i hi z => by
    have := hn _ z
    omega
  exact ⟨nm, te, rf, rt, k0, s0, n0, w0, f0, o0, hf.at h1 (g 0 (by omega)), h2.fr hf (g 1 (by omega)) (g 2 (by omega)), hf.at h3 (g 3 (by omega))⟩
/-- the levels from d on -/
def LvA (D : Dg) (M : Mp) (f : Nat → Option Nat) (d : Nat) : Prop := ∀ k : Nat, d ≤ k → k < 11 → ∃ (L : Nat) (xs : List Int), f k = some L ∧ IsLv D M L k xs
theorem LvA.fr {D : Dg} {M M' : Mp} {f : Nat → Option Nat} {d : Nat} {T : List Nat} (h : LvA D M f d) (hf : Fr T M M') (hn : ∀ u ∈ T, u < 100 + 4 * d ∨ 143 < u) : LvA D M' f d := fun k h1 h2 => by
  obtain ⟨L, xs, g1, g2⟩ := h k h1 h2
  exact ⟨L, xs, g1, g2.fr hf (fun u hu => by have := hn u hu; omega)⟩
theorem G_icmp_ge_eq {E : Cxt} {cc : ByteArray} {y : MethodName} {M : Mp} {k n pc : Nat} {lv : List (Nat × Value)} {st : List Value} {a b off : Int} (hC : Cx E cc y) (tgt : Nat) (hab : a = b) (ht : (pc : Int) + off = (tgt : Int)) (d : decode cc pc = .ok (.if_icmp .ge off, 3)) (kt : G E M k n lv st tgt) : G E M k n lv (vI b :: vI a :: st) pc := by
  subst hab
  obtain ⟨p, l, e, R, s, m, args, below, meth, c, D, b0, nL, Q⟩ := E
  obtain ⟨hx, hb, hml, hown, hts, hKn, hb0, hlk, hmn⟩ := hC
  intro H locs ls hR hS hl
  exact lv_icmp_ge hx hb d ht (fun _ => kt H locs ls hR hS hl) (fun q => absurd (Int32.le_refl _) q)
