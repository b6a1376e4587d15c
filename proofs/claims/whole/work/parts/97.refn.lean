/-! what the first walk over the words keeps, shut -/
def alP (txt : List Int) (all : Int) : Prop := all = 1 → ∃ (q0 : Int) (te : Tm), 7 ≤ q0 ∧ q0 < txt.length ∧ begP txt q0 ∧ readS txt q0 = some te ∧ te.1 = 0
theorem al_0 (txt : List Int) : alP txt 0 := fun z => absurd z (by decide)
theorem al_yes {txt : List Int} {x q0 : Int} {te : Tm} (h : 7 ≤ q0 ∧ q0 < txt.length) (h1 : begP txt q0) (h2 : readS txt q0 = some te) (h3 : te.1 = 0) : alP txt x := fun _ => ⟨q0, te, h.1, h.2, h1, h2, h3⟩
theorem al_or0 {txt : List Int} {all : Int} (ha : all = 0 ∨ all = 1) (h : alP txt all) : alP txt (max all 0) := by
  have e : max all 0 = all := by omega
  rw [e]
  exact h
theorem al_hit {txt : List Int} {all : Int} {mt : Tm → Int → Int → Rs} {cn vo : Int} {FM : Rs} (h : alP txt all) (hF : fmL mt txt 7 cn vo = FM) (hm : ∀ (te : Tm), te.1 = 0 → ∀ cn vo, (mt te cn vo).1 = -2) : all = 1 → ¬ FM.1 = -1 := fun z => by
  obtain ⟨q0, te, y1, y2, y3, y4, y5⟩ := h z
  rw [← hF]
  exact all_hit y3 y4 y2 (hm te y5) _ 7 cn vo (Nat.lt_succ_self _) y1
def trnP (txt : List Int) (turn : Int) (rd : Option (Int × Int)) : Prop := (rd = none ∧ turn = -1) ∨ (0 ≤ turn ∧ turn < txt.length ∧ ∃ te : Tm, readS txt turn = some te ∧ te.1 = 6 ∧ te.2.2.2 = rd ∧ rd.isSome = true)
theorem trn_0 (txt : List Int) : trnP txt (-1) none := Or.inl ⟨rfl, rfl⟩
theorem trn_neg {txt : List Int} {turn : Int} {rd : Option (Int × Int)} (h : trnP txt turn rd) (ht : turn < 0) : rd = none := by
  rcases h with z | z
  · exact z.1
  · omega
theorem trn_pos {txt : List Int} {turn : Int} {rd : Option (Int × Int)} (h : trnP txt turn rd) (ht : ¬ turn < 0) : 0 ≤ turn ∧ turn < txt.length ∧ ∃ te : Tm, readS txt turn = some te ∧ te.1 = 6 ∧ te.2.2.2 = rd ∧ rd.isSome = true := by
  rcases h with z | z
  · omega
  · exact z
theorem trn_some {txt : List Int} {turn : Int} {rd : Option (Int × Int)} (h : trnP txt turn rd) (ht : 0 ≤ turn) : rd.isSome = true := by
  obtain ⟨-, -, te, -, -, -, h4⟩ := trn_pos h (by omega)
  exact h4
theorem trn_q {txt : List Int} {q : Int} {te : Tm} (hq : 0 ≤ q ∧ q < txt.length) (h : readS txt q = some te) (h6 : te.1 = 6) (hp : tmP txt q te) : trnP txt q te.2.2.2 := by
  obtain ⟨d, hd⟩ := hp.2.2.2 (Or.inr (Or.inr h6))
  exact Or.inr ⟨hq.1, hq.2, te, h, h6, rfl, by rw [hd]; rfl⟩
def spP (v : List Int) : Prop := v.length = 6 ∨ (7 ≤ v.length ∧ atS v 6 = 32)
theorem sp_6 {v : List Int} (h : spP v) : 6 ≤ (v.length : Int) := by
  rcases h with h | h <;> omega
def bgP (txt : List Int) (q : Int) : Prop := q < txt.length → 7 ≤ q ∧ begP txt q
def bqP (txt : List Int) (q : Int) : Prop := begP txt q
theorem bg_7 {txt : List Int} {q : Int} (h : bgP txt q) (hq : q < txt.length) : 7 ≤ q := (h hq).1
theorem bg_b {txt : List Int} {q : Int} (h : bgP txt q) (hq : q < txt.length) : bqP txt q := (h hq).2
theorem bg_0 {txt : List Int} (h : spP txt) : bgP txt (nbS txt 6) := fun hl => nb_beg6 h hl
theorem bg_n {txt : List Int} {k : Int} (h7 : 7 ≤ k) (hk : k < txt.length) : bgP txt (nbS txt (findS txt 32 k txt.length)) := fun hl => nx_beg7 h7 hk hl
theorem nx_rng {txt : List Int} {k : Int} (hk : k < txt.length) (hb : bqP txt k) : k + 1 ≤ nbS txt (findS txt 32 k txt.length) ∧ nbS txt (findS txt 32 k txt.length) ≤ txt.length := ⟨(nx_none hk).2.1 hb.1, (nx_none hk).2.2⟩
def mvQ (r : Int) : Prop := mvP r
theorem mx_rng {r : Int} (h : mvQ r) : 0 ≤ excM r ∧ excM r ≤ 6 := (excM_mv h).2.2.2
theorem mx_bad {r : Int} (h : mvQ r) (h1 : ¬ excM r ≤ 1) : ¬ r = -1 ∧ ¬ r = -2 ∧ excM r = r := by
  have h2 := excM_mv h
  exact ⟨fun z => by have := h2.1.mp z; omega, fun z => by have := h2.2.1.mp z; omega, h2.2.2.1 (by omega)⟩
theorem mx_hit {r : Int} (h : mvQ r) (h1 : excM r = 1) : r = -2 := (excM_mv h).2.1.mpr h1
theorem mx_no {r : Int} (h : mvQ r) (h1 : excM r ≤ 1) (h2 : ¬ excM r = 1) : r = -1 := (excM_mv h).1.mpr (by have := (excM_mv h).2.2.2; omega)
theorem ok_of {R : Rs} (h : cvP R) (h1 : R.1 = -1) : okC R.2.1 R.2.2 := by
  unfold cvP at h
  omega
theorem cv_r {R : Rs} (h : cvP R) : -2 ≤ R.1 ∧ R.1 ≤ 6 := h.1
theorem ver_2 {xs : List Int} {q : Int} (h : sgnS xs q = 43) : verS (sgnS xs q) = 2 := by rw [h]; rfl
theorem ver_1 {xs : List Int} {q : Int} (h : sgnS xs q = 63) : verS (sgnS xs q) = 1 := by rw [h]; rfl
theorem ver_4 {xs : List Int} {q : Int} (h : sgnS xs q = 126) : verS (sgnS xs q) = 4 := by rw [h]; rfl
theorem ver_3 {xs : List Int} {q : Int} (h1 : ¬ sgnS xs q = 43) (h2 : ¬ sgnS xs q = 63) (h3 : ¬ sgnS xs q = 126) : verS (sgnS xs q) = 3 := by
  have h := sgn_vals xs q
  have e : sgnS xs q = 45 := by omega
  rw [e]
  rfl
def tdQ (td lv : Nat) : Prop := (td = 510 ∨ 520 ≤ td) ∧ td + 1 < 520 + 2 * lv
theorem tdQ_x {td lv : Nat} (h : tdQ td lv) (hl : lv < 11) : tdP td (520 + 2 * lv) := by
  unfold tdQ at h
  unfold tdP
  omega
theorem tdQ_5 {td lv : Nat} (h : tdQ td lv) : td ∉ [500] ∧ td + 1 ∉ [500] := by
  unfold tdQ at h
  simp only [List.mem_cons, List.not_mem_nil, or_false]
  omega
theorem tdQ_t {td lv : Nat} (h : tdQ td lv) : td ∉ ([500, 513, 514] ++ tgT lv) ∧ td + 1 ∉ ([500, 513, 514] ++ tgT lv) := by
  unfold tdQ at h
  simp only [List.mem_append, mem_tgT, List.mem_cons, List.not_mem_nil, or_false]
  omega
theorem rt_k {xs : List Int} {q k1 n1 : Int} {w1 : Int32} {f1 o1 : Int} (h : refQ (readS xs q) k1 n1 w1 f1 o1) : 0 ≤ k1 ∧ k1 ≤ 8 := by
  rcases rq_k h with z | ⟨te, z1, z2, z3, z4⟩
  · omega
  · have := z3.1
    omega
