/-! ONE WORD READ: the reference's fields behind readTerm -/
def refT5 (xs : List Int) (q stop : Int) : Option Tm := if hasS xs (wrd 4) q stop = true ∧ (stop = q + 2 ∨ atS xs (q + 2) = 58 ∨ atS xs (q + 2) = 47) then hostS xs 3 (q + 2) stop else none
def refT4 (xs : List Int) (q stop : Int) : Option Tm := if hasS xs (wrd 3) q stop = true ∧ (stop = q + 1 ∨ atS xs (q + 1) = 58 ∨ atS xs (q + 1) = 47) then hostS xs 2 (q + 1) stop else refT5 xs q stop
def refT3 (xs : List Int) (q stop : Int) : Option Tm := if hasS xs (wrd 5) q stop = true then ip4S xs (q + 4) stop else refT4 xs q stop
def refT2 (xs : List Int) (q stop : Int) : Option Tm := if hasS xs (wrd 6) q stop = true then targT xs 5 (q + 7) stop else refT3 xs q stop
def refT1 (xs : List Int) (q stop : Int) : Option Tm := if hasS xs (wrd 2) q stop = true then targT xs 1 (q + 8) stop else refT2 xs q stop
theorem refT_0 {xs : List Int} {q stop : Int} : refT xs q stop = if stop - q = 3 ∧ hasS xs (wrd 1) q stop = true then some (0, 32, 0, none) else refT1 xs q stop := rfl
theorem has_len {xs : List Int} {i : Nat} {q stop : Int} (h : hasS xs (wrd i) q stop = true) {n : Nat} (hn : (wrd i).length = n) : q + n ≤ stop := by
  have h1 := (of_decide_eq_true h).1
  rw [hn] at h1
  omega
theorem w1l : (wrd 1).length = 3 := by decide
theorem all_iff {xs : List Int} {q stop : Int} : isP2 xs (wrd 1) q stop ↔ (stop - q = 3 ∧ hasS xs (wrd 1) q stop = true) := by
  constructor
  · rintro ⟨h1, h2⟩
    rw [w1l] at h1
    exact ⟨by omega, decide_eq_true ⟨by rw [w1l]; omega, h2⟩⟩
  · rintro ⟨h1, h2⟩
    exact ⟨by rw [w1l]; omega, (of_decide_eq_true h2).2⟩
theorem nt {b : Bool} (h : b = false) : ¬ b = true := by rw [h]; exact Bool.false_ne_true
theorem rt_all {xs : List Int} {q stop : Int} (h : isP2 xs (wrd 1) q stop) : refT xs q stop = some (0, 32, 0, none) := by rw [refT_0, if_pos (all_iff.mp h)]
theorem rt_1 {xs : List Int} {q stop : Int} (h : ¬ isP2 xs (wrd 1) q stop) : refT xs q stop = refT1 xs q stop := by rw [refT_0, if_neg (fun z => h (all_iff.mpr z))]
/-- the reference's fields behind a word -/
def refQ (P : Option Tm) (k1 n1 : Int) (w1 : Int32) (f1 o1 : Int) : Prop := (P = none → k1 = 8) ∧ ∀ tm, P = some tm → k1 = tm.1 ∧ (tm.1 = 2 ∨ tm.1 = 3 ∨ tm.1 = 4 → n1 = tm.2.1) ∧ (tm.1 = 4 → w1 = tm.2.2.1) ∧ (∀ d, tm.2.2.2 = some d → f1 = d.1 ∧ o1 = d.2) ∧ (tm.2.2.2 = none → tm.1 = 2 ∨ tm.1 = 3 → f1 = -1)
theorem rq {P R : Option Tm} {k1 n1 : Int} {w1 : Int32} {f1 o1 : Int} (e : P = R) (h : refQ R k1 n1 w1 f1 o1) : refQ P k1 n1 w1 f1 o1 := by rw [e]; exact h
theorem rq_no {k1 n1 : Int} {w1 : Int32} {f1 o1 : Int} (h : k1 = 8) : refQ none k1 n1 w1 f1 o1 := ⟨fun _ => h, fun tm z => by cases z⟩
theorem rq_plain {k1 n1 : Int} {w1 : Int32} {f1 o1 : Int} (h : k1 = 0 ∨ k1 = 7) : refQ (some (k1, 32, 0, none)) k1 n1 w1 f1 o1 := by
  refine ⟨fun z => (by cases z), fun tm z => ?_⟩
  cases z
  refine ⟨rfl, fun z => ?_, fun z => ?_, fun d hd => (by cases hd), fun _ z => ?_⟩
  · replace z : k1 = 2 ∨ k1 = 3 ∨ k1 = 4 := z
    omega
  · replace z : k1 = 4 := z
    omega
  · replace z : k1 = 2 ∨ k1 = 3 := z
    omega
theorem rq_targ {xs : List Int} {k1 n1 : Int} {w1 : Int32} {f1 o1 : Int} (h : k1 = 1 ∨ k1 = 5 ∨ k1 = 6) (h1 : targS xs f1 o1 = true) : refQ (targT xs k1 f1 o1) k1 n1 w1 f1 o1 := by
  unfold targT
  rw [if_pos h1]
  refine ⟨fun z => (by cases z), fun tm z => ?_⟩
  cases z
  refine ⟨rfl, fun z => ?_, fun z => ?_, fun d hd => (by cases hd; exact ⟨rfl, rfl⟩), fun z => (by cases z)⟩
  · replace z : k1 = 2 ∨ k1 = 3 ∨ k1 = 4 := z
    omega
  · replace z : k1 = 4 := z
    omega
theorem rq_tno {xs : List Int} {k1 n1 : Int} {w1 : Int32} {f1 o1 a b c : Int} (h1 : targS xs a b = false) (h : k1 = 8) : refQ (targT xs c a b) k1 n1 w1 f1 o1 := by
  unfold targT
  rw [if_neg (nt h1)]
  exact rq_no h
theorem host_kd {xs : List Int} {kd q stop : Int} {tm : Tm} (h : hostS xs kd q stop = some tm) : tm.1 = kd := by
  unfold hostS at h
  split at h
  · cases h
  · split at h
    · cases h
    · cases h
      rfl
theorem rq_host {xs : List Int} {kd q stop k1 n1 : Int} {w1 : Int32} {f1 o1 : Int} (h : hosQ (hostS xs kd q stop) 8 (-1) k1 n1 f1 o1) (hk : kd = 2 ∨ kd = 3) : refQ (hostS xs kd q stop) k1 n1 w1 f1 o1 := by
  refine ⟨h.1, fun tm htm => ?_⟩
  obtain ⟨h1, h2, h3, h4⟩ := h.2 tm htm
  have h5 := host_kd htm
  exact ⟨h1, fun _ => h2, fun z => by omega, h3, fun z _ => h4 z⟩
theorem rq_ip4 {xs : List Int} {q stop n1 : Int} {w1 : Int32} {f1 o1 n9 : Int} {w9 : Int32} (h : ip4S xs q stop = some (4, n9, w9, none)) (hn : n1 = n9) (hw : w1 = w9) : refQ (ip4S xs q stop) 4 n1 w1 f1 o1 := by
  rw [h, hn, hw]
  refine ⟨fun z => (by cases z), fun tm z => ?_⟩
  cases z
  refine ⟨rfl, fun _ => rfl, fun _ => rfl, fun d hd => (by cases hd), fun _ z => ?_⟩
  replace z : (4 : Int) = 2 ∨ (4 : Int) = 3 := z
  omega
theorem quad_ref {xs : List Int} {q stop : Int} (hs : findS xs 47 q stop = findS xs 47 (q + 4) stop) (hq : q + 4 ≤ stop) : quadR xs (findS xs 47 q stop) (q + 4) 0 0 0 0 = quadL xs (findS xs 47 (q + 4) stop) (q + 4) 0 0 0 0 := by
  rw [hs]
  have := findS_rng xs 47 (q + 4) stop
  exact quadR_L xs _ _ _ _ _ _ _ (Nat.lt_succ_self _) (by omega) (by omega) (by omega) (by omega) (by omega) (by omega) (by omega)
theorem refT_k {xs : List Int} {q stop : Int} {tm : Tm} (h : refT xs q stop = some tm) (hq : 0 ≤ q ∧ stop ≤ xs.length) : 0 ≤ tm.1 ∧ tm.1 ≤ 7 := by
  have h1 : rs0 xs q stop true = some tm := by rw [← ref_rs0 hq, h, Option.some_or]
  exact (rs0_P (start := q) h1 (Int.le_refl _) hq.2).1
theorem rq_or {xs : List Int} {q stop : Int} {sg : Bool} {P : Option Tm} {k1 n1 : Int} {w1 : Int32} {f1 o1 : Int} (hT : refQ (refT xs q stop) k1 n1 w1 f1 o1) (hk : ¬ k1 = 8) (hr : (refT xs q stop).or (refM xs q stop sg) = P) : refQ P k1 n1 w1 f1 o1 := by
  cases h : refT xs q stop with
  | none => exact absurd (hT.1 h) hk
  | some tm =>
    rw [h, Option.some_or] at hr
    rw [← hr, ← h]
    exact hT
theorem rq_off {xs : List Int} {q stop : Int} {sg : Bool} {P : Option Tm} {k1 n1 : Int} {w1 : Int32} {f1 o1 : Int} (hT : refQ (refT xs q stop) k1 n1 w1 f1 o1) (hk : k1 = 8) (hr : (refT xs q stop).or (refM xs q stop sg) = P) (hq : 0 ≤ q ∧ stop ≤ xs.length) : refM xs q stop sg = P := by
  cases h : refT xs q stop with
  | none =>
    rw [h, Option.none_or] at hr
    exact hr
  | some tm =>
    have h1 := refT_k h hq
    have h2 := (hT.2 tm h).1
    omega
theorem refM_t {xs : List Int} {q stop : Int} {sg : Bool} (h : sg = true) : refM xs q stop sg = none := by
  unfold refM
  rw [if_pos h]
theorem refM_7 {xs : List Int} {q stop : Int} {sg : Bool} (h : sg = false) (h7 : hasS xs (wrd 7) q stop = true) : refM xs q stop sg = targT xs 6 (q + 9) stop := by
  unfold refM
  rw [if_neg (nt h), if_pos h7]
theorem refM_8 {xs : List Int} {q stop : Int} {sg : Bool} (h : sg = false) (h7 : hasS xs (wrd 7) q stop = false) (hq : q ≤ stop) {z : Int} (hz : wdE xs q stop q = z) : refM xs q stop sg = if q < z ∧ z < stop ∧ atS xs z = 61 then some (7, 32, 0, none) else none := by
  unfold refM
  rw [if_neg (nt h), if_neg (nt h7), other_ref hq, hz]
  by_cases h1 : q < z ∧ z < stop ∧ atS xs z = 61
  · rw [if_pos h1, decide_eq_true h1, if_pos rfl]
  · rw [if_neg h1, decide_eq_false h1, if_neg Bool.false_ne_true]
theorem sg_stop {xs : List Int} {q to : Int} (h : sgP (atS xs q)) (hq : q < to) : q + 1 ≤ findS xs 32 q to := by
  rw [findS_skip hq (by omega)]
  have := findS_rng xs 32 (q + 1) to
  omega
theorem rq_rng {xs : List Int} {q stop k1 n1 : Int} {w1 : Int32} {f1 o1 : Int} (hT : refQ (refT xs q stop) k1 n1 w1 f1 o1) (hq : 0 ≤ q ∧ stop ≤ xs.length) : 0 ≤ k1 ∧ k1 ≤ 8 := by
  cases h : refT xs q stop with
  | none =>
    have := hT.1 h
    omega
  | some tm =>
    have h1 := refT_k h hq
    have h2 := (hT.2 tm h).1
    omega
