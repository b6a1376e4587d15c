/-! AN ENTRY TAKEN -/
def blkS (xs : List Int) : Int := findS xs 32 0 xs.length
def entS (xs : List Int) (sort : Int) (ad : Int32) : Option Ent := if goodP xs sort (blkS xs) then some (sort, ad, xs.take (blkS xs).toNat, xs.drop (min (blkS xs + 1) xs.length).toNat) else none
theorem IsDir_push {D : Dg} {M M' : Mp} {a ar q : Nat} {es : List Ent} {f : Nat → Option Nat} {x : Ent} {T : List Nat} (h4 : ∀ (j : Nat) (y : Ent), es[j]? = some y → ∃ e : Nat, f j = some e ∧ IsE D M e (200 + 5 * j) y) (hf : Fr T M M') (hT : ∀ u ∈ T, u = 6 ∨ u = 7 ∨ 200 + 5 * es.length ≤ u) (h1 : M' a = some (6, .inr (cDi, [.ref ar, vI ((es.length : Int) + 1)]))) (h2 : M' ar = some (7, arR D 2 40 (va_up f es.length (some q)))) (hx : IsE D M' q (200 + 5 * es.length) x) (hl : es.length < 40) : IsDir D M' a (es ++ [x]) := by
  have e9 : (((es ++ [x]).length : Nat) : Int) = (es.length : Int) + 1 := by simp
  refine ⟨ar, _, by rw [e9]; exact h1, h2, by simp; omega, fun j y hj => ?_⟩
  by_cases hjn : j < es.length
  · rw [List.getElem?_append_left hjn] at hj
    obtain ⟨e, g1, g2⟩ := h4 j y hj
    refine ⟨e, ?_, g2.fr hf (fun u hu => ?_)⟩
    · unfold va_up
      rw [if_neg (by omega)]
      exact g1
    · have := hT u hu
      omega
  · have hj2 : j = es.length := by
      have := (List.getElem?_eq_some_iff.mp hj).1
      simp at this
      omega
    subst hj2
    simp at hj
    subst hj
    refine ⟨q, ?_, hx⟩
    unfold va_up
    rw [if_pos rfl]
theorem addPB_tail {ys : List Int} {n : Nat} {v : Int} (h : 0 ≤ v ∧ v ≤ ys.length) : (addPB ((ys.length : Int) - v) (n, []) ys v ys.length).2 = ys.drop v.toNat := by
  by_cases h1 : v = ys.length
  · rw [addPB_none (by omega), List.drop_eq_nil_of_le (by omega)]
  · rw [addPB_app (by omega) (by omega), List.take_of_length_le]
    rw [List.length_drop]
    omega
theorem addPB_head {ys : List Int} {n : Nat} {v : Int} (h : 0 < v ∧ v ≤ ys.length) : (addPB v (n, []) ys 0 v).2 = ys.take v.toNat := by
  rw [addPB_app (by omega) (by omega), Int.sub_zero]
  rfl
/-- the entries behind a taking -/
def takeS (es : List Ent) (xs : List Int) (sort : Int) (ad : Int32) : Option (List Ent) := if es.length < 40 then (entS xs sort ad).map (fun x => es ++ [x]) else none
theorem take_no {es : List Ent} {xs : List Int} {sort : Int} {ad : Int32} (h : decide (es.length < 40) = false ∨ entS xs sort ad = none) : (takeS es xs sort ad).isSome = false ∧ (takeS es xs sort ad).getD es = es := by
  unfold takeS
  rcases h with h | h
  · rw [if_neg (of_decide_eq_false h)]
    exact ⟨rfl, rfl⟩
  · rw [h]
    split <;> exact ⟨rfl, rfl⟩
theorem take_yes {es : List Ent} {xs : List Int} {sort : Int} {ad : Int32} {x : Ent} (h : es.length < 40) (hx : entS xs sort ad = some x) : (takeS es xs sort ad).isSome = true ∧ (takeS es xs sort ad).getD es = es ++ [x] := by
  unfold takeS
  rw [if_pos h, hx]
  exact ⟨rfl, rfl⟩
