/-! OBJECTS: entries and the directory -/
abbrev Ent : Type := Int × Int32 × List Int × List Int
def IsE (D : Dg) (M : Mp) (e t : Nat) (x : Ent) : Prop := ∃ (nm vl : Nat) (l1 l2 : Int) (bn bv : Bv), M e = some (t, .inr (cEn, [vI x.1, .int x.2.1, .ref nm, .ref vl])) ∧ IsB D M nm (t + 1) l1 bn ∧ IsB D M vl (t + 3) l2 bv ∧ bn.2 = x.2.2.1 ∧ bv.2 = x.2.2.2 ∧ 0 ≤ x.1 ∧ x.1 ≤ 3
theorem IsE.fr {D : Dg} {M M' : Mp} {e t : Nat} {x : Ent} {T : List Nat} (h : IsE D M e t x) (hf : Fr T M M') (hn : ∀ u ∈ T, u < t ∨ t + 4 < u) : IsE D M' e t x := by
  obtain ⟨nm, vl, l1, l2, bn, bv, h1, h2, h3, h4⟩ := h
  have g : ∀ i : Nat, i ≤ 4 → t + i ∉ T := fun i hi z => by
    have := hn _ z
    omega
  exact ⟨nm, vl, l1, l2, bn, bv, hf.at h1 (g 0 (by omega)), h2.fr hf (g 1 (by omega)) (g 2 (by omega)), h3.fr hf (g 3 (by omega)) (g 4 (by omega)), h4⟩
theorem IsE.obj {D : Dg} {M : Mp} {e t : Nat} {x : Ent} (h : IsE D M e t x) : IsObj M e cEn := by
  obtain ⟨nm, vl, l1, l2, bn, bv, h1, -⟩ := h
  exact ⟨_, _, h1⟩
def IsDir (D : Dg) (M : Mp) (d : Nat) (es : List Ent) : Prop := ∃ (ar : Nat) (f : Nat → Option Nat), M d = some (6, .inr (cDi, [.ref ar, vI (es.length : Int)])) ∧ M ar = some (7, arR D 2 40 f) ∧ es.length ≤ 40 ∧ ∀ (j : Nat) (x : Ent), es[j]? = some x → ∃ e : Nat, f j = some e ∧ IsE D M e (200 + 5 * j) x
theorem IsDir.fr {D : Dg} {M M' : Mp} {d : Nat} {es : List Ent} {T : List Nat} (h : IsDir D M d es) (hf : Fr T M M') (hn : ∀ u ∈ T, u < 6 ∨ (7 < u ∧ u < 200) ∨ 399 < u) : IsDir D M' d es := by
  obtain ⟨ar, f, h1, h2, h3, h4⟩ := h
  refine ⟨ar, f, hf.at h1 (fun z => ?_), hf.at h2 (fun z => ?_), h3, fun j x hj => ?_⟩
  · have := hn _ z
    omega
  · have := hn _ z
    omega
  · obtain ⟨e, g1, g2⟩ := h4 j x hj
    have hj9 : j < es.length := (List.getElem?_eq_some_iff.mp hj).1
    exact ⟨e, g1, g2.fr hf (fun u hu => by have := hn u hu; omega)⟩
theorem IsDir.obj {D : Dg} {M : Mp} {d : Nat} {es : List Ent} (h : IsDir D M d es) : IsObj M d cDi := by
  obtain ⟨ar, f, h1, -⟩ := h
  exact ⟨_, _, h1⟩
theorem IsDir.len {D : Dg} {M : Mp} {d : Nat} {es : List Ent} (h : IsDir D M d es) : es.length ≤ 40 := by
  obtain ⟨ar, f, h1, h2, h3, -⟩ := h
  exact h3
theorem get_of {es : List Ent} {k : Int} (h : 0 ≤ k ∧ k < es.length) : ∃ x : Ent, es[k.toNat]? = some x ∧ es.drop k.toNat = x :: es.drop (k + 1).toNat := by
  have h1 : k.toNat < es.length := by omega
  refine ⟨es[k.toNat], List.getElem?_eq_getElem h1, ?_⟩
  rw [List.drop_eq_getElem_cons h1]
  have e : (k + 1).toNat = k.toNat + 1 := by omega
  rw [e]
/-! what the directory answers -/
def isD (sort : Int) (nm : List Int) (e : Ent) : Bool := decide (e.1 = sort ∧ e.2.2.1 = nm)
def hasD (es : List Ent) (sort : Int) (nm : List Int) : Bool := es.any (isD sort nm)
theorem isD_no {sort : Int} {nm : List Int} {x : Ent} (h : ¬ (x.1 = sort ∧ x.2.2.1 = nm)) : isD sort nm x = false := decide_eq_false h
theorem isD_yes {sort : Int} {nm : List Int} {x : Ent} (h : x.1 = sort ∧ x.2.2.1 = nm) : isD sort nm x = true := decide_eq_true h
theorem G_X2I {E : Cxt} {M : Mp} {k n pc : Nat} {lv : List (Nat × Value)} {st : List Value} {x : Int32} (kk : G E M k n lv (vI x.toInt :: st) pc) : G E M k n lv (.int x :: st) pc := by
  have e : vI x.toInt = .int x := congrArg Value.int (zI_self x)
  rw [e] at kk
  exact kk
def sbS (a b : Int32) (n : Int) : Bool := decide (n ≤ 0 ∨ (((a ^^^ b).toUInt32 >>> ((zI (32 - n)).toUInt32 &&& Int32.toUInt32 31)).toInt32).toInt = 0)
abbrev recP (v : List Int) : Prop := hasS v (wrd 0) 0 v.length = true ∧ ((v.length : Int) = ((wrd 0).length : Int) ∨ atS v ((wrd 0).length : Int) = 32)
def isP (nm : List Int) (e : Ent) : Bool := decide (e.1 = 0 ∧ recP e.2.2.2 ∧ e.2.2.1 = nm)
def reaP (nm : List Int) (a : Int32) (n : Int) (e : Ent) : Bool := decide (e.1 = 1 ∧ sbS e.2.1 a n = true ∧ e.2.2.1 = nm)
def reaD (es : List Ent) (nm : List Int) (a : Int32) (n : Int) : Bool := es.any (reaP nm a n)
theorem reaP_no {nm : List Int} {a : Int32} {n : Int} {x : Ent} (h : ¬ (x.1 = 1 ∧ sbS x.2.1 a n = true ∧ x.2.2.1 = nm)) : reaP nm a n x = false := decide_eq_false h
theorem reaP_yes {nm : List Int} {a : Int32} {n : Int} {x : Ent} (h : x.1 = 1 ∧ sbS x.2.1 a n = true ∧ x.2.2.1 = nm) : reaP nm a n x = true := decide_eq_true h
/-- whether an entry may be taken -/
abbrev goodP (xs : List Int) (sort blank : Int) : Prop := nameS xs 0 blank = true ∧ ((sort = 0 ∧ ¬ blank = xs.length ∧ xs.length - blank - 1 ≤ 700) ∨ (sort = 2 ∧ ¬ blank = xs.length ∧ nameS xs (blank + 1) xs.length = true) ∨ ((sort = 1 ∨ sort = 3) ∧ blank = xs.length))
theorem G_aretN {E : Cxt} {cc : ByteArray} {y : MethodName} {M : Mp} {lv : List (Nat × Value)} {pc : Nat} {c : String} (hC : Cx E cc y) (hQ : Cr E (some (.object c)) 0 0 (fun r M' => r = some .null ∧ M' = M)) (d : decode cc pc = .ok (.areturn, 1)) : G E M 0 0 lv [.null] pc := G_areturn hC hQ (Or.inl ⟨_, rfl⟩) (Or.inl rfl) (Nat.le_refl _) (Nat.le_refl _) d ⟨rfl, rfl⟩
