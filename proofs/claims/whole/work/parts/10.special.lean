/-! SPECIAL CALLS: rows of the library's own methods, with their words -/
theorem G_objI {E : Cxt} {cc : ByteArray} {y : MethodName} {M : Mp} {k n pc idx a dE mcE msE : Nat} {lv : List (Nat × Value)} {st : List Value} (hC : Cx E cc y) (hR : eR E = rmD dE mcE msE) (w1 : Cond.methodLink y.cls idx Lib.objectInit ∈ TB) (hfr : 1 ≤ dE) (hlo : (st.map fun v => v.category).sum + 12 ≤ 40 * dE) (d : decode cc pc = .ok (.invokespecial idx, 3)) (kk : G E M k n lv st (pc + 3)) : G E M k n lv (.ref a :: st) pc :=
  G_objInit hC w1 w_oiM w_oiC (by rw [hR]; exact hfr) (by rw [hR]; exact hlo) d kk
theorem G_minX {E : Cxt} {cc : ByteArray} {y : MethodName} {M : Mp} {k n pc idx dE mcE msE : Nat} {lv : List (Nat × Value)} {st : List Value} {a b c : Int} (hC : Cx E cc y) (hR : eR E = rmD dE mcE msE) (w1 : Cond.methodLink y.cls idx Lib.Math.min.name ∈ TB) (ha9 : -2147483648 ≤ a ∧ a ≤ 2147483647) (hb9 : -2147483648 ≤ b ∧ b ≤ 2147483647) (hc : c = min a b) (hfr : 1 ≤ dE) (hlo : (st.map fun v => v.category).sum + 13 ≤ 40 * dE) (hk : k ≤ mcE) (hn : n ≤ msE) (d : decode cc pc = .ok (.invokestatic idx, 3))
    (kk : G E M k n lv (vI c :: st) (pc + 3)) : G E M k n lv (vI b :: vI a :: st) pc := by
  refine G_min hC w1 w_miS w_maI w_miC ha9 hb9 (by rw [hR]; exact hfr) (by rw [hR]; exact hlo) (by rw [hR]; exact hk) (by rw [hR]; exact hn) d ?_
  have e : (if b < a then b else a) = c := by
    rw [hc]
    split <;> omega
  rw [e]
  exact kk
theorem G_maxX {E : Cxt} {cc : ByteArray} {y : MethodName} {M : Mp} {k n pc idx dE mcE msE : Nat} {lv : List (Nat × Value)} {st : List Value} {a b c : Int} (hC : Cx E cc y) (hR : eR E = rmD dE mcE msE) (w1 : Cond.methodLink y.cls idx Lib.Math.max.name ∈ TB) (ha9 : -2147483648 ≤ a ∧ a ≤ 2147483647) (hb9 : -2147483648 ≤ b ∧ b ≤ 2147483647) (hc : c = max a b) (hfr : 1 ≤ dE) (hlo : (st.map fun v => v.category).sum + 13 ≤ 40 * dE) (hk : k ≤ mcE) (hn : n ≤ msE) (d : decode cc pc = .ok (.invokestatic idx, 3))
    (kk : G E M k n lv (vI c :: st) (pc + 3)) : G E M k n lv (vI b :: vI a :: st) pc := by
  refine G_max hC w1 w_mxS w_maI w_mxC ha9 hb9 (by rw [hR]; exact hfr) (by rw [hR]; exact hlo) (by rw [hR]; exact hk) (by rw [hR]; exact hn) d ?_
  have e : (if a < b then b else a) = c := by
    rw [hc]
    split <;> omega
  rw [e]
  exact kk
theorem Row.take {D : Dg} {M : Mp} {r t len : Nat} {xs : List Int} (h : Row D M r t len xs) (n : Nat) : Row D M r t len (xs.take n) := by
  obtain ⟨g, h1, h2, h3, h4, h5⟩ := h
  refine ⟨g, h1, ?_, h3, h4, fun j hj => ?_⟩
  · rw [List.length_take]
    omega
  · rw [List.length_take] at hj
    rw [h5 j (by omega)]
    simp only [List.getD_eq_getElem?_getD]
    rw [List.getElem?_take_of_lt (by omega)]
