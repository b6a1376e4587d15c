/-! MORE ROWS -/
theorem G_vIN {E : Cxt} {cc cc' : ByteArray} {y y' : MethodName} {host : String} {M : Mp} {k n pc idx d0 dE mcE msE nL' np b : Nat} {lv : List (Nat × Value)} {st As rest : List Value} (hC : Cx E cc y) (hR : eR E = rmD dE mcE msE) (hM : OkV (eL E) (eD E) (eB E) d0 y' cc' nL' none M (.ref b :: As)) (hW : CMi y.cls idx y' host cc' nL' np) (hd : d0 + 1 ≤ dE) (hk : k ≤ mcE) (hn : n ≤ msE) (hnp : As.length = np) (hst : st = As.reverse ++ .ref b :: rest) (hrm : (rest.map fun v => v.category).sum ≤ 8) (d : decode cc pc = .ok (.invokespecial idx, 3))
    (kk : G E M k n lv rest (pc + 3)) : G E M k n lv st pc :=
  G_xIN hC hR hM hW hd hk hn hnp hst hrm d (fun r M' hp => by obtain ⟨rfl, rfl⟩ := hp; exact kk)
theorem cut0 (b : Bv) : cutB b 0 = (b.1, []) := by
  unfold cutB
  by_cases h : (0 : Int) ≤ 0 ∧ (0 : Int) < b.2.length
  · rw [if_pos h]
    rfl
  · rw [if_neg h]
    have h1 : b.2 = [] := List.length_eq_zero_iff.mp (by omega)
    rw [← h1]
theorem cut0_psi (lim : Int) (b : Bv) (_ : (b.1 : Int) ≤ lim) : psi lim (b.1, ([] : List Int)) = psi lim b := rfl
