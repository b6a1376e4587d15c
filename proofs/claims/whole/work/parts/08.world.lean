/-! WORLDS BY TAGS: what a method leaves as it was, rows of bytes, and the rows of G in the form in which walks use them -/
/-- every cell whose tag isn't in T is as it was -/
def Fr (T : List Nat) (M M' : Mp) : Prop := ∀ (q t : Nat) (c : va_E), M q = some (t, c) → t ∉ T → M' q = some (t, c)
theorem Fr.rf {T : List Nat} {M : Mp} : Fr T M M := fun _ _ _ h _ => h
theorem Fr.tr {T1 T2 : List Nat} {M1 M2 M3 : Mp} (h1 : Fr T1 M1 M2) (h2 : Fr T2 M2 M3) : Fr (T1 ++ T2) M1 M3 := fun q t c h hn => h2 q t c (h1 q t c h (fun z => hn (List.mem_append_left _ z))) (fun z => hn (List.mem_append_right _ z))
theorem Fr.tr' {T T1 T2 : List Nat} {M1 M2 M3 : Mp} (h1 : Fr T1 M1 M2) (h2 : Fr T2 M2 M3) (s1 : ∀ t ∈ T1, t ∈ T) (s2 : ∀ t ∈ T2, t ∈ T) : Fr T M1 M3 := fun q t c h hn => h2 q t c (h1 q t c h (fun z => hn (s1 t z))) (fun z => hn (s2 t z))
theorem Fr.up {T T1 : List Nat} {M1 M2 : Mp} (h1 : Fr T1 M1 M2) (s1 : ∀ t ∈ T1, t ∈ T) : Fr T M1 M2 := fun q t c h hn => h1 q t c h (fun z => hn (s1 t z))
theorem Fr.at {T : List Nat} {M M' : Mp} {q t : Nat} {c : va_E} (h : Fr T M M') (hc : M q = some (t, c)) (hn : t ∉ T) : M' q = some (t, c) := h q t c hc hn
theorem Fr_set {M : Mp} {a t : Nat} {c0 c1 : va_E} (h : M a = some (t, c0)) : Fr [t] M (mset M a (t, c1)) := fun q u c hq hn => by
  have hne : q ≠ a := fun z => by
    subst z
    rw [h] at hq
    cases hq
    exact hn List.mem_cons_self
  rw [mset_ne hne]
  exact hq
theorem Fr_new {M : Mp} {a : Nat} {c1 : Cel} (h : M a = none) : Fr [] M (mset M a c1) := fun q u c hq _ => by
  have hne : q ≠ a := fun z => by
    subst z
    rw [h] at hq
    cases hq
  rw [mset_ne hne]
  exact hq
/-! rows of bytes -/
def gx (xs : List Int) (i : Int) : Int := xs.getD i.toNat 0
def Row (D : Dg) (M : Mp) (r t len : Nat) (xs : List Int) : Prop := ∃ g : Nat → Int, M r = some (t, arB D len g) ∧ xs.length ≤ len ∧ len ≤ 20000 ∧ (∀ j : Nat, -128 ≤ g j ∧ g j ≤ 127) ∧ ∀ j : Nat, j < xs.length → g j = xs.getD j 0
theorem Row.fr {D : Dg} {M M' : Mp} {r t len : Nat} {xs : List Int} {T : List Nat} (h : Row D M r t len xs) (hf : Fr T M M') (hn : t ∉ T) : Row D M' r t len xs := by
  obtain ⟨g, h1, h2⟩ := h
  exact ⟨g, hf.at h1 hn, h2⟩
theorem Row.len {D : Dg} {M : Mp} {r t len : Nat} {xs : List Int} (h : Row D M r t len xs) : xs.length ≤ len ∧ len ≤ 20000 := by
  obtain ⟨g, h1, h2, h3, -⟩ := h
  exact ⟨h2, h3⟩
theorem Row.rng {D : Dg} {M : Mp} {r t len : Nat} {xs : List Int} (h : Row D M r t len xs) (i : Int) : -128 ≤ gx xs i ∧ gx xs i ≤ 127 := by
  obtain ⟨g, h1, h2, h3, h4, h5⟩ := h
  unfold gx
  by_cases hi : i.toNat < xs.length
  · rw [← h5 _ hi]
    exact h4 _
  · rw [gD_ge (by omega)]
    omega
/-- all bytes -/
def byR (xs : List Int) : Prop := ∀ i : Int, -128 ≤ gx xs i ∧ gx xs i ≤ 127
theorem G_baldR {E : Cxt} {cc : ByteArray} {y : MethodName} {M : Mp} {k n pc a t len : Nat} {lv : List (Nat × Value)} {st : List Value} {xs : List Int} {i : Int} (hC : Cx E cc y) (ha : Row (eD E) M a t len xs) (hi : 0 ≤ i ∧ i < xs.length) (d : decode cc pc = .ok (.baload, 1)) (kk : G E M k n lv (vI (gx xs i) :: st) (pc + 1)) : G E M k n lv (vI i :: .ref a :: st) pc := by
  obtain ⟨g, h1, h2, h3, h4, h5⟩ := ha
  refine G_bald hC h1 (by omega) (by omega) d ?_
  rw [h5 _ (by omega)]
  exact kk
theorem G_alenR {E : Cxt} {cc : ByteArray} {y : MethodName} {M : Mp} {k n pc a t len : Nat} {lv : List (Nat × Value)} {st : List Value} {xs : List Int} (hC : Cx E cc y) (ha : Row (eD E) M a t len xs) (d : decode cc pc = .ok (.arraylength, 1)) (kk : G E M k n lv (vI len :: st) (pc + 1)) : G E M k n lv (.ref a :: st) pc := by
  obtain ⟨g, h1, h2⟩ := ha
  exact G_alen (q := 0) hC h1 rfl d kk
/-- a byte put behind the last one -/
theorem G_bastR {E : Cxt} {cc : ByteArray} {y : MethodName} {M : Mp} {k n pc a t len : Nat} {lv : List (Nat × Value)} {st : List Value} {xs : List Int} {i x : Int} (hC : Cx E cc y) (ha : Row (eD E) M a t len xs) (hi : i = xs.length) (hi2 : i < len) (hx : -128 ≤ x ∧ x ≤ 127) (d : decode cc pc = .ok (.bastore, 1)) (kk : ∀ M' : Mp, Row (eD E) M' a t len (xs ++ [x]) → Fr [t] M M' → G E M' k n lv st (pc + 1)) : G E M k n lv (vI x :: vI i :: .ref a :: st) pc := by
  obtain ⟨g, h1, h2, h3, h4, h5⟩ := ha
  have ei : i.toNat = xs.length := by omega
  refine G_bast hC h1 (by omega) (by omega) hx d (kk _ ⟨_, mset_self _ _ _, ?_, h3, ?_, ?_⟩ (Fr_set h1))
  · rw [List.length_append, List.length_singleton]
    omega
  · intro j
    unfold updZ
    split
    · exact hx
    · exact h4 j
  · intro j hj
    rw [List.length_append, List.length_singleton] at hj
    unfold updZ
    rw [ei]
    by_cases hjj : j = xs.length
    · subst hjj
      simp
    · rw [if_neg hjj, h5 j (by omega)]
      simp only [List.getD_eq_getElem?_getD]
      rw [List.getElem?_append_left (show j < xs.length by omega)]
theorem G_iand255 {E : Cxt} {cc : ByteArray} {y : MethodName} {M : Mp} {k n pc : Nat} {lv : List (Nat × Value)} {st : List Value} {a : Int} (hC : Cx E cc y) (ha : -2147483648 ≤ a ∧ a ≤ 2147483647) (d : decode cc pc = .ok (.iand, 1)) (kk : G E M k n lv (vI (a % 256) :: st) (pc + 1)) : G E M k n lv (vI 255 :: vI a :: st) pc := G_iand hC (zI_and255' ha) d kk
theorem G_i2bR {E : Cxt} {cc : ByteArray} {y : MethodName} {M : Mp} {k n pc : Nat} {lv : List (Nat × Value)} {st : List Value} {a : Int} (hC : Cx E cc y) (ha : -2147483648 ≤ a ∧ a ≤ 2147483647) (d : decode cc pc = .ok (.i2b, 1)) (kk : G E M k n lv (vI (sgb a) :: st) (pc + 1)) : G E M k n lv (vI a :: st) pc := G_i2b hC (zI_i2b ha) d kk
/-! writing fields -/
theorem G_putX {E : Cxt} {cc : ByteArray} {y : MethodName} {M : Mp} {k n pc idx ci kf a t : Nat} {lv : List (Nat × Value)} {st fs fs' : List Value} {v : Value} {tys : Nat → FieldType} (hC : Cx E cc y) (hF : FL y.cls idx ci kf) (hT : FT ci tys) (hW : FW ci kf) (ha : M a = some (t, .inr (ci, fs))) (hn : narrow (tys kf) v = v) (hfit : fits (tys kf) v = true) (hlen : kf < fs.length) (hfs : fs.set kf v = fs') (d : decode cc pc = .ok (.putfield idx, 3)) (kk : ∀ M' : Mp, M' a = some (t, .inr (ci, fs')) → Fr [t] M M' → G E M' k n lv st (pc + 3)) : G E M k n lv (v :: .ref a :: st) pc := by
  subst hfs
  exact G_put hC hF hT hW ha hn hfit hlen d (kk _ (mset_self _ _ _) (Fr_set ha))
theorem G_putFX {E : Cxt} {cc : ByteArray} {y : MethodName} {M : Mp} {k n pc idx ci kf a t : Nat} {lv : List (Nat × Value)} {st fs fs' : List Value} {v : Value} {tys : Nat → FieldType} (hC : Cx E cc y) (hF : FL y.cls idx ci kf) (hT : FT ci tys) (hW : FF y.cls ci kf) (hy : y.name = "<init>") (ha : M a = some (t, .inr (ci, fs))) (hn : narrow (tys kf) v = v) (hfit : fits (tys kf) v = true) (hlen : kf < fs.length) (hfs : fs.set kf v = fs') (d : decode cc pc = .ok (.putfield idx, 3)) (kk : ∀ M' : Mp, M' a = some (t, .inr (ci, fs')) → Fr [t] M M' → G E M' k n lv st (pc + 3)) : G E M k n lv (v :: .ref a :: st) pc := by
  subst hfs
  exact G_putF hC hF hT hW hy ha hn hfit hlen d (kk _ (mset_self _ _ _) (Fr_set ha))
/-! ends of methods that change nothing -/
theorem G_iretP {E : Cxt} {cc : ByteArray} {y : MethodName} {M : Mp} {lv : List (Nat × Value)} {pc : Nat} {x X : Int} (hC : Cx E cc y) (hQ : Cr E (some .int) 0 0 (fun r M' => r = some (vI X) ∧ M' = M)) (d : decode cc pc = .ok (.ireturn, 1)) (he : x = X) : G E M 0 0 lv [vI x] pc := G_ireturn hC hQ (Nat.le_refl _) (Nat.le_refl _) d ⟨by rw [he], rfl⟩
theorem G_zretP {E : Cxt} {cc : ByteArray} {y : MethodName} {M : Mp} {lv : List (Nat × Value)} {pc : Nat} {x : Int} {B : Bool} (hC : Cx E cc y) (hQ : Cr E (some .boolean) 0 0 (fun r M' => r = some (vI (b2i B)) ∧ M' = M)) (d : decode cc pc = .ok (.ireturn, 1)) (he : x = b2i B) : G E M 0 0 lv [vI x] pc := by
  subst he
  exact G_zreturn hC hQ (Nat.le_refl _) (Nat.le_refl _) (nar_b B) d ⟨rfl, rfl⟩
theorem G_aretP {E : Cxt} {cc : ByteArray} {y : MethodName} {M : Mp} {lv : List (Nat × Value)} {pc a : Nat} {c : String} (hC : Cx E cc y) (hQ : Cr E (some (.object c)) 0 0 (fun r M' => r = some (.ref a) ∧ M' = M)) (d : decode cc pc = .ok (.areturn, 1)) : G E M 0 0 lv [.ref a] pc := G_areturn hC hQ (Or.inl ⟨_, rfl⟩) (Or.inr ⟨_, rfl⟩) (Nat.le_refl _) (Nat.le_refl _) d ⟨rfl, rfl⟩
/-! ends of methods that change something -/
theorem G_iretX {E : Cxt} {cc : ByteArray} {y : MethodName} {M : Mp} {lv : List (Nat × Value)} {pc k n mc ms : Nat} {x : Int} {Post : Option Value → Mp → Prop} (hC : Cx E cc y) (hQ : Cr E (some .int) mc ms Post) (hk : k ≤ mc) (hn : n ≤ ms) (d : decode cc pc = .ok (.ireturn, 1)) (hp : Post (some (vI x)) M) : G E M k n lv [vI x] pc := G_ireturn hC hQ hk hn d hp
theorem G_zretX {E : Cxt} {cc : ByteArray} {y : MethodName} {M : Mp} {lv : List (Nat × Value)} {pc k n mc ms : Nat} {x : Int} (B : Bool) {Post : Option Value → Mp → Prop} (hC : Cx E cc y) (hQ : Cr E (some .boolean) mc ms Post) (hk : k ≤ mc) (hn : n ≤ ms) (d : decode cc pc = .ok (.ireturn, 1)) (he : x = b2i B) (hp : Post (some (vI (b2i B))) M) : G E M k n lv [vI x] pc := by
  subst he
  exact G_zreturn hC hQ hk hn (nar_b B) d hp
/-! calls -/
def CV (own : String) (idx : Nat) (y : MethodName) (cc : ByteArray) (nL : Nat) (ret : Option FieldType) (np ci : Nat) : Prop := MW y cc nL ret np ∧ Cond.methodLink own idx y ∈ TB ∧ Cond.instanceMethod y ∈ TB ∧ Cond.selects y.cls y y ∈ TB ∧ ∃ r0 : vw_C, vwCl[ci]? = some r0 ∧ r0.1 = y.cls
def CS (own : String) (idx : Nat) (y : MethodName) (cc : ByteArray) (nL : Nat) (ret : Option FieldType) (np : Nat) : Prop := MW y cc nL ret np ∧ Cond.methodLink own idx y ∈ TB ∧ Cond.static y ∈ TB
def CI (own : String) (idx : Nat) (y : MethodName) (cc : ByteArray) (nL np : Nat) : Prop := MW y cc nL none np ∧ Cond.methodLink own idx y ∈ TB ∧ Cond.instanceMethod y ∈ TB ∧ y.name = "<init>"
theorem G_xV {E : Cxt} {cc cc' : ByteArray} {y y' : MethodName} {M : Mp} {k n pc idx d0 dE mcE msE mc ms nL' np b ci : Nat} {ret : Option FieldType} {lv : List (Nat × Value)} {st As rest : List Value} {Post : Option Value → Mp → Prop} (hC : Cx E cc y) (hR : eR E = rmD dE mcE msE) (hM : Ok (eL E) (eD E) (eB E) d0 y' cc' nL' ret M (.ref b :: As) mc ms Post) (hW : CV y.cls idx y' cc' nL' ret np ci) (hb9 : IsObj M b ci) (hd : d0 + 1 ≤ dE) (hk : k + mc ≤ mcE) (hn : n + ms ≤ msE) (hnp : As.length = np) (hst : st = As.reverse ++ .ref b :: rest) (hrm : (rest.map fun v => v.category).sum ≤ 8) (d : decode cc pc = .ok (.invokevirtual idx, 3))
    (kk : ∀ (r : Option Value) (M' : Mp), Post r M' → G E M' (k + mc) (n + ms) lv (r.toList ++ rest) (pc + 3)) : G E M k n lv st pc := by
  obtain ⟨w0, w1, w2, w3, r0, w4, w5⟩ := hW
  refine G_callV hC hM w0 w1 w2 w3 hb9 w4 w5 ?_ ?_ hnp hst hrm ?_ d kk
  · rw [hR]; exact hd
  · rw [hR]; show 40 * (d0 + 1) ≤ 40 * dE; omega
  · rw [hR]; exact ⟨hk, hn⟩
theorem G_xS {E : Cxt} {cc cc' : ByteArray} {y y' : MethodName} {M : Mp} {k n pc idx d0 dE mcE msE mc ms nL' np : Nat} {ret : Option FieldType} {lv : List (Nat × Value)} {st av rest : List Value} {Post : Option Value → Mp → Prop} (hC : Cx E cc y) (hR : eR E = rmD dE mcE msE) (hM : Ok (eL E) (eD E) (eB E) d0 y' cc' nL' ret M av mc ms Post) (hW : CS y.cls idx y' cc' nL' ret np) (hd : d0 + 1 ≤ dE) (hk : k + mc ≤ mcE) (hn : n + ms ≤ msE) (hnp : av.length = np) (hst : st = av.reverse ++ rest) (hrm : (rest.map fun v => v.category).sum ≤ 8) (d : decode cc pc = .ok (.invokestatic idx, 3))
    (kk : ∀ (r : Option Value) (M' : Mp), Post r M' → G E M' (k + mc) (n + ms) lv (r.toList ++ rest) (pc + 3)) : G E M k n lv st pc := by
  obtain ⟨w0, w1, w2⟩ := hW
  refine G_callS hC hM w0 w1 w2 ?_ ?_ hnp hst hrm ?_ d kk
  · rw [hR]; exact hd
  · rw [hR]; show 40 * (d0 + 1) ≤ 40 * dE; omega
  · rw [hR]; exact ⟨hk, hn⟩
theorem G_xI {E : Cxt} {cc cc' : ByteArray} {y y' : MethodName} {M : Mp} {k n pc idx d0 dE mcE msE mc ms nL' np b : Nat} {lv : List (Nat × Value)} {st As rest : List Value} {Post : Option Value → Mp → Prop} (hC : Cx E cc y) (hR : eR E = rmD dE mcE msE) (hM : Ok (eL E) (eD E) (eB E) d0 y' cc' nL' none M (.ref b :: As) mc ms Post) (hW : CI y.cls idx y' cc' nL' np) (hd : d0 + 1 ≤ dE) (hk : k + mc ≤ mcE) (hn : n + ms ≤ msE) (hnp : As.length = np) (hst : st = As.reverse ++ .ref b :: rest) (hrm : (rest.map fun v => v.category).sum ≤ 8) (d : decode cc pc = .ok (.invokespecial idx, 3))
    (kk : ∀ (r : Option Value) (M' : Mp), Post r M' → G E M' (k + mc) (n + ms) lv (r.toList ++ rest) (pc + 3)) : G E M k n lv st pc := by
  obtain ⟨w0, w1, w2, w3⟩ := hW
  refine G_callI hC hM w0 w1 w2 w3 ?_ ?_ hnp hst hrm ?_ d kk
  · rw [hR]; exact hd
  · rw [hR]; show 40 * (d0 + 1) ≤ 40 * dE; omega
  · rw [hR]; exact ⟨hk, hn⟩
theorem G_pV {E : Cxt} {cc cc' : ByteArray} {y y' : MethodName} {M : Mp} {k n pc idx d0 dE mcE msE nL' np b ci : Nat} {ret : Option FieldType} {lv : List (Nat × Value)} {st As rest : List Value} {v : Value} (hC : Cx E cc y) (hR : eR E = rmD dE mcE msE) (hM : OkP (eL E) (eD E) (eB E) d0 y' cc' nL' ret M (.ref b :: As) v) (hW : CV y.cls idx y' cc' nL' ret np ci) (hb9 : IsObj M b ci) (hd : d0 + 1 ≤ dE) (hk : k ≤ mcE) (hn : n ≤ msE) (hnp : As.length = np) (hst : st = As.reverse ++ .ref b :: rest) (hrm : (rest.map fun v => v.category).sum ≤ 8) (d : decode cc pc = .ok (.invokevirtual idx, 3))
    (kk : G E M k n lv (v :: rest) (pc + 3)) : G E M k n lv st pc :=
  G_xV hC hR hM hW hb9 hd hk hn hnp hst hrm d (fun r M' hp => by obtain ⟨rfl, rfl⟩ := hp; exact kk)
theorem G_pS {E : Cxt} {cc cc' : ByteArray} {y y' : MethodName} {M : Mp} {k n pc idx d0 dE mcE msE nL' np : Nat} {ret : Option FieldType} {lv : List (Nat × Value)} {st av rest : List Value} {v : Value} (hC : Cx E cc y) (hR : eR E = rmD dE mcE msE) (hM : OkP (eL E) (eD E) (eB E) d0 y' cc' nL' ret M av v) (hW : CS y.cls idx y' cc' nL' ret np) (hd : d0 + 1 ≤ dE) (hk : k ≤ mcE) (hn : n ≤ msE) (hnp : av.length = np) (hst : st = av.reverse ++ rest) (hrm : (rest.map fun v => v.category).sum ≤ 8) (d : decode cc pc = .ok (.invokestatic idx, 3))
    (kk : G E M k n lv (v :: rest) (pc + 3)) : G E M k n lv st pc :=
  G_xS hC hR hM hW hd hk hn hnp hst hrm d (fun r M' hp => by obtain ⟨rfl, rfl⟩ := hp; exact kk)
def OkV (l : Launch) (D : Dg) (b0 d : Nat) (y : MethodName) (cc : ByteArray) (nL : Nat) (ret : Option FieldType) (M : Mp) (av : List Value) : Prop := Ok l D b0 d y cc nL ret M av 0 0 (fun r M' => r = none ∧ M' = M)
theorem G_vV {E : Cxt} {cc cc' : ByteArray} {y y' : MethodName} {M : Mp} {k n pc idx d0 dE mcE msE nL' np b ci : Nat} {ret : Option FieldType} {lv : List (Nat × Value)} {st As rest : List Value} (hC : Cx E cc y) (hR : eR E = rmD dE mcE msE) (hM : OkV (eL E) (eD E) (eB E) d0 y' cc' nL' ret M (.ref b :: As)) (hW : CV y.cls idx y' cc' nL' ret np ci) (hb9 : IsObj M b ci) (hd : d0 + 1 ≤ dE) (hk : k ≤ mcE) (hn : n ≤ msE) (hnp : As.length = np) (hst : st = As.reverse ++ .ref b :: rest) (hrm : (rest.map fun v => v.category).sum ≤ 8) (d : decode cc pc = .ok (.invokevirtual idx, 3))
    (kk : G E M k n lv rest (pc + 3)) : G E M k n lv st pc :=
  G_xV hC hR hM hW hb9 hd hk hn hnp hst hrm d (fun r M' hp => by obtain ⟨rfl, rfl⟩ := hp; exact kk)
theorem G_vS {E : Cxt} {cc cc' : ByteArray} {y y' : MethodName} {M : Mp} {k n pc idx d0 dE mcE msE nL' np : Nat} {ret : Option FieldType} {lv : List (Nat × Value)} {st av rest : List Value} (hC : Cx E cc y) (hR : eR E = rmD dE mcE msE) (hM : OkV (eL E) (eD E) (eB E) d0 y' cc' nL' ret M av) (hW : CS y.cls idx y' cc' nL' ret np) (hd : d0 + 1 ≤ dE) (hk : k ≤ mcE) (hn : n ≤ msE) (hnp : av.length = np) (hst : st = av.reverse ++ rest) (hrm : (rest.map fun v => v.category).sum ≤ 8) (d : decode cc pc = .ok (.invokestatic idx, 3))
    (kk : G E M k n lv rest (pc + 3)) : G E M k n lv st pc :=
  G_xS hC hR hM hW hd hk hn hnp hst hrm d (fun r M' hp => by obtain ⟨rfl, rfl⟩ := hp; exact kk)
theorem G_vretP {E : Cxt} {cc : ByteArray} {y : MethodName} {M : Mp} {lv : List (Nat × Value)} {pc : Nat} (hC : Cx E cc y) (hQ : Cr E none 0 0 (fun r M' => r = none ∧ M' = M)) (d : decode cc pc = .ok (.return_, 1)) : G E M 0 0 lv [] pc := G_return hC hQ (Nat.le_refl _) (Nat.le_refl _) d ⟨rfl, rfl⟩
/-! Bytes -/
def IsB (D : Dg) (M : Mp) (a t : Nat) (lim : Int) (b : Bv) : Prop := ∃ r : Nat, M a = some (t, .inr (cBy, [vI lim, .ref r, vI (b.2.length : Int)])) ∧ Row D M r (t + 1) b.1 b.2 ∧ (b.1 : Int) ≤ lim ∧ lim ≤ 20000
theorem IsB.fr {D : Dg} {M M' : Mp} {a t : Nat} {lim : Int} {b : Bv} {T : List Nat} (h : IsB D M a t lim b) (hf : Fr T M M') (hn : t ∉ T) (hn2 : t + 1 ∉ T) : IsB D M' a t lim b := by
  obtain ⟨r, h1, h2, h3⟩ := h
  exact ⟨r, hf.at h1 hn, h2.fr hf hn2, h3⟩
theorem IsB.obj {D : Dg} {M : Mp} {a t : Nat} {lim : Int} {b : Bv} (h : IsB D M a t lim b) : IsObj M a cBy := by
  obtain ⟨r, h1, -⟩ := h
  exact ⟨_, _, h1⟩
theorem IsB.len {D : Dg} {M : Mp} {a t : Nat} {lim : Int} {b : Bv} (h : IsB D M a t lim b) : b.2.length ≤ b.1 ∧ (b.1 : Int) ≤ lim ∧ lim ≤ 20000 := by
  obtain ⟨r, h1, h2, h3⟩ := h
  exact ⟨h2.len.1, h3⟩
theorem IsB.rng {D : Dg} {M : Mp} {a t : Nat} {lim : Int} {b : Bv} (h : IsB D M a t lim b) (i : Int) : -128 ≤ gx b.2 i ∧ gx b.2 i ≤ 127 := by
  obtain ⟨r, h1, h2, h3⟩ := h
  exact h2.rng i
theorem IsB.at_rng {D : Dg} {M : Mp} {a t : Nat} {lim : Int} {b : Bv} (_ : IsB D M a t lim b) (i : Int) : -1 ≤ atS b.2 i ∧ atS b.2 i ≤ 255 := by
  unfold atS
  split <;> omega
/-! new rows, copies -/
theorem G_newBX {E : Cxt} {cc : ByteArray} {y : MethodName} {M : Mp} {k n pc dE mcE msE : Nat} {lv : List (Nat × Value)} {st : List Value} {i : Int} (t : Nat) (hC : Cx E cc y) (hR : eR E = rmD dE mcE msE) (hw : Cond.arrayClass .byte ∈ TB) (hi : 0 ≤ i ∧ i ≤ 20000) (hk : k + 1 ≤ mcE) (hn : n + i.toNat ≤ msE) (d : decode cc pc = .ok (.newarray .byte, 2))
    (kk : ∀ (q : Nat) (M' : Mp), M q = none → Row (eD E) M' q t i.toNat [] → Fr [] M M' → G E M' (k + 1) (n + i.toNat) lv (.ref q :: st) (pc + 2)) : G E M k n lv (vI i :: st) pc := by
  refine G_newB t hC hw (by omega) (by rw [hR]; exact hk) (by rw [hR]; exact hn) d (fun q hq => kk q _ hq ⟨_, mset_self _ _ _, Nat.zero_le _, by omega, fun _ => by omega, fun j hj => absurd hj (Nat.not_lt_zero _)⟩ (Fr_new hq))
/-- all of a row into a new one -/
theorem G_copyB0 {E : Cxt} {cc : ByteArray} {y : MethodName} {M : Mp} {k n pc idx a0 a1 t0 t1 n0 n1 dE mcE msE : Nat} {lv : List (Nat × Value)} {st : List Value} {xs : List Int} {len : Int} (hC : Cx E cc y) (hR : eR E = rmD dE mcE msE) (w1 : Cond.methodLink y.cls idx arraycopyName ∈ TB) (w2 : Cond.native arraycopyName ∈ TB) (w3 : Cond.static arraycopyName ∈ TB) (w4 : Cond.initialized "java/lang/System" ∈ TB) (h0 : Row (eD E) M a0 t0 n0 xs) (h1 : Row (eD E) M a1 t1 n1 []) (hlen : len = n0) (hle : n0 ≤ n1) (hfr : 1 ≤ dE) (hlo : (st.map fun v => v.category).sum + (nativeFrameWords "java/lang/System" "arraycopy" 5 + 11) ≤ 40 * dE) (d : decode cc pc = .ok (.invokestatic idx, 3))
    (kk : ∀ M' : Mp, Row (eD E) M' a1 t1 n1 xs → Fr [t1] M M' → G E M' k n lv st (pc + 3)) : G E M k n lv (vI len :: vI 0 :: .ref a1 :: vI 0 :: .ref a0 :: st) pc := by
  obtain ⟨f, f1, f2, f3, f4, f5⟩ := h0
  obtain ⟨g, g1, g2, g3, g4, g5⟩ := h1
  refine G_copyB hC w1 w2 w3 w4 f1 g1 (by omega) (by omega) (by omega) (by omega) f4 (by rw [hR]; exact hfr) (by rw [hR]; exact hlo) d (kk _ ⟨_, mset_self _ _ _, by omega, g3, fun j => ?_, fun j hj => ?_⟩ (Fr_set g1))
  · unfold cpyZ
    split
    · exact f4 _
    · exact g4 _
  · unfold cpyZ
    rw [if_pos (by omega)]
    have e : (0 : Int).toNat + (j - (0 : Int).toNat) = j := by omega
    rw [e]
    exact f5 j hj
/-- a piece of a row behind the last byte of another -/
theorem G_copyBA {E : Cxt} {cc : ByteArray} {y : MethodName} {M : Mp} {k n pc idx a0 a1 t0 t1 n0 n1 dE mcE msE : Nat} {lv : List (Nat × Value)} {st : List Value} {xs ys : List Int} {sp dp len : Int} (hC : Cx E cc y) (hR : eR E = rmD dE mcE msE) (w1 : Cond.methodLink y.cls idx arraycopyName ∈ TB) (w2 : Cond.native arraycopyName ∈ TB) (w3 : Cond.static arraycopyName ∈ TB) (w4 : Cond.initialized "java/lang/System" ∈ TB) (h0 : Row (eD E) M a0 t0 n0 xs) (h1 : Row (eD E) M a1 t1 n1 ys) (hsp : 0 ≤ sp ∧ 0 ≤ len ∧ sp + len ≤ xs.length) (hdp : dp = ys.length) (hle : dp + len ≤ n1) (hfr : 1 ≤ dE) (hlo : (st.map fun v => v.category).sum + (nativeFrameWords "java/lang/System" "arraycopy" 5 + 11) ≤ 40 * dE) (d : decode cc pc = .ok (.invokestatic idx, 3))
    (kk : ∀ M' : Mp, Row (eD E) M' a1 t1 n1 (ys ++ (xs.drop sp.toNat).take len.toNat) → Fr [t1] M M' → G E M' k n lv st (pc + 3)) : G E M k n lv (vI len :: vI dp :: .ref a1 :: vI sp :: .ref a0 :: st) pc := by
  obtain ⟨f, f1, f2, f3, f4, f5⟩ := h0
  obtain ⟨g, g1, g2, g3, g4, g5⟩ := h1
  have hl : ((xs.drop sp.toNat).take len.toNat).length = len.toNat := by
    rw [List.length_take, List.length_drop]
    omega
  refine G_copyB hC w1 w2 w3 w4 f1 g1 (by omega) (by omega) (by omega) (by omega) f4 (by rw [hR]; exact hfr) (by rw [hR]; exact hlo) d (kk _ ⟨_, mset_self _ _ _, ?_, g3, fun j => ?_, fun j hj => ?_⟩ (Fr_set g1))
  · rw [List.length_append, hl]
    omega
  · unfold cpyZ
    split
    · exact f4 _
    · exact g4 _
  · rw [List.length_append, hl] at hj
    unfold cpyZ
    by_cases hjj : j < ys.length
    · rw [if_neg (by omega), g5 j hjj]
      simp [List.getD_eq_getElem?_getD, List.getElem?_append_left hjj]
    · rw [if_pos (by omega), f5 _ (by omega)]
      simp only [List.getD_eq_getElem?_getD]
      rw [List.getElem?_append_right (by omega), List.getElem?_take_of_lt (by omega), List.getElem?_drop]
      congr 2
      omega
