/-! HEAP AND CALLS: the rows of G for what reads or writes the world, and for calls -/
/-! ===== words, proved once a method, a link, a field ===== -/
/-- a field by its link: class ci of vwCl, field kf -/
def FL (own : String) (idx ci kf : Nat) : Prop := ∃ (C : String) (T : u_T) (N : Nat), vwCl[ci]? = some (C, T, N) ∧ (∀ w ∈ u_ws C T N, w ∈ TB) ∧ kf < N ∧ Cond.fieldLink own idx (T kf).1 (T kf).2.1 (T kf).2.2.1 ∈ TB
/-- the fields of class ci: their types, names apart -/
def FT (ci : Nat) (tys : Nat → FieldType) : Prop := ∀ (C : String) (T : u_T) (N : Nat), vwCl[ci]? = some (C, T, N) → (∀ k, k < N → parseFieldDescriptor (T k).2.2.1 = some (tys k)) ∧ (∀ a, a < N → ∀ b, b < N → a ≠ b → (T a).2.1 ≠ (T b).2.1)
/-- a field that may be written anywhere, or in the constructor of its class alone -/
def FW (ci kf : Nat) : Prop := ∀ (C : String) (T : u_T) (N : Nat), vwCl[ci]? = some (C, T, N) → (T kf).2.2.2 = false
def FF (own : String) (ci kf : Nat) : Prop := ∀ (C : String) (T : u_T) (N : Nat), vwCl[ci]? = some (C, T, N) → (T kf).2.2.2 = true ∧ (T kf).1 = own
theorem G_get {E : Cxt} {cc : ByteArray} {y : MethodName} {M : Mp} {k n pc idx ci kf a t : Nat} {lv : List (Nat × Value)} {st fs : List Value} {v : Value} (hC : Cx E cc y) (hF : FL y.cls idx ci kf) (ha : M a = some (t, .inr (ci, fs))) (hv : fs[kf]? = some v) (d : decode cc pc = .ok (.getfield idx, 3)) (kk : G E M k n lv (v :: st) (pc + 3)) : G E M k n lv (.ref a :: st) pc := by
  obtain ⟨p, l, e, R, s, m, args, below, meth, c, D, b0, nL, Q⟩ := E
  obtain ⟨hx, hb, hml, hown, hts, hKn, hb0, hlk, hmn⟩ := hC
  obtain ⟨C, T, N, h1, h2, h3, h4⟩ := hF
  intro H locs ls hR hS hl
  have hR' := hR
  obtain ⟨ws, hP, hD, hM⟩ := hR
  obtain ⟨q0, hq⟩ := hM a _ ha
  exact va_get (C := C) (T := T) (N := N) (ci := ci) hx hb hts h2 hown hKn.1 hP q0 hq h1 kf h3 (hts _ h4) (fun _ h9 => h9) hv d (kk H locs ls hR' hS hl)
theorem G_put {E : Cxt} {cc : ByteArray} {y : MethodName} {M : Mp} {k n pc idx ci kf a t : Nat} {lv : List (Nat × Value)} {st fs : List Value} {v : Value} {tys : Nat → FieldType} (hC : Cx E cc y) (hF : FL y.cls idx ci kf) (hT : FT ci tys) (hW : FW ci kf) (ha : M a = some (t, .inr (ci, fs))) (hn : narrow (tys kf) v = v) (hfit : fits (tys kf) v = true) (hlen : kf < fs.length) (d : decode cc pc = .ok (.putfield idx, 3)) (kk : G E (mset M a (t, .inr (ci, fs.set kf v))) k n lv st (pc + 3)) : G E M k n lv (v :: .ref a :: st) pc := by
  obtain ⟨p, l, e, R, s, m, args, below, meth, c, D, b0, nL, Q⟩ := E
  obtain ⟨hx, hb, hml, hown, hts, hKn, hb0, hlk, hmn⟩ := hC
  obtain ⟨C, T, N, h1, h2, h3, h4⟩ := hF
  obtain ⟨t1, t2⟩ := hT C T N h1
  intro H locs ls hR hS hl
  obtain ⟨ws, hP, hD, hM⟩ := hR
  obtain ⟨q0, hq⟩ := hM a _ ha
  exact va_put (C := C) (T := T) (N := N) (ci := ci) hx hb hts h2 tys t1 t2 hown hKn.1 hP hD hS q0 hq h1 kf h3 (hts _ h4) (fun _ h9 => h9) (hW C T N h1) (t1 kf h3) hn hfit hlen d (fun H1 locs1 hP1 hD1 hS1 => kk H1 locs1 ls (Rep_set t hq hM hP1 hD1) hS1 hl)
theorem G_putF {E : Cxt} {cc : ByteArray} {y : MethodName} {M : Mp} {k n pc idx ci kf a t : Nat} {lv : List (Nat × Value)} {st fs : List Value} {v : Value} {tys : Nat → FieldType} (hC : Cx E cc y) (hF : FL y.cls idx ci kf) (hT : FT ci tys) (hW : FF y.cls ci kf) (hy : y.name = "<init>") (ha : M a = some (t, .inr (ci, fs))) (hn : narrow (tys kf) v = v) (hfit : fits (tys kf) v = true) (hlen : kf < fs.length) (d : decode cc pc = .ok (.putfield idx, 3)) (kk : G E (mset M a (t, .inr (ci, fs.set kf v))) k n lv st (pc + 3)) : G E M k n lv (v :: .ref a :: st) pc := by
  obtain ⟨p, l, e, R, s, m, args, below, meth, c, D, b0, nL, Q⟩ := E
  obtain ⟨hx, hb, hml, hown, hts, hKn, hb0, hlk, hmn⟩ := hC
  obtain ⟨C, T, N, h1, h2, h3, h4⟩ := hF
  obtain ⟨t1, t2⟩ := hT C T N h1
  obtain ⟨w1, w2⟩ := hW C T N h1
  intro H locs ls hR hS hl
  obtain ⟨ws, hP, hD, hM⟩ := hR
  obtain ⟨q0, hq⟩ := hM a _ ha
  exact va_putF (C := C) (T := T) (N := N) (ci := ci) hx hb hts h2 tys t1 t2 hown hKn.1 hP hD hS q0 hq h1 kf h3 (hts _ h4) (fun _ h9 => h9) w1 (hmn.trans hy) w2 (t1 kf h3) hn hfit hlen d (fun H1 locs1 hP1 hD1 hS1 => kk H1 locs1 ls (Rep_set t hq hM hP1 hD1) hS1 hl)
/-! ===== arrays: bytes and ints by integers, references by addresses ===== -/
def arB (D : Dg) (n : Nat) (g : Nat → Int) : va_E := .inl (D.2.1 0, n, .inl (fun j => zI (g j)))
def arI (D : Dg) (n : Nat) (g : Nat → Int) : va_E := .inl (D.2.1 1, n, .inl (fun j => zI (g j)))
def arR (D : Dg) (q n : Nat) (f : Nat → Option Nat) : va_E := .inl (D.2.1 q, n, .inr (.inr (.inr (.inr f))))
def updZ (g : Nat → Int) (k : Nat) (x : Int) : Nat → Int := fun j => if j = k then x else g j
def cpyZ (f g : Nat → Int) (sp dp n : Nat) : Nat → Int := fun k => if dp ≤ k ∧ k < dp + n then f (sp + (k - dp)) else g k
theorem upd_zI (g : Nat → Int) (k : Nat) (x : Int) : upd (fun j => zI (g j)) k (zI x) = fun j => zI (updZ g k x j) := by
  funext j
  by_cases h : j = k <;> simp [upd, updZ, h]
theorem cpy_zI (f g : Nat → Int) (sp dp n : Nat) : va_cpy (fun j => zI (f j)) (fun j => zI (g j)) sp dp n = fun j => zI (cpyZ f g sp dp n j) := by
  funext j
  by_cases h : dp ≤ j ∧ j < dp + n <;> simp [va_cpy, cpyZ, h]
theorem zI_narB {x : Int} (h : -128 ≤ x ∧ x ≤ 127) : vp_nar .byte (zI x) = zI x := by
  rw [vp_nar_byte]
  apply Int32.toInt_inj.mp
  rw [zI_toInt (by omega)]
  have e : (zI x).toInt = x := zI_toInt (by omega)
  simp [e, Int.bmod]
  omega
theorem G_bald {E : Cxt} {cc : ByteArray} {y : MethodName} {M : Mp} {k n pc a t len : Nat} {lv : List (Nat × Value)} {st : List Value} {g : Nat → Int} {i : Int} (hC : Cx E cc y) (ha : M a = some (t, arB (eD E) len g)) (hi : 0 ≤ i ∧ i < len) (hi2 : i ≤ 2147483647) (d : decode cc pc = .ok (.baload, 1)) (kk : G E M k n lv (vI (g i.toNat) :: st) (pc + 1)) : G E M k n lv (vI i :: .ref a :: st) pc := by
  obtain ⟨p, l, e, R, s, m, args, below, meth, c, D, b0, nL, Q⟩ := E
  obtain ⟨hx, hb, hml, hown, hts, hKn, hb0, hlk, hmn⟩ := hC
  intro H locs ls hR hS hl
  have hR' := hR
  obtain ⟨ws, hP, hD, hM⟩ := hR
  obtain ⟨q0, hq⟩ := hM a _ ha
  refine va_bald hx hb hKn.1 hP q0 0 hq rfl (zI_in hi hi2) d ?_
  rw [zI_clamp ⟨hi.1, hi2⟩]
  exact kk H locs ls hR' hS hl
theorem G_iald {E : Cxt} {cc : ByteArray} {y : MethodName} {M : Mp} {k n pc a t len : Nat} {lv : List (Nat × Value)} {st : List Value} {g : Nat → Int} {i : Int} (hC : Cx E cc y) (ha : M a = some (t, arI (eD E) len g)) (hi : 0 ≤ i ∧ i < len) (hi2 : i ≤ 2147483647) (d : decode cc pc = .ok (.iaload, 1)) (kk : G E M k n lv (vI (g i.toNat) :: st) (pc + 1)) : G E M k n lv (vI i :: .ref a :: st) pc := by
  obtain ⟨p, l, e, R, s, m, args, below, meth, c, D, b0, nL, Q⟩ := E
  obtain ⟨hx, hb, hml, hown, hts, hKn, hb0, hlk, hmn⟩ := hC
  intro H locs ls hR hS hl
  have hR' := hR
  obtain ⟨ws, hP, hD, hM⟩ := hR
  obtain ⟨q0, hq⟩ := hM a _ ha
  refine va_iald hx hb hKn.1 hP q0 1 hq rfl (zI_in hi hi2) d ?_
  rw [zI_clamp ⟨hi.1, hi2⟩]
  exact kk H locs ls hR' hS hl
theorem G_bast {E : Cxt} {cc : ByteArray} {y : MethodName} {M : Mp} {k n pc a t len : Nat} {lv : List (Nat × Value)} {st : List Value} {g : Nat → Int} {i x : Int} (hC : Cx E cc y) (ha : M a = some (t, arB (eD E) len g)) (hi : 0 ≤ i ∧ i < len) (hi2 : i ≤ 2147483647) (hx9 : -128 ≤ x ∧ x ≤ 127) (d : decode cc pc = .ok (.bastore, 1)) (kk : G E (mset M a (t, arB (eD E) len (updZ g i.toNat x))) k n lv st (pc + 1)) : G E M k n lv (vI x :: vI i :: .ref a :: st) pc := by
  obtain ⟨p, l, e, R, s, m, args, below, meth, c, D, b0, nL, Q⟩ := E
  obtain ⟨hx, hb, hml, hown, hts, hKn, hb0, hlk, hmn⟩ := hC
  intro H locs ls hR hS hl
  obtain ⟨ws, hP, hD, hM⟩ := hR
  obtain ⟨q0, hq⟩ := hM a _ ha
  refine va_bast hx hb hKn.1 hP hD hS q0 0 hq rfl (zI_in hi hi2) d (fun H1 locs1 hP1 hD1 hS1 => ?_)
  rw [zI_clamp ⟨hi.1, hi2⟩, zI_narB hx9, upd_zI] at hP1 hD1
  exact kk H1 locs1 ls (Rep_set t hq hM hP1 hD1) hS1 hl
theorem G_iast {E : Cxt} {cc : ByteArray} {y : MethodName} {M : Mp} {k n pc a t len : Nat} {lv : List (Nat × Value)} {st : List Value} {g : Nat → Int} {i x : Int} (hC : Cx E cc y) (ha : M a = some (t, arI (eD E) len g)) (hi : 0 ≤ i ∧ i < len) (hi2 : i ≤ 2147483647) (d : decode cc pc = .ok (.iastore, 1)) (kk : G E (mset M a (t, arI (eD E) len (updZ g i.toNat x))) k n lv st (pc + 1)) : G E M k n lv (vI x :: vI i :: .ref a :: st) pc := by
  obtain ⟨p, l, e, R, s, m, args, below, meth, c, D, b0, nL, Q⟩ := E
  obtain ⟨hx, hb, hml, hown, hts, hKn, hb0, hlk, hmn⟩ := hC
  intro H locs ls hR hS hl
  obtain ⟨ws, hP, hD, hM⟩ := hR
  obtain ⟨q0, hq⟩ := hM a _ ha
  refine va_iast hx hb hKn.1 hP hD hS q0 1 hq rfl (zI_in hi hi2) d (fun H1 locs1 hP1 hD1 hS1 => ?_)
  rw [zI_clamp ⟨hi.1, hi2⟩, upd_zI] at hP1 hD1
  exact kk H1 locs1 ls (Rep_set t hq hM hP1 hD1) hS1 hl
theorem G_aald {E : Cxt} {cc : ByteArray} {y : MethodName} {M : Mp} {k n pc a t len q : Nat} {C : String} {lv : List (Nat × Value)} {st : List Value} {f : Nat → Option Nat} {i : Int} {v : Value} (hC : Cx E cc y) (ha : M a = some (t, arR (eD E) q len f)) (hq9 : (TYS (eD E))[q]? = some ((eD E).2.1 q, .object C)) (hi : 0 ≤ i ∧ i < len) (hi2 : i ≤ 2147483647) (hv : va_rf (f i.toNat) = v) (d : decode cc pc = .ok (.aaload, 1)) (kk : G E M k n lv (v :: st) (pc + 1)) : G E M k n lv (vI i :: .ref a :: st) pc := by
  obtain ⟨p, l, e, R, s, m, args, below, meth, c, D, b0, nL, Q⟩ := E
  obtain ⟨hx, hb, hml, hown, hts, hKn, hb0, hlk, hmn⟩ := hC
  intro H locs ls hR hS hl
  have hR' := hR
  obtain ⟨ws, hP, hD, hM⟩ := hR
  obtain ⟨q0, hq⟩ := hM a _ ha
  refine va_aldq hx hb hKn.1 hP q0 q hq hq9 (zI_in hi hi2) d ?_
  rw [zI_clamp ⟨hi.1, hi2⟩, hv]
  exact kk H locs ls hR' hS hl
theorem G_aast {E : Cxt} {cc : ByteArray} {y : MethodName} {M : Mp} {k n pc a t len q ci v u : Nat} {r : vw_C} {lv : List (Nat × Value)} {st vs : List Value} {f : Nat → Option Nat} {i : Int} (hC : Cx E cc y) (ha : M a = some (t, arR (eD E) q len f)) (hc : vwCl[ci]? = some r) (hq9 : (TYS (eD E))[q]? = some ((eD E).2.1 q, .object r.1)) (hv : M v = some (u, .inr (ci, vs))) (hi : 0 ≤ i ∧ i < len) (hi2 : i ≤ 2147483647) (d : decode cc pc = .ok (.aastore, 1)) (kk : G E (mset M a (t, arR (eD E) q len (va_up f i.toNat (some v)))) k n lv st (pc + 1)) : G E M k n lv (.ref v :: vI i :: .ref a :: st) pc := by
  obtain ⟨p, l, e, R, s, m, args, below, meth, c, D, b0, nL, Q⟩ := E
  obtain ⟨hx, hb, hml, hown, hts, hKn, hb0, hlk, hmn⟩ := hC
  intro H locs ls hR hS hl
  obtain ⟨ws, hP, hD, hM⟩ := hR
  obtain ⟨q0, hq⟩ := hM a _ ha
  obtain ⟨q1, hq1⟩ := hM v _ hv
  refine va_astq hx hb hKn.1 hP hD hS q0 q q1 ci hq hq9 hq1 hc (zI_in hi hi2) d (fun H1 locs1 hP1 hD1 hS1 => ?_)
  rw [zI_clamp ⟨hi.1, hi2⟩] at hP1 hD1
  exact kk H1 locs1 ls (Rep_set t hq hM hP1 hD1) hS1 hl
theorem G_alen {E : Cxt} {cc : ByteArray} {y : MethodName} {M : Mp} {k n pc a t len q : Nat} {lv : List (Nat × Value)} {st : List Value} {x : (Nat → Int32) ⊕ (Nat → Int64) ⊕ (Nat → UInt32) ⊕ (Nat → UInt64) ⊕ (Nat → Option Nat)} {ty : FieldType} (hC : Cx E cc y) (ha : M a = some (t, .inl ((eD E).2.1 q, len, x))) (hq9 : (TYS (eD E))[q]? = some ((eD E).2.1 q, ty)) (d : decode cc pc = .ok (.arraylength, 1)) (kk : G E M k n lv (vI len :: st) (pc + 1)) : G E M k n lv (.ref a :: st) pc := by
  obtain ⟨p, l, e, R, s, m, args, below, meth, c, D, b0, nL, Q⟩ := E
  obtain ⟨hx, hb, hml, hown, hts, hKn, hb0, hlk, hmn⟩ := hC
  intro H locs ls hR hS hl
  have hR' := hR
  obtain ⟨ws, hP, hD, hM⟩ := hR
  obtain ⟨q0, hq⟩ := hM a _ ha
  exact va_alen hx hb hKn.1 hP q0 q hq hq9 (zI_nat len).symm d (kk H locs ls hR' hS hl)
/-! ===== new cells ===== -/
theorem Rep_S {s : State} {b0 : Nat} (hb0 : b0 ≤ s.heap.size) : ∀ q, s.heap.size ≤ q → b0 ≤ q := fun _ h => Nat.le_trans hb0 h
theorem G_new {E : Cxt} {cc : ByteArray} {y : MethodName} {M : Mp} {k n pc idx ci : Nat} {C : String} {T : u_T} {N : Nat} {lv : List (Nat × Value)} {st fs : List Value} {tys : Nat → FieldType} (t : Nat) (hC : Cx E cc y) (hc : vwCl[ci]? = some (C, T, N)) (hT : FT ci tys) (hin : ∀ w ∈ u_ws C T N, w ∈ TB) (w1 : Cond.classLink y.cls idx C ∈ TB) (w2 : Cond.instantiable C N ∈ TB) (w3 : Cond.initialized C ∈ TB) (hfs : ∀ j, j < N → defaultValue (tys j) = vp_V fs j) (hk : k + 1 ≤ (eR E).cells) (hn : n + N ≤ (eR E).slots) (d : decode cc pc = .ok (.new idx, 3))
    (kk : ∀ q : Nat, M q = none → G E (mset M q (t, .inr (ci, fs))) (k + 1) (n + N) lv (.ref q :: st) (pc + 3)) : G E M k n lv st pc := by
  obtain ⟨p, l, e, R, s, m, args, below, meth, c, D, b0, nL, Q⟩ := E
  obtain ⟨hx, hb, hml, hown, hts, hKn, hb0, hlk, hmn⟩ := hC
  intro H locs ls hR hS hl
  obtain ⟨ws, hP, hD, hM⟩ := hR
  refine va_new hx hb hts hin tys (hT C T N hc).1 hown (hts _ w1) (hts _ w2) (hts _ w3) hKn.1 hP hD hS (Rep_S hb0) hc hfs hk hn d (fun q H1 hP1 hD1 hS1 => ?_)
  obtain ⟨h1, h2⟩ := Rep_push hM hP1 hD1
  exact kk q h1 H1 locs ls (h2 t) hS1 hl
theorem G_newB {E : Cxt} {cc : ByteArray} {y : MethodName} {M : Mp} {k n pc : Nat} {lv : List (Nat × Value)} {st : List Value} {i : Int} (t : Nat) (hC : Cx E cc y) (hw : Cond.arrayClass .byte ∈ TB) (hi : 0 ≤ i ∧ i ≤ 536870912) (hk : k + 1 ≤ (eR E).cells) (hn : n + i.toNat ≤ (eR E).slots) (d : decode cc pc = .ok (.newarray .byte, 2))
    (kk : ∀ q : Nat, M q = none → G E (mset M q (t, arB (eD E) i.toNat (fun _ => 0))) (k + 1) (n + i.toNat) lv (.ref q :: st) (pc + 2)) : G E M k n lv (vI i :: st) pc := by
  obtain ⟨p, l, e, R, s, m, args, below, meth, c, D, b0, nL, Q⟩ := E
  obtain ⟨hx, hb, hml, hown, hts, hKn, hb0, hlk, hmn⟩ := hC
  intro H locs ls hR hS hl
  obtain ⟨ws, hP, hD, hM⟩ := hR
  have hcl : (zI i).toNatClampNeg = i.toNat := zI_clamp (by omega)
  have hge : ¬ zI i < 0 := by rw [zI_0, zI_lt (by omega) (by omega)]; omega
  refine va_newa (atype := .byte) (ty := .byte) (a0 := (i.toNat, .inl (fun _ => zI 0))) hx hb (hts _ hw) rfl hKn.1 hP hD hS (Rep_S hb0) (fun cA => by rw [vp_cell_i, ← zI_0]; rfl) hge hcl (by show i.toNat * 1 ≤ _; omega) hk hn d (fun q cA H1 hK1 hP1 hD1 hS1 => ?_)
  have hcA : cA = D.2.1 0 := by
    have g1 := (hK1.2 (TYS D).length (cA, .byte) (by simp)).2
    have g2 := (hKn.1.2 0 _ rfl).2
    exact Option.some.inj (g1.symm.trans g2)
  subst hcA
  obtain ⟨h1, h2⟩ := Rep_push hM hP1 hD1
  exact kk q h1 H1 locs ls (h2 t) hS1 hl
theorem G_newI {E : Cxt} {cc : ByteArray} {y : MethodName} {M : Mp} {k n pc : Nat} {lv : List (Nat × Value)} {st : List Value} {i : Int} (t : Nat) (hC : Cx E cc y) (hw : Cond.arrayClass .int ∈ TB) (hi : 0 ≤ i ∧ i ≤ 100000000) (hk : k + 1 ≤ (eR E).cells) (hn : n + i.toNat ≤ (eR E).slots) (d : decode cc pc = .ok (.newarray .int, 2))
    (kk : ∀ q : Nat, M q = none → G E (mset M q (t, arI (eD E) i.toNat (fun _ => 0))) (k + 1) (n + i.toNat) lv (.ref q :: st) (pc + 2)) : G E M k n lv (vI i :: st) pc := by
  obtain ⟨p, l, e, R, s, m, args, below, meth, c, D, b0, nL, Q⟩ := E
  obtain ⟨hx, hb, hml, hown, hts, hKn, hb0, hlk, hmn⟩ := hC
  intro H locs ls hR hS hl
  obtain ⟨ws, hP, hD, hM⟩ := hR
  have hcl : (zI i).toNatClampNeg = i.toNat := zI_clamp (by omega)
  have hge : ¬ zI i < 0 := by rw [zI_0, zI_lt (by omega) (by omega)]; omega
  refine va_newa (atype := .int) (ty := .int) (a0 := (i.toNat, .inl (fun _ => zI 0))) hx hb (hts _ hw) rfl hKn.1 hP hD hS (Rep_S hb0) (fun cA => by rw [vp_cell_i, ← zI_0]; rfl) hge hcl (by show i.toNat * 4 ≤ _; omega) hk hn d (fun q cA H1 hK1 hP1 hD1 hS1 => ?_)
  have hcA : cA = D.2.1 1 := by
    have g1 := (hK1.2 (TYS D).length (cA, .int) (by simp)).2
    have g2 := (hKn.1.2 1 _ rfl).2
    exact Option.some.inj (g1.symm.trans g2)
  subst hcA
  obtain ⟨h1, h2⟩ := Rep_push hM hP1 hD1
  exact kk q h1 H1 locs ls (h2 t) hS1 hl
theorem G_anew {E : Cxt} {cc : ByteArray} {y : MethodName} {M : Mp} {k n pc idx q0 : Nat} {C : String} {lv : List (Nat × Value)} {st : List Value} {i : Int} (t : Nat) (hC : Cx E cc y) (w1 : Cond.classLink y.cls idx C ∈ TB) (hC9 : C ∈ ["SendPolicy$Entry", "SendPolicy$Level", "SendPolicyModel$Text"]) (hq9 : (TYS (eD E))[q0]? = some ((eD E).2.1 q0, .object C)) (hi : 0 ≤ i ∧ i ≤ 100000000) (hk : k + 1 ≤ (eR E).cells) (hn : n + i.toNat ≤ (eR E).slots) (d : decode cc pc = .ok (.anewarray idx, 3))
    (kk : ∀ q : Nat, M q = none → G E (mset M q (t, arR (eD E) q0 i.toNat (fun _ => none))) (k + 1) (n + i.toNat) lv (.ref q :: st) (pc + 3)) : G E M k n lv (vI i :: st) pc := by
  obtain ⟨p, l, e, R, s, m, args, below, meth, c, D, b0, nL, Q⟩ := E
  obtain ⟨hx, hb, hml, hown, hts, hKn, hb0, hlk, hmn⟩ := hC
  intro H locs ls hR hS hl
  obtain ⟨ws, hP, hD, hM⟩ := hR
  have hcl : (zI i).toNatClampNeg = i.toNat := zI_clamp (by omega)
  have hge : ¬ zI i < 0 := by rw [zI_0, zI_lt (by omega) (by omega)]; omega
  refine va_newq hx hb hown (hts _ w1) (hKn.2.1 C hC9) hKn.1 hP hD hS (Rep_S hb0) hge hcl (by omega) hk hn d (fun q cA H1 hK1 hP1 hD1 hS1 => ?_)
  have hcA : cA = D.2.1 q0 := by
    obtain ⟨kA, comp, -, -, -, g1⟩ := (hK1.2 (TYS D).length (cA, .object C) (by simp)).2
    obtain ⟨kA', comp', -, -, -, g2⟩ := (hKn.1.2 q0 _ hq9).2
    exact Option.some.inj (g1.symm.trans g2)
  subst hcA
  obtain ⟨h1, h2⟩ := Rep_push hM hP1 hD1
  exact kk q h1 H1 locs ls (h2 t) hS1 hl
/-! ===== the library's own ===== -/
theorem G_copyB {E : Cxt} {cc : ByteArray} {y : MethodName} {M : Mp} {k n pc idx a0 a1 t0 t1 n0 n1 : Nat} {lv : List (Nat × Value)} {st : List Value} {f g : Nat → Int} {sp dp len : Int} (hC : Cx E cc y) (w1 : Cond.methodLink y.cls idx arraycopyName ∈ TB) (w2 : Cond.native arraycopyName ∈ TB) (w3 : Cond.static arraycopyName ∈ TB) (w4 : Cond.initialized "java/lang/System" ∈ TB) (h0 : M a0 = some (t0, arB (eD E) n0 f)) (h1 : M a1 = some (t1, arB (eD E) n1 g)) (hsp : 0 ≤ sp ∧ 0 ≤ dp ∧ 0 ≤ len) (hs0 : sp + len ≤ n0) (hs1 : dp + len ≤ n1) (hbig : n0 ≤ 2147483647 ∧ n1 ≤ 2147483647) (hfit : ∀ j : Nat, -128 ≤ f j ∧ f j ≤ 127) (hfr : 1 ≤ (eR E).frames) (hlo : (st.map fun v => v.category).sum + (nativeFrameWords "java/lang/System" "arraycopy" 5 + 11) ≤ (eR E).locals) (d : decode cc pc = .ok (.invokestatic idx, 3))
    (kk : G E (mset M a1 (t1, arB (eD E) n1 (cpyZ f g sp.toNat dp.toNat len.toNat))) k n lv st (pc + 3)) : G E M k n lv (vI len :: vI dp :: .ref a1 :: vI sp :: .ref a0 :: st) pc := by
  obtain ⟨p, l, e, R, s, m, args, below, meth, c, D, b0, nL, Q⟩ := E
  obtain ⟨hx, hb, hml, hown, hts, hKn, hb0, hlk, hmn⟩ := hC
  intro H locs ls hR hS hl
  obtain ⟨ws, hP, hD, hM⟩ := hR
  obtain ⟨q0, hq0⟩ := hM a0 _ h0
  obtain ⟨q1, hq1⟩ := hM a1 _ h1
  have c1 : (zI sp).toNatClampNeg = sp.toNat := zI_clamp (by omega)
  have c2 : (zI dp).toNatClampNeg = dp.toNat := zI_clamp (by omega)
  have c3 : (zI len).toNatClampNeg = len.toNat := zI_clamp (by omega)
  have g1 : ¬ zI sp < 0 := by rw [zI_0, zI_lt (by omega) (by omega)]; omega
  have g2 : ¬ zI dp < 0 := by rw [zI_0, zI_lt (by omega) (by omega)]; omega
  have g3 : ¬ zI len < 0 := by rw [zI_0, zI_lt (by omega) (by omega)]; omega
  refine va_copyi (ty := .byte) hx hb (by rw [hml]; exact hl.1.symm) hown (hts _ w1) (hts _ w2) (hts _ w3) (hts _ w4) hKn.1 hP hD hS q0 q1 0 0 hq0 hq1 rfl rfl rfl g1 g2 g3 (by rw [c1, c3]; omega) (by rw [c2, c3]; omega) (fun j _ => by
    have h9 := hfit ((zI sp).toNatClampNeg + j)
    have h8 := pk_fb (zI (f ((zI sp).toNatClampNeg + j)))
    rw [← vp_nar_byte, zI_narB h9] at h8
    exact h8) hfr hlo d (fun H1 locs1 hP1 hD1 hS1 => ?_)
  rw [c1, c2, c3, cpy_zI] at hP1 hD1
  exact kk H1 locs1 ls (Rep_set t1 hq1 hM hP1 hD1) hS1 hl
theorem G_min {E : Cxt} {cc : ByteArray} {y : MethodName} {M : Mp} {k n pc idx : Nat} {lv : List (Nat × Value)} {st : List Value} {a b : Int} (hC : Cx E cc y) (w1 : Cond.methodLink y.cls idx Lib.Math.min.name ∈ TB) (w2 : Cond.static Lib.Math.min.name ∈ TB) (w3 : Cond.initialized "java/lang/Math" ∈ TB) (w4 : Cond.code Lib.Math.min.name Lib.Math.min.code 2 (some .int) ∈ TB) (ha9 : -2147483648 ≤ a ∧ a ≤ 2147483647) (hb9 : -2147483648 ≤ b ∧ b ≤ 2147483647) (hfr : 1 ≤ (eR E).frames) (hlo : (st.map fun v => v.category).sum + 13 ≤ (eR E).locals) (hk : k ≤ (eR E).cells) (hn : n ≤ (eR E).slots) (d : decode cc pc = .ok (.invokestatic idx, 3))
    (kk : G E M k n lv (vI (if b < a then b else a) :: st) (pc + 3)) : G E M k n lv (vI b :: vI a :: st) pc := by
  obtain ⟨p, l, e, R, s, m, args, below, meth, c, D, b0, nL, Q⟩ := E
  obtain ⟨hx, hb, hml, hown, hts, hKn, hb0, hlk, hmn⟩ := hC
  intro H locs ls hR hS hl
  refine va_mmin hx hb (by rw [hml]; exact hl.1.symm) hown (hts _ w1) (hts _ w2) (hts _ w3) (hts _ w4) hfr hlo hk hn d ?_
  have e : (if zI b < zI a then zI b else zI a) = zI (if b < a then b else a) := by
    by_cases h : b < a
    · rw [if_pos h, if_pos ((zI_lt hb9 ha9).mpr h)]
    · rw [if_neg h, if_neg (fun z => h ((zI_lt hb9 ha9).mp z))]
  rw [e]
  exact kk H locs ls hR hS hl
theorem G_max {E : Cxt} {cc : ByteArray} {y : MethodName} {M : Mp} {k n pc idx : Nat} {lv : List (Nat × Value)} {st : List Value} {a b : Int} (hC : Cx E cc y) (w1 : Cond.methodLink y.cls idx Lib.Math.max.name ∈ TB) (w2 : Cond.static Lib.Math.max.name ∈ TB) (w3 : Cond.initialized "java/lang/Math" ∈ TB) (w4 : Cond.code Lib.Math.max.name Lib.Math.max.code 2 (some .int) ∈ TB) (ha9 : -2147483648 ≤ a ∧ a ≤ 2147483647) (hb9 : -2147483648 ≤ b ∧ b ≤ 2147483647) (hfr : 1 ≤ (eR E).frames) (hlo : (st.map fun v => v.category).sum + 13 ≤ (eR E).locals) (hk : k ≤ (eR E).cells) (hn : n ≤ (eR E).slots) (d : decode cc pc = .ok (.invokestatic idx, 3))
    (kk : G E M k n lv (vI (if a < b then b else a) :: st) (pc + 3)) : G E M k n lv (vI b :: vI a :: st) pc := by
  obtain ⟨p, l, e, R, s, m, args, below, meth, c, D, b0, nL, Q⟩ := E
  obtain ⟨hx, hb, hml, hown, hts, hKn, hb0, hlk, hmn⟩ := hC
  intro H locs ls hR hS hl
  refine va_mmax hx hb (by rw [hml]; exact hl.1.symm) hown (hts _ w1) (hts _ w2) (hts _ w3) (hts _ w4) hfr hlo hk hn d ?_
  have e : (if zI a < zI b then zI b else zI a) = zI (if a < b then b else a) := by
    by_cases h : a < b
    · rw [if_pos h, if_pos ((zI_lt ha9 hb9).mpr h)]
    · rw [if_neg h, if_neg (fun z => h ((zI_lt ha9 hb9).mp z))]
  rw [e]
  exact kk H locs ls hR hS hl
theorem G_objInit {E : Cxt} {cc : ByteArray} {y : MethodName} {M : Mp} {k n pc idx a : Nat} {lv : List (Nat × Value)} {st : List Value} (hC : Cx E cc y) (w1 : Cond.methodLink y.cls idx Lib.objectInit ∈ TB) (w2 : Cond.instanceMethod Lib.objectInit ∈ TB) (w3 : Cond.code Lib.objectInit ⟨#[0xb1]⟩ 1 none ∈ TB) (hfr : 1 ≤ (eR E).frames) (hlo : (st.map fun v => v.category).sum + 12 ≤ (eR E).locals) (d : decode cc pc = .ok (.invokespecial idx, 3))
    (kk : G E M k n lv st (pc + 3)) : G E M k n lv (.ref a :: st) pc := by
  obtain ⟨p, l, e, R, s, m, args, below, meth, c, D, b0, nL, Q⟩ := E
  obtain ⟨hx, hb, hml, hown, hts, hKn, hb0, hlk, hmn⟩ := hC
  intro H locs ls hR hS hl
  have hlo9 : (st.map fun v => v.category).sum + 12 ≤ R.locals := hlo
  exact W.objInit hx hb hown (hts _ w1) (hts _ w2) (hts _ w3) rfl (by rw [hml]; exact hl.1) rfl d hfr (by show 2 * 0 + _ + 12 ≤ _; omega) (kk H locs ls hR hS hl)
theorem G_ldcS {E : Cxt} {cc : ByteArray} {y : MethodName} {M : Mp} {k n pc idx i : Nat} {tx : String} {lv : List (Nat × Value)} {st : List Value} (hC : Cx E cc y) (hq : (y.cls, idx, tx, i) ∈ refTX) (d : decode cc pc = .ok (.ldc idx, 2)) (kk : G E M k n lv (.ref ((eD E).2.2.1 i) :: st) (pc + 2)) : G E M k n lv st pc := by
  obtain ⟨p, l, e, R, s, m, args, below, meth, c, D, b0, nL, Q⟩ := E
  obtain ⟨hx, hb, hml, hown, hts, hKn, hb0, hlk, hmn⟩ := hC
  intro H locs ls hR hS hl
  exact va_ldcS hx hb hown (hKn.2.2.2.1 _ hq) d (kk H locs ls hR hS hl)
/-! ===== calls ===== -/
def IsObj (M : Mp) (b ci : Nat) : Prop := ∃ (t : Nat) (fs : List Value), M b = some (t, .inr (ci, fs))
theorem G_run {E : Cxt} {M : Mp} {k n pc mc ms : Nat} {lv : List (Nat × Value)} {st rest : List Value} {Post : Option Value → Mp → Prop} {a : Array Value}
    (hr : match E with | (p, l, e, R, s, m, args, below, meth, c, D, b0, nL, _) => ∀ (H : Heap) (locs : List Loc) (ls : Array Slot), Rep D b0 M H → va_S (fun q => b0 ≤ q) s.heap H locs → lv_has ls nL lv → va_Run p l e R s m args below meth c H locs k n mc ms (F0 m pc ls st) rest (Qc_of D b0 Post a) (fun q => b0 ≤ q))
    (kk : ∀ (r : Option Value) (M' : Mp), Post r M' → G E M' (k + mc) (n + ms) lv (r.toList ++ rest) (pc + 3)) : G E M k n lv st pc := by
  obtain ⟨p, l, e, R, s, m, args, below, meth, c, D, b0, nL, Q⟩ := E
  intro H locs ls hR hS hl T hT X
  obtain ⟨v, st₀, t, T', L, h0, X', hL, e1, e2, ⟨⟨r, M', hv, hp, hRep⟩, hz, hk⟩, st⟩ := hr H locs ls hR hS hl T hT X
  cases hv
  rw [h0] at hz hk
  have hR1 : Rep D b0 M' T'.heap := by rw [e1]; exact hRep
  have hS1 : va_S (fun q => b0 ≤ q) s.heap T'.heap (locs ++ L) := ⟨Nat.le_trans hS.1 (by rw [e1]; exact hz), fun q h1 h2 => by rw [e1, hk q (Nat.lt_of_lt_of_le h1 hS.1) h2]; exact hS.2.1 q h1 h2, fun q hq => by
      rcases List.mem_append.mp hq with h | h
      · exact hS.2.2 q h
      · exact hL q h⟩
  obtain ⟨t2, a1, b1⟩ := kk v M' hp T'.heap (locs ++ L) ls hR1 hS1 hl T' rfl X'
  exact ⟨t2, st t2 a1, b1⟩
/-- what a call needs of the callee's words, once for a method -/
def MW (y : MethodName) (cc : ByteArray) (nL : Nat) (ret : Option FieldType) (np : Nat) : Prop := Cond.code y cc nL ret ∈ TB ∧ Cond.initialized y.cls ∈ TB ∧ (y.cls ≠ "java/lang/invoke/MethodHandle" ∧ y.cls ≠ "java/lang/invoke/VarHandle" ∧ (parseMethodDescriptor y.desc).map (fun d => d.parameters.length) = some np) ∧ nL ≤ 21
theorem pre_blind {D : Dg} {b0 : Nat} {M : Mp} {av : List Value} : FrameBlind (Pc_of D b0 M av) := fun a U g mk q => by
  obtain ⟨q0, q1, qR, qK⟩ := q
  exact ⟨q0, q1, qR, Kn_same rfl rfl qK⟩
theorem callB_TB {R : Room} {s : State} {args : Array Value} {own : String} {idx d mc ms np : Nat} {y : MethodName} {cc : ByteArray} {nL : Nat} {ret : Option FieldType} (hts : ∀ w ∈ TB, w.before args s = true) (hW : MW y cc nL ret np) (w1 : Cond.methodLink own idx y ∈ TB) (hd : d + 1 ≤ R.frames) (hl : 40 * (d + 1) ≤ R.locals) :
    CallB R s args own idx y cc nL ret (Cond.code y cc nL ret :: TB) (rmD d mc ms) mc ms np := by
  obtain ⟨h1, h2, h3, h4⟩ := hW
  refine callB_of np hts (fun w hw => ?_) rfl rfl rfl (hts _ h2) (hts _ w1) h3 ⟨hd, by show 8 + (nL + 11) + 40 * d ≤ _; omega⟩
  rcases List.mem_cons.mp hw with rfl | hw
  · exact TB_good _ h1
  · exact TB_good _ hw
theorem G_callS {E : Cxt} {cc cc' : ByteArray} {y y' : MethodName} {M : Mp} {k n pc idx d0 mc ms nL' np : Nat} {ret : Option FieldType} {lv : List (Nat × Value)} {st av rest : List Value} {Post : Option Value → Mp → Prop} (hC : Cx E cc y) (hM : Ok (eL E) (eD E) (eB E) d0 y' cc' nL' ret M av mc ms Post) (hW : MW y' cc' nL' ret np) (w1 : Cond.methodLink y.cls idx y' ∈ TB) (w2 : Cond.static y' ∈ TB) (hd : d0 + 1 ≤ (eR E).frames) (hlo : 40 * (d0 + 1) ≤ (eR E).locals) (hnp : av.length = np) (hst : st = av.reverse ++ rest) (hrm : (rest.map fun v => v.category).sum ≤ 8) (hk : k + mc ≤ (eR E).cells ∧ n + ms ≤ (eR E).slots) (d : decode cc pc = .ok (.invokestatic idx, 3))
    (kk : ∀ (r : Option Value) (M' : Mp), Post r M' → G E M' (k + mc) (n + ms) lv (r.toList ++ rest) (pc + 3)) : G E M k n lv st pc := by
  refine G_run (a := av.toArray) (rest := rest) ?_ kk
  obtain ⟨p, l, e, R, s, m, args, below, meth, c, D, b0, nL, Q⟩ := E
  obtain ⟨hx, hb, hml, hown, hts, hKn, hb0, hlk, hmn⟩ := hC
  intro H locs ls hR hS hl
  exact va_runS (As := av) (rest := rest) ⟨hx, hb, hml, hown, hts⟩ hM ⟨callB_TB hts hW w1 hd hlo, hts _ w2⟩ ⟨pre_blind, fun U hU hWm => ⟨rfl, by rw [hU]; exact Nat.le_trans hb0 hS.1, by rw [hU]; exact hR, Kn_moved (locs := locs) hKn hWm (by rw [hU]; exact hS)⟩⟩ rfl hnp hl.1 hst (lv_room hrm) d hk
theorem G_callV {E : Cxt} {cc cc' : ByteArray} {y y' : MethodName} {M : Mp} {k n pc idx d0 mc ms nL' np b ci : Nat} {ret : Option FieldType} {lv : List (Nat × Value)} {st As rest : List Value} {r0 : vw_C} {Post : Option Value → Mp → Prop} (hC : Cx E cc y) (hM : Ok (eL E) (eD E) (eB E) d0 y' cc' nL' ret M (.ref b :: As) mc ms Post) (hW : MW y' cc' nL' ret np) (w1 : Cond.methodLink y.cls idx y' ∈ TB) (w2 : Cond.instanceMethod y' ∈ TB) (w3 : Cond.selects y'.cls y' y' ∈ TB) (hb9 : IsObj M b ci) (hc : vwCl[ci]? = some r0) (hcl : r0.1 = y'.cls) (hd : d0 + 1 ≤ (eR E).frames) (hlo : 40 * (d0 + 1) ≤ (eR E).locals) (hnp : As.length = np) (hst : st = As.reverse ++ .ref b :: rest) (hrm : (rest.map fun v => v.category).sum ≤ 8) (hk : k + mc ≤ (eR E).cells ∧ n + ms ≤ (eR E).slots) (d : decode cc pc = .ok (.invokevirtual idx, 3))
    (kk : ∀ (r : Option Value) (M' : Mp), Post r M' → G E M' (k + mc) (n + ms) lv (r.toList ++ rest) (pc + 3)) : G E M k n lv st pc := by
  refine G_run (a := (Value.ref b :: As).toArray) (rest := rest) ?_ kk
  obtain ⟨p, l, e, R, s, m, args, below, meth, c, D, b0, nL, Q⟩ := E
  obtain ⟨hx, hb, hml, hown, hts, hKn, hb0, hlk, hmn⟩ := hC
  intro H locs ls hR hS hl
  have hrec : ∃ cell : Cell, H[b]? = some cell ∧ cell.vm.isStatics = false ∧ s.vm.findClass y'.cls = some cell.cls := by
    obtain ⟨ws, hP, hD, hMm⟩ := hR
    obtain ⟨t, fs, hb9⟩ := hb9
    obtain ⟨q0, hq⟩ := hMm b _ hb9
    rw [← hcl]
    exact va_recv hKn.1 hP hc hq
  exact va_runV (C := y'.cls) (As := As) (rest := rest) ⟨hx, hb, hml, hown, hts⟩ hM ⟨callB_TB hts hW w1 hd hlo, hts _ w2, hts _ w3⟩ ⟨pre_blind, hrec, fun U hU hWm => ⟨rfl, by rw [hU]; exact Nat.le_trans hb0 hS.1, by rw [hU]; exact hR, Kn_moved (locs := locs) hKn hWm (by rw [hU]; exact hS)⟩⟩ rfl hnp hl.1 hst (lv_room hrm) d hk
theorem G_callI {E : Cxt} {cc cc' : ByteArray} {y y' : MethodName} {M : Mp} {k n pc idx d0 mc ms nL' np b : Nat} {lv : List (Nat × Value)} {st As rest : List Value} {Post : Option Value → Mp → Prop} (hC : Cx E cc y) (hM : Ok (eL E) (eD E) (eB E) d0 y' cc' nL' none M (.ref b :: As) mc ms Post) (hW : MW y' cc' nL' none np) (w1 : Cond.methodLink y.cls idx y' ∈ TB) (w2 : Cond.instanceMethod y' ∈ TB) (hy9 : y'.name = "<init>") (hd : d0 + 1 ≤ (eR E).frames) (hlo : 40 * (d0 + 1) ≤ (eR E).locals) (hnp : As.length = np) (hst : st = As.reverse ++ .ref b :: rest) (hrm : (rest.map fun v => v.category).sum ≤ 8) (hk : k + mc ≤ (eR E).cells ∧ n + ms ≤ (eR E).slots) (d : decode cc pc = .ok (.invokespecial idx, 3))
    (kk : ∀ (r : Option Value) (M' : Mp), Post r M' → G E M' (k + mc) (n + ms) lv (r.toList ++ rest) (pc + 3)) : G E M k n lv st pc := by
  refine G_run (a := (Value.ref b :: As).toArray) (rest := rest) ?_ kk
  obtain ⟨p, l, e, R, s, m, args, below, meth, c, D, b0, nL, Q⟩ := E
  obtain ⟨hx, hb, hml, hown, hts, hKn, hb0, hlk, hmn⟩ := hC
  intro H locs ls hR hS hl
  exact va_runI (As := As) (rest := rest) ⟨hx, hb, hml, hown, hts⟩ hM ⟨callB_TB hts hW w1 hd hlo, hy9, hts _ w2⟩ ⟨pre_blind, fun U hU hWm => ⟨rfl, by rw [hU]; exact Nat.le_trans hb0 hS.1, by rw [hU]; exact hR, Kn_moved (locs := locs) hKn hWm (by rw [hU]; exact hS)⟩⟩ rfl hnp hl.1 hst (lv_room hrm) d hk
/-! ===== calls of methods that change nothing ===== -/
def OkP (l : Launch) (D : Dg) (b0 d : Nat) (y : MethodName) (cc : ByteArray) (nL : Nat) (ret : Option FieldType) (M : Mp) (av : List Value) (v : Value) : Prop := Ok l D b0 d y cc nL ret M av 0 0 (fun r M' => r = some v ∧ M' = M)
theorem G_pureS {E : Cxt} {cc cc' : ByteArray} {y y' : MethodName} {M : Mp} {k n pc idx d0 nL' np : Nat} {ret : Option FieldType} {lv : List (Nat × Value)} {st av rest : List Value} {v : Value} (hC : Cx E cc y) (hM : OkP (eL E) (eD E) (eB E) d0 y' cc' nL' ret M av v) (hW : MW y' cc' nL' ret np) (w1 : Cond.methodLink y.cls idx y' ∈ TB) (w2 : Cond.static y' ∈ TB) (hd : d0 + 1 ≤ (eR E).frames) (hlo : 40 * (d0 + 1) ≤ (eR E).locals) (hnp : av.length = np) (hst : st = av.reverse ++ rest) (hrm : (rest.map fun v => v.category).sum ≤ 8) (hk : k ≤ (eR E).cells ∧ n ≤ (eR E).slots) (d : decode cc pc = .ok (.invokestatic idx, 3))
    (kk : G E M k n lv (v :: rest) (pc + 3)) : G E M k n lv st pc :=
  G_callS hC hM hW w1 w2 hd hlo hnp hst hrm hk d (fun r M' hp => by obtain ⟨rfl, rfl⟩ := hp; exact kk)
theorem G_pureV {E : Cxt} {cc cc' : ByteArray} {y y' : MethodName} {M : Mp} {k n pc idx d0 nL' np b ci : Nat} {ret : Option FieldType} {lv : List (Nat × Value)} {st As rest : List Value} {r0 : vw_C} {v : Value} (hC : Cx E cc y) (hM : OkP (eL E) (eD E) (eB E) d0 y' cc' nL' ret M (.ref b :: As) v) (hW : MW y' cc' nL' ret np) (w1 : Cond.methodLink y.cls idx y' ∈ TB) (w2 : Cond.instanceMethod y' ∈ TB) (w3 : Cond.selects y'.cls y' y' ∈ TB) (hb9 : IsObj M b ci) (hc : vwCl[ci]? = some r0) (hcl : r0.1 = y'.cls) (hd : d0 + 1 ≤ (eR E).frames) (hlo : 40 * (d0 + 1) ≤ (eR E).locals) (hnp : As.length = np) (hst : st = As.reverse ++ .ref b :: rest) (hrm : (rest.map fun v => v.category).sum ≤ 8) (hk : k ≤ (eR E).cells ∧ n ≤ (eR E).slots) (d : decode cc pc = .ok (.invokevirtual idx, 3))
    (kk : G E M k n lv (v :: rest) (pc + 3)) : G E M k n lv st pc :=
  G_callV hC hM hW w1 w2 w3 hb9 hc hcl hd hlo hnp hst hrm hk d (fun r M' hp => by obtain ⟨rfl, rfl⟩ := hp; exact kk)
/-- the top of the stack by another name -/
theorem G_top {E : Cxt} {M : Mp} {k n pc : Nat} {lv : List (Nat × Value)} {st : List Value} {a b : Int} (h : a = b) (kk : G E M k n lv (vI b :: st) pc) : G E M k n lv (vI a :: st) pc := by
  rw [h]
  exact kk
theorem nar_b (b : Bool) : narrow .boolean (vI (b2i b)) = vI (b2i b) := by cases b <;> decide +kernel
