/-! ROWS: printed by wip/fw/mkrows.py -/
theorem G_iconst {E : Cxt} {cc : ByteArray} {y : MethodName} {M : Mp} {k n pc : Nat} {lv : List (Nat × Value)} {st : List Value} {i : Int} (hC : Cx E cc y) (d : decode cc pc = .ok (.iconst i, 1)) (kk : G E M k n lv (vI i :: st) (pc + 1)) : G E M k n lv (st) pc := by
  obtain ⟨p, l, e, R, s, m, args, below, meth, c, D, b0, nL, Q⟩ := E
  obtain ⟨hx, hb, hml, hown, hts, hKn, hb0, hlk, hmn⟩ := hC
  intro H locs ls hR hS hl
  exact lv_iconst hx hb d rfl (kk H locs ls hR hS hl)
theorem G_bipush {E : Cxt} {cc : ByteArray} {y : MethodName} {M : Mp} {k n pc : Nat} {lv : List (Nat × Value)} {st : List Value} {i j : Int} (hC : Cx E cc y) (hv : (Int8.ofInt i).toInt32 = zI j) (d : decode cc pc = .ok (.bipush i, 2)) (kk : G E M k n lv (vI j :: st) (pc + 2)) : G E M k n lv (st) pc := by
  obtain ⟨p, l, e, R, s, m, args, below, meth, c, D, b0, nL, Q⟩ := E
  obtain ⟨hx, hb, hml, hown, hts, hKn, hb0, hlk, hmn⟩ := hC
  intro H locs ls hR hS hl
  exact lv_bipush hx hb d hv (kk H locs ls hR hS hl)
theorem G_sipush {E : Cxt} {cc : ByteArray} {y : MethodName} {M : Mp} {k n pc : Nat} {lv : List (Nat × Value)} {st : List Value} {i j : Int} (hC : Cx E cc y) (hv : (Int16.ofInt i).toInt32 = zI j) (d : decode cc pc = .ok (.sipush i, 3)) (kk : G E M k n lv (vI j :: st) (pc + 3)) : G E M k n lv (st) pc := by
  obtain ⟨p, l, e, R, s, m, args, below, meth, c, D, b0, nL, Q⟩ := E
  obtain ⟨hx, hb, hml, hown, hts, hKn, hb0, hlk, hmn⟩ := hC
  intro H locs ls hR hS hl
  exact lv_sipush hx hb d hv (kk H locs ls hR hS hl)
theorem G_lconst {E : Cxt} {cc : ByteArray} {y : MethodName} {M : Mp} {k n pc : Nat} {lv : List (Nat × Value)} {st : List Value} {i : Fin 2} {v : Int64} (hC : Cx E cc y) (hv : Int64.ofNat (i : Nat) = v) (d : decode cc pc = .ok (.lconst i, 1)) (kk : G E M k n lv (.long v :: st) (pc + 1)) : G E M k n lv (st) pc := by
  obtain ⟨p, l, e, R, s, m, args, below, meth, c, D, b0, nL, Q⟩ := E
  obtain ⟨hx, hb, hml, hown, hts, hKn, hb0, hlk, hmn⟩ := hC
  intro H locs ls hR hS hl
  exact lv_lconst hx hb d hv (kk H locs ls hR hS hl)
theorem G_null {E : Cxt} {cc : ByteArray} {y : MethodName} {M : Mp} {k n pc : Nat} {lv : List (Nat × Value)} {st : List Value} (hC : Cx E cc y) (d : decode cc pc = .ok (.aconst_null, 1)) (kk : G E M k n lv (.null :: st) (pc + 1)) : G E M k n lv (st) pc := by
  obtain ⟨p, l, e, R, s, m, args, below, meth, c, D, b0, nL, Q⟩ := E
  obtain ⟨hx, hb, hml, hown, hts, hKn, hb0, hlk, hmn⟩ := hC
  intro H locs ls hR hS hl
  exact lv_null hx hb d (kk H locs ls hR hS hl)
theorem G_iload_n {E : Cxt} {cc : ByteArray} {y : MethodName} {M : Mp} {k n pc : Nat} {lv : List (Nat × Value)} {st : List Value} {f : Fin 4} {i : Nat} {x : Int32} (hC : Cx E cc y) (j : Nat) (h : lv[j]? = some (i, .int x)) (hi : (f : Nat) = i) (d : decode cc pc = .ok (.iload_n f, 1)) (kk : G E M k n lv (.int x :: st) (pc + 1)) : G E M k n lv (st) pc := by
  obtain ⟨p, l, e, R, s, m, args, below, meth, c, D, b0, nL, Q⟩ := E
  obtain ⟨hx, hb, hml, hown, hts, hKn, hb0, hlk, hmn⟩ := hC
  intro H locs ls hR hS hl
  exact lv_iload_n hx hb d hi (lv_at hl j h) (kk H locs ls hR hS hl)
theorem G_iload {E : Cxt} {cc : ByteArray} {y : MethodName} {M : Mp} {k n pc : Nat} {lv : List (Nat × Value)} {st : List Value} {i : Nat} {x : Int32} (hC : Cx E cc y) (j : Nat) (h : lv[j]? = some (i, .int x)) (d : decode cc pc = .ok (.iload i, 2)) (kk : G E M k n lv (.int x :: st) (pc + 2)) : G E M k n lv (st) pc := by
  obtain ⟨p, l, e, R, s, m, args, below, meth, c, D, b0, nL, Q⟩ := E
  obtain ⟨hx, hb, hml, hown, hts, hKn, hb0, hlk, hmn⟩ := hC
  intro H locs ls hR hS hl
  exact lv_iload hx hb d (lv_at hl j h) (kk H locs ls hR hS hl)
theorem G_aload_n {E : Cxt} {cc : ByteArray} {y : MethodName} {M : Mp} {k n pc : Nat} {lv : List (Nat × Value)} {st : List Value} {f : Fin 4} {i : Nat} {x : Nat} (hC : Cx E cc y) (j : Nat) (h : lv[j]? = some (i, .ref x)) (hi : (f : Nat) = i) (d : decode cc pc = .ok (.aload_n f, 1)) (kk : G E M k n lv (.ref x :: st) (pc + 1)) : G E M k n lv (st) pc := by
  obtain ⟨p, l, e, R, s, m, args, below, meth, c, D, b0, nL, Q⟩ := E
  obtain ⟨hx, hb, hml, hown, hts, hKn, hb0, hlk, hmn⟩ := hC
  intro H locs ls hR hS hl
  exact lv_aload_n hx hb d hi (lv_at hl j h) (kk H locs ls hR hS hl)
theorem G_aload {E : Cxt} {cc : ByteArray} {y : MethodName} {M : Mp} {k n pc : Nat} {lv : List (Nat × Value)} {st : List Value} {i : Nat} {x : Nat} (hC : Cx E cc y) (j : Nat) (h : lv[j]? = some (i, .ref x)) (d : decode cc pc = .ok (.aload i, 2)) (kk : G E M k n lv (.ref x :: st) (pc + 2)) : G E M k n lv (st) pc := by
  obtain ⟨p, l, e, R, s, m, args, below, meth, c, D, b0, nL, Q⟩ := E
  obtain ⟨hx, hb, hml, hown, hts, hKn, hb0, hlk, hmn⟩ := hC
  intro H locs ls hR hS hl
  exact lv_aload hx hb d (lv_at hl j h) (kk H locs ls hR hS hl)
theorem G_lload_n {E : Cxt} {cc : ByteArray} {y : MethodName} {M : Mp} {k n pc : Nat} {lv : List (Nat × Value)} {st : List Value} {f : Fin 4} {i : Nat} {x : Int64} (hC : Cx E cc y) (j : Nat) (h : lv[j]? = some (i, .long x)) (hi : (f : Nat) = i) (d : decode cc pc = .ok (.lload_n f, 1)) (kk : G E M k n lv (.long x :: st) (pc + 1)) : G E M k n lv (st) pc := by
  obtain ⟨p, l, e, R, s, m, args, below, meth, c, D, b0, nL, Q⟩ := E
  obtain ⟨hx, hb, hml, hown, hts, hKn, hb0, hlk, hmn⟩ := hC
  intro H locs ls hR hS hl
  exact lv_lload_n hx hb d hi (lv_at hl j h) (kk H locs ls hR hS hl)
theorem G_lload {E : Cxt} {cc : ByteArray} {y : MethodName} {M : Mp} {k n pc : Nat} {lv : List (Nat × Value)} {st : List Value} {i : Nat} {x : Int64} (hC : Cx E cc y) (j : Nat) (h : lv[j]? = some (i, .long x)) (d : decode cc pc = .ok (.lload i, 2)) (kk : G E M k n lv (.long x :: st) (pc + 2)) : G E M k n lv (st) pc := by
  obtain ⟨p, l, e, R, s, m, args, below, meth, c, D, b0, nL, Q⟩ := E
  obtain ⟨hx, hb, hml, hown, hts, hKn, hb0, hlk, hmn⟩ := hC
  intro H locs ls hR hS hl
  exact lv_lload hx hb d (lv_at hl j h) (kk H locs ls hR hS hl)
theorem G_aload_nN {E : Cxt} {cc : ByteArray} {y : MethodName} {M : Mp} {k n pc : Nat} {lv : List (Nat × Value)} {st : List Value} {f : Fin 4} {i : Nat} (hC : Cx E cc y) (j : Nat) (h : lv[j]? = some (i, .null)) (hi : (f : Nat) = i) (d : decode cc pc = .ok (.aload_n f, 1)) (kk : G E M k n lv (.null :: st) (pc + 1)) : G E M k n lv (st) pc := by
  obtain ⟨p, l, e, R, s, m, args, below, meth, c, D, b0, nL, Q⟩ := E
  obtain ⟨hx, hb, hml, hown, hts, hKn, hb0, hlk, hmn⟩ := hC
  intro H locs ls hR hS hl
  exact lv_aload_nN hx hb d hi (lv_at hl j h) (kk H locs ls hR hS hl)
theorem G_aloadN {E : Cxt} {cc : ByteArray} {y : MethodName} {M : Mp} {k n pc : Nat} {lv : List (Nat × Value)} {st : List Value} {i : Nat} (hC : Cx E cc y) (j : Nat) (h : lv[j]? = some (i, .null)) (d : decode cc pc = .ok (.aload i, 2)) (kk : G E M k n lv (.null :: st) (pc + 2)) : G E M k n lv (st) pc := by
  obtain ⟨p, l, e, R, s, m, args, below, meth, c, D, b0, nL, Q⟩ := E
  obtain ⟨hx, hb, hml, hown, hts, hKn, hb0, hlk, hmn⟩ := hC
  intro H locs ls hR hS hl
  exact lv_aloadN hx hb d (lv_at hl j h) (kk H locs ls hR hS hl)
theorem G_istore_n {E : Cxt} {cc : ByteArray} {y : MethodName} {M : Mp} {k n pc : Nat} {lv : List (Nat × Value)} {st : List Value} {f : Fin 4} {i : Nat} {x : Int32} {lv' : List (Nat × Value)} (hC : Cx E cc y) (hi : (f : Nat) = i) (hn : i < eN E) (hl' : (i, Value.int x) :: lv.filter (fun q => !(q.1 == i) && !(q.1 + 1 == i && q.2.category == 2)) = lv') (d : decode cc pc = .ok (.istore_n f, 1)) (kk : G E M k n lv' st (pc + 1)) : G E M k n lv (Value.int x :: st) pc := by
  obtain ⟨p, l, e, R, s, m, args, below, meth, c, D, b0, nL, Q⟩ := E
  obtain ⟨hx, hb, hml, hown, hts, hKn, hb0, hlk, hmn⟩ := hC
  intro H locs ls hR hS hl
  exact lv_istore_n hx hb d hi hl hn hl' (fun ls' h' => kk H locs ls' hR hS h')
theorem G_istore {E : Cxt} {cc : ByteArray} {y : MethodName} {M : Mp} {k n pc : Nat} {lv : List (Nat × Value)} {st : List Value} {i : Nat} {x : Int32} {lv' : List (Nat × Value)} (hC : Cx E cc y) (hn : i < eN E) (hl' : (i, Value.int x) :: lv.filter (fun q => !(q.1 == i) && !(q.1 + 1 == i && q.2.category == 2)) = lv') (d : decode cc pc = .ok (.istore i, 2)) (kk : G E M k n lv' st (pc + 2)) : G E M k n lv (Value.int x :: st) pc := by
  obtain ⟨p, l, e, R, s, m, args, below, meth, c, D, b0, nL, Q⟩ := E
  obtain ⟨hx, hb, hml, hown, hts, hKn, hb0, hlk, hmn⟩ := hC
  intro H locs ls hR hS hl
  exact lv_istore hx hb d hl hn hl' (fun ls' h' => kk H locs ls' hR hS h')
theorem G_astore_n {E : Cxt} {cc : ByteArray} {y : MethodName} {M : Mp} {k n pc : Nat} {lv : List (Nat × Value)} {st : List Value} {f : Fin 4} {i : Nat} {x : Nat} {lv' : List (Nat × Value)} (hC : Cx E cc y) (hi : (f : Nat) = i) (hn : i < eN E) (hl' : (i, Value.ref x) :: lv.filter (fun q => !(q.1 == i) && !(q.1 + 1 == i && q.2.category == 2)) = lv') (d : decode cc pc = .ok (.astore_n f, 1)) (kk : G E M k n lv' st (pc + 1)) : G E M k n lv (Value.ref x :: st) pc := by
  obtain ⟨p, l, e, R, s, m, args, below, meth, c, D, b0, nL, Q⟩ := E
  obtain ⟨hx, hb, hml, hown, hts, hKn, hb0, hlk, hmn⟩ := hC
  intro H locs ls hR hS hl
  exact lv_astore_n hx hb d hi hl hn hl' (fun ls' h' => kk H locs ls' hR hS h')
theorem G_astore {E : Cxt} {cc : ByteArray} {y : MethodName} {M : Mp} {k n pc : Nat} {lv : List (Nat × Value)} {st : List Value} {i : Nat} {x : Nat} {lv' : List (Nat × Value)} (hC : Cx E cc y) (hn : i < eN E) (hl' : (i, Value.ref x) :: lv.filter (fun q => !(q.1 == i) && !(q.1 + 1 == i && q.2.category == 2)) = lv') (d : decode cc pc = .ok (.astore i, 2)) (kk : G E M k n lv' st (pc + 2)) : G E M k n lv (Value.ref x :: st) pc := by
  obtain ⟨p, l, e, R, s, m, args, below, meth, c, D, b0, nL, Q⟩ := E
  obtain ⟨hx, hb, hml, hown, hts, hKn, hb0, hlk, hmn⟩ := hC
  intro H locs ls hR hS hl
  exact lv_astore hx hb d hl hn hl' (fun ls' h' => kk H locs ls' hR hS h')
theorem G_astore_nN {E : Cxt} {cc : ByteArray} {y : MethodName} {M : Mp} {k n pc : Nat} {lv : List (Nat × Value)} {st : List Value} {f : Fin 4} {i : Nat} {lv' : List (Nat × Value)} (hC : Cx E cc y) (hi : (f : Nat) = i) (hn : i < eN E) (hl' : (i, Value.null) :: lv.filter (fun q => !(q.1 == i) && !(q.1 + 1 == i && q.2.category == 2)) = lv') (d : decode cc pc = .ok (.astore_n f, 1)) (kk : G E M k n lv' st (pc + 1)) : G E M k n lv (Value.null :: st) pc := by
  obtain ⟨p, l, e, R, s, m, args, below, meth, c, D, b0, nL, Q⟩ := E
  obtain ⟨hx, hb, hml, hown, hts, hKn, hb0, hlk, hmn⟩ := hC
  intro H locs ls hR hS hl
  exact lv_astore_nN hx hb d hi hl hn hl' (fun ls' h' => kk H locs ls' hR hS h')
theorem G_astoreN {E : Cxt} {cc : ByteArray} {y : MethodName} {M : Mp} {k n pc : Nat} {lv : List (Nat × Value)} {st : List Value} {i : Nat} {lv' : List (Nat × Value)} (hC : Cx E cc y) (hn : i < eN E) (hl' : (i, Value.null) :: lv.filter (fun q => !(q.1 == i) && !(q.1 + 1 == i && q.2.category == 2)) = lv') (d : decode cc pc = .ok (.astore i, 2)) (kk : G E M k n lv' st (pc + 2)) : G E M k n lv (Value.null :: st) pc := by
  obtain ⟨p, l, e, R, s, m, args, below, meth, c, D, b0, nL, Q⟩ := E
  obtain ⟨hx, hb, hml, hown, hts, hKn, hb0, hlk, hmn⟩ := hC
  intro H locs ls hR hS hl
  exact lv_astoreN hx hb d hl hn hl' (fun ls' h' => kk H locs ls' hR hS h')
theorem G_iinc {E : Cxt} {cc : ByteArray} {y : MethodName} {M : Mp} {k n pc : Nat} {lv : List (Nat × Value)} {st : List Value} {i : Nat} {j a : Int} {lv' : List (Nat × Value)} (hC : Cx E cc y) (q : Nat) (h : lv[q]? = some (i, vI a)) (hn : i < eN E) (hl' : (i, vI (a + j)) :: lv.filter (fun q => !(q.1 == i) && !(q.1 + 1 == i && q.2.category == 2)) = lv') (d : decode cc pc = .ok (.iinc i j, 3)) (kk : G E M k n lv' st (pc + 3)) : G E M k n lv st pc := by
  obtain ⟨p, l, e, R, s, m, args, below, meth, c, D, b0, nL, Q⟩ := E
  obtain ⟨hx, hb, hml, hown, hts, hKn, hb0, hlk, hmn⟩ := hC
  intro H locs ls hR hS hl
  exact lv_iinc hx hb d hl h (zI_add a j) hn hl' (fun ls' h' => kk H locs ls' hR hS h')
theorem G_iadd {E : Cxt} {cc : ByteArray} {y : MethodName} {M : Mp} {k n pc : Nat} {lv : List (Nat × Value)} {st : List Value} {a b : Int} (hC : Cx E cc y) (d : decode cc pc = .ok (.iadd, 1)) (kk : G E M k n lv (vI (a + b) :: st) (pc + 1)) : G E M k n lv (vI b :: vI a :: st) pc := by
  obtain ⟨p, l, e, R, s, m, args, below, meth, c, D, b0, nL, Q⟩ := E
  obtain ⟨hx, hb, hml, hown, hts, hKn, hb0, hlk, hmn⟩ := hC
  intro H locs ls hR hS hl
  refine lv_iadd hx hb d ?_
  rw [zI_add]
  exact kk H locs ls hR hS hl
theorem G_isub {E : Cxt} {cc : ByteArray} {y : MethodName} {M : Mp} {k n pc : Nat} {lv : List (Nat × Value)} {st : List Value} {a b : Int} (hC : Cx E cc y) (d : decode cc pc = .ok (.isub, 1)) (kk : G E M k n lv (vI (a - b) :: st) (pc + 1)) : G E M k n lv (vI b :: vI a :: st) pc := by
  obtain ⟨p, l, e, R, s, m, args, below, meth, c, D, b0, nL, Q⟩ := E
  obtain ⟨hx, hb, hml, hown, hts, hKn, hb0, hlk, hmn⟩ := hC
  intro H locs ls hR hS hl
  refine lv_isub hx hb d ?_
  rw [zI_sub]
  exact kk H locs ls hR hS hl
theorem G_imul {E : Cxt} {cc : ByteArray} {y : MethodName} {M : Mp} {k n pc : Nat} {lv : List (Nat × Value)} {st : List Value} {a b : Int} (hC : Cx E cc y) (d : decode cc pc = .ok (.imul, 1)) (kk : G E M k n lv (vI (a * b) :: st) (pc + 1)) : G E M k n lv (vI b :: vI a :: st) pc := by
  obtain ⟨p, l, e, R, s, m, args, below, meth, c, D, b0, nL, Q⟩ := E
  obtain ⟨hx, hb, hml, hown, hts, hKn, hb0, hlk, hmn⟩ := hC
  intro H locs ls hR hS hl
  refine lv_imul hx hb d ?_
  rw [zI_mul]
  exact kk H locs ls hR hS hl
theorem G_idiv {E : Cxt} {cc : ByteArray} {y : MethodName} {M : Mp} {k n pc : Nat} {lv : List (Nat × Value)} {st : List Value} {a b : Int} (hC : Cx E cc y) (ha9 : 0 ≤ a ∧ a ≤ 2147483647) (hb9 : 0 < b ∧ b ≤ 2147483647) (d : decode cc pc = .ok (.idiv, 1)) (kk : G E M k n lv (vI (a / b) :: st) (pc + 1)) : G E M k n lv (vI b :: vI a :: st) pc := by
  obtain ⟨p, l, e, R, s, m, args, below, meth, c, D, b0, nL, Q⟩ := E
  obtain ⟨hx, hb, hml, hown, hts, hKn, hb0, hlk, hmn⟩ := hC
  intro H locs ls hR hS hl
  refine lv_idiv hx hb d (zI_ne0 hb9) ?_
  rw [zI_div ha9 hb9]
  exact kk H locs ls hR hS hl
theorem G_irem {E : Cxt} {cc : ByteArray} {y : MethodName} {M : Mp} {k n pc : Nat} {lv : List (Nat × Value)} {st : List Value} {a b : Int} (hC : Cx E cc y) (ha9 : 0 ≤ a ∧ a ≤ 2147483647) (hb9 : 0 < b ∧ b ≤ 2147483647) (d : decode cc pc = .ok (.irem, 1)) (kk : G E M k n lv (vI (a % b) :: st) (pc + 1)) : G E M k n lv (vI b :: vI a :: st) pc := by
  obtain ⟨p, l, e, R, s, m, args, below, meth, c, D, b0, nL, Q⟩ := E
  obtain ⟨hx, hb, hml, hown, hts, hKn, hb0, hlk, hmn⟩ := hC
  intro H locs ls hR hS hl
  refine lv_irem hx hb d (zI_ne0 hb9) ?_
  rw [zI_rem ha9 hb9]
  exact kk H locs ls hR hS hl
theorem G_iand {E : Cxt} {cc : ByteArray} {y : MethodName} {M : Mp} {k n pc : Nat} {lv : List (Nat × Value)} {st : List Value} {x x2 z : Int32} (hC : Cx E cc y) (hz : x &&& x2 = z) (d : decode cc pc = .ok (.iand, 1)) (kk : G E M k n lv (.int z :: st) (pc + 1)) : G E M k n lv (.int x2 :: .int x :: st) pc := by
  obtain ⟨p, l, e, R, s, m, args, below, meth, c, D, b0, nL, Q⟩ := E
  obtain ⟨hx, hb, hml, hown, hts, hKn, hb0, hlk, hmn⟩ := hC
  intro H locs ls hR hS hl
  refine lv_iand hx hb d ?_
  rw [hz]
  exact kk H locs ls hR hS hl
theorem G_ior {E : Cxt} {cc : ByteArray} {y : MethodName} {M : Mp} {k n pc : Nat} {lv : List (Nat × Value)} {st : List Value} {x x2 z : Int32} (hC : Cx E cc y) (hz : x ||| x2 = z) (d : decode cc pc = .ok (.ior, 1)) (kk : G E M k n lv (.int z :: st) (pc + 1)) : G E M k n lv (.int x2 :: .int x :: st) pc := by
  obtain ⟨p, l, e, R, s, m, args, below, meth, c, D, b0, nL, Q⟩ := E
  obtain ⟨hx, hb, hml, hown, hts, hKn, hb0, hlk, hmn⟩ := hC
  intro H locs ls hR hS hl
  refine lv_ior hx hb d ?_
  rw [hz]
  exact kk H locs ls hR hS hl
theorem G_ixor {E : Cxt} {cc : ByteArray} {y : MethodName} {M : Mp} {k n pc : Nat} {lv : List (Nat × Value)} {st : List Value} {x x2 z : Int32} (hC : Cx E cc y) (hz : x ^^^ x2 = z) (d : decode cc pc = .ok (.ixor, 1)) (kk : G E M k n lv (.int z :: st) (pc + 1)) : G E M k n lv (.int x2 :: .int x :: st) pc := by
  obtain ⟨p, l, e, R, s, m, args, below, meth, c, D, b0, nL, Q⟩ := E
  obtain ⟨hx, hb, hml, hown, hts, hKn, hb0, hlk, hmn⟩ := hC
  intro H locs ls hR hS hl
  refine lv_ixor hx hb d ?_
  rw [hz]
  exact kk H locs ls hR hS hl
theorem G_ishl {E : Cxt} {cc : ByteArray} {y : MethodName} {M : Mp} {k n pc : Nat} {lv : List (Nat × Value)} {st : List Value} {x x2 z : Int32} (hC : Cx E cc y) (hz : x <<< (x2 &&& 31) = z) (d : decode cc pc = .ok (.ishl, 1)) (kk : G E M k n lv (.int z :: st) (pc + 1)) : G E M k n lv (.int x2 :: .int x :: st) pc := by
  obtain ⟨p, l, e, R, s, m, args, below, meth, c, D, b0, nL, Q⟩ := E
  obtain ⟨hx, hb, hml, hown, hts, hKn, hb0, hlk, hmn⟩ := hC
  intro H locs ls hR hS hl
  refine lv_ishl hx hb d ?_
  rw [hz]
  exact kk H locs ls hR hS hl
theorem G_ishr {E : Cxt} {cc : ByteArray} {y : MethodName} {M : Mp} {k n pc : Nat} {lv : List (Nat × Value)} {st : List Value} {x x2 z : Int32} (hC : Cx E cc y) (hz : x >>> (x2 &&& 31) = z) (d : decode cc pc = .ok (.ishr, 1)) (kk : G E M k n lv (.int z :: st) (pc + 1)) : G E M k n lv (.int x2 :: .int x :: st) pc := by
  obtain ⟨p, l, e, R, s, m, args, below, meth, c, D, b0, nL, Q⟩ := E
  obtain ⟨hx, hb, hml, hown, hts, hKn, hb0, hlk, hmn⟩ := hC
  intro H locs ls hR hS hl
  refine lv_ishr hx hb d ?_
  rw [hz]
  exact kk H locs ls hR hS hl
theorem G_iushr {E : Cxt} {cc : ByteArray} {y : MethodName} {M : Mp} {k n pc : Nat} {lv : List (Nat × Value)} {st : List Value} {x x2 z : Int32} (hC : Cx E cc y) (hz : (x.toUInt32 >>> (x2.toUInt32 &&& Int32.toUInt32 31)).toInt32 = z) (d : decode cc pc = .ok (.iushr, 1)) (kk : G E M k n lv (.int z :: st) (pc + 1)) : G E M k n lv (.int x2 :: .int x :: st) pc := by
  obtain ⟨p, l, e, R, s, m, args, below, meth, c, D, b0, nL, Q⟩ := E
  obtain ⟨hx, hb, hml, hown, hts, hKn, hb0, hlk, hmn⟩ := hC
  intro H locs ls hR hS hl
  exact lv_iushr hx hb d hz (kk H locs ls hR hS hl)
theorem G_i2b {E : Cxt} {cc : ByteArray} {y : MethodName} {M : Mp} {k n pc : Nat} {lv : List (Nat × Value)} {st : List Value} {x z : Int32} (hC : Cx E cc y) (hz : x.toInt8.toInt32 = z) (d : decode cc pc = .ok (.i2b, 1)) (kk : G E M k n lv (.int z :: st) (pc + 1)) : G E M k n lv (.int x :: st) pc := by
  obtain ⟨p, l, e, R, s, m, args, below, meth, c, D, b0, nL, Q⟩ := E
  obtain ⟨hx, hb, hml, hown, hts, hKn, hb0, hlk, hmn⟩ := hC
  intro H locs ls hR hS hl
  exact lv_i2b hx hb d hz (kk H locs ls hR hS hl)
theorem G_i2c {E : Cxt} {cc : ByteArray} {y : MethodName} {M : Mp} {k n pc : Nat} {lv : List (Nat × Value)} {st : List Value} {x z : Int32} (hC : Cx E cc y) (hz : (x.toUInt32 % 65536).toInt32 = z) (d : decode cc pc = .ok (.i2c, 1)) (kk : G E M k n lv (.int z :: st) (pc + 1)) : G E M k n lv (.int x :: st) pc := by
  obtain ⟨p, l, e, R, s, m, args, below, meth, c, D, b0, nL, Q⟩ := E
  obtain ⟨hx, hb, hml, hown, hts, hKn, hb0, hlk, hmn⟩ := hC
  intro H locs ls hR hS hl
  exact lv_i2c hx hb d hz (kk H locs ls hR hS hl)
theorem G_i2l {E : Cxt} {cc : ByteArray} {y : MethodName} {M : Mp} {k n pc : Nat} {lv : List (Nat × Value)} {st : List Value} {x : Int32} {z : Int64} (hC : Cx E cc y) (hz : x.toInt64 = z) (d : decode cc pc = .ok (.i2l, 1)) (kk : G E M k n lv (.long z :: st) (pc + 1)) : G E M k n lv (.int x :: st) pc := by
  obtain ⟨p, l, e, R, s, m, args, below, meth, c, D, b0, nL, Q⟩ := E
  obtain ⟨hx, hb, hml, hown, hts, hKn, hb0, hlk, hmn⟩ := hC
  intro H locs ls hR hS hl
  exact lv_i2l hx hb d hz (kk H locs ls hR hS hl)
theorem G_dup {E : Cxt} {cc : ByteArray} {y : MethodName} {M : Mp} {k n pc : Nat} {lv : List (Nat × Value)} {st : List Value} {v : Value} (hC : Cx E cc y) (hv : v.category = 1) (d : decode cc pc = .ok (.dup, 1)) (kk : G E M k n lv (v :: v :: st) (pc + 1)) : G E M k n lv (v :: st) pc := by
  obtain ⟨p, l, e, R, s, m, args, below, meth, c, D, b0, nL, Q⟩ := E
  obtain ⟨hx, hb, hml, hown, hts, hKn, hb0, hlk, hmn⟩ := hC
  intro H locs ls hR hS hl
  exact lv_dup hx hb d hv (kk H locs ls hR hS hl)
theorem G_pop {E : Cxt} {cc : ByteArray} {y : MethodName} {M : Mp} {k n pc : Nat} {lv : List (Nat × Value)} {st : List Value} {v : Value} (hC : Cx E cc y) (hv : v.category = 1) (d : decode cc pc = .ok (.pop, 1)) (kk : G E M k n lv (st) (pc + 1)) : G E M k n lv (v :: st) pc := by
  obtain ⟨p, l, e, R, s, m, args, below, meth, c, D, b0, nL, Q⟩ := E
  obtain ⟨hx, hb, hml, hown, hts, hKn, hb0, hlk, hmn⟩ := hC
  intro H locs ls hR hS hl
  exact lv_pop hx hb d hv (kk H locs ls hR hS hl)
theorem G_if_eq {E : Cxt} {cc : ByteArray} {y : MethodName} {M : Mp} {k n pc : Nat} {lv : List (Nat × Value)} {st : List Value} {a : Int} {off : Int} (hC : Cx E cc y) (tgt : Nat) (ha9 : -2147483648 ≤ a ∧ a ≤ 2147483647) (ht : (pc : Int) + off = (tgt : Int)) (d : decode cc pc = .ok (.ifCond .eq off, 3)) (kt : a = 0 → G E M k n lv st tgt) (kf : ¬ a = 0 → G E M k n lv st (pc + 3)) : G E M k n lv (vI a :: st) pc := by
  obtain ⟨p, l, e, R, s, m, args, below, meth, c, D, b0, nL, Q⟩ := E
  obtain ⟨hx, hb, hml, hown, hts, hKn, hb0, hlk, hmn⟩ := hC
  intro H locs ls hR hS hl
  have hb9 : -2147483648 ≤ (0 : Int) ∧ (0 : Int) ≤ 2147483647 := by omega
  exact lv_if_eq hx hb d ht (fun q => kt (by rw [zI_0] at q; exact (zI_eq ha9 hb9).mp q) H locs ls hR hS hl) (fun q => kf (fun z => q (by rw [zI_0]; exact (zI_eq ha9 hb9).mpr z)) H locs ls hR hS hl)
theorem G_icmp_eq {E : Cxt} {cc : ByteArray} {y : MethodName} {M : Mp} {k n pc : Nat} {lv : List (Nat × Value)} {st : List Value} {a b : Int} {off : Int} (hC : Cx E cc y) (tgt : Nat) (ha9 : -2147483648 ≤ a ∧ a ≤ 2147483647) (hb9 : -2147483648 ≤ b ∧ b ≤ 2147483647) (ht : (pc : Int) + off = (tgt : Int)) (d : decode cc pc = .ok (.if_icmp .eq off, 3)) (kt : a = b → G E M k n lv st tgt) (kf : ¬ a = b → G E M k n lv st (pc + 3)) : G E M k n lv (vI b :: vI a :: st) pc := by
  obtain ⟨p, l, e, R, s, m, args, below, meth, c, D, b0, nL, Q⟩ := E
  obtain ⟨hx, hb, hml, hown, hts, hKn, hb0, hlk, hmn⟩ := hC
  intro H locs ls hR hS hl
  exact lv_icmp_eq hx hb d ht (fun q => kt (by exact (zI_eq ha9 hb9).mp q) H locs ls hR hS hl) (fun q => kf (fun z => q (by exact (zI_eq ha9 hb9).mpr z)) H locs ls hR hS hl)
theorem G_if_ne {E : Cxt} {cc : ByteArray} {y : MethodName} {M : Mp} {k n pc : Nat} {lv : List (Nat × Value)} {st : List Value} {a : Int} {off : Int} (hC : Cx E cc y) (tgt : Nat) (ha9 : -2147483648 ≤ a ∧ a ≤ 2147483647) (ht : (pc : Int) + off = (tgt : Int)) (d : decode cc pc = .ok (.ifCond .ne off, 3)) (kt : ¬ a = 0 → G E M k n lv st tgt) (kf : a = 0 → G E M k n lv st (pc + 3)) : G E M k n lv (vI a :: st) pc := by
  obtain ⟨p, l, e, R, s, m, args, below, meth, c, D, b0, nL, Q⟩ := E
  obtain ⟨hx, hb, hml, hown, hts, hKn, hb0, hlk, hmn⟩ := hC
  intro H locs ls hR hS hl
  have hb9 : -2147483648 ≤ (0 : Int) ∧ (0 : Int) ≤ 2147483647 := by omega
  exact lv_if_ne hx hb d ht (fun q => kt (fun z => q (by rw [zI_0]; exact (zI_eq ha9 hb9).mpr z)) H locs ls hR hS hl) (fun q => kf (by rw [zI_0] at q; exact (zI_eq ha9 hb9).mp q) H locs ls hR hS hl)
theorem G_icmp_ne {E : Cxt} {cc : ByteArray} {y : MethodName} {M : Mp} {k n pc : Nat} {lv : List (Nat × Value)} {st : List Value} {a b : Int} {off : Int} (hC : Cx E cc y) (tgt : Nat) (ha9 : -2147483648 ≤ a ∧ a ≤ 2147483647) (hb9 : -2147483648 ≤ b ∧ b ≤ 2147483647) (ht : (pc : Int) + off = (tgt : Int)) (d : decode cc pc = .ok (.if_icmp .ne off, 3)) (kt : ¬ a = b → G E M k n lv st tgt) (kf : a = b → G E M k n lv st (pc + 3)) : G E M k n lv (vI b :: vI a :: st) pc := by
  obtain ⟨p, l, e, R, s, m, args, below, meth, c, D, b0, nL, Q⟩ := E
  obtain ⟨hx, hb, hml, hown, hts, hKn, hb0, hlk, hmn⟩ := hC
  intro H locs ls hR hS hl
  exact lv_icmp_ne hx hb d ht (fun q => kt (fun z => q (by exact (zI_eq ha9 hb9).mpr z)) H locs ls hR hS hl) (fun q => kf (by exact (zI_eq ha9 hb9).mp q) H locs ls hR hS hl)
theorem G_if_lt {E : Cxt} {cc : ByteArray} {y : MethodName} {M : Mp} {k n pc : Nat} {lv : List (Nat × Value)} {st : List Value} {a : Int} {off : Int} (hC : Cx E cc y) (tgt : Nat) (ha9 : -2147483648 ≤ a ∧ a ≤ 2147483647) (ht : (pc : Int) + off = (tgt : Int)) (d : decode cc pc = .ok (.ifCond .lt off, 3)) (kt : a < 0 → G E M k n lv st tgt) (kf : ¬ a < 0 → G E M k n lv st (pc + 3)) : G E M k n lv (vI a :: st) pc := by
  obtain ⟨p, l, e, R, s, m, args, below, meth, c, D, b0, nL, Q⟩ := E
  obtain ⟨hx, hb, hml, hown, hts, hKn, hb0, hlk, hmn⟩ := hC
  intro H locs ls hR hS hl
  have hb9 : -2147483648 ≤ (0 : Int) ∧ (0 : Int) ≤ 2147483647 := by omega
  exact lv_if_lt hx hb d ht (fun q => kt (by rw [zI_0] at q; exact (zI_lt ha9 hb9).mp q) H locs ls hR hS hl) (fun q => kf (fun z => q (by rw [zI_0]; exact (zI_lt ha9 hb9).mpr z)) H locs ls hR hS hl)
theorem G_icmp_lt {E : Cxt} {cc : ByteArray} {y : MethodName} {M : Mp} {k n pc : Nat} {lv : List (Nat × Value)} {st : List Value} {a b : Int} {off : Int} (hC : Cx E cc y) (tgt : Nat) (ha9 : -2147483648 ≤ a ∧ a ≤ 2147483647) (hb9 : -2147483648 ≤ b ∧ b ≤ 2147483647) (ht : (pc : Int) + off = (tgt : Int)) (d : decode cc pc = .ok (.if_icmp .lt off, 3)) (kt : a < b → G E M k n lv st tgt) (kf : ¬ a < b → G E M k n lv st (pc + 3)) : G E M k n lv (vI b :: vI a :: st) pc := by
  obtain ⟨p, l, e, R, s, m, args, below, meth, c, D, b0, nL, Q⟩ := E
  obtain ⟨hx, hb, hml, hown, hts, hKn, hb0, hlk, hmn⟩ := hC
  intro H locs ls hR hS hl
  exact lv_icmp_lt hx hb d ht (fun q => kt (by exact (zI_lt ha9 hb9).mp q) H locs ls hR hS hl) (fun q => kf (fun z => q (by exact (zI_lt ha9 hb9).mpr z)) H locs ls hR hS hl)
theorem G_if_ge {E : Cxt} {cc : ByteArray} {y : MethodName} {M : Mp} {k n pc : Nat} {lv : List (Nat × Value)} {st : List Value} {a : Int} {off : Int} (hC : Cx E cc y) (tgt : Nat) (ha9 : -2147483648 ≤ a ∧ a ≤ 2147483647) (ht : (pc : Int) + off = (tgt : Int)) (d : decode cc pc = .ok (.ifCond .ge off, 3)) (kt : 0 ≤ a → G E M k n lv st tgt) (kf : ¬ 0 ≤ a → G E M k n lv st (pc + 3)) : G E M k n lv (vI a :: st) pc := by
  obtain ⟨p, l, e, R, s, m, args, below, meth, c, D, b0, nL, Q⟩ := E
  obtain ⟨hx, hb, hml, hown, hts, hKn, hb0, hlk, hmn⟩ := hC
  intro H locs ls hR hS hl
  have hb9 : -2147483648 ≤ (0 : Int) ∧ (0 : Int) ≤ 2147483647 := by omega
  exact lv_if_ge hx hb d ht (fun q => kt (by rw [zI_0] at q; exact (zI_le hb9 ha9).mp q) H locs ls hR hS hl) (fun q => kf (fun z => q (by rw [zI_0]; exact (zI_le hb9 ha9).mpr z)) H locs ls hR hS hl)
theorem G_icmp_ge {E : Cxt} {cc : ByteArray} {y : MethodName} {M : Mp} {k n pc : Nat} {lv : List (Nat × Value)} {st : List Value} {a b : Int} {off : Int} (hC : Cx E cc y) (tgt : Nat) (ha9 : -2147483648 ≤ a ∧ a ≤ 2147483647) (hb9 : -2147483648 ≤ b ∧ b ≤ 2147483647) (ht : (pc : Int) + off = (tgt : Int)) (d : decode cc pc = .ok (.if_icmp .ge off, 3)) (kt : b ≤ a → G E M k n lv st tgt) (kf : ¬ b ≤ a → G E M k n lv st (pc + 3)) : G E M k n lv (vI b :: vI a :: st) pc := by
  obtain ⟨p, l, e, R, s, m, args, below, meth, c, D, b0, nL, Q⟩ := E
  obtain ⟨hx, hb, hml, hown, hts, hKn, hb0, hlk, hmn⟩ := hC
  intro H locs ls hR hS hl
  exact lv_icmp_ge hx hb d ht (fun q => kt (by exact (zI_le hb9 ha9).mp q) H locs ls hR hS hl) (fun q => kf (fun z => q (by exact (zI_le hb9 ha9).mpr z)) H locs ls hR hS hl)
theorem G_if_gt {E : Cxt} {cc : ByteArray} {y : MethodName} {M : Mp} {k n pc : Nat} {lv : List (Nat × Value)} {st : List Value} {a : Int} {off : Int} (hC : Cx E cc y) (tgt : Nat) (ha9 : -2147483648 ≤ a ∧ a ≤ 2147483647) (ht : (pc : Int) + off = (tgt : Int)) (d : decode cc pc = .ok (.ifCond .gt off, 3)) (kt : 0 < a → G E M k n lv st tgt) (kf : ¬ 0 < a → G E M k n lv st (pc + 3)) : G E M k n lv (vI a :: st) pc := by
  obtain ⟨p, l, e, R, s, m, args, below, meth, c, D, b0, nL, Q⟩ := E
  obtain ⟨hx, hb, hml, hown, hts, hKn, hb0, hlk, hmn⟩ := hC
  intro H locs ls hR hS hl
  have hb9 : -2147483648 ≤ (0 : Int) ∧ (0 : Int) ≤ 2147483647 := by omega
  exact lv_if_gt hx hb d ht (fun q => kt (by rw [zI_0] at q; exact (zI_lt hb9 ha9).mp q) H locs ls hR hS hl) (fun q => kf (fun z => q (by rw [zI_0]; exact (zI_lt hb9 ha9).mpr z)) H locs ls hR hS hl)
theorem G_icmp_gt {E : Cxt} {cc : ByteArray} {y : MethodName} {M : Mp} {k n pc : Nat} {lv : List (Nat × Value)} {st : List Value} {a b : Int} {off : Int} (hC : Cx E cc y) (tgt : Nat) (ha9 : -2147483648 ≤ a ∧ a ≤ 2147483647) (hb9 : -2147483648 ≤ b ∧ b ≤ 2147483647) (ht : (pc : Int) + off = (tgt : Int)) (d : decode cc pc = .ok (.if_icmp .gt off, 3)) (kt : b < a → G E M k n lv st tgt) (kf : ¬ b < a → G E M k n lv st (pc + 3)) : G E M k n lv (vI b :: vI a :: st) pc := by
  obtain ⟨p, l, e, R, s, m, args, below, meth, c, D, b0, nL, Q⟩ := E
  obtain ⟨hx, hb, hml, hown, hts, hKn, hb0, hlk, hmn⟩ := hC
  intro H locs ls hR hS hl
  exact lv_icmp_gt hx hb d ht (fun q => kt (by exact (zI_lt hb9 ha9).mp q) H locs ls hR hS hl) (fun q => kf (fun z => q (by exact (zI_lt hb9 ha9).mpr z)) H locs ls hR hS hl)
theorem G_if_le {E : Cxt} {cc : ByteArray} {y : MethodName} {M : Mp} {k n pc : Nat} {lv : List (Nat × Value)} {st : List Value} {a : Int} {off : Int} (hC : Cx E cc y) (tgt : Nat) (ha9 : -2147483648 ≤ a ∧ a ≤ 2147483647) (ht : (pc : Int) + off = (tgt : Int)) (d : decode cc pc = .ok (.ifCond .le off, 3)) (kt : a ≤ 0 → G E M k n lv st tgt) (kf : ¬ a ≤ 0 → G E M k n lv st (pc + 3)) : G E M k n lv (vI a :: st) pc := by
  obtain ⟨p, l, e, R, s, m, args, below, meth, c, D, b0, nL, Q⟩ := E
  obtain ⟨hx, hb, hml, hown, hts, hKn, hb0, hlk, hmn⟩ := hC
  intro H locs ls hR hS hl
  have hb9 : -2147483648 ≤ (0 : Int) ∧ (0 : Int) ≤ 2147483647 := by omega
  exact lv_if_le hx hb d ht (fun q => kt (by rw [zI_0] at q; exact (zI_le ha9 hb9).mp q) H locs ls hR hS hl) (fun q => kf (fun z => q (by rw [zI_0]; exact (zI_le ha9 hb9).mpr z)) H locs ls hR hS hl)
theorem G_icmp_le {E : Cxt} {cc : ByteArray} {y : MethodName} {M : Mp} {k n pc : Nat} {lv : List (Nat × Value)} {st : List Value} {a b : Int} {off : Int} (hC : Cx E cc y) (tgt : Nat) (ha9 : -2147483648 ≤ a ∧ a ≤ 2147483647) (hb9 : -2147483648 ≤ b ∧ b ≤ 2147483647) (ht : (pc : Int) + off = (tgt : Int)) (d : decode cc pc = .ok (.if_icmp .le off, 3)) (kt : a ≤ b → G E M k n lv st tgt) (kf : ¬ a ≤ b → G E M k n lv st (pc + 3)) : G E M k n lv (vI b :: vI a :: st) pc := by
  obtain ⟨p, l, e, R, s, m, args, below, meth, c, D, b0, nL, Q⟩ := E
  obtain ⟨hx, hb, hml, hown, hts, hKn, hb0, hlk, hmn⟩ := hC
  intro H locs ls hR hS hl
  exact lv_icmp_le hx hb d ht (fun q => kt (by exact (zI_le ha9 hb9).mp q) H locs ls hR hS hl) (fun q => kf (fun z => q (by exact (zI_le ha9 hb9).mpr z)) H locs ls hR hS hl)
theorem G_goto {E : Cxt} {cc : ByteArray} {y : MethodName} {M : Mp} {k n pc : Nat} {lv : List (Nat × Value)} {st : List Value} {off : Int} (hC : Cx E cc y) (tgt : Nat) (ht : (pc : Int) + off = (tgt : Int)) (d : decode cc pc = .ok (.goto off, 3)) (kk : G E M k n lv st tgt) : G E M k n lv st pc := by
  obtain ⟨p, l, e, R, s, m, args, below, meth, c, D, b0, nL, Q⟩ := E
  obtain ⟨hx, hb, hml, hown, hts, hKn, hb0, hlk, hmn⟩ := hC
  intro H locs ls hR hS hl
  exact lv_goto hx hb d ht (kk H locs ls hR hS hl)
theorem G_ifnonnull {E : Cxt} {cc : ByteArray} {y : MethodName} {M : Mp} {k n pc : Nat} {lv : List (Nat × Value)} {st : List Value} {off : Int} {x : Nat} (hC : Cx E cc y) (tgt : Nat) (ht : (pc : Int) + off = (tgt : Int)) (d : decode cc pc = .ok (.ifnonnull off, 3)) (kk : G E M k n lv st tgt) : G E M k n lv (.ref x :: st) pc := by
  obtain ⟨p, l, e, R, s, m, args, below, meth, c, D, b0, nL, Q⟩ := E
  obtain ⟨hx, hb, hml, hown, hts, hKn, hb0, hlk, hmn⟩ := hC
  intro H locs ls hR hS hl
  exact lv_ifnonnull hx hb d ht (kk H locs ls hR hS hl)
theorem G_ifnonnullN {E : Cxt} {cc : ByteArray} {y : MethodName} {M : Mp} {k n pc : Nat} {lv : List (Nat × Value)} {st : List Value} {off : Int} (hC : Cx E cc y) (d : decode cc pc = .ok (.ifnonnull off, 3)) (kk : G E M k n lv st (pc + 3)) : G E M k n lv (.null :: st) pc := by
  obtain ⟨p, l, e, R, s, m, args, below, meth, c, D, b0, nL, Q⟩ := E
  obtain ⟨hx, hb, hml, hown, hts, hKn, hb0, hlk, hmn⟩ := hC
  intro H locs ls hR hS hl
  exact lv_ifnonnullN hx hb d (kk H locs ls hR hS hl)
