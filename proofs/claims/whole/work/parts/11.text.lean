/-! TEXT CONSTANTS, SWITCHES, LONGS -/
/-- the text constant i as signed bytes -/
def wrd (i : Nat) : List Int := (bytTX.getD i []).map Int32.toInt
theorem wrd_all : ∀ i, i < nTX → (wrd i).length = lenTX.getD i 0 ∧ (wrd i).length ≤ 20 ∧ ∀ j, j < 20 → 0 ≤ (wrd i).getD j 0 ∧ (wrd i).getD j 0 ≤ 126 := by decide +kernel
theorem wrd_get (i j : Nat) : (bytTX.getD i []).getD j 0 = zI ((wrd i).getD j 0) := by
  unfold wrd
  by_cases h : j < (bytTX.getD i []).length
  · rw [gD_lt h, gD_lt (show j < ((bytTX.getD i []).map Int32.toInt).length by rw [List.length_map]; exact h), List.getElem_map, zI_self]
  · rw [gD_ge (by omega), gD_ge (show ((bytTX.getD i []).map Int32.toInt).length ≤ j by rw [List.length_map]; omega)]
    rfl
theorem G_getTV {E : Cxt} {cc : ByteArray} {y : MethodName} {M : Mp} {k n pc idx i : Nat} {lv : List (Nat × Value)} {st : List Value} (hC : Cx E cc y) (hi : i < nTX) (w1 : Cond.fieldLink y.cls idx "java/lang/String" "value" "[B" ∈ TB) (d : decode cc pc = .ok (.getfield idx, 3)) (kk : G E M k n lv (.ref ((eD E).2.2.2 i) :: st) (pc + 3)) : G E M k n lv (.ref ((eD E).2.2.1 i) :: st) pc := by
  obtain ⟨p, l, e, R, s, m, args, below, meth, c, D, b0, nL, Q⟩ := E
  obtain ⟨hx, hb, hml, hown, hts, hKn, hb0, hlk, hmn⟩ := hC
  intro H locs ls hR hS hl
  exact vk_getf hx hb (hKn.2.2.1.1 i hi).2.2.1 hS hown (hts _ w1) (fun _ h => h) d (kk H locs ls hR hS hl)
theorem G_getTC {E : Cxt} {cc : ByteArray} {y : MethodName} {M : Mp} {k n pc idx i : Nat} {lv : List (Nat × Value)} {st : List Value} (hC : Cx E cc y) (hi : i < nTX) (w1 : Cond.fieldLink y.cls idx "java/lang/String" "coder" "B" ∈ TB) (d : decode cc pc = .ok (.getfield idx, 3)) (kk : G E M k n lv (vI 0 :: st) (pc + 3)) : G E M k n lv (.ref ((eD E).2.2.1 i) :: st) pc := by
  obtain ⟨p, l, e, R, s, m, args, below, meth, c, D, b0, nL, Q⟩ := E
  obtain ⟨hx, hb, hml, hown, hts, hKn, hb0, hlk, hmn⟩ := hC
  intro H locs ls hR hS hl
  exact vk_getf hx hb (hKn.2.2.1.1 i hi).2.1 hS hown (hts _ w1) (fun _ h => h) d (kk H locs ls hR hS hl)
theorem G_tlen {E : Cxt} {cc : ByteArray} {y : MethodName} {M : Mp} {k n pc i : Nat} {lv : List (Nat × Value)} {st : List Value} (hC : Cx E cc y) (hi : i < nTX) (d : decode cc pc = .ok (.arraylength, 1)) (kk : G E M k n lv (vI ((wrd i).length : Int) :: st) (pc + 1)) : G E M k n lv (.ref ((eD E).2.2.2 i) :: st) pc := by
  obtain ⟨p, l, e, R, s, m, args, below, meth, c, D, b0, nL, Q⟩ := E
  obtain ⟨hx, hb, hml, hown, hts, hKn, hb0, hlk, hmn⟩ := hC
  intro H locs ls hR hS hl
  refine va_tlen hx hb (hKn.2.2.1.1 i hi).2.2.2 hS (v := zI ((wrd i).length : Int)) ?_ d (kk H locs ls hR hS hl)
  rw [(wrd_all i hi).1, zI_nat]
theorem G_tbald {E : Cxt} {cc : ByteArray} {y : MethodName} {M : Mp} {k n pc i : Nat} {j : Int} {lv : List (Nat × Value)} {st : List Value} (hC : Cx E cc y) (hi : i < nTX) (hj : 0 ≤ j ∧ j < (wrd i).length) (d : decode cc pc = .ok (.baload, 1)) (kk : G E M k n lv (vI ((wrd i).getD j.toNat 0) :: st) (pc + 1)) : G E M k n lv (vI j :: .ref ((eD E).2.2.2 i) :: st) pc := by
  obtain ⟨p, l, e, R, s, m, args, below, meth, c, D, b0, nL, Q⟩ := E
  obtain ⟨hx, hb, hml, hown, hts, hKn, hb0, hlk, hmn⟩ := hC
  intro H locs ls hR hS hl
  have h9 := wrd_all i hi
  refine va_tb hx hb (hKn.2.2.1.1 i hi).2.2.2 hS (i := zI j) (zI_in ⟨hj.1, by omega⟩ (by omega)) (v := vI ((wrd i).getD j.toNat 0)) ?_ d (kk H locs ls hR hS hl)
  show Value.int _ = _
  rw [zI_clamp ⟨hj.1, by omega⟩, wrd_get]
theorem G_getCS {E : Cxt} {cc : ByteArray} {y : MethodName} {M : Mp} {k n pc idx : Nat} {lv : List (Nat × Value)} {st : List Value} (hC : Cx E cc y) (w1 : Cond.fieldLink y.cls idx "java/lang/String" "COMPACT_STRINGS" "Z" ∈ TB) (d : decode cc pc = .ok (.getstatic idx, 3)) (kk : G E M k n lv (vI 1 :: st) (pc + 3)) : G E M k n lv st pc := by
  obtain ⟨p, l, e, R, s, m, args, below, meth, c, D, b0, nL, Q⟩ := E
  obtain ⟨hx, hb, hml, hown, hts, hKn, hb0, hlk, hmn⟩ := hC
  intro H locs ls hR hS hl
  exact va_gets hx hb hKn.2.2.2.2.2.1 hS hown (hts _ w1) (fun _ h => h) d (kk H locs ls hR hS hl)
theorem G_getSF {E : Cxt} {cc : ByteArray} {y : MethodName} {M : Mp} {k n pc idx : Nat} {lv : List (Nat × Value)} {st : List Value} (hC : Cx E cc y) (w1 : Cond.fieldLink y.cls idx "jdk/internal/util/Preconditions" "SIOOBE_FORMATTER" "Ljava/util/function/BiFunction;" ∈ TB) (d : decode cc pc = .ok (.getstatic idx, 3)) (kk : ∀ v : Value, (v = .null ∨ ∃ a, v = .ref a) → G E M k n lv (v :: st) (pc + 3)) : G E M k n lv st pc := by
  obtain ⟨p, l, e, R, s, m, args, below, meth, c, D, b0, nL, Q⟩ := E
  obtain ⟨hx, hb, hml, hown, hts, hKn, hb0, hlk, hmn⟩ := hC
  intro H locs ls hR hS hl
  obtain ⟨v, h7, h8⟩ := hKn.2.2.2.2.2.2
  exact va_gets hx hb h8 hS hown (hts _ w1) (fun _ h => h) d (kk v h7 H locs ls hR hS hl)
def CT (own : String) (idx : Nat) (y : MethodName) (cc : ByteArray) (nL : Nat) (ret : Option FieldType) (np : Nat) : Prop := MW y cc nL ret np ∧ Cond.methodLink own idx y ∈ TB ∧ Cond.instanceMethod y ∈ TB ∧ Cond.selects y.cls y y ∈ TB ∧ y.cls = "java/lang/String"
/-- a call on a text constant -/
theorem G_pT {E : Cxt} {cc cc' : ByteArray} {y y' : MethodName} {M : Mp} {k n pc idx d0 dE mcE msE nL' np i : Nat} {ret : Option FieldType} {lv : List (Nat × Value)} {st As rest : List Value} {v : Value} (hC : Cx E cc y) (hR : eR E = rmD dE mcE msE) (hM : OkP (eL E) (eD E) (eB E) d0 y' cc' nL' ret M (.ref ((eD E).2.2.1 i) :: As) v) (hW : CT y.cls idx y' cc' nL' ret np) (hi : i < nTX) (hd : d0 + 1 ≤ dE) (hk : k ≤ mcE) (hn : n ≤ msE) (hnp : As.length = np) (hst : st = As.reverse ++ .ref ((eD E).2.2.1 i) :: rest) (hrm : (rest.map fun v => v.category).sum ≤ 8) (d : decode cc pc = .ok (.invokevirtual idx, 3))
    (kk : G E M k n lv (v :: rest) (pc + 3)) : G E M k n lv st pc := by
  refine G_run (mc := 0) (ms := 0) (a := (Value.ref ((eD E).2.2.1 i) :: As).toArray) (rest := rest) (Post := fun r M' => r = some v ∧ M' = M) ?_ (fun r M' hp => by obtain ⟨rfl, rfl⟩ := hp; exact kk)
  obtain ⟨w0, w1, w2, w3, w4⟩ := hW
  obtain ⟨p, l, e, R, s, m, args, below, meth, c, D, b0, nL, Q⟩ := E
  obtain ⟨hx, hb, hml, hown, hts, hKn, hb0, hlk, hmn⟩ := hC
  intro H locs ls hR2 hS hl
  have hR3 : R = rmD dE mcE msE := hR
  have hrec : ∃ cell : Cell, H[D.2.2.1 i]? = some cell ∧ cell.vm.isStatics = false ∧ s.vm.findClass y'.cls = some cell.cls := by
    rw [w4]
    exact vk_recv hKn.2.2.1 hi hS
  exact va_runV (C := y'.cls) (As := As) (rest := rest) ⟨hx, hb, hml, hown, hts⟩ hM ⟨callB_TB hts w0 w1 (by rw [hR3]; exact hd) (by rw [hR3]; show 40 * (d0 + 1) ≤ 40 * dE; omega), hts _ w2, hts _ w3⟩ ⟨pre_blind, hrec, fun U hU hWm => ⟨rfl, by rw [hU]; exact Nat.le_trans hb0 hS.1, by rw [hU]; exact hR2, Kn_moved (locs := locs) hKn hWm (by rw [hU]; exact hS)⟩⟩ rfl hnp hl.1 hst (lv_room hrm) d (by rw [hR3]; exact ⟨hk, hn⟩)
/-! switches -/
theorem G_tabIn {E : Cxt} {cc : ByteArray} {y : MethodName} {M : Mp} {k n pc len : Nat} {lv : List (Nat × Value)} {st : List Value} {x dflt lo hi off : Int} {offs : Array Int} (v : Int) (tgt : Nat) (hC : Cx E cc y) (hx : x = v) (hv : lo ≤ v ∧ v ≤ hi ∧ -2147483648 ≤ v ∧ v ≤ 2147483647) (ho : offs[(v - lo).toNat]? = some off) (ht : (pc : Int) + off = (tgt : Int)) (d : decode cc pc = .ok (.tableswitch dflt lo hi offs, len)) (kk : G E M k n lv st tgt) : G E M k n lv (vI x :: st) pc := by
  subst hx
  obtain ⟨p, l, e, R, s, m, args, below, meth, c, D, b0, nL, Q⟩ := E
  obtain ⟨hx, hb, hml, hown, hts, hKn, hb0, hlk, hmn⟩ := hC
  intro H locs ls hR hS hl
  have e9 : (zI x).toInt = x := zI_toInt hv.2.2
  exact lv_tableIn hx hb d (by rw [e9]; omega) (by rw [e9]; omega) (by rw [e9]; exact ho) ht (kk H locs ls hR hS hl)
theorem G_tabOut {E : Cxt} {cc : ByteArray} {y : MethodName} {M : Mp} {k n pc len : Nat} {lv : List (Nat × Value)} {st : List Value} {x dflt lo hi : Int} {offs : Array Int} (tgt : Nat) (hC : Cx E cc y) (hx9 : -2147483648 ≤ x ∧ x ≤ 2147483647) (hv : x < lo ∨ hi < x) (ht : (pc : Int) + dflt = (tgt : Int)) (d : decode cc pc = .ok (.tableswitch dflt lo hi offs, len)) (kk : G E M k n lv st tgt) : G E M k n lv (vI x :: st) pc := by
  obtain ⟨p, l, e, R, s, m, args, below, meth, c, D, b0, nL, Q⟩ := E
  obtain ⟨hx, hb, hml, hown, hts, hKn, hb0, hlk, hmn⟩ := hC
  intro H locs ls hR hS hl
  have e9 : (zI x).toInt = x := zI_toInt hx9
  exact lv_tableOut hx hb d (by rw [e9]; exact hv) ht (kk H locs ls hR hS hl)
theorem G_look {E : Cxt} {cc : ByteArray} {y : MethodName} {M : Mp} {k n pc len : Nat} {lv : List (Nat × Value)} {st : List Value} {x dflt off : Int} {ps : Array (Int × Int)} (tgt : Nat) (hC : Cx E cc y) (hx9 : -2147483648 ≤ x ∧ x ≤ 2147483647) (hp : (ps.toList.zip (ps.toList.drop 1)).all (fun (a, next) => a.1 < next.1) = true) (ho : Op.lookupswitch.offset ps.toList dflt x = off) (ht : (pc : Int) + off = (tgt : Int)) (d : decode cc pc = .ok (.lookupswitch dflt ps, len)) (kk : G E M k n lv st tgt) : G E M k n lv (vI x :: st) pc := by
  obtain ⟨p, l, e, R, s, m, args, below, meth, c, D, b0, nL, Q⟩ := E
  obtain ⟨hx, hb, hml, hown, hts, hKn, hb0, hlk, hmn⟩ := hC
  intro H locs ls hR hS hl
  have e9 : (zI x).toInt = x := zI_toInt hx9
  exact lv_lookup hx hb d hp (by rw [e9]; exact ho) ht (kk H locs ls hR hS hl)
/-! longs -/
def zL (i : Int) : Int64 := Int64.ofInt i
abbrev vL (i : Int) : Value := Value.long (zL i)
theorem zL_toInt {a : Int} (h : -9000000000 ≤ a ∧ a ≤ 9000000000) : (zL a).toInt = a := Int64.toInt_ofInt_of_le (by omega) (by omega)
theorem zI_i2l {a : Int} (h : -2147483648 ≤ a ∧ a ≤ 2147483647) : (zI a).toInt64 = zL a := by
  apply Int64.toInt_inj.mp
  rw [Int32.toInt_toInt64, zI_toInt h, zL_toInt (by omega)]
def cmpS (a b : Int) : Int := if b < a then 1 else if a = b then 0 else -1
theorem zL_cmp {a b : Int} (ha : -9000000000 ≤ a ∧ a ≤ 9000000000) (hb : -9000000000 ≤ b ∧ b ≤ 9000000000) : lg_cmp (zL a) (zL b) = zI (cmpS a b) := by
  have e1 : zL b < zL a ↔ b < a := by rw [Int64.lt_iff_toInt_lt, zL_toInt ha, zL_toInt hb]
  have e2 : zL a = zL b ↔ a = b := by rw [← Int64.toInt_inj, zL_toInt ha, zL_toInt hb]
  unfold lg_cmp cmpS
  simp only [e1, e2]
  split
  · rfl
  · split
    · rfl
    · rfl
theorem G_i2lR {E : Cxt} {cc : ByteArray} {y : MethodName} {M : Mp} {k n pc : Nat} {lv : List (Nat × Value)} {st : List Value} {a : Int} (hC : Cx E cc y) (ha : -2147483648 ≤ a ∧ a ≤ 2147483647) (d : decode cc pc = .ok (.i2l, 1)) (kk : G E M k n lv (vL a :: st) (pc + 1)) : G E M k n lv (vI a :: st) pc := G_i2l hC (zI_i2l ha) d kk
theorem G_lcmpR {E : Cxt} {cc : ByteArray} {y : MethodName} {M : Mp} {k n pc : Nat} {lv : List (Nat × Value)} {st : List Value} {a b : Int} (hC : Cx E cc y) (ha : -9000000000 ≤ a ∧ a ≤ 9000000000) (hb9 : -9000000000 ≤ b ∧ b ≤ 9000000000) (d : decode cc pc = .ok (.lcmp, 1)) (kk : G E M k n lv (vI (cmpS a b) :: st) (pc + 1)) : G E M k n lv (vL b :: vL a :: st) pc := by
  obtain ⟨p, l, e, R, s, m, args, below, meth, c, D, b0, nL, Q⟩ := E
  obtain ⟨hx, hb, hml, hown, hts, hKn, hb0, hlk, hmn⟩ := hC
  intro H locs ls hR hS hl
  refine W.lcmp hx hb d ?_
  rw [zL_cmp ha hb9]
  exact kk H locs ls hR hS hl
theorem G_ldc2R {E : Cxt} {cc : ByteArray} {y : MethodName} {M : Mp} {k n pc idx : Nat} {lv : List (Nat × Value)} {st : List Value} {a : Int} (hC : Cx E cc y) (w1 : Cond.constantLong y.cls idx (zL a) ∈ TB) (d : decode cc pc = .ok (.ldc2_w idx, 3)) (kk : G E M k n lv (vL a :: st) (pc + 3)) : G E M k n lv st pc := by
  obtain ⟨p, l, e, R, s, m, args, below, meth, c, D, b0, nL, Q⟩ := E
  obtain ⟨hx, hb, hml, hown, hts, hKn, hb0, hlk, hmn⟩ := hC
  intro H locs ls hR hS hl
  exact lv_ldc2 hx hb hown (hts _ w1) d (kk H locs ls hR hS hl)
theorem G_ishr0 {E : Cxt} {cc : ByteArray} {y : MethodName} {M : Mp} {k n pc : Nat} {lv : List (Nat × Value)} {st : List Value} {a : Int} (hC : Cx E cc y) (d : decode cc pc = .ok (.ishr, 1)) (kk : G E M k n lv (vI a :: st) (pc + 1)) : G E M k n lv (vI 0 :: vI a :: st) pc := by
  refine G_ishr hC (z := zI a) ?_ d kk
  have h0 : zI 0 &&& 31 = 0 := by decide +kernel
  rw [h0]
  simp
theorem G_i2cR {E : Cxt} {cc : ByteArray} {y : MethodName} {M : Mp} {k n pc : Nat} {lv : List (Nat × Value)} {st : List Value} {a : Int} (hC : Cx E cc y) (ha : 0 ≤ a ∧ a < 65536) (d : decode cc pc = .ok (.i2c, 1)) (kk : G E M k n lv (vI a :: st) (pc + 1)) : G E M k n lv (vI a :: st) pc := by
  have e9 : (zI a).toInt = a := zI_toInt (by omega)
  exact G_i2c hC (lg_i2c_word (by rw [e9]; omega) (by rw [e9]; omega)) d kk
theorem cmpS_rng (a b : Int) : -2147483648 ≤ cmpS a b ∧ cmpS a b ≤ 2147483647 := by
  unfold cmpS
  repeat' split
  all_goals omega
theorem cmpS_lt0 {a b : Int} : cmpS a b < 0 ↔ a < b := by
  unfold cmpS
  repeat' split
  all_goals omega
theorem cmpS_ge0 {a b : Int} : 0 ≤ cmpS a b ↔ b ≤ a := by
  unfold cmpS
  repeat' split
  all_goals omega
theorem cmpS_gt0 {a b : Int} : 0 < cmpS a b ↔ b < a := by
  unfold cmpS
  repeat' split
  all_goals omega
theorem cmpS_le0 {a b : Int} : cmpS a b ≤ 0 ↔ a ≤ b := by
  unfold cmpS
  repeat' split
  all_goals omega
theorem atS_gx {xs : List Int} {i : Int} (h : 0 ≤ i ∧ i < xs.length) : atS xs i = gx xs i % 256 := by
  unfold atS gx
  rw [if_pos h]
/-! calls of nest mates -/
def CN (own : String) (idx : Nat) (y : MethodName) (host : String) (cc : ByteArray) (nL : Nat) (ret : Option FieldType) (np : Nat) : Prop := MW y cc nL ret np ∧ Cond.static y ∈ TB ∧ (own, idx, y, host) ∈ nestTX
theorem G_xSN {E : Cxt} {cc cc' : ByteArray} {y y' : MethodName} {host : String} {M : Mp} {k n pc idx d0 dE mcE msE mc ms nL' np : Nat} {ret : Option FieldType} {lv : List (Nat × Value)} {st av rest : List Value} {Post : Option Value → Mp → Prop} (hC : Cx E cc y) (hR : eR E = rmD dE mcE msE) (hM : Ok (eL E) (eD E) (eB E) d0 y' cc' nL' ret M av mc ms Post) (hW : CN y.cls idx y' host cc' nL' ret np) (hd : d0 + 1 ≤ dE) (hk : k + mc ≤ mcE) (hn : n + ms ≤ msE) (hnp : av.length = np) (hst : st = av.reverse ++ rest) (hrm : (rest.map fun v => v.category).sum ≤ 8) (d : decode cc pc = .ok (.invokestatic idx, 3))
    (kk : ∀ (r : Option Value) (M' : Mp), Post r M' → G E M' (k + mc) (n + ms) lv (r.toList ++ rest) (pc + 3)) : G E M k n lv st pc := by
  obtain ⟨⟨h1, h2, h3, h4⟩, w2, w3⟩ := hW
  refine G_run (a := av.toArray) (rest := rest) ?_ kk
  obtain ⟨p, l, e, R, s, m, args, below, meth, c, D, b0, nL, Q⟩ := E
  obtain ⟨hx, hb, hml, hown, hts, hKn, hb0, hlk, hmn⟩ := hC
  intro H locs ls hR2 hS hl
  have hR3 : R = rmD dE mcE msE := hR
  have hG : GoodIn TB (Cond.code y' cc' nL' ret :: TB) := fun w hw => by
    rcases List.mem_cons.mp hw with rfl | hw
    · exact TB_good _ h1
    · exact TB_good _ hw
  exact va_runSN (As := av) (rest := rest) ⟨hx, hb, hml, hown, hts⟩ hM ⟨va_cnB np hts hG rfl rfl rfl (hKn.2.2.2.2.1 _ w3) (hts _ h2) h3 ⟨by rw [hR3]; exact hd, by rw [hR3]; show 8 + (nL' + 11) + 40 * d0 ≤ 40 * dE; omega⟩, hts _ w2, trivial⟩ ⟨pre_blind, fun U hU hWm => ⟨rfl, by rw [hU]; exact Nat.le_trans hb0 hS.1, by rw [hU]; exact hR2, Kn_moved (locs := locs) hKn hWm (by rw [hU]; exact hS)⟩⟩ rfl hnp hl.1 hst (lv_room hrm) d (by rw [hR3]; exact ⟨hk, hn⟩)
theorem G_pSN {E : Cxt} {cc cc' : ByteArray} {y y' : MethodName} {host : String} {M : Mp} {k n pc idx d0 dE mcE msE nL' np : Nat} {ret : Option FieldType} {lv : List (Nat × Value)} {st av rest : List Value} {v : Value} (hC : Cx E cc y) (hR : eR E = rmD dE mcE msE) (hM : OkP (eL E) (eD E) (eB E) d0 y' cc' nL' ret M av v) (hW : CN y.cls idx y' host cc' nL' ret np) (hd : d0 + 1 ≤ dE) (hk : k ≤ mcE) (hn : n ≤ msE) (hnp : av.length = np) (hst : st = av.reverse ++ rest) (hrm : (rest.map fun v => v.category).sum ≤ 8) (d : decode cc pc = .ok (.invokestatic idx, 3))
    (kk : G E M k n lv (v :: rest) (pc + 3)) : G E M k n lv st pc :=
  G_xSN hC hR hM hW hd hk hn hnp hst hrm d (fun r M' hp => by obtain ⟨rfl, rfl⟩ := hp; exact kk)
def CMi (own : String) (idx : Nat) (y : MethodName) (host : String) (cc : ByteArray) (nL np : Nat) : Prop := MW y cc nL none np ∧ Cond.instanceMethod y ∈ TB ∧ y.name = "<init>" ∧ (own, idx, y, host) ∈ nestTX
theorem G_xIN {E : Cxt} {cc cc' : ByteArray} {y y' : MethodName} {host : String} {M : Mp} {k n pc idx d0 dE mcE msE mc ms nL' np b : Nat} {lv : List (Nat × Value)} {st As rest : List Value} {Post : Option Value → Mp → Prop} (hC : Cx E cc y) (hR : eR E = rmD dE mcE msE) (hM : Ok (eL E) (eD E) (eB E) d0 y' cc' nL' none M (.ref b :: As) mc ms Post) (hW : CMi y.cls idx y' host cc' nL' np) (hd : d0 + 1 ≤ dE) (hk : k + mc ≤ mcE) (hn : n + ms ≤ msE) (hnp : As.length = np) (hst : st = As.reverse ++ .ref b :: rest) (hrm : (rest.map fun v => v.category).sum ≤ 8) (d : decode cc pc = .ok (.invokespecial idx, 3))
    (kk : ∀ (r : Option Value) (M' : Mp), Post r M' → G E M' (k + mc) (n + ms) lv (r.toList ++ rest) (pc + 3)) : G E M k n lv st pc := by
  obtain ⟨⟨h1, h2, h3, h4⟩, w2, w9, w3⟩ := hW
  refine G_run (a := (Value.ref b :: As).toArray) (rest := rest) ?_ kk
  obtain ⟨p, l, e, R, s, m, args, below, meth, c, D, b0, nL, Q⟩ := E
  obtain ⟨hx, hb, hml, hown, hts, hKn, hb0, hlk, hmn⟩ := hC
  intro H locs ls hR2 hS hl
  have hR3 : R = rmD dE mcE msE := hR
  have hG : GoodIn TB (Cond.code y' cc' nL' none :: TB) := fun w hw => by
    rcases List.mem_cons.mp hw with rfl | hw
    · exact TB_good _ h1
    · exact TB_good _ hw
  exact va_runIN (As := As) (rest := rest) ⟨hx, hb, hml, hown, hts⟩ hM ⟨va_cnB np hts hG rfl rfl rfl (hKn.2.2.2.2.1 _ w3) (hts _ h2) h3 ⟨by rw [hR3]; exact hd, by rw [hR3]; show 8 + (nL' + 11) + 40 * d0 ≤ 40 * dE; omega⟩, w9, hts _ w2⟩ ⟨pre_blind, fun U hU hWm => ⟨rfl, by rw [hU]; exact Nat.le_trans hb0 hS.1, by rw [hU]; exact hR2, Kn_moved (locs := locs) hKn hWm (by rw [hU]; exact hS)⟩⟩ rfl hnp hl.1 hst (lv_room hrm) d (by rw [hR3]; exact ⟨hk, hn⟩)
/-! the reference's texts -/
def IsT (D : Dg) (M : Mp) (a t len : Nat) (xs : List Int) : Prop := ∃ r : Nat, M a = some (t, .inr (cTx, [.ref r, vI (xs.length : Int)])) ∧ Row D M r (t + 1) len xs
theorem IsT.fr {D : Dg} {M M' : Mp} {a t len : Nat} {xs : List Int} {T : List Nat} (h : IsT D M a t len xs) (hf : Fr T M M') (hn : t ∉ T) (hn2 : t + 1 ∉ T) : IsT D M' a t len xs := by
  obtain ⟨r, h1, h2⟩ := h
  exact ⟨r, hf.at h1 hn, h2.fr hf hn2⟩
theorem IsT.obj {D : Dg} {M : Mp} {a t len : Nat} {xs : List Int} (h : IsT D M a t len xs) : IsObj M a cTx := by
  obtain ⟨r, h1, -⟩ := h
  exact ⟨_, _, h1⟩
theorem IsT.len {D : Dg} {M : Mp} {a t len : Nat} {xs : List Int} (h : IsT D M a t len xs) : xs.length ≤ len ∧ len ≤ 20000 := by
  obtain ⟨r, h1, h2⟩ := h
  exact h2.len
theorem nar_c {a : Int} (h : 0 ≤ a ∧ a < 65536) : narrow .char (vI a) = vI a := by
  obtain ⟨n, rfl⟩ := Int.eq_ofNat_of_zero_le h.1
  have e := (pk_charN (q := n) (by omega)).1
  unfold nI at e
  show narrow .char (.int (zI (n : Int))) = .int (zI (n : Int))
  rw [zI_nat]
  exact e
theorem G_nretP {E : Cxt} {cc : ByteArray} {y : MethodName} {M : Mp} {lv : List (Nat × Value)} {pc : Nat} {x X : Int} {ty : FieldType} (hC : Cx E cc y) (hQ : Cr E (some ty) 0 0 (fun r M' => r = some (vI X) ∧ M' = M)) (d : decode cc pc = .ok (.ireturn, 1)) (hn : narrow ty (vI X) = vI X) (he : x = X) : G E M 0 0 lv [vI x] pc := by
  subst he
  exact G_zreturn hC hQ (Nat.le_refl _) (Nat.le_refl _) hn d ⟨rfl, rfl⟩
