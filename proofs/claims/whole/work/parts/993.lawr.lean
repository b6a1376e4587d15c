/-! THE LAW'S OWN ROWS: its script, its room -/
abbrev b_La_law : ByteArray := code
abbrev eS (E : Cxt) : State := E.2.2.2.2.1
theorem G_sld {E : Cxt} {cc : ByteArray} {y : MethodName} {M : Mp} {k n pc b L : Nat} {lv : List (Nat × Value)} {st : List Value} {xs : Nat → Int32} {i : Int} (hC : Cx E cc y) (hX : va_X b L xs (eS E) (eS E).heap) (hbB : b < eB E) (hi : 0 ≤ i ∧ i < L) (hi2 : i ≤ 2147483647) (d : decode cc pc = .ok (.iaload, 1)) (kk : G E M k n lv (vI (xs i.toNat).toInt :: st) (pc + 1)) : G E M k n lv (vI i :: .ref b :: st) pc := by
  obtain ⟨p, l, e, R, s, m, args, below, meth, c, D, b0, nL, Q⟩ := E
  obtain ⟨hx, hb, hml, hown, hts, hKn, hb0, hlk, hmn⟩ := hC
  intro H locs ls hR hS hl
  have hbB : b < b0 := hbB
  refine va_sld (A := fun q => b0 ≤ q) hx hb hX (Nat.lt_of_lt_of_le hbB hb0) (Nat.not_le.mpr hbB) hS (zI_in hi hi2) d ?_
  rw [zI_clamp ⟨hi.1, hi2⟩]
  have h := kk H locs ls hR hS hl
  rw [show vI (xs i.toNat).toInt = Value.int (xs i.toNat) from congrArg Value.int (zI_self _)] at h
  exact h
theorem G_slen {E : Cxt} {cc : ByteArray} {y : MethodName} {M : Mp} {k n pc b L : Nat} {lv : List (Nat × Value)} {st : List Value} {xs : Nat → Int32} (hC : Cx E cc y) (hX : va_X b L xs (eS E) (eS E).heap) (hbB : b < eB E) (d : decode cc pc = .ok (.arraylength, 1)) (kk : G E M k n lv (vI (L : Int) :: st) (pc + 1)) : G E M k n lv (.ref b :: st) pc := by
  obtain ⟨p, l, e, R, s, m, args, below, meth, c, D, b0, nL, Q⟩ := E
  obtain ⟨hx, hb, hml, hown, hts, hKn, hb0, hlk, hmn⟩ := hC
  intro H locs ls hR hS hl
  have hbB : b < b0 := hbB
  refine va_slen (A := fun q => b0 ≤ q) hx hb hX (Nat.lt_of_lt_of_le hbB hb0) (Nat.not_le.mpr hbB) hS d ?_
  have h := kk H locs ls hR hS hl
  rw [show vI (L : Int) = Value.int (Int32.ofNat L) from congrArg Value.int (zI_nat L)] at h
  exact h
theorem zI_and15 (x : Int32) : x &&& 15 = zI (x.toInt % 16) := by
  apply Int32.toBitVec_inj.mp
  apply BitVec.eq_of_toNat_eq
  rw [Int32.toBitVec_and]
  have h1 : (15 : Int32).toBitVec = 15#32 := rfl
  rw [h1, BitVec.toNat_and]
  have h2 : (15#32).toNat = 2 ^ 4 - 1 := rfl
  rw [h2, Nat.and_two_pow_sub_one_eq_mod]
  have h3 : (zI (x.toInt % 16)).toBitVec = BitVec.ofInt 32 (x.toInt % 16) := rfl
  rw [h3, BitVec.toNat_ofInt]
  have h4 : x.toInt = x.toBitVec.toInt := rfl
  rw [h4, BitVec.toInt_eq_toNat_cond]
  have h5 := x.toBitVec.isLt
  split <;> omega
theorem G_iand15 {E : Cxt} {cc : ByteArray} {y : MethodName} {M : Mp} {k n pc : Nat} {lv : List (Nat × Value)} {st : List Value} {a : Int} (hC : Cx E cc y) (ha : -2147483648 ≤ a ∧ a ≤ 2147483647) (d : decode cc pc = .ok (.iand, 1)) (kk : G E M k n lv (vI (a % 16) :: st) (pc + 1)) : G E M k n lv (vI 15 :: vI a :: st) pc := by
  have e := zI_and15 (zI a)
  rw [zI_toInt ha] at e
  exact G_iand hC e d kk
theorem G_ieq {E : Cxt} {cc : ByteArray} {y : MethodName} {M : Mp} {k n pc : Nat} {lv : List (Nat × Value)} {st : List Value} {a b off : Int} (hC : Cx E cc y) (tgt : Nat) (hab : a = b) (ht : (pc : Int) + off = (tgt : Int)) (d : decode cc pc = .ok (.if_icmp .eq off, 3)) (kt : G E M k n lv st tgt) : G E M k n lv (vI b :: vI a :: st) pc := by
  subst hab
  obtain ⟨p, l, e, R, s, m, args, below, meth, c, D, b0, nL, Q⟩ := E
  obtain ⟨hx, hb, hml, hown, hts, hKn, hb0, hlk, hmn⟩ := hC
  intro H locs ls hR hS hl
  exact lv_icmp_eq hx hb d ht (fun _ => kt H locs ls hR hS hl) (fun q => absurd rfl q)
theorem G_yxV {E : Cxt} {cc cc' : ByteArray} {y y' : MethodName} {M : Mp} {k n pc idx d0 mc ms nL' np b ci : Nat} {ret : Option FieldType} {lv : List (Nat × Value)} {st As rest : List Value} {Post : Option Value → Mp → Prop} (hC : Cx E cc y) (hR : eR E = room_1) (hM : Ok (eL E) (eD E) (eB E) d0 y' cc' nL' ret M (.ref b :: As) mc ms Post) (hW : CV y.cls idx y' cc' nL' ret np ci) (hb9 : IsObj M b ci) (hd : d0 + 1 ≤ 2048) (hk : k + mc ≤ 600000) (hn : n + ms ≤ 7302250) (hnp : As.length = np) (hst : st = As.reverse ++ .ref b :: rest) (hrm : (rest.map fun v => v.category).sum ≤ 8) (d : decode cc pc = .ok (.invokevirtual idx, 3))
    (kk : ∀ (r : Option Value) (M' : Mp), Post r M' → G E M' (k + mc) (n + ms) lv (r.toList ++ rest) (pc + 3)) : G E M k n lv st pc := by
  obtain ⟨w0, w1, w2, w3, r0, w4, w5⟩ := hW
  refine G_callV hC hM w0 w1 w2 w3 hb9 w4 w5 ?_ ?_ hnp hst hrm ?_ d kk
  · rw [hR]; exact hd
  · rw [hR]; show 40 * (d0 + 1) ≤ 84000; omega
  · rw [hR]; exact ⟨hk, hn⟩
theorem G_yxI {E : Cxt} {cc cc' : ByteArray} {y y' : MethodName} {M : Mp} {k n pc idx d0 mc ms nL' np b : Nat} {lv : List (Nat × Value)} {st As rest : List Value} {Post : Option Value → Mp → Prop} (hC : Cx E cc y) (hR : eR E = room_1) (hM : Ok (eL E) (eD E) (eB E) d0 y' cc' nL' none M (.ref b :: As) mc ms Post) (hW : CI y.cls idx y' cc' nL' np) (hd : d0 + 1 ≤ 2048) (hk : k + mc ≤ 600000) (hn : n + ms ≤ 7302250) (hnp : As.length = np) (hst : st = As.reverse ++ .ref b :: rest) (hrm : (rest.map fun v => v.category).sum ≤ 8) (d : decode cc pc = .ok (.invokespecial idx, 3))
    (kk : ∀ (r : Option Value) (M' : Mp), Post r M' → G E M' (k + mc) (n + ms) lv (r.toList ++ rest) (pc + 3)) : G E M k n lv st pc := by
  obtain ⟨w0, w1, w2, w3⟩ := hW
  refine G_callI hC hM w0 w1 w2 w3 ?_ ?_ hnp hst hrm ?_ d kk
  · rw [hR]; exact hd
  · rw [hR]; show 40 * (d0 + 1) ≤ 84000; omega
  · rw [hR]; exact ⟨hk, hn⟩
theorem G_ypV {E : Cxt} {cc cc' : ByteArray} {y y' : MethodName} {M : Mp} {k n pc idx d0 nL' np b ci : Nat} {ret : Option FieldType} {lv : List (Nat × Value)} {st As rest : List Value} {v : Value} (hC : Cx E cc y) (hR : eR E = room_1) (hM : OkP (eL E) (eD E) (eB E) d0 y' cc' nL' ret M (.ref b :: As) v) (hW : CV y.cls idx y' cc' nL' ret np ci) (hb9 : IsObj M b ci) (hd : d0 + 1 ≤ 2048) (hk : k ≤ 600000) (hn : n ≤ 7302250) (hnp : As.length = np) (hst : st = As.reverse ++ .ref b :: rest) (hrm : (rest.map fun v => v.category).sum ≤ 8) (d : decode cc pc = .ok (.invokevirtual idx, 3))
    (kk : G E M k n lv (v :: rest) (pc + 3)) : G E M k n lv st pc :=
  G_yxV hC hR hM hW hb9 hd hk hn hnp hst hrm d (fun r M' hp => by obtain ⟨rfl, rfl⟩ := hp; exact kk)
theorem G_ynewX {E : Cxt} {cc : ByteArray} {y : MethodName} {M : Mp} {k n pc idx ci N : Nat} {lv : List (Nat × Value)} {st : List Value} {tys : Nat → FieldType} (t : Nat) (fs : List Value) (hC : Cx E cc y) (hR : eR E = room_1) (hW : NewW y.cls idx ci N tys) (hfs : ∀ j, j < N → defaultValue (tys j) = vp_V fs j) (hk : k + 1 ≤ 600000) (hn : n + N ≤ 7302250) (d : decode cc pc = .ok (.new idx, 3))
    (kk : ∀ (q : Nat) (M' : Mp), M' q = some (t, .inr (ci, fs)) → Fr [] M M' → G E M' (k + 1) (n + N) lv (.ref q :: st) (pc + 3)) : G E M k n lv st pc := by
  obtain ⟨C, T, h1, h2, h3, h4, h5, h6⟩ := hW
  exact G_new t hC h1 h2 h3 h4 h5 h6 hfs (by rw [hR]; exact hk) (by rw [hR]; exact hn) d (fun q hq => kk q _ (mset_self _ _ _) (Fr_new hq))
theorem IsPo.rng {D : Dg} {M : Mp} {p : Nat} {tb ob : Bv} {es : List Ent} {so : Option Snd} {cn vo : Int} (h : IsPo D M p tb ob es so cn vo) : (tb.2.length ≤ tb.1 ∧ (tb.1 : Int) ≤ 800) ∧ (ob.2.length ≤ ob.1 ∧ (ob.1 : Int) ≤ 18200) ∧ psi 800 tb ≤ 2400 ∧ psi 18200 ob ≤ 54600 := by
  obtain ⟨tp, op, di, se, ma, ch, lv, tg, f, bt, h1, h2, h3, -⟩ := h
  have g1 := h2.len
  have g2 := h3.len
  have g3 := psi_max (lim := 800) (b := tb) g1.2.1
  have g4 := psi_max (lim := 18200) (b := ob) g2.2.1
  exact ⟨⟨g1.1, g1.2.1⟩, ⟨g2.1, g2.2.1⟩, g3, g4⟩
theorem feed_psi {b : Bv} {x1 x2 x3 x4 x5 : Int} (h : b.2.length ≤ b.1 ∧ (b.1 : Int) ≤ 800) : psi 800 b ≤ psi 800 (if 800 < (b.2.length : Int) + 20 then b else feedB b x1 x2 x3 x4 x5) ∧ psi 800 (if 800 < (b.2.length : Int) + 20 then b else feedB b x1 x2 x3 x4 x5) ≤ 2400 := by
  by_cases h1 : 800 < (b.2.length : Int) + 20
  · rw [if_pos h1]
    exact ⟨Nat.le_refl _, psi_max h.2⟩
  · rw [if_neg h1]
    have h2 := feed_gr b x1 x2 x3 x4 x5 h
    exact ⟨h2.1, psi_max h2.2.2⟩
theorem exp_psi {ob tb : Bv} {so : Option Snd} (h : ob.2.length ≤ ob.1 ∧ (ob.1 : Int) ≤ 18200) : psi 18200 ob ≤ psi 18200 ((expO ob tb so).getD ob) ∧ psi 18200 ((expO ob tb so).getD ob) ≤ 54600 := by
  cases so with
  | none => exact ⟨Nat.le_refl _, psi_max h.2⟩
  | some sd =>
    cases ht : targS tb.2 0 tb.2.length with
    | false =>
      rw [expO_f ht]
      exact ⟨Nat.le_refl _, psi_max h.2⟩
    | true =>
      rw [expO_t ht]
      have h0 : psi 18200 (ob.1, ([] : List Int)) = psi 18200 ob := rfl
      have h1 := wrL_gr (lim := 18200) (s := sd) (chk := sd.2.1) (xs := tb.2) (to := tb.2.length) _ 0 (ob.1, []) (Nat.lt_succ_self _) ⟨Nat.zero_le _, h.2⟩
      show psi 18200 ob ≤ psi 18200 (wrL 18200 sd sd.2.1 tb.2 tb.2.length 0 (ob.1, [])) ∧ psi 18200 (wrL 18200 sd sd.2.1 tb.2 tb.2.length 0 (ob.1, [])) ≤ 54600
      exact ⟨by rw [← h0]; exact h1.1, psi_max h1.2.2⟩
theorem cut_psi {b : Bv} {n : Int} : psi 800 (if n < 0 ∨ (b.2.length : Int) < n then b else cutB b n) = psi 800 b := by
  by_cases h : n < 0 ∨ (b.2.length : Int) < n
  · rw [if_pos h]
  · rw [if_neg h]
    exact psi_same (cutB_len b n).2
