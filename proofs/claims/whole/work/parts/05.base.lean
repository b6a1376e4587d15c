/-! BASE: my own layer over the kit's rows. A world is a map M from addresses to (tag, cell); a judgement G says that the machine, at a pc of a method, with the locals lv and the stack st, comes to the method's end. -/
/-! ===== numbers: an Int32 by its integer ===== -/
def zI (i : Int) : Int32 := Int32.ofInt i
abbrev vI (i : Int) : Value := Value.int (zI i)
theorem zI_add (a b : Int) : zI a + zI b = zI (a + b) := (Int32.ofInt_add a b).symm
theorem zI_sub (a b : Int) : zI a - zI b = zI (a - b) := (Int32.ofInt_sub a b).symm
theorem zI_mul (a b : Int) : zI a * zI b = zI (a * b) := (Int32.ofInt_mul a b).symm
theorem zI_toInt {a : Int} (h : -2147483648 ≤ a ∧ a ≤ 2147483647) : (zI a).toInt = a := Int32.toInt_ofInt_of_le (by omega) (by omega)
theorem zI_self (x : Int32) : zI x.toInt = x := Int32.ofInt_toInt x
theorem zI_rng (x : Int32) : -2147483648 ≤ x.toInt ∧ x.toInt ≤ 2147483647 := by
  have h1 := x.le_toInt
  have h2 := x.toInt_lt
  omega
theorem zI_eq {a b : Int} (ha : -2147483648 ≤ a ∧ a ≤ 2147483647) (hb : -2147483648 ≤ b ∧ b ≤ 2147483647) : zI a = zI b ↔ a = b := by
  rw [← Int32.toInt_inj, zI_toInt ha, zI_toInt hb]
theorem zI_lt {a b : Int} (ha : -2147483648 ≤ a ∧ a ≤ 2147483647) (hb : -2147483648 ≤ b ∧ b ≤ 2147483647) : zI a < zI b ↔ a < b := by
  rw [Int32.lt_iff_toInt_lt, zI_toInt ha, zI_toInt hb]
theorem zI_le {a b : Int} (ha : -2147483648 ≤ a ∧ a ≤ 2147483647) (hb : -2147483648 ≤ b ∧ b ≤ 2147483647) : zI a ≤ zI b ↔ a ≤ b := by
  rw [Int32.le_iff_toInt_le, zI_toInt ha, zI_toInt hb]
theorem zI_0 : (0 : Int32) = zI 0 := by decide +kernel
theorem zI_nat (n : Nat) : zI (n : Int) = Int32.ofNat n := Int32.ofInt_eq_ofNat
theorem zI_clamp {a : Int} (h : 0 ≤ a ∧ a ≤ 2147483647) : (zI a).toNatClampNeg = a.toNat := Int32.toNatClampNeg_ofInt_of_le (by omega) (by omega)
theorem zI_in {a : Int} {n : Nat} (h : 0 ≤ a ∧ a < n) (hn : a ≤ 2147483647) : vp_in (zI a) n := by
  rw [vp_in_iff, zI_toInt ⟨by omega, hn⟩]
  exact h
theorem zI_div {a b : Int} (ha : 0 ≤ a ∧ a ≤ 2147483647) (hb : 0 < b ∧ b ≤ 2147483647) : zI a / zI b = zI (a / b) := by
  obtain ⟨n, rfl⟩ := Int.eq_ofNat_of_zero_le ha.1
  obtain ⟨d, rfl⟩ := Int.eq_ofNat_of_zero_le (Int.le_of_lt hb.1)
  have e := pk_div (a := n) (d := d) (by omega) (by omega) (by omega)
  unfold nI at e
  rw [zI_nat, zI_nat, e, ← zI_nat]
  rfl
theorem zI_ne0 {b : Int} (hb : 0 < b ∧ b ≤ 2147483647) : ¬ zI b = 0 := by
  rw [zI_0, zI_eq (by omega) (by omega)]
  omega
theorem zI_rem {a b : Int} (ha : 0 ≤ a ∧ a ≤ 2147483647) (hb : 0 < b ∧ b ≤ 2147483647) : zI a - zI a / zI b * zI b = zI (a % b) := by
  rw [zI_div ha hb, zI_mul, zI_sub, Int.emod_def, Int.mul_comm]
/-! bits as integers -/
theorem zI_and255 (x : Int32) : x &&& 255 = zI (x.toInt % 256) := by
  apply Int32.toBitVec_inj.mp
  apply BitVec.eq_of_toNat_eq
  rw [Int32.toBitVec_and]
  have h1 : (255 : Int32).toBitVec = 255#32 := rfl
  rw [h1, BitVec.toNat_and]
  have h2 : (255#32).toNat = 2 ^ 8 - 1 := rfl
  rw [h2, Nat.and_two_pow_sub_one_eq_mod]
  have h3 : (zI (x.toInt % 256)).toBitVec = BitVec.ofInt 32 (x.toInt % 256) := rfl
  rw [h3, BitVec.toNat_ofInt]
  have h4 : x.toInt = x.toBitVec.toInt := rfl
  rw [h4, BitVec.toInt_eq_toNat_cond]
  have h5 := x.toBitVec.isLt
  split <;> omega
theorem zI_and255' {a : Int} (h : -2147483648 ≤ a ∧ a ≤ 2147483647) : zI a &&& zI 255 = zI (a % 256) := by
  have e := zI_and255 (zI a)
  rw [zI_toInt h] at e
  exact e
/-- the signed byte of an integer -/
def sgb (a : Int) : Int := (a + 128) % 256 - 128
theorem sgb_rng (a : Int) : -128 ≤ sgb a ∧ sgb a ≤ 127 := by
  unfold sgb
  omega
theorem zI_i2b {a : Int} (h : -2147483648 ≤ a ∧ a ≤ 2147483647) : (zI a).toInt8.toInt32 = zI (sgb a) := by
  apply Int32.toInt_inj.mp
  have h1 := sgb_rng a
  rw [zI_toInt (by omega), Int8.toInt_toInt32, Int32.toInt_toInt8, zI_toInt h, Int.bmod_def]
  unfold sgb
  split <;> omega
theorem zI_ushr24 (a : Int) : ((zI a).toUInt32 >>> ((zI 24).toUInt32 &&& Int32.toUInt32 31)).toInt32 = zI (a % 4294967296 / 16777216) := by
  have h0 : (zI 24).toUInt32 &&& Int32.toUInt32 31 = (24 : UInt32) := by decide +kernel
  rw [h0]
  apply Int32.toBitVec_inj.mp
  apply BitVec.eq_of_toNat_eq
  have h1 : ((zI a).toUInt32 >>> (24 : UInt32)).toInt32.toBitVec.toNat = ((zI a).toUInt32 >>> (24 : UInt32)).toNat := rfl
  rw [h1, UInt32.toNat_shiftRight]
  have h2 : (zI a).toUInt32.toNat = (BitVec.ofInt 32 a).toNat := rfl
  have h3 : (zI (a % 4294967296 / 16777216)).toBitVec = BitVec.ofInt 32 (a % 4294967296 / 16777216) := rfl
  have h4 : (24 : UInt32).toNat % 32 = 24 := by decide +kernel
  rw [h2, h3, BitVec.toNat_ofInt, BitVec.toNat_ofInt, h4, Nat.shiftRight_eq_div_pow]
  omega
theorem zI_ushr16 (a : Int) : ((zI a).toUInt32 >>> ((zI 16).toUInt32 &&& Int32.toUInt32 31)).toInt32 = zI (a % 4294967296 / 65536) := by
  have h0 : (zI 16).toUInt32 &&& Int32.toUInt32 31 = (16 : UInt32) := by decide +kernel
  rw [h0]
  apply Int32.toBitVec_inj.mp
  apply BitVec.eq_of_toNat_eq
  have h1 : ((zI a).toUInt32 >>> (16 : UInt32)).toInt32.toBitVec.toNat = ((zI a).toUInt32 >>> (16 : UInt32)).toNat := rfl
  rw [h1, UInt32.toNat_shiftRight]
  have h2 : (zI a).toUInt32.toNat = (BitVec.ofInt 32 a).toNat := rfl
  have h3 : (zI (a % 4294967296 / 65536)).toBitVec = BitVec.ofInt 32 (a % 4294967296 / 65536) := rfl
  have h4 : (16 : UInt32).toNat % 32 = 16 := by decide +kernel
  rw [h2, h3, BitVec.toNat_ofInt, BitVec.toNat_ofInt, h4, Nat.shiftRight_eq_div_pow]
  omega
theorem zI_ushr8 (a : Int) : ((zI a).toUInt32 >>> ((zI 8).toUInt32 &&& Int32.toUInt32 31)).toInt32 = zI (a % 4294967296 / 256) := by
  have h0 : (zI 8).toUInt32 &&& Int32.toUInt32 31 = (8 : UInt32) := by decide +kernel
  rw [h0]
  apply Int32.toBitVec_inj.mp
  apply BitVec.eq_of_toNat_eq
  have h1 : ((zI a).toUInt32 >>> (8 : UInt32)).toInt32.toBitVec.toNat = ((zI a).toUInt32 >>> (8 : UInt32)).toNat := rfl
  rw [h1, UInt32.toNat_shiftRight]
  have h2 : (zI a).toUInt32.toNat = (BitVec.ofInt 32 a).toNat := rfl
  have h3 : (zI (a % 4294967296 / 256)).toBitVec = BitVec.ofInt 32 (a % 4294967296 / 256) := rfl
  have h4 : (8 : UInt32).toNat % 32 = 8 := by decide +kernel
  rw [h2, h3, BitVec.toNat_ofInt, BitVec.toNat_ofInt, h4, Nat.shiftRight_eq_div_pow]
  omega
/-! ===== worlds ===== -/
abbrev Cel : Type := Nat × va_E
abbrev Mp : Type := Nat → Option Cel
def mset (M : Mp) (a : Nat) (c : Cel) : Mp := fun q => if q = a then some c else M q
theorem mset_self (M : Mp) (a : Nat) (c : Cel) : mset M a c a = some c := if_pos rfl
theorem mset_ne {M : Mp} {a q : Nat} {c : Cel} (h : q ≠ a) : mset M a c q = M q := if_neg h
theorem mset_mset (M : Mp) (a : Nat) (c d : Cel) : mset (mset M a c) a d = mset M a d := by
  funext q
  by_cases h : q = a <;> simp [mset, h]
theorem ne_cel {M : Mp} {a b : Nat} {c d : Cel} (ha : M a = some c) (hb : M b = some d) (h : c ≠ d) : a ≠ b := fun e => h (by subst e; exact Option.some.inj (ha.symm.trans hb))
theorem mset_at {M : Mp} {a q : Nat} {c d : Cel} (hq : M q = some d) (h : q ≠ a) : mset M a c q = some d := (mset_ne h).trans hq
/-- known classes' numbers and slots; the classes of arrays; where the text constants and their bytes stand -/
abbrev Dg : Type := va_G × (Nat → ClassId) × (Nat → Nat) × (Nat → Nat)
def Rep (D : Dg) (b0 : Nat) (M : Mp) (H : Heap) : Prop := ∃ ws : va_W, va_P D.1 vwCl ws H ∧ va_D (fun q => b0 ≤ q) ws ∧ ∀ (a : Nat) (c : Cel), M a = some c → ∃ k : Nat, ws[k]? = some (a, c.2)
theorem Rep_set {D : Dg} {b0 : Nat} {M : Mp} {H1 : Heap} {ws : va_W} {q0 a : Nat} {e0 e1 : va_E} (t : Nat) (hq : ws[q0]? = some (a, e0)) (hM : ∀ (a : Nat) (c : Cel), M a = some c → ∃ k : Nat, ws[k]? = some (a, c.2))
    (hP1 : va_P D.1 vwCl (ws.set q0 (a, e1)) H1) (hD1 : va_D (fun q => b0 ≤ q) (ws.set q0 (a, e1))) : Rep D b0 (mset M a (t, e1)) H1 := by
  refine ⟨_, hP1, hD1, fun q c hc => ?_⟩
  by_cases h : q = a
  · subst h
    rw [mset_self] at hc
    cases hc
    have hlt : q0 < ws.length := (List.getElem?_eq_some_iff.mp hq).1
    exact ⟨q0, by rw [List.getElem?_set_self hlt]⟩
  · rw [mset_ne h] at hc
    obtain ⟨k, hk⟩ := hM q c hc
    have hne : q0 ≠ k := fun z => by
      subst z
      rw [hq] at hk
      exact h (congrArg Prod.fst (Option.some.inj hk)).symm
    exact ⟨k, by rw [List.getElem?_set_ne hne]; exact hk⟩
theorem Rep_push {D : Dg} {b0 : Nat} {M : Mp} {H1 : Heap} {ws : va_W} {a : Nat} {e1 : va_E} (hM : ∀ (a : Nat) (c : Cel), M a = some c → ∃ k : Nat, ws[k]? = some (a, c.2))
    (hP1 : va_P D.1 vwCl (ws ++ [(a, e1)]) H1) (hD1 : va_D (fun q => b0 ≤ q) (ws ++ [(a, e1)])) : M a = none ∧ ∀ t : Nat, Rep D b0 (mset M a (t, e1)) H1 := by
  have hlast : (ws ++ [(a, e1)])[ws.length]? = some (a, e1) := by simp
  have hold : ∀ (k : Nat) (x : Nat × va_E), ws[k]? = some x → (ws ++ [(a, e1)])[k]? = some x := fun k x hk => by
    rw [List.getElem?_append_left (List.getElem?_eq_some_iff.mp hk).1]; exact hk
  have hnew : ∀ (k : Nat) (e : va_E), ws[k]? = some (a, e) → False := fun k e hk => by
    have h1 := hD1.1 k ws.length (a, e) (a, e1) (hold k _ hk) hlast rfl
    have h2 := (List.getElem?_eq_some_iff.mp hk).1
    omega
  refine ⟨?_, fun t => ⟨_, hP1, hD1, fun q c hc => ?_⟩⟩
  · cases hm : M a with
    | none => rfl
    | some c =>
      obtain ⟨k, hk⟩ := hM a c hm
      exact (hnew k c.2 hk).elim
  · by_cases h : q = a
    · subst h
      rw [mset_self] at hc
      cases hc
      exact ⟨_, hlast⟩
    · rw [mset_ne h] at hc
      obtain ⟨k, hk⟩ := hM q c hc
      exact ⟨k, hold k _ hk⟩
/-- cells that are kept may be forgotten, and tags changed -/
theorem Rep_weak {D : Dg} {b0 : Nat} {M M' : Mp} {H : Heap} (h : Rep D b0 M H) (hw : ∀ (a : Nat) (c : Cel), M' a = some c → ∃ t : Nat, M a = some (t, c.2)) : Rep D b0 M' H := by
  obtain ⟨ws, h1, h2, h3⟩ := h
  refine ⟨ws, h1, h2, fun a c hc => ?_⟩
  obtain ⟨t, ht⟩ := hw a c hc
  exact h3 a (t, c.2) ht
/-! ===== the context of a walk, and the judgement G ===== -/
/-- the words of the tables that a callee may be given, for every method the same -/
def TB : List Cond := lw_tbl.filter goodWord
theorem TB_good : GoodIn TB TB := fun w hw => ⟨hw, good_of_word (List.mem_filter.mp hw).2⟩
theorem tb_in {w : Cond} (i : Nat) (h : lw_tbl[i]? = some w) (hg : goodWord w = true) : w ∈ TB := List.mem_filter.mpr ⟨List.mem_of_getElem? h, hg⟩
def TYS (D : Dg) : List (ClassId × FieldType) := [(D.2.1 0, .byte), (D.2.1 1, .int), (D.2.1 2, .object "SendPolicy$Entry"), (D.2.1 3, .object "SendPolicy$Level"), (D.2.1 4, .object "SendPolicyModel$Text")]
/-- what is known of the tables and of the text constants, at any state of a run -/
def Kn (D : Dg) (b0 : Nat) (U : State) : Prop := va_K D.1 vwCl (TYS D) U ∧ (∀ C ∈ ["SendPolicy$Entry", "SendPolicy$Level", "SendPolicyModel$Text"], va_AO C U) ∧ vk_S nTX lenTX bytTX D.2.2.1 D.2.2.2 (fun q => b0 ≤ q) U U.heap ∧ (∀ q ∈ refTX, vk_R q.1 q.2.1 q.2.2.1 (D.2.2.1 q.2.2.2) U) ∧ (∀ q ∈ nestTX, va_Nw (.methodLinkNest q.1 q.2.1 q.2.2.1 q.2.2.2) U) ∧ va_Z "java/lang/String" "COMPACT_STRINGS" "Z" (.int 1) (fun q => b0 ≤ q) U U.heap ∧ ∃ v : Value, (v = .null ∨ ∃ a, v = .ref a) ∧ va_Z "jdk/internal/util/Preconditions" "SIOOBE_FORMATTER" "Ljava/util/function/BiFunction;" v (fun q => b0 ≤ q) U U.heap
theorem Kn_moved {D : Dg} {b0 : Nat} {s U : State} {locs : List Loc} (h : Kn D b0 s) (hW : s.WarmedH U.vm) (hS : va_S (fun q => b0 ≤ q) s.heap U.heap locs) : Kn D b0 U :=
  ⟨va_K.moved hW.alike h.1, fun C hC => (h.2.1 C hC).moved hW.alike, (h.2.2.1.moved hW.alike).kept hS.2.1, fun q hq => (h.2.2.2.1 q hq).warm hW, fun q hq => (h.2.2.2.2.1 q hq).warmM hW, (h.2.2.2.2.2.1.moved hW.alike).kept hS.2.1, by
    obtain ⟨v, h1, h2⟩ := h.2.2.2.2.2.2
    exact ⟨v, h1, (h2.moved hW.alike).kept hS.2.1⟩⟩
theorem Kn_same {D : Dg} {b0 : Nat} {u U : State} (hv : U.vm = u.vm) (hh : U.heap = u.heap) (h : Kn D b0 u) : Kn D b0 U := by
  have ha : u.vm.Alike U.vm := by rw [hv]; exact Vm.Alike.refl u.vm
  obtain ⟨h1, h2, h3, h4, h5, h6, v, h7, h8⟩ := h
  refine ⟨va_K.moved ha h1, fun C hC => (h2 C hC).moved ha, ?_, fun q hq => (h4 q hq).same hv, fun q hq => va_Nw.same rfl hv.symm (h5 q hq), ?_, v, h7, ?_⟩
  · rw [hh]
    exact h3.moved ha
  · rw [hh]
    exact h6.moved ha
  · rw [hh]
    exact h8.moved ha
abbrev Cxt : Type := Program × Launch × Env × Room × State × MethodId × Array Value × List Frame × Method × Code × Dg × Nat × Nat × (State → Prop)
abbrev eN (E : Cxt) : Nat := E.2.2.2.2.2.2.2.2.2.2.2.2.1
abbrev eD (E : Cxt) : Dg := E.2.2.2.2.2.2.2.2.2.2.1
abbrev eB (E : Cxt) : Nat := E.2.2.2.2.2.2.2.2.2.2.2.1
abbrev eL (E : Cxt) : Launch := E.2.1
abbrev eR (E : Cxt) : Room := E.2.2.2.1
def Cx (E : Cxt) (cc : ByteArray) (y : MethodName) : Prop := match E with
  | (p, _, _, _, s, m, args, _, meth, c, D, b0, nL, _) => p.tables.exec = Jvm.exec ∧ c.code = cc ∧ c.maxLocals = nL ∧ s.vm.findClass y.cls = some m.cls ∧ (∀ w ∈ TB, w.before args s = true) ∧ Kn D b0 s ∧ b0 ≤ s.heap.size ∧ meth.locks = false ∧ meth.name = y.name
def G (E : Cxt) (M : Mp) (k n : Nat) (lv : List (Nat × Value)) (st : List Value) (pc : Nat) : Prop := match E with
  | (p, l, e, R, s, m, args, below, meth, c, D, b0, nL, Q) => ∀ (H : Heap) (locs : List Loc) (ls : Array Slot), Rep D b0 M H → va_S (fun q => b0 ≤ q) s.heap H locs → lv_has ls nL lv → W p l e R s m args below meth c H locs k n Q (F0 m pc ls st)
/-! ===== a method's contract ===== -/
def Pc_of (D : Dg) (b0 : Nat) (M : Mp) (av : List Value) : Array Value → State → Prop := fun v U => v = av.toArray ∧ b0 ≤ U.heap.size ∧ Rep D b0 M U.heap ∧ Kn D b0 U
def Qc_of (D : Dg) (b0 : Nat) (Post : Option Value → Mp → Prop) : Array Value → State → Outcome → State → Prop := fun _ st oc t => (∃ (r : Option Value) (M' : Mp), oc = .returned r ∧ Post r M' ∧ Rep D b0 M' t.heap) ∧ va_F (fun q => b0 ≤ q) st t
/-- the room at depth d: d frames are left, forty words of locals each -/
def rmD (d mc ms : Nat) : Room := { frames := d, cells := mc, slots := ms, locals := 40 * d }
def Ok (l : Launch) (D : Dg) (b0 d : Nat) (y : MethodName) (cc : ByteArray) (nL : Nat) (ret : Option FieldType) (M : Mp) (av : List Value) (mc ms : Nat) (Post : Option Value → Mp → Prop) : Prop :=
  Met l y (Cond.code y cc nL ret :: TB) (rmD d mc ms) (Pc_of D b0 M av) (Qc_of D b0 Post) mc ms (fun q => b0 ≤ q)
/-- the end of a walk under a contract -/
def eQ (D : Dg) (b0 : Nat) (Post : Option Value → Mp → Prop) (below : List Frame) (args : Array Value) (s : State) (mc ms : Nat) : State → Prop := MQ below (Qc_of D b0 Post) args s mc ms (fun q => b0 ≤ q)
/-- E walks the method under the contract Post, with the return type ret -/
def Cr (E : Cxt) (ret : Option FieldType) (mc ms : Nat) (Post : Option Value → Mp → Prop) : Prop := match E with
  | (_, _, _, _, s, _, args, below, meth, _, D, b0, _, Q) => meth.sig.returnType = ret ∧ Q = eQ D b0 Post below args s mc ms
theorem Ok_of {l : Launch} {D : Dg} {b0 d : Nat} {y : MethodName} {cc : ByteArray} {nL : Nat} {ret : Option FieldType} {M : Mp} {av : List Value} {mc ms : Nat} {Post : Option Value → Mp → Prop}
    (hy : plainName y.cls = true) (hav : (lg_sl av).length ≤ nL)
    (body : ∀ E : Cxt, Cx E cc y → Cr E ret mc ms Post → eL E = l → eD E = D → eB E = b0 → eN E = nL → eR E = rmD d mc ms → G E M 0 0 (lv_args 0 av) [] 0) : Ok l D b0 d y cc nL ret M av mc ms Post := by
  refine Met.ofW (cc := cc) (maxL := nL) (ret := ret) hy rfl ?_
  intro p e s m args below meth c s₁ B hml hv
  obtain ⟨rfl, hb0, hRep, hKn⟩ := hv
  have hts := atoms_spec (ws := Cond.code y cc nL ret :: TB) B.pre
  have h := body (p, l, e, rmD d mc ms, s, m, av.toArray, below, meth, c, D, b0, nL, eQ D b0 Post below av.toArray s mc ms)
    ⟨B.exec, B.bytes, hml, findClass_of_methodNamed B.named, fun w hw => hts w (List.mem_cons_of_mem _ hw), hKn, hb0, B.notSynchronized, (name_of_methodNamed B.named B.method).1⟩
    ⟨B.returns, rfl⟩ rfl rfl rfl rfl rfl
  rw [lg_entry_eq]
  exact h s.heap [] _ hRep va_S.rf (lv_entry av hav)
/-! ===== ends ===== -/
theorem G_ireturn {E : Cxt} {cc : ByteArray} {y : MethodName} {M : Mp} {k n pc mc ms : Nat} {lv : List (Nat × Value)} {x : Int32} {Post : Option Value → Mp → Prop} (hC : Cx E cc y) (hQ : Cr E (some .int) mc ms Post) (hk : k ≤ mc) (hn : n ≤ ms) (d : decode cc pc = .ok (.ireturn, 1)) (hp : Post (some (.int x)) M) : G E M k n lv [.int x] pc := by
  obtain ⟨p, l, e, R, s, m, args, below, meth, c, D, b0, nL, Q⟩ := E
  obtain ⟨hx, hb, hml, hown, hts, hKn, hb0, hlk, hmn⟩ := hC
  obtain ⟨hr, rfl⟩ := hQ
  intro H locs ls hR hS hl
  refine W.widen hk hn ?_
  exact W.iret hx hb hr (fun t ht _ => ⟨⟨_, M, rfl, hp, by rw [ht]; exact hR⟩, hS.F ht⟩) hS.2.2 d hlk
theorem G_zreturn {E : Cxt} {cc : ByteArray} {y : MethodName} {M : Mp} {k n pc mc ms : Nat} {lv : List (Nat × Value)} {x : Int32} {ty : FieldType} {Post : Option Value → Mp → Prop} (hC : Cx E cc y) (hQ : Cr E (some ty) mc ms Post) (hk : k ≤ mc) (hn : n ≤ ms) (hx9 : narrow ty (.int x) = .int x) (d : decode cc pc = .ok (.ireturn, 1)) (hp : Post (some (.int x)) M) : G E M k n lv [.int x] pc := by
  obtain ⟨p, l, e, R, s, m, args, below, meth, c, D, b0, nL, Q⟩ := E
  obtain ⟨hx, hb, hml, hown, hts, hKn, hb0, hlk, hmn⟩ := hC
  obtain ⟨hr, rfl⟩ := hQ
  intro H locs ls hR hS hl
  refine W.widen hk hn ?_
  exact W.zret hx hb hr hx9 (fun t ht _ => ⟨⟨_, M, rfl, hp, by rw [ht]; exact hR⟩, hS.F ht⟩) hS.2.2 d hlk
theorem G_return {E : Cxt} {cc : ByteArray} {y : MethodName} {M : Mp} {k n pc mc ms : Nat} {lv : List (Nat × Value)} {Post : Option Value → Mp → Prop} (hC : Cx E cc y) (hQ : Cr E none mc ms Post) (hk : k ≤ mc) (hn : n ≤ ms) (d : decode cc pc = .ok (.return_, 1)) (hp : Post none M) : G E M k n lv [] pc := by
  obtain ⟨p, l, e, R, s, m, args, below, meth, c, D, b0, nL, Q⟩ := E
  obtain ⟨hx, hb, hml, hown, hts, hKn, hb0, hlk, hmn⟩ := hC
  obtain ⟨hr, rfl⟩ := hQ
  intro H locs ls hR hS hl
  refine W.widen hk hn ?_
  exact W.vret hx hb hr (fun t ht _ => ⟨⟨_, M, rfl, hp, by rw [ht]; exact hR⟩, hS.F ht⟩) hS.2.2 d hlk
theorem G_areturn {E : Cxt} {cc : ByteArray} {y : MethodName} {M : Mp} {k n pc mc ms : Nat} {lv : List (Nat × Value)} {v : Value} {rt : FieldType} {Post : Option Value → Mp → Prop} (hC : Cx E cc y) (hQ : Cr E (some rt) mc ms Post) (hrt : (∃ n, rt = .object n) ∨ ∃ t, rt = .array t) (hv : v = .null ∨ ∃ a, v = .ref a) (hk : k ≤ mc) (hn : n ≤ ms) (d : decode cc pc = .ok (.areturn, 1)) (hp : Post (some v) M) : G E M k n lv [v] pc := by
  obtain ⟨p, l, e, R, s, m, args, below, meth, c, D, b0, nL, Q⟩ := E
  obtain ⟨hx, hb, hml, hown, hts, hKn, hb0, hlk, hmn⟩ := hC
  obtain ⟨hr, rfl⟩ := hQ
  intro H locs ls hR hS hl
  refine W.widen hk hn ?_
  exact W.aret hx hb hr hrt hv (fun t ht _ => ⟨⟨_, M, rfl, hp, by rw [ht]; exact hR⟩, hS.F ht⟩) hS.2.2 d hlk
/-- less may be asked: cells and slots rounded up, a world forgotten in part -/
theorem G_weak {E : Cxt} {M M' : Mp} {k n pc : Nat} {lv : List (Nat × Value)} {st : List Value} (hw : ∀ (a : Nat) (c : Cel), M' a = some c → ∃ t : Nat, M a = some (t, c.2)) (kk : G E M' k n lv st pc) : G E M k n lv st pc := by
  obtain ⟨p, l, e, R, s, m, args, below, meth, c, D, b0, nL, Q⟩ := E
  intro H locs ls hR hS hl
  exact kk H locs ls (Rep_weak hR hw) hS hl
theorem G_widen {E : Cxt} {M : Mp} {k n k' n' pc : Nat} {lv : List (Nat × Value)} {st : List Value} (hk : k ≤ k') (hn : n ≤ n') (kk : G E M k' n' lv st pc) : G E M k n lv st pc := by
  obtain ⟨p, l, e, R, s, m, args, below, meth, c, D, b0, nL, Q⟩ := E
  intro H locs ls hR hS hl
  exact W.widen hk hn (kk H locs ls hR hS hl)
/-- the locals in another order, or fewer -/
theorem G_lv {E : Cxt} {M : Mp} {k n pc : Nat} {lv lv' : List (Nat × Value)} {st : List Value} (is : List Nat) (h : lv_pick lv is = lv') (kk : G E M k n lv' st pc) : G E M k n lv st pc := by
  obtain ⟨p, l, e, R, s, m, args, below, meth, c, D, b0, nL, Q⟩ := E
  intro H locs ls hR hS hl
  exact kk H locs ls hR hS (lv_sub hl is h)
