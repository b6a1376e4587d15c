/-! WHAT THE REFERENCE WRITES: signs put at a limit, parts, macros -/
theorem putS_take {len : Nat} {xs : List Int} (c : Int) (h : xs.length ≤ len) : putS len xs c = (xs ++ [sgb c]).take len := by
  unfold putS
  by_cases h1 : xs.length < len
  · rw [if_pos h1, List.take_of_length_le (by rw [List.length_append, List.length_singleton]; omega)]
  · rw [if_neg h1, List.take_append_of_le_length (by omega), List.take_of_length_le h]
theorem sgb_is {c : Int} (h : -128 ≤ c ∧ c ≤ 127) : sgb c = c := sgb_id h
theorem sli_cons {ps : List Int} {q e : Int} (h : 0 ≤ q ∧ q < e ∧ q < ps.length) : sliS ps q e = gx ps q :: sliS ps (q + 1) e := by
  unfold sliS gx
  have e1 : (e - q).toNat = (e - (q + 1)).toNat + 1 := by omega
  have e2 : (q + 1).toNat = q.toNat + 1 := by omega
  have h1 : q.toNat < ps.length := by omega
  rw [e1, e2, List.drop_eq_getElem_cons h1, List.take_succ_cons, gD_lt h1]
theorem sli_nil {ps : List Int} {q : Int} : sliS ps q q = [] := by
  unfold sliS
  have e1 : (q - q).toNat = 0 := by omega
  rw [e1, List.take_zero]
theorem put_step {len : Nat} {cur rest W : List Int} {c : Int} (h : cur.length ≤ len) (hc : -128 ≤ c ∧ c ≤ 127) (hf : (cur ++ c :: rest).take len = W) : (putS len cur c ++ rest).take len = W := by
  rw [putS_take c h, take_app, List.append_assoc, sgb_is hc]
  exact hf
theorem put_done {len : Nat} {cur W : List Int} (h : cur.length ≤ len) (hf : (cur ++ []).take len = W) : cur = W := by
  rw [List.append_nil, List.take_of_length_le h] at hf
  exact hf
theorem partS_sli {xs : List Int} {p : Int} (hp : 0 ≤ p) : partS xs p = sliS xs (stG xs p) (stG xs (p + 1) - 1) := by
  have e2 : (stL xs 0).getD p.toNat 0 = stG xs (p + 1) := by
    unfold stG
    have e : (p + 1).toNat = p.toNat + 1 := by omega
    rw [e, List.getD_cons_succ]
  unfold partS
  rw [e2]
  rfl
theorem st_in {ps : List Int} {q n k : Int} (h : (stL ps 0).drop n.toNat = stL ps q) (hn : 0 ≤ n ∧ n < k ∧ k < (stL ps 0).length) : q < ps.length := by
  have h1 := congrArg List.length h
  rw [List.length_drop] at h1
  have h2 := (stL_len ps _ q (Nat.lt_succ_self _)).1
  omega
theorem st_dot {ps : List Int} {q n : Int} (h : (stL ps 0).drop n.toNat = stL ps q) (hn : 0 ≤ n) (hq : q ≤ ps.length) (hd : q = ps.length ∨ atS ps q = 46) : (stL ps 0).drop (n + 1).toNat = stL ps (q + 1) ∧ q + 1 = stG ps (n + 1) := by
  rw [stL_yes hq hd] at h
  have e : (n + 1).toNat = n.toNat + 1 := by omega
  refine ⟨by rw [e]; exact drop_next h, ?_⟩
  unfold stG
  rw [e, List.getD_cons_succ]
  exact (drop_head h).symm
theorem st_nodot {ps : List Int} {q n : Int} (h : (stL ps 0).drop n.toNat = stL ps q) (hq : q < ps.length) (hd : ¬ atS ps q = 46) : (stL ps 0).drop n.toNat = stL ps (q + 1) := by
  rw [stL_no (k := q) (by omega) (by omega)] at h
  exact h
/-- where the loop over a part ends -/
theorem st_head {ps : List Int} {q k : Int} (h : (stL ps 0).drop k.toNat = stL ps q) (hk : 0 ≤ k ∧ k < (stL ps 0).length) : ∃ r, stL ps q = (stG ps (k + 1) - 1 + 1) :: r := by
  have h1 : k.toNat < (stL ps 0).length := by omega
  rw [List.drop_eq_getElem_cons h1] at h
  refine ⟨(stL ps 0).drop (k.toNat + 1), ?_⟩
  rw [← h]
  have e : (stL ps 0)[k.toNat] = stG ps (k + 1) := by
    unfold stG
    have e : (k + 1).toNat = k.toNat + 1 := by omega
    rw [e, List.getD_cons_succ, gD_lt h1]
  rw [e]
  congr 1
  omega
theorem hd_yes {ps : List Int} {q e : Int} {r : List Int} (h : stL ps q = (e + 1) :: r) (hq : q ≤ ps.length) (hd : q = ps.length ∨ atS ps q = 46) : q = e := by
  rw [stL_yes hq hd] at h
  have := (List.cons.inj h).1
  omega
theorem hd_no {ps : List Int} {q e : Int} {r : List Int} (h : stL ps q = (e + 1) :: r) (hq : q < ps.length) (hd : ¬ atS ps q = 46) : stL ps (q + 1) = (e + 1) :: r ∧ q < e := by
  rw [stL_no (by omega) (by omega)] at h
  have := (stL_len ps _ (q + 1) (Nat.lt_succ_self _)).2.2 (e + 1) (by rw [h]; exact List.mem_cons_self)
  exact ⟨h, by omega⟩
theorem out_step {len : Nat} {cur ps W : List Int} {first k : Int} {tu : Bool} (h1 : k < (stL ps 0).length) (hl : cur.length ≤ len) (hf : (cur ++ outL ps first tu k).take len = W) :
    (((if first < k then putS len cur 46 else cur) ++ partS ps (if tu = true then (stL ps 0).length - 1 - k else k)).take len ++ outL ps first tu (k + 1)).take len = W := by
  rw [outL, dif_pos h1] at hf
  rw [take_app, List.append_assoc]
  by_cases h2 : first < k
  · rw [if_pos h2] at hf ⊢
    rw [putS_take 46 hl, take_app, ← hf]
    simp only [List.append_assoc]
    rfl
  · rw [if_neg h2] at hf ⊢
    rw [← hf]
    simp only [List.append_assoc, List.nil_append]
theorem out_end {len : Nat} {cur ps W : List Int} {first k : Int} {tu : Bool} (h1 : ¬ k < (stL ps 0).length) (hl : cur.length ≤ len) (hf : (cur ++ outL ps first tu k).take len = W) : cur = W := by
  rw [outL, dif_neg h1] at hf
  exact put_done hl hf
/-- the shape of a macro in braces -/
theorem ml_shape {ys : List Int} {kk q to nn tt : Int} (hm : mlenS ys kk tt = nn) (hq : q = kk + 2 ∧ to = kk + nn - 1) (h4 : ¬ nn = 0 ∧ ¬ nn = 2) : mlP (atS ys q) ∧ ((to = q + 1 ∧ ¬ pnP (atS ys (q + 1)) ∧ ¬ atS ys (q + 1) = 114) ∨ (to = q + 2 ∧ pnP (atS ys (q + 1)) ∧ ¬ atS ys (q + 2) = 114) ∨ (to = q + 2 ∧ atS ys (q + 1) = 114) ∨ (to = q + 3 ∧ pnP (atS ys (q + 1)) ∧ atS ys (q + 2) = 114)) ∧ to < tt := by
  unfold mlenS at hm
  dsimp only at hm
  generalize (if kk + 1 < tt then atS ys (kk + 1) else -1) = nx at hm
  have e2 : kk + 2 = q := by omega
  have e3 : kk + 3 = q + 1 := by omega
  have e4 : q + 1 + 1 = q + 2 := by omega
  rw [e2, e3, e4] at hm
  by_cases h1 : nx = 37 ∨ nx = 95 ∨ nx = 45
  · rw [if_pos h1] at hm
    omega
  rw [if_neg h1] at hm
  by_cases h2 : ¬ nx = 123 ∨ tt ≤ q ∨ ¬ mlP (atS ys q)
  · rw [if_pos h2] at hm
    omega
  rw [if_neg h2] at hm
  have h3 : mlP (atS ys q) := Decidable.byContradiction (fun z => h2 (Or.inr (Or.inr z)))
  refine ⟨h3, ?_⟩
  have e5 : q + 2 + 1 = q + 3 := by omega
  by_cases p : pnP (atS ys (q + 1))
  · rw [if_pos p] at hm
    by_cases r : atS ys (q + 2) = 114
    · rw [if_pos r] at hm
      split at hm <;> omega
    · rw [if_neg r] at hm
      split at hm <;> omega
  · rw [if_neg p] at hm
    by_cases r : atS ys (q + 1) = 114
    · rw [if_pos r] at hm
      split at hm <;> omega
    · rw [if_neg r] at hm
      split at hm <;> omega
theorem src_s {s : Snd} {X : List Int} {c : Int} (h : c = 115) : srcS s X c = s.1 ++ [64] ++ s.2.1 := if_pos h
theorem src_l {s : Snd} {X : List Int} {c : Int} (h : c = 108) : srcS s X c = s.1 := by
  unfold srcS
  rw [if_neg (by omega), if_pos h]
theorem src_o {s : Snd} {X : List Int} {c : Int} (h : c = 111) : srcS s X c = s.2.1 := by
  unfold srcS
  rw [if_neg (by omega), if_neg (by omega), if_pos h]
theorem src_i {s : Snd} {X : List Int} {c : Int} (h : c = 105) : srcS s X c = dotS s.2.2.toInt := by
  unfold srcS
  rw [if_neg (by omega), if_neg (by omega), if_neg (by omega), if_pos h]
theorem src_d {s : Snd} {X : List Int} {c : Int} (h : c = 100) : srcS s X c = X := by
  unfold srcS
  rw [if_neg (by omega), if_neg (by omega), if_neg (by omega), if_neg (by omega)]
theorem sl_all (l : List Int) : (l.drop (0 : Int).toNat).take ((l.length : Int) - 0).toNat = l := by
  have e : ((l.length : Int) - 0).toNat = l.length := by omega
  rw [e]
  exact List.take_length
/-- a shift by whole bytes -/
def shS (a k : Int) : Int := if k = 24 then a / 16777216 else if k = 16 then a / 65536 else if k = 8 then a / 256 else a
theorem shS_rng (a k : Int) (h : -2147483648 ≤ a ∧ a ≤ 2147483647) : -2147483648 ≤ shS a k ∧ shS a k ≤ 2147483647 := by
  unfold shS
  repeat' split
  all_goals omega
theorem shr_n (x : Int32) (b : Int32) (n : Nat) (h : (b.toBitVec.smod 32).toNat = n) : (x >>> b).toInt = x.toInt / ((2 ^ n : Nat) : Int) := by
  have h1 : (x >>> b).toInt = (x.toBitVec.sshiftRight (b.toBitVec.smod 32).toNat).toInt := rfl
  rw [h1, h, BitVec.toInt_sshiftRight, Int.shiftRight_eq_div_pow]
  rfl
theorem zI_shr {a k : Int} (ha : -2147483648 ≤ a ∧ a ≤ 2147483647) (hk : k = 24 ∨ k = 16 ∨ k = 8 ∨ k = 0) : zI a >>> (zI k &&& 31) = zI (shS a k) := by
  apply Int32.toInt_inj.mp
  rw [zI_toInt (shS_rng a k ha)]
  rcases hk with rfl | rfl | rfl | rfl
  · rw [shr_n (zI a) (zI 24 &&& 31) 24 (by decide +kernel), zI_toInt ha]
    rfl
  · rw [shr_n (zI a) (zI 16 &&& 31) 16 (by decide +kernel), zI_toInt ha]
    rfl
  · rw [shr_n (zI a) (zI 8 &&& 31) 8 (by decide +kernel), zI_toInt ha]
    rfl
  · rw [shr_n (zI a) (zI 0 &&& 31) 0 (by decide +kernel), zI_toInt ha]
    show a / 1 = a
    omega
/-- what is still to be written of an address -/
def dotR (a k : Int) : List Int := if k = 24 then dotS a else if k = 16 then numS (a / 65536 % 256) ++ [46] ++ numS (a / 256 % 256) ++ [46] ++ numS (a % 256) else if k = 8 then numS (a / 256 % 256) ++ [46] ++ numS (a % 256) else if k = 0 then numS (a % 256) else []
theorem dotR_step {a k : Int} (hk : k = 24 ∨ k = 16 ∨ k = 8 ∨ k = 0) : dotR a k = numS (shS a k % 256) ++ (if 0 < k then [46] else []) ++ dotR a (k + (-8)) := by
  rcases hk with rfl | rfl | rfl | rfl
  · show dotS a = numS (a / 16777216 % 256) ++ [46] ++ (numS (a / 65536 % 256) ++ [46] ++ numS (a / 256 % 256) ++ [46] ++ numS (a % 256))
    unfold dotS
    simp only [List.append_assoc]
  · show numS (a / 65536 % 256) ++ [46] ++ numS (a / 256 % 256) ++ [46] ++ numS (a % 256) = numS (a / 65536 % 256) ++ [46] ++ (numS (a / 256 % 256) ++ [46] ++ numS (a % 256))
    simp only [List.append_assoc]
  · rfl
  · show numS (a % 256) = numS (a % 256) ++ [] ++ []
    simp only [List.append_nil]
theorem numS_3 {v : Int} (h : 99 < v) : numS v = [48 + v / 100, 48 + v / 10 % 10, 48 + v % 10] := by
  unfold numS
  rw [if_pos (by omega), if_pos (by omega)]
  rfl
theorem numS_2 {v : Int} (h : ¬ 99 < v) (h1 : 9 < v) : numS v = [48 + v / 10 % 10, 48 + v % 10] := by
  unfold numS
  rw [if_neg (by omega), if_pos (by omega)]
  rfl
theorem numS_1 {v : Int} (h : ¬ 9 < v) : numS v = [48 + v % 10] := by
  unfold numS
  rw [if_neg (by omega), if_neg (by omega)]
  rfl
theorem dotS_len (a : Int) : (dotS a).length ≤ 15 := by
  have l1 := numS_len (v := a / 16777216 % 256)
  have l2 := numS_len (v := a / 65536 % 256)
  have l3 := numS_len (v := a / 256 % 256)
  have l4 := numS_len (v := a % 256)
  unfold dotS
  simp only [List.length_append, List.length_singleton]
  omega
theorem app_len {a b c : List Int} (h : a ++ b = c) : a.length ≤ c.length := by
  rw [← h, List.length_append]
  omega
/-- macros of a D, one after the other -/
theorem tg_1 {ys : List Int} {to k : Int} (h : targL ys to k = true) (hk : k < to) (hc : ¬ atS ys k = 37) : targL ys to (k + 1) = true := by
  rw [targL, dif_pos hk] at h
  by_cases hr : atS ys k < 33 ∨ 126 < atS ys k
  · rw [if_pos hr] at h
    cases h
  · rw [if_neg hr, if_neg hc] at h
    exact h
theorem tg_m {ys : List Int} {to k : Int} (h : targL ys to k = true) (hk : k < to) (hc : atS ys k = 37) : ¬ mlenS ys k to = 0 ∧ targL ys to (k + mlenS ys k to) = true := by
  rw [targL, dif_pos hk] at h
  by_cases hr : atS ys k < 33 ∨ 126 < atS ys k
  · rw [if_pos hr] at h
    cases h
  · rw [if_neg hr, if_pos hc] at h
    by_cases h1 : mlenS ys k to = 0
    · rw [dif_pos h1] at h
      cases h
    · rw [dif_neg h1] at h
      refine ⟨h1, ?_⟩
      rw [show k + mlenS ys k to = k + (mlenS ys k to - 1) + 1 by omega]
      exact h
theorem ml_two {ys : List Int} {to k : Int} (h : ¬ mlenS ys k to = 0) : k + 1 < to ∧ (mlenS ys k to = 2 ↔ (atS ys (k + 1) = 37 ∨ atS ys (k + 1) = 95 ∨ atS ys (k + 1) = 45)) := by
  have h9 := mlenS_rng ys k to
  refine ⟨by omega, ?_⟩
  have h4 : ¬ mlenS ys k to = 2 → 4 ≤ mlenS ys k to := mlenS_4 h
  by_cases h2 : mlenS ys k to = 2
  · constructor
    · intro _
      apply Decidable.byContradiction
      intro z
      have h3 : ¬ mlenS ys k to = 2 := by
        unfold mlenS
        dsimp only
        rw [if_pos (show k + 1 < to by omega), if_neg z]
        repeat' split
        all_goals omega
      exact h3 h2
    · intro _
      exact h2
  · constructor
    · intro z
      exact absurd z h2
    · intro z
      have h3 : mlenS ys k to = 2 := by
        unfold mlenS
        dsimp only
        rw [if_pos (show k + 1 < to by omega), if_pos z]
      exact h3
theorem ex_1 {s : Snd} {X ys cur W : List Int} {to k : Int} {len : Nat} (h : targL ys to k = true) (hk : k < to ∧ 0 ≤ k ∧ to ≤ ys.length) (hc : ¬ atS ys k = 37) (hl : cur.length ≤ len) (hf : (cur ++ expL s X ys to k).take len = W) : (putS len cur (gx ys k) ++ expL s X ys to (k + 1)).take len = W := by
  rw [expL, dif_pos hk.1, dif_neg (fun z => hc z.1)] at hf
  rw [putS_take _ hl, take_app, List.append_assoc]
  have e : (atS ys k + 128) % 256 - 128 = sgb (gx ys k) := by
    rw [atS_gx (by omega)]
    unfold sgb
    omega
  rw [e] at hf
  exact hf
theorem ex_s {s : Snd} {X ys cur c1 W l : List Int} {to k : Int} {len : Nat} (h : targL ys to k = true) (hk : k < to ∧ atS ys k = 37) (h2 : mlenS ys k to = 2) (hl : signS (atS ys (k + 1)) = l) (hc : cur.length ≤ len) (hp : c1 = (cur ++ l).take len) (hf : (cur ++ expL s X ys to k).take len = W) : (c1 ++ expL s X ys to (k + mlenS ys k to)).take len = W := by
  rw [expL, dif_pos hk.1, dif_pos ⟨hk.2, by omega⟩, if_pos h2, hl] at hf
  rw [hp, take_app, List.append_assoc]
  exact hf
theorem ex_m {s : Snd} {X ys cur W : List Int} {to k : Int} {len : Nat} (h : targL ys to k = true) (hk : k < to ∧ atS ys k = 37) (h2 : ¬ mlenS ys k to = 2 ∧ ¬ mlenS ys k to = 0) (hc : cur.length ≤ len) (hf : (cur ++ expL s X ys to k).take len = W) : ((cur ++ macS s X ys k (mlenS ys k to)).take len ++ expL s X ys to (k + mlenS ys k to)).take len = W := by
  rw [expL, dif_pos hk.1, dif_pos ⟨hk.2, h2.2⟩, if_neg h2.1] at hf
  rw [take_app, List.append_assoc]
  exact hf
theorem put_1 {len : Nat} {cur : List Int} (c : Int) (h : cur.length ≤ len) (hc : -128 ≤ c ∧ c ≤ 127) : putS len cur c = (cur ++ [c]).take len := by rw [putS_take c h, sgb_is hc]
theorem put_len {len : Nat} {cur : List Int} (c : Int) (h : cur.length ≤ len) : (putS len cur c).length ≤ len := by
  rw [putS_take c h, List.length_take]
  omega
theorem put_3 {len : Nat} {cur : List Int} (h : cur.length ≤ len) : putS len (putS len (putS len cur 37) 50) 48 = (cur ++ [37, 50, 48]).take len := by
  have h1 := put_len 37 h
  have h2 := put_len 50 h1
  rw [put_1 48 h2 (by omega), put_1 50 h1 (by omega), put_1 37 h (by omega), take_app, List.append_assoc, take_app, List.append_assoc]
  rfl
-- tags, kept shut
def tgP (t : Nat) : Prop := t = 502 ∨ (520 ≤ t ∧ t ≤ 546)
def tdP (td t : Nat) : Prop := (td = 510 ∨ (520 ≤ td ∧ td ≤ 546)) ∧ (td + 1 < t ∨ t + 1 < td)
def trP (tr : Nat) : Prop := tr = 501 ∨ 600 ≤ tr
theorem tgN {t : Nat} (h : tgP t) (u : Nat) (hu : u < 502 ∨ (503 < u ∧ u < 520) ∨ 547 < u) : u ∉ [t, t + 1] := by
  unfold tgP at h
  simp only [List.mem_cons, List.not_mem_nil, or_false, not_or]
  omega
theorem tgN4 {t : Nat} (h : tgP t) (u : Nat) (hu : (u < 502 ∨ (503 < u ∧ u < 520) ∨ 547 < u) ∧ u ≠ 513 ∧ u ≠ 514) : u ∉ [t, t + 1, 513, 514] := by
  unfold tgP at h
  simp only [List.mem_cons, List.not_mem_nil, or_false, not_or]
  omega
theorem tdN {td t : Nat} (h : tdP td t) : td ∉ [t, t + 1] ∧ td + 1 ∉ [t, t + 1] := by
  unfold tdP at h
  simp only [List.mem_cons, List.not_mem_nil, or_false, not_or]
  omega
theorem tdN4 {td t : Nat} (h : tdP td t) : td ∉ [t, t + 1, 513, 514] ∧ td + 1 ∉ [t, t + 1, 513, 514] := by
  unfold tdP at h
  simp only [List.mem_cons, List.not_mem_nil, or_false, not_or]
  omega
theorem trN {tr t : Nat} (ht : tgP t) (h : trP tr) : tr ∉ [t, t + 1] := by
  unfold trP at h
  unfold tgP at ht
  simp only [List.mem_cons, List.not_mem_nil, or_false, not_or]
  omega
theorem trN4 {tr t : Nat} (ht : tgP t) (h : trP tr) : tr ∉ [t, t + 1, 513, 514] := by
  unfold trP at h
  unfold tgP at ht
  simp only [List.mem_cons, List.not_mem_nil, or_false, not_or]
  omega
theorem tgM {t : Nat} (h : tgP t) : t ∉ [513, 514] ∧ t + 1 ∉ [513, 514] := by
  unfold tgP at h
  simp only [List.mem_cons, List.not_mem_nil, or_false, not_or]
  omega
theorem tdM {td t : Nat} (h : tdP td t) : td ∉ [513, 514] ∧ td + 1 ∉ [513, 514] := by
  unfold tdP at h
  simp only [List.mem_cons, List.not_mem_nil, or_false, not_or]
  omega
theorem tdM1 {td t : Nat} (h : tdP td t) : td ∉ [513] ∧ td + 1 ∉ [513] := by
  unfold tdP at h
  simp only [List.mem_cons, List.not_mem_nil, or_false]
  omega
theorem trM {tr : Nat} (h : trP tr) : tr ∉ [513, 514] := by
  unfold trP at h
  simp only [List.mem_cons, List.not_mem_nil, or_false, not_or]
  omega
theorem tdX {td t : Nat} (h : tdP td t) : td + 1 ≠ 513 ∧ td + 1 ≠ 513 + 1 := by
  unfold tdP at h
  omega
/-- the shape of a macro, kept shut -/
def shP (ys : List Int) (q to tt : Int) : Prop := mlP (atS ys q) ∧ ((to = q + 1 ∧ ¬ pnP (atS ys (q + 1)) ∧ ¬ atS ys (q + 1) = 114) ∨ (to = q + 2 ∧ pnP (atS ys (q + 1)) ∧ ¬ atS ys (q + 2) = 114) ∨ (to = q + 2 ∧ atS ys (q + 1) = 114) ∨ (to = q + 3 ∧ pnP (atS ys (q + 1)) ∧ atS ys (q + 2) = 114)) ∧ to < tt
theorem sh_rng {ys : List Int} {q to tt : Int} (h : shP ys q to tt) : (q + 1 ≤ to ∧ to ≤ q + 3 ∧ to < tt) ∧ (100 ≤ atS ys q ∧ atS ys q ≤ 115) := by
  obtain ⟨h1, h2, h3⟩ := h
  exact ⟨by omega, by omega⟩
theorem sh_r {ys : List Int} {q to tt : Int} (h : shP ys q to tt) (z : atS ys (to - 1) = 114) : q < to - 1 := by
  have h1 := (sh_rng h).1
  apply Decidable.byContradiction
  intro z2
  rw [show to - 1 = q by omega] at z
  have h2 := h.1
  omega
theorem sh_let {ys : List Int} {q to tt : Int} (h : shP ys q to tt) : atS ys q = 115 ∨ atS ys q = 108 ∨ atS ys q = 111 ∨ atS ys q = 100 ∨ atS ys q = 105 := h.1
/-- the number of parts asked for, so far -/
def nvP (ys : List Int) (q k v : Int) : Prop := (q + 1 < k ∧ pnP (atS ys (q + 1)) ∧ v = atS ys (q + 1) - 48) ∨ (¬ (q + 1 < k ∧ pnP (atS ys (q + 1))) ∧ v = 0)
theorem nv_0 {ys : List Int} {q : Int} : nvP ys q (q + 1) 0 := Or.inr ⟨by omega, rfl⟩
theorem nv_yes {ys : List Int} {q to tt k v : Int} (h : shP ys q to tt) (hk : q + 1 ≤ k ∧ k < to) (hd : digP (gx ys k)) (hg : atS ys k = gx ys k % 256) (hn : nvP ys q k v) : nvP ys q (k + 1) (gx ys k - 48) := by
  obtain ⟨h1, h2, h3⟩ := h
  by_cases hk1 : k = q + 1
  · subst hk1
    exact Or.inl ⟨by omega, by omega, by omega⟩
  · have hk2 : k = q + 2 := by omega
    subst hk2
    exfalso
    omega
theorem nv_no {ys : List Int} {q to tt k v : Int} (h : shP ys q to tt) (hk : q + 1 ≤ k ∧ k < to) (hd : ¬ digP (gx ys k)) (hr : -128 ≤ gx ys k ∧ gx ys k ≤ 127) (hg : atS ys k = gx ys k % 256) (hn : nvP ys q k v) : nvP ys q (k + 1) v := by
  obtain ⟨h1, h2, h3⟩ := h
  unfold nvP at hn ⊢
  by_cases hk1 : k = q + 1
  · subst hk1
    right
    constructor
    · omega
    · omega
  · omega
theorem nv_end {ys : List Int} {q to tt k v : Int} (h : shP ys q to tt) (hk : k = to) (hn : nvP ys q k v) : (pnP (atS ys (q + 1)) ∧ v = atS ys (q + 1) - 48) ∨ (¬ pnP (atS ys (q + 1)) ∧ v = 0) := by
  obtain ⟨h1, h2, h3⟩ := h
  unfold nvP at hn
  omega
theorem first_is {ys : List Int} {q v f P : Int} {n : Nat} (hn : (pnP (atS ys (q + 1)) ∧ v = atS ys (q + 1) - 48) ∨ (¬ pnP (atS ys (q + 1)) ∧ v = 0)) (hP : P ≤ (n : Int) + 1 ∧ 1 ≤ P) (hf : (f = 0 ∧ (v = 0 ∨ P ≤ v)) ∨ (f = P - v ∧ ¬ v = 0 ∧ v < P)) : f = max 0 (P - (if pnP (atS ys (q + 1)) then atS ys (q + 1) - 48 else (n : Int) + 1)) := by
  rcases hn with ⟨h1, h2⟩ | ⟨h1, h2⟩
  · rw [if_pos h1]
    omega
  · rw [if_neg h1]
    omega
theorem nv_rng {ys : List Int} {q k v : Int} (hn : nvP ys q k v) : 0 ≤ v ∧ v ≤ 9 := by
  unfold nvP at hn
  omega
theorem m1 {u t : Nat} (h : u ∉ [t, t + 1]) : u ∉ [t] := fun z => h (List.mem_cons.mpr (Or.inl (List.mem_singleton.mp z)))
