/-! SPEC: what each method answers, over lists of signed bytes and integers -/
def b2i (b : Bool) : Int := if b = true then 1 else 0
theorem b2i_rng (b : Bool) : 0 ≤ b2i b ∧ b2i b ≤ 1 := by
  unfold b2i
  split <;> omega
theorem b2i_eq0 {b : Bool} : b2i b = 0 ↔ b = false := by cases b <;> simp [b2i]
theorem b2i_ne0 {b : Bool} : ¬ b2i b = 0 ↔ b = true := by cases b <;> simp [b2i]
theorem b2i_t {b : Bool} (h : b = true) : 1 = b2i b := by rw [h]; rfl
theorem b2i_f {b : Bool} (h : b = false) : 0 = b2i b := by rw [h]; rfl
/-- the unsigned byte at a place, -1 outside -/
def atS (xs : List Int) (i : Int) : Int := if 0 ≤ i ∧ i < xs.length then xs.getD i.toNat 0 % 256 else -1
-- signs
abbrev digP (c : Int) : Prop := 48 ≤ c ∧ c ≤ 57
abbrev letP (c : Int) : Prop := 97 ≤ c ∧ c ≤ 122
abbrev nsP (c : Int) : Prop := (97 ≤ c ∧ c ≤ 122) ∨ (48 ≤ c ∧ c ≤ 57) ∨ c = 45 ∨ c = 95
abbrev mlP (c : Int) : Prop := c = 115 ∨ c = 108 ∨ c = 111 ∨ c = 100 ∨ c = 105
abbrev pnP (c : Int) : Prop := 49 ≤ c ∧ c ≤ 57
-- names, locals, words
def nameL (xs : List Int) (to k part : Int) : Bool :=
  if h : k < to then (if atS xs k = 46 ∧ 0 < part then nameL xs to (k + 1) 0 else if nsP (atS xs k) ∧ part < 20 then nameL xs to (k + 1) (part + 1) else false) else decide (0 < part)
termination_by (to - k).toNat
decreasing_by all_goals omega
def nameS (xs : List Int) (fr to : Int) : Bool := if 60 < to - fr then false else nameL xs to fr 0
def locaL (xs : List Int) (to k : Int) : Bool :=
  if h : k < to then (if ¬ nsP (atS xs k) ∧ ¬ atS xs k = 46 ∧ ¬ atS xs k = 43 then false else locaL xs to (k + 1)) else true
termination_by (to - k).toNat
decreasing_by all_goals omega
def locaS (xs : List Int) (fr to : Int) : Bool := if to ≤ fr ∨ 30 < to - fr then false else locaL xs to fr
def wordL (xs : List Int) (to k : Int) : Bool :=
  if h : k < to then (if ¬ nsP (atS xs k) ∧ ¬ atS xs k = 46 then false else wordL xs to (k + 1)) else true
termination_by (to - k).toNat
decreasing_by all_goals omega
def wordS (xs : List Int) (fr to : Int) : Bool := if to ≤ fr ∨ ¬ letP (atS xs fr) then false else wordL xs to fr
-- rows of bytes
def findS (xs : List Int) (c k to : Int) : Int :=
  if h : k < to then (if atS xs k = c then k else findS xs c (k + 1) to) else to
termination_by (to - k).toNat
decreasing_by all_goals omega
theorem findS_rng (xs : List Int) (c k to : Int) : (k ≤ findS xs c k to ∧ findS xs c k to ≤ to) ∨ (to < k ∧ findS xs c k to = to) := by
  have H : ∀ (N : Nat) (k : Int), (to - k).toNat < N → ((k ≤ findS xs c k to ∧ findS xs c k to ≤ to) ∨ (to < k ∧ findS xs c k to = to)) := by
    intro N
    induction N with
    | zero => intro k h; omega
    | succ N ih =>
      intro k h
      rw [findS]
      split
      · split
        · omega
        · have := ih (k + 1) (by omega)
          omega
      · omega
  exact H _ k (Nat.lt_succ_self _)
def hasS (xs w : List Int) (fr to : Int) : Bool := decide ((w.length : Int) ≤ to - fr ∧ ∀ j : Nat, j < w.length → atS xs (fr + j) = w.getD j 0)
-- macros
def mlenS (xs : List Int) (q to : Int) : Int :=
  let nx := if q + 1 < to then atS xs (q + 1) else -1
  if nx = 37 ∨ nx = 95 ∨ nx = 45 then 2 else
  if ¬ nx = 123 ∨ to ≤ q + 2 ∨ ¬ mlP (atS xs (q + 2)) then 0 else
  let k1 := if pnP (atS xs (q + 3)) then q + 3 + 1 else q + 3
  let k2 := if atS xs k1 = 114 then k1 + 1 else k1
  if k2 < to ∧ atS xs k2 = 125 then k2 + 1 - q else 0
theorem mlenS_rng (xs : List Int) (q to : Int) : mlenS xs q to = 0 ∨ (2 ≤ mlenS xs q to ∧ mlenS xs q to ≤ 6 ∧ q + mlenS xs q to ≤ to) := by
  unfold mlenS
  dsimp only
  repeat' split
  all_goals omega
def targL (xs : List Int) (to k : Int) : Bool :=
  if h : k < to then (if atS xs k < 33 ∨ 126 < atS xs k then false else if atS xs k = 37 then (if h2 : mlenS xs k to = 0 then false else targL xs to (k + (mlenS xs k to - 1) + 1)) else targL xs to (k + 1)) else true
termination_by (to - k).toNat
decreasing_by
  · have h9 := mlenS_rng xs k to
    omega
  · omega
def targS (xs : List Int) (fr to : Int) : Bool := targL xs to fr && decide (fr < to)
-- rows that grow: how long the array is, and the bytes
abbrev Bv : Type := Nat × List Int
/-- what the arrays of a row have cost so far, at most -/
def psi (lim : Int) (b : Bv) : Nat := if (b.1 : Int) < lim then 2 * b.1 else 3 * lim.toNat
def addB (lim : Int) (b : Bv) (c : Int) : Bv := if lim ≤ b.2.length then b else (if b.1 ≤ b.2.length then (min lim (2 * (b.2.length : Int) + 1)).toNat else b.1, b.2 ++ [(c + 128) % 256 - 128])
def cntS (lim : Int) (b : Bv) (fr to : Int) : Int := min (to - fr) (lim - b.2.length)
def addPB (lim : Int) (b : Bv) (ys : List Int) (fr to : Int) : Bv := if fr < 0 ∨ to ≤ fr ∨ (ys.length : Int) < to then b else
  (if (b.1 : Int) < b.2.length + cntS lim b fr to then (min lim (2 * (b.2.length + cntS lim b fr to))).toNat else b.1, b.2 ++ (ys.drop fr.toNat).take (cntS lim b fr to).toNat)
def cutB (b : Bv) (n : Int) : Bv := if 0 ≤ n ∧ n < b.2.length then (b.1, b.2.take n.toNat) else b
def add4B (lim : Int) (b : Bv) (w : Int) : Bv := addB lim (addB lim (addB lim (addB lim b (w % 4294967296 / 16777216)) (w % 4294967296 / 65536)) (w % 4294967296 / 256)) w
def addNB (lim : Int) (b : Bv) (v : Int) : Bv :=
  addB lim (if 10 ≤ v then addB lim (if 100 ≤ v then addB lim b (48 + v / 100) else b) (48 + v / 10 % 10) else (if 100 ≤ v then addB lim b (48 + v / 100) else b)) (48 + v % 10)
theorem gD_lt {α : Type} {xs : List α} {j : Nat} {d : α} (h : j < xs.length) : xs.getD j d = xs[j] := by
  rw [List.getD_eq_getElem?_getD, List.getElem?_eq_getElem h]
  rfl
theorem gD_ge {α : Type} {xs : List α} {j : Nat} {d : α} (h : xs.length ≤ j) : xs.getD j d = d := by
  rw [List.getD_eq_getElem?_getD, List.getElem?_eq_none h]
  rfl
theorem addB_full {lim : Int} {b : Bv} {c : Int} (h1 : lim ≤ b.2.length) : addB lim b c = b := if_pos h1
theorem addB_grow {lim : Int} {b : Bv} {c : Int} (h1 : ¬ lim ≤ b.2.length) (h2 : b.1 ≤ b.2.length) : addB lim b c = ((min lim (2 * (b.2.length : Int) + 1)).toNat, b.2 ++ [(c + 128) % 256 - 128]) := by
  unfold addB
  rw [if_neg h1, if_pos h2]
theorem addB_fits {lim : Int} {b : Bv} {c : Int} (h1 : ¬ lim ≤ b.2.length) (h2 : ¬ b.1 ≤ b.2.length) : addB lim b c = (b.1, b.2 ++ [(c + 128) % 256 - 128]) := by
  unfold addB
  rw [if_neg h1, if_neg h2]
theorem psi_le {lim : Int} {b b' : Bv} (h : b.1 ≤ b'.1) (h1 : (b.1 : Int) ≤ lim) : psi lim b ≤ psi lim b' := by
  unfold psi
  split <;> split <;> omega
theorem psi_gr {lim : Int} {b b' : Bv} (h : (b.1 : Int) < b'.1) (h1 : 2 * b.1 ≤ b'.1 ∨ lim ≤ b'.1) (h2 : (b'.1 : Int) ≤ lim) : psi lim b + b'.1 ≤ psi lim b' ∧ psi lim b + 1 ≤ psi lim b' := by
  unfold psi
  split <;> split <;> omega
theorem psi_addB {lim : Int} {b : Bv} (c : Int) (h : b.2.length ≤ b.1 ∧ (b.1 : Int) ≤ lim) : psi lim b ≤ psi lim (addB lim b c) ∧ (addB lim b c).2.length ≤ (addB lim b c).1 ∧ ((addB lim b c).1 : Int) ≤ lim := by
  by_cases h1 : lim ≤ b.2.length
  · rw [addB_full h1]
    exact ⟨Nat.le_refl _, h⟩
  · by_cases h2 : b.1 ≤ b.2.length
    · rw [addB_grow h1 h2]
      refine ⟨psi_le ?_ h.2, ?_, ?_⟩
      · show b.1 ≤ (min lim (2 * (b.2.length : Int) + 1)).toNat
        omega
      · show (b.2 ++ [(c + 128) % 256 - 128]).length ≤ (min lim (2 * (b.2.length : Int) + 1)).toNat
        rw [List.length_append, List.length_singleton]
        omega
      · show (((min lim (2 * (b.2.length : Int) + 1)).toNat : Nat) : Int) ≤ lim
        omega
    · rw [addB_fits h1 h2]
      refine ⟨psi_le (Nat.le_refl _) h.2, ?_, h.2⟩
      show (b.2 ++ [(c + 128) % 256 - 128]).length ≤ b.1
      rw [List.length_append, List.length_singleton]
      omega
theorem grow_add {lim : Int} {b : Bv} (c : Int) (h : b.2.length ≤ b.1 ∧ (b.1 : Int) ≤ lim) (h1 : ¬ lim ≤ b.2.length) (h2 : b.1 ≤ b.2.length) : (min lim (2 * (b.2.length : Int) + 1)).toNat + psi lim b ≤ psi lim (addB lim b c) ∧ 1 + psi lim b ≤ psi lim (addB lim b c) := by
  rw [addB_grow h1 h2]
  have h3 : (b.1 : Int) < ((min lim (2 * (b.2.length : Int) + 1)).toNat : Nat) := by omega
  have h4 := psi_gr (lim := lim) (b := b) (b' := ((min lim (2 * (b.2.length : Int) + 1)).toNat, b.2 ++ [(c + 128) % 256 - 128])) h3 (by show 2 * b.1 ≤ (min lim (2 * (b.2.length : Int) + 1)).toNat ∨ lim ≤ ((min lim (2 * (b.2.length : Int) + 1)).toNat : Nat); omega) (by show (((min lim (2 * (b.2.length : Int) + 1)).toNat : Nat) : Int) ≤ lim; omega)
  dsimp only at h4
  omega
theorem ext_getD {xs ys : List Int} (hl : xs.length = ys.length) (h : ∀ j : Nat, j < xs.length → xs.getD j 0 = ys.getD j 0) : xs = ys := by
  refine List.ext_getElem hl (fun j h1 h2 => ?_)
  have h3 := h j h1
  rw [gD_lt h1, gD_lt h2] at h3
  exact h3
theorem psi_add4 (lim : Int) (b : Bv) (w : Int) (h : b.2.length ≤ b.1 ∧ (b.1 : Int) ≤ lim) : psi lim b ≤ psi lim (add4B lim b w) ∧ (add4B lim b w).2.length ≤ (add4B lim b w).1 ∧ ((add4B lim b w).1 : Int) ≤ lim := by
  have h1 := psi_addB (lim := lim) (b := b) (w % 4294967296 / 16777216) h
  have h2 := psi_addB (w % 4294967296 / 65536) h1.2
  have h3 := psi_addB (w % 4294967296 / 256) h2.2
  have h4 := psi_addB w h3.2
  exact ⟨by unfold add4B; omega, h4.2⟩
theorem addPB_none {lim : Int} {b : Bv} {ys : List Int} {fr to : Int} (h : fr < 0 ∨ to ≤ fr ∨ (ys.length : Int) < to) : addPB lim b ys fr to = b := if_pos h
theorem addPB_grow {lim : Int} {b : Bv} {ys : List Int} {fr to : Int} (h1 : ¬ (fr < 0 ∨ to ≤ fr ∨ (ys.length : Int) < to)) (h2 : (b.1 : Int) < b.2.length + min (to - fr) (lim - b.2.length)) : addPB lim b ys fr to = ((min lim (2 * ((b.2.length : Int) + min (to - fr) (lim - b.2.length)))).toNat, b.2 ++ (ys.drop fr.toNat).take (min (to - fr) (lim - (b.2.length : Int))).toNat) := by
  unfold addPB cntS
  rw [if_neg h1, if_pos h2]
theorem addPB_fits {lim : Int} {b : Bv} {ys : List Int} {fr to : Int} (h1 : ¬ (fr < 0 ∨ to ≤ fr ∨ (ys.length : Int) < to)) (h2 : ¬ (b.1 : Int) < b.2.length + min (to - fr) (lim - b.2.length)) : addPB lim b ys fr to = (b.1, b.2 ++ (ys.drop fr.toNat).take (min (to - fr) (lim - (b.2.length : Int))).toNat) := by
  unfold addPB cntS
  rw [if_neg h1, if_neg h2]
theorem psi_addPB {lim : Int} {b : Bv} (ys : List Int) (fr to : Int) (h : b.2.length ≤ b.1 ∧ (b.1 : Int) ≤ lim) : psi lim b ≤ psi lim (addPB lim b ys fr to) ∧ (addPB lim b ys fr to).2.length ≤ (addPB lim b ys fr to).1 ∧ ((addPB lim b ys fr to).1 : Int) ≤ lim := by
  by_cases h1 : fr < 0 ∨ to ≤ fr ∨ (ys.length : Int) < to
  · rw [addPB_none h1]
    exact ⟨Nat.le_refl _, h⟩
  · have hl : (b.2 ++ (ys.drop fr.toNat).take (min (to - fr) (lim - (b.2.length : Int))).toNat).length = b.2.length + (min (to - fr) (lim - (b.2.length : Int))).toNat := by
      rw [List.length_append, List.length_take, List.length_drop]
      omega
    by_cases h2 : (b.1 : Int) < b.2.length + min (to - fr) (lim - b.2.length)
    · rw [addPB_grow h1 h2]
      refine ⟨psi_le ?_ h.2, ?_, ?_⟩
      · show b.1 ≤ (min lim (2 * ((b.2.length : Int) + min (to - fr) (lim - b.2.length)))).toNat
        omega
      · show (b.2 ++ (ys.drop fr.toNat).take (min (to - fr) (lim - (b.2.length : Int))).toNat).length ≤ (min lim (2 * ((b.2.length : Int) + min (to - fr) (lim - b.2.length)))).toNat
        rw [hl]
        omega
      · show (((min lim (2 * ((b.2.length : Int) + min (to - fr) (lim - b.2.length)))).toNat : Nat) : Int) ≤ lim
        omega
    · rw [addPB_fits h1 h2]
      refine ⟨psi_le (Nat.le_refl _) h.2, ?_, h.2⟩
      show (b.2 ++ (ys.drop fr.toNat).take (min (to - fr) (lim - (b.2.length : Int))).toNat).length ≤ b.1
      rw [hl]
      omega
theorem grow_part {lim : Int} {b : Bv} (ys : List Int) (fr to : Int) (h : b.2.length ≤ b.1 ∧ (b.1 : Int) ≤ lim) (h1 : ¬ (fr < 0 ∨ to ≤ fr ∨ (ys.length : Int) < to)) (h2 : (b.1 : Int) < b.2.length + min (to - fr) (lim - b.2.length)) : (min lim (2 * ((b.2.length : Int) + min (to - fr) (lim - b.2.length)))).toNat + psi lim b ≤ psi lim (addPB lim b ys fr to) ∧ 1 + psi lim b ≤ psi lim (addPB lim b ys fr to) := by
  rw [addPB_grow h1 h2]
  have h4 := psi_gr (lim := lim) (b := b) (b' := ((min lim (2 * ((b.2.length : Int) + min (to - fr) (lim - b.2.length)))).toNat, b.2 ++ (ys.drop fr.toNat).take (min (to - fr) (lim - (b.2.length : Int))).toNat)) (by show (b.1 : Int) < ((min lim (2 * ((b.2.length : Int) + min (to - fr) (lim - b.2.length)))).toNat : Nat); omega) (by show 2 * b.1 ≤ (min lim (2 * ((b.2.length : Int) + min (to - fr) (lim - b.2.length)))).toNat ∨ lim ≤ ((min lim (2 * ((b.2.length : Int) + min (to - fr) (lim - b.2.length)))).toNat : Nat); omega) (by show (((min lim (2 * ((b.2.length : Int) + min (to - fr) (lim - b.2.length)))).toNat : Nat) : Int) ≤ lim; omega)
  dsimp only at h4
  omega
theorem psi_addNB (lim : Int) (b : Bv) (v : Int) (h : b.2.length ≤ b.1 ∧ (b.1 : Int) ≤ lim) : psi lim b ≤ psi lim (addNB lim b v) ∧ (addNB lim b v).2.length ≤ (addNB lim b v).1 ∧ ((addNB lim b v).1 : Int) ≤ lim := by
  have h1 : ∀ (x : Bv) (c : Int), (psi lim b ≤ psi lim x ∧ x.2.length ≤ x.1 ∧ (x.1 : Int) ≤ lim) → psi lim b ≤ psi lim (addB lim x c) ∧ (addB lim x c).2.length ≤ (addB lim x c).1 ∧ ((addB lim x c).1 : Int) ≤ lim := fun x c hx => by
    have := psi_addB (lim := lim) (b := x) c hx.2
    exact ⟨by omega, this.2⟩
  have h0 : psi lim b ≤ psi lim b ∧ b.2.length ≤ b.1 ∧ (b.1 : Int) ≤ lim := ⟨Nat.le_refl _, h⟩
  unfold addNB
  apply h1
  split
  · apply h1
    split
    · exact h1 _ _ h0
    · exact h0
  · split
    · exact h1 _ _ h0
    · exact h0
