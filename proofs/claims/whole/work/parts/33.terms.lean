/-! TERMS: what one word of a policy says (both sides are held against this) -/
theorem G_xretP {E : Cxt} {cc : ByteArray} {y : MethodName} {M : Mp} {lv : List (Nat × Value)} {pc : Nat} {x : Int32} (hC : Cx E cc y) (hQ : Cr E (some .int) 0 0 (fun r M' => r = some (.int x) ∧ M' = M)) (d : decode cc pc = .ok (.ireturn, 1)) : G E M 0 0 lv [.int x] pc := G_ireturn hC hQ (Nat.le_refl _) (Nat.le_refl _) d ⟨rfl, rfl⟩
def verS (c : Int) : Int := if c = 45 then 3 else if c = 126 then 4 else if c = 63 then 1 else 2
abbrev sgP (c : Int) : Prop := c = 43 ∨ c = 63 ∨ c = 126 ∨ c = 45
def bitsL (xs : List Int) (stop k v : Int) : Option Int :=
  if h : k < stop then (if digP (atS xs k) then bitsL xs stop (k + 1) (v * 10 + atS xs k - 48) else none) else if v ≤ 32 then some v else none
termination_by (stop - k).toNat
decreasing_by all_goals omega
def bitsS (xs : List Int) (q stop : Int) : Option Int := if stop ≤ q ∨ 2 < stop - q then none else bitsL xs stop q 0
/-- four numbers: net so far, the number that is read -/
def quadL (xs : List Int) (stop k dots digits number : Int) (net : Int32) : Option Int32 :=
  if h : k < stop then
    (if digP (atS xs k) ∧ digits < 3 then (if 255 < number * 10 + atS xs k - 48 then none else quadL xs stop (k + 1) dots (digits + 1) (number * 10 + atS xs k - 48) net)
    else if atS xs k = 46 ∧ 0 < digits ∧ dots < 3 then quadL xs stop (k + 1) (dots + 1) 0 0 ((net <<< (zI 8 &&& 31)) ||| zI number)
    else none)
  else if dots = 3 ∧ 0 < digits then some ((net <<< (zI 8 &&& 31)) ||| zI number) else none
termination_by (stop - k).toNat
decreasing_by all_goals omega
/-- as the reference reads four numbers -/
def quadR (xs : List Int) (stop k parts digits v : Int) (net : Int32) : Option Int32 :=
  if h : k ≤ stop then
    (if k < stop ∧ digP (atS xs k) then (if 3 < digits + 1 then none else quadR xs stop (k + 1) parts (digits + 1) (10 * v + atS xs k - 48) net)
    else if (k < stop ∧ ¬ atS xs k = 46) ∨ digits = 0 ∨ 255 < v then none
    else quadR xs stop (k + 1) (parts + 1) 0 0 ((net <<< (zI 8 &&& 31)) ||| zI v))
  else if parts = 4 then some net else none
termination_by (stop + 1 - k).toNat
decreasing_by all_goals omega
theorem quadR_big (xs : List Int) (stop : Int) : ∀ (N : Nat) (k parts digits v : Int) (net : Int32), (stop + 1 - k).toNat < N → 0 ≤ digits → k ≤ stop → 255 < v → quadR xs stop k parts digits v net = none := by
  intro N
  induction N with
  | zero => intro k parts digits v net h; omega
  | succ N ih =>
    intro k parts digits v net h h0 hk hv
    rw [quadR]
    rw [dif_pos hk]
    split
    · split
      · rfl
      · exact ih _ _ _ _ _ (by omega) (by omega) (by omega) (by omega)
    · rw [if_pos (by omega)]
theorem quadR_many (xs : List Int) (stop : Int) : ∀ (N : Nat) (k parts digits v : Int) (net : Int32), (stop + 1 - k).toNat < N → (4 ≤ parts ∧ k ≤ stop ∨ 5 ≤ parts) → quadR xs stop k parts digits v net = none := by
  intro N
  induction N with
  | zero => intro k parts digits v net h; omega
  | succ N ih =>
    intro k parts digits v net h hp
    rw [quadR]
    split
    · split
      · split
        · rfl
        · exact ih _ _ _ _ _ (by omega) (by omega)
      · split
        · rfl
        · exact ih _ _ _ _ _ (by omega) (by omega)
    · rw [if_neg (by omega)]
theorem quadR_L (xs : List Int) (stop : Int) : ∀ (N : Nat) (k dots digits number : Int) (net : Int32), (stop + 1 - k).toNat < N → k ≤ stop → 0 ≤ dots → dots ≤ 3 → 0 ≤ digits → digits ≤ 3 → 0 ≤ number → number ≤ 255 → quadR xs stop k dots digits number net = quadL xs stop k dots digits number net := by
  intro N
  induction N with
  | zero => intro k dots digits number net h; omega
  | succ N ih =>
    intro k dots digits number net h hk h1 h2 h3 h4 h5 h6
    rw [quadR, quadL, dif_pos hk]
    by_cases hs : k < stop
    · rw [dif_pos hs]
      by_cases hd : digP (atS xs k)
      · rw [if_pos ⟨hs, hd⟩]
        by_cases h9 : digits < 3
        · rw [if_neg (by omega), if_pos ⟨hd, h9⟩]
          have e : 10 * number + atS xs k - 48 = number * 10 + atS xs k - 48 := by omega
          rw [e]
          by_cases h8 : 255 < number * 10 + atS xs k - 48
          · rw [if_pos h8]
            exact quadR_big xs stop _ _ _ _ _ _ (Nat.lt_succ_self _) (by omega) (by omega) h8
          · rw [if_neg h8]
            exact ih _ _ _ _ _ (by omega) (by omega) h1 h2 (by omega) (by omega) (by omega) (by omega)
        · rw [if_pos (by omega), if_neg (by omega), if_neg (by omega)]
      · rw [if_neg (show ¬ (k < stop ∧ digP (atS xs k)) from fun z => hd z.2), if_neg (show ¬ (digP (atS xs k) ∧ digits < 3) from fun z => hd z.1)]
        by_cases h7 : atS xs k = 46 ∧ 0 < digits ∧ dots < 3
        · rw [if_neg (by omega), if_pos h7]
          exact ih _ _ _ _ _ (by omega) (by omega) (by omega) (by omega) (by omega) (by omega) (by omega) (by omega)
        · rw [if_neg h7]
          by_cases h6 : (k < stop ∧ ¬ atS xs k = 46) ∨ digits = 0 ∨ 255 < number
          · rw [if_pos h6]
          · rw [if_neg h6]
            exact quadR_many xs stop _ _ _ _ _ _ (Nat.lt_succ_self _) (by omega)
    · rw [dif_neg hs, if_neg (by omega)]
      by_cases h7 : dots = 3 ∧ 0 < digits
      · rw [if_neg (by omega), if_pos h7, quadR, dif_neg (by omega), if_pos (by omega)]
      · rw [if_neg h7]
        by_cases h6 : digits = 0
        · rw [if_pos (by omega)]
        · rw [if_neg (by omega), quadR, dif_neg (by omega), if_neg (by omega)]
/-- what a word says: kind, width, network, D -/
abbrev Tm : Type := Int × Int × Int32 × Option (Int × Int)
def hostS (xs : List Int) (kind q stop : Int) : Option Tm :=
  if q < findS xs 47 q stop ∧ ¬ (atS xs q = 58 ∧ targS xs (q + 1) (findS xs 47 q stop) = true) then none else
  match (if findS xs 47 q stop = stop then some 32 else bitsS xs (findS xs 47 q stop + 1) stop) with
  | none => none
  | some w => some (kind, w, 0, if q < findS xs 47 q stop then some (q + 1, findS xs 47 q stop) else none)
def ip4S (xs : List Int) (q stop : Int) : Option Tm :=
  match quadL xs (findS xs 47 q stop) q 0 0 0 0, (if findS xs 47 q stop = stop then some 32 else bitsS xs (findS xs 47 q stop + 1) stop) with
  | some n, some w => some (4, w, n, none)
  | _, _ => none
def otherS (xs : List Int) (q stop : Int) : Bool := decide (findS xs 61 q stop < stop) && wordS xs q (findS xs 61 q stop)
def targT (xs : List Int) (kind q stop : Int) : Option Tm := if targS xs q stop = true then some (kind, 32, 0, some (q, stop)) else none
def termS (xs w1 w2 w3 w4 w5 w6 w7 : List Int) (q stop : Int) (signed : Bool) : Option Tm :=
  if stop - q = 3 ∧ hasS xs w1 q stop = true then some (0, 32, 0, none)
  else if hasS xs w2 q stop = true then targT xs 1 (q + 8) stop
  else if hasS xs w3 q stop = true then targT xs 5 (q + 7) stop
  else if hasS xs w4 q stop = true then ip4S xs (q + 4) stop
  else if hasS xs w5 q stop = true ∧ (stop = q + 1 ∨ atS xs (q + 1) = 58 ∨ atS xs (q + 1) = 47) then hostS xs 2 (q + 1) stop
  else if hasS xs w6 q stop = true ∧ (stop = q + 2 ∨ atS xs (q + 2) = 58 ∨ atS xs (q + 2) = 47) then hostS xs 3 (q + 2) stop
  else if signed = true then none
  else if hasS xs w7 q stop = true then targT xs 6 (q + 9) stop
  else if otherS xs q stop = true then some (7, 32, 0, none) else none
/-! as the class tries one after the other -/
def altAll (xs : List Int) (q stop : Int) : Option Tm := if stop - q = 3 ∧ hasS xs (wrd 1) q stop = true then some (0, 32, 0, none) else none
def altT (xs : List Int) (i : Nat) (kind q stop d : Int) : Option Tm := if hasS xs (wrd i) q stop = true then targT xs kind (q + d) stop else none
def altH (xs : List Int) (i : Nat) (kind q stop d : Int) : Option Tm := if hasS xs (wrd i) q stop = true then hostS xs kind (q + d) stop else none
def altI (xs : List Int) (q stop : Int) : Option Tm := if hasS xs (wrd 5) q stop = true then ip4S xs (q + 4) stop else none
def altO (xs : List Int) (q stop : Int) : Option Tm := if otherS xs q stop = true ∧ hasS xs (wrd 7) q stop = false then some (7, 32, 0, none) else none
/-- behind readAll, include, a, mx, ip4, exists, redirect -/
def rs7 (xs : List Int) (q stop : Int) (sg : Bool) : Option Tm := if sg = true then none else altO xs q stop
def rs6 (xs : List Int) (q stop : Int) (sg : Bool) : Option Tm := (if sg = true then none else altT xs 7 6 q stop 9).or (rs7 xs q stop sg)
def rs5 (xs : List Int) (q stop : Int) (sg : Bool) : Option Tm := (altT xs 6 5 q stop 7).or (rs6 xs q stop sg)
def rs4 (xs : List Int) (q stop : Int) (sg : Bool) : Option Tm := (altI xs q stop).or (rs5 xs q stop sg)
def rs3 (xs : List Int) (q stop : Int) (sg : Bool) : Option Tm := (altH xs 4 3 q stop 2).or (rs4 xs q stop sg)
def rs2 (xs : List Int) (q stop : Int) (sg : Bool) : Option Tm := (altH xs 3 2 q stop 1).or (rs3 xs q stop sg)
def rs1 (xs : List Int) (q stop : Int) (sg : Bool) : Option Tm := (altT xs 2 1 q stop 8).or (rs2 xs q stop sg)
def rs0 (xs : List Int) (q stop : Int) (sg : Bool) : Option Tm := (altAll xs q stop).or (rs1 xs q stop sg)
/-- the fields of a term that was read -/
def fld (tm : Tm) (k n : Int) (w : Int32) (f o : Int) : Prop := k = tm.1 ∧ (tm.1 = 2 ∨ tm.1 = 3 ∨ tm.1 = 4 → n = tm.2.1) ∧ (tm.1 = 4 → w = tm.2.2.1) ∧ (∀ d, tm.2.2.2 = some d → f = d.1 ∧ o = d.2) ∧ (tm.2.2.2 = none → tm.1 = 2 ∨ tm.1 = 3 → f = o)
theorem has_first {xs : List Int} {i : Nat} {q stop : Int} {c : Int} (h : hasS xs (wrd i) q stop = true) (hc : 0 < (wrd i).length ∧ (wrd i).getD 0 0 = c) : atS xs q = c := by
  have h1 := (of_decide_eq_true h).2 0 hc.1
  rw [hc.2] at h1
  have e : q + ((0 : Nat) : Int) = q := by omega
  rw [e] at h1
  exact h1
theorem has_nth {xs : List Int} {i : Nat} {q stop : Int} (h : hasS xs (wrd i) q stop = true) (j : Nat) {c : Int} (hc : j < (wrd i).length ∧ (wrd i).getD j 0 = c) : atS xs (q + j) = c := by
  have h1 := (of_decide_eq_true h).2 j hc.1
  rw [hc.2] at h1
  exact h1
theorem isS_t {α : Type} {x : Option α} (h : x.isSome = true) : ∃ v, x = some v := Option.isSome_iff_exists.mp h
theorem isS_f {α : Type} {x : Option α} (h : x.isSome = false) : x = none := by
  cases x with
  | none => rfl
  | some v => cases h
theorem or_no {α : Type} {x y z : Option α} (h : x.or y = z) (hx : x = none) : y = z := by
  rw [hx, Option.none_or] at h
  exact h
theorem or_yes {α : Type} {x y z : Option α} {v : α} (h : x.or y = z) (hx : x = some v) : z = some v := by
  rw [hx, Option.some_or] at h
  exact h.symm
theorem ip4_f1 {xs : List Int} {q stop : Int} (h : quadL xs (findS xs 47 q stop) q 0 0 0 0 = none) : ip4S xs q stop = none := by
  unfold ip4S
  rw [h]
theorem ip4_f2 {xs : List Int} {q stop : Int} (h1 : ¬ findS xs 47 q stop = stop) (h : bitsS xs (findS xs 47 q stop + 1) stop = none) : ip4S xs q stop = none := by
  unfold ip4S
  rw [if_neg h1, h]
  split
  · next h2 => cases h2
  · rfl
theorem ip4_s1 {xs : List Int} {q stop : Int} {n : Int32} (h : quadL xs (findS xs 47 q stop) q 0 0 0 0 = some n) (h1 : findS xs 47 q stop = stop) : ip4S xs q stop = some (4, 32, n, none) := by
  unfold ip4S
  rw [h, if_pos h1]
theorem ip4_s2 {xs : List Int} {q stop : Int} {n : Int32} {w : Int} (h : quadL xs (findS xs 47 q stop) q 0 0 0 0 = some n) (h1 : ¬ findS xs 47 q stop = stop) (h2 : bitsS xs (findS xs 47 q stop + 1) stop = some w) : ip4S xs q stop = some (4, w, n, none) := by
  unfold ip4S
  rw [h, if_neg h1, h2]
theorem host_f1 {xs : List Int} {kind q stop : Int} (h : q < findS xs 47 q stop) (h1 : ¬ (atS xs q = 58 ∧ targS xs (q + 1) (findS xs 47 q stop) = true)) : hostS xs kind q stop = none := by
  unfold hostS
  rw [if_pos ⟨h, h1⟩]
theorem host_f2 {xs : List Int} {kind q stop : Int} (h1 : ¬ findS xs 47 q stop = stop) (h : bitsS xs (findS xs 47 q stop + 1) stop = none) : hostS xs kind q stop = none := by
  unfold hostS
  by_cases h2 : q < findS xs 47 q stop ∧ ¬ (atS xs q = 58 ∧ targS xs (q + 1) (findS xs 47 q stop) = true)
  · rw [if_pos h2]
  · rw [if_neg h2, if_neg h1, h]
theorem host_s1 {xs : List Int} {kind q stop : Int} (h : q < findS xs 47 q stop → atS xs q = 58 ∧ targS xs (q + 1) (findS xs 47 q stop) = true) (h1 : findS xs 47 q stop = stop) : hostS xs kind q stop = some (kind, 32, 0, if q < findS xs 47 q stop then some (q + 1, findS xs 47 q stop) else none) := by
  unfold hostS
  rw [if_neg (fun z => z.2 (h z.1)), if_pos h1]
theorem host_s2 {xs : List Int} {kind q stop w : Int} (h : q < findS xs 47 q stop → atS xs q = 58 ∧ targS xs (q + 1) (findS xs 47 q stop) = true) (h1 : ¬ findS xs 47 q stop = stop) (h2 : bitsS xs (findS xs 47 q stop + 1) stop = some w) : hostS xs kind q stop = some (kind, w, 0, if q < findS xs 47 q stop then some (q + 1, findS xs 47 q stop) else none) := by
  unfold hostS
  rw [if_neg (fun z => z.2 (h z.1)), if_neg h1, h2]
theorem altT_f {xs : List Int} {i : Nat} {kind q stop d : Int} (h : hasS xs (wrd i) q stop = false ∨ targS xs (q + d) stop = false) : altT xs i kind q stop d = none := by
  unfold altT targT
  rcases h with h | h
  · rw [h]; rfl
  · rw [h]; split <;> rfl
theorem altT_t {xs : List Int} {i : Nat} {kind q stop d : Int} (h : hasS xs (wrd i) q stop = true) (h1 : targS xs (q + d) stop = true) : altT xs i kind q stop d = some (kind, 32, 0, some (q + d, stop)) := by
  unfold altT targT
  rw [if_pos h, if_pos h1]
theorem altH_f {xs : List Int} {i : Nat} {kind q stop d : Int} (h : hasS xs (wrd i) q stop = false ∨ hostS xs kind (q + d) stop = none) : altH xs i kind q stop d = none := by
  unfold altH
  rcases h with h | h
  · rw [h]; rfl
  · rw [h]; split <;> rfl
theorem altH_t {xs : List Int} {i : Nat} {kind q stop d : Int} {v : Tm} (h : hasS xs (wrd i) q stop = true) (h1 : hostS xs kind (q + d) stop = some v) : altH xs i kind q stop d = some v := by
  unfold altH
  rw [if_pos h, h1]
theorem altI_f {xs : List Int} {q stop : Int} (h : hasS xs (wrd 5) q stop = false ∨ ip4S xs (q + 4) stop = none) : altI xs q stop = none := by
  unfold altI
  rcases h with h | h
  · rw [h]; rfl
  · rw [h]; split <;> rfl
theorem altI_t {xs : List Int} {q stop : Int} {v : Tm} (h : hasS xs (wrd 5) q stop = true) (h1 : ip4S xs (q + 4) stop = some v) : altI xs q stop = some v := by
  unfold altI
  rw [if_pos h, h1]
def sgnS (xs : List Int) (start : Int) : Int := if sgP (atS xs start) then atS xs start else 43
def readS (xs : List Int) (start : Int) : Option Tm := rs0 xs (if sgP (atS xs start) then start + 1 else start) (findS xs 32 start xs.length) (decide (sgP (atS xs start)))
theorem altO_is {xs : List Int} {q stop : Int} {v : Tm} (h : altO xs q stop = some v) : v = (7, 32, 0, none) := by
  unfold altO at h
  split at h
  · exact (Option.some.inj h).symm
  · cases h
