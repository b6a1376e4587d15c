/-! ROWS AS LISTS: what is added is cut off at the limit -/
theorem psi_max {lim : Int} {b : Bv} (h : (b.1 : Int) ≤ lim) : psi lim b ≤ 3 * lim.toNat := by
  unfold psi
  split <;> omega
theorem addB_2 {lim : Int} {b : Bv} (c : Int) (h : (b.2.length : Int) ≤ lim) : (addB lim b c).2 = (b.2 ++ [(c + 128) % 256 - 128]).take lim.toNat := by
  by_cases h1 : lim ≤ b.2.length
  · rw [addB_full h1, List.take_append_of_le_length (by omega), List.take_of_length_le (by omega)]
  · have e : (b.2 ++ [(c + 128) % 256 - 128]).take lim.toNat = b.2 ++ [(c + 128) % 256 - 128] := List.take_of_length_le (by rw [List.length_append, List.length_singleton]; omega)
    rw [e]
    by_cases h2 : b.1 ≤ b.2.length
    · rw [addB_grow h1 h2]
    · rw [addB_fits h1 h2]
theorem addB_1 {lim : Int} {b : Bv} (c : Int) (h : (b.1 : Int) = lim) : (addB lim b c).1 = b.1 := by
  by_cases h1 : lim ≤ b.2.length
  · rw [addB_full h1]
  · rw [addB_fits h1 (by omega)]
theorem addB_len {lim : Int} {b : Bv} (c : Int) (h : (b.2.length : Int) ≤ lim) : ((addB lim b c).2.length : Int) ≤ lim := by
  rw [addB_2 c h, List.length_take]
  omega
theorem addPB_2 {lim : Int} {b : Bv} (ys : List Int) (fr to : Int) (h : (b.2.length : Int) ≤ lim) : (addPB lim b ys fr to).2 = if fr < 0 ∨ to ≤ fr ∨ (ys.length : Int) < to then b.2 else (b.2 ++ (ys.drop fr.toNat).take (to - fr).toNat).take lim.toNat := by
  by_cases h1 : fr < 0 ∨ to ≤ fr ∨ (ys.length : Int) < to
  · rw [addPB_none h1, if_pos h1]
  · rw [if_neg h1]
    have e : (b.2 ++ (ys.drop fr.toNat).take (to - fr).toNat).take lim.toNat = b.2 ++ (ys.drop fr.toNat).take (min (to - fr) (lim - (b.2.length : Int))).toNat := by
      rw [List.take_append, List.take_of_length_le (show b.2.length ≤ lim.toNat by omega), List.take_take]
      congr 2
      omega
    rw [e]
    by_cases h2 : (b.1 : Int) < b.2.length + min (to - fr) (lim - b.2.length)
    · rw [addPB_grow h1 h2]
    · rw [addPB_fits h1 h2]
theorem addPB_1 {lim : Int} {b : Bv} (ys : List Int) (fr to : Int) (h : (b.1 : Int) = lim) : (addPB lim b ys fr to).1 = b.1 := by
  by_cases h1 : fr < 0 ∨ to ≤ fr ∨ (ys.length : Int) < to
  · rw [addPB_none h1]
  · rw [addPB_fits h1 (by omega)]
theorem findS_at (xs : List Int) (c to : Int) : ∀ (N : Nat) (k : Int), (to - k).toNat < N → findS xs c k to < to → atS xs (findS xs c k to) = c := by
  intro N
  induction N with
  | zero => intro k h; omega
  | succ N ih =>
    intro k h h1
    rw [findS] at h1 ⊢
    split at h1
    · next hk =>
      rw [dif_pos hk]
      split at h1
      · next h2 => rw [if_pos h2]; exact h2
      · next h2 => rw [if_neg h2]; exact ih (k + 1) (by omega) h1
    · omega
theorem findS_before (xs : List Int) (c to : Int) : ∀ (N : Nat) (k : Int), (to - k).toNat < N → ∀ j : Int, k ≤ j → j < findS xs c k to → ¬ atS xs j = c := by
  intro N
  induction N with
  | zero => intro k h; omega
  | succ N ih =>
    intro k h j h1 h2
    rw [findS] at h2
    split at h2
    · split at h2
      · omega
      · next h3 =>
        by_cases hj : j = k
        · rw [hj]; exact h3
        · exact ih (k + 1) (by omega) j (by omega) h2
    · have := findS_rng xs c k to
      omega
theorem nameL_ne {xs : List Int} {fr to : Int} (h : nameS xs fr to = true) : fr < to ∧ to - fr ≤ 60 := by
  unfold nameS at h
  split at h
  · cases h
  · refine ⟨?_, by omega⟩
    apply Decidable.byContradiction
    intro h1
    rw [nameL, dif_neg h1] at h
    simp at h
theorem locaS_ne {xs : List Int} {fr to : Int} (h : locaS xs fr to = true) : fr < to ∧ to - fr ≤ 30 := by
  unfold locaS at h
  split at h
  · cases h
  · omega
/-- the sender that a tape gives -/
def sndS (xs : List Int) (ad : Int32) : Option Snd := if locaS xs 0 (findS xs 64 0 xs.length) = true ∧ nameS xs (findS xs 64 0 xs.length + 1) xs.length = true then some (xs.take (findS xs 64 0 xs.length).toNat, xs.drop (findS xs 64 0 xs.length + 1).toNat, ad) else none
theorem sgb_id {c : Int} (h : -128 ≤ c ∧ c ≤ 127) : (c + 128) % 256 - 128 = c := by omega
theorem addB_app {lim : Int} {xs : List Int} {n : Nat} (c : Int) (h : (n : Int) = lim) (hl : (xs.length : Int) < lim) (hc : -128 ≤ c ∧ c ≤ 127) : addB lim (n, xs) c = (n, xs ++ [c]) := by
  rw [addB_fits (b := (n, xs)) (by show ¬ lim ≤ (xs.length : Int); omega) (by show ¬ n ≤ xs.length; omega), sgb_id hc]
theorem numS_len {v : Int} : (numS v).length ≤ 3 ∧ 1 ≤ (numS v).length := by
  unfold numS
  split <;> split <;> simp
theorem addNB_app {lim : Int} {xs : List Int} {n : Nat} {v : Int} (h : (n : Int) = lim) (hv : 0 ≤ v ∧ v ≤ 255) (hl : (xs.length : Int) + (numS v).length ≤ lim) : addNB lim (n, xs) v = (n, xs ++ numS v) := by
  unfold numS at hl ⊢
  unfold addNB
  by_cases h1 : 100 ≤ v
  · have h2 : 10 ≤ v := by omega
    rw [if_pos h1, if_pos h2] at hl ⊢
    rw [if_pos h1]
    simp at hl
    rw [addB_app _ h (by omega) (by omega), addB_app _ h (by simp; omega) (by omega), addB_app _ h (by simp; omega) (by omega)]
    simp [h2]
  · by_cases h2 : 10 ≤ v
    · rw [if_neg h1, if_pos h2] at hl ⊢
      rw [if_neg h1]
      simp at hl
      rw [addB_app _ h (by omega) (by omega), addB_app _ h (by simp; omega) (by omega)]
      simp [h2]
    · rw [if_neg h1, if_neg h2] at hl ⊢
      rw [if_neg h1]
      simp at hl
      rw [addB_app _ h (by omega) (by omega)]
      simp [h2]
theorem dotS_row {n : Nat} (h : (n : Int) = 15) (a : Int) : addNB 15 (addB 15 (addNB 15 (addB 15 (addNB 15 (addB 15 (addNB 15 (n, []) (a % 4294967296 / 16777216 % 256)) 46) (a % 4294967296 / 65536 % 256)) 46) (a % 4294967296 / 256 % 256)) 46) (a % 256) = (n, dotS a) := by
  have e1 : a % 4294967296 / 16777216 % 256 = a / 16777216 % 256 := by omega
  have e2 : a % 4294967296 / 65536 % 256 = a / 65536 % 256 := by omega
  have e3 : a % 4294967296 / 256 % 256 = a / 256 % 256 := by omega
  rw [e1, e2, e3]
  have l1 := numS_len (v := a / 16777216 % 256)
  have l2 := numS_len (v := a / 65536 % 256)
  have l3 := numS_len (v := a / 256 % 256)
  have l4 := numS_len (v := a % 256)
  rw [addNB_app h (by omega) (by simp; omega), addB_app _ h (by simp; omega) (by omega), addNB_app h (by omega) (by simp; omega), addB_app _ h (by simp; omega) (by omega), addNB_app h (by omega) (by simp; omega), addB_app _ h (by simp; omega) (by omega), addNB_app h (by omega) (by simp; omega)]
  unfold dotS
  simp
theorem zI_ushr0 (a : Int) : ((zI a).toUInt32 >>> ((zI 0).toUInt32 &&& Int32.toUInt32 31)).toInt32 = zI a := by
  have h0 : (zI 0).toUInt32 &&& Int32.toUInt32 31 = (0 : UInt32) := by decide +kernel
  rw [h0]
  apply Int32.toBitVec_inj.mp
  apply BitVec.eq_of_toNat_eq
  have h1 : ((zI a).toUInt32 >>> (0 : UInt32)).toInt32.toBitVec.toNat = ((zI a).toUInt32 >>> (0 : UInt32)).toNat := rfl
  rw [h1, UInt32.toNat_shiftRight]
  have h4 : (0 : UInt32).toNat % 32 = 0 := by decide +kernel
  rw [h4, Nat.shiftRight_eq_div_pow]
  have h2 : (zI a).toUInt32.toNat = (zI a).toBitVec.toNat := rfl
  rw [h2]
  omega
theorem addPB_app {lim : Int} {n : Nat} {ys : List Int} {fr to : Int} (h : 0 ≤ fr ∧ fr < to ∧ to ≤ ys.length) (hl : to - fr ≤ lim) : (addPB lim (n, []) ys fr to).2 = (ys.drop fr.toNat).take (to - fr).toNat := by
  rw [addPB_2 (b := (n, [])) ys fr to (by show ((0 : Nat) : Int) ≤ lim; omega), if_neg (by omega), List.nil_append, List.take_of_length_le]
  rw [List.length_take]
  omega
theorem sndS_rows {xs : List Int} (ad : Int32) (n1 n2 n3 : Nat) (hby : ∀ i : Int, -128 ≤ gx xs i ∧ gx xs i ≤ 127) (h1 : locaS xs 0 (findS xs 64 0 xs.length) = true) (h2 : nameS xs (findS xs 64 0 xs.length + 1) xs.length = true) :
    sndP (xs.take (findS xs 64 0 xs.length).toNat, xs.drop (findS xs 64 0 xs.length + 1).toNat, ad) ∧ (addPB 91 (n1, []) xs 0 xs.length).2 = xs.take (findS xs 64 0 xs.length).toNat ++ [64] ++ xs.drop (findS xs 64 0 xs.length + 1).toNat ∧ (addPB 30 (n2, []) xs 0 (findS xs 64 0 xs.length)).2 = xs.take (findS xs 64 0 xs.length).toNat ∧ (addPB 60 (n3, []) xs (findS xs 64 0 xs.length + 1) xs.length).2 = xs.drop (findS xs 64 0 xs.length + 1).toNat := by
  have e1 := nameL_ne h2
  have e2 := locaS_ne h1
  have e3 := findS_at xs 64 xs.length _ 0 (Nat.lt_succ_self _) (by omega)
  generalize hq : findS xs 64 0 xs.length = q at *
  have e4 : atS xs q = gx xs q % 256 := atS_gx (by omega)
  have e5 : gx xs q = 64 := by
    have := hby q
    omega
  have e6 : q.toNat < xs.length := by omega
  have e7 : (q + 1).toNat = q.toNat + 1 := by omega
  refine ⟨⟨?_, ?_, ?_, ?_⟩, ?_, ?_, ?_⟩
  · show 1 ≤ (xs.take q.toNat).length
    rw [List.length_take]
    omega
  · show (xs.take q.toNat).length ≤ 30
    rw [List.length_take]
    omega
  · show 1 ≤ (xs.drop (q + 1).toNat).length
    rw [List.length_drop]
    omega
  · show (xs.drop (q + 1).toNat).length ≤ 60
    rw [List.length_drop]
    omega
  · rw [addPB_app (by omega) (by omega)]
    have e8 : (xs.drop (0 : Int).toNat).take ((xs.length : Int) - 0).toNat = xs := List.take_of_length_le (by rw [List.length_drop]; omega)
    rw [e8, e7]
    have e9 : xs.drop q.toNat = 64 :: xs.drop (q.toNat + 1) := by
      rw [List.drop_eq_getElem_cons e6]
      unfold gx at e5
      rw [gD_lt e6] at e5
      rw [e5]
    have e10 := List.take_append_drop q.toNat xs
    rw [e9] at e10
    rw [List.append_assoc]
    exact e10.symm
  · rw [addPB_app (by omega) (by omega)]
    show (xs.take (q - 0).toNat) = _
    rw [Int.sub_zero]
  · rw [addPB_app (by omega) (by omega), List.take_of_length_le]
    rw [List.length_drop]
    omega
