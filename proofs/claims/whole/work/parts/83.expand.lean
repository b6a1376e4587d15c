/-! WHAT IS WRITTEN at a limit is what would be written without one, cut off there -/
abbrev apP (lim : Int) (b b' : Bv) (l : List Int) : Prop := b'.2 = (b.2 ++ l).take lim.toNat ∧ (b'.2.length : Int) ≤ lim
theorem take_app (n : Nat) (a c : List Int) : (a.take n ++ c).take n = (a ++ c).take n := by
  by_cases h : n ≤ a.length
  · rw [List.take_append_of_le_length (by rw [List.length_take]; omega), List.take_append_of_le_length h, List.take_take]
    congr 1
    omega
  · rw [List.take_of_length_le (l := a) (by omega)]
theorem ap_rf {lim : Int} {b : Bv} (h : (b.2.length : Int) ≤ lim) : apP lim b b [] := ⟨by rw [List.append_nil, List.take_of_length_le (by omega)], h⟩
theorem ap_tr {lim : Int} {a b c : Bv} {l m : List Int} (h1 : apP lim a b l) (h2 : apP lim b c m) : apP lim a c (l ++ m) := ⟨by rw [h2.1, h1.1, take_app, List.append_assoc], h2.2⟩
theorem ap_add {lim : Int} {b : Bv} (c : Int) (h : (b.2.length : Int) ≤ lim) : apP lim b (addB lim b c) [(c + 128) % 256 - 128] := ⟨addB_2 c h, addB_len c h⟩
theorem ap_ws {lim : Int} {b : Bv} (c : Int) (h : (b.2.length : Int) ≤ lim) : apP lim b (wsB lim b c) (signS c) := by
  unfold wsB signS
  by_cases h1 : c = 37
  · rw [if_pos h1, if_pos h1]
    exact ap_add 37 h
  · rw [if_neg h1, if_neg h1]
    by_cases h2 : c = 95
    · rw [if_pos h2, if_pos h2]
      exact ap_add 32 h
    · rw [if_neg h2, if_neg h2]
      have g1 := ap_add 37 h
      have g2 := ap_add 50 g1.2
      have g3 := ap_add 48 g2.2
      exact ap_tr (ap_tr g1 g2) g3
theorem ap_part {lim : Int} {b : Bv} (xs : List Int) (p : Int) (hp : 0 ≤ p) (h : (b.2.length : Int) ≤ lim) : apP lim b (addPB lim b xs (stG xs p) (stG xs (p + 1) - 1)) (partS xs p) := by
  have r1 := stG_rng xs p
  have r2 := stG_rng xs (p + 1)
  have e2 : (stL xs 0).getD p.toNat 0 = stG xs (p + 1) := by
    unfold stG
    have e : (p + 1).toNat = p.toNat + 1 := by omega
    rw [e, List.getD_cons_succ]
  have e3 : partS xs p = sliS xs (stG xs p) (stG xs (p + 1) - 1) := by
    unfold partS
    rw [e2]
    rfl
  have e4 : (addPB lim b xs (stG xs p) (stG xs (p + 1) - 1)).2 = (b.2 ++ partS xs p).take lim.toNat := by
    rw [addPB_2 xs _ _ h, e3]
    unfold sliS
    by_cases h1 : stG xs (p + 1) - 1 ≤ stG xs p
    · rw [if_pos (Or.inr (Or.inl h1))]
      have e : (stG xs (p + 1) - 1 - stG xs p).toNat = 0 := by omega
      rw [e, List.take_zero, List.append_nil, List.take_of_length_le (by omega)]
    · rw [if_neg (by omega)]
  exact ⟨e4, by rw [e4, List.length_take]; omega⟩
theorem ap_wpL {lim : Int} {xs : List Int} {first : Int} {tu : Bool} : ∀ (N : Nat) (k : Int) (b : Bv), ((stL xs 0).length - k).toNat < N → 0 ≤ k → (b.2.length : Int) ≤ lim → apP lim b (wpL lim xs first tu k b) (outL xs first tu k) := by
  intro N
  induction N with
  | zero => intro k b h; omega
  | succ N ih =>
    intro k b h hk hb
    rw [wpL, outL]
    by_cases h1 : k < (stL xs 0).length
    · rw [dif_pos h1, dif_pos h1]
      have g1 : apP lim b (if first < k then addB lim b 46 else b) (if first < k then [46] else []) := by
        split
        · exact ap_add 46 hb
        · exact ap_rf hb
      have g2 := ap_part xs (if tu = true then (stL xs 0).length - 1 - k else k) (by split <;> omega) g1.2
      exact ap_tr (ap_tr g1 g2) (ih (k + 1) _ (by omega) (by omega) g2.2)
    · rw [dif_neg h1, dif_neg h1]
      exact ap_rf hb
theorem ap_wp {lim : Int} {b : Bv} (xs : List Int) (most : Int) (tu : Bool) (h : (b.2.length : Int) ≤ lim) : apP lim b (wpB lim b xs most tu) (outS xs most tu) := ap_wpL _ _ _ (Nat.lt_succ_self _) (by omega) h
theorem ap_wr {lim : Int} {s : Snd} {chk xs : List Int} {to : Int} : ∀ (N : Nat) (k : Int) (b : Bv), (to - k).toNat < N → (b.2.length : Int) ≤ lim → apP lim b (wrL lim s chk xs to k b) (expL s chk xs to k) := by
  intro N
  induction N with
  | zero => intro k b h; omega
  | succ N ih =>
    intro k b h hb
    rw [wrL, expL]
    by_cases h1 : k < to
    · rw [dif_pos h1, dif_pos h1]
      by_cases h2 : atS xs k = 37 ∧ ¬ mlenS xs k to = 0
      · rw [dif_pos h2, dif_pos h2]
        have h9 := mlenS_rng xs k to
        by_cases h3 : mlenS xs k to = 2
        · rw [if_pos h3, if_pos h3]
          have g1 := ap_ws (atS xs (k + 1)) hb
          exact ap_tr g1 (ih _ _ (by omega) g1.2)
        · rw [if_neg h3, if_neg h3]
          have g1 := ap_wp (srcS s chk (atS xs (k + 2))) (mostS s chk xs k) (decide (atS xs (k + mlenS xs k to - 2) = 114)) hb
          exact ap_tr g1 (ih _ _ (by omega) g1.2)
      · rw [dif_neg h2, dif_neg h2]
        have g1 := ap_add (atS xs k) hb
        exact ap_tr g1 (ih _ _ (by omega) g1.2)
    · rw [dif_neg h1, dif_neg h1]
      exact ap_rf hb
/-- what is written into an empty row -/
theorem wr_take {lim : Int} {s : Snd} {chk xs : List Int} {to k : Int} {n : Nat} (h : 0 ≤ lim) : (wrL lim s chk xs to k (n, [])).2 = (expL s chk xs to k).take lim.toNat := by
  have g := (ap_wr (lim := lim) (s := s) (chk := chk) (xs := xs) (to := to) _ k (n, []) (Nat.lt_succ_self _) (by show ((0 : Nat) : Int) ≤ lim; omega)).1
  rw [g, List.nil_append]
