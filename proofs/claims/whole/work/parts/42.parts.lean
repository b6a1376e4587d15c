/-! MACROS WRITTEN: rows that grow, step by step as the class writes -/
theorem stL_yes {xs : List Int} {k : Int} (h : k ≤ xs.length) (c : k = xs.length ∨ atS xs k = 46) : stL xs k = (k + 1) :: stL xs (k + 1) := by
  rw [stL, dif_pos h, if_pos c]
theorem stL_no {xs : List Int} {k : Int} (h : k ≤ xs.length) (c : ¬ (k = xs.length ∨ atS xs k = 46)) : stL xs k = stL xs (k + 1) := by
  rw [stL, dif_pos h, if_neg c]
theorem stL_end {xs : List Int} {k : Int} (h : ¬ k ≤ xs.length) : stL xs k = [] := by
  rw [stL, dif_neg h]
theorem stL_len (xs : List Int) : ∀ (N : Nat) (k : Int), (xs.length + 1 - k).toNat < N → ((stL xs k).length : Int) ≤ max 0 (xs.length + 1 - k) ∧ (k ≤ xs.length → 1 ≤ (stL xs k).length) ∧ ∀ x ∈ stL xs k, k + 1 ≤ x ∧ x ≤ xs.length + 1 := by
  intro N
  induction N with
  | zero => intro k h; omega
  | succ N ih =>
    intro k h
    by_cases hk : k ≤ xs.length
    · have h1 := ih (k + 1) (by omega)
      by_cases c : k = xs.length ∨ atS xs k = 46
      · rw [stL_yes hk c, List.length_cons]
        refine ⟨by omega, fun _ => by omega, fun x hx => ?_⟩
        rcases List.mem_cons.mp hx with rfl | hx
        · omega
        · have := h1.2.2 x hx
          omega
      · rw [stL_no hk c]
        refine ⟨by omega, fun _ => ?_, fun x hx => ?_⟩
        · exact h1.2.1 (by omega)
        · have := h1.2.2 x hx
          omega
    · rw [stL_end hk]
      exact ⟨by simp; omega, fun z => absurd z hk, fun x hx => absurd hx List.not_mem_nil⟩
theorem stL_pos {xs : List Int} {k : Int} (h : k ≤ xs.length) : 1 ≤ (stL xs k).length := (stL_len xs _ k (Nat.lt_succ_self _)).2.1 h
theorem stL_top (xs : List Int) : ((stL xs 0).length : Int) ≤ xs.length + 1 := by
  have := (stL_len xs _ 0 (Nat.lt_succ_self _)).1
  omega
def stG (xs : List Int) (j : Int) : Int := (0 :: stL xs 0).getD j.toNat 0
theorem stG_rng (xs : List Int) (j : Int) : 0 ≤ stG xs j ∧ stG xs j ≤ xs.length + 1 := by
  unfold stG
  by_cases h : j.toNat < (0 :: stL xs 0).length
  · rw [gD_lt h]
    have hm : (0 :: stL xs 0)[j.toNat] ∈ 0 :: stL xs 0 := List.getElem_mem h
    rcases List.mem_cons.mp hm with h1 | h1
    · rw [h1]
      omega
    · have := (stL_len xs _ 0 (Nat.lt_succ_self _)).2.2 _ h1
      omega
  · rw [gD_ge (by omega)]
    omega
theorem drop_next {α : Type} {l r : List α} {n : Nat} {x : α} (h : l.drop n = x :: r) : l.drop (n + 1) = r := by
  rw [← List.drop_drop, h]
  rfl
theorem drop_head {l r : List Int} {n : Nat} {x : Int} (h : l.drop n = x :: r) : l.getD n 0 = x := by
  have h1 : n < l.length := by
    apply Decidable.byContradiction
    intro hn
    rw [List.drop_eq_nil_of_le (by omega)] at h
    cases h
  rw [List.drop_eq_getElem_cons h1] at h
  rw [gD_lt h1]
  exact (List.cons.inj h).1
def wsB (lim : Int) (b : Bv) (c : Int) : Bv := if c = 37 then addB lim b 37 else if c = 95 then addB lim b 32 else addB lim (addB lim (addB lim b 37) 50) 48
def wpL (lim : Int) (xs : List Int) (first : Int) (turned : Bool) (k : Int) (b : Bv) : Bv :=
  if h : k < (stL xs 0).length then wpL lim xs first turned (k + 1) (addPB lim (if first < k then addB lim b 46 else b) xs (stG xs (if turned = true then (stL xs 0).length - 1 - k else k)) (stG xs ((if turned = true then (stL xs 0).length - 1 - k else k) + 1) - 1)) else b
termination_by ((stL xs 0).length - k).toNat
decreasing_by all_goals omega
def wpB (lim : Int) (b : Bv) (xs : List Int) (most : Int) (turned : Bool) : Bv := wpL lim xs (max 0 ((stL xs 0).length - most)) turned (max 0 ((stL xs 0).length - most)) b
/-- rows only grow -/
abbrev grP (lim : Int) (b b' : Bv) : Prop := psi lim b ≤ psi lim b' ∧ b'.2.length ≤ b'.1 ∧ (b'.1 : Int) ≤ lim
theorem gr_rf {lim : Int} {b : Bv} (h : b.2.length ≤ b.1 ∧ (b.1 : Int) ≤ lim) : grP lim b b := ⟨Nat.le_refl _, h⟩
theorem gr_tr {lim : Int} {a b c : Bv} (h1 : grP lim a b) (h2 : grP lim b c) : grP lim a c := ⟨Nat.le_trans h1.1 h2.1, h2.2⟩
theorem wsB_gr {lim : Int} {b : Bv} (c : Int) (h : b.2.length ≤ b.1 ∧ (b.1 : Int) ≤ lim) : grP lim b (wsB lim b c) := by
  unfold wsB
  split
  · exact psi_addB _ h
  · split
    · exact psi_addB _ h
    · have h1 := psi_addB (lim := lim) (b := b) 37 h
      have h2 := psi_addB 50 h1.2
      have h3 := psi_addB 48 h2.2
      exact gr_tr (gr_tr h1 h2) h3
theorem wpL_gr {lim : Int} {xs : List Int} {first : Int} {tu : Bool} : ∀ (N : Nat) (k : Int) (b : Bv), ((stL xs 0).length - k).toNat < N → b.2.length ≤ b.1 ∧ (b.1 : Int) ≤ lim → grP lim b (wpL lim xs first tu k b) := by
  intro N
  induction N with
  | zero => intro k b h; omega
  | succ N ih =>
    intro k b h hb
    rw [wpL]
    split
    · have h1 : grP lim b (if first < k then addB lim b 46 else b) := by
        split
        · exact psi_addB _ hb
        · exact gr_rf hb
      exact gr_tr (gr_tr h1 (psi_addPB _ _ _ h1.2)) (ih (k + 1) _ (by omega) (psi_addPB _ _ _ h1.2).2)
    · exact gr_rf hb
theorem wpB_gr {lim : Int} {b : Bv} (xs : List Int) (most : Int) (tu : Bool) (h : b.2.length ≤ b.1 ∧ (b.1 : Int) ≤ lim) : grP lim b (wpB lim b xs most tu) := wpL_gr _ _ _ (Nat.lt_succ_self _) h
def mostS (s : Snd) (chk xs : List Int) (k : Int) : Int := if pnP (atS xs (k + 3)) then atS xs (k + 3) - 48 else (srcS s chk (atS xs (k + 2))).length + 1
def wrL (lim : Int) (s : Snd) (chk xs : List Int) (to k : Int) (b : Bv) : Bv :=
  if h : k < to then
    (if h1 : atS xs k = 37 ∧ ¬ mlenS xs k to = 0 then
      wrL lim s chk xs to (k + mlenS xs k to) (if mlenS xs k to = 2 then wsB lim b (atS xs (k + 1)) else wpB lim b (srcS s chk (atS xs (k + 2))) (mostS s chk xs k) (decide (atS xs (k + mlenS xs k to - 2) = 114)))
    else wrL lim s chk xs to (k + 1) (addB lim b (atS xs k)))
  else b
termination_by (to - k).toNat
decreasing_by
  · have h9 := mlenS_rng xs k to
    omega
  · omega
theorem wrL_gr {lim : Int} {s : Snd} {chk xs : List Int} {to : Int} : ∀ (N : Nat) (k : Int) (b : Bv), (to - k).toNat < N → b.2.length ≤ b.1 ∧ (b.1 : Int) ≤ lim → grP lim b (wrL lim s chk xs to k b) := by
  intro N
  induction N with
  | zero => intro k b h; omega
  | succ N ih =>
    intro k b h hb
    rw [wrL]
    split
    · split
      · have h9 := mlenS_rng xs k to
        have h1 : grP lim b (if mlenS xs k to = 2 then wsB lim b (atS xs (k + 1)) else wpB lim b (srcS s chk (atS xs (k + 2))) (mostS s chk xs k) (decide (atS xs (k + mlenS xs k to - 2) = 114))) := by
          split
          · exact wsB_gr _ hb
          · exact wpB_gr _ _ _ hb
        exact gr_tr h1 (ih _ _ (by omega) h1.2)
      · exact gr_tr (psi_addB _ hb) (ih _ _ (by omega) (psi_addB _ hb).2)
    · exact gr_rf hb
theorem srcS_len {s : Snd} {chk : List Int} {c : Int} (hs : sndP s) (hc : chk.length ≤ 91) : (srcS s chk c).length ≤ 91 := by
  unfold srcS
  have l1 := numS_len (v := s.2.2.toInt / 16777216 % 256)
  have l2 := numS_len (v := s.2.2.toInt / 65536 % 256)
  have l3 := numS_len (v := s.2.2.toInt / 256 % 256)
  have l4 := numS_len (v := s.2.2.toInt % 256)
  obtain ⟨q1, q2, q3, q4⟩ := hs
  repeat' split
  · simp only [List.length_append, List.length_singleton]
    omega
  · omega
  · omega
  · unfold dotS
    simp only [List.length_append, List.length_singleton]
    omega
  · exact hc
theorem starts_0 (g : Nat → Int) (l : List Int) : ∀ j : Nat, (j : Int) ≤ 0 → updZ g (0 : Int).toNat 0 j = (0 :: l).getD j 0 := by
  intro j hj
  have : j = 0 := by omega
  subst this
  rfl
theorem starts_step {g : Nat → Int} {l r : List Int} {parts k : Int} (hG : ∀ j : Nat, (j : Int) ≤ parts → g j = (0 :: l).getD j 0) (hd : l.drop parts.toNat = (k + 1) :: r) (h0 : 0 ≤ parts) : ∀ j : Nat, (j : Int) ≤ parts + 1 → updZ g (parts + 1).toNat (k + 1) j = (0 :: l).getD j 0 := by
  intro j hj
  unfold updZ
  by_cases h : j = (parts + 1).toNat
  · rw [if_pos h, h, show (parts + 1).toNat = parts.toNat + 1 by omega]
    show k + 1 = l.getD parts.toNat 0
    exact (drop_head hd).symm
  · rw [if_neg h]
    exact hG j (by omega)
