/-! THE CLASS'S OWN OBJECT -/
def IsPo (D : Dg) (M : Mp) (p : Nat) (tb ob : Bv) (es : List Ent) (so : Option Snd) (cn vo : Int) : Prop := ∃ (tp op di se ma ch lv tg : Nat) (f : Nat → Option Nat) (bt : Bv), M p = some (1, .inr (cPo, [.ref tp, .ref op, .ref di, .ref se, .ref ma, .ref ch])) ∧ IsB D M tp 2 800 tb ∧ IsB D M op 4 18200 ob ∧ IsDir D M di es ∧ IsSe D M se so ∧ IsMa D M ma se ∧ M ch = some (19, .inr (cCh, [.ref di, .ref se, .ref ma, .ref lv, .ref tg, vI cn, vI vo])) ∧ M lv = some (20, arR D 3 11 f) ∧ IsB D M tg 21 61 bt ∧ bt.1 = 61 ∧ LvA D M f 0 ∧ (0 ≤ cn ∧ cn ≤ 11 ∧ 0 ≤ vo ∧ vo ≤ 3)
theorem IsPo.fr {D : Dg} {M M' : Mp} {p : Nat} {tb ob : Bv} {es : List Ent} {so : Option Snd} {cn vo : Int} {T : List Nat} (h : IsPo D M p tb ob es so cn vo) (hf : Fr T M M') (hn : ∀ u ∈ T, 499 < u) : IsPo D M' p tb ob es so cn vo := by
  obtain ⟨tp, op, di, se, ma, ch, lv, tg, f, bt, h1, h2, h3, h4, h5, h6, h7, h8, h9, h10, h11, h12⟩ := h
  have g : ∀ t : Nat, t < 500 → t ∉ T := fun t ht z => by
    have := hn _ z
    omega
  exact ⟨tp, op, di, se, ma, ch, lv, tg, f, bt, hf.at h1 (g 1 (by omega)), h2.fr hf (g 2 (by omega)) (g 3 (by omega)), h3.fr hf (g 4 (by omega)) (g 5 (by omega)), h4.fr hf (fun u hu => by have := hn u hu; omega), h5.fr hf (fun u hu => by have := hn u hu; omega), h6.fr hf (g 17 (by omega)) (g 18 (by omega)), hf.at h7 (g 19 (by omega)), hf.at h8 (g 20 (by omega)), h9.fr hf (g 21 (by omega)) (g 22 (by omega)), h10, h11.fr hf (fun u hu => by have := hn u hu; omega), h12⟩
theorem IsPo.obj {D : Dg} {M : Mp} {p : Nat} {tb ob : Bv} {es : List Ent} {so : Option Snd} {cn vo : Int} (h : IsPo D M p tb ob es so cn vo) : IsObj M p cPo := by
  obtain ⟨tp, op, di, se, ma, ch, lv, tg, f, bt, h1, -⟩ := h
  exact ⟨_, _, h1⟩
def feedB (b : Bv) (x1 x2 x3 x4 x5 : Int) : Bv := add4B 800 (add4B 800 (add4B 800 (add4B 800 (add4B 800 b x1) x2) x3) x4) x5
theorem feed_gr (b : Bv) (x1 x2 x3 x4 x5 : Int) (h : b.2.length ≤ b.1 ∧ (b.1 : Int) ≤ 800) : grP 800 b (feedB b x1 x2 x3 x4 x5) := by
  have h1 := psi_add4 800 b x1 h
  have h2 := psi_add4 800 _ x2 h1.2
  have h3 := psi_add4 800 _ x3 h2.2
  have h4 := psi_add4 800 _ x4 h3.2
  have h5 := psi_add4 800 _ x5 h4.2
  exact gr_tr (gr_tr (gr_tr (gr_tr h1 h2) h3) h4) h5
theorem cutB_len (b : Bv) (n : Int) : (cutB b n).2.length ≤ b.2.length ∧ (cutB b n).1 = b.1 := by
  unfold cutB
  split
  · exact ⟨by show (b.2.take n.toNat).length ≤ _; rw [List.length_take]; omega, rfl⟩
  · exact ⟨Nat.le_refl _, rfl⟩
