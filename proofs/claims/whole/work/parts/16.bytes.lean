set_option maxHeartbeats 4000000 in
set_option maxRecDepth 100000 in
theorem c_By_size {l : Launch} {D : Dg} {b0 : Nat} {M : Mp} {a : Nat} {t : Nat} {lim : Int} {b : Bv} (h_B_a : IsB D M a t lim b) : OkP l D b0 1 y_By_size b_By_size 1 (some .int) M [.ref a] (vI (b.2.length : Int)) := by
  refine Ok_of rfl (Nat.le_of_ble_eq_true rfl) (fun E hC hQ hl hD hB hN hR => ?_)
  subst hl hD hB
  have g_6 := h_B_a.len
  obtain ⟨r_1, h_2, h_3, h_4, h_5⟩ := id h_B_a
  show G E M 0 0 [(0, .ref a)] [] 0
  refine G_aload_n hC 0 rfl rfl d_By_size_0 ?_
  refine G_get hC fl_By_23 h_2 rfl d_By_size_1 ?_
  exact G_iretP hC hQ d_By_size_4 rfl

set_option maxHeartbeats 4000000 in
set_option maxRecDepth 100000 in
theorem c_By_at {l : Launch} {D : Dg} {b0 : Nat} {M : Mp} {a : Nat} {i : Int} {t : Nat} {lim : Int} {b : Bv} (h_B_a : IsB D M a t lim b) (hi : -2147483648 ≤ i ∧ i ≤ 2147483647) : OkP l D b0 1 y_By_at b_By_at 2 (some .int) M [.ref a, vI i] (vI (atS b.2 i)) := by
  refine Ok_of rfl (Nat.le_of_ble_eq_true rfl) (fun E hC hQ hl hD hB hN hR => ?_)
  subst hl hD hB
  have g_6 := h_B_a.len
  obtain ⟨r_1, h_2, h_3, h_4, h_5⟩ := id h_B_a
  show G E M 0 0 [(0, .ref a), (1, vI i)] [] 0
  refine G_iload_n hC 1 rfl rfl d_By_at_0 ?_
  refine G_if_lt hC 12 (by omega) (by decide) d_By_at_1 (fun c_7 => ?_) (fun c_7 => ?_)
  · refine G_iconst (i := (-1)) hC d_By_at_12 ?_
    refine G_goto hC 26 (by decide) d_By_at_13 ?_
    exact G_iretP hC hQ d_By_at_26 (by unfold atS; rw [if_neg (by omega)])
  · refine G_iload_n hC 1 rfl rfl d_By_at_4 ?_
    refine G_aload_n hC 0 rfl rfl d_By_at_5 ?_
    refine G_get hC fl_By_23 h_2 rfl d_By_at_6 ?_
    refine G_icmp_lt hC 16 (by omega) (by omega) (by decide) d_By_at_9 (fun c_8 => ?_) (fun c_8 => ?_)
    · refine G_aload_n hC 0 rfl rfl d_By_at_16 ?_
      refine G_get hC fl_By_19 h_2 rfl d_By_at_17 ?_
      refine G_iload_n hC 1 rfl rfl d_By_at_20 ?_
      refine G_baldR hC h_3 (by omega) d_By_at_21 ?_
      have g_9 := h_3.rng i
      have g_10 := atS_gx (xs := b.2) (i := i) (by omega)
      refine G_sipush (j := 255) hC (by decide +kernel) d_By_at_22 ?_
      refine G_iand255 hC (by omega) d_By_at_25 ?_
      exact G_iretP hC hQ d_By_at_26 (by unfold atS; rw [if_pos (by omega)]; rfl)
    · refine G_iconst (i := (-1)) hC d_By_at_12 ?_
      refine G_goto hC 26 (by decide) d_By_at_13 ?_
      exact G_iretP hC hQ d_By_at_26 (by unfold atS; rw [if_neg (by omega)])

set_option maxHeartbeats 4000000 in
set_option maxRecDepth 100000 in
theorem c_Si_isDigit {l : Launch} {D : Dg} {b0 : Nat} {M : Mp} {c : Int} (hc : -2147483648 ≤ c ∧ c ≤ 2147483647) : OkP l D b0 1 y_Si_isDigit b_Si_isDigit 1 (some .boolean) M [vI c] (vI (b2i (decide (digP c)))) := by
  refine Ok_of rfl (Nat.le_of_ble_eq_true rfl) (fun E hC hQ hl hD hB hN hR => ?_)
  subst hl hD hB
  show G E M 0 0 [(0, vI c)] [] 0
  refine G_iload_n hC 0 rfl rfl d_Si_isDigit_0 ?_
  refine G_bipush (j := 48) hC (by decide +kernel) d_Si_isDigit_1 ?_
  refine G_icmp_lt hC 16 (by omega) (by decide) (by decide) d_Si_isDigit_3 (fun c_1 => ?_) (fun c_1 => ?_)
  · refine G_iconst (i := 0) hC d_Si_isDigit_16 ?_
    exact G_zretP hC hQ d_Si_isDigit_17 (b2i_f (decide_eq_false (by omega)))
  · refine G_iload_n hC 0 rfl rfl d_Si_isDigit_6 ?_
    refine G_bipush (j := 57) hC (by decide +kernel) d_Si_isDigit_7 ?_
    refine G_icmp_gt hC 16 (by omega) (by decide) (by decide) d_Si_isDigit_9 (fun c_2 => ?_) (fun c_2 => ?_)
    · refine G_iconst (i := 0) hC d_Si_isDigit_16 ?_
      exact G_zretP hC hQ d_Si_isDigit_17 (b2i_f (decide_eq_false (by omega)))
    · refine G_iconst (i := 1) hC d_Si_isDigit_12 ?_
      refine G_goto hC 17 (by decide) d_Si_isDigit_13 ?_
      exact G_zretP hC hQ d_Si_isDigit_17 (b2i_t (decide_eq_true (by omega)))

set_option maxHeartbeats 4000000 in
set_option maxRecDepth 100000 in
theorem c_Si_isLetter {l : Launch} {D : Dg} {b0 : Nat} {M : Mp} {c : Int} (hc : -2147483648 ≤ c ∧ c ≤ 2147483647) : OkP l D b0 1 y_Si_isLetter b_Si_isLetter 1 (some .boolean) M [vI c] (vI (b2i (decide (letP c)))) := by
  refine Ok_of rfl (Nat.le_of_ble_eq_true rfl) (fun E hC hQ hl hD hB hN hR => ?_)
  subst hl hD hB
  show G E M 0 0 [(0, vI c)] [] 0
  refine G_iload_n hC 0 rfl rfl d_Si_isLetter_0 ?_
  refine G_bipush (j := 97) hC (by decide +kernel) d_Si_isLetter_1 ?_
  refine G_icmp_lt hC 16 (by omega) (by decide) (by decide) d_Si_isLetter_3 (fun c_1 => ?_) (fun c_1 => ?_)
  · refine G_iconst (i := 0) hC d_Si_isLetter_16 ?_
    exact G_zretP hC hQ d_Si_isLetter_17 (b2i_f (decide_eq_false (by omega)))
  · refine G_iload_n hC 0 rfl rfl d_Si_isLetter_6 ?_
    refine G_bipush (j := 122) hC (by decide +kernel) d_Si_isLetter_7 ?_
    refine G_icmp_gt hC 16 (by omega) (by decide) (by decide) d_Si_isLetter_9 (fun c_2 => ?_) (fun c_2 => ?_)
    · refine G_iconst (i := 0) hC d_Si_isLetter_16 ?_
      exact G_zretP hC hQ d_Si_isLetter_17 (b2i_f (decide_eq_false (by omega)))
    · refine G_iconst (i := 1) hC d_Si_isLetter_12 ?_
      refine G_goto hC 17 (by decide) d_Si_isLetter_13 ?_
      exact G_zretP hC hQ d_Si_isLetter_17 (b2i_t (decide_eq_true (by omega)))

set_option maxHeartbeats 4000000 in
set_option maxRecDepth 100000 in
theorem c_Si_isNameSign {l : Launch} {D : Dg} {b0 : Nat} {M : Mp} {c : Int} (hc : -2147483648 ≤ c ∧ c ≤ 2147483647) : OkP l D b0 2 y_Si_isNameSign b_Si_isNameSign 1 (some .boolean) M [vI c] (vI (b2i (decide (nsP c)))) := by
  refine Ok_of rfl (Nat.le_of_ble_eq_true rfl) (fun E hC hQ hl hD hB hN hR => ?_)
  subst hl hD hB
  show G E M 0 0 [(0, vI c)] [] 0
  refine G_iload_n hC 0 rfl rfl d_Si_isNameSign_0 ?_
  refine G_pS (rest := []) hC hR (c_Si_isLetter (by omega)) cs_Si_9 (by decide) (by omega) (by omega) rfl rfl (Nat.le_of_ble_eq_true rfl) d_Si_isNameSign_1 ?_
  refine G_if_ne hC 26 (by have := b2i_rng (decide (letP c)); omega) (by decide) d_Si_isNameSign_4 (fun c_1 => ?_) (fun c_1 => ?_)
  · have c_1 := b2i_ne0.mp c_1
    have c_1 := of_decide_eq_true c_1
    refine G_iconst (i := 1) hC d_Si_isNameSign_26 ?_
    refine G_goto hC 31 (by decide) d_Si_isNameSign_27 ?_
    exact G_zretP hC hQ d_Si_isNameSign_31 (b2i_t (decide_eq_true (by omega)))
  · have c_1 := b2i_eq0.mp c_1
    have c_1 := of_decide_eq_false c_1
    refine G_iload_n hC 0 rfl rfl d_Si_isNameSign_7 ?_
    refine G_pS (rest := []) hC hR (c_Si_isDigit (by omega)) cs_Si_15 (by decide) (by omega) (by omega) rfl rfl (Nat.le_of_ble_eq_true rfl) d_Si_isNameSign_8 ?_
    refine G_if_ne hC 26 (by have := b2i_rng (decide (digP c)); omega) (by decide) d_Si_isNameSign_11 (fun c_2 => ?_) (fun c_2 => ?_)
    · have c_2 := b2i_ne0.mp c_2
      have c_2 := of_decide_eq_true c_2
      refine G_iconst (i := 1) hC d_Si_isNameSign_26 ?_
      refine G_goto hC 31 (by decide) d_Si_isNameSign_27 ?_
      exact G_zretP hC hQ d_Si_isNameSign_31 (b2i_t (decide_eq_true (by omega)))
    · have c_2 := b2i_eq0.mp c_2
      have c_2 := of_decide_eq_false c_2
      refine G_iload_n hC 0 rfl rfl d_Si_isNameSign_14 ?_
      refine G_bipush (j := 45) hC (by decide +kernel) d_Si_isNameSign_15 ?_
      refine G_icmp_eq hC 26 (by omega) (by decide) (by decide) d_Si_isNameSign_17 (fun c_3 => ?_) (fun c_3 => ?_)
      · refine G_iconst (i := 1) hC d_Si_isNameSign_26 ?_
        refine G_goto hC 31 (by decide) d_Si_isNameSign_27 ?_
        exact G_zretP hC hQ d_Si_isNameSign_31 (b2i_t (decide_eq_true (by omega)))
      · refine G_iload_n hC 0 rfl rfl d_Si_isNameSign_20 ?_
        refine G_bipush (j := 95) hC (by decide +kernel) d_Si_isNameSign_21 ?_
        refine G_icmp_ne hC 30 (by omega) (by decide) (by decide) d_Si_isNameSign_23 (fun c_4 => ?_) (fun c_4 => ?_)
        · refine G_iconst (i := 0) hC d_Si_isNameSign_30 ?_
          exact G_zretP hC hQ d_Si_isNameSign_31 (b2i_f (decide_eq_false (by omega)))
        · refine G_iconst (i := 1) hC d_Si_isNameSign_26 ?_
          refine G_goto hC 31 (by decide) d_Si_isNameSign_27 ?_
          exact G_zretP hC hQ d_Si_isNameSign_31 (b2i_t (decide_eq_true (by omega)))

set_option maxHeartbeats 4000000 in
set_option maxRecDepth 100000 in
theorem c_By_find {l : Launch} {D : Dg} {b0 : Nat} {M : Mp} {a : Nat} {c : Int} {fr : Int} {to : Int} {t : Nat} {lim : Int} {b : Bv} {z : Int} (h_B_a : IsB D M a t lim b) (hc : -2147483648 ≤ c ∧ c ≤ 2147483647) (hfr : -100000 ≤ fr ∧ fr ≤ 100000) (hto : -100000 ≤ to ∧ to ≤ 100000) (hr : findS b.2 c fr to = z) : OkP l D b0 2 y_By_find b_By_find 5 (some .int) M [.ref a, vI c, vI fr, vI to] (vI z) := by
  refine Ok_of rfl (Nat.le_of_ble_eq_true rfl) (fun E hC hQ hl hD hB hN hR => ?_)
  subst hl hD hB
  have hB9 := h_B_a.len
  show G E M 0 0 [(0, .ref a), (1, vI c), (2, vI fr), (3, vI to)] [] 0
  refine G_iload_n hC 2 rfl rfl d_By_find_0 ?_
  refine G_istore (lv' := [(4, vI fr), (0, .ref a), (1, vI c), (2, vI fr), (3, vI to)]) hC (by rw [hN]; decide) rfl d_By_find_1 ?_
  have L3 : ∀ (N : Nat) (k : Int), (to - k).toNat < N → (fr ≤ k ∧ (k ≤ to ∨ k = fr)) → (findS b.2 c k to = z) → G E M 0 0 [(0, .ref a), (1, vI c), (2, vI fr), (3, vI to), (4, vI k)] [] 3 := by
    intro N
    induction N with
    | zero => intro k hN3 hk hf; exact absurd hN3 (Nat.not_lt_zero _)
    | succ N ih3 =>
      intro k hN3 hk hf
      refine G_iload hC 4 rfl d_By_find_3 ?_
      refine G_iload_n hC 3 rfl rfl d_By_find_5 ?_
      refine G_icmp_ge hC 28 (by omega) (by omega) (by decide) d_By_find_6 (fun c_1 => ?_) (fun c_1 => ?_)
      · refine G_iload_n hC 3 rfl rfl d_By_find_28 ?_
        exact G_iretP hC hQ d_By_find_29 (by rw [findS] at hf; (repeat' split at hf); all_goals first | exact hf | (exfalso; omega) | omega)
      · refine G_aload_n hC 0 rfl rfl d_By_find_9 ?_
        refine G_iload hC 4 rfl d_By_find_10 ?_
        refine G_pV (rest := []) hC hR (c_By_at h_B_a (by omega)) cv_By_42 h_B_a.obj (by decide) (by omega) (by omega) rfl rfl (Nat.le_of_ble_eq_true rfl) d_By_find_12 ?_
        have g_2 := h_B_a.at_rng k
        refine G_iload_n hC 1 rfl rfl d_By_find_15 ?_
        refine G_icmp_ne hC 22 (by omega) (by omega) (by decide) d_By_find_16 (fun c_3 => ?_) (fun c_3 => ?_)
        · refine G_iinc (lv' := [(4, vI (k + 1)), (0, .ref a), (1, vI c), (2, vI fr), (3, vI to)]) hC 4 rfl (by rw [hN]; decide) rfl d_By_find_22 ?_
          refine G_goto hC 3 (by decide) d_By_find_25 ?_
          refine G_lv [1, 2, 3, 4, 0] rfl ?_
          exact ih3 (k + 1) (by omega) (by omega) (by rw [findS] at hf; (repeat' split at hf); all_goals first | exact hf | (exfalso; omega) | omega)
        · refine G_iload hC 4 rfl d_By_find_19 ?_
          exact G_iretP hC hQ d_By_find_21 (by rw [findS] at hf; (repeat' split at hf); all_goals first | exact hf | (exfalso; omega) | omega)
  refine G_lv [1, 2, 3, 4, 0] rfl ?_
  exact L3 _ fr (Nat.lt_succ_self _) (by omega) hr

set_option maxHeartbeats 4000000 in
set_option maxRecDepth 100000 in
theorem c_Si_isName {l : Launch} {D : Dg} {b0 : Nat} {M : Mp} {a : Nat} {fr : Int} {to : Int} {t : Nat} {lim : Int} {b : Bv} {B : Bool} (h_B_a : IsB D M a t lim b) (hfr : -100000 ≤ fr ∧ fr ≤ 100000) (hto : -100000 ≤ to ∧ to ≤ 100000) (hr : nameS b.2 fr to = B) : OkP l D b0 3 y_Si_isName b_Si_isName 6 (some .boolean) M [.ref a, vI fr, vI to] (vI (b2i B)) := by
  refine Ok_of rfl (Nat.le_of_ble_eq_true rfl) (fun E hC hQ hl hD hB hN hR => ?_)
  subst hl hD hB
  have hB9 := h_B_a.len
  unfold nameS at hr
  show G E M 0 0 [(0, .ref a), (1, vI fr), (2, vI to)] [] 0
  refine G_iload_n hC 2 rfl rfl d_Si_isName_0 ?_
  refine G_iload_n hC 1 rfl rfl d_Si_isName_1 ?_
  refine G_isub hC d_Si_isName_2 ?_
  refine G_bipush (j := 60) hC (by decide +kernel) d_Si_isName_3 ?_
  refine G_icmp_le hC 10 (by omega) (by decide) (by decide) d_Si_isName_5 (fun c_1 => ?_) (fun c_1 => ?_)
  · refine G_iconst (i := 0) hC d_Si_isName_10 ?_
    refine G_istore_n (lv' := [(3, vI 0), (0, .ref a), (1, vI fr), (2, vI to)]) hC rfl (by rw [hN]; decide) rfl d_Si_isName_11 ?_
    refine G_iload_n hC 2 rfl rfl d_Si_isName_12 ?_
    refine G_istore (lv' := [(4, vI fr), (3, vI 0), (0, .ref a), (1, vI fr), (2, vI to)]) hC (by rw [hN]; decide) rfl d_Si_isName_13 ?_
    have L15 : ∀ (N : Nat) (part : Int) (k : Int), (to - k).toNat < N → (fr ≤ k ∧ (k ≤ to ∨ k = fr)) → (0 ≤ part ∧ part ≤ 20) → (nameL b.2 to k part = B) → G E M 0 0 [(0, .ref a), (1, vI fr), (2, vI to), (3, vI part), (4, vI k)] [] 15 := by
      intro N
      induction N with
      | zero => intro part k hN15 hk hp hf; exact absurd hN15 (Nat.not_lt_zero _)
      | succ N ih15 =>
        intro part k hN15 hk hp hf
        refine G_iload hC 4 rfl d_Si_isName_15 ?_
        refine G_iload_n hC 2 rfl rfl d_Si_isName_17 ?_
        refine G_icmp_ge hC 73 (by omega) (by omega) (by decide) d_Si_isName_18 (fun c_2 => ?_) (fun c_2 => ?_)
        · refine G_iload_n hC 3 rfl rfl d_Si_isName_73 ?_
          refine G_if_le hC 81 (by omega) (by decide) d_Si_isName_74 (fun c_3 => ?_) (fun c_3 => ?_)
          · refine G_iconst (i := 0) hC d_Si_isName_81 ?_
            exact G_zretP hC hQ d_Si_isName_82 (b2i_f (by rw [nameL] at hf; (repeat' split at hf); all_goals first | exact hf.symm | (exfalso; omega) | (rw [← hf]; exact decide_eq_false (by omega))))
          · refine G_iconst (i := 1) hC d_Si_isName_77 ?_
            refine G_goto hC 82 (by decide) d_Si_isName_78 ?_
            exact G_zretP hC hQ d_Si_isName_82 (b2i_t (by rw [nameL] at hf; (repeat' split at hf); all_goals first | exact hf.symm | (exfalso; omega) | (rw [← hf]; exact decide_eq_true (by omega))))
        · refine G_aload_n hC 0 rfl rfl d_Si_isName_21 ?_
          refine G_iload hC 4 rfl d_Si_isName_22 ?_
          refine G_pV (rest := []) hC hR (c_By_at h_B_a (by omega)) cv_Si_18 h_B_a.obj (by decide) (by omega) (by omega) rfl rfl (Nat.le_of_ble_eq_true rfl) d_Si_isName_24 ?_
          have g_4 := h_B_a.at_rng k
          refine G_istore (lv' := [(5, vI (atS b.2 k)), (0, .ref a), (1, vI fr), (2, vI to), (3, vI part), (4, vI k)]) hC (by rw [hN]; decide) rfl d_Si_isName_27 ?_
          refine G_iload hC 0 rfl d_Si_isName_29 ?_
          refine G_bipush (j := 46) hC (by decide +kernel) d_Si_isName_31 ?_
          refine G_icmp_ne hC 45 (by omega) (by decide) (by decide) d_Si_isName_33 (fun c_5 => ?_) (fun c_5 => ?_)
          · refine G_iload hC 0 rfl d_Si_isName_45 ?_
            refine G_pS (rest := []) hC hR (c_Si_isNameSign (by omega)) cs_Si_24 (by decide) (by omega) (by omega) rfl rfl (Nat.le_of_ble_eq_true rfl) d_Si_isName_47 ?_
            refine G_if_eq hC 65 (by have := b2i_rng (decide (nsP (atS b.2 k))); omega) (by decide) d_Si_isName_50 (fun c_6 => ?_) (fun c_6 => ?_)
            · have c_6 := b2i_eq0.mp c_6
              have c_6 := of_decide_eq_false c_6
              refine G_iconst (i := 0) hC d_Si_isName_65 ?_
              exact G_zretP hC hQ d_Si_isName_66 (b2i_f (by rw [nameL] at hf; (repeat' split at hf); all_goals first | exact hf.symm | (exfalso; omega) | (rw [← hf]; exact decide_eq_false (by omega))))
            · have c_6 := b2i_ne0.mp c_6
              have c_6 := of_decide_eq_true c_6
              refine G_iload_n hC 4 rfl rfl d_Si_isName_53 ?_
              refine G_bipush (j := 20) hC (by decide +kernel) d_Si_isName_54 ?_
              refine G_icmp_ge hC 65 (by omega) (by decide) (by decide) d_Si_isName_56 (fun c_7 => ?_) (fun c_7 => ?_)
              · refine G_iconst (i := 0) hC d_Si_isName_65 ?_
                exact G_zretP hC hQ d_Si_isName_66 (b2i_f (by rw [nameL] at hf; (repeat' split at hf); all_goals first | exact hf.symm | (exfalso; omega) | (rw [← hf]; exact decide_eq_false (by omega))))
              · refine G_iinc (lv' := [(3, vI (part + 1)), (5, vI (atS b.2 k)), (0, .ref a), (1, vI fr), (2, vI to), (4, vI k)]) hC 4 rfl (by rw [hN]; decide) rfl d_Si_isName_59 ?_
                refine G_goto hC 67 (by decide) d_Si_isName_62 ?_
                refine G_iinc (lv' := [(4, vI (k + 1)), (3, vI (part + 1)), (5, vI (atS b.2 k)), (0, .ref a), (1, vI fr), (2, vI to)]) hC 5 rfl (by rw [hN]; decide) rfl d_Si_isName_67 ?_
                refine G_goto hC 15 (by decide) d_Si_isName_70 ?_
                refine G_lv [3, 4, 5, 1, 0] rfl ?_
                exact ih15 (part + 1) (k + 1) (by omega) (by omega) (by omega) (by rw [nameL] at hf; (repeat' split at hf); all_goals first | exact hf | (exfalso; omega) | omega)
          · refine G_iload_n hC 4 rfl rfl d_Si_isName_36 ?_
            refine G_if_le hC 45 (by omega) (by decide) d_Si_isName_37 (fun c_8 => ?_) (fun c_8 => ?_)
            · refine G_iload hC 0 rfl d_Si_isName_45 ?_
              refine G_pS (rest := []) hC hR (c_Si_isNameSign (by omega)) cs_Si_24 (by decide) (by omega) (by omega) rfl rfl (Nat.le_of_ble_eq_true rfl) d_Si_isName_47 ?_
              refine G_if_eq hC 65 (by have := b2i_rng (decide (nsP (atS b.2 k))); omega) (by decide) d_Si_isName_50 (fun c_9 => ?_) (fun c_9 => ?_)
              · have c_9 := b2i_eq0.mp c_9
                have c_9 := of_decide_eq_false c_9
                refine G_iconst (i := 0) hC d_Si_isName_65 ?_
                exact G_zretP hC hQ d_Si_isName_66 (b2i_f (by rw [nameL] at hf; (repeat' split at hf); all_goals first | exact hf.symm | (exfalso; omega) | (rw [← hf]; exact decide_eq_false (by omega))))
              · have c_9 := b2i_ne0.mp c_9
                have c_9 := of_decide_eq_true c_9
                refine G_iload_n hC 4 rfl rfl d_Si_isName_53 ?_
                refine G_bipush (j := 20) hC (by decide +kernel) d_Si_isName_54 ?_
                refine G_icmp_ge hC 65 (by omega) (by decide) (by decide) d_Si_isName_56 (fun c_10 => ?_) (fun c_10 => ?_)
                · refine G_iconst (i := 0) hC d_Si_isName_65 ?_
                  exact G_zretP hC hQ d_Si_isName_66 (b2i_f (by rw [nameL] at hf; (repeat' split at hf); all_goals first | exact hf.symm | (exfalso; omega) | (rw [← hf]; exact decide_eq_false (by omega))))
                · refine G_iinc (lv' := [(3, vI (part + 1)), (5, vI (atS b.2 k)), (0, .ref a), (1, vI fr), (2, vI to), (4, vI k)]) hC 4 rfl (by rw [hN]; decide) rfl d_Si_isName_59 ?_
                  refine G_goto hC 67 (by decide) d_Si_isName_62 ?_
                  refine G_iinc (lv' := [(4, vI (k + 1)), (3, vI (part + 1)), (5, vI (atS b.2 k)), (0, .ref a), (1, vI fr), (2, vI to)]) hC 5 rfl (by rw [hN]; decide) rfl d_Si_isName_67 ?_
                  refine G_goto hC 15 (by decide) d_Si_isName_70 ?_
                  refine G_lv [3, 4, 5, 1, 0] rfl ?_
                  exact ih15 (part + 1) (k + 1) (by omega) (by omega) (by omega) (by rw [nameL] at hf; (repeat' split at hf); all_goals first | exact hf | (exfalso; omega) | omega)
            · refine G_iconst (i := 0) hC d_Si_isName_40 ?_
              refine G_istore_n (lv' := [(3, vI 0), (5, vI (atS b.2 k)), (0, .ref a), (1, vI fr), (2, vI to), (4, vI k)]) hC rfl (by rw [hN]; decide) rfl d_Si_isName_41 ?_
              refine G_goto hC 67 (by decide) d_Si_isName_42 ?_
              refine G_iinc (lv' := [(4, vI (k + 1)), (3, vI 0), (5, vI (atS b.2 k)), (0, .ref a), (1, vI fr), (2, vI to)]) hC 5 rfl (by rw [hN]; decide) rfl d_Si_isName_67 ?_
              refine G_goto hC 15 (by decide) d_Si_isName_70 ?_
              refine G_lv [3, 4, 5, 1, 0] rfl ?_
              exact ih15 0 (k + 1) (by omega) (by omega) (by omega) (by rw [nameL] at hf; (repeat' split at hf); all_goals first | exact hf | (exfalso; omega) | omega)
    refine G_lv [2, 3, 4, 1, 0] rfl ?_
    exact L15 _ 0 fr (Nat.lt_succ_self _) (by omega) (by omega) (by rw [if_neg (by omega)] at hr; exact hr)
  · refine G_iconst (i := 0) hC d_Si_isName_8 ?_
    exact G_zretP hC hQ d_Si_isName_9 (b2i_f (by (repeat' split at hr); all_goals first | exact hr.symm | (exfalso; omega) | (rw [← hr]; exact decide_eq_false (by omega))))

set_option maxHeartbeats 4000000 in
set_option maxRecDepth 100000 in
theorem c_Si_isLocal {l : Launch} {D : Dg} {b0 : Nat} {M : Mp} {a : Nat} {fr : Int} {to : Int} {t : Nat} {lim : Int} {b : Bv} {B : Bool} (h_B_a : IsB D M a t lim b) (hfr : -100000 ≤ fr ∧ fr ≤ 100000) (hto : -100000 ≤ to ∧ to ≤ 100000) (hr : locaS b.2 fr to = B) : OkP l D b0 3 y_Si_isLocal b_Si_isLocal 5 (some .boolean) M [.ref a, vI fr, vI to] (vI (b2i B)) := by
  refine Ok_of rfl (Nat.le_of_ble_eq_true rfl) (fun E hC hQ hl hD hB hN hR => ?_)
  subst hl hD hB
  have hB9 := h_B_a.len
  unfold locaS at hr
  show G E M 0 0 [(0, .ref a), (1, vI fr), (2, vI to)] [] 0
  refine G_iload_n hC 2 rfl rfl d_Si_isLocal_0 ?_
  refine G_iload_n hC 1 rfl rfl d_Si_isLocal_1 ?_
  refine G_icmp_le hC 13 (by omega) (by omega) (by decide) d_Si_isLocal_2 (fun c_1 => ?_) (fun c_1 => ?_)
  · refine G_iconst (i := 0) hC d_Si_isLocal_13 ?_
    exact G_zretP hC hQ d_Si_isLocal_14 (b2i_f (by (repeat' split at hr); all_goals first | exact hr.symm | (exfalso; omega) | (rw [← hr]; exact decide_eq_false (by omega))))
  · refine G_iload_n hC 2 rfl rfl d_Si_isLocal_5 ?_
    refine G_iload_n hC 1 rfl rfl d_Si_isLocal_6 ?_
    refine G_isub hC d_Si_isLocal_7 ?_
    refine G_bipush (j := 30) hC (by decide +kernel) d_Si_isLocal_8 ?_
    refine G_icmp_le hC 15 (by omega) (by decide) (by decide) d_Si_isLocal_10 (fun c_2 => ?_) (fun c_2 => ?_)
    · refine G_iload_n hC 1 rfl rfl d_Si_isLocal_15 ?_
      refine G_istore_n (lv' := [(3, vI fr), (0, .ref a), (1, vI fr), (2, vI to)]) hC rfl (by rw [hN]; decide) rfl d_Si_isLocal_16 ?_
      have L17 : ∀ (N : Nat) (k : Int), (to - k).toNat < N → (fr ≤ k ∧ (k ≤ to ∨ k = fr)) → (locaL b.2 to k = B) → G E M 0 0 [(0, .ref a), (1, vI fr), (2, vI to), (3, vI k)] [] 17 := by
        intro N
        induction N with
        | zero => intro k hN17 hk hf; exact absurd hN17 (Nat.not_lt_zero _)
        | succ N ih17 =>
          intro k hN17 hk hf
          refine G_iload_n hC 3 rfl rfl d_Si_isLocal_17 ?_
          refine G_iload_n hC 2 rfl rfl d_Si_isLocal_18 ?_
          refine G_icmp_ge hC 59 (by omega) (by omega) (by decide) d_Si_isLocal_19 (fun c_3 => ?_) (fun c_3 => ?_)
          · refine G_iconst (i := 1) hC d_Si_isLocal_59 ?_
            exact G_zretP hC hQ d_Si_isLocal_60 (b2i_t (by rw [locaL] at hf; (repeat' split at hf); all_goals first | exact hf.symm | (exfalso; omega) | (rw [← hf]; exact decide_eq_true (by omega))))
          · refine G_aload_n hC 0 rfl rfl d_Si_isLocal_22 ?_
            refine G_iload_n hC 3 rfl rfl d_Si_isLocal_23 ?_
            refine G_pV (rest := []) hC hR (c_By_at h_B_a (by omega)) cv_Si_18 h_B_a.obj (by decide) (by omega) (by omega) rfl rfl (Nat.le_of_ble_eq_true rfl) d_Si_isLocal_24 ?_
            have g_4 := h_B_a.at_rng k
            refine G_istore (lv' := [(4, vI (atS b.2 k)), (0, .ref a), (1, vI fr), (2, vI to), (3, vI k)]) hC (by rw [hN]; decide) rfl d_Si_isLocal_27 ?_
            refine G_iload hC 0 rfl d_Si_isLocal_29 ?_
            refine G_pS (rest := []) hC hR (c_Si_isNameSign (by omega)) cs_Si_24 (by decide) (by omega) (by omega) rfl rfl (Nat.le_of_ble_eq_true rfl) d_Si_isLocal_31 ?_
            refine G_if_ne hC 53 (by have := b2i_rng (decide (nsP (atS b.2 k))); omega) (by decide) d_Si_isLocal_34 (fun c_5 => ?_) (fun c_5 => ?_)
            · have c_5 := b2i_ne0.mp c_5
              have c_5 := of_decide_eq_true c_5
              refine G_iinc (lv' := [(3, vI (k + 1)), (4, vI (atS b.2 k)), (0, .ref a), (1, vI fr), (2, vI to)]) hC 4 rfl (by rw [hN]; decide) rfl d_Si_isLocal_53 ?_
              refine G_goto hC 17 (by decide) d_Si_isLocal_56 ?_
              refine G_lv [2, 3, 4, 0] rfl ?_
              exact ih17 (k + 1) (by omega) (by omega) (by rw [locaL] at hf; (repeat' split at hf); all_goals first | exact hf | (exfalso; omega) | omega)
            · have c_5 := b2i_eq0.mp c_5
              have c_5 := of_decide_eq_false c_5
              refine G_iload hC 0 rfl d_Si_isLocal_37 ?_
              refine G_bipush (j := 46) hC (by decide +kernel) d_Si_isLocal_39 ?_
              refine G_icmp_eq hC 53 (by omega) (by decide) (by decide) d_Si_isLocal_41 (fun c_6 => ?_) (fun c_6 => ?_)
              · refine G_iinc (lv' := [(3, vI (k + 1)), (4, vI (atS b.2 k)), (0, .ref a), (1, vI fr), (2, vI to)]) hC 4 rfl (by rw [hN]; decide) rfl d_Si_isLocal_53 ?_
                refine G_goto hC 17 (by decide) d_Si_isLocal_56 ?_
                refine G_lv [2, 3, 4, 0] rfl ?_
                exact ih17 (k + 1) (by omega) (by omega) (by rw [locaL] at hf; (repeat' split at hf); all_goals first | exact hf | (exfalso; omega) | omega)
              · refine G_iload hC 0 rfl d_Si_isLocal_44 ?_
                refine G_bipush (j := 43) hC (by decide +kernel) d_Si_isLocal_46 ?_
                refine G_icmp_eq hC 53 (by omega) (by decide) (by decide) d_Si_isLocal_48 (fun c_7 => ?_) (fun c_7 => ?_)
                · refine G_iinc (lv' := [(3, vI (k + 1)), (4, vI (atS b.2 k)), (0, .ref a), (1, vI fr), (2, vI to)]) hC 4 rfl (by rw [hN]; decide) rfl d_Si_isLocal_53 ?_
                  refine G_goto hC 17 (by decide) d_Si_isLocal_56 ?_
                  refine G_lv [2, 3, 4, 0] rfl ?_
                  exact ih17 (k + 1) (by omega) (by omega) (by rw [locaL] at hf; (repeat' split at hf); all_goals first | exact hf | (exfalso; omega) | omega)
                · refine G_iconst (i := 0) hC d_Si_isLocal_51 ?_
                  exact G_zretP hC hQ d_Si_isLocal_52 (b2i_f (by rw [locaL] at hf; (repeat' split at hf); all_goals first | exact hf.symm | (exfalso; omega) | (rw [← hf]; exact decide_eq_false (by omega))))
      refine G_lv [1, 2, 3, 0] rfl ?_
      exact L17 _ fr (Nat.lt_succ_self _) (by omega) (by rw [if_neg (by omega)] at hr; exact hr)
    · refine G_iconst (i := 0) hC d_Si_isLocal_13 ?_
      exact G_zretP hC hQ d_Si_isLocal_14 (b2i_f (by (repeat' split at hr); all_goals first | exact hr.symm | (exfalso; omega) | (rw [← hr]; exact decide_eq_false (by omega))))

set_option maxHeartbeats 4000000 in
set_option maxRecDepth 100000 in
theorem c_Si_isWord {l : Launch} {D : Dg} {b0 : Nat} {M : Mp} {a : Nat} {fr : Int} {to : Int} {t : Nat} {lim : Int} {b : Bv} {B : Bool} (h_B_a : IsB D M a t lim b) (hfr : -100000 ≤ fr ∧ fr ≤ 100000) (hto : -100000 ≤ to ∧ to ≤ 100000) (hr : wordS b.2 fr to = B) : OkP l D b0 3 y_Si_isWord b_Si_isWord 4 (some .boolean) M [.ref a, vI fr, vI to] (vI (b2i B)) := by
  refine Ok_of rfl (Nat.le_of_ble_eq_true rfl) (fun E hC hQ hl hD hB hN hR => ?_)
  subst hl hD hB
  have hB9 := h_B_a.len
  unfold wordS at hr
  show G E M 0 0 [(0, .ref a), (1, vI fr), (2, vI to)] [] 0
  refine G_iload_n hC 2 rfl rfl d_Si_isWord_0 ?_
  refine G_iload_n hC 1 rfl rfl d_Si_isWord_1 ?_
  refine G_icmp_le hC 16 (by omega) (by omega) (by decide) d_Si_isWord_2 (fun c_1 => ?_) (fun c_1 => ?_)
  · refine G_iconst (i := 0) hC d_Si_isWord_16 ?_
    exact G_zretP hC hQ d_Si_isWord_17 (b2i_f (by (repeat' split at hr); all_goals first | exact hr.symm | (exfalso; omega) | (rw [← hr]; exact decide_eq_false (by omega))))
  · refine G_aload_n hC 0 rfl rfl d_Si_isWord_5 ?_
    refine G_iload_n hC 1 rfl rfl d_Si_isWord_6 ?_
    refine G_pV (rest := []) hC hR (c_By_at h_B_a (by omega)) cv_Si_18 h_B_a.obj (by decide) (by omega) (by omega) rfl rfl (Nat.le_of_ble_eq_true rfl) d_Si_isWord_7 ?_
    have g_2 := h_B_a.at_rng fr
    refine G_pS (rest := []) hC hR (c_Si_isLetter (by omega)) cs_Si_9 (by decide) (by omega) (by omega) rfl rfl (Nat.le_of_ble_eq_true rfl) d_Si_isWord_10 ?_
    refine G_if_ne hC 18 (by have := b2i_rng (decide (letP (atS b.2 fr))); omega) (by decide) d_Si_isWord_13 (fun c_3 => ?_) (fun c_3 => ?_)
    · have c_3 := b2i_ne0.mp c_3
      have c_3 := of_decide_eq_true c_3
      refine G_iload_n hC 1 rfl rfl d_Si_isWord_18 ?_
      refine G_istore_n (lv' := [(3, vI fr), (0, .ref a), (1, vI fr), (2, vI to)]) hC rfl (by rw [hN]; decide) rfl d_Si_isWord_19 ?_
      have L20 : ∀ (N : Nat) (k : Int), (to - k).toNat < N → (fr ≤ k ∧ (k ≤ to ∨ k = fr)) → (wordL b.2 to k = B) → G E M 0 0 [(0, .ref a), (1, vI fr), (2, vI to), (3, vI k)] [] 20 := by
        intro N
        induction N with
        | zero => intro k hN20 hk hf; exact absurd hN20 (Nat.not_lt_zero _)
        | succ N ih20 =>
          intro k hN20 hk hf
          refine G_iload_n hC 3 rfl rfl d_Si_isWord_20 ?_
          refine G_iload_n hC 2 rfl rfl d_Si_isWord_21 ?_
          refine G_icmp_ge hC 54 (by omega) (by omega) (by decide) d_Si_isWord_22 (fun c_4 => ?_) (fun c_4 => ?_)
          · refine G_iconst (i := 1) hC d_Si_isWord_54 ?_
            exact G_zretP hC hQ d_Si_isWord_55 (b2i_t (by rw [wordL] at hf; (repeat' split at hf); all_goals first | exact hf.symm | (exfalso; omega) | (rw [← hf]; exact decide_eq_true (by omega))))
          · refine G_aload_n hC 0 rfl rfl d_Si_isWord_25 ?_
            refine G_iload_n hC 3 rfl rfl d_Si_isWord_26 ?_
            refine G_pV (rest := []) hC hR (c_By_at h_B_a (by omega)) cv_Si_18 h_B_a.obj (by decide) (by omega) (by omega) rfl rfl (Nat.le_of_ble_eq_true rfl) d_Si_isWord_27 ?_
            have g_5 := h_B_a.at_rng k
            refine G_pS (rest := []) hC hR (c_Si_isNameSign (by omega)) cs_Si_24 (by decide) (by omega) (by omega) rfl rfl (Nat.le_of_ble_eq_true rfl) d_Si_isWord_30 ?_
            refine G_if_ne hC 48 (by have := b2i_rng (decide (nsP (atS b.2 k))); omega) (by decide) d_Si_isWord_33 (fun c_6 => ?_) (fun c_6 => ?_)
            · have c_6 := b2i_ne0.mp c_6
              have c_6 := of_decide_eq_true c_6
              refine G_iinc (lv' := [(3, vI (k + 1)), (0, .ref a), (1, vI fr), (2, vI to)]) hC 3 rfl (by rw [hN]; decide) rfl d_Si_isWord_48 ?_
              refine G_goto hC 20 (by decide) d_Si_isWord_51 ?_
              refine G_lv [1, 2, 3, 0] rfl ?_
              exact ih20 (k + 1) (by omega) (by omega) (by rw [wordL] at hf; (repeat' split at hf); all_goals first | exact hf | (exfalso; omega) | omega)
            · have c_6 := b2i_eq0.mp c_6
              have c_6 := of_decide_eq_false c_6
              refine G_aload_n hC 0 rfl rfl d_Si_isWord_36 ?_
              refine G_iload_n hC 3 rfl rfl d_Si_isWord_37 ?_
              refine G_pV (rest := []) hC hR (c_By_at h_B_a (by omega)) cv_Si_18 h_B_a.obj (by decide) (by omega) (by omega) rfl rfl (Nat.le_of_ble_eq_true rfl) d_Si_isWord_38 ?_
              have g_7 := h_B_a.at_rng k
              refine G_bipush (j := 46) hC (by decide +kernel) d_Si_isWord_41 ?_
              refine G_icmp_eq hC 48 (by omega) (by decide) (by decide) d_Si_isWord_43 (fun c_8 => ?_) (fun c_8 => ?_)
              · refine G_iinc (lv' := [(3, vI (k + 1)), (0, .ref a), (1, vI fr), (2, vI to)]) hC 3 rfl (by rw [hN]; decide) rfl d_Si_isWord_48 ?_
                refine G_goto hC 20 (by decide) d_Si_isWord_51 ?_
                refine G_lv [1, 2, 3, 0] rfl ?_
                exact ih20 (k + 1) (by omega) (by omega) (by rw [wordL] at hf; (repeat' split at hf); all_goals first | exact hf | (exfalso; omega) | omega)
              · refine G_iconst (i := 0) hC d_Si_isWord_46 ?_
                exact G_zretP hC hQ d_Si_isWord_47 (b2i_f (by rw [wordL] at hf; (repeat' split at hf); all_goals first | exact hf.symm | (exfalso; omega) | (rw [← hf]; exact decide_eq_false (by omega))))
      refine G_lv [1, 2, 3, 0] rfl ?_
      exact L20 _ fr (Nat.lt_succ_self _) (by omega) (by rw [if_neg (by omega)] at hr; exact hr)
    · have c_3 := b2i_eq0.mp c_3
      have c_3 := of_decide_eq_false c_3
      refine G_iconst (i := 0) hC d_Si_isWord_16 ?_
      exact G_zretP hC hQ d_Si_isWord_17 (b2i_f (by (repeat' split at hr); all_goals first | exact hr.symm | (exfalso; omega) | (rw [← hr]; exact decide_eq_false (by omega))))

set_option maxHeartbeats 4000000 in
set_option maxRecDepth 100000 in
theorem c_Ma_isMacroLetter {l : Launch} {D : Dg} {b0 : Nat} {M : Mp} {c : Int} (hc : -2147483648 ≤ c ∧ c ≤ 2147483647) : OkP l D b0 1 y_Ma_isMacroLetter b_Ma_isMacroLetter 1 (some .boolean) M [vI c] (vI (b2i (decide (mlP c)))) := by
  refine Ok_of rfl (Nat.le_of_ble_eq_true rfl) (fun E hC hQ hl hD hB hN hR => ?_)
  subst hl hD hB
  show G E M 0 0 [(0, vI c)] [] 0
  refine G_iload_n hC 0 rfl rfl d_Ma_isMacroLetter_0 ?_
  refine G_bipush (j := 115) hC (by decide +kernel) d_Ma_isMacroLetter_1 ?_
  refine G_icmp_eq hC 30 (by omega) (by decide) (by decide) d_Ma_isMacroLetter_3 (fun c_1 => ?_) (fun c_1 => ?_)
  · refine G_iconst (i := 1) hC d_Ma_isMacroLetter_30 ?_
    refine G_goto hC 35 (by decide) d_Ma_isMacroLetter_31 ?_
    exact G_zretP hC hQ d_Ma_isMacroLetter_35 (b2i_t (decide_eq_true (by omega)))
  · refine G_iload_n hC 0 rfl rfl d_Ma_isMacroLetter_6 ?_
    refine G_bipush (j := 108) hC (by decide +kernel) d_Ma_isMacroLetter_7 ?_
    refine G_icmp_eq hC 30 (by omega) (by decide) (by decide) d_Ma_isMacroLetter_9 (fun c_2 => ?_) (fun c_2 => ?_)
    · refine G_iconst (i := 1) hC d_Ma_isMacroLetter_30 ?_
      refine G_goto hC 35 (by decide) d_Ma_isMacroLetter_31 ?_
      exact G_zretP hC hQ d_Ma_isMacroLetter_35 (b2i_t (decide_eq_true (by omega)))
    · refine G_iload_n hC 0 rfl rfl d_Ma_isMacroLetter_12 ?_
      refine G_bipush (j := 111) hC (by decide +kernel) d_Ma_isMacroLetter_13 ?_
      refine G_icmp_eq hC 30 (by omega) (by decide) (by decide) d_Ma_isMacroLetter_15 (fun c_3 => ?_) (fun c_3 => ?_)
      · refine G_iconst (i := 1) hC d_Ma_isMacroLetter_30 ?_
        refine G_goto hC 35 (by decide) d_Ma_isMacroLetter_31 ?_
        exact G_zretP hC hQ d_Ma_isMacroLetter_35 (b2i_t (decide_eq_true (by omega)))
      · refine G_iload_n hC 0 rfl rfl d_Ma_isMacroLetter_18 ?_
        refine G_bipush (j := 100) hC (by decide +kernel) d_Ma_isMacroLetter_19 ?_
        refine G_icmp_eq hC 30 (by omega) (by decide) (by decide) d_Ma_isMacroLetter_21 (fun c_4 => ?_) (fun c_4 => ?_)
        · refine G_iconst (i := 1) hC d_Ma_isMacroLetter_30 ?_
          refine G_goto hC 35 (by decide) d_Ma_isMacroLetter_31 ?_
          exact G_zretP hC hQ d_Ma_isMacroLetter_35 (b2i_t (decide_eq_true (by omega)))
        · refine G_iload_n hC 0 rfl rfl d_Ma_isMacroLetter_24 ?_
          refine G_bipush (j := 105) hC (by decide +kernel) d_Ma_isMacroLetter_25 ?_
          refine G_icmp_ne hC 34 (by omega) (by decide) (by decide) d_Ma_isMacroLetter_27 (fun c_5 => ?_) (fun c_5 => ?_)
          · refine G_iconst (i := 0) hC d_Ma_isMacroLetter_34 ?_
            exact G_zretP hC hQ d_Ma_isMacroLetter_35 (b2i_f (decide_eq_false (by omega)))
          · refine G_iconst (i := 1) hC d_Ma_isMacroLetter_30 ?_
            refine G_goto hC 35 (by decide) d_Ma_isMacroLetter_31 ?_
            exact G_zretP hC hQ d_Ma_isMacroLetter_35 (b2i_t (decide_eq_true (by omega)))

set_option maxHeartbeats 4000000 in
set_option maxRecDepth 100000 in
theorem c_Ma_isPartNumber {l : Launch} {D : Dg} {b0 : Nat} {M : Mp} {c : Int} (hc : -2147483648 ≤ c ∧ c ≤ 2147483647) : OkP l D b0 1 y_Ma_isPartNumber b_Ma_isPartNumber 1 (some .boolean) M [vI c] (vI (b2i (decide (pnP c)))) := by
  refine Ok_of rfl (Nat.le_of_ble_eq_true rfl) (fun E hC hQ hl hD hB hN hR => ?_)
  subst hl hD hB
  show G E M 0 0 [(0, vI c)] [] 0
  refine G_iload_n hC 0 rfl rfl d_Ma_isPartNumber_0 ?_
  refine G_bipush (j := 49) hC (by decide +kernel) d_Ma_isPartNumber_1 ?_
  refine G_icmp_lt hC 16 (by omega) (by decide) (by decide) d_Ma_isPartNumber_3 (fun c_1 => ?_) (fun c_1 => ?_)
  · refine G_iconst (i := 0) hC d_Ma_isPartNumber_16 ?_
    exact G_zretP hC hQ d_Ma_isPartNumber_17 (b2i_f (decide_eq_false (by omega)))
  · refine G_iload_n hC 0 rfl rfl d_Ma_isPartNumber_6 ?_
    refine G_bipush (j := 57) hC (by decide +kernel) d_Ma_isPartNumber_7 ?_
    refine G_icmp_gt hC 16 (by omega) (by decide) (by decide) d_Ma_isPartNumber_9 (fun c_2 => ?_) (fun c_2 => ?_)
    · refine G_iconst (i := 0) hC d_Ma_isPartNumber_16 ?_
      exact G_zretP hC hQ d_Ma_isPartNumber_17 (b2i_f (decide_eq_false (by omega)))
    · refine G_iconst (i := 1) hC d_Ma_isPartNumber_12 ?_
      refine G_goto hC 17 (by decide) d_Ma_isPartNumber_13 ?_
      exact G_zretP hC hQ d_Ma_isPartNumber_17 (b2i_t (decide_eq_true (by omega)))

set_option maxHeartbeats 4000000 in
set_option maxRecDepth 100000 in
theorem c_Ma_macroLength {l : Launch} {D : Dg} {b0 : Nat} {M : Mp} {a : Nat} {q : Int} {to : Int} {t : Nat} {lim : Int} {b : Bv} {z : Int} (h_B_a : IsB D M a t lim b) (hq : -100000 ≤ q ∧ q ≤ 100000) (hto : -100000 ≤ to ∧ to ≤ 100000) (hr : mlenS b.2 q to = z) : OkP l D b0 2 y_Ma_macroLength b_Ma_macroLength 5 (some .int) M [.ref a, vI q, vI to] (vI z) := by
  refine Ok_of rfl (Nat.le_of_ble_eq_true rfl) (fun E hC hQ hl hD hB hN hR => ?_)
  subst hl hD hB
  have hB9 := h_B_a.len
  unfold mlenS at hr
  dsimp only at hr
  show G E M 0 0 [(0, .ref a), (1, vI q), (2, vI to)] [] 0
  refine G_iload_n hC 1 rfl rfl d_Ma_macroLength_0 ?_
  refine G_iconst (i := 1) hC d_Ma_macroLength_1 ?_
  refine G_iadd hC d_Ma_macroLength_2 ?_
  refine G_iload_n hC 2 rfl rfl d_Ma_macroLength_3 ?_
  refine G_icmp_ge hC 17 (by omega) (by omega) (by decide) d_Ma_macroLength_4 (fun c_1 => ?_) (fun c_1 => ?_)
  · refine G_iconst (i := (-1)) hC d_Ma_macroLength_17 ?_
    refine G_istore_n (lv' := [(3, vI (-1)), (0, .ref a), (1, vI q), (2, vI to)]) hC rfl (by rw [hN]; decide) rfl d_Ma_macroLength_18 ?_
    refine G_iload_n hC 0 rfl rfl d_Ma_macroLength_19 ?_
    refine G_bipush (j := 37) hC (by decide +kernel) d_Ma_macroLength_20 ?_
    refine G_icmp_eq hC 37 (by decide) (by decide) (by decide) d_Ma_macroLength_22 (fun c_2 => ?_) (fun c_2 => ?_)
    · refine G_iconst (i := 2) hC d_Ma_macroLength_37 ?_
      exact G_iretP hC hQ d_Ma_macroLength_38 (by (repeat' split at hr); all_goals omega)
    · refine G_iload_n hC 0 rfl rfl d_Ma_macroLength_25 ?_
      refine G_bipush (j := 95) hC (by decide +kernel) d_Ma_macroLength_26 ?_
      refine G_icmp_eq hC 37 (by decide) (by decide) (by decide) d_Ma_macroLength_28 (fun c_3 => ?_) (fun c_3 => ?_)
      · refine G_iconst (i := 2) hC d_Ma_macroLength_37 ?_
        exact G_iretP hC hQ d_Ma_macroLength_38 (by (repeat' split at hr); all_goals omega)
      · refine G_iload_n hC 0 rfl rfl d_Ma_macroLength_31 ?_
        refine G_bipush (j := 45) hC (by decide +kernel) d_Ma_macroLength_32 ?_
        refine G_icmp_ne hC 39 (by decide) (by decide) (by decide) d_Ma_macroLength_34 (fun c_4 => ?_) (fun c_4 => ?_)
        · refine G_iload_n hC 0 rfl rfl d_Ma_macroLength_39 ?_
          refine G_bipush (j := 123) hC (by decide +kernel) d_Ma_macroLength_40 ?_
          refine G_icmp_ne hC 65 (by decide) (by decide) (by decide) d_Ma_macroLength_42 (fun c_5 => ?_) (fun c_5 => ?_)
          · refine G_iconst (i := 0) hC d_Ma_macroLength_65 ?_
            exact G_iretP hC hQ d_Ma_macroLength_66 (by (repeat' split at hr); all_goals omega)
          · refine G_iload_n hC 2 rfl rfl d_Ma_macroLength_45 ?_
            refine G_iconst (i := 2) hC d_Ma_macroLength_46 ?_
            refine G_iadd hC d_Ma_macroLength_47 ?_
            refine G_iload_n hC 3 rfl rfl d_Ma_macroLength_48 ?_
            refine G_icmp_ge hC 65 (by omega) (by omega) (by decide) d_Ma_macroLength_49 (fun c_6 => ?_) (fun c_6 => ?_)
            · refine G_iconst (i := 0) hC d_Ma_macroLength_65 ?_
              exact G_iretP hC hQ d_Ma_macroLength_66 (by (repeat' split at hr); all_goals omega)
            · refine G_aload_n hC 1 rfl rfl d_Ma_macroLength_52 ?_
              refine G_iload_n hC 2 rfl rfl d_Ma_macroLength_53 ?_
              refine G_iconst (i := 2) hC d_Ma_macroLength_54 ?_
              refine G_iadd hC d_Ma_macroLength_55 ?_
              refine G_pV (rest := []) hC hR (c_By_at h_B_a (by omega)) cv_Ma_19 h_B_a.obj (by decide) (by omega) (by omega) rfl rfl (Nat.le_of_ble_eq_true rfl) d_Ma_macroLength_56 ?_
              have g_7 := h_B_a.at_rng (q + 2)
              refine G_pS (rest := []) hC hR (c_Ma_isMacroLetter (by omega)) cs_Ma_29 (by decide) (by omega) (by omega) rfl rfl (Nat.le_of_ble_eq_true rfl) d_Ma_macroLength_59 ?_
              refine G_if_ne hC 67 (by have := b2i_rng (decide (mlP (atS b.2 (q + 2)))); omega) (by decide) d_Ma_macroLength_62 (fun c_8 => ?_) (fun c_8 => ?_)
              · have c_8 := b2i_ne0.mp c_8
                have c_8 := of_decide_eq_true c_8
                refine G_iload_n hC 2 rfl rfl d_Ma_macroLength_67 ?_
                refine G_iconst (i := 3) hC d_Ma_macroLength_68 ?_
                refine G_iadd hC d_Ma_macroLength_69 ?_
                refine G_istore (lv' := [(4, vI (q + 3)), (3, vI (-1)), (0, .ref a), (1, vI q), (2, vI to)]) hC (by rw [hN]; decide) rfl d_Ma_macroLength_70 ?_
                refine G_aload_n hC 2 rfl rfl d_Ma_macroLength_72 ?_
                refine G_iload hC 0 rfl d_Ma_macroLength_73 ?_
                refine G_pV (rest := []) hC hR (c_By_at h_B_a (by omega)) cv_Ma_19 h_B_a.obj (by decide) (by omega) (by omega) rfl rfl (Nat.le_of_ble_eq_true rfl) d_Ma_macroLength_75 ?_
                have g_9 := h_B_a.at_rng (q + 3)
                refine G_pS (rest := []) hC hR (c_Ma_isPartNumber (by omega)) cs_Ma_33 (by decide) (by omega) (by omega) rfl rfl (Nat.le_of_ble_eq_true rfl) d_Ma_macroLength_78 ?_
                refine G_if_eq hC 87 (by have := b2i_rng (decide (pnP (atS b.2 (q + 3)))); omega) (by decide) d_Ma_macroLength_81 (fun c_10 => ?_) (fun c_10 => ?_)
                · have c_10 := b2i_eq0.mp c_10
                  have c_10 := of_decide_eq_false c_10
                  refine G_aload_n hC 2 rfl rfl d_Ma_macroLength_87 ?_
                  refine G_iload hC 0 rfl d_Ma_macroLength_88 ?_
                  refine G_pV (rest := []) hC hR (c_By_at h_B_a (by omega)) cv_Ma_19 h_B_a.obj (by decide) (by omega) (by omega) rfl rfl (Nat.le_of_ble_eq_true rfl) d_Ma_macroLength_90 ?_
                  have g_11 := h_B_a.at_rng (q + 3)
                  refine G_bipush (j := 114) hC (by decide +kernel) d_Ma_macroLength_93 ?_
                  refine G_icmp_ne hC 101 (by omega) (by decide) (by decide) d_Ma_macroLength_95 (fun c_12 => ?_) (fun c_12 => ?_)
                  · refine G_iload hC 0 rfl d_Ma_macroLength_101 ?_
                    refine G_iload_n hC 4 rfl rfl d_Ma_macroLength_103 ?_
                    refine G_icmp_ge hC 127 (by omega) (by omega) (by decide) d_Ma_macroLength_104 (fun c_13 => ?_) (fun c_13 => ?_)
                    · refine G_iconst (i := 0) hC d_Ma_macroLength_127 ?_
                      exact G_iretP hC hQ d_Ma_macroLength_128 (by (repeat' split at hr); all_goals omega)
                    · refine G_aload_n hC 2 rfl rfl d_Ma_macroLength_107 ?_
                      refine G_iload hC 0 rfl d_Ma_macroLength_108 ?_
                      refine G_pV (rest := []) hC hR (c_By_at h_B_a (by omega)) cv_Ma_19 h_B_a.obj (by decide) (by omega) (by omega) rfl rfl (Nat.le_of_ble_eq_true rfl) d_Ma_macroLength_110 ?_
                      have g_14 := h_B_a.at_rng (q + 3)
                      refine G_bipush (j := 125) hC (by decide +kernel) d_Ma_macroLength_113 ?_
                      refine G_icmp_ne hC 127 (by omega) (by decide) (by decide) d_Ma_macroLength_115 (fun c_15 => ?_) (fun c_15 => ?_)
                      · refine G_iconst (i := 0) hC d_Ma_macroLength_127 ?_
                        exact G_iretP hC hQ d_Ma_macroLength_128 (by (repeat' split at hr); all_goals omega)
                      · refine G_iload hC 0 rfl d_Ma_macroLength_118 ?_
                        refine G_iconst (i := 1) hC d_Ma_macroLength_120 ?_
                        refine G_iadd hC d_Ma_macroLength_121 ?_
                        refine G_iload_n hC 3 rfl rfl d_Ma_macroLength_122 ?_
                        refine G_isub hC d_Ma_macroLength_123 ?_
                        refine G_goto hC 128 (by decide) d_Ma_macroLength_124 ?_
                        exact G_iretP hC hQ d_Ma_macroLength_128 (by (repeat' split at hr); all_goals omega)
                  · refine G_iinc (lv' := [(4, vI ((q + 3) + 1)), (3, vI (-1)), (0, .ref a), (1, vI q), (2, vI to)]) hC 0 rfl (by rw [hN]; decide) rfl d_Ma_macroLength_98 ?_
                    refine G_iload hC 0 rfl d_Ma_macroLength_101 ?_
                    refine G_iload_n hC 4 rfl rfl d_Ma_macroLength_103 ?_
                    refine G_icmp_ge hC 127 (by omega) (by omega) (by decide) d_Ma_macroLength_104 (fun c_16 => ?_) (fun c_16 => ?_)
                    · refine G_iconst (i := 0) hC d_Ma_macroLength_127 ?_
                      exact G_iretP hC hQ d_Ma_macroLength_128 (by (repeat' split at hr); all_goals omega)
                    · refine G_aload_n hC 2 rfl rfl d_Ma_macroLength_107 ?_
                      refine G_iload hC 0 rfl d_Ma_macroLength_108 ?_
                      refine G_pV (rest := []) hC hR (c_By_at h_B_a (by omega)) cv_Ma_19 h_B_a.obj (by decide) (by omega) (by omega) rfl rfl (Nat.le_of_ble_eq_true rfl) d_Ma_macroLength_110 ?_
                      have g_17 := h_B_a.at_rng ((q + 3) + 1)
                      refine G_bipush (j := 125) hC (by decide +kernel) d_Ma_macroLength_113 ?_
                      refine G_icmp_ne hC 127 (by omega) (by decide) (by decide) d_Ma_macroLength_115 (fun c_18 => ?_) (fun c_18 => ?_)
                      · refine G_iconst (i := 0) hC d_Ma_macroLength_127 ?_
                        exact G_iretP hC hQ d_Ma_macroLength_128 (by (repeat' split at hr); all_goals omega)
                      · refine G_iload hC 0 rfl d_Ma_macroLength_118 ?_
                        refine G_iconst (i := 1) hC d_Ma_macroLength_120 ?_
                        refine G_iadd hC d_Ma_macroLength_121 ?_
                        refine G_iload_n hC 3 rfl rfl d_Ma_macroLength_122 ?_
                        refine G_isub hC d_Ma_macroLength_123 ?_
                        refine G_goto hC 128 (by decide) d_Ma_macroLength_124 ?_
                        exact G_iretP hC hQ d_Ma_macroLength_128 (by (repeat' split at hr); all_goals omega)
                · have c_10 := b2i_ne0.mp c_10
                  have c_10 := of_decide_eq_true c_10
                  refine G_iinc (lv' := [(4, vI ((q + 3) + 1)), (3, vI (-1)), (0, .ref a), (1, vI q), (2, vI to)]) hC 0 rfl (by rw [hN]; decide) rfl d_Ma_macroLength_84 ?_
                  refine G_aload_n hC 2 rfl rfl d_Ma_macroLength_87 ?_
                  refine G_iload hC 0 rfl d_Ma_macroLength_88 ?_
                  refine G_pV (rest := []) hC hR (c_By_at h_B_a (by omega)) cv_Ma_19 h_B_a.obj (by decide) (by omega) (by omega) rfl rfl (Nat.le_of_ble_eq_true rfl) d_Ma_macroLength_90 ?_
                  have g_19 := h_B_a.at_rng ((q + 3) + 1)
                  refine G_bipush (j := 114) hC (by decide +kernel) d_Ma_macroLength_93 ?_
                  refine G_icmp_ne hC 101 (by omega) (by decide) (by decide) d_Ma_macroLength_95 (fun c_20 => ?_) (fun c_20 => ?_)
                  · refine G_iload hC 0 rfl d_Ma_macroLength_101 ?_
                    refine G_iload_n hC 4 rfl rfl d_Ma_macroLength_103 ?_
                    refine G_icmp_ge hC 127 (by omega) (by omega) (by decide) d_Ma_macroLength_104 (fun c_21 => ?_) (fun c_21 => ?_)
                    · refine G_iconst (i := 0) hC d_Ma_macroLength_127 ?_
                      exact G_iretP hC hQ d_Ma_macroLength_128 (by (repeat' split at hr); all_goals omega)
                    · refine G_aload_n hC 2 rfl rfl d_Ma_macroLength_107 ?_
                      refine G_iload hC 0 rfl d_Ma_macroLength_108 ?_
                      refine G_pV (rest := []) hC hR (c_By_at h_B_a (by omega)) cv_Ma_19 h_B_a.obj (by decide) (by omega) (by omega) rfl rfl (Nat.le_of_ble_eq_true rfl) d_Ma_macroLength_110 ?_
                      have g_22 := h_B_a.at_rng ((q + 3) + 1)
                      refine G_bipush (j := 125) hC (by decide +kernel) d_Ma_macroLength_113 ?_
                      refine G_icmp_ne hC 127 (by omega) (by decide) (by decide) d_Ma_macroLength_115 (fun c_23 => ?_) (fun c_23 => ?_)
                      · refine G_iconst (i := 0) hC d_Ma_macroLength_127 ?_
                        exact G_iretP hC hQ d_Ma_macroLength_128 (by (repeat' split at hr); all_goals omega)
                      · refine G_iload hC 0 rfl d_Ma_macroLength_118 ?_
                        refine G_iconst (i := 1) hC d_Ma_macroLength_120 ?_
                        refine G_iadd hC d_Ma_macroLength_121 ?_
                        refine G_iload_n hC 3 rfl rfl d_Ma_macroLength_122 ?_
                        refine G_isub hC d_Ma_macroLength_123 ?_
                        refine G_goto hC 128 (by decide) d_Ma_macroLength_124 ?_
                        exact G_iretP hC hQ d_Ma_macroLength_128 (by (repeat' split at hr); all_goals omega)
                  · refine G_iinc (lv' := [(4, vI (((q + 3) + 1) + 1)), (3, vI (-1)), (0, .ref a), (1, vI q), (2, vI to)]) hC 0 rfl (by rw [hN]; decide) rfl d_Ma_macroLength_98 ?_
                    refine G_iload hC 0 rfl d_Ma_macroLength_101 ?_
                    refine G_iload_n hC 4 rfl rfl d_Ma_macroLength_103 ?_
                    refine G_icmp_ge hC 127 (by omega) (by omega) (by decide) d_Ma_macroLength_104 (fun c_24 => ?_) (fun c_24 => ?_)
                    · refine G_iconst (i := 0) hC d_Ma_macroLength_127 ?_
                      exact G_iretP hC hQ d_Ma_macroLength_128 (by (repeat' split at hr); all_goals omega)
                    · refine G_aload_n hC 2 rfl rfl d_Ma_macroLength_107 ?_
                      refine G_iload hC 0 rfl d_Ma_macroLength_108 ?_
                      refine G_pV (rest := []) hC hR (c_By_at h_B_a (by omega)) cv_Ma_19 h_B_a.obj (by decide) (by omega) (by omega) rfl rfl (Nat.le_of_ble_eq_true rfl) d_Ma_macroLength_110 ?_
                      have g_25 := h_B_a.at_rng (((q + 3) + 1) + 1)
                      refine G_bipush (j := 125) hC (by decide +kernel) d_Ma_macroLength_113 ?_
                      refine G_icmp_ne hC 127 (by omega) (by decide) (by decide) d_Ma_macroLength_115 (fun c_26 => ?_) (fun c_26 => ?_)
                      · refine G_iconst (i := 0) hC d_Ma_macroLength_127 ?_
                        exact G_iretP hC hQ d_Ma_macroLength_128 (by (repeat' split at hr); all_goals omega)
                      · refine G_iload hC 0 rfl d_Ma_macroLength_118 ?_
                        refine G_iconst (i := 1) hC d_Ma_macroLength_120 ?_
                        refine G_iadd hC d_Ma_macroLength_121 ?_
                        refine G_iload_n hC 3 rfl rfl d_Ma_macroLength_122 ?_
                        refine G_isub hC d_Ma_macroLength_123 ?_
                        refine G_goto hC 128 (by decide) d_Ma_macroLength_124 ?_
                        exact G_iretP hC hQ d_Ma_macroLength_128 (by (repeat' split at hr); all_goals omega)
              · have c_8 := b2i_eq0.mp c_8
                have c_8 := of_decide_eq_false c_8
                refine G_iconst (i := 0) hC d_Ma_macroLength_65 ?_
                exact G_iretP hC hQ d_Ma_macroLength_66 (by (repeat' split at hr); all_goals omega)
        · refine G_iconst (i := 2) hC d_Ma_macroLength_37 ?_
          exact G_iretP hC hQ d_Ma_macroLength_38 (by (repeat' split at hr); all_goals omega)
  · refine G_aload_n hC 0 rfl rfl d_Ma_macroLength_7 ?_
    refine G_iload_n hC 1 rfl rfl d_Ma_macroLength_8 ?_
    refine G_iconst (i := 1) hC d_Ma_macroLength_9 ?_
    refine G_iadd hC d_Ma_macroLength_10 ?_
    refine G_pV (rest := []) hC hR (c_By_at h_B_a (by omega)) cv_Ma_19 h_B_a.obj (by decide) (by omega) (by omega) rfl rfl (Nat.le_of_ble_eq_true rfl) d_Ma_macroLength_11 ?_
    have g_27 := h_B_a.at_rng (q + 1)
    refine G_goto hC 18 (by decide) d_Ma_macroLength_14 ?_
    refine G_istore_n (lv' := [(3, vI (atS b.2 (q + 1))), (0, .ref a), (1, vI q), (2, vI to)]) hC rfl (by rw [hN]; decide) rfl d_Ma_macroLength_18 ?_
    refine G_iload_n hC 0 rfl rfl d_Ma_macroLength_19 ?_
    refine G_bipush (j := 37) hC (by decide +kernel) d_Ma_macroLength_20 ?_
    refine G_icmp_eq hC 37 (by omega) (by decide) (by decide) d_Ma_macroLength_22 (fun c_28 => ?_) (fun c_28 => ?_)
    · refine G_iconst (i := 2) hC d_Ma_macroLength_37 ?_
      exact G_iretP hC hQ d_Ma_macroLength_38 (by (repeat' split at hr); all_goals omega)
    · refine G_iload_n hC 0 rfl rfl d_Ma_macroLength_25 ?_
      refine G_bipush (j := 95) hC (by decide +kernel) d_Ma_macroLength_26 ?_
      refine G_icmp_eq hC 37 (by omega) (by decide) (by decide) d_Ma_macroLength_28 (fun c_29 => ?_) (fun c_29 => ?_)
      · refine G_iconst (i := 2) hC d_Ma_macroLength_37 ?_
        exact G_iretP hC hQ d_Ma_macroLength_38 (by (repeat' split at hr); all_goals omega)
      · refine G_iload_n hC 0 rfl rfl d_Ma_macroLength_31 ?_
        refine G_bipush (j := 45) hC (by decide +kernel) d_Ma_macroLength_32 ?_
        refine G_icmp_ne hC 39 (by omega) (by decide) (by decide) d_Ma_macroLength_34 (fun c_30 => ?_) (fun c_30 => ?_)
        · refine G_iload_n hC 0 rfl rfl d_Ma_macroLength_39 ?_
          refine G_bipush (j := 123) hC (by decide +kernel) d_Ma_macroLength_40 ?_
          refine G_icmp_ne hC 65 (by omega) (by decide) (by decide) d_Ma_macroLength_42 (fun c_31 => ?_) (fun c_31 => ?_)
          · refine G_iconst (i := 0) hC d_Ma_macroLength_65 ?_
            exact G_iretP hC hQ d_Ma_macroLength_66 (by (repeat' split at hr); all_goals omega)
          · refine G_iload_n hC 2 rfl rfl d_Ma_macroLength_45 ?_
            refine G_iconst (i := 2) hC d_Ma_macroLength_46 ?_
            refine G_iadd hC d_Ma_macroLength_47 ?_
            refine G_iload_n hC 3 rfl rfl d_Ma_macroLength_48 ?_
            refine G_icmp_ge hC 65 (by omega) (by omega) (by decide) d_Ma_macroLength_49 (fun c_32 => ?_) (fun c_32 => ?_)
            · refine G_iconst (i := 0) hC d_Ma_macroLength_65 ?_
              exact G_iretP hC hQ d_Ma_macroLength_66 (by (repeat' split at hr); all_goals omega)
            · refine G_aload_n hC 1 rfl rfl d_Ma_macroLength_52 ?_
              refine G_iload_n hC 2 rfl rfl d_Ma_macroLength_53 ?_
              refine G_iconst (i := 2) hC d_Ma_macroLength_54 ?_
              refine G_iadd hC d_Ma_macroLength_55 ?_
              refine G_pV (rest := []) hC hR (c_By_at h_B_a (by omega)) cv_Ma_19 h_B_a.obj (by decide) (by omega) (by omega) rfl rfl (Nat.le_of_ble_eq_true rfl) d_Ma_macroLength_56 ?_
              have g_33 := h_B_a.at_rng (q + 2)
              refine G_pS (rest := []) hC hR (c_Ma_isMacroLetter (by omega)) cs_Ma_29 (by decide) (by omega) (by omega) rfl rfl (Nat.le_of_ble_eq_true rfl) d_Ma_macroLength_59 ?_
              refine G_if_ne hC 67 (by have := b2i_rng (decide (mlP (atS b.2 (q + 2)))); omega) (by decide) d_Ma_macroLength_62 (fun c_34 => ?_) (fun c_34 => ?_)
              · have c_34 := b2i_ne0.mp c_34
                have c_34 := of_decide_eq_true c_34
                refine G_iload_n hC 2 rfl rfl d_Ma_macroLength_67 ?_
                refine G_iconst (i := 3) hC d_Ma_macroLength_68 ?_
                refine G_iadd hC d_Ma_macroLength_69 ?_
                refine G_istore (lv' := [(4, vI (q + 3)), (3, vI (atS b.2 (q + 1))), (0, .ref a), (1, vI q), (2, vI to)]) hC (by rw [hN]; decide) rfl d_Ma_macroLength_70 ?_
                refine G_aload_n hC 2 rfl rfl d_Ma_macroLength_72 ?_
                refine G_iload hC 0 rfl d_Ma_macroLength_73 ?_
                refine G_pV (rest := []) hC hR (c_By_at h_B_a (by omega)) cv_Ma_19 h_B_a.obj (by decide) (by omega) (by omega) rfl rfl (Nat.le_of_ble_eq_true rfl) d_Ma_macroLength_75 ?_
                have g_35 := h_B_a.at_rng (q + 3)
                refine G_pS (rest := []) hC hR (c_Ma_isPartNumber (by omega)) cs_Ma_33 (by decide) (by omega) (by omega) rfl rfl (Nat.le_of_ble_eq_true rfl) d_Ma_macroLength_78 ?_
                refine G_if_eq hC 87 (by have := b2i_rng (decide (pnP (atS b.2 (q + 3)))); omega) (by decide) d_Ma_macroLength_81 (fun c_36 => ?_) (fun c_36 => ?_)
                · have c_36 := b2i_eq0.mp c_36
                  have c_36 := of_decide_eq_false c_36
                  refine G_aload_n hC 2 rfl rfl d_Ma_macroLength_87 ?_
                  refine G_iload hC 0 rfl d_Ma_macroLength_88 ?_
                  refine G_pV (rest := []) hC hR (c_By_at h_B_a (by omega)) cv_Ma_19 h_B_a.obj (by decide) (by omega) (by omega) rfl rfl (Nat.le_of_ble_eq_true rfl) d_Ma_macroLength_90 ?_
                  have g_37 := h_B_a.at_rng (q + 3)
                  refine G_bipush (j := 114) hC (by decide +kernel) d_Ma_macroLength_93 ?_
                  refine G_icmp_ne hC 101 (by omega) (by decide) (by decide) d_Ma_macroLength_95 (fun c_38 => ?_) (fun c_38 => ?_)
                  · refine G_iload hC 0 rfl d_Ma_macroLength_101 ?_
                    refine G_iload_n hC 4 rfl rfl d_Ma_macroLength_103 ?_
                    refine G_icmp_ge hC 127 (by omega) (by omega) (by decide) d_Ma_macroLength_104 (fun c_39 => ?_) (fun c_39 => ?_)
                    · refine G_iconst (i := 0) hC d_Ma_macroLength_127 ?_
                      exact G_iretP hC hQ d_Ma_macroLength_128 (by (repeat' split at hr); all_goals omega)
                    · refine G_aload_n hC 2 rfl rfl d_Ma_macroLength_107 ?_
                      refine G_iload hC 0 rfl d_Ma_macroLength_108 ?_
                      refine G_pV (rest := []) hC hR (c_By_at h_B_a (by omega)) cv_Ma_19 h_B_a.obj (by decide) (by omega) (by omega) rfl rfl (Nat.le_of_ble_eq_true rfl) d_Ma_macroLength_110 ?_
                      have g_40 := h_B_a.at_rng (q + 3)
                      refine G_bipush (j := 125) hC (by decide +kernel) d_Ma_macroLength_113 ?_
                      refine G_icmp_ne hC 127 (by omega) (by decide) (by decide) d_Ma_macroLength_115 (fun c_41 => ?_) (fun c_41 => ?_)
                      · refine G_iconst (i := 0) hC d_Ma_macroLength_127 ?_
                        exact G_iretP hC hQ d_Ma_macroLength_128 (by (repeat' split at hr); all_goals omega)
                      · refine G_iload hC 0 rfl d_Ma_macroLength_118 ?_
                        refine G_iconst (i := 1) hC d_Ma_macroLength_120 ?_
                        refine G_iadd hC d_Ma_macroLength_121 ?_
                        refine G_iload_n hC 3 rfl rfl d_Ma_macroLength_122 ?_
                        refine G_isub hC d_Ma_macroLength_123 ?_
                        refine G_goto hC 128 (by decide) d_Ma_macroLength_124 ?_
                        exact G_iretP hC hQ d_Ma_macroLength_128 (by (repeat' split at hr); all_goals omega)
                  · refine G_iinc (lv' := [(4, vI ((q + 3) + 1)), (3, vI (atS b.2 (q + 1))), (0, .ref a), (1, vI q), (2, vI to)]) hC 0 rfl (by rw [hN]; decide) rfl d_Ma_macroLength_98 ?_
                    refine G_iload hC 0 rfl d_Ma_macroLength_101 ?_
                    refine G_iload_n hC 4 rfl rfl d_Ma_macroLength_103 ?_
                    refine G_icmp_ge hC 127 (by omega) (by omega) (by decide) d_Ma_macroLength_104 (fun c_42 => ?_) (fun c_42 => ?_)
                    · refine G_iconst (i := 0) hC d_Ma_macroLength_127 ?_
                      exact G_iretP hC hQ d_Ma_macroLength_128 (by (repeat' split at hr); all_goals omega)
                    · refine G_aload_n hC 2 rfl rfl d_Ma_macroLength_107 ?_
                      refine G_iload hC 0 rfl d_Ma_macroLength_108 ?_
                      refine G_pV (rest := []) hC hR (c_By_at h_B_a (by omega)) cv_Ma_19 h_B_a.obj (by decide) (by omega) (by omega) rfl rfl (Nat.le_of_ble_eq_true rfl) d_Ma_macroLength_110 ?_
                      have g_43 := h_B_a.at_rng ((q + 3) + 1)
                      refine G_bipush (j := 125) hC (by decide +kernel) d_Ma_macroLength_113 ?_
                      refine G_icmp_ne hC 127 (by omega) (by decide) (by decide) d_Ma_macroLength_115 (fun c_44 => ?_) (fun c_44 => ?_)
                      · refine G_iconst (i := 0) hC d_Ma_macroLength_127 ?_
                        exact G_iretP hC hQ d_Ma_macroLength_128 (by (repeat' split at hr); all_goals omega)
                      · refine G_iload hC 0 rfl d_Ma_macroLength_118 ?_
                        refine G_iconst (i := 1) hC d_Ma_macroLength_120 ?_
                        refine G_iadd hC d_Ma_macroLength_121 ?_
                        refine G_iload_n hC 3 rfl rfl d_Ma_macroLength_122 ?_
                        refine G_isub hC d_Ma_macroLength_123 ?_
                        refine G_goto hC 128 (by decide) d_Ma_macroLength_124 ?_
                        exact G_iretP hC hQ d_Ma_macroLength_128 (by (repeat' split at hr); all_goals omega)
                · have c_36 := b2i_ne0.mp c_36
                  have c_36 := of_decide_eq_true c_36
                  refine G_iinc (lv' := [(4, vI ((q + 3) + 1)), (3, vI (atS b.2 (q + 1))), (0, .ref a), (1, vI q), (2, vI to)]) hC 0 rfl (by rw [hN]; decide) rfl d_Ma_macroLength_84 ?_
                  refine G_aload_n hC 2 rfl rfl d_Ma_macroLength_87 ?_
                  refine G_iload hC 0 rfl d_Ma_macroLength_88 ?_
                  refine G_pV (rest := []) hC hR (c_By_at h_B_a (by omega)) cv_Ma_19 h_B_a.obj (by decide) (by omega) (by omega) rfl rfl (Nat.le_of_ble_eq_true rfl) d_Ma_macroLength_90 ?_
                  have g_45 := h_B_a.at_rng ((q + 3) + 1)
                  refine G_bipush (j := 114) hC (by decide +kernel) d_Ma_macroLength_93 ?_
                  refine G_icmp_ne hC 101 (by omega) (by decide) (by decide) d_Ma_macroLength_95 (fun c_46 => ?_) (fun c_46 => ?_)
                  · refine G_iload hC 0 rfl d_Ma_macroLength_101 ?_
                    refine G_iload_n hC 4 rfl rfl d_Ma_macroLength_103 ?_
                    refine G_icmp_ge hC 127 (by omega) (by omega) (by decide) d_Ma_macroLength_104 (fun c_47 => ?_) (fun c_47 => ?_)
                    · refine G_iconst (i := 0) hC d_Ma_macroLength_127 ?_
                      exact G_iretP hC hQ d_Ma_macroLength_128 (by (repeat' split at hr); all_goals omega)
                    · refine G_aload_n hC 2 rfl rfl d_Ma_macroLength_107 ?_
                      refine G_iload hC 0 rfl d_Ma_macroLength_108 ?_
                      refine G_pV (rest := []) hC hR (c_By_at h_B_a (by omega)) cv_Ma_19 h_B_a.obj (by decide) (by omega) (by omega) rfl rfl (Nat.le_of_ble_eq_true rfl) d_Ma_macroLength_110 ?_
                      have g_48 := h_B_a.at_rng ((q + 3) + 1)
                      refine G_bipush (j := 125) hC (by decide +kernel) d_Ma_macroLength_113 ?_
                      refine G_icmp_ne hC 127 (by omega) (by decide) (by decide) d_Ma_macroLength_115 (fun c_49 => ?_) (fun c_49 => ?_)
                      · refine G_iconst (i := 0) hC d_Ma_macroLength_127 ?_
                        exact G_iretP hC hQ d_Ma_macroLength_128 (by (repeat' split at hr); all_goals omega)
                      · refine G_iload hC 0 rfl d_Ma_macroLength_118 ?_
                        refine G_iconst (i := 1) hC d_Ma_macroLength_120 ?_
                        refine G_iadd hC d_Ma_macroLength_121 ?_
                        refine G_iload_n hC 3 rfl rfl d_Ma_macroLength_122 ?_
                        refine G_isub hC d_Ma_macroLength_123 ?_
                        refine G_goto hC 128 (by decide) d_Ma_macroLength_124 ?_
                        exact G_iretP hC hQ d_Ma_macroLength_128 (by (repeat' split at hr); all_goals omega)
                  · refine G_iinc (lv' := [(4, vI (((q + 3) + 1) + 1)), (3, vI (atS b.2 (q + 1))), (0, .ref a), (1, vI q), (2, vI to)]) hC 0 rfl (by rw [hN]; decide) rfl d_Ma_macroLength_98 ?_
                    refine G_iload hC 0 rfl d_Ma_macroLength_101 ?_
                    refine G_iload_n hC 4 rfl rfl d_Ma_macroLength_103 ?_
                    refine G_icmp_ge hC 127 (by omega) (by omega) (by decide) d_Ma_macroLength_104 (fun c_50 => ?_) (fun c_50 => ?_)
                    · refine G_iconst (i := 0) hC d_Ma_macroLength_127 ?_
                      exact G_iretP hC hQ d_Ma_macroLength_128 (by (repeat' split at hr); all_goals omega)
                    · refine G_aload_n hC 2 rfl rfl d_Ma_macroLength_107 ?_
                      refine G_iload hC 0 rfl d_Ma_macroLength_108 ?_
                      refine G_pV (rest := []) hC hR (c_By_at h_B_a (by omega)) cv_Ma_19 h_B_a.obj (by decide) (by omega) (by omega) rfl rfl (Nat.le_of_ble_eq_true rfl) d_Ma_macroLength_110 ?_
                      have g_51 := h_B_a.at_rng (((q + 3) + 1) + 1)
                      refine G_bipush (j := 125) hC (by decide +kernel) d_Ma_macroLength_113 ?_
                      refine G_icmp_ne hC 127 (by omega) (by decide) (by decide) d_Ma_macroLength_115 (fun c_52 => ?_) (fun c_52 => ?_)
                      · refine G_iconst (i := 0) hC d_Ma_macroLength_127 ?_
                        exact G_iretP hC hQ d_Ma_macroLength_128 (by (repeat' split at hr); all_goals omega)
                      · refine G_iload hC 0 rfl d_Ma_macroLength_118 ?_
                        refine G_iconst (i := 1) hC d_Ma_macroLength_120 ?_
                        refine G_iadd hC d_Ma_macroLength_121 ?_
                        refine G_iload_n hC 3 rfl rfl d_Ma_macroLength_122 ?_
                        refine G_isub hC d_Ma_macroLength_123 ?_
                        refine G_goto hC 128 (by decide) d_Ma_macroLength_124 ?_
                        exact G_iretP hC hQ d_Ma_macroLength_128 (by (repeat' split at hr); all_goals omega)
              · have c_34 := b2i_eq0.mp c_34
                have c_34 := of_decide_eq_false c_34
                refine G_iconst (i := 0) hC d_Ma_macroLength_65 ?_
                exact G_iretP hC hQ d_Ma_macroLength_66 (by (repeat' split at hr); all_goals omega)
        · refine G_iconst (i := 2) hC d_Ma_macroLength_37 ?_
          exact G_iretP hC hQ d_Ma_macroLength_38 (by (repeat' split at hr); all_goals omega)

set_option maxHeartbeats 4000000 in
set_option maxRecDepth 100000 in
theorem c_Ma_isTarget {l : Launch} {D : Dg} {b0 : Nat} {M : Mp} {a : Nat} {fr : Int} {to : Int} {t : Nat} {lim : Int} {b : Bv} {B : Bool} (h_B_a : IsB D M a t lim b) (hfr : -100000 ≤ fr ∧ fr ≤ 100000) (hto : -100000 ≤ to ∧ to ≤ 100000) (hr : targS b.2 fr to = B) : OkP l D b0 3 y_Ma_isTarget b_Ma_isTarget 6 (some .boolean) M [.ref a, vI fr, vI to] (vI (b2i B)) := by
  refine Ok_of rfl (Nat.le_of_ble_eq_true rfl) (fun E hC hQ hl hD hB hN hR => ?_)
  subst hl hD hB
  have hB9 := h_B_a.len
  unfold targS at hr
  show G E M 0 0 [(0, .ref a), (1, vI fr), (2, vI to)] [] 0
  refine G_iload_n hC 1 rfl rfl d_Ma_isTarget_0 ?_
  refine G_istore_n (lv' := [(3, vI fr), (0, .ref a), (1, vI fr), (2, vI to)]) hC rfl (by rw [hN]; decide) rfl d_Ma_isTarget_1 ?_
  have L2 : ∀ (N : Nat) (k : Int), (to - k).toNat < N → (fr ≤ k ∧ (k ≤ to ∨ k = fr)) → ((targL b.2 to k && decide (fr < to)) = B) → G E M 0 0 [(0, .ref a), (1, vI fr), (2, vI to), (3, vI k)] [] 2 := by
    intro N
    induction N with
    | zero => intro k hN2 hk hf; exact absurd hN2 (Nat.not_lt_zero _)
    | succ N ih2 =>
      intro k hN2 hk hf
      refine G_iload_n hC 3 rfl rfl d_Ma_isTarget_2 ?_
      refine G_iload_n hC 2 rfl rfl d_Ma_isTarget_3 ?_
      refine G_icmp_ge hC 65 (by omega) (by omega) (by decide) d_Ma_isTarget_4 (fun c_1 => ?_) (fun c_1 => ?_)
      · refine G_iload_n hC 2 rfl rfl d_Ma_isTarget_65 ?_
        refine G_iload_n hC 1 rfl rfl d_Ma_isTarget_66 ?_
        refine G_icmp_le hC 74 (by omega) (by omega) (by decide) d_Ma_isTarget_67 (fun c_2 => ?_) (fun c_2 => ?_)
        · refine G_iconst (i := 0) hC d_Ma_isTarget_74 ?_
          exact G_zretP hC hQ d_Ma_isTarget_75 (b2i_f (by rw [targL] at hf; (repeat' split at hf); all_goals first | (exfalso; omega) | (rw [← hf]; simp; try omega)))
        · refine G_iconst (i := 1) hC d_Ma_isTarget_70 ?_
          refine G_goto hC 75 (by decide) d_Ma_isTarget_71 ?_
          exact G_zretP hC hQ d_Ma_isTarget_75 (b2i_t (by rw [targL] at hf; (repeat' split at hf); all_goals first | (exfalso; omega) | (rw [← hf]; simp; omega)))
      · refine G_aload_n hC 0 rfl rfl d_Ma_isTarget_7 ?_
        refine G_iload_n hC 3 rfl rfl d_Ma_isTarget_8 ?_
        refine G_pV (rest := []) hC hR (c_By_at h_B_a (by omega)) cv_Ma_19 h_B_a.obj (by decide) (by omega) (by omega) rfl rfl (Nat.le_of_ble_eq_true rfl) d_Ma_isTarget_9 ?_
        have g_3 := h_B_a.at_rng k
        refine G_istore (lv' := [(4, vI (atS b.2 k)), (0, .ref a), (1, vI fr), (2, vI to), (3, vI k)]) hC (by rw [hN]; decide) rfl d_Ma_isTarget_12 ?_
        refine G_iload hC 0 rfl d_Ma_isTarget_14 ?_
        refine G_bipush (j := 33) hC (by decide +kernel) d_Ma_isTarget_16 ?_
        refine G_icmp_lt hC 28 (by omega) (by decide) (by decide) d_Ma_isTarget_18 (fun c_4 => ?_) (fun c_4 => ?_)
        · refine G_iconst (i := 0) hC d_Ma_isTarget_28 ?_
          exact G_zretP hC hQ d_Ma_isTarget_29 (b2i_f (by rw [targL] at hf; (repeat' split at hf); all_goals first | (exfalso; omega) | (rw [← hf]; simp; try omega)))
        · refine G_iload hC 0 rfl d_Ma_isTarget_21 ?_
          refine G_bipush (j := 126) hC (by decide +kernel) d_Ma_isTarget_23 ?_
          refine G_icmp_le hC 30 (by omega) (by decide) (by decide) d_Ma_isTarget_25 (fun c_5 => ?_) (fun c_5 => ?_)
          · refine G_iload hC 0 rfl d_Ma_isTarget_30 ?_
            refine G_bipush (j := 37) hC (by decide +kernel) d_Ma_isTarget_32 ?_
            refine G_icmp_ne hC 59 (by omega) (by decide) (by decide) d_Ma_isTarget_34 (fun c_6 => ?_) (fun c_6 => ?_)
            · refine G_iinc (lv' := [(3, vI (k + 1)), (4, vI (atS b.2 k)), (0, .ref a), (1, vI fr), (2, vI to)]) hC 4 rfl (by rw [hN]; decide) rfl d_Ma_isTarget_59 ?_
              refine G_goto hC 2 (by decide) d_Ma_isTarget_62 ?_
              refine G_lv [2, 3, 4, 0] rfl ?_
              exact ih2 (k + 1) (by omega) (by omega) (by rw [targL] at hf; (repeat' split at hf); all_goals first | exact hf | (exfalso; omega) | omega)
            · refine G_aload_n hC 1 rfl rfl d_Ma_isTarget_37 ?_
              refine G_iload_n hC 4 rfl rfl d_Ma_isTarget_38 ?_
              refine G_iload_n hC 3 rfl rfl d_Ma_isTarget_39 ?_
              refine G_pS (rest := []) hC hR (c_Ma_macroLength h_B_a (by omega) (by omega) rfl) cs_Ma_25 (by decide) (by omega) (by omega) rfl rfl (Nat.le_of_ble_eq_true rfl) d_Ma_isTarget_40 ?_
              have g_7 := mlenS_rng b.2 k to
              refine G_istore (lv' := [(5, vI (mlenS b.2 k to)), (4, vI (atS b.2 k)), (0, .ref a), (1, vI fr), (2, vI to), (3, vI k)]) hC (by rw [hN]; decide) rfl d_Ma_isTarget_43 ?_
              refine G_iload hC 0 rfl d_Ma_isTarget_45 ?_
              refine G_if_ne hC 52 (by omega) (by decide) d_Ma_isTarget_47 (fun c_8 => ?_) (fun c_8 => ?_)
              · refine G_iload_n hC 5 rfl rfl d_Ma_isTarget_52 ?_
                refine G_iload hC 0 rfl d_Ma_isTarget_53 ?_
                refine G_iconst (i := 1) hC d_Ma_isTarget_55 ?_
                refine G_isub hC d_Ma_isTarget_56 ?_
                refine G_iadd hC d_Ma_isTarget_57 ?_
                refine G_istore_n (lv' := [(3, vI (k + ((mlenS b.2 k to) - 1))), (5, vI (mlenS b.2 k to)), (4, vI (atS b.2 k)), (0, .ref a), (1, vI fr), (2, vI to)]) hC rfl (by rw [hN]; decide) rfl d_Ma_isTarget_58 ?_
                refine G_iinc (lv' := [(3, vI ((k + ((mlenS b.2 k to) - 1)) + 1)), (5, vI (mlenS b.2 k to)), (4, vI (atS b.2 k)), (0, .ref a), (1, vI fr), (2, vI to)]) hC 0 rfl (by rw [hN]; decide) rfl d_Ma_isTarget_59 ?_
                refine G_goto hC 2 (by decide) d_Ma_isTarget_62 ?_
                refine G_lv [3, 4, 5, 0] rfl ?_
                exact ih2 ((k + ((mlenS b.2 k to) - 1)) + 1) (by omega) (by omega) (by rw [targL] at hf; (repeat' split at hf); all_goals first | exact hf | (exfalso; omega) | omega)
              · refine G_iconst (i := 0) hC d_Ma_isTarget_50 ?_
                exact G_zretP hC hQ d_Ma_isTarget_51 (b2i_f (by rw [targL] at hf; (repeat' split at hf); all_goals first | (exfalso; omega) | (rw [← hf]; simp; try omega)))
          · refine G_iconst (i := 0) hC d_Ma_isTarget_28 ?_
            exact G_zretP hC hQ d_Ma_isTarget_29 (b2i_f (by rw [targL] at hf; (repeat' split at hf); all_goals first | (exfalso; omega) | (rw [← hf]; simp; try omega)))
  refine G_lv [1, 2, 3, 0] rfl ?_
  exact L2 _ fr (Nat.lt_succ_self _) (by omega) hr
