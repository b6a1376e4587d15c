set_option maxHeartbeats 4000000 in
set_option maxRecDepth 100000 in
theorem c_Ma_writeSign {l : Launch} {D : Dg} {b0 : Nat} {M : Mp} {c : Int} {o : Nat} {t : Nat} {lim : Int} {b : Bv} (h_B_o : IsB D M o t lim b) (hc : -2147483648 ≤ c ∧ c ≤ 2147483647) : Ok l D b0 4 y_Ma_writeSign b_Ma_writeSign 2 none M [vI c, .ref o] (psi lim (wsB lim b c) - psi lim b) (psi lim (wsB lim b c) - psi lim b) (fun r M' => r = none ∧ IsB D M' o t lim (wsB lim b c) ∧ Fr [t, t + 1] M M') := by
  rcases (show c = 37 ∨ c = 95 ∨ (¬ c = 37 ∧ ¬ c = 95) by omega) with hv1 | hv1 | hv1
  · refine Ok_of rfl (Nat.le_of_ble_eq_true rfl) (fun E hC hQ hl hD hB hN hR => ?_)
    subst hl hD hB
    have hB9 := h_B_o.len
    have hE : wsB lim b c = addB lim b 37 := by unfold wsB; rw [if_pos (by omega)]
    have hp1 := psi_addB (lim := lim) (b := b) (37) ⟨by omega, by omega⟩
    rw [hE] at hQ hR
    show G E M 0 0 [(0, vI c), (1, .ref o)] [] 0
    refine G_iload_n hC 0 rfl rfl d_Ma_writeSign_0 ?_
    refine G_bipush (j := 37) hC (by decide +kernel) d_Ma_writeSign_1 ?_
    refine G_icmp_ne hC 15 (by omega) (by decide) (by decide) d_Ma_writeSign_3 (fun c_1 => ?_) (fun c_1 => ?_)
    · exact (show False from by omega).elim
    · refine G_aload_n hC 1 rfl rfl d_Ma_writeSign_6 ?_
      refine G_bipush (j := 37) hC (by decide +kernel) d_Ma_writeSign_7 ?_
      refine G_xV (rest := []) hC hR (c_By_add h_B_o (by omega)) cv_Ma_36 h_B_o.obj (by decide) (by omega) (by omega) rfl rfl (Nat.le_of_ble_eq_true rfl) d_Ma_writeSign_9 (fun r_4 M_2 p_3 => ?_)
      obtain ⟨rfl, h_5, fr_6⟩ := p_3
      show G E M_2 (0 + (psi lim (addB lim b 37) - psi lim b)) (0 + (psi lim (addB lim b 37) - psi lim b)) [(0, vI c), (1, .ref o)] [] 12
      have g_7 := psi_addB (lim := lim) (b := b) 37 ⟨h_B_o.len.1, h_B_o.len.2.1⟩
      refine G_goto hC 48 (by decide) d_Ma_writeSign_12 ?_
      exact G_return hC hQ (by omega) (by omega) d_Ma_writeSign_48 ⟨rfl, h_5, (fr_6.up (T := [t, t + 1]) (by simp))⟩
  · refine Ok_of rfl (Nat.le_of_ble_eq_true rfl) (fun E hC hQ hl hD hB hN hR => ?_)
    subst hl hD hB
    have hB9 := h_B_o.len
    have hE : wsB lim b c = addB lim b 32 := by unfold wsB; rw [if_neg (by omega), if_pos (by omega)]
    have hp1 := psi_addB (lim := lim) (b := b) (32) ⟨by omega, by omega⟩
    rw [hE] at hQ hR
    show G E M 0 0 [(0, vI c), (1, .ref o)] [] 0
    refine G_iload_n hC 0 rfl rfl d_Ma_writeSign_0 ?_
    refine G_bipush (j := 37) hC (by decide +kernel) d_Ma_writeSign_1 ?_
    refine G_icmp_ne hC 15 (by omega) (by decide) (by decide) d_Ma_writeSign_3 (fun c_8 => ?_) (fun c_8 => ?_)
    · refine G_iload_n hC 0 rfl rfl d_Ma_writeSign_15 ?_
      refine G_bipush (j := 95) hC (by decide +kernel) d_Ma_writeSign_16 ?_
      refine G_icmp_ne hC 30 (by omega) (by decide) (by decide) d_Ma_writeSign_18 (fun c_9 => ?_) (fun c_9 => ?_)
      · exact (show False from by omega).elim
      · refine G_aload_n hC 1 rfl rfl d_Ma_writeSign_21 ?_
        refine G_bipush (j := 32) hC (by decide +kernel) d_Ma_writeSign_22 ?_
        refine G_xV (rest := []) hC hR (c_By_add h_B_o (by omega)) cv_Ma_36 h_B_o.obj (by decide) (by omega) (by omega) rfl rfl (Nat.le_of_ble_eq_true rfl) d_Ma_writeSign_24 (fun r_12 M_10 p_11 => ?_)
        obtain ⟨rfl, h_13, fr_14⟩ := p_11
        show G E M_10 (0 + (psi lim (addB lim b 32) - psi lim b)) (0 + (psi lim (addB lim b 32) - psi lim b)) [(0, vI c), (1, .ref o)] [] 27
        have g_15 := psi_addB (lim := lim) (b := b) 32 ⟨h_B_o.len.1, h_B_o.len.2.1⟩
        refine G_goto hC 48 (by decide) d_Ma_writeSign_27 ?_
        exact G_return hC hQ (by omega) (by omega) d_Ma_writeSign_48 ⟨rfl, h_13, (fr_14.up (T := [t, t + 1]) (by simp))⟩
    · exact (show False from by omega).elim
  · refine Ok_of rfl (Nat.le_of_ble_eq_true rfl) (fun E hC hQ hl hD hB hN hR => ?_)
    subst hl hD hB
    have hB9 := h_B_o.len
    have hE : wsB lim b c = addB lim (addB lim (addB lim b 37) 50) 48 := by unfold wsB; rw [if_neg (by omega), if_neg (by omega)]
    have hp1 := psi_addB (lim := lim) (b := b) (37) ⟨by omega, by omega⟩
    have hp2 := psi_addB (50) hp1.2
    have hp3 := psi_addB (48) hp2.2
    rw [hE] at hQ hR
    show G E M 0 0 [(0, vI c), (1, .ref o)] [] 0
    refine G_iload_n hC 0 rfl rfl d_Ma_writeSign_0 ?_
    refine G_bipush (j := 37) hC (by decide +kernel) d_Ma_writeSign_1 ?_
    refine G_icmp_ne hC 15 (by omega) (by decide) (by decide) d_Ma_writeSign_3 (fun c_16 => ?_) (fun c_16 => ?_)
    · refine G_iload_n hC 0 rfl rfl d_Ma_writeSign_15 ?_
      refine G_bipush (j := 95) hC (by decide +kernel) d_Ma_writeSign_16 ?_
      refine G_icmp_ne hC 30 (by omega) (by decide) (by decide) d_Ma_writeSign_18 (fun c_17 => ?_) (fun c_17 => ?_)
      · refine G_aload_n hC 1 rfl rfl d_Ma_writeSign_30 ?_
        refine G_bipush (j := 37) hC (by decide +kernel) d_Ma_writeSign_31 ?_
        refine G_xV (rest := []) hC hR (c_By_add h_B_o (by omega)) cv_Ma_36 h_B_o.obj (by decide) (by omega) (by omega) rfl rfl (Nat.le_of_ble_eq_true rfl) d_Ma_writeSign_33 (fun r_20 M_18 p_19 => ?_)
        obtain ⟨rfl, h_21, fr_22⟩ := p_19
        show G E M_18 (0 + (psi lim (addB lim b 37) - psi lim b)) (0 + (psi lim (addB lim b 37) - psi lim b)) [(0, vI c), (1, .ref o)] [] 36
        have g_23 := psi_addB (lim := lim) (b := b) 37 ⟨h_B_o.len.1, h_B_o.len.2.1⟩
        refine G_aload_n hC 1 rfl rfl d_Ma_writeSign_36 ?_
        refine G_bipush (j := 50) hC (by decide +kernel) d_Ma_writeSign_37 ?_
        refine G_xV (rest := []) hC hR (c_By_add h_21 (by omega)) cv_Ma_36 h_21.obj (by decide) (by omega) (by omega) rfl rfl (Nat.le_of_ble_eq_true rfl) d_Ma_writeSign_39 (fun r_26 M_24 p_25 => ?_)
        obtain ⟨rfl, h_27, fr_28⟩ := p_25
        show G E M_24 (0 + (psi lim (addB lim b 37) - psi lim b) + (psi lim (addB lim (addB lim b 37) 50) - psi lim (addB lim b 37))) (0 + (psi lim (addB lim b 37) - psi lim b) + (psi lim (addB lim (addB lim b 37) 50) - psi lim (addB lim b 37))) [(0, vI c), (1, .ref o)] [] 42
        have g_29 := psi_addB (lim := lim) (b := (addB lim b 37)) 50 ⟨h_21.len.1, h_21.len.2.1⟩
        refine G_aload_n hC 1 rfl rfl d_Ma_writeSign_42 ?_
        refine G_bipush (j := 48) hC (by decide +kernel) d_Ma_writeSign_43 ?_
        refine G_xV (rest := []) hC hR (c_By_add h_27 (by omega)) cv_Ma_36 h_27.obj (by decide) (by omega) (by omega) rfl rfl (Nat.le_of_ble_eq_true rfl) d_Ma_writeSign_45 (fun r_32 M_30 p_31 => ?_)
        obtain ⟨rfl, h_33, fr_34⟩ := p_31
        show G E M_30 (0 + (psi lim (addB lim b 37) - psi lim b) + (psi lim (addB lim (addB lim b 37) 50) - psi lim (addB lim b 37)) + (psi lim (addB lim (addB lim (addB lim b 37) 50) 48) - psi lim (addB lim (addB lim b 37) 50))) (0 + (psi lim (addB lim b 37) - psi lim b) + (psi lim (addB lim (addB lim b 37) 50) - psi lim (addB lim b 37)) + (psi lim (addB lim (addB lim (addB lim b 37) 50) 48) - psi lim (addB lim (addB lim b 37) 50))) [(0, vI c), (1, .ref o)] [] 48
        have g_35 := psi_addB (lim := lim) (b := (addB lim (addB lim b 37) 50)) 48 ⟨h_27.len.1, h_27.len.2.1⟩
        exact G_return hC hQ (by omega) (by omega) d_Ma_writeSign_48 ⟨rfl, h_33, (((fr_22.up (T := [t, t + 1]) (by simp)).tr' (T := [t, t + 1]) fr_28 (fun _ z => z) (by simp)).tr' (T := [t, t + 1]) fr_34 (fun _ z => z) (by simp))⟩
      · exact (show False from by omega).elim
    · exact (show False from by omega).elim

set_option maxHeartbeats 4000000 in
set_option maxRecDepth 100000 in
theorem c_Ma_writeParts {l : Launch} {D : Dg} {b0 : Nat} {M : Mp} {a : Nat} {p : Nat} {most : Int} {tu : Bool} {o : Nat} {se : Nat} {t2 : Nat} {lim2 : Int} {b2 : Bv} {t : Nat} {lim : Int} {b : Bv} {W : Bv} (h_Ma_a : IsMa D M a se) (h_B_p : IsB D M p t2 lim2 b2) (h_B_o : IsB D M o t lim b) (hlen : b2.2.length ≤ 91) (hmost : 0 ≤ most ∧ most ≤ 1000) (htt : t2 ≠ t ∧ t2 ≠ t + 1 ∧ t2 + 1 ≠ t ∧ t2 + 1 ≠ t + 1) (ht18 : (t + 1 < 17 ∨ 18 < t) ∧ (t2 + 1 < 17 ∨ 18 < t2)) (hr : wpB lim b b2.2 most tu = W) : Ok l D b0 5 y_Ma_writeParts b_Ma_writeParts 9 none M [.ref a, .ref p, vI most, vI (b2i tu), .ref o] (psi lim W - psi lim b) (psi lim W - psi lim b) (fun r M' => r = none ∧ IsB D M' o t lim W ∧ IsMa D M' a se ∧ Fr [t, t + 1, 18] M M') := by
  refine Ok_of rfl (Nat.le_of_ble_eq_true rfl) (fun E hC hQ hl hD hB hN hR => ?_)
  subst hl hD hB
  have hB9 := h_B_o.len
  have hS9 := h_B_p.len
  have hst9 := stL_top b2.2
  obtain ⟨r0, g0, hm1, hm2⟩ := id h_Ma_a
  have hW0 := wpB_gr (lim := lim) (b := b) b2.2 most tu ⟨by omega, by omega⟩
  rw [hr] at hW0
  unfold wpB at hr
  show G E M 0 0 [(0, .ref a), (1, .ref p), (2, vI most), (3, vI (b2i tu)), (4, .ref o)] [] 0
  refine G_iconst (i := 0) hC d_Ma_writeParts_0 ?_
  refine G_istore (lv' := [(5, vI 0), (0, .ref a), (1, .ref p), (2, vI most), (3, vI (b2i tu)), (4, .ref o)]) hC (by rw [hN]; decide) rfl d_Ma_writeParts_1 ?_
  refine G_aload_n hC 1 rfl rfl d_Ma_writeParts_3 ?_
  refine G_get hC fl_Ma_15 hm1 rfl d_Ma_writeParts_4 ?_
  refine G_iconst (i := 0) hC d_Ma_writeParts_7 ?_
  refine G_iconst (i := 0) hC d_Ma_writeParts_8 ?_
  refine G_iastX hC hm2 (by omega) (by omega) d_Ma_writeParts_9 (fun M_1 h_2 fr_3 => ?_)
  refine G_iconst (i := 0) hC d_Ma_writeParts_10 ?_
  refine G_istore (lv' := [(6, vI 0), (5, vI 0), (0, .ref a), (1, .ref p), (2, vI most), (3, vI (b2i tu)), (4, .ref o)]) hC (by rw [hN]; decide) rfl d_Ma_writeParts_11 ?_
  have L13 : ∀ (N : Nat) (M1 : Mp) (parts : Int) (k : Int) (g : Nat → Int), (b2.2.length + 1 - k).toNat < N → (Fr [18] M_1 M1) → (M1 r0 = some (18, arI (eD E) 93 g)) → (0 ≤ k ∧ k ≤ b2.2.length + 1 ∧ 0 ≤ parts ∧ parts ≤ k) → (parts + ((stL b2.2 k).length : Int) = ((stL b2.2 0).length : Int)) → ((stL b2.2 0).drop parts.toNat = stL b2.2 k) → (∀ j : Nat, (j : Int) ≤ parts → g j = (0 :: stL b2.2 0).getD j 0) → G E M1 0 0 [(0, .ref a), (1, .ref p), (2, vI most), (3, vI (b2i tu)), (4, .ref o), (5, vI parts), (6, vI k)] [] 13 := by
    intro N
    induction N with
    | zero => intro M1 parts k g hN13 hfr1 hm3 hk hA hBd hG; exact absurd hN13 (Nat.not_lt_zero _)
    | succ N ih13 =>
      intro M1 parts k g hN13 hfr1 hm3 hk hA hBd hG
      refine G_iload hC 6 rfl d_Ma_writeParts_13 ?_
      refine G_aload_n hC 1 rfl rfl d_Ma_writeParts_15 ?_
      have h_4 := h_B_p.fr fr_3 (by simp only [List.mem_cons, List.not_mem_nil, or_false, not_or, not_false_eq_true]; try omega) (by simp only [List.mem_cons, List.not_mem_nil, or_false, not_or, not_false_eq_true]; try omega)
      have h_5 := h_4.fr hfr1 (by simp only [List.mem_cons, List.not_mem_nil, or_false, not_or, not_false_eq_true]; try omega) (by simp only [List.mem_cons, List.not_mem_nil, or_false, not_or, not_false_eq_true]; try omega)
      refine G_pV (rest := [vI k]) hC hR (c_By_size h_5) cv_Ma_50 h_5.obj (by decide) (by omega) (by omega) rfl rfl (Nat.le_of_ble_eq_true rfl) d_Ma_writeParts_16 ?_
      have g_6 := h_5.len
      refine G_icmp_gt hC 74 (by omega) (by omega) (by decide) d_Ma_writeParts_19 (fun c_7 => ?_) (fun c_7 => ?_)
      · rw [stL_end (by omega), List.length_nil] at hA
        obtain rfl : parts = ((stL b2.2 0).length : Int) := by omega
        refine G_iconst (i := 0) hC d_Ma_writeParts_74 ?_
        refine G_iload hC 5 rfl d_Ma_writeParts_75 ?_
        refine G_iload_n hC 2 rfl rfl d_Ma_writeParts_77 ?_
        refine G_isub hC d_Ma_writeParts_78 ?_
        refine G_maxX (c := max 0 (((stL b2.2 0).length : Int) - most)) hC hR lm_Ma_58 (by omega) (by omega) (by omega) (Nat.le_of_ble_eq_true rfl) (Nat.le_of_ble_eq_true rfl) (by omega) (by omega) d_Ma_writeParts_79 ?_
        refine G_istore (lv' := [(6, vI (max 0 (((stL b2.2 0).length : Int) - most))), (0, .ref a), (1, .ref p), (2, vI most), (3, vI (b2i tu)), (4, .ref o), (5, vI ((stL b2.2 0).length : Int))]) hC (by rw [hN]; decide) rfl d_Ma_writeParts_82 ?_
        refine G_iload hC 0 rfl d_Ma_writeParts_84 ?_
        refine G_istore (lv' := [(7, vI (max 0 (((stL b2.2 0).length : Int) - most))), (6, vI (max 0 (((stL b2.2 0).length : Int) - most))), (0, .ref a), (1, .ref p), (2, vI most), (3, vI (b2i tu)), (4, .ref o), (5, vI ((stL b2.2 0).length : Int))]) hC (by rw [hN]; decide) rfl d_Ma_writeParts_86 ?_
        have L88 : ∀ (N : Nat) (M2 : Mp) (k2 : Int) (bb : Bv), (((stL b2.2 0).length : Int) - k2).toNat < N → (Fr [t, t + 1] M1 M2) → (IsB (eD E) M2 o t lim bb) → (max 0 (((stL b2.2 0).length : Int) - most) ≤ k2 ∧ k2 ≤ max (max 0 (((stL b2.2 0).length : Int) - most)) ((stL b2.2 0).length : Int)) → (wpL lim b2.2 (max 0 (((stL b2.2 0).length : Int) - most)) tu k2 bb = W) → (grP lim b bb) → G E M2 (psi lim bb - psi lim b) (psi lim bb - psi lim b) [(0, .ref a), (1, .ref p), (2, vI most), (3, vI (b2i tu)), (4, .ref o), (5, vI ((stL b2.2 0).length : Int)), (6, vI (max 0 (((stL b2.2 0).length : Int) - most))), (7, vI k2)] [] 88 := by
          intro N
          induction N with
          | zero => intro M2 k2 bb hN88 hfr2 hb2 hk2 hW hP; exact absurd hN88 (Nat.not_lt_zero _)
          | succ N ih88 =>
            intro M2 k2 bb hN88 hfr2 hb2 hk2 hW hP
            have hb2l := hb2.len
            refine G_iload hC 7 rfl d_Ma_writeParts_88 ?_
            refine G_iload hC 5 rfl d_Ma_writeParts_90 ?_
            refine G_icmp_ge hC 157 (by omega) (by omega) (by decide) d_Ma_writeParts_92 (fun c_8 => ?_) (fun c_8 => ?_)
            · rw [wpL, dif_neg (by omega)] at hW
              have hpw : psi lim bb = psi lim W := by rw [hW]
              have h_9 := fr_3.at hm1 (by decide)
              have h_10 := hfr1.at h_9 (by decide)
              have h_11 := hfr2.at h_10 (by simp only [List.mem_cons, List.not_mem_nil, or_false, not_or, not_false_eq_true]; try omega)
              have h_12 := hfr2.at hm3 (by simp only [List.mem_cons, List.not_mem_nil, or_false, not_or, not_false_eq_true]; try omega)
              exact G_return hC hQ (by omega) (by omega) d_Ma_writeParts_157 ⟨rfl, by rw [← hW]; exact hb2, ⟨r0, _, h_11, h_12⟩, (((fr_3.up (T := [t, t + 1, 18]) (by simp)).tr' (T := [t, t + 1, 18]) hfr1 (fun _ z => z) (by simp)).tr' (T := [t, t + 1, 18]) hfr2 (fun _ z => z) (by simp))⟩
            · rw [wpL, dif_pos (by omega)] at hW
              refine G_iload_n hC 3 rfl rfl d_Ma_writeParts_95 ?_
              refine G_if_eq hC 109 (by have := b2i_rng tu; omega) (by decide) d_Ma_writeParts_96 (fun c_13 => ?_) (fun c_13 => ?_)
              · have c_13 := b2i_eq0.mp c_13
                rw [if_neg (show ¬ tu = true from by rw [c_13]; decide)] at hW
                refine G_iload hC 7 rfl d_Ma_writeParts_109 ?_
                refine G_istore (lv' := [(8, vI k2), (0, .ref a), (1, .ref p), (2, vI most), (3, vI (b2i tu)), (4, .ref o), (5, vI ((stL b2.2 0).length : Int)), (6, vI (max 0 (((stL b2.2 0).length : Int) - most))), (7, vI k2)]) hC (by rw [hN]; decide) rfl d_Ma_writeParts_111 ?_
                refine G_iload hC 8 rfl d_Ma_writeParts_113 ?_
                refine G_iload hC 7 rfl d_Ma_writeParts_115 ?_
                refine G_icmp_le hC 127 (by omega) (by omega) (by decide) d_Ma_writeParts_117 (fun c_14 => ?_) (fun c_14 => ?_)
                · rw [if_neg (show ¬ max 0 (((stL b2.2 0).length : Int) - most) < k2 from by omega)] at hW
                  have hq1 := gr_rf (lim := lim) (b := bb) hP.2
                  have hr1 := stG_rng b2.2 (k2)
                  have hr2 := stG_rng b2.2 (k2 + 1)
                  have hq2 := psi_addPB (lim := lim) (b := bb) b2.2 (stG b2.2 (k2)) (stG b2.2 (k2 + 1) - 1) hq1.2
                  have hq3 := wpL_gr (lim := lim) (xs := b2.2) (first := max 0 (((stL b2.2 0).length : Int) - most)) (tu := tu) _ (k2 + 1) _ (Nat.lt_succ_self _) hq2.2
                  rw [hW] at hq3
                  have hgr := gr_tr hq1 hq2
                  refine G_aload hC 5 rfl d_Ma_writeParts_127 ?_
                  refine G_aload_n hC 2 rfl rfl d_Ma_writeParts_129 ?_
                  refine G_aload_n hC 1 rfl rfl d_Ma_writeParts_130 ?_
                  have h_15 := fr_3.at hm1 (by decide)
                  have h_16 := hfr1.at h_15 (by decide)
                  have h_17 := hfr2.at h_16 (by simp only [List.mem_cons, List.not_mem_nil, or_false, not_or, not_false_eq_true]; try omega)
                  refine G_get hC fl_Ma_15 h_17 rfl d_Ma_writeParts_131 ?_
                  refine G_iload hC 0 rfl d_Ma_writeParts_134 ?_
                  have h_18 := hfr2.at hm3 (by simp only [List.mem_cons, List.not_mem_nil, or_false, not_or, not_false_eq_true]; try omega)
                  refine G_iald hC h_18 (by omega) (by omega) d_Ma_writeParts_136 ?_
                  refine G_top (b := stG b2.2 (k2)) (hG _ (by omega)) ?_
                  refine G_aload_n hC 1 rfl rfl d_Ma_writeParts_137 ?_
                  refine G_get hC fl_Ma_15 h_17 rfl d_Ma_writeParts_138 ?_
                  refine G_iload hC 0 rfl d_Ma_writeParts_141 ?_
                  refine G_iconst (i := 1) hC d_Ma_writeParts_143 ?_
                  refine G_iadd hC d_Ma_writeParts_144 ?_
                  refine G_iald hC h_18 (by omega) (by omega) d_Ma_writeParts_145 ?_
                  refine G_top (b := stG b2.2 (k2 + 1)) (hG _ (by omega)) ?_
                  refine G_iconst (i := 1) hC d_Ma_writeParts_146 ?_
                  refine G_isub hC d_Ma_writeParts_147 ?_
                  have h_19 := h_5.fr hfr2 (by simp only [List.mem_cons, List.not_mem_nil, or_false, not_or, not_false_eq_true]; try omega) (by simp only [List.mem_cons, List.not_mem_nil, or_false, not_or, not_false_eq_true]; try omega)
                  refine G_xV (rest := []) hC hR (c_By_addPart hb2 h_19 (by omega) (by omega) htt) cv_Ma_64 hb2.obj (by decide) (by omega) (by omega) rfl rfl (Nat.le_of_ble_eq_true rfl) d_Ma_writeParts_148 (fun r_22 M_20 p_21 => ?_)
                  obtain ⟨rfl, h_23, fr_24⟩ := p_21
                  show G E M_20 (psi lim bb - psi lim b + (psi lim (addPB lim bb b2.2 (stG b2.2 (k2)) ((stG b2.2 (k2 + 1)) - 1)) - psi lim bb)) (psi lim bb - psi lim b + (psi lim (addPB lim bb b2.2 (stG b2.2 (k2)) ((stG b2.2 (k2 + 1)) - 1)) - psi lim bb)) [(8, vI k2), (0, .ref a), (1, .ref p), (2, vI most), (3, vI (b2i tu)), (4, .ref o), (5, vI ((stL b2.2 0).length : Int)), (6, vI (max 0 (((stL b2.2 0).length : Int) - most))), (7, vI k2)] [] 151
                  have g_25 := psi_addPB (lim := lim) (b := bb) b2.2 (stG b2.2 (k2)) ((stG b2.2 (k2 + 1)) - 1) ⟨hb2.len.1, hb2.len.2.1⟩
                  refine G_iinc (lv' := [(7, vI (k2 + 1)), (8, vI k2), (0, .ref a), (1, .ref p), (2, vI most), (3, vI (b2i tu)), (4, .ref o), (5, vI ((stL b2.2 0).length : Int)), (6, vI (max 0 (((stL b2.2 0).length : Int) - most)))]) hC 8 rfl (by rw [hN]; decide) rfl d_Ma_writeParts_151 ?_
                  refine G_goto hC 88 (by decide) d_Ma_writeParts_154 ?_
                  refine G_lv [2, 3, 4, 5, 6, 7, 8, 0] rfl ?_
                  refine G_widen (k' := psi lim (addPB lim bb b2.2 (stG b2.2 (k2)) ((stG b2.2 (k2 + 1)) - 1)) - psi lim b) (n' := psi lim (addPB lim bb b2.2 (stG b2.2 (k2)) ((stG b2.2 (k2 + 1)) - 1)) - psi lim b) (by omega) (by omega) ?_
                  exact ih88 M_20 (k2 + 1) _ (by omega) ((hfr2.up (T := [t, t + 1]) (by simp)).tr' (T := [t, t + 1]) fr_24 (fun _ z => z) (by simp)) h_23 (by omega) hW (gr_tr hP hgr)
                · rw [if_pos (show max 0 (((stL b2.2 0).length : Int) - most) < k2 from by omega)] at hW
                  have hq1 := psi_addB (lim := lim) (b := bb) 46 hP.2
                  have hr1 := stG_rng b2.2 (k2)
                  have hr2 := stG_rng b2.2 (k2 + 1)
                  have hq2 := psi_addPB (lim := lim) (b := addB lim bb 46) b2.2 (stG b2.2 (k2)) (stG b2.2 (k2 + 1) - 1) hq1.2
                  have hq3 := wpL_gr (lim := lim) (xs := b2.2) (first := max 0 (((stL b2.2 0).length : Int) - most)) (tu := tu) _ (k2 + 1) _ (Nat.lt_succ_self _) hq2.2
                  rw [hW] at hq3
                  have hgr := gr_tr hq1 hq2
                  refine G_aload hC 5 rfl d_Ma_writeParts_120 ?_
                  refine G_bipush (j := 46) hC (by decide +kernel) d_Ma_writeParts_122 ?_
                  refine G_xV (rest := []) hC hR (c_By_add hb2 (by omega)) cv_Ma_36 hb2.obj (by decide) (by omega) (by omega) rfl rfl (Nat.le_of_ble_eq_true rfl) d_Ma_writeParts_124 (fun r_28 M_26 p_27 => ?_)
                  obtain ⟨rfl, h_29, fr_30⟩ := p_27
                  show G E M_26 (psi lim bb - psi lim b + (psi lim (addB lim bb 46) - psi lim bb)) (psi lim bb - psi lim b + (psi lim (addB lim bb 46) - psi lim bb)) [(8, vI k2), (0, .ref a), (1, .ref p), (2, vI most), (3, vI (b2i tu)), (4, .ref o), (5, vI ((stL b2.2 0).length : Int)), (6, vI (max 0 (((stL b2.2 0).length : Int) - most))), (7, vI k2)] [] 127
                  have g_31 := psi_addB (lim := lim) (b := bb) 46 ⟨hb2.len.1, hb2.len.2.1⟩
                  refine G_aload hC 5 rfl d_Ma_writeParts_127 ?_
                  refine G_aload_n hC 2 rfl rfl d_Ma_writeParts_129 ?_
                  refine G_aload_n hC 1 rfl rfl d_Ma_writeParts_130 ?_
                  have h_32 := fr_3.at hm1 (by decide)
                  have h_33 := hfr1.at h_32 (by decide)
                  have h_34 := hfr2.at h_33 (by simp only [List.mem_cons, List.not_mem_nil, or_false, not_or, not_false_eq_true]; try omega)
                  have h_35 := fr_30.at h_34 (by simp only [List.mem_cons, List.not_mem_nil, or_false, not_or, not_false_eq_true]; try omega)
                  refine G_get hC fl_Ma_15 h_35 rfl d_Ma_writeParts_131 ?_
                  refine G_iload hC 0 rfl d_Ma_writeParts_134 ?_
                  have h_36 := hfr2.at hm3 (by simp only [List.mem_cons, List.not_mem_nil, or_false, not_or, not_false_eq_true]; try omega)
                  have h_37 := fr_30.at h_36 (by simp only [List.mem_cons, List.not_mem_nil, or_false, not_or, not_false_eq_true]; try omega)
                  refine G_iald hC h_37 (by omega) (by omega) d_Ma_writeParts_136 ?_
                  refine G_top (b := stG b2.2 (k2)) (hG _ (by omega)) ?_
                  refine G_aload_n hC 1 rfl rfl d_Ma_writeParts_137 ?_
                  refine G_get hC fl_Ma_15 h_35 rfl d_Ma_writeParts_138 ?_
                  refine G_iload hC 0 rfl d_Ma_writeParts_141 ?_
                  refine G_iconst (i := 1) hC d_Ma_writeParts_143 ?_
                  refine G_iadd hC d_Ma_writeParts_144 ?_
                  refine G_iald hC h_37 (by omega) (by omega) d_Ma_writeParts_145 ?_
                  refine G_top (b := stG b2.2 (k2 + 1)) (hG _ (by omega)) ?_
                  refine G_iconst (i := 1) hC d_Ma_writeParts_146 ?_
                  refine G_isub hC d_Ma_writeParts_147 ?_
                  have h_38 := h_5.fr hfr2 (by simp only [List.mem_cons, List.not_mem_nil, or_false, not_or, not_false_eq_true]; try omega) (by simp only [List.mem_cons, List.not_mem_nil, or_false, not_or, not_false_eq_true]; try omega)
                  have h_39 := h_38.fr fr_30 (by simp only [List.mem_cons, List.not_mem_nil, or_false, not_or, not_false_eq_true]; try omega) (by simp only [List.mem_cons, List.not_mem_nil, or_false, not_or, not_false_eq_true]; try omega)
                  refine G_xV (rest := []) hC hR (c_By_addPart h_29 h_39 (by omega) (by omega) htt) cv_Ma_64 h_29.obj (by decide) (by omega) (by omega) rfl rfl (Nat.le_of_ble_eq_true rfl) d_Ma_writeParts_148 (fun r_42 M_40 p_41 => ?_)
                  obtain ⟨rfl, h_43, fr_44⟩ := p_41
                  show G E M_40 (psi lim bb - psi lim b + (psi lim (addB lim bb 46) - psi lim bb) + (psi lim (addPB lim (addB lim bb 46) b2.2 (stG b2.2 (k2)) ((stG b2.2 (k2 + 1)) - 1)) - psi lim (addB lim bb 46))) (psi lim bb - psi lim b + (psi lim (addB lim bb 46) - psi lim bb) + (psi lim (addPB lim (addB lim bb 46) b2.2 (stG b2.2 (k2)) ((stG b2.2 (k2 + 1)) - 1)) - psi lim (addB lim bb 46))) [(8, vI k2), (0, .ref a), (1, .ref p), (2, vI most), (3, vI (b2i tu)), (4, .ref o), (5, vI ((stL b2.2 0).length : Int)), (6, vI (max 0 (((stL b2.2 0).length : Int) - most))), (7, vI k2)] [] 151
                  have g_45 := psi_addPB (lim := lim) (b := (addB lim bb 46)) b2.2 (stG b2.2 (k2)) ((stG b2.2 (k2 + 1)) - 1) ⟨h_29.len.1, h_29.len.2.1⟩
                  refine G_iinc (lv' := [(7, vI (k2 + 1)), (8, vI k2), (0, .ref a), (1, .ref p), (2, vI most), (3, vI (b2i tu)), (4, .ref o), (5, vI ((stL b2.2 0).length : Int)), (6, vI (max 0 (((stL b2.2 0).length : Int) - most)))]) hC 8 rfl (by rw [hN]; decide) rfl d_Ma_writeParts_151 ?_
                  refine G_goto hC 88 (by decide) d_Ma_writeParts_154 ?_
                  refine G_lv [2, 3, 4, 5, 6, 7, 8, 0] rfl ?_
                  refine G_widen (k' := psi lim (addPB lim (addB lim bb 46) b2.2 (stG b2.2 (k2)) ((stG b2.2 (k2 + 1)) - 1)) - psi lim b) (n' := psi lim (addPB lim (addB lim bb 46) b2.2 (stG b2.2 (k2)) ((stG b2.2 (k2 + 1)) - 1)) - psi lim b) (by omega) (by omega) ?_
                  exact ih88 M_40 (k2 + 1) _ (by omega) (((hfr2.up (T := [t, t + 1]) (by simp)).tr' (T := [t, t + 1]) fr_30 (fun _ z => z) (by simp)).tr' (T := [t, t + 1]) fr_44 (fun _ z => z) (by simp)) h_43 (by omega) hW (gr_tr hP hgr)
              · have c_13 := b2i_ne0.mp c_13
                rw [if_pos (show tu = true from c_13)] at hW
                refine G_iload hC 5 rfl d_Ma_writeParts_99 ?_
                refine G_iconst (i := 1) hC d_Ma_writeParts_101 ?_
                refine G_isub hC d_Ma_writeParts_102 ?_
                refine G_iload hC 7 rfl d_Ma_writeParts_103 ?_
                refine G_isub hC d_Ma_writeParts_105 ?_
                refine G_goto hC 111 (by decide) d_Ma_writeParts_106 ?_
                refine G_istore (lv' := [(8, vI ((((stL b2.2 0).length : Int) - 1) - k2)), (0, .ref a), (1, .ref p), (2, vI most), (3, vI (b2i tu)), (4, .ref o), (5, vI ((stL b2.2 0).length : Int)), (6, vI (max 0 (((stL b2.2 0).length : Int) - most))), (7, vI k2)]) hC (by rw [hN]; decide) rfl d_Ma_writeParts_111 ?_
                refine G_iload hC 8 rfl d_Ma_writeParts_113 ?_
                refine G_iload hC 7 rfl d_Ma_writeParts_115 ?_
                refine G_icmp_le hC 127 (by omega) (by omega) (by decide) d_Ma_writeParts_117 (fun c_46 => ?_) (fun c_46 => ?_)
                · rw [if_neg (show ¬ max 0 (((stL b2.2 0).length : Int) - most) < k2 from by omega)] at hW
                  have hq1 := gr_rf (lim := lim) (b := bb) hP.2
                  have hr1 := stG_rng b2.2 ((((stL b2.2 0).length : Int) - 1) - k2)
                  have hr2 := stG_rng b2.2 ((((stL b2.2 0).length : Int) - 1) - k2 + 1)
                  have hq2 := psi_addPB (lim := lim) (b := bb) b2.2 (stG b2.2 ((((stL b2.2 0).length : Int) - 1) - k2)) (stG b2.2 ((((stL b2.2 0).length : Int) - 1) - k2 + 1) - 1) hq1.2
                  have hq3 := wpL_gr (lim := lim) (xs := b2.2) (first := max 0 (((stL b2.2 0).length : Int) - most)) (tu := tu) _ (k2 + 1) _ (Nat.lt_succ_self _) hq2.2
                  rw [hW] at hq3
                  have hgr := gr_tr hq1 hq2
                  refine G_aload hC 5 rfl d_Ma_writeParts_127 ?_
                  refine G_aload_n hC 2 rfl rfl d_Ma_writeParts_129 ?_
                  refine G_aload_n hC 1 rfl rfl d_Ma_writeParts_130 ?_
                  have h_47 := fr_3.at hm1 (by decide)
                  have h_48 := hfr1.at h_47 (by decide)
                  have h_49 := hfr2.at h_48 (by simp only [List.mem_cons, List.not_mem_nil, or_false, not_or, not_false_eq_true]; try omega)
                  refine G_get hC fl_Ma_15 h_49 rfl d_Ma_writeParts_131 ?_
                  refine G_iload hC 0 rfl d_Ma_writeParts_134 ?_
                  have h_50 := hfr2.at hm3 (by simp only [List.mem_cons, List.not_mem_nil, or_false, not_or, not_false_eq_true]; try omega)
                  refine G_iald hC h_50 (by omega) (by omega) d_Ma_writeParts_136 ?_
                  refine G_top (b := stG b2.2 ((((stL b2.2 0).length : Int) - 1) - k2)) (hG _ (by omega)) ?_
                  refine G_aload_n hC 1 rfl rfl d_Ma_writeParts_137 ?_
                  refine G_get hC fl_Ma_15 h_49 rfl d_Ma_writeParts_138 ?_
                  refine G_iload hC 0 rfl d_Ma_writeParts_141 ?_
                  refine G_iconst (i := 1) hC d_Ma_writeParts_143 ?_
                  refine G_iadd hC d_Ma_writeParts_144 ?_
                  refine G_iald hC h_50 (by omega) (by omega) d_Ma_writeParts_145 ?_
                  refine G_top (b := stG b2.2 ((((stL b2.2 0).length : Int) - 1) - k2 + 1)) (hG _ (by omega)) ?_
                  refine G_iconst (i := 1) hC d_Ma_writeParts_146 ?_
                  refine G_isub hC d_Ma_writeParts_147 ?_
                  have h_51 := h_5.fr hfr2 (by simp only [List.mem_cons, List.not_mem_nil, or_false, not_or, not_false_eq_true]; try omega) (by simp only [List.mem_cons, List.not_mem_nil, or_false, not_or, not_false_eq_true]; try omega)
                  refine G_xV (rest := []) hC hR (c_By_addPart hb2 h_51 (by omega) (by omega) htt) cv_Ma_64 hb2.obj (by decide) (by omega) (by omega) rfl rfl (Nat.le_of_ble_eq_true rfl) d_Ma_writeParts_148 (fun r_54 M_52 p_53 => ?_)
                  obtain ⟨rfl, h_55, fr_56⟩ := p_53
                  show G E M_52 (psi lim bb - psi lim b + (psi lim (addPB lim bb b2.2 (stG b2.2 ((((stL b2.2 0).length : Int) - 1) - k2)) ((stG b2.2 ((((stL b2.2 0).length : Int) - 1) - k2 + 1)) - 1)) - psi lim bb)) (psi lim bb - psi lim b + (psi lim (addPB lim bb b2.2 (stG b2.2 ((((stL b2.2 0).length : Int) - 1) - k2)) ((stG b2.2 ((((stL b2.2 0).length : Int) - 1) - k2 + 1)) - 1)) - psi lim bb)) [(8, vI ((((stL b2.2 0).length : Int) - 1) - k2)), (0, .ref a), (1, .ref p), (2, vI most), (3, vI (b2i tu)), (4, .ref o), (5, vI ((stL b2.2 0).length : Int)), (6, vI (max 0 (((stL b2.2 0).length : Int) - most))), (7, vI k2)] [] 151
                  have g_57 := psi_addPB (lim := lim) (b := bb) b2.2 (stG b2.2 ((((stL b2.2 0).length : Int) - 1) - k2)) ((stG b2.2 ((((stL b2.2 0).length : Int) - 1) - k2 + 1)) - 1) ⟨hb2.len.1, hb2.len.2.1⟩
                  refine G_iinc (lv' := [(7, vI (k2 + 1)), (8, vI ((((stL b2.2 0).length : Int) - 1) - k2)), (0, .ref a), (1, .ref p), (2, vI most), (3, vI (b2i tu)), (4, .ref o), (5, vI ((stL b2.2 0).length : Int)), (6, vI (max 0 (((stL b2.2 0).length : Int) - most)))]) hC 8 rfl (by rw [hN]; decide) rfl d_Ma_writeParts_151 ?_
                  refine G_goto hC 88 (by decide) d_Ma_writeParts_154 ?_
                  refine G_lv [2, 3, 4, 5, 6, 7, 8, 0] rfl ?_
                  refine G_widen (k' := psi lim (addPB lim bb b2.2 (stG b2.2 ((((stL b2.2 0).length : Int) - 1) - k2)) ((stG b2.2 ((((stL b2.2 0).length : Int) - 1) - k2 + 1)) - 1)) - psi lim b) (n' := psi lim (addPB lim bb b2.2 (stG b2.2 ((((stL b2.2 0).length : Int) - 1) - k2)) ((stG b2.2 ((((stL b2.2 0).length : Int) - 1) - k2 + 1)) - 1)) - psi lim b) (by omega) (by omega) ?_
                  exact ih88 M_52 (k2 + 1) _ (by omega) ((hfr2.up (T := [t, t + 1]) (by simp)).tr' (T := [t, t + 1]) fr_56 (fun _ z => z) (by simp)) h_55 (by omega) hW (gr_tr hP hgr)
                · rw [if_pos (show max 0 (((stL b2.2 0).length : Int) - most) < k2 from by omega)] at hW
                  have hq1 := psi_addB (lim := lim) (b := bb) 46 hP.2
                  have hr1 := stG_rng b2.2 ((((stL b2.2 0).length : Int) - 1) - k2)
                  have hr2 := stG_rng b2.2 ((((stL b2.2 0).length : Int) - 1) - k2 + 1)
                  have hq2 := psi_addPB (lim := lim) (b := addB lim bb 46) b2.2 (stG b2.2 ((((stL b2.2 0).length : Int) - 1) - k2)) (stG b2.2 ((((stL b2.2 0).length : Int) - 1) - k2 + 1) - 1) hq1.2
                  have hq3 := wpL_gr (lim := lim) (xs := b2.2) (first := max 0 (((stL b2.2 0).length : Int) - most)) (tu := tu) _ (k2 + 1) _ (Nat.lt_succ_self _) hq2.2
                  rw [hW] at hq3
                  have hgr := gr_tr hq1 hq2
                  refine G_aload hC 5 rfl d_Ma_writeParts_120 ?_
                  refine G_bipush (j := 46) hC (by decide +kernel) d_Ma_writeParts_122 ?_
                  refine G_xV (rest := []) hC hR (c_By_add hb2 (by omega)) cv_Ma_36 hb2.obj (by decide) (by omega) (by omega) rfl rfl (Nat.le_of_ble_eq_true rfl) d_Ma_writeParts_124 (fun r_60 M_58 p_59 => ?_)
                  obtain ⟨rfl, h_61, fr_62⟩ := p_59
                  show G E M_58 (psi lim bb - psi lim b + (psi lim (addB lim bb 46) - psi lim bb)) (psi lim bb - psi lim b + (psi lim (addB lim bb 46) - psi lim bb)) [(8, vI ((((stL b2.2 0).length : Int) - 1) - k2)), (0, .ref a), (1, .ref p), (2, vI most), (3, vI (b2i tu)), (4, .ref o), (5, vI ((stL b2.2 0).length : Int)), (6, vI (max 0 (((stL b2.2 0).length : Int) - most))), (7, vI k2)] [] 127
                  have g_63 := psi_addB (lim := lim) (b := bb) 46 ⟨hb2.len.1, hb2.len.2.1⟩
                  refine G_aload hC 5 rfl d_Ma_writeParts_127 ?_
                  refine G_aload_n hC 2 rfl rfl d_Ma_writeParts_129 ?_
                  refine G_aload_n hC 1 rfl rfl d_Ma_writeParts_130 ?_
                  have h_64 := fr_3.at hm1 (by decide)
                  have h_65 := hfr1.at h_64 (by decide)
                  have h_66 := hfr2.at h_65 (by simp only [List.mem_cons, List.not_mem_nil, or_false, not_or, not_false_eq_true]; try omega)
                  have h_67 := fr_62.at h_66 (by simp only [List.mem_cons, List.not_mem_nil, or_false, not_or, not_false_eq_true]; try omega)
                  refine G_get hC fl_Ma_15 h_67 rfl d_Ma_writeParts_131 ?_
                  refine G_iload hC 0 rfl d_Ma_writeParts_134 ?_
                  have h_68 := hfr2.at hm3 (by simp only [List.mem_cons, List.not_mem_nil, or_false, not_or, not_false_eq_true]; try omega)
                  have h_69 := fr_62.at h_68 (by simp only [List.mem_cons, List.not_mem_nil, or_false, not_or, not_false_eq_true]; try omega)
                  refine G_iald hC h_69 (by omega) (by omega) d_Ma_writeParts_136 ?_
                  refine G_top (b := stG b2.2 ((((stL b2.2 0).length : Int) - 1) - k2)) (hG _ (by omega)) ?_
                  refine G_aload_n hC 1 rfl rfl d_Ma_writeParts_137 ?_
                  refine G_get hC fl_Ma_15 h_67 rfl d_Ma_writeParts_138 ?_
                  refine G_iload hC 0 rfl d_Ma_writeParts_141 ?_
                  refine G_iconst (i := 1) hC d_Ma_writeParts_143 ?_
                  refine G_iadd hC d_Ma_writeParts_144 ?_
                  refine G_iald hC h_69 (by omega) (by omega) d_Ma_writeParts_145 ?_
                  refine G_top (b := stG b2.2 ((((stL b2.2 0).length : Int) - 1) - k2 + 1)) (hG _ (by omega)) ?_
                  refine G_iconst (i := 1) hC d_Ma_writeParts_146 ?_
                  refine G_isub hC d_Ma_writeParts_147 ?_
                  have h_70 := h_5.fr hfr2 (by simp only [List.mem_cons, List.not_mem_nil, or_false, not_or, not_false_eq_true]; try omega) (by simp only [List.mem_cons, List.not_mem_nil, or_false, not_or, not_false_eq_true]; try omega)
                  have h_71 := h_70.fr fr_62 (by simp only [List.mem_cons, List.not_mem_nil, or_false, not_or, not_false_eq_true]; try omega) (by simp only [List.mem_cons, List.not_mem_nil, or_false, not_or, not_false_eq_true]; try omega)
                  refine G_xV (rest := []) hC hR (c_By_addPart h_61 h_71 (by omega) (by omega) htt) cv_Ma_64 h_61.obj (by decide) (by omega) (by omega) rfl rfl (Nat.le_of_ble_eq_true rfl) d_Ma_writeParts_148 (fun r_74 M_72 p_73 => ?_)
                  obtain ⟨rfl, h_75, fr_76⟩ := p_73
                  show G E M_72 (psi lim bb - psi lim b + (psi lim (addB lim bb 46) - psi lim bb) + (psi lim (addPB lim (addB lim bb 46) b2.2 (stG b2.2 ((((stL b2.2 0).length : Int) - 1) - k2)) ((stG b2.2 ((((stL b2.2 0).length : Int) - 1) - k2 + 1)) - 1)) - psi lim (addB lim bb 46))) (psi lim bb - psi lim b + (psi lim (addB lim bb 46) - psi lim bb) + (psi lim (addPB lim (addB lim bb 46) b2.2 (stG b2.2 ((((stL b2.2 0).length : Int) - 1) - k2)) ((stG b2.2 ((((stL b2.2 0).length : Int) - 1) - k2 + 1)) - 1)) - psi lim (addB lim bb 46))) [(8, vI ((((stL b2.2 0).length : Int) - 1) - k2)), (0, .ref a), (1, .ref p), (2, vI most), (3, vI (b2i tu)), (4, .ref o), (5, vI ((stL b2.2 0).length : Int)), (6, vI (max 0 (((stL b2.2 0).length : Int) - most))), (7, vI k2)] [] 151
                  have g_77 := psi_addPB (lim := lim) (b := (addB lim bb 46)) b2.2 (stG b2.2 ((((stL b2.2 0).length : Int) - 1) - k2)) ((stG b2.2 ((((stL b2.2 0).length : Int) - 1) - k2 + 1)) - 1) ⟨h_61.len.1, h_61.len.2.1⟩
                  refine G_iinc (lv' := [(7, vI (k2 + 1)), (8, vI ((((stL b2.2 0).length : Int) - 1) - k2)), (0, .ref a), (1, .ref p), (2, vI most), (3, vI (b2i tu)), (4, .ref o), (5, vI ((stL b2.2 0).length : Int)), (6, vI (max 0 (((stL b2.2 0).length : Int) - most)))]) hC 8 rfl (by rw [hN]; decide) rfl d_Ma_writeParts_151 ?_
                  refine G_goto hC 88 (by decide) d_Ma_writeParts_154 ?_
                  refine G_lv [2, 3, 4, 5, 6, 7, 8, 0] rfl ?_
                  refine G_widen (k' := psi lim (addPB lim (addB lim bb 46) b2.2 (stG b2.2 ((((stL b2.2 0).length : Int) - 1) - k2)) ((stG b2.2 ((((stL b2.2 0).length : Int) - 1) - k2 + 1)) - 1)) - psi lim b) (n' := psi lim (addPB lim (addB lim bb 46) b2.2 (stG b2.2 ((((stL b2.2 0).length : Int) - 1) - k2)) ((stG b2.2 ((((stL b2.2 0).length : Int) - 1) - k2 + 1)) - 1)) - psi lim b) (by omega) (by omega) ?_
                  exact ih88 M_72 (k2 + 1) _ (by omega) (((hfr2.up (T := [t, t + 1]) (by simp)).tr' (T := [t, t + 1]) fr_62 (fun _ z => z) (by simp)).tr' (T := [t, t + 1]) fr_76 (fun _ z => z) (by simp)) h_75 (by omega) hW (gr_tr hP hgr)
        refine G_lv [2, 3, 4, 5, 6, 7, 1, 0] rfl ?_
        have h_78 := h_B_o.fr fr_3 (by simp only [List.mem_cons, List.not_mem_nil, or_false, not_or, not_false_eq_true]; try omega) (by simp only [List.mem_cons, List.not_mem_nil, or_false, not_or, not_false_eq_true]; try omega)
        have h_79 := h_78.fr hfr1 (by simp only [List.mem_cons, List.not_mem_nil, or_false, not_or, not_false_eq_true]; try omega) (by simp only [List.mem_cons, List.not_mem_nil, or_false, not_or, not_false_eq_true]; try omega)
        refine G_widen (k' := psi lim b - psi lim b) (n' := psi lim b - psi lim b) (by omega) (by omega) ?_
        exact L88 _ M1 (max 0 (((stL b2.2 0).length : Int) - most)) _ (Nat.lt_succ_self _) Fr.rf h_79 (by omega) hr (gr_rf ⟨by omega, by omega⟩)
      · have hs1 := stL_pos (xs := b2.2) (k := k) (by omega)
        refine G_iload hC 5 rfl d_Ma_writeParts_22 ?_
        refine G_iconst (i := 1) hC d_Ma_writeParts_24 ?_
        refine G_iadd hC d_Ma_writeParts_25 ?_
        refine G_aload_n hC 0 rfl rfl d_Ma_writeParts_26 ?_
        have h_80 := fr_3.at hm1 (by decide)
        have h_81 := hfr1.at h_80 (by decide)
        refine G_get hC fl_Ma_15 h_81 rfl d_Ma_writeParts_27 ?_
        refine G_alen (q := 1) hC hm3 rfl d_Ma_writeParts_30 ?_
        refine G_icmp_ge hC 74 (by omega) (by omega) (by decide) d_Ma_writeParts_31 (fun c_82 => ?_) (fun c_82 => ?_)
        · exact (show False from by omega).elim
        · refine G_iload hC 6 rfl d_Ma_writeParts_34 ?_
          refine G_aload_n hC 1 rfl rfl d_Ma_writeParts_36 ?_
          refine G_pV (rest := [vI k]) hC hR (c_By_size h_5) cv_Ma_50 h_5.obj (by decide) (by omega) (by omega) rfl rfl (Nat.le_of_ble_eq_true rfl) d_Ma_writeParts_37 ?_
          have g_83 := h_5.len
          refine G_icmp_eq hC 54 (by omega) (by omega) (by decide) d_Ma_writeParts_40 (fun c_84 => ?_) (fun c_84 => ?_)
          · refine G_iinc (lv' := [(5, vI (parts + 1)), (0, .ref a), (1, .ref p), (2, vI most), (3, vI (b2i tu)), (4, .ref o), (6, vI k)]) hC 5 rfl (by rw [hN]; decide) rfl d_Ma_writeParts_54 ?_
            refine G_aload_n hC 1 rfl rfl d_Ma_writeParts_57 ?_
            refine G_get hC fl_Ma_15 h_81 rfl d_Ma_writeParts_58 ?_
            refine G_iload hC 0 rfl d_Ma_writeParts_61 ?_
            refine G_iload hC 6 rfl d_Ma_writeParts_63 ?_
            refine G_iconst (i := 1) hC d_Ma_writeParts_65 ?_
            refine G_iadd hC d_Ma_writeParts_66 ?_
            refine G_iastX hC hm3 (by omega) (by omega) d_Ma_writeParts_67 (fun M_85 h_86 fr_87 => ?_)
            refine G_iinc (lv' := [(6, vI (k + 1)), (5, vI (parts + 1)), (0, .ref a), (1, .ref p), (2, vI most), (3, vI (b2i tu)), (4, .ref o)]) hC 6 rfl (by rw [hN]; decide) rfl d_Ma_writeParts_68 ?_
            refine G_goto hC 13 (by decide) d_Ma_writeParts_71 ?_
            refine G_lv [2, 3, 4, 5, 6, 1, 0] rfl ?_
            exact ih13 M_85 (parts + 1) (k + 1) _ (by omega) ((hfr1.up (T := [18]) (by simp)).tr' (T := [18]) fr_87 (fun _ z => z) (by simp)) h_86 (by omega) (by rw [stL_yes (k := k) (by omega) (by omega), List.length_cons] at hA; omega) (by rw [stL_yes (k := k) (by omega) (by omega)] at hBd; rw [show (parts + 1).toNat = parts.toNat + 1 by omega]; exact drop_next hBd) (by rw [stL_yes (k := k) (by omega) (by omega)] at hBd; exact starts_step hG hBd (by omega))
          · refine G_aload_n hC 1 rfl rfl d_Ma_writeParts_43 ?_
            refine G_iload hC 6 rfl d_Ma_writeParts_44 ?_
            refine G_pV (rest := []) hC hR (c_By_at h_5 (by omega)) cv_Ma_19 h_5.obj (by decide) (by omega) (by omega) rfl rfl (Nat.le_of_ble_eq_true rfl) d_Ma_writeParts_46 ?_
            have g_88 := h_5.at_rng k
            refine G_bipush (j := 46) hC (by decide +kernel) d_Ma_writeParts_49 ?_
            refine G_icmp_ne hC 68 (by omega) (by decide) (by decide) d_Ma_writeParts_51 (fun c_89 => ?_) (fun c_89 => ?_)
            · refine G_iinc (lv' := [(6, vI (k + 1)), (0, .ref a), (1, .ref p), (2, vI most), (3, vI (b2i tu)), (4, .ref o), (5, vI parts)]) hC 6 rfl (by rw [hN]; decide) rfl d_Ma_writeParts_68 ?_
              refine G_goto hC 13 (by decide) d_Ma_writeParts_71 ?_
              refine G_lv [1, 2, 3, 4, 5, 6, 0] rfl ?_
              exact ih13 M1 parts (k + 1) _ (by omega) (hfr1.up (T := [18]) (by simp)) hm3 (by omega) (by rw [stL_no (k := k) (by omega) (by omega)] at hA; exact hA) (by rw [stL_no (k := k) (by omega) (by omega)] at hBd; exact hBd) hG
            · refine G_iinc (lv' := [(5, vI (parts + 1)), (0, .ref a), (1, .ref p), (2, vI most), (3, vI (b2i tu)), (4, .ref o), (6, vI k)]) hC 5 rfl (by rw [hN]; decide) rfl d_Ma_writeParts_54 ?_
              refine G_aload_n hC 1 rfl rfl d_Ma_writeParts_57 ?_
              refine G_get hC fl_Ma_15 h_81 rfl d_Ma_writeParts_58 ?_
              refine G_iload hC 0 rfl d_Ma_writeParts_61 ?_
              refine G_iload hC 6 rfl d_Ma_writeParts_63 ?_
              refine G_iconst (i := 1) hC d_Ma_writeParts_65 ?_
              refine G_iadd hC d_Ma_writeParts_66 ?_
              refine G_iastX hC hm3 (by omega) (by omega) d_Ma_writeParts_67 (fun M_90 h_91 fr_92 => ?_)
              refine G_iinc (lv' := [(6, vI (k + 1)), (5, vI (parts + 1)), (0, .ref a), (1, .ref p), (2, vI most), (3, vI (b2i tu)), (4, .ref o)]) hC 6 rfl (by rw [hN]; decide) rfl d_Ma_writeParts_68 ?_
              refine G_goto hC 13 (by decide) d_Ma_writeParts_71 ?_
              refine G_lv [2, 3, 4, 5, 6, 1, 0] rfl ?_
              exact ih13 M_90 (parts + 1) (k + 1) _ (by omega) ((hfr1.up (T := [18]) (by simp)).tr' (T := [18]) fr_92 (fun _ z => z) (by simp)) h_91 (by omega) (by rw [stL_yes (k := k) (by omega) (by omega), List.length_cons] at hA; omega) (by rw [stL_yes (k := k) (by omega) (by omega)] at hBd; rw [show (parts + 1).toNat = parts.toNat + 1 by omega]; exact drop_next hBd) (by rw [stL_yes (k := k) (by omega) (by omega)] at hBd; exact starts_step hG hBd (by omega))
  refine G_lv [2, 3, 4, 5, 6, 1, 0] rfl ?_
  exact L13 _ M_1 0 0 _ (Nat.lt_succ_self _) Fr.rf h_2 (by omega) (by omega) rfl (starts_0 g0 _)
