set_option maxHeartbeats 4000000 in
set_option maxRecDepth 100000 in
theorem c_Ma_write {l : Launch} {D : Dg} {b0 : Nat} {M : Mp} {a : Nat} {p : Nat} {fr : Int} {to : Int} {ck : Nat} {o : Nat} {se : Nat} {tr : Nat} {lr : Int} {br : Bv} {tc : Nat} {lc : Int} {bc : Bv} {t : Nat} {lim : Int} {b : Bv} {sd : Snd} {W : Bv} (h_Ma_a : IsMa D M a se) (h_Se_se : IsSe D M se (some sd)) (h_B_p : IsB D M p tr lr br) (h_B_ck : IsB D M ck tc lc bc) (h_B_o : IsB D M o t lim b) (hfr : 0 ≤ fr ∧ fr ≤ 20000 ∧ 0 ≤ to ∧ to ≤ br.2.length) (hck : bc.2.length ≤ 91) (htr : (tr + 1 < t ∨ t + 1 < tr) ∧ (tr + 1 < 17 ∨ 18 < tr)) (htc : (tc + 1 < t ∨ t + 1 < tc) ∧ (tc + 1 < 17 ∨ 18 < tc)) (hts : t + 1 < 8 ∨ 18 < t) (hr : wrL lim sd bc.2 br.2 to fr b = W) : Ok l D b0 6 y_Ma_write b_Ma_write 12 none M [.ref a, .ref p, vI fr, vI to, .ref ck, .ref o] (psi lim W - psi lim b) (psi lim W - psi lim b) (fun r M' => r = none ∧ IsB D M' o t lim W ∧ IsMa D M' a se ∧ Fr [t, t + 1, 18] M M') := by
  refine Ok_of rfl (Nat.le_of_ble_eq_true rfl) (fun E hC hQ hl hD hB hN hR => ?_)
  subst hl hD hB
  have hB9 := h_B_o.len
  have hR9 := h_B_p.len
  have hC9 := h_B_ck.len
  have hsn := h_Se_se.snd
  have hW0 := wrL_gr (lim := lim) (s := sd) (chk := bc.2) (xs := br.2) (to := to) _ fr b (Nat.lt_succ_self _) ⟨by omega, by omega⟩
  rw [hr] at hW0
  show G E M 0 0 [(0, .ref a), (1, .ref p), (2, vI fr), (3, vI to), (4, .ref ck), (5, .ref o)] [] 0
  refine G_iload_n hC 2 rfl rfl d_Ma_write_0 ?_
  refine G_istore (lv' := [(6, vI fr), (0, .ref a), (1, .ref p), (2, vI fr), (3, vI to), (4, .ref ck), (5, .ref o)]) hC (by rw [hN]; decide) rfl d_Ma_write_1 ?_
  have L3 : ∀ (N : Nat) (M1 : Mp) (k : Int) (bb : Bv), (to - k).toNat < N → (Fr [t, t + 1, 18] M M1) → (IsB (eD E) M1 o t lim bb) → (IsMa (eD E) M1 a se) → (fr ≤ k ∧ (k ≤ to ∨ k = fr)) → (wrL lim sd bc.2 br.2 to k bb = W) → (grP lim b bb) → G E M1 (psi lim bb - psi lim b) (psi lim bb - psi lim b) [(0, .ref a), (1, .ref p), (2, vI fr), (3, vI to), (4, .ref ck), (5, .ref o), (6, vI k)] [] 3 := by
    intro N
    induction N with
    | zero => intro M1 k bb hN3 hfr1 hb1 hma hk hW hP; exact absurd hN3 (Nat.not_lt_zero _)
    | succ N ih3 =>
      intro M1 k bb hN3 hfr1 hb1 hma hk hW hP
      have hb1l := hb1.len
      have hWb := wrL_gr (lim := lim) (s := sd) (chk := bc.2) (xs := br.2) (to := to) _ k bb (Nat.lt_succ_self _) hP.2
      rw [hW] at hWb
      refine G_iload hC 6 rfl d_Ma_write_3 ?_
      refine G_iload_n hC 3 rfl rfl d_Ma_write_5 ?_
      refine G_icmp_ge hC 183 (by omega) (by omega) (by decide) d_Ma_write_6 (fun c_1 => ?_) (fun c_1 => ?_)
      · rw [wrL, dif_neg (show ¬ k < to by omega)] at hW
        have hpw : psi lim bb = psi lim W := by rw [hW]
        exact G_return hC hQ (by omega) (by omega) d_Ma_write_183 ⟨rfl, by rw [← hW]; exact hb1, hma, (hfr1.up (T := [t, t + 1, 18]) (by simp))⟩
      · refine G_aload_n hC 1 rfl rfl d_Ma_write_9 ?_
        refine G_iload hC 6 rfl d_Ma_write_10 ?_
        have h_2 := h_B_p.fr hfr1 (by simp only [List.mem_cons, List.not_mem_nil, or_false, not_or, not_false_eq_true]; try omega) (by simp only [List.mem_cons, List.not_mem_nil, or_false, not_or, not_false_eq_true]; try omega)
        refine G_pV (rest := []) hC hR (c_By_at h_2 (by omega)) cv_Ma_19 h_2.obj (by decide) (by omega) (by omega) rfl rfl (Nat.le_of_ble_eq_true rfl) d_Ma_write_12 ?_
        have g_3 := h_2.at_rng k
        refine G_istore (lv' := [(7, vI (atS br.2 k)), (0, .ref a), (1, .ref p), (2, vI fr), (3, vI to), (4, .ref ck), (5, .ref o), (6, vI k)]) hC (by rw [hN]; decide) rfl d_Ma_write_15 ?_
        refine G_iload hC 0 rfl d_Ma_write_17 ?_
        refine G_bipush (j := 37) hC (by decide +kernel) d_Ma_write_19 ?_
        refine G_icmp_ne hC 34 (by omega) (by decide) (by decide) d_Ma_write_21 (fun c_4 => ?_) (fun c_4 => ?_)
        · refine G_iconst (i := 0) hC d_Ma_write_34 ?_
          refine G_istore (lv' := [(8, vI 0), (7, vI (atS br.2 k)), (0, .ref a), (1, .ref p), (2, vI fr), (3, vI to), (4, .ref ck), (5, .ref o), (6, vI k)]) hC (by rw [hN]; decide) rfl d_Ma_write_35 ?_
          refine G_iload hC 0 rfl d_Ma_write_37 ?_
          refine G_if_ne hC 52 (by decide) (by decide) d_Ma_write_39 (fun c_5 => ?_) (fun c_5 => ?_)
          · exact (show False from by omega).elim
          · rw [wrL, dif_pos (show k < to by omega), dif_neg (show ¬ (atS br.2 k = 37 ∧ ¬ mlenS br.2 k to = 0) by omega)] at hW
            have hq1 := psi_addB (lim := lim) (b := bb) (atS br.2 k) hP.2
            have hq3 := wrL_gr (lim := lim) (s := sd) (chk := bc.2) (xs := br.2) (to := to) _ (k + 1) (addB lim bb (atS br.2 k)) (Nat.lt_succ_self _) hq1.2
            rw [hW] at hq3
            refine G_aload hC 7 rfl d_Ma_write_42 ?_
            refine G_iload hC 1 rfl d_Ma_write_44 ?_
            refine G_xV (rest := []) hC hR (c_By_add hb1 (by omega)) cv_Ma_36 hb1.obj (by decide) (by omega) (by omega) rfl rfl (Nat.le_of_ble_eq_true rfl) d_Ma_write_46 (fun r_8 M_6 p_7 => ?_)
            obtain ⟨rfl, h_9, fr_10⟩ := p_7
            show G E M_6 (psi lim bb - psi lim b + (psi lim (addB lim bb (atS br.2 k)) - psi lim bb)) (psi lim bb - psi lim b + (psi lim (addB lim bb (atS br.2 k)) - psi lim bb)) [(8, vI 0), (7, vI (atS br.2 k)), (0, .ref a), (1, .ref p), (2, vI fr), (3, vI to), (4, .ref ck), (5, .ref o), (6, vI k)] [] 49
            have g_11 := psi_addB (lim := lim) (b := bb) (atS br.2 k) ⟨hb1.len.1, hb1.len.2.1⟩
            refine G_goto hC 177 (by decide) d_Ma_write_49 ?_
            refine G_iinc (lv' := [(6, vI (k + 1)), (8, vI 0), (7, vI (atS br.2 k)), (0, .ref a), (1, .ref p), (2, vI fr), (3, vI to), (4, .ref ck), (5, .ref o)]) hC 8 rfl (by rw [hN]; decide) rfl d_Ma_write_177 ?_
            refine G_goto hC 3 (by decide) d_Ma_write_180 ?_
            refine G_lv [3, 4, 5, 6, 7, 8, 0] rfl ?_
            have h_12 := hma.fr fr_10 (by simp only [List.mem_cons, List.not_mem_nil, or_false, not_or, not_false_eq_true]; try omega) (by simp only [List.mem_cons, List.not_mem_nil, or_false, not_or, not_false_eq_true]; try omega)
            refine G_widen (k' := psi lim (addB lim bb (atS br.2 k)) - psi lim b) (n' := psi lim (addB lim bb (atS br.2 k)) - psi lim b) (by omega) (by omega) ?_
            exact ih3 M_6 (k + 1) _ (by omega) ((hfr1.up (T := [t, t + 1, 18]) (by simp)).tr' (T := [t, t + 1, 18]) fr_10 (fun _ z => z) (by simp)) h_9 h_12 (by omega) hW (gr_tr hP hq1)
        · refine G_aload_n hC 2 rfl rfl d_Ma_write_24 ?_
          refine G_iload hC 7 rfl d_Ma_write_25 ?_
          refine G_iload_n hC 4 rfl rfl d_Ma_write_27 ?_
          refine G_pS (rest := []) hC hR (c_Ma_macroLength h_2 (by omega) (by omega) rfl) cs_Ma_25 (by decide) (by omega) (by omega) rfl rfl (Nat.le_of_ble_eq_true rfl) d_Ma_write_28 ?_
          have g_13 := mlenS_rng br.2 k to
          refine G_goto hC 35 (by decide) d_Ma_write_31 ?_
          refine G_istore (lv' := [(8, vI (mlenS br.2 k to)), (7, vI (atS br.2 k)), (0, .ref a), (1, .ref p), (2, vI fr), (3, vI to), (4, .ref ck), (5, .ref o), (6, vI k)]) hC (by rw [hN]; decide) rfl d_Ma_write_35 ?_
          refine G_iload hC 0 rfl d_Ma_write_37 ?_
          refine G_if_ne hC 52 (by omega) (by decide) d_Ma_write_39 (fun c_14 => ?_) (fun c_14 => ?_)
          · refine G_iload hC 0 rfl d_Ma_write_52 ?_
            refine G_iconst (i := 2) hC d_Ma_write_54 ?_
            refine G_icmp_ne hC 77 (by omega) (by decide) (by decide) d_Ma_write_55 (fun c_15 => ?_) (fun c_15 => ?_)
            · rw [wrL, dif_pos (show k < to by omega), dif_pos (show atS br.2 k = 37 ∧ ¬ mlenS br.2 k to = 0 by omega), if_neg (show ¬ mlenS br.2 k to = 2 by omega)] at hW
              refine G_aload_n hC 3 rfl rfl d_Ma_write_77 ?_
              refine G_iload hC 8 rfl d_Ma_write_78 ?_
              refine G_iconst (i := 3) hC d_Ma_write_80 ?_
              refine G_iadd hC d_Ma_write_81 ?_
              refine G_pV (rest := []) hC hR (c_By_at h_2 (by omega)) cv_Ma_19 h_2.obj (by decide) (by omega) (by omega) rfl rfl (Nat.le_of_ble_eq_true rfl) d_Ma_write_82 ?_
              have g_16 := h_2.at_rng (k + 3)
              refine G_pS (rest := []) hC hR (c_Ma_isPartNumber (by omega)) cs_Ma_33 (by decide) (by omega) (by omega) rfl rfl (Nat.le_of_ble_eq_true rfl) d_Ma_write_85 ?_
              refine G_istore (lv' := [(9, vI (b2i (decide (pnP (atS br.2 (k + 3)))))), (8, vI (mlenS br.2 k to)), (7, vI (atS br.2 k)), (0, .ref a), (1, .ref p), (2, vI fr), (3, vI to), (4, .ref ck), (5, .ref o), (6, vI k)]) hC (by rw [hN]; decide) rfl d_Ma_write_88 ?_
              refine G_aload_n hC 4 rfl rfl d_Ma_write_90 ?_
              refine G_iload hC 9 rfl d_Ma_write_91 ?_
              refine G_iload hC 1 rfl d_Ma_write_93 ?_
              refine G_iadd hC d_Ma_write_95 ?_
              refine G_iconst (i := 2) hC d_Ma_write_96 ?_
              refine G_isub hC d_Ma_write_97 ?_
              refine G_pV (rest := []) hC hR (c_By_at h_2 (by omega)) cv_Ma_19 h_2.obj (by decide) (by omega) (by omega) rfl rfl (Nat.le_of_ble_eq_true rfl) d_Ma_write_98 ?_
              have g_17 := h_2.at_rng ((k + (mlenS br.2 k to)) - 2)
              refine G_bipush (j := 114) hC (by decide +kernel) d_Ma_write_101 ?_
              refine G_icmp_ne hC 110 (by omega) (by decide) (by decide) d_Ma_write_103 (fun c_18 => ?_) (fun c_18 => ?_)
              · refine G_iconst (i := 0) hC d_Ma_write_110 ?_
                refine G_istore (lv' := [(10, vI 0), (9, vI (b2i (decide (pnP (atS br.2 (k + 3)))))), (8, vI (mlenS br.2 k to)), (7, vI (atS br.2 k)), (0, .ref a), (1, .ref p), (2, vI fr), (3, vI to), (4, .ref ck), (5, .ref o), (6, vI k)]) hC (by rw [hN]; decide) rfl d_Ma_write_111 ?_
                obtain ⟨r9, g9, hm1, hm2⟩ := id hma
                refine G_aload_n hC 4 rfl rfl d_Ma_write_113 ?_
                refine G_get hC fl_Ma_9 hm1 rfl d_Ma_write_114 ?_
                refine G_aload_n hC 5 rfl rfl d_Ma_write_117 ?_
                refine G_iload hC 10 rfl d_Ma_write_118 ?_
                refine G_iconst (i := 2) hC d_Ma_write_120 ?_
                refine G_iadd hC d_Ma_write_121 ?_
                refine G_pV (rest := [.ref se]) hC hR (c_By_at h_2 (by omega)) cv_Ma_19 h_2.obj (by decide) (by omega) (by omega) rfl rfl (Nat.le_of_ble_eq_true rfl) d_Ma_write_122 ?_
                have g_19 := h_2.at_rng (k + 2)
                refine G_aload hC 8 rfl d_Ma_write_125 ?_
                have h_20 := h_Se_se.fr hfr1 (by intro u hu; simp only [List.mem_cons, List.not_mem_nil, or_false] at hu <;> omega)
                have h_21 := h_B_ck.fr hfr1 (by simp only [List.mem_cons, List.not_mem_nil, or_false, not_or, not_false_eq_true]; try omega) (by simp only [List.mem_cons, List.not_mem_nil, or_false, not_or, not_false_eq_true]; try omega)
                refine G_xV (rest := []) hC hR (c_Se_source h_20 h_21 (by omega)) cv_Ma_44 h_20.obj (by decide) (by omega) (by omega) rfl rfl (Nat.le_of_ble_eq_true rfl) d_Ma_write_127 (fun r_24 M_22 p_23 => ?_)
                obtain ⟨q_25, tq_26, lq_27, bq_28, rfl, h_29, h_30, rfl⟩ := p_23
                show G E M1 (psi lim bb - psi lim b + 0) (psi lim bb - psi lim b + 0) [(10, vI 0), (9, vI (b2i (decide (pnP (atS br.2 (k + 3)))))), (8, vI (mlenS br.2 k to)), (7, vI (atS br.2 k)), (0, .ref a), (1, .ref p), (2, vI fr), (3, vI to), (4, .ref ck), (5, .ref o), (6, vI k)] [.ref q_25] 130
                refine G_astore (lv' := [(11, .ref q_25), (10, vI 0), (9, vI (b2i (decide (pnP (atS br.2 (k + 3)))))), (8, vI (mlenS br.2 k to)), (7, vI (atS br.2 k)), (0, .ref a), (1, .ref p), (2, vI fr), (3, vI to), (4, .ref ck), (5, .ref o), (6, vI k)]) hC (by rw [hN]; decide) rfl d_Ma_write_130 ?_
                refine G_aload_n hC 5 rfl rfl d_Ma_write_132 ?_
                refine G_aload hC 0 rfl d_Ma_write_133 ?_
                refine G_iload hC 2 rfl d_Ma_write_135 ?_
                refine G_if_eq hC 154 (by have := b2i_rng (decide (pnP (atS br.2 (k + 3)))); omega) (by decide) d_Ma_write_137 (fun c_31 => ?_) (fun c_31 => ?_)
                · have c_31 := b2i_eq0.mp c_31
                  have c_31 := of_decide_eq_false c_31
                  refine G_aload hC 0 rfl d_Ma_write_154 ?_
                  refine G_pV (rest := [.ref q_25, .ref a]) hC hR (c_By_size h_29) cv_Ma_50 h_29.obj (by decide) (by omega) (by omega) rfl rfl (Nat.le_of_ble_eq_true rfl) d_Ma_write_156 ?_
                  have g_32 := h_29.len
                  refine G_iconst (i := 1) hC d_Ma_write_159 ?_
                  refine G_iadd hC d_Ma_write_160 ?_
                  refine G_iload hC 1 rfl d_Ma_write_161 ?_
                  refine G_aload hC 10 rfl d_Ma_write_163 ?_
                  have hsl := srcS_len (s := sd) (chk := bc.2) (c := atS br.2 (k + 2)) hsn hck
                  rw [← h_30.1] at hsl
                  have hwp : wpB lim bb bq_28.2 ((bq_28.2.length : Int) + 1) false = wpB lim bb (srcS sd bc.2 (atS br.2 (k + 2))) (mostS sd bc.2 br.2 k) (decide (atS br.2 (k + mlenS br.2 k to - 2) = 114)) := by rw [h_30.1]; unfold mostS; rw [if_neg c_31, decide_eq_false c_18]
                  rw [← hwp] at hW
                  have hq1 := wpB_gr (lim := lim) (b := bb) bq_28.2 ((bq_28.2.length : Int) + 1) false hP.2
                  have hpr := h_30.2
                  have hbl9 := h_29.len
                  have hq3 := wrL_gr (lim := lim) (s := sd) (chk := bc.2) (xs := br.2) (to := to) _ (k + mlenS br.2 k to) (wpB lim bb bq_28.2 ((bq_28.2.length : Int) + 1) false) (Nat.lt_succ_self _) hq1.2
                  rw [hW] at hq3
                  refine G_xV (rest := []) hC hR (c_Ma_writeParts (tu := false) hma h_29 hb1 (by omega) (by omega) (by omega) (by omega) rfl) cv_Ma_54 ⟨_, _, hm1⟩ (by decide) (by omega) (by omega) rfl rfl (Nat.le_of_ble_eq_true rfl) d_Ma_write_165 (fun r_35 M_33 p_34 => ?_)
                  obtain ⟨rfl, h_36, h_37, fr_38⟩ := p_34
                  show G E M_33 (psi lim bb - psi lim b + 0 + (psi lim (wpB lim bb bq_28.2 ((bq_28.2.length : Int) + 1) false) - psi lim bb)) (psi lim bb - psi lim b + 0 + (psi lim (wpB lim bb bq_28.2 ((bq_28.2.length : Int) + 1) false) - psi lim bb)) [(11, .ref q_25), (10, vI 0), (9, vI (b2i (decide (pnP (atS br.2 (k + 3)))))), (8, vI (mlenS br.2 k to)), (7, vI (atS br.2 k)), (0, .ref a), (1, .ref p), (2, vI fr), (3, vI to), (4, .ref ck), (5, .ref o), (6, vI k)] [] 168
                  have g_39 := wpB_gr (lim := lim) (b := bb) bq_28.2 ((bq_28.2.length : Int) + 1) false ⟨hb1.len.1, hb1.len.2.1⟩
                  refine G_iload hC 11 rfl d_Ma_write_168 ?_
                  refine G_iload hC 3 rfl d_Ma_write_170 ?_
                  refine G_iconst (i := 1) hC d_Ma_write_172 ?_
                  refine G_isub hC d_Ma_write_173 ?_
                  refine G_iadd hC d_Ma_write_174 ?_
                  refine G_istore (lv' := [(6, vI (k + ((mlenS br.2 k to) - 1))), (11, .ref q_25), (10, vI 0), (9, vI (b2i (decide (pnP (atS br.2 (k + 3)))))), (8, vI (mlenS br.2 k to)), (7, vI (atS br.2 k)), (0, .ref a), (1, .ref p), (2, vI fr), (3, vI to), (4, .ref ck), (5, .ref o)]) hC (by rw [hN]; decide) rfl d_Ma_write_175 ?_
                  refine G_iinc (lv' := [(6, vI ((k + ((mlenS br.2 k to) - 1)) + 1)), (11, .ref q_25), (10, vI 0), (9, vI (b2i (decide (pnP (atS br.2 (k + 3)))))), (8, vI (mlenS br.2 k to)), (7, vI (atS br.2 k)), (0, .ref a), (1, .ref p), (2, vI fr), (3, vI to), (4, .ref ck), (5, .ref o)]) hC 0 rfl (by rw [hN]; decide) rfl d_Ma_write_177 ?_
                  refine G_goto hC 3 (by decide) d_Ma_write_180 ?_
                  refine G_lv [6, 7, 8, 9, 10, 11, 0] rfl ?_
                  refine G_widen (k' := psi lim (wpB lim bb bq_28.2 ((bq_28.2.length : Int) + 1) false) - psi lim b) (n' := psi lim (wpB lim bb bq_28.2 ((bq_28.2.length : Int) + 1) false) - psi lim b) (by omega) (by omega) ?_
                  exact ih3 M_33 ((k + ((mlenS br.2 k to) - 1)) + 1) _ (by omega) ((hfr1.up (T := [t, t + 1, 18]) (by simp)).tr' (T := [t, t + 1, 18]) fr_38 (fun _ z => z) (by simp)) h_36 h_37 (by omega) (by rw [show (k + ((mlenS br.2 k to) - 1)) + 1 = k + mlenS br.2 k to by omega]; exact hW) (gr_tr hP hq1)
                · have c_31 := b2i_ne0.mp c_31
                  have c_31 := of_decide_eq_true c_31
                  refine G_aload_n hC 6 rfl rfl d_Ma_write_140 ?_
                  refine G_iload hC 11 rfl d_Ma_write_141 ?_
                  refine G_iconst (i := 3) hC d_Ma_write_143 ?_
                  refine G_iadd hC d_Ma_write_144 ?_
                  refine G_pV (rest := [.ref q_25, .ref a]) hC hR (c_By_at h_2 (by omega)) cv_Ma_19 h_2.obj (by decide) (by omega) (by omega) rfl rfl (Nat.le_of_ble_eq_true rfl) d_Ma_write_145 ?_
                  have g_40 := h_2.at_rng (k + 3)
                  refine G_bipush (j := 48) hC (by decide +kernel) d_Ma_write_148 ?_
                  refine G_isub hC d_Ma_write_150 ?_
                  refine G_goto hC 161 (by decide) d_Ma_write_151 ?_
                  refine G_iload hC 1 rfl d_Ma_write_161 ?_
                  refine G_aload hC 10 rfl d_Ma_write_163 ?_
                  have hsl := srcS_len (s := sd) (chk := bc.2) (c := atS br.2 (k + 2)) hsn hck
                  rw [← h_30.1] at hsl
                  have hwp : wpB lim bb bq_28.2 ((atS br.2 (k + 3)) - 48) false = wpB lim bb (srcS sd bc.2 (atS br.2 (k + 2))) (mostS sd bc.2 br.2 k) (decide (atS br.2 (k + mlenS br.2 k to - 2) = 114)) := by rw [h_30.1]; unfold mostS; rw [if_pos c_31, decide_eq_false c_18]
                  rw [← hwp] at hW
                  have hq1 := wpB_gr (lim := lim) (b := bb) bq_28.2 ((atS br.2 (k + 3)) - 48) false hP.2
                  have hpr := h_30.2
                  have hbl9 := h_29.len
                  have hq3 := wrL_gr (lim := lim) (s := sd) (chk := bc.2) (xs := br.2) (to := to) _ (k + mlenS br.2 k to) (wpB lim bb bq_28.2 ((atS br.2 (k + 3)) - 48) false) (Nat.lt_succ_self _) hq1.2
                  rw [hW] at hq3
                  refine G_xV (rest := []) hC hR (c_Ma_writeParts (tu := false) hma h_29 hb1 (by omega) (by omega) (by omega) (by omega) rfl) cv_Ma_54 ⟨_, _, hm1⟩ (by decide) (by omega) (by omega) rfl rfl (Nat.le_of_ble_eq_true rfl) d_Ma_write_165 (fun r_43 M_41 p_42 => ?_)
                  obtain ⟨rfl, h_44, h_45, fr_46⟩ := p_42
                  show G E M_41 (psi lim bb - psi lim b + 0 + (psi lim (wpB lim bb bq_28.2 ((atS br.2 (k + 3)) - 48) false) - psi lim bb)) (psi lim bb - psi lim b + 0 + (psi lim (wpB lim bb bq_28.2 ((atS br.2 (k + 3)) - 48) false) - psi lim bb)) [(11, .ref q_25), (10, vI 0), (9, vI (b2i (decide (pnP (atS br.2 (k + 3)))))), (8, vI (mlenS br.2 k to)), (7, vI (atS br.2 k)), (0, .ref a), (1, .ref p), (2, vI fr), (3, vI to), (4, .ref ck), (5, .ref o), (6, vI k)] [] 168
                  have g_47 := wpB_gr (lim := lim) (b := bb) bq_28.2 ((atS br.2 (k + 3)) - 48) false ⟨hb1.len.1, hb1.len.2.1⟩
                  refine G_iload hC 11 rfl d_Ma_write_168 ?_
                  refine G_iload hC 3 rfl d_Ma_write_170 ?_
                  refine G_iconst (i := 1) hC d_Ma_write_172 ?_
                  refine G_isub hC d_Ma_write_173 ?_
                  refine G_iadd hC d_Ma_write_174 ?_
                  refine G_istore (lv' := [(6, vI (k + ((mlenS br.2 k to) - 1))), (11, .ref q_25), (10, vI 0), (9, vI (b2i (decide (pnP (atS br.2 (k + 3)))))), (8, vI (mlenS br.2 k to)), (7, vI (atS br.2 k)), (0, .ref a), (1, .ref p), (2, vI fr), (3, vI to), (4, .ref ck), (5, .ref o)]) hC (by rw [hN]; decide) rfl d_Ma_write_175 ?_
                  refine G_iinc (lv' := [(6, vI ((k + ((mlenS br.2 k to) - 1)) + 1)), (11, .ref q_25), (10, vI 0), (9, vI (b2i (decide (pnP (atS br.2 (k + 3)))))), (8, vI (mlenS br.2 k to)), (7, vI (atS br.2 k)), (0, .ref a), (1, .ref p), (2, vI fr), (3, vI to), (4, .ref ck), (5, .ref o)]) hC 0 rfl (by rw [hN]; decide) rfl d_Ma_write_177 ?_
                  refine G_goto hC 3 (by decide) d_Ma_write_180 ?_
                  refine G_lv [6, 7, 8, 9, 10, 11, 0] rfl ?_
                  refine G_widen (k' := psi lim (wpB lim bb bq_28.2 ((atS br.2 (k + 3)) - 48) false) - psi lim b) (n' := psi lim (wpB lim bb bq_28.2 ((atS br.2 (k + 3)) - 48) false) - psi lim b) (by omega) (by omega) ?_
                  exact ih3 M_41 ((k + ((mlenS br.2 k to) - 1)) + 1) _ (by omega) ((hfr1.up (T := [t, t + 1, 18]) (by simp)).tr' (T := [t, t + 1, 18]) fr_46 (fun _ z => z) (by simp)) h_44 h_45 (by omega) (by rw [show (k + ((mlenS br.2 k to) - 1)) + 1 = k + mlenS br.2 k to by omega]; exact hW) (gr_tr hP hq1)
              · refine G_iconst (i := 1) hC d_Ma_write_106 ?_
                refine G_goto hC 111 (by decide) d_Ma_write_107 ?_
                refine G_istore (lv' := [(10, vI 1), (9, vI (b2i (decide (pnP (atS br.2 (k + 3)))))), (8, vI (mlenS br.2 k to)), (7, vI (atS br.2 k)), (0, .ref a), (1, .ref p), (2, vI fr), (3, vI to), (4, .ref ck), (5, .ref o), (6, vI k)]) hC (by rw [hN]; decide) rfl d_Ma_write_111 ?_
                obtain ⟨r9, g9, hm1, hm2⟩ := id hma
                refine G_aload_n hC 4 rfl rfl d_Ma_write_113 ?_
                refine G_get hC fl_Ma_9 hm1 rfl d_Ma_write_114 ?_
                refine G_aload_n hC 5 rfl rfl d_Ma_write_117 ?_
                refine G_iload hC 10 rfl d_Ma_write_118 ?_
                refine G_iconst (i := 2) hC d_Ma_write_120 ?_
                refine G_iadd hC d_Ma_write_121 ?_
                refine G_pV (rest := [.ref se]) hC hR (c_By_at h_2 (by omega)) cv_Ma_19 h_2.obj (by decide) (by omega) (by omega) rfl rfl (Nat.le_of_ble_eq_true rfl) d_Ma_write_122 ?_
                have g_48 := h_2.at_rng (k + 2)
                refine G_aload hC 8 rfl d_Ma_write_125 ?_
                have h_49 := h_Se_se.fr hfr1 (by intro u hu; simp only [List.mem_cons, List.not_mem_nil, or_false] at hu <;> omega)
                have h_50 := h_B_ck.fr hfr1 (by simp only [List.mem_cons, List.not_mem_nil, or_false, not_or, not_false_eq_true]; try omega) (by simp only [List.mem_cons, List.not_mem_nil, or_false, not_or, not_false_eq_true]; try omega)
                refine G_xV (rest := []) hC hR (c_Se_source h_49 h_50 (by omega)) cv_Ma_44 h_49.obj (by decide) (by omega) (by omega) rfl rfl (Nat.le_of_ble_eq_true rfl) d_Ma_write_127 (fun r_53 M_51 p_52 => ?_)
                obtain ⟨q_54, tq_55, lq_56, bq_57, rfl, h_58, h_59, rfl⟩ := p_52
                show G E M1 (psi lim bb - psi lim b + 0) (psi lim bb - psi lim b + 0) [(10, vI 1), (9, vI (b2i (decide (pnP (atS br.2 (k + 3)))))), (8, vI (mlenS br.2 k to)), (7, vI (atS br.2 k)), (0, .ref a), (1, .ref p), (2, vI fr), (3, vI to), (4, .ref ck), (5, .ref o), (6, vI k)] [.ref q_54] 130
                refine G_astore (lv' := [(11, .ref q_54), (10, vI 1), (9, vI (b2i (decide (pnP (atS br.2 (k + 3)))))), (8, vI (mlenS br.2 k to)), (7, vI (atS br.2 k)), (0, .ref a), (1, .ref p), (2, vI fr), (3, vI to), (4, .ref ck), (5, .ref o), (6, vI k)]) hC (by rw [hN]; decide) rfl d_Ma_write_130 ?_
                refine G_aload_n hC 5 rfl rfl d_Ma_write_132 ?_
                refine G_aload hC 0 rfl d_Ma_write_133 ?_
                refine G_iload hC 2 rfl d_Ma_write_135 ?_
                refine G_if_eq hC 154 (by have := b2i_rng (decide (pnP (atS br.2 (k + 3)))); omega) (by decide) d_Ma_write_137 (fun c_60 => ?_) (fun c_60 => ?_)
                · have c_60 := b2i_eq0.mp c_60
                  have c_60 := of_decide_eq_false c_60
                  refine G_aload hC 0 rfl d_Ma_write_154 ?_
                  refine G_pV (rest := [.ref q_54, .ref a]) hC hR (c_By_size h_58) cv_Ma_50 h_58.obj (by decide) (by omega) (by omega) rfl rfl (Nat.le_of_ble_eq_true rfl) d_Ma_write_156 ?_
                  have g_61 := h_58.len
                  refine G_iconst (i := 1) hC d_Ma_write_159 ?_
                  refine G_iadd hC d_Ma_write_160 ?_
                  refine G_iload hC 1 rfl d_Ma_write_161 ?_
                  refine G_aload hC 10 rfl d_Ma_write_163 ?_
                  have hsl := srcS_len (s := sd) (chk := bc.2) (c := atS br.2 (k + 2)) hsn hck
                  rw [← h_59.1] at hsl
                  have hwp : wpB lim bb bq_57.2 ((bq_57.2.length : Int) + 1) true = wpB lim bb (srcS sd bc.2 (atS br.2 (k + 2))) (mostS sd bc.2 br.2 k) (decide (atS br.2 (k + mlenS br.2 k to - 2) = 114)) := by rw [h_59.1]; unfold mostS; rw [if_neg c_60, decide_eq_true c_18]
                  rw [← hwp] at hW
                  have hq1 := wpB_gr (lim := lim) (b := bb) bq_57.2 ((bq_57.2.length : Int) + 1) true hP.2
                  have hpr := h_59.2
                  have hbl9 := h_58.len
                  have hq3 := wrL_gr (lim := lim) (s := sd) (chk := bc.2) (xs := br.2) (to := to) _ (k + mlenS br.2 k to) (wpB lim bb bq_57.2 ((bq_57.2.length : Int) + 1) true) (Nat.lt_succ_self _) hq1.2
                  rw [hW] at hq3
                  refine G_xV (rest := []) hC hR (c_Ma_writeParts (tu := true) hma h_58 hb1 (by omega) (by omega) (by omega) (by omega) rfl) cv_Ma_54 ⟨_, _, hm1⟩ (by decide) (by omega) (by omega) rfl rfl (Nat.le_of_ble_eq_true rfl) d_Ma_write_165 (fun r_64 M_62 p_63 => ?_)
                  obtain ⟨rfl, h_65, h_66, fr_67⟩ := p_63
                  show G E M_62 (psi lim bb - psi lim b + 0 + (psi lim (wpB lim bb bq_57.2 ((bq_57.2.length : Int) + 1) true) - psi lim bb)) (psi lim bb - psi lim b + 0 + (psi lim (wpB lim bb bq_57.2 ((bq_57.2.length : Int) + 1) true) - psi lim bb)) [(11, .ref q_54), (10, vI 1), (9, vI (b2i (decide (pnP (atS br.2 (k + 3)))))), (8, vI (mlenS br.2 k to)), (7, vI (atS br.2 k)), (0, .ref a), (1, .ref p), (2, vI fr), (3, vI to), (4, .ref ck), (5, .ref o), (6, vI k)] [] 168
                  have g_68 := wpB_gr (lim := lim) (b := bb) bq_57.2 ((bq_57.2.length : Int) + 1) true ⟨hb1.len.1, hb1.len.2.1⟩
                  refine G_iload hC 11 rfl d_Ma_write_168 ?_
                  refine G_iload hC 3 rfl d_Ma_write_170 ?_
                  refine G_iconst (i := 1) hC d_Ma_write_172 ?_
                  refine G_isub hC d_Ma_write_173 ?_
                  refine G_iadd hC d_Ma_write_174 ?_
                  refine G_istore (lv' := [(6, vI (k + ((mlenS br.2 k to) - 1))), (11, .ref q_54), (10, vI 1), (9, vI (b2i (decide (pnP (atS br.2 (k + 3)))))), (8, vI (mlenS br.2 k to)), (7, vI (atS br.2 k)), (0, .ref a), (1, .ref p), (2, vI fr), (3, vI to), (4, .ref ck), (5, .ref o)]) hC (by rw [hN]; decide) rfl d_Ma_write_175 ?_
                  refine G_iinc (lv' := [(6, vI ((k + ((mlenS br.2 k to) - 1)) + 1)), (11, .ref q_54), (10, vI 1), (9, vI (b2i (decide (pnP (atS br.2 (k + 3)))))), (8, vI (mlenS br.2 k to)), (7, vI (atS br.2 k)), (0, .ref a), (1, .ref p), (2, vI fr), (3, vI to), (4, .ref ck), (5, .ref o)]) hC 0 rfl (by rw [hN]; decide) rfl d_Ma_write_177 ?_
                  refine G_goto hC 3 (by decide) d_Ma_write_180 ?_
                  refine G_lv [6, 7, 8, 9, 10, 11, 0] rfl ?_
                  refine G_widen (k' := psi lim (wpB lim bb bq_57.2 ((bq_57.2.length : Int) + 1) true) - psi lim b) (n' := psi lim (wpB lim bb bq_57.2 ((bq_57.2.length : Int) + 1) true) - psi lim b) (by omega) (by omega) ?_
                  exact ih3 M_62 ((k + ((mlenS br.2 k to) - 1)) + 1) _ (by omega) ((hfr1.up (T := [t, t + 1, 18]) (by simp)).tr' (T := [t, t + 1, 18]) fr_67 (fun _ z => z) (by simp)) h_65 h_66 (by omega) (by rw [show (k + ((mlenS br.2 k to) - 1)) + 1 = k + mlenS br.2 k to by omega]; exact hW) (gr_tr hP hq1)
                · have c_60 := b2i_ne0.mp c_60
                  have c_60 := of_decide_eq_true c_60
                  refine G_aload_n hC 6 rfl rfl d_Ma_write_140 ?_
                  refine G_iload hC 11 rfl d_Ma_write_141 ?_
                  refine G_iconst (i := 3) hC d_Ma_write_143 ?_
                  refine G_iadd hC d_Ma_write_144 ?_
                  refine G_pV (rest := [.ref q_54, .ref a]) hC hR (c_By_at h_2 (by omega)) cv_Ma_19 h_2.obj (by decide) (by omega) (by omega) rfl rfl (Nat.le_of_ble_eq_true rfl) d_Ma_write_145 ?_
                  have g_69 := h_2.at_rng (k + 3)
                  refine G_bipush (j := 48) hC (by decide +kernel) d_Ma_write_148 ?_
                  refine G_isub hC d_Ma_write_150 ?_
                  refine G_goto hC 161 (by decide) d_Ma_write_151 ?_
                  refine G_iload hC 1 rfl d_Ma_write_161 ?_
                  refine G_aload hC 10 rfl d_Ma_write_163 ?_
                  have hsl := srcS_len (s := sd) (chk := bc.2) (c := atS br.2 (k + 2)) hsn hck
                  rw [← h_59.1] at hsl
                  have hwp : wpB lim bb bq_57.2 ((atS br.2 (k + 3)) - 48) true = wpB lim bb (srcS sd bc.2 (atS br.2 (k + 2))) (mostS sd bc.2 br.2 k) (decide (atS br.2 (k + mlenS br.2 k to - 2) = 114)) := by rw [h_59.1]; unfold mostS; rw [if_pos c_60, decide_eq_true c_18]
                  rw [← hwp] at hW
                  have hq1 := wpB_gr (lim := lim) (b := bb) bq_57.2 ((atS br.2 (k + 3)) - 48) true hP.2
                  have hpr := h_59.2
                  have hbl9 := h_58.len
                  have hq3 := wrL_gr (lim := lim) (s := sd) (chk := bc.2) (xs := br.2) (to := to) _ (k + mlenS br.2 k to) (wpB lim bb bq_57.2 ((atS br.2 (k + 3)) - 48) true) (Nat.lt_succ_self _) hq1.2
                  rw [hW] at hq3
                  refine G_xV (rest := []) hC hR (c_Ma_writeParts (tu := true) hma h_58 hb1 (by omega) (by omega) (by omega) (by omega) rfl) cv_Ma_54 ⟨_, _, hm1⟩ (by decide) (by omega) (by omega) rfl rfl (Nat.le_of_ble_eq_true rfl) d_Ma_write_165 (fun r_72 M_70 p_71 => ?_)
                  obtain ⟨rfl, h_73, h_74, fr_75⟩ := p_71
                  show G E M_70 (psi lim bb - psi lim b + 0 + (psi lim (wpB lim bb bq_57.2 ((atS br.2 (k + 3)) - 48) true) - psi lim bb)) (psi lim bb - psi lim b + 0 + (psi lim (wpB lim bb bq_57.2 ((atS br.2 (k + 3)) - 48) true) - psi lim bb)) [(11, .ref q_54), (10, vI 1), (9, vI (b2i (decide (pnP (atS br.2 (k + 3)))))), (8, vI (mlenS br.2 k to)), (7, vI (atS br.2 k)), (0, .ref a), (1, .ref p), (2, vI fr), (3, vI to), (4, .ref ck), (5, .ref o), (6, vI k)] [] 168
                  have g_76 := wpB_gr (lim := lim) (b := bb) bq_57.2 ((atS br.2 (k + 3)) - 48) true ⟨hb1.len.1, hb1.len.2.1⟩
                  refine G_iload hC 11 rfl d_Ma_write_168 ?_
                  refine G_iload hC 3 rfl d_Ma_write_170 ?_
                  refine G_iconst (i := 1) hC d_Ma_write_172 ?_
                  refine G_isub hC d_Ma_write_173 ?_
                  refine G_iadd hC d_Ma_write_174 ?_
                  refine G_istore (lv' := [(6, vI (k + ((mlenS br.2 k to) - 1))), (11, .ref q_54), (10, vI 1), (9, vI (b2i (decide (pnP (atS br.2 (k + 3)))))), (8, vI (mlenS br.2 k to)), (7, vI (atS br.2 k)), (0, .ref a), (1, .ref p), (2, vI fr), (3, vI to), (4, .ref ck), (5, .ref o)]) hC (by rw [hN]; decide) rfl d_Ma_write_175 ?_
                  refine G_iinc (lv' := [(6, vI ((k + ((mlenS br.2 k to) - 1)) + 1)), (11, .ref q_54), (10, vI 1), (9, vI (b2i (decide (pnP (atS br.2 (k + 3)))))), (8, vI (mlenS br.2 k to)), (7, vI (atS br.2 k)), (0, .ref a), (1, .ref p), (2, vI fr), (3, vI to), (4, .ref ck), (5, .ref o)]) hC 0 rfl (by rw [hN]; decide) rfl d_Ma_write_177 ?_
                  refine G_goto hC 3 (by decide) d_Ma_write_180 ?_
                  refine G_lv [6, 7, 8, 9, 10, 11, 0] rfl ?_
                  refine G_widen (k' := psi lim (wpB lim bb bq_57.2 ((atS br.2 (k + 3)) - 48) true) - psi lim b) (n' := psi lim (wpB lim bb bq_57.2 ((atS br.2 (k + 3)) - 48) true) - psi lim b) (by omega) (by omega) ?_
                  exact ih3 M_70 ((k + ((mlenS br.2 k to) - 1)) + 1) _ (by omega) ((hfr1.up (T := [t, t + 1, 18]) (by simp)).tr' (T := [t, t + 1, 18]) fr_75 (fun _ z => z) (by simp)) h_73 h_74 (by omega) (by rw [show (k + ((mlenS br.2 k to) - 1)) + 1 = k + mlenS br.2 k to by omega]; exact hW) (gr_tr hP hq1)
            · rw [wrL, dif_pos (show k < to by omega), dif_pos (show atS br.2 k = 37 ∧ ¬ mlenS br.2 k to = 0 by omega), if_pos (show mlenS br.2 k to = 2 by omega)] at hW
              have hq1 := wsB_gr (lim := lim) (b := bb) (atS br.2 (k + 1)) hP.2
              have hq3 := wrL_gr (lim := lim) (s := sd) (chk := bc.2) (xs := br.2) (to := to) _ (k + mlenS br.2 k to) (wsB lim bb (atS br.2 (k + 1))) (Nat.lt_succ_self _) hq1.2
              rw [hW] at hq3
              refine G_aload_n hC 3 rfl rfl d_Ma_write_58 ?_
              refine G_iload hC 8 rfl d_Ma_write_59 ?_
              refine G_iconst (i := 1) hC d_Ma_write_61 ?_
              refine G_iadd hC d_Ma_write_62 ?_
              refine G_pV (rest := []) hC hR (c_By_at h_2 (by omega)) cv_Ma_19 h_2.obj (by decide) (by omega) (by omega) rfl rfl (Nat.le_of_ble_eq_true rfl) d_Ma_write_63 ?_
              have g_77 := h_2.at_rng (k + 1)
              refine G_aload hC 7 rfl d_Ma_write_66 ?_
              refine G_xS (rest := []) hC hR (c_Ma_writeSign hb1 (by omega)) cs_Ma_40 (by decide) (by omega) (by omega) rfl rfl (Nat.le_of_ble_eq_true rfl) d_Ma_write_68 (fun r_80 M_78 p_79 => ?_)
              obtain ⟨rfl, h_81, fr_82⟩ := p_79
              show G E M_78 (psi lim bb - psi lim b + (psi lim (wsB lim bb (atS br.2 (k + 1))) - psi lim bb)) (psi lim bb - psi lim b + (psi lim (wsB lim bb (atS br.2 (k + 1))) - psi lim bb)) [(8, vI (mlenS br.2 k to)), (7, vI (atS br.2 k)), (0, .ref a), (1, .ref p), (2, vI fr), (3, vI to), (4, .ref ck), (5, .ref o), (6, vI k)] [] 71
              have g_83 := wsB_gr (lim := lim) (b := bb) (atS br.2 (k + 1)) ⟨hb1.len.1, hb1.len.2.1⟩
              refine G_iinc (lv' := [(6, vI (k + 1)), (8, vI (mlenS br.2 k to)), (7, vI (atS br.2 k)), (0, .ref a), (1, .ref p), (2, vI fr), (3, vI to), (4, .ref ck), (5, .ref o)]) hC 8 rfl (by rw [hN]; decide) rfl d_Ma_write_71 ?_
              refine G_goto hC 177 (by decide) d_Ma_write_74 ?_
              refine G_iinc (lv' := [(6, vI ((k + 1) + 1)), (8, vI (mlenS br.2 k to)), (7, vI (atS br.2 k)), (0, .ref a), (1, .ref p), (2, vI fr), (3, vI to), (4, .ref ck), (5, .ref o)]) hC 0 rfl (by rw [hN]; decide) rfl d_Ma_write_177 ?_
              refine G_goto hC 3 (by decide) d_Ma_write_180 ?_
              refine G_lv [3, 4, 5, 6, 7, 8, 0] rfl ?_
              have h_84 := hma.fr fr_82 (by simp only [List.mem_cons, List.not_mem_nil, or_false, not_or, not_false_eq_true]; try omega) (by simp only [List.mem_cons, List.not_mem_nil, or_false, not_or, not_false_eq_true]; try omega)
              refine G_widen (k' := psi lim (wsB lim bb (atS br.2 (k + 1))) - psi lim b) (n' := psi lim (wsB lim bb (atS br.2 (k + 1))) - psi lim b) (by omega) (by omega) ?_
              exact ih3 M_78 ((k + 1) + 1) _ (by omega) ((hfr1.up (T := [t, t + 1, 18]) (by simp)).tr' (T := [t, t + 1, 18]) fr_82 (fun _ z => z) (by simp)) h_81 h_84 (by omega) (by rw [show (k + 1) + 1 = k + mlenS br.2 k to by omega]; exact hW) (gr_tr hP hq1)
          · rw [wrL, dif_pos (show k < to by omega), dif_neg (show ¬ (atS br.2 k = 37 ∧ ¬ mlenS br.2 k to = 0) by omega)] at hW
            have hq1 := psi_addB (lim := lim) (b := bb) (atS br.2 k) hP.2
            have hq3 := wrL_gr (lim := lim) (s := sd) (chk := bc.2) (xs := br.2) (to := to) _ (k + 1) (addB lim bb (atS br.2 k)) (Nat.lt_succ_self _) hq1.2
            rw [hW] at hq3
            refine G_aload hC 7 rfl d_Ma_write_42 ?_
            refine G_iload hC 1 rfl d_Ma_write_44 ?_
            refine G_xV (rest := []) hC hR (c_By_add hb1 (by omega)) cv_Ma_36 hb1.obj (by decide) (by omega) (by omega) rfl rfl (Nat.le_of_ble_eq_true rfl) d_Ma_write_46 (fun r_87 M_85 p_86 => ?_)
            obtain ⟨rfl, h_88, fr_89⟩ := p_86
            show G E M_85 (psi lim bb - psi lim b + (psi lim (addB lim bb (atS br.2 k)) - psi lim bb)) (psi lim bb - psi lim b + (psi lim (addB lim bb (atS br.2 k)) - psi lim bb)) [(8, vI (mlenS br.2 k to)), (7, vI (atS br.2 k)), (0, .ref a), (1, .ref p), (2, vI fr), (3, vI to), (4, .ref ck), (5, .ref o), (6, vI k)] [] 49
            have g_90 := psi_addB (lim := lim) (b := bb) (atS br.2 k) ⟨hb1.len.1, hb1.len.2.1⟩
            refine G_goto hC 177 (by decide) d_Ma_write_49 ?_
            refine G_iinc (lv' := [(6, vI (k + 1)), (8, vI (mlenS br.2 k to)), (7, vI (atS br.2 k)), (0, .ref a), (1, .ref p), (2, vI fr), (3, vI to), (4, .ref ck), (5, .ref o)]) hC 8 rfl (by rw [hN]; decide) rfl d_Ma_write_177 ?_
            refine G_goto hC 3 (by decide) d_Ma_write_180 ?_
            refine G_lv [3, 4, 5, 6, 7, 8, 0] rfl ?_
            have h_91 := hma.fr fr_89 (by simp only [List.mem_cons, List.not_mem_nil, or_false, not_or, not_false_eq_true]; try omega) (by simp only [List.mem_cons, List.not_mem_nil, or_false, not_or, not_false_eq_true]; try omega)
            refine G_widen (k' := psi lim (addB lim bb (atS br.2 k)) - psi lim b) (n' := psi lim (addB lim bb (atS br.2 k)) - psi lim b) (by omega) (by omega) ?_
            exact ih3 M_85 (k + 1) _ (by omega) ((hfr1.up (T := [t, t + 1, 18]) (by simp)).tr' (T := [t, t + 1, 18]) fr_89 (fun _ z => z) (by simp)) h_88 h_91 (by omega) hW (gr_tr hP hq1)
  refine G_lv [1, 2, 3, 4, 5, 6, 0] rfl ?_
  refine G_widen (k' := psi lim b - psi lim b) (n' := psi lim b - psi lim b) (by omega) (by omega) ?_
  exact L3 _ M fr _ (Nat.lt_succ_self _) Fr.rf h_B_o h_Ma_a (by omega) hr (gr_rf ⟨by omega, by omega⟩)
