set_option maxHeartbeats 4000000 in
set_option maxRecDepth 100000 in
theorem c_Ch_checkStep {l : Launch} {D : Dg} {b0 : Nat} {M : Mp} {a : Nat} {dd : Int} {di : Nat} {se : Nat} {ma : Nat} {lv : Nat} {tg : Nat} {cn : Int} {vo : Int} {es : List Ent} {f : Nat → Option Nat} {bt : Bv} {L : Nat} {nm : Nat} {te : Nat} {rf : Int} {rt : Int} {k0 : Int} {s0 : Int} {n0 : Int} {w0 : Int32} {f0 : Int} {o0 : Int} {sd : Snd} {d : Nat} {X : List Int} {R : Rs} (h_obj_a : M a = some (19, .inr (cCh, [.ref di, .ref se, .ref ma, .ref lv, .ref tg, vI cn, vI vo]))) (h_Dir_di : IsDir D M di es) (h_Se_se : IsSe D M se (some sd)) (h_Ma_ma : IsMa D M ma se) (h_arR_lv : M lv = some (20, arR D 3 11 f)) (h_B_tg : IsB D M tg 21 61 bt) (h_LvA_f : LvA D M f (d + 1)) (h_obj_L : M L = some (100 + 4 * d, .inr (cLe, [.ref nm, .ref te, vI rf, vI rt]))) (h_B_nm : IsB D M nm (100 + 4 * d + 1) 61 (61, X)) (h_obj_te : M te = some (100 + 4 * d + 3, .inr (cTe, [vI k0, vI s0, vI n0, .int w0, vI f0, vI o0]))) (IH : d < 10 → ChkOK l D b0 es sd f (d + 1)) (hfd : f d = some L) (hbt : bt.1 = 61) (hdd : dd = (d : Int) ∧ d < 11) (hok : okC cn vo) (hX : X.length ≤ 61) (hr : chkS es sd (11 - d) X cn vo = R) : Ok l D b0 (12 + 4 * (11 - d)) y_Ch_check b_Ch_check 6 (some .int) M [.ref a, vI dd] 0 0 (fun r M' => ∃ bt9 : Bv, ∃ rf9 : Int, ∃ rt9 : Int, ∃ k9 : Int, ∃ s9 : Int, ∃ n9 : Int, ∃ w9 : Int32, ∃ f9 : Int, ∃ o9 : Int, r = some (vI R.1) ∧ M' a = some (19, .inr (cCh, [.ref di, .ref se, .ref ma, .ref lv, .ref tg, vI R.2.1, vI R.2.2])) ∧ IsB D M' tg 21 61 bt9 ∧ IsMa D M' ma se ∧ M' L = some (100 + 4 * d, .inr (cLe, [.ref nm, .ref te, vI rf9, vI rt9])) ∧ M' te = some (100 + 4 * d + 3, .inr (cTe, [vI k9, vI s9, vI n9, .int w9, vI f9, vI o9])) ∧ LvA D M' f (d + 1) ∧ (bt9.1 = 61) ∧ Fr ([18, 19, 21, 22, 100 + 4 * d, 100 + 4 * d + 3] ++ lvT (d + 1)) M M') := by
  refine Ok_of rfl (Nat.le_of_ble_eq_true rfl) (fun E hC hQ hl hD hB hN hR => ?_)
  subst hl hD hB
  have hX8 : (((61 : Nat), X) : Bv).2.length ≤ 61 := hX
  have hdl := h_Dir_di.len
  rw [show 11 - d = (10 - d) + 1 by omega, chkS] at hr
  show G E M 0 0 [(0, .ref a), (1, vI dd)] [] 0
  refine G_iload_n hC 1 rfl rfl d_Ch_check_0 ?_
  refine G_if_lt hC 13 (by omega) (by decide) d_Ch_check_1 (fun c_1 => ?_) (fun c_1 => ?_)
  · exact (show False from by omega).elim
  · refine G_iload_n hC 1 rfl rfl d_Ch_check_4 ?_
    refine G_aload_n hC 0 rfl rfl d_Ch_check_5 ?_
    refine G_get hC fl_Ch_25 h_obj_a rfl d_Ch_check_6 ?_
    refine G_alen (q := 3) hC h_arR_lv rfl d_Ch_check_9 ?_
    refine G_icmp_lt hC 16 (by omega) (by omega) (by decide) d_Ch_check_10 (fun c_2 => ?_) (fun c_2 => ?_)
    · refine G_aload_n hC 0 rfl rfl d_Ch_check_16 ?_
      refine G_get hC fl_Ch_25 h_obj_a rfl d_Ch_check_17 ?_
      refine G_iload_n hC 1 rfl rfl d_Ch_check_20 ?_
      refine G_aald hC h_arR_lv rfl (by omega) (by omega) (by rw [show (dd : Int).toNat = d by omega, hfd]) d_Ch_check_21 ?_
      refine G_astore_n (lv' := [(2, .ref L), (0, .ref a), (1, vI dd)]) hC rfl (by rw [hN]; decide) rfl d_Ch_check_22 ?_
      refine G_aload_n hC 1 rfl rfl d_Ch_check_23 ?_
      refine G_get hC fl_Ch_9 h_obj_a rfl d_Ch_check_24 ?_
      refine G_iconst (i := 3) hC d_Ch_check_27 ?_
      refine G_aload_n hC 0 rfl rfl d_Ch_check_28 ?_
      refine G_get hC fl_Ch_46 h_obj_L rfl d_Ch_check_29 ?_
      refine G_pV (rest := []) hC hR (c_Di_has h_Dir_di h_B_nm (by omega) rfl) cv_Ch_66 h_Dir_di.obj (by omega) (by omega) (by omega) rfl rfl (Nat.le_of_ble_eq_true rfl) d_Ch_check_32 ?_
      refine G_if_eq hC 40 (by have := b2i_rng (hasD es 3 ((61 : Nat), X).2); omega) (by decide) d_Ch_check_35 (fun c_3 => ?_) (fun c_3 => ?_)
      · have c_3 := b2i_eq0.mp c_3
        rw [if_neg (show ¬ hasD es 3 X = true from fun z => by have z2 := c_3.symm.trans z; cases z2)] at hr
        refine G_aload_n hC 1 rfl rfl d_Ch_check_40 ?_
        refine G_get hC fl_Ch_9 h_obj_a rfl d_Ch_check_41 ?_
        refine G_aload_n hC 0 rfl rfl d_Ch_check_44 ?_
        refine G_get hC fl_Ch_46 h_obj_L rfl d_Ch_check_45 ?_
        refine G_pV (rest := []) hC hR (c_Di_policies h_Dir_di h_B_nm rfl) cv_Ch_72 h_Dir_di.obj (by omega) (by omega) (by omega) rfl rfl (Nat.le_of_ble_eq_true rfl) d_Ch_check_48 ?_
        refine G_istore_n (lv' := [(3, vI ((es.filter (isP ((61 : Nat), X).2)).length : Int)), (2, .ref L), (0, .ref a), (1, vI dd)]) hC rfl (by rw [hN]; decide) rfl d_Ch_check_51 ?_
        refine G_aload_n hC 2 rfl rfl d_Ch_check_52 ?_
        refine G_get hC fl_Ch_9 h_obj_a rfl d_Ch_check_53 ?_
        refine G_aload_n hC 1 rfl rfl d_Ch_check_56 ?_
        refine G_get hC fl_Ch_46 h_obj_L rfl d_Ch_check_57 ?_
        obtain ⟨fl, hpol⟩ : ∃ fl, es.filter (isP X) = fl := ⟨_, rfl⟩
        have hfle : (es.filter (isP ((61 : Nat), X).2)).length ≤ es.length := List.length_filter_le _ _
        rcases fl with _ | ⟨x, lst⟩
        · rw [hpol] at hr
          dsimp only at hr
          have hlen : ((es.filter (isP ((61 : Nat), X).2)).length : Int) = 0 := by show ((es.filter (isP X)).length : Int) = 0; rw [hpol]; rfl
          refine G_pV (rest := []) hC hR (c_Di_policy0 h_Dir_di h_B_nm hpol) cv_Ch_76 h_Dir_di.obj (by omega) (by omega) (by omega) rfl rfl (Nat.le_of_ble_eq_true rfl) d_Ch_check_60 ?_
          refine G_astoreN (lv' := [(4, .null), (3, vI ((es.filter (isP ((61 : Nat), X).2)).length : Int)), (2, .ref L), (0, .ref a), (1, vI dd)]) hC (by rw [hN]; decide) rfl d_Ch_check_63 ?_
          refine G_iload_n hC 1 rfl rfl d_Ch_check_65 ?_
          refine G_if_eq hC 74 (by omega) (by decide) d_Ch_check_66 (fun c_4 => ?_) (fun c_4 => ?_)
          · refine G_iconst (i := 0) hC d_Ch_check_74 ?_
            have hP : R = (0, cn, vo) := hr.symm
            subst hP
            exact G_iretX hC hQ (by omega) (by omega) d_Ch_check_75 ⟨_, _, _, _, _, _, _, _, _, rfl, h_obj_a, h_B_tg, h_Ma_ma, h_obj_L, h_obj_te, h_LvA_f, hbt, Fr.rf⟩
          · exact (show False from by omega).elim
        · rw [hpol] at hr
          dsimp only at hr
          have hlen : ((es.filter (isP ((61 : Nat), X).2)).length : Int) = (lst.length : Int) + 1 := by show ((es.filter (isP X)).length : Int) = _; rw [hpol, List.length_cons]; omega
          refine G_xV (rest := []) hC hR (c_Di_policy1 h_Dir_di h_B_nm hpol) cv_Ch_76 h_Dir_di.obj (by omega) (by omega) (by omega) rfl rfl (Nat.le_of_ble_eq_true rfl) d_Ch_check_60 (fun r_7 M_5 p_6 => ?_)
          obtain ⟨q_8, tq_9, lq_10, bq_11, rfl, h_12, h_13, rfl⟩ := p_6
          show G E M (0 + 0) (0 + 0) [(3, vI ((es.filter (isP ((61 : Nat), X).2)).length : Int)), (2, .ref L), (0, .ref a), (1, vI dd)] [.ref q_8] 63
          refine G_astore (lv' := [(4, .ref q_8), (3, vI ((es.filter (isP ((61 : Nat), X).2)).length : Int)), (2, .ref L), (0, .ref a), (1, vI dd)]) hC (by rw [hN]; decide) rfl d_Ch_check_63 ?_
          refine G_iload_n hC 1 rfl rfl d_Ch_check_65 ?_
          refine G_if_eq hC 74 (by omega) (by decide) d_Ch_check_66 (fun c_14 => ?_) (fun c_14 => ?_)
          · exact (show False from by omega).elim
          · refine G_aload hC 0 rfl d_Ch_check_69 ?_
            refine G_ifnonnull hC 76 (by decide) d_Ch_check_71 ?_
            have hpr := h_13.2
            have hbq := h_13.1
            rw [← hbq] at hr
            refine G_iload_n hC 1 rfl rfl d_Ch_check_76 ?_
            refine G_iconst (i := 1) hC d_Ch_check_77 ?_
            refine G_icmp_gt hC 90 (by omega) (by decide) (by decide) d_Ch_check_78 (fun c_15 => ?_) (fun c_15 => ?_)
            · refine G_bipush (j := 6) hC (by decide +kernel) d_Ch_check_90 ?_
              have hP : R = (6, cn, vo) := by rw [if_pos (show ¬ lst = [] from fun z => by have z1 := congrArg List.length z; rw [List.length_nil] at z1; omega)] at hr; exact hr.symm
              subst hP
              exact G_iretX hC hQ (by omega) (by omega) d_Ch_check_92 ⟨_, _, _, _, _, _, _, _, _, rfl, h_obj_a, h_B_tg, h_Ma_ma, h_obj_L, h_obj_te, h_LvA_f, hbt, Fr.rf⟩
            · obtain rfl : lst = [] := List.length_eq_zero_iff.mp (by omega)
              rw [if_neg (show ¬ ¬ ([] : List Ent) = [] from fun z => z rfl)] at hr
              refine G_aload_n hC 2 rfl rfl d_Ch_check_81 ?_
              refine G_aload hC 0 rfl d_Ch_check_82 ?_
              refine G_xV (rest := []) hC hR (c_Le_readTerms h_obj_L h_obj_te h_12 (by omega) rfl) cv_Ch_80 ⟨_, _, h_obj_L⟩ (by omega) (by omega) (by omega) rfl rfl (Nat.le_of_ble_eq_true rfl) d_Ch_check_84 (fun r_18 M_16 p_17 => ?_)
              obtain ⟨k9_19, s9_20, n9_21, w9_22, f9_23, o9_24, rf9_25, rt9_26, rfl, h_27, h_28, h_29, fr_30⟩ := p_17
              show G E M_16 (0 + 0 + 0) (0 + 0 + 0) [(4, .ref q_8), (3, vI ((es.filter (isP ((61 : Nat), X).2)).length : Int)), (2, .ref L), (0, .ref a), (1, vI dd)] [vI (b2i (rtL bq_11.2 7 none).isSome)] 87
              refine G_if_ne hC 93 (by have := b2i_rng ((rtL bq_11.2 7 none).isSome); omega) (by decide) d_Ch_check_87 (fun c_31 => ?_) (fun c_31 => ?_)
              · have c_31 := b2i_ne0.mp c_31
                obtain ⟨rd, hrd⟩ := isS_t c_31
                have hrp := h_29 rd hrd
                have hrg := rdP_rng hrp
                rw [hrd] at hr
                dsimp only at hr
                have hcv := fmL_cv (mt := matS (chkS es sd (10 - d)) (decide (0 < 10 - d)) es sd X bq_11.2) (txt := bq_11.2) (fun tm cn vo ho => matS_cv (fun X cn vo ho => chkS_cv es sd _ X cn vo ho) ho) _ 7 cn vo (Nat.lt_succ_self _) hok
                unfold cvP at hcv
                have h_32 := h_12.fr fr_30 (by simp only [List.mem_cons, List.not_mem_nil, or_false, not_or, not_false_eq_true]; try omega) (by simp only [List.mem_cons, List.not_mem_nil, or_false, not_or, not_false_eq_true]; try omega)
                have hbl := h_32.len
                refine G_aload_n hC 3 rfl rfl d_Ch_check_93 ?_
                refine G_aload hC 0 rfl d_Ch_check_94 ?_
                refine G_iload_n hC 4 rfl rfl d_Ch_check_96 ?_
                have h_33 := fr_30.at h_obj_a (by simp only [List.mem_cons, List.not_mem_nil, or_false, not_or, not_false_eq_true]; try omega)
                have h_34 := h_Dir_di.fr fr_30 (by intro u hu; simp only [List.mem_cons, List.not_mem_nil, or_false] at hu <;> omega)
                have h_35 := h_Se_se.fr fr_30 (by intro u hu; simp only [List.mem_cons, List.not_mem_nil, or_false] at hu <;> omega)
                have h_36 := h_Ma_ma.fr fr_30 (by simp only [List.mem_cons, List.not_mem_nil, or_false, not_or, not_false_eq_true]; try omega) (by simp only [List.mem_cons, List.not_mem_nil, or_false, not_or, not_false_eq_true]; try omega)
                have h_37 := fr_30.at h_arR_lv (by simp only [List.mem_cons, List.not_mem_nil, or_false, not_or, not_false_eq_true]; try omega)
                have h_38 := h_B_tg.fr fr_30 (by simp only [List.mem_cons, List.not_mem_nil, or_false, not_or, not_false_eq_true]; try omega) (by simp only [List.mem_cons, List.not_mem_nil, or_false, not_or, not_false_eq_true]; try omega)
                have h_39 := h_LvA_f.fr fr_30 (by intro u hu; simp only [List.mem_cons, List.not_mem_nil, or_false] at hu <;> omega)
                have h_40 := h_B_nm.fr fr_30 (by simp only [List.mem_cons, List.not_mem_nil, or_false, not_or, not_false_eq_true]; try omega) (by simp only [List.mem_cons, List.not_mem_nil, or_false, not_or, not_false_eq_true]; try omega)
                refine G_xV (rest := []) hC hR (c_Ch_firstMatch h_33 h_34 h_35 h_36 h_37 h_38 h_39 h_27 h_40 h_28 h_32 IH hfd (by omega) (by omega) (by omega) hX (by omega) rfl) cv_Ch_84 ⟨_, _, h_33⟩ (by omega) (by omega) (by omega) rfl rfl (Nat.le_of_ble_eq_true rfl) d_Ch_check_97 (fun r_43 M_41 p_42 => ?_)
                obtain ⟨bt9_44, k9_45, s9_46, n9_47, w9_48, f9_49, o9_50, rfl, h_51, h_52, h_53, h_54, h_55, h_56, fr_57⟩ := p_42
                show G E M_41 (0 + 0 + 0 + 0) (0 + 0 + 0 + 0) [(4, .ref q_8), (3, vI ((es.filter (isP ((61 : Nat), X).2)).length : Int)), (2, .ref L), (0, .ref a), (1, vI dd)] [vI ((fmL (matS (chkS es sd (10 - d)) (decide (0 < 10 - d)) es sd X bq_11.2) bq_11.2 7 cn vo).1)] 100
                refine G_istore (lv' := [(5, vI ((fmL (matS (chkS es sd (10 - d)) (decide (0 < 10 - d)) es sd X bq_11.2) bq_11.2 7 cn vo).1)), (4, .ref q_8), (3, vI ((es.filter (isP ((61 : Nat), X).2)).length : Int)), (2, .ref L), (0, .ref a), (1, vI dd)]) hC (by rw [hN]; decide) rfl d_Ch_check_100 ?_
                refine G_iload hC 0 rfl d_Ch_check_102 ?_
                refine G_iconst (i := (-1)) hC d_Ch_check_104 ?_
                refine G_icmp_eq hC 111 (by omega) (by decide) (by decide) d_Ch_check_105 (fun c_58 => ?_) (fun c_58 => ?_)
                · rw [if_neg (show ¬ ¬ (fmL (matS (chkS es sd (10 - d)) (decide (0 < 10 - d)) es sd X bq_11.2) bq_11.2 7 cn vo).1 = -1 from fun z => z c_58)] at hr
                  refine G_aload_n hC 3 rfl rfl d_Ch_check_111 ?_
                  have h_59 := fr_57.at h_27 (by simp only [List.mem_append, mem_lvT, List.mem_range, List.mem_cons, List.not_mem_nil, or_false, false_or]; omega)
                  refine G_pV (rest := []) hC hR (c_Le_hasRedirect h_59 (by omega)) cv_Ch_88 ⟨_, _, h_59⟩ (by omega) (by omega) (by omega) rfl rfl (Nat.le_of_ble_eq_true rfl) d_Ch_check_112 ?_
                  refine G_if_ne hC 120 (by have := b2i_rng (decide (0 < rt9_26)); omega) (by decide) d_Ch_check_115 (fun c_60 => ?_) (fun c_60 => ?_)
                  · have c_60 := b2i_ne0.mp c_60
                    have c_60 := of_decide_eq_true c_60
                    obtain ⟨d9, hd9⟩ := isS_t (hrg.2.2.2.2.mpr c_60)
                    subst hd9
                    have hrq := hrp.2 d9 rfl
                    dsimp only at hr
                    refine G_aload_n hC 4 rfl rfl d_Ch_check_120 ?_
                    refine G_aload hC 1 rfl d_Ch_check_121 ?_
                    refine G_aload_n hC 3 rfl rfl d_Ch_check_123 ?_
                    refine G_pV (rest := [.ref q_8, .ref a]) hC hR (c_Le_redirectFrom h_59) cv_Ch_92 ⟨_, _, h_59⟩ (by omega) (by omega) (by omega) rfl rfl (Nat.le_of_ble_eq_true rfl) d_Ch_check_124 ?_
                    refine G_aload_n hC 3 rfl rfl d_Ch_check_127 ?_
                    refine G_pV (rest := [vI rf9_25, .ref q_8, .ref a]) hC hR (c_Le_redirectTo h_59) cv_Ch_95 ⟨_, _, h_59⟩ (by omega) (by omega) (by omega) rfl rfl (Nat.le_of_ble_eq_true rfl) d_Ch_check_128 ?_
                    refine G_iload_n hC 5 rfl rfl d_Ch_check_131 ?_
                    have h_61 := h_34.fr fr_57 (by intro u hu; simp only [List.mem_append, mem_lvT, List.mem_range, List.mem_cons, List.not_mem_nil, or_false, false_or] at hu; omega)
                    have h_62 := h_35.fr fr_57 (by intro u hu; simp only [List.mem_append, mem_lvT, List.mem_range, List.mem_cons, List.not_mem_nil, or_false, false_or] at hu; omega)
                    have h_63 := fr_57.at h_37 (by simp only [List.mem_append, mem_lvT, List.mem_range, List.mem_cons, List.not_mem_nil, or_false, false_or]; omega)
                    have h_64 := h_40.fr fr_57 (by simp only [List.mem_append, mem_lvT, List.mem_range, List.mem_cons, List.not_mem_nil, or_false, false_or]; omega) (by simp only [List.mem_append, mem_lvT, List.mem_range, List.mem_cons, List.not_mem_nil, or_false, false_or]; omega)
                    have h_65 := h_32.fr fr_57 (by simp only [List.mem_append, mem_lvT, List.mem_range, List.mem_cons, List.not_mem_nil, or_false, false_or]; omega) (by simp only [List.mem_append, mem_lvT, List.mem_range, List.mem_cons, List.not_mem_nil, or_false, false_or]; omega)
                    refine G_xV (rest := []) hC hR (c_Ch_checkInside h_51 h_61 h_62 h_53 h_63 h_52 h_55 h_59 h_64 h_65 IH hfd h_56 (by omega) (by omega) hX (by omega) (by omega) rfl) cv_Ch_98 ⟨_, _, h_51⟩ (by omega) (by omega) (by omega) rfl rfl (Nat.le_of_ble_eq_true rfl) d_Ch_check_132 (fun r_68 M_66 p_67 => ?_)
                    obtain ⟨bt9_69, rfl, h_70, h_71, h_72, h_73, h_74, fr_75⟩ := p_67
                    show G E M_66 (0 + 0 + 0 + 0 + 0) (0 + 0 + 0 + 0 + 0) [(5, vI ((fmL (matS (chkS es sd (10 - d)) (decide (0 < 10 - d)) es sd X bq_11.2) bq_11.2 7 cn vo).1)), (4, .ref q_8), (3, vI ((es.filter (isP ((61 : Nat), X).2)).length : Int)), (2, .ref L), (0, .ref a), (1, vI dd)] [vI ((insS (chkS es sd (10 - d)) (decide (0 < 10 - d)) sd X bq_11.2 (rf9_25, rt9_26) ((fmL (matS (chkS es sd (10 - d)) (decide (0 < 10 - d)) es sd X bq_11.2) bq_11.2 7 cn vo).2.1) ((fmL (matS (chkS es sd (10 - d)) (decide (0 < 10 - d)) es sd X bq_11.2) bq_11.2 7 cn vo).2.2)).1)] 135
                    have h_76 := fr_75.at h_54 (by simp only [List.mem_append, mem_lvT, List.mem_range, List.mem_cons, List.not_mem_nil, or_false, false_or]; omega)
                    have h_77 := fr_75.at h_59 (by simp only [List.mem_append, mem_lvT, List.mem_range, List.mem_cons, List.not_mem_nil, or_false, false_or]; omega)
                    have hP : R = insS (chkS es sd (10 - d)) (decide (0 < 10 - d)) sd X bq_11.2 (rf9_25, rt9_26) (fmL (matS (chkS es sd (10 - d)) (decide (0 < 10 - d)) es sd X bq_11.2) bq_11.2 7 cn vo).2.1 (fmL (matS (chkS es sd (10 - d)) (decide (0 < 10 - d)) es sd X bq_11.2) bq_11.2 7 cn vo).2.2 := by rw [show (rf9_25, rt9_26) = d9 from Prod.ext hrq.1 hrq.2.1]; exact hr.symm
                    subst hP
                    exact G_iretX hC hQ (by omega) (by omega) d_Ch_check_135 ⟨_, _, _, _, _, _, _, _, _, rfl, h_70, h_71, h_72, h_77, h_76, h_73, h_74, (((fr_30.up (T := ([18, 19, 21, 22, 100 + 4 * d, 100 + 4 * d + 3] ++ lvT (d + 1))) (by intro u hu; simp only [List.mem_append, mem_lvT, List.mem_range, List.mem_cons, List.not_mem_nil, or_false, false_or] at hu ⊢ <;> omega)).tr' (T := ([18, 19, 21, 22, 100 + 4 * d, 100 + 4 * d + 3] ++ lvT (d + 1))) fr_57 (fun _ z => z) (by intro u hu; simp only [List.mem_append, mem_lvT, List.mem_range, List.mem_cons, List.not_mem_nil, or_false, false_or] at hu ⊢ <;> omega)).tr' (T := ([18, 19, 21, 22, 100 + 4 * d, 100 + 4 * d + 3] ++ lvT (d + 1))) fr_75 (fun _ z => z) (by intro u hu; simp only [List.mem_append, mem_lvT, List.mem_range, List.mem_cons, List.not_mem_nil, or_false, false_or] at hu ⊢ <;> omega))⟩
                  · have c_60 := b2i_eq0.mp c_60
                    have c_60 := of_decide_eq_false c_60
                    refine G_iconst (i := 1) hC d_Ch_check_118 ?_
                    have hP : R = (1, (fmL (matS (chkS es sd (10 - d)) (decide (0 < 10 - d)) es sd X bq_11.2) bq_11.2 7 cn vo).2) := by cases rd with | none => exact hr.symm | some d9 => exact absurd (hrg.2.2.2.2.mp rfl) c_60
                    subst hP
                    exact G_iretX hC hQ (by omega) (by omega) d_Ch_check_119 ⟨_, _, _, _, _, _, _, _, _, rfl, h_51, h_52, h_53, h_59, h_54, h_55, h_56, ((fr_30.up (T := ([18, 19, 21, 22, 100 + 4 * d, 100 + 4 * d + 3] ++ lvT (d + 1))) (by intro u hu; simp only [List.mem_append, mem_lvT, List.mem_range, List.mem_cons, List.not_mem_nil, or_false, false_or] at hu ⊢ <;> omega)).tr' (T := ([18, 19, 21, 22, 100 + 4 * d, 100 + 4 * d + 3] ++ lvT (d + 1))) fr_57 (fun _ z => z) (by intro u hu; simp only [List.mem_append, mem_lvT, List.mem_range, List.mem_cons, List.not_mem_nil, or_false, false_or] at hu ⊢ <;> omega))⟩
                · refine G_iload hC 0 rfl d_Ch_check_108 ?_
                  have h_78 := fr_57.at h_27 (by simp only [List.mem_append, mem_lvT, List.mem_range, List.mem_cons, List.not_mem_nil, or_false, false_or]; omega)
                  have hP : R = fmL (matS (chkS es sd (10 - d)) (decide (0 < 10 - d)) es sd X bq_11.2) bq_11.2 7 cn vo := by rw [if_pos c_58] at hr; exact hr.symm
                  subst hP
                  exact G_iretX hC hQ (by omega) (by omega) d_Ch_check_110 ⟨_, _, _, _, _, _, _, _, _, rfl, h_51, h_52, h_53, h_78, h_54, h_55, h_56, ((fr_30.up (T := ([18, 19, 21, 22, 100 + 4 * d, 100 + 4 * d + 3] ++ lvT (d + 1))) (by intro u hu; simp only [List.mem_append, mem_lvT, List.mem_range, List.mem_cons, List.not_mem_nil, or_false, false_or] at hu ⊢ <;> omega)).tr' (T := ([18, 19, 21, 22, 100 + 4 * d, 100 + 4 * d + 3] ++ lvT (d + 1))) fr_57 (fun _ z => z) (by intro u hu; simp only [List.mem_append, mem_lvT, List.mem_range, List.mem_cons, List.not_mem_nil, or_false, false_or] at hu ⊢ <;> omega))⟩
              · have c_31 := b2i_eq0.mp c_31
                refine G_bipush (j := 6) hC (by decide +kernel) d_Ch_check_90 ?_
                have h_79 := fr_30.at h_obj_a (by simp only [List.mem_cons, List.not_mem_nil, or_false, not_or, not_false_eq_true]; try omega)
                have h_80 := h_B_tg.fr fr_30 (by simp only [List.mem_cons, List.not_mem_nil, or_false, not_or, not_false_eq_true]; try omega) (by simp only [List.mem_cons, List.not_mem_nil, or_false, not_or, not_false_eq_true]; try omega)
                have h_81 := h_Ma_ma.fr fr_30 (by simp only [List.mem_cons, List.not_mem_nil, or_false, not_or, not_false_eq_true]; try omega) (by simp only [List.mem_cons, List.not_mem_nil, or_false, not_or, not_false_eq_true]; try omega)
                have h_82 := h_LvA_f.fr fr_30 (by intro u hu; simp only [List.mem_cons, List.not_mem_nil, or_false] at hu <;> omega)
                have hP : R = (6, cn, vo) := by rw [isS_f c_31] at hr; exact hr.symm
                subst hP
                exact G_iretX hC hQ (by omega) (by omega) d_Ch_check_92 ⟨_, _, _, _, _, _, _, _, _, rfl, h_79, h_80, h_81, h_27, h_28, h_82, hbt, (fr_30.up (T := ([18, 19, 21, 22, 100 + 4 * d, 100 + 4 * d + 3] ++ lvT (d + 1))) (by intro u hu; simp only [List.mem_append, mem_lvT, List.mem_range, List.mem_cons, List.not_mem_nil, or_false, false_or] at hu ⊢ <;> omega))⟩
      · have c_3 := b2i_ne0.mp c_3
        refine G_iconst (i := 5) hC d_Ch_check_38 ?_
        have hP : R = (5, cn, vo) := by rw [if_pos (show hasD es 3 X = true from c_3)] at hr; exact hr.symm
        subst hP
        exact G_iretX hC hQ (by omega) (by omega) d_Ch_check_39 ⟨_, _, _, _, _, _, _, _, _, rfl, h_obj_a, h_B_tg, h_Ma_ma, h_obj_L, h_obj_te, h_LvA_f, hbt, Fr.rf⟩
    · exact (show False from by omega).elim

theorem chk_all {l : Launch} {D : Dg} {b0 : Nat} {es : List Ent} {sd : Snd} {f : Nat → Option Nat} : ∀ (n d : Nat), 11 - d = n → d < 11 → ChkOK l D b0 es sd f d := by
  intro n
  induction n with
  | zero => intro d h1 h2; omega
  | succ n ih =>
    intro d h1 h2
    unfold ChkOK
    intro _ _ _ _ _ _ _ _ _ _ _ _ _ _ _ _ _ _ _ _ _ _ _ _ q0 q1 q2 q3 q4 q5 q6 q7 q8 q9 q10 q11 q12 q13 q14 q15
    exact c_Ch_checkStep q0 q1 q2 q3 q4 q5 q6 q7 q8 q9 (fun h3 => ih (d + 1) (by omega) (by omega)) q10 q11 q12 q13 q14 q15
