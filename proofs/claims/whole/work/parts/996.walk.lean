set_option maxHeartbeats 4000000 in
set_option maxRecDepth 100000 in
theorem law_G {E : Cxt} {b L : Nat} {xs : Nat → Int32} {nm : String} (M0 : Mp) (hL : L ≤ 3072) (hC : Cx E b_La_law ⟨"SendPolicyLaw", nm, "([I)Z"⟩) (hR : eR E = room_1) (hN : eN E = 4) (hX : va_X b L xs (eS E) (eS E).heap) (hbB : b < eB E) (hend : ∀ (M : Mp) (k n : Nat) (lv : List (Nat × Value)), k ≤ 600000 → n ≤ 7302250 → G E M k n lv [vI 1] 318) : G E M0 0 0 [(0, .ref b)] [] 0 := by
  show G E M0 0 0 [(0, .ref b)] [] 0
  refine G_ynewX 1 [.null, .null, .null, .null, .null, .null] hC hR nw_La_7 (fun j hj => by rcases (show j = 0 ∨ j = 1 ∨ j = 2 ∨ j = 3 ∨ j = 4 ∨ j = 5 by omega) with rfl | rfl | rfl | rfl | rfl | rfl <;> rfl) (by omega) (by omega) d_La_law_0 (fun q_1 M_2 h_3 fr_4 => ?_)
  refine G_dup hC rfl d_La_law_3 ?_
  refine G_yxI (rest := [.ref q_1]) hC hR (c_Po_init h_3) ci_La_9 (by decide) (by omega) (by omega) rfl rfl (Nat.le_of_ble_eq_true rfl) d_La_law_4 (fun r_7 M_5 p_6 => ?_)
  obtain ⟨rfl, h_8, fr_9⟩ := p_6
  show G E M_5 (0 + 1 + (100)) (0 + 6 + (2000)) [(0, .ref b)] [.ref q_1] 7
  refine G_astore_n (lv' := [(1, .ref q_1), (0, .ref b)]) hC rfl (by rw [hN]; decide) rfl d_La_law_7 ?_
  refine G_ynewX 500 [.null, vI 0, vI 0, .null, .null, .null, .null, .null, .null, .null, .int 0, vI 0, .null, vI 0, vI 0, .null, vI 0, vI 0, vI 0, vI 0, vI 0, .int 0] hC hR nw_La_10 (fun j hj => by rcases (show j = 0 ∨ j = 1 ∨ j = 2 ∨ j = 3 ∨ j = 4 ∨ j = 5 ∨ j = 6 ∨ j = 7 ∨ j = 8 ∨ j = 9 ∨ j = 10 ∨ j = 11 ∨ j = 12 ∨ j = 13 ∨ j = 14 ∨ j = 15 ∨ j = 16 ∨ j = 17 ∨ j = 18 ∨ j = 19 ∨ j = 20 ∨ j = 21 by omega) with rfl | rfl | rfl | rfl | rfl | rfl | rfl | rfl | rfl | rfl | rfl | rfl | rfl | rfl | rfl | rfl | rfl | rfl | rfl | rfl | rfl | rfl <;> rfl) (by omega) (by omega) d_La_law_8 (fun q_10 M_11 h_12 fr_13 => ?_)
  refine G_dup hC rfl d_La_law_11 ?_
  refine G_yxI (rest := [.ref q_10]) hC hR (c_Mo_init h_12) ci_La_12 (by decide) (by omega) (by omega) rfl rfl (Nat.le_of_ble_eq_true rfl) d_La_law_12 (fun r_16 M_14 p_15 => ?_)
  obtain ⟨tp_17, ou_18, sa_19, aa_20, na_21, va_22, lo_23, dm_24, tg_25, pc_26, ft_27, rfl, h_28, h_29, h_30, h_31, h_32, h_33, h_34, h_35, h_36, fr_37⟩ := p_15
  show G E M_14 (0 + 1 + (100) + 1 + (250)) (0 + 6 + (2000) + 22 + (60000)) [(1, .ref q_1), (0, .ref b)] [.ref q_10] 15
  refine G_astore_n (lv' := [(2, .ref q_10), (1, .ref q_1), (0, .ref b)]) hC rfl (by rw [hN]; decide) rfl d_La_law_15 ?_
  have h_38 := h_8.fr fr_13 (by intro u hu; simp only [List.mem_cons, List.not_mem_nil, or_false] at hu <;> omega)
  have h_39 := h_38.fr fr_37 (by intro u hu; simp only [List.mem_append, mem_meT, mem_tgT, List.mem_range, List.mem_cons, List.not_mem_nil, or_false, false_or] at hu; omega)
  have h_40 : IsMo (eD E) M_14 q_10 (((64 : Nat), ([] : List Int)).2) (((64 : Nat), ([] : List Int)).2) ([] : List Ent) (none : Option Snd) 0 0 := by exact ⟨_, _, _, _, _, _, _, _, _, _, _, _, _, _, _, _, _, _, _, _, _, _, h_28, h_29, h_30, h_31, h_32, h_33, h_34, h_35, h_36, (Or.inl ⟨rfl, rfl⟩)⟩
  refine G_iconst (i := 0) hC d_La_law_16 ?_
  refine G_istore_n (lv' := [(3, vI 0), (2, .ref q_10), (1, .ref q_1), (0, .ref b)]) hC rfl (by rw [hN]; decide) rfl d_La_law_17 ?_
  have L18 : ∀ (N : Nat) (M1 : Mp) (i : Int) (tb : Bv) (ob : Bv) (es : List Ent) (so : Option Snd) (cn : Int) (vo : Int), (3084 - i).toNat < N → (Fr ([] ++ List.range 1000) M_14 M1) → (IsPo (eD E) M1 q_1 tb ob es so cn vo) → (IsMo (eD E) M1 q_10 tb.2 ob.2 es so cn vo) → (0 ≤ i ∧ i ≤ 3078) → G E M1 (400 + 610 * (i / 6 : Int).toNat + psi 800 tb + psi 18200 ob) (70000 + 2710 * (i / 6 : Int).toNat + psi 800 tb + psi 18200 ob) [(0, .ref b), (1, .ref q_1), (2, .ref q_10), (3, vI i)] [] 18 := by
    intro N
    induction N with
    | zero => intro M1 i tb ob es so cn vo hN18 hfr1 hpo hmo hi; exact absurd hN18 (Nat.not_lt_zero _)
    | succ N ih18 =>
      intro M1 i tb ob es so cn vo hN18 hfr1 hpo hmo hi
      have hrg := hpo.rng
      refine G_iload_n hC 3 rfl rfl d_La_law_18 ?_
      refine G_aload_n hC 0 rfl rfl d_La_law_19 ?_
      refine G_slen hC hX hbB d_La_law_20 ?_
      refine G_bipush (j := 6) hC (by decide +kernel) d_La_law_21 ?_
      refine G_isub hC d_La_law_23 ?_
      refine G_icmp_gt hC 317 (by omega) (by omega) (by decide) d_La_law_24 (fun c_41 => ?_) (fun c_41 => ?_)
      · refine G_iconst (i := 1) hC d_La_law_317 ?_
        exact hend _ _ _ _ (by omega) (by omega)
      · refine G_aload_n hC 0 rfl rfl d_La_law_27 ?_
        refine G_iload_n hC 3 rfl rfl d_La_law_28 ?_
        refine G_sld hC hX hbB (by omega) (by omega) d_La_law_29 ?_
        have g_42 := zI_rng (xs (i : Int).toNat)
        refine G_bipush (j := 15) hC (by decide +kernel) d_La_law_30 ?_
        refine G_iand15 hC (by omega) d_La_law_32 ?_
        by_cases c_43 : ((xs (i : Int).toNat).toInt) % 16 = 0
        · refine G_tabIn 0 84 hC c_43 (by omega) rfl (by decide) d_La_law_33 ?_
          refine G_aload_n hC 1 rfl rfl d_La_law_84 ?_
          refine G_aload_n hC 0 rfl rfl d_La_law_85 ?_
          refine G_iload_n hC 3 rfl rfl d_La_law_86 ?_
          refine G_iconst (i := 1) hC d_La_law_87 ?_
          refine G_iadd hC d_La_law_88 ?_
          refine G_sld hC hX hbB (by omega) (by omega) d_La_law_89 ?_
          have g_44 := zI_rng (xs (i + 1 : Int).toNat)
          refine G_aload_n hC 0 rfl rfl d_La_law_90 ?_
          refine G_iload_n hC 3 rfl rfl d_La_law_91 ?_
          refine G_iconst (i := 2) hC d_La_law_92 ?_
          refine G_iadd hC d_La_law_93 ?_
          refine G_sld hC hX hbB (by omega) (by omega) d_La_law_94 ?_
          have g_45 := zI_rng (xs (i + 2 : Int).toNat)
          refine G_aload_n hC 0 rfl rfl d_La_law_95 ?_
          refine G_iload_n hC 3 rfl rfl d_La_law_96 ?_
          refine G_iconst (i := 3) hC d_La_law_97 ?_
          refine G_iadd hC d_La_law_98 ?_
          refine G_sld hC hX hbB (by omega) (by omega) d_La_law_99 ?_
          have g_46 := zI_rng (xs (i + 3 : Int).toNat)
          refine G_aload_n hC 0 rfl rfl d_La_law_100 ?_
          refine G_iload_n hC 3 rfl rfl d_La_law_101 ?_
          refine G_iconst (i := 4) hC d_La_law_102 ?_
          refine G_iadd hC d_La_law_103 ?_
          refine G_sld hC hX hbB (by omega) (by omega) d_La_law_104 ?_
          have g_47 := zI_rng (xs (i + 4 : Int).toNat)
          refine G_aload_n hC 0 rfl rfl d_La_law_105 ?_
          refine G_iload_n hC 3 rfl rfl d_La_law_106 ?_
          refine G_iconst (i := 5) hC d_La_law_107 ?_
          refine G_iadd hC d_La_law_108 ?_
          refine G_sld hC hX hbB (by omega) (by omega) d_La_law_109 ?_
          have g_48 := zI_rng (xs (i + 5 : Int).toNat)
          have hps := feed_psi (b := tb) (x1 := (xs (i + 1 : Int).toNat).toInt) (x2 := (xs (i + 2 : Int).toNat).toInt) (x3 := (xs (i + 3 : Int).toNat).toInt) (x4 := (xs (i + 4 : Int).toNat).toInt) (x5 := (xs (i + 5 : Int).toNat).toInt) hrg.1
          refine G_yxV (rest := []) hC hR (c_Po_feed hpo (by omega) (by omega) (by omega) (by omega) (by omega)) cv_La_13 hpo.obj (by decide) (by omega) (by omega) rfl rfl (Nat.le_of_ble_eq_true rfl) d_La_law_110 (fun r_51 M_49 p_50 => ?_)
          obtain ⟨rfl, h_52, fr_53⟩ := p_50
          show G E M_49 (400 + 610 * (i / 6 : Int).toNat + psi 800 tb + psi 18200 ob + (psi 800 (if 800 < (tb.2.length : Int) + 20 then tb else feedB tb ((xs (i + 1 : Int).toNat).toInt) ((xs (i + 2 : Int).toNat).toInt) ((xs (i + 3 : Int).toNat).toInt) ((xs (i + 4 : Int).toNat).toInt) ((xs (i + 5 : Int).toNat).toInt)) - psi 800 tb)) (70000 + 2710 * (i / 6 : Int).toNat + psi 800 tb + psi 18200 ob + (psi 800 (if 800 < (tb.2.length : Int) + 20 then tb else feedB tb ((xs (i + 1 : Int).toNat).toInt) ((xs (i + 2 : Int).toNat).toInt) ((xs (i + 3 : Int).toNat).toInt) ((xs (i + 4 : Int).toNat).toInt) ((xs (i + 5 : Int).toNat).toInt)) - psi 800 tb)) [(0, .ref b), (1, .ref q_1), (2, .ref q_10), (3, vI i)] [vI (if 800 < (tb.2.length : Int) + 20 then -3 else ((feedB tb ((xs (i + 1 : Int).toNat).toInt) ((xs (i + 2 : Int).toNat).toInt) ((xs (i + 3 : Int).toNat).toInt) ((xs (i + 4 : Int).toNat).toInt) ((xs (i + 5 : Int).toNat).toInt)).2.length : Int))] 113
          refine G_aload_n hC 2 rfl rfl d_La_law_113 ?_
          refine G_aload_n hC 0 rfl rfl d_La_law_114 ?_
          refine G_iload_n hC 3 rfl rfl d_La_law_115 ?_
          refine G_iconst (i := 1) hC d_La_law_116 ?_
          refine G_iadd hC d_La_law_117 ?_
          refine G_sld hC hX hbB (by omega) (by omega) d_La_law_118 ?_
          have g_54 := zI_rng (xs (i + 1 : Int).toNat)
          refine G_aload_n hC 0 rfl rfl d_La_law_119 ?_
          refine G_iload_n hC 3 rfl rfl d_La_law_120 ?_
          refine G_iconst (i := 2) hC d_La_law_121 ?_
          refine G_iadd hC d_La_law_122 ?_
          refine G_sld hC hX hbB (by omega) (by omega) d_La_law_123 ?_
          have g_55 := zI_rng (xs (i + 2 : Int).toNat)
          refine G_aload_n hC 0 rfl rfl d_La_law_124 ?_
          refine G_iload_n hC 3 rfl rfl d_La_law_125 ?_
          refine G_iconst (i := 3) hC d_La_law_126 ?_
          refine G_iadd hC d_La_law_127 ?_
          refine G_sld hC hX hbB (by omega) (by omega) d_La_law_128 ?_
          have g_56 := zI_rng (xs (i + 3 : Int).toNat)
          refine G_aload_n hC 0 rfl rfl d_La_law_129 ?_
          refine G_iload_n hC 3 rfl rfl d_La_law_130 ?_
          refine G_iconst (i := 4) hC d_La_law_131 ?_
          refine G_iadd hC d_La_law_132 ?_
          refine G_sld hC hX hbB (by omega) (by omega) d_La_law_133 ?_
          have g_57 := zI_rng (xs (i + 4 : Int).toNat)
          refine G_aload_n hC 0 rfl rfl d_La_law_134 ?_
          refine G_iload_n hC 3 rfl rfl d_La_law_135 ?_
          refine G_iconst (i := 5) hC d_La_law_136 ?_
          refine G_iadd hC d_La_law_137 ?_
          refine G_sld hC hX hbB (by omega) (by omega) d_La_law_138 ?_
          have g_58 := zI_rng (xs (i + 5 : Int).toNat)
          have h_59 := hmo.fr fr_53 (by intro u hu; simp only [List.mem_append, mem_lvT, List.mem_range, List.mem_cons, List.not_mem_nil, or_false, false_or] at hu; omega)
          obtain ⟨tp_60, ou_61, sa_62, aa_63, na_64, va_65, lo_66, dm_67, tg_68, pc_69, ft_70, fm_71, w0_72, st_73, k0_74, s0_75, f0_76, o0_77, n0_78, ls_79, ds_80, ps_81, h_82, h_83, h_84, h_85, h_86, h_87, h_88, h_89, h_90, h_91⟩ := id h_59
          refine G_yxV (rest := [vI (if 800 < (tb.2.length : Int) + 20 then -3 else ((feedB tb ((xs (i + 1 : Int).toNat).toInt) ((xs (i + 2 : Int).toNat).toInt) ((xs (i + 3 : Int).toNat).toInt) ((xs (i + 4 : Int).toNat).toInt) ((xs (i + 5 : Int).toNat).toInt)).2.length : Int))]) hC hR (c_Mo_feed h_82 h_83 (by omega) (by omega) (by omega) (by omega) (by omega) (by omega)) cv_La_17 ⟨_, _, h_82⟩ (by decide) (by omega) (by omega) rfl rfl (Nat.le_of_ble_eq_true rfl) d_La_law_139 (fun r_94 M_92 p_93 => ?_)
          obtain ⟨rfl, h_95, h_96, fr_97⟩ := p_93
          show G E M_92 (400 + 610 * (i / 6 : Int).toNat + psi 800 tb + psi 18200 ob + (psi 800 (if 800 < (tb.2.length : Int) + 20 then tb else feedB tb ((xs (i + 1 : Int).toNat).toInt) ((xs (i + 2 : Int).toNat).toInt) ((xs (i + 3 : Int).toNat).toInt) ((xs (i + 4 : Int).toNat).toInt) ((xs (i + 5 : Int).toNat).toInt)) - psi 800 tb) + (1)) (70000 + 2710 * (i / 6 : Int).toNat + psi 800 tb + psi 18200 ob + (psi 800 (if 800 < (tb.2.length : Int) + 20 then tb else feedB tb ((xs (i + 1 : Int).toNat).toInt) ((xs (i + 2 : Int).toNat).toInt) ((xs (i + 3 : Int).toNat).toInt) ((xs (i + 4 : Int).toNat).toInt) ((xs (i + 5 : Int).toNat).toInt)) - psi 800 tb) + (5)) [(0, .ref b), (1, .ref q_1), (2, .ref q_10), (3, vI i)] [vI (if 800 < (tb.2.length : Int) + 20 then -3 else (tb.2.length : Int) + 20), vI (if 800 < (tb.2.length : Int) + 20 then -3 else ((feedB tb ((xs (i + 1 : Int).toNat).toInt) ((xs (i + 2 : Int).toNat).toInt) ((xs (i + 3 : Int).toNat).toInt) ((xs (i + 4 : Int).toNat).toInt) ((xs (i + 5 : Int).toNat).toInt)).2.length : Int))] 142
          have h_98 := h_85.fr fr_97 (by intro u hu; simp only [List.mem_cons, List.not_mem_nil, or_false] at hu <;> omega)
          have h_100 := h_84.fr fr_97 (by decide) (by decide)
          have h_101 := h_86.fr fr_97 (by decide) (by decide)
          have h_102 := h_87.fr fr_97 (by decide) (by decide)
          have h_103 := h_88.fr fr_97 (by decide) (by decide)
          have h_104 := fr_97.at h_89 (by decide)
          have h_105 := h_90.fr fr_97 (by intro u hu; simp only [List.mem_cons, List.not_mem_nil, or_false] at hu <;> omega)
          have h_99 : IsMo (eD E) M_92 q_10 ((if 800 < (tb.2.length : Int) + 20 then tb else feedB tb ((xs (i + 1 : Int).toNat).toInt) ((xs (i + 2 : Int).toNat).toInt) ((xs (i + 3 : Int).toNat).toInt) ((xs (i + 4 : Int).toNat).toInt) ((xs (i + 5 : Int).toNat).toInt)).2) ob.2 es so cn vo := by rw [feed_2]; exact ⟨_, _, _, _, _, _, _, _, _, _, _, _, _, _, _, _, _, _, _, _, _, _, by rw [feed_l]; exact h_95, h_96, h_100, h_98, h_101, h_102, h_103, h_104, h_105, h_91⟩
          refine G_ieq hC 311 (feed_r) (by decide) d_La_law_142 ?_
          refine G_iinc (lv' := [(3, vI (i + 6)), (0, .ref b), (1, .ref q_1), (2, .ref q_10)]) hC 3 rfl (by rw [hN]; decide) rfl d_La_law_311 ?_
          refine G_goto hC 18 (by decide) d_La_law_314 ?_
          refine G_lv [1, 2, 3, 0] rfl ?_
          have h_106 := h_52.fr fr_97 (by intro u hu; simp only [List.mem_cons, List.not_mem_nil, or_false] at hu <;> omega)
          refine G_widen (k' := 400 + 610 * ((i + 6) / 6 : Int).toNat + psi 800 (if 800 < (tb.2.length : Int) + 20 then tb else feedB tb ((xs (i + 1 : Int).toNat).toInt) ((xs (i + 2 : Int).toNat).toInt) ((xs (i + 3 : Int).toNat).toInt) ((xs (i + 4 : Int).toNat).toInt) ((xs (i + 5 : Int).toNat).toInt)) + psi 18200 ob) (n' := 70000 + 2710 * ((i + 6) / 6 : Int).toNat + psi 800 (if 800 < (tb.2.length : Int) + 20 then tb else feedB tb ((xs (i + 1 : Int).toNat).toInt) ((xs (i + 2 : Int).toNat).toInt) ((xs (i + 3 : Int).toNat).toInt) ((xs (i + 4 : Int).toNat).toInt) ((xs (i + 5 : Int).toNat).toInt)) + psi 18200 ob) (by omega) (by omega) ?_
          exact ih18 M_92 (i + 6) _ _ _ _ _ _ (by omega) (((hfr1.up (T := ([] ++ List.range 1000)) (by intro u hu; simp only [List.mem_append, mem_lvT, List.mem_range, List.mem_cons, List.not_mem_nil, or_false, false_or] at hu ⊢ <;> omega)).tr' (T := ([] ++ List.range 1000)) fr_53 (fun _ z => z) (by intro u hu; simp only [List.mem_append, mem_lvT, List.mem_range, List.mem_cons, List.not_mem_nil, or_false, false_or] at hu ⊢ <;> omega)).tr' (T := ([] ++ List.range 1000)) fr_97 (fun _ z => z) (by intro u hu; simp only [List.mem_append, mem_lvT, List.mem_range, List.mem_cons, List.not_mem_nil, or_false, false_or] at hu ⊢ <;> omega)) h_106 h_99 (by omega)
        by_cases c_107 : ((xs (i : Int).toNat).toInt) % 16 = 1
        · refine G_tabIn 1 147 hC c_107 (by omega) rfl (by decide) d_La_law_33 ?_
          refine G_aload_n hC 1 rfl rfl d_La_law_147 ?_
          refine G_aload_n hC 0 rfl rfl d_La_law_148 ?_
          refine G_iload_n hC 3 rfl rfl d_La_law_149 ?_
          refine G_iconst (i := 1) hC d_La_law_150 ?_
          refine G_iadd hC d_La_law_151 ?_
          refine G_sld hC hX hbB (by omega) (by omega) d_La_law_152 ?_
          have g_108 := zI_rng (xs (i + 1 : Int).toNat)
          have hps := cut_psi (b := tb) (n := (xs (i + 1 : Int).toNat).toInt)
          refine G_yxV (rest := []) hC hR (c_Po_end hpo (by omega)) cv_La_18 hpo.obj (by decide) (by omega) (by omega) rfl rfl (Nat.le_of_ble_eq_true rfl) d_La_law_153 (fun r_111 M_109 p_110 => ?_)
          obtain ⟨rfl, h_112, fr_113⟩ := p_110
          show G E M_109 (400 + 610 * (i / 6 : Int).toNat + psi 800 tb + psi 18200 ob + 0) (70000 + 2710 * (i / 6 : Int).toNat + psi 800 tb + psi 18200 ob + 0) [(0, .ref b), (1, .ref q_1), (2, .ref q_10), (3, vI i)] [vI (if ((xs (i + 1 : Int).toNat).toInt) < 0 ∨ (tb.2.length : Int) < ((xs (i + 1 : Int).toNat).toInt) then -1 else ((xs (i + 1 : Int).toNat).toInt))] 156
          refine G_aload_n hC 2 rfl rfl d_La_law_156 ?_
          refine G_aload_n hC 0 rfl rfl d_La_law_157 ?_
          refine G_iload_n hC 3 rfl rfl d_La_law_158 ?_
          refine G_iconst (i := 1) hC d_La_law_159 ?_
          refine G_iadd hC d_La_law_160 ?_
          refine G_sld hC hX hbB (by omega) (by omega) d_La_law_161 ?_
          have g_114 := zI_rng (xs (i + 1 : Int).toNat)
          have h_115 := hmo.fr fr_113 (by intro u hu; simp only [List.mem_append, mem_lvT, List.mem_range, List.mem_cons, List.not_mem_nil, or_false, false_or] at hu; omega)
          obtain ⟨tp_116, ou_117, sa_118, aa_119, na_120, va_121, lo_122, dm_123, tg_124, pc_125, ft_126, fm_127, w0_128, st_129, k0_130, s0_131, f0_132, o0_133, n0_134, ls_135, ds_136, ps_137, h_138, h_139, h_140, h_141, h_142, h_143, h_144, h_145, h_146, h_147⟩ := id h_115
          refine G_yxV (rest := [vI (if ((xs (i + 1 : Int).toNat).toInt) < 0 ∨ (tb.2.length : Int) < ((xs (i + 1 : Int).toNat).toInt) then -1 else ((xs (i + 1 : Int).toNat).toInt))]) hC hR (c_Mo_end h_138 (by omega) (by omega)) cv_La_22 ⟨_, _, h_138⟩ (by decide) (by omega) (by omega) rfl rfl (Nat.le_of_ble_eq_true rfl) d_La_law_162 (fun r_150 M_148 p_149 => ?_)
          obtain ⟨rfl, h_151, fr_152⟩ := p_149
          show G E M_148 (400 + 610 * (i / 6 : Int).toNat + psi 800 tb + psi 18200 ob + 0 + 0) (70000 + 2710 * (i / 6 : Int).toNat + psi 800 tb + psi 18200 ob + 0 + 0) [(0, .ref b), (1, .ref q_1), (2, .ref q_10), (3, vI i)] [vI (if ((xs (i + 1 : Int).toNat).toInt) < 0 ∨ (tb.2.length : Int) < ((xs (i + 1 : Int).toNat).toInt) then -1 else ((xs (i + 1 : Int).toNat).toInt)), vI (if ((xs (i + 1 : Int).toNat).toInt) < 0 ∨ (tb.2.length : Int) < ((xs (i + 1 : Int).toNat).toInt) then -1 else ((xs (i + 1 : Int).toNat).toInt))] 165
          have h_153 := h_139.fr fr_152 (by decide)
          have h_154 := h_141.fr fr_152 (by intro u hu; simp only [List.mem_cons, List.not_mem_nil, or_false] at hu <;> omega)
          have h_156 := h_140.fr fr_152 (by decide) (by decide)
          have h_157 := h_142.fr fr_152 (by decide) (by decide)
          have h_158 := h_143.fr fr_152 (by decide) (by decide)
          have h_159 := h_144.fr fr_152 (by decide) (by decide)
          have h_160 := fr_152.at h_145 (by decide)
          have h_161 := h_146.fr fr_152 (by intro u hu; simp only [List.mem_cons, List.not_mem_nil, or_false] at hu <;> omega)
          have h_155 : IsMo (eD E) M_148 q_10 ((if ((xs (i + 1 : Int).toNat).toInt) < 0 ∨ (tb.2.length : Int) < ((xs (i + 1 : Int).toNat).toInt) then tb else cutB tb ((xs (i + 1 : Int).toNat).toInt)).2) ob.2 es so cn vo := by rw [end_2]; exact ⟨_, _, _, _, _, _, _, _, _, _, _, _, _, _, _, _, _, _, _, _, _, _, by rw [end_l]; exact h_151, end_row h_153, h_156, h_154, h_157, h_158, h_159, h_160, h_161, h_147⟩
          refine G_ieq hC 311 (rfl) (by decide) d_La_law_165 ?_
          refine G_iinc (lv' := [(3, vI (i + 6)), (0, .ref b), (1, .ref q_1), (2, .ref q_10)]) hC 3 rfl (by rw [hN]; decide) rfl d_La_law_311 ?_
          refine G_goto hC 18 (by decide) d_La_law_314 ?_
          refine G_lv [1, 2, 3, 0] rfl ?_
          have h_162 := h_112.fr fr_152 (by intro u hu; simp only [List.mem_cons, List.not_mem_nil, or_false] at hu <;> omega)
          refine G_widen (k' := 400 + 610 * ((i + 6) / 6 : Int).toNat + psi 800 (if ((xs (i + 1 : Int).toNat).toInt) < 0 ∨ (tb.2.length : Int) < ((xs (i + 1 : Int).toNat).toInt) then tb else cutB tb ((xs (i + 1 : Int).toNat).toInt)) + psi 18200 ob) (n' := 70000 + 2710 * ((i + 6) / 6 : Int).toNat + psi 800 (if ((xs (i + 1 : Int).toNat).toInt) < 0 ∨ (tb.2.length : Int) < ((xs (i + 1 : Int).toNat).toInt) then tb else cutB tb ((xs (i + 1 : Int).toNat).toInt)) + psi 18200 ob) (by omega) (by omega) ?_
          exact ih18 M_148 (i + 6) _ _ _ _ _ _ (by omega) (((hfr1.up (T := ([] ++ List.range 1000)) (by intro u hu; simp only [List.mem_append, mem_lvT, List.mem_range, List.mem_cons, List.not_mem_nil, or_false, false_or] at hu ⊢ <;> omega)).tr' (T := ([] ++ List.range 1000)) fr_113 (fun _ z => z) (by intro u hu; simp only [List.mem_append, mem_lvT, List.mem_range, List.mem_cons, List.not_mem_nil, or_false, false_or] at hu ⊢ <;> omega)).tr' (T := ([] ++ List.range 1000)) fr_152 (fun _ z => z) (by intro u hu; simp only [List.mem_append, mem_lvT, List.mem_range, List.mem_cons, List.not_mem_nil, or_false, false_or] at hu ⊢ <;> omega)) h_162 h_155 (by omega)
        by_cases c_163 : ((xs (i : Int).toNat).toInt) % 16 = 2
        · refine G_tabIn 2 170 hC c_163 (by omega) rfl (by decide) d_La_law_33 ?_
          refine G_aload_n hC 1 rfl rfl d_La_law_170 ?_
          refine G_aload_n hC 0 rfl rfl d_La_law_171 ?_
          refine G_iload_n hC 3 rfl rfl d_La_law_172 ?_
          refine G_iconst (i := 1) hC d_La_law_173 ?_
          refine G_iadd hC d_La_law_174 ?_
          refine G_sld hC hX hbB (by omega) (by omega) d_La_law_175 ?_
          have g_164 := zI_rng (xs (i + 1 : Int).toNat)
          refine G_aload_n hC 0 rfl rfl d_La_law_176 ?_
          refine G_iload_n hC 3 rfl rfl d_La_law_177 ?_
          refine G_iconst (i := 2) hC d_La_law_178 ?_
          refine G_iadd hC d_La_law_179 ?_
          refine G_sld hC hX hbB (by omega) (by omega) d_La_law_180 ?_
          have g_165 := zI_rng (xs (i + 2 : Int).toNat)
          have hp0 : psi 800 (tb.1, ([] : List Int)) = psi 800 tb := rfl
          refine G_yxV (rest := []) hC hR (c_Po_entry hpo (by omega)) cv_La_23 hpo.obj (by decide) (by omega) (by omega) rfl rfl (Nat.le_of_ble_eq_true rfl) d_La_law_181 (fun r_168 M_166 p_167 => ?_)
          obtain ⟨rfl, h_169, fr_170⟩ := p_167
          show G E M_166 (400 + 610 * (i / 6 : Int).toNat + psi 800 tb + psi 18200 ob + (7)) (70000 + 2710 * (i / 6 : Int).toNat + psi 800 tb + psi 18200 ob + (2700)) [(0, .ref b), (1, .ref q_1), (2, .ref q_10), (3, vI i)] [vI (if 40 ≤ (es.length : Int) then -3 else if (takeS es tb.2 ((xs (i + 1 : Int).toNat).toInt) (zI ((xs (i + 2 : Int).toNat).toInt))).isSome = true then (((takeS es tb.2 ((xs (i + 1 : Int).toNat).toInt) (zI ((xs (i + 2 : Int).toNat).toInt))).getD es).length : Int) else -1)] 184
          refine G_aload_n hC 2 rfl rfl d_La_law_184 ?_
          refine G_aload_n hC 0 rfl rfl d_La_law_185 ?_
          refine G_iload_n hC 3 rfl rfl d_La_law_186 ?_
          refine G_iconst (i := 1) hC d_La_law_187 ?_
          refine G_iadd hC d_La_law_188 ?_
          refine G_sld hC hX hbB (by omega) (by omega) d_La_law_189 ?_
          have g_171 := zI_rng (xs (i + 1 : Int).toNat)
          refine G_aload_n hC 0 rfl rfl d_La_law_190 ?_
          refine G_iload_n hC 3 rfl rfl d_La_law_191 ?_
          refine G_iconst (i := 2) hC d_La_law_192 ?_
          refine G_iadd hC d_La_law_193 ?_
          refine G_sld hC hX hbB (by omega) (by omega) d_La_law_194 ?_
          have g_172 := zI_rng (xs (i + 2 : Int).toNat)
          have h_173 := hmo.fr fr_170 (by intro u hu; simp only [List.mem_append, mem_lvT, List.mem_range, List.mem_cons, List.not_mem_nil, or_false, false_or] at hu; omega)
          obtain ⟨tp_174, ou_175, sa_176, aa_177, na_178, va_179, lo_180, dm_181, tg_182, pc_183, ft_184, fm_185, w0_186, st_187, k0_188, s0_189, f0_190, o0_191, n0_192, ls_193, ds_194, ps_195, h_196, h_197, h_198, h_199, h_200, h_201, h_202, h_203, h_204, h_205⟩ := id h_173
          have hml9 := h_199.len
          refine G_yxV (rest := [vI (if 40 ≤ (es.length : Int) then -3 else if (takeS es tb.2 ((xs (i + 1 : Int).toNat).toInt) (zI ((xs (i + 2 : Int).toNat).toInt))).isSome = true then (((takeS es tb.2 ((xs (i + 1 : Int).toNat).toInt) (zI ((xs (i + 2 : Int).toNat).toInt))).getD es).length : Int) else -1)]) hC hR (c_Mo_entry h_196 h_199 h_197 (by omega) (by omega) (by omega)) cv_La_27 ⟨_, _, h_196⟩ (by decide) (by omega) (by omega) rfl rfl (Nat.le_of_ble_eq_true rfl) d_La_law_195 (fun r_208 M_206 p_207 => ?_)
          obtain ⟨rfl, h_209, h_210, fr_211⟩ := p_207
          show G E M_206 (400 + 610 * (i / 6 : Int).toNat + psi 800 tb + psi 18200 ob + (7) + 0) (70000 + 2710 * (i / 6 : Int).toNat + psi 800 tb + psi 18200 ob + (2700) + 0) [(0, .ref b), (1, .ref q_1), (2, .ref q_10), (3, vI i)] [vI (if 40 ≤ (es.length : Int) then -3 else if (takeS es tb.2 ((xs (i + 1 : Int).toNat).toInt) (zI ((xs (i + 2 : Int).toNat).toInt))).isSome = true then (((takeS es tb.2 ((xs (i + 1 : Int).toNat).toInt) (zI ((xs (i + 2 : Int).toNat).toInt))).getD es).length : Int) else -1), vI (if 40 ≤ (es.length : Int) then -3 else if (takeS es tb.2 ((xs (i + 1 : Int).toNat).toInt) (zI ((xs (i + 2 : Int).toNat).toInt))).isSome = true then (((takeS es tb.2 ((xs (i + 1 : Int).toNat).toInt) (zI ((xs (i + 2 : Int).toNat).toInt))).getD es).length : Int) else -1)] 198
          have h_212 := h_197.fr fr_211 (by simp only [List.mem_cons, List.not_mem_nil, or_false, not_or, not_false_eq_true]; try omega)
          have h_214 := h_198.fr fr_211 (by simp only [List.mem_cons, List.not_mem_nil, or_false, not_or, not_false_eq_true]; try omega) (by simp only [List.mem_cons, List.not_mem_nil, or_false, not_or, not_false_eq_true]; try omega)
          have h_215 := h_200.fr fr_211 (by simp only [List.mem_cons, List.not_mem_nil, or_false, not_or, not_false_eq_true]; try omega) (by simp only [List.mem_cons, List.not_mem_nil, or_false, not_or, not_false_eq_true]; try omega)
          have h_216 := h_201.fr fr_211 (by simp only [List.mem_cons, List.not_mem_nil, or_false, not_or, not_false_eq_true]; try omega) (by simp only [List.mem_cons, List.not_mem_nil, or_false, not_or, not_false_eq_true]; try omega)
          have h_217 := h_202.fr fr_211 (by simp only [List.mem_cons, List.not_mem_nil, or_false, not_or, not_false_eq_true]; try omega) (by simp only [List.mem_cons, List.not_mem_nil, or_false, not_or, not_false_eq_true]; try omega)
          have h_218 := fr_211.at h_203 (by simp only [List.mem_cons, List.not_mem_nil, or_false, not_or, not_false_eq_true]; try omega)
          have h_219 := h_204.fr fr_211 (by intro u hu; simp only [List.mem_cons, List.not_mem_nil, or_false] at hu <;> omega)
          have h_213 : IsMo (eD E) M_206 q_10 ((tb.1, []).2) ob.2 ((takeS es tb.2 ((xs (i + 1 : Int).toNat).toInt) (zI ((xs (i + 2 : Int).toNat).toInt))).getD es) so cn vo := by exact ⟨_, _, _, _, _, _, _, _, _, _, _, _, _, _, _, _, _, _, _, _, _, _, h_209, h_212.take 0, h_214, h_210, h_215, h_216, h_217, h_218, h_219, h_205⟩
          refine G_ieq hC 311 (rfl) (by decide) d_La_law_198 ?_
          refine G_iinc (lv' := [(3, vI (i + 6)), (0, .ref b), (1, .ref q_1), (2, .ref q_10)]) hC 3 rfl (by rw [hN]; decide) rfl d_La_law_311 ?_
          refine G_goto hC 18 (by decide) d_La_law_314 ?_
          refine G_lv [1, 2, 3, 0] rfl ?_
          have h_220 := h_169.fr fr_211 (by intro u hu; simp only [List.mem_cons, List.not_mem_nil, or_false] at hu <;> omega)
          refine G_widen (k' := 400 + 610 * ((i + 6) / 6 : Int).toNat + psi 800 (tb.1, []) + psi 18200 ob) (n' := 70000 + 2710 * ((i + 6) / 6 : Int).toNat + psi 800 (tb.1, []) + psi 18200 ob) (by omega) (by omega) ?_
          exact ih18 M_206 (i + 6) _ _ _ _ _ _ (by omega) (((hfr1.up (T := ([] ++ List.range 1000)) (by intro u hu; simp only [List.mem_append, mem_lvT, List.mem_range, List.mem_cons, List.not_mem_nil, or_false, false_or] at hu ⊢ <;> omega)).tr' (T := ([] ++ List.range 1000)) fr_170 (fun _ z => z) (by intro u hu; simp only [List.mem_append, mem_lvT, List.mem_range, List.mem_cons, List.not_mem_nil, or_false, false_or] at hu ⊢ <;> omega)).tr' (T := ([] ++ List.range 1000)) fr_211 (fun _ z => z) (by intro u hu; simp only [List.mem_append, mem_lvT, List.mem_range, List.mem_cons, List.not_mem_nil, or_false, false_or] at hu ⊢ <;> omega)) h_220 h_213 (by omega)
        by_cases c_221 : ((xs (i : Int).toNat).toInt) % 16 = 3
        · refine G_tabIn 3 203 hC c_221 (by omega) rfl (by decide) d_La_law_33 ?_
          refine G_aload_n hC 1 rfl rfl d_La_law_203 ?_
          refine G_yxV (rest := []) hC hR (c_Po_forget hpo) cv_La_28 hpo.obj (by decide) (by omega) (by omega) rfl rfl (Nat.le_of_ble_eq_true rfl) d_La_law_204 (fun r_224 M_222 p_223 => ?_)
          obtain ⟨rfl, h_225, fr_226⟩ := p_223
          show G E M_222 (400 + 610 * (i / 6 : Int).toNat + psi 800 tb + psi 18200 ob + 0) (70000 + 2710 * (i / 6 : Int).toNat + psi 800 tb + psi 18200 ob + 0) [(0, .ref b), (1, .ref q_1), (2, .ref q_10), (3, vI i)] [vI (es.length : Int)] 207
          refine G_aload_n hC 2 rfl rfl d_La_law_207 ?_
          have h_227 := hmo.fr fr_226 (by intro u hu; simp only [List.mem_append, mem_lvT, List.mem_range, List.mem_cons, List.not_mem_nil, or_false, false_or] at hu; omega)
          obtain ⟨tp_228, ou_229, sa_230, aa_231, na_232, va_233, lo_234, dm_235, tg_236, pc_237, ft_238, fm_239, w0_240, st_241, k0_242, s0_243, f0_244, o0_245, n0_246, ls_247, ds_248, ps_249, h_250, h_251, h_252, h_253, h_254, h_255, h_256, h_257, h_258, h_259⟩ := id h_227
          refine G_yxV (rest := [vI (es.length : Int)]) hC hR (c_Mo_forget h_250) cv_La_32 ⟨_, _, h_250⟩ (by decide) (by omega) (by omega) rfl rfl (Nat.le_of_ble_eq_true rfl) d_La_law_208 (fun r_262 M_260 p_261 => ?_)
          obtain ⟨rfl, h_263, fr_264⟩ := p_261
          show G E M_260 (400 + 610 * (i / 6 : Int).toNat + psi 800 tb + psi 18200 ob + 0 + 0) (70000 + 2710 * (i / 6 : Int).toNat + psi 800 tb + psi 18200 ob + 0 + 0) [(0, .ref b), (1, .ref q_1), (2, .ref q_10), (3, vI i)] [vI (es.length : Int), vI (es.length : Int)] 211
          have h_265 := h_251.fr fr_264 (by decide)
          have h_266 := h_253.fr fr_264 (by intro u hu; simp only [List.mem_cons, List.not_mem_nil, or_false] at hu <;> omega)
          have h_268 := h_252.fr fr_264 (by decide) (by decide)
          have h_269 := h_254.fr fr_264 (by decide) (by decide)
          have h_270 := h_255.fr fr_264 (by decide) (by decide)
          have h_271 := h_256.fr fr_264 (by decide) (by decide)
          have h_272 := fr_264.at h_257 (by decide)
          have h_273 := h_258.fr fr_264 (by intro u hu; simp only [List.mem_cons, List.not_mem_nil, or_false] at hu <;> omega)
          have h_267 : IsMo (eD E) M_260 q_10 tb.2 ob.2 ([]) so cn vo := by exact ⟨_, _, _, _, _, _, _, _, _, _, _, _, _, _, _, _, _, _, _, _, _, _, h_263, h_265, h_268, IsMd_nil h_266, h_269, h_270, h_271, h_272, h_273, h_259⟩
          refine G_ieq hC 311 (rfl) (by decide) d_La_law_211 ?_
          refine G_iinc (lv' := [(3, vI (i + 6)), (0, .ref b), (1, .ref q_1), (2, .ref q_10)]) hC 3 rfl (by rw [hN]; decide) rfl d_La_law_311 ?_
          refine G_goto hC 18 (by decide) d_La_law_314 ?_
          refine G_lv [1, 2, 3, 0] rfl ?_
          have h_274 := h_225.fr fr_264 (by intro u hu; simp only [List.mem_cons, List.not_mem_nil, or_false] at hu <;> omega)
          refine G_widen (k' := 400 + 610 * ((i + 6) / 6 : Int).toNat + psi 800 tb + psi 18200 ob) (n' := 70000 + 2710 * ((i + 6) / 6 : Int).toNat + psi 800 tb + psi 18200 ob) (by omega) (by omega) ?_
          exact ih18 M_260 (i + 6) _ _ _ _ _ _ (by omega) (((hfr1.up (T := ([] ++ List.range 1000)) (by intro u hu; simp only [List.mem_append, mem_lvT, List.mem_range, List.mem_cons, List.not_mem_nil, or_false, false_or] at hu ⊢ <;> omega)).tr' (T := ([] ++ List.range 1000)) fr_226 (fun _ z => z) (by intro u hu; simp only [List.mem_append, mem_lvT, List.mem_range, List.mem_cons, List.not_mem_nil, or_false, false_or] at hu ⊢ <;> omega)).tr' (T := ([] ++ List.range 1000)) fr_264 (fun _ z => z) (by intro u hu; simp only [List.mem_append, mem_lvT, List.mem_range, List.mem_cons, List.not_mem_nil, or_false, false_or] at hu ⊢ <;> omega)) h_274 h_267 (by omega)
        by_cases c_275 : ((xs (i : Int).toNat).toInt) % 16 = 4
        · refine G_tabIn 4 216 hC c_275 (by omega) rfl (by decide) d_La_law_33 ?_
          refine G_aload_n hC 1 rfl rfl d_La_law_216 ?_
          refine G_aload_n hC 0 rfl rfl d_La_law_217 ?_
          refine G_iload_n hC 3 rfl rfl d_La_law_218 ?_
          refine G_iconst (i := 1) hC d_La_law_219 ?_
          refine G_iadd hC d_La_law_220 ?_
          refine G_sld hC hX hbB (by omega) (by omega) d_La_law_221 ?_
          have g_276 := zI_rng (xs (i + 1 : Int).toNat)
          have hp0 : psi 800 (tb.1, ([] : List Int)) = psi 800 tb := rfl
          refine G_yxV (rest := []) hC hR (c_Po_sender hpo) cv_La_33 hpo.obj (by decide) (by omega) (by omega) rfl rfl (Nat.le_of_ble_eq_true rfl) d_La_law_222 (fun r_279 M_277 p_278 => ?_)
          obtain ⟨rfl, h_280, fr_281⟩ := p_278
          show G E M_277 (400 + 610 * (i / 6 : Int).toNat + psi 800 tb + psi 18200 ob + (600)) (70000 + 2710 * (i / 6 : Int).toNat + psi 800 tb + psi 18200 ob + (600)) [(0, .ref b), (1, .ref q_1), (2, .ref q_10), (3, vI i)] [vI (if (sndS tb.2 (zI ((xs (i + 1 : Int).toNat).toInt))).isSome = true then 0 else -1)] 225
          refine G_aload_n hC 2 rfl rfl d_La_law_225 ?_
          refine G_aload_n hC 0 rfl rfl d_La_law_226 ?_
          refine G_iload_n hC 3 rfl rfl d_La_law_227 ?_
          refine G_iconst (i := 1) hC d_La_law_228 ?_
          refine G_iadd hC d_La_law_229 ?_
          refine G_sld hC hX hbB (by omega) (by omega) d_La_law_230 ?_
          have g_282 := zI_rng (xs (i + 1 : Int).toNat)
          have h_283 := hmo.fr fr_281 (by intro u hu; simp only [List.mem_append, mem_lvT, List.mem_range, List.mem_cons, List.not_mem_nil, or_false, false_or] at hu; omega)
          obtain ⟨tp_284, ou_285, sa_286, aa_287, na_288, va_289, lo_290, dm_291, tg_292, pc_293, ft_294, fm_295, w0_296, st_297, k0_298, s0_299, f0_300, o0_301, n0_302, ls_303, ds_304, ps_305, h_306, h_307, h_308, h_309, h_310, h_311, h_312, h_313, h_314, h_315⟩ := id h_283
          refine G_yxV (rest := [vI (if (sndS tb.2 (zI ((xs (i + 1 : Int).toNat).toInt))).isSome = true then 0 else -1)]) hC hR (c_Mo_sender h_306 h_307 h_310 h_311 (by omega) rfl) cv_La_36 ⟨_, _, h_306⟩ (by decide) (by omega) (by omega) rfl rfl (Nat.le_of_ble_eq_true rfl) d_La_law_231 (fun r_318 M_316 p_317 => ?_)
          obtain ⟨rfl, h_319, h_320, h_321, fr_322⟩ := p_317
          show G E M_316 (400 + 610 * (i / 6 : Int).toNat + psi 800 tb + psi 18200 ob + (600) + 0) (70000 + 2710 * (i / 6 : Int).toNat + psi 800 tb + psi 18200 ob + (600) + 0) [(0, .ref b), (1, .ref q_1), (2, .ref q_10), (3, vI i)] [vI (if (sndS tb.2 (zI ((xs (i + 1 : Int).toNat).toInt))).isSome = true then 0 else -1), vI (if (sndS tb.2 (zI ((xs (i + 1 : Int).toNat).toInt))).isSome = true then 0 else -1)] 234
          have h_323 := h_307.fr fr_322 (by decide)
          have h_324 := h_309.fr fr_322 (by intro u hu; simp only [List.mem_cons, List.not_mem_nil, or_false] at hu <;> omega)
          have h_326 := h_308.fr fr_322 (by decide) (by decide)
          have h_327 := h_312.fr fr_322 (by decide) (by decide)
          have h_328 := fr_322.at h_313 (by decide)
          have h_329 := h_314.fr fr_322 (by intro u hu; simp only [List.mem_cons, List.not_mem_nil, or_false] at hu <;> omega)
          have h_325 : IsMo (eD E) M_316 q_10 ((tb.1, []).2) ob.2 es ((sndS tb.2 (zI ((xs (i + 1 : Int).toNat).toInt))).or so) cn vo := by exact ⟨_, _, _, _, _, _, _, _, _, _, _, _, _, _, _, _, _, _, _, _, _, _, h_319, h_323.take 0, h_326, h_324, h_320, h_321, h_327, h_328, h_329, snT_sender h_315⟩
          refine G_ieq hC 311 (rfl) (by decide) d_La_law_234 ?_
          refine G_iinc (lv' := [(3, vI (i + 6)), (0, .ref b), (1, .ref q_1), (2, .ref q_10)]) hC 3 rfl (by rw [hN]; decide) rfl d_La_law_311 ?_
          refine G_goto hC 18 (by decide) d_La_law_314 ?_
          refine G_lv [1, 2, 3, 0] rfl ?_
          have h_330 := h_280.fr fr_322 (by intro u hu; simp only [List.mem_cons, List.not_mem_nil, or_false] at hu <;> omega)
          refine G_widen (k' := 400 + 610 * ((i + 6) / 6 : Int).toNat + psi 800 (tb.1, []) + psi 18200 ob) (n' := 70000 + 2710 * ((i + 6) / 6 : Int).toNat + psi 800 (tb.1, []) + psi 18200 ob) (by omega) (by omega) ?_
          exact ih18 M_316 (i + 6) _ _ _ _ _ _ (by omega) (((hfr1.up (T := ([] ++ List.range 1000)) (by intro u hu; simp only [List.mem_append, mem_lvT, List.mem_range, List.mem_cons, List.not_mem_nil, or_false, false_or] at hu ⊢ <;> omega)).tr' (T := ([] ++ List.range 1000)) fr_281 (fun _ z => z) (by intro u hu; simp only [List.mem_append, mem_lvT, List.mem_range, List.mem_cons, List.not_mem_nil, or_false, false_or] at hu ⊢ <;> omega)).tr' (T := ([] ++ List.range 1000)) fr_322 (fun _ z => z) (by intro u hu; simp only [List.mem_append, mem_lvT, List.mem_range, List.mem_cons, List.not_mem_nil, or_false, false_or] at hu ⊢ <;> omega)) h_330 h_325 (by omega)
        by_cases c_331 : ((xs (i : Int).toNat).toInt) % 16 = 5
        · refine G_tabIn 5 239 hC c_331 (by omega) rfl (by decide) d_La_law_33 ?_
          refine G_aload_n hC 1 rfl rfl d_La_law_239 ?_
          refine G_yxV (rest := []) hC hR (c_Po_permission hpo) cv_La_37 hpo.obj (by decide) (by omega) (by omega) rfl rfl (Nat.le_of_ble_eq_true rfl) d_La_law_240 (fun r_334 M_332 p_333 => ?_)
          obtain ⟨rfl, h_335, fr_336⟩ := p_333
          show G E M_332 (400 + 610 * (i / 6 : Int).toNat + psi 800 tb + psi 18200 ob + 0) (70000 + 2710 * (i / 6 : Int).toNat + psi 800 tb + psi 18200 ob + 0) [(0, .ref b), (1, .ref q_1), (2, .ref q_10), (3, vI i)] [vI ((perR es so cn vo).1)] 243
          refine G_aload_n hC 2 rfl rfl d_La_law_243 ?_
          have h_337 := hmo.fr fr_336 (by intro u hu; simp only [List.mem_append, mem_lvT, List.mem_range, List.mem_cons, List.not_mem_nil, or_false, false_or] at hu; omega)
          obtain ⟨tp_338, ou_339, sa_340, aa_341, na_342, va_343, lo_344, dm_345, tg_346, pc_347, ft_348, fm_349, w0_350, st_351, k0_352, s0_353, f0_354, o0_355, n0_356, ls_357, ds_358, ps_359, h_360, h_361, h_362, h_363, h_364, h_365, h_366, h_367, h_368, h_369⟩ := id h_337
          refine G_yxV (rest := [vI ((perR es so cn vo).1)]) hC hR (c_Mo_permission h_360 h_363 h_364 h_365 h_366 h_367 h_368 (by omega) h_369 rfl) cv_La_40 ⟨_, _, h_360⟩ (by decide) (by omega) (by omega) rfl rfl (Nat.le_of_ble_eq_true rfl) d_La_law_244 (fun r_372 M_370 p_371 => ?_)
          obtain ⟨k9_373, s9_374, f9_375, o9_376, n9_377, w9_378, ps9_379, rfl, h_380, h_381, h_382, fr_383⟩ := p_371
          show G E M_370 (400 + 610 * (i / 6 : Int).toNat + psi 800 tb + psi 18200 ob + 0 + 0) (70000 + 2710 * (i / 6 : Int).toNat + psi 800 tb + psi 18200 ob + 0 + 0) [(0, .ref b), (1, .ref q_1), (2, .ref q_10), (3, vI i)] [vI ((perR es so cn vo).1), vI ((perR es so cn vo).1)] 247
          have h_384 := h_361.fr fr_383 (by simp only [List.mem_append, mem_tgT, List.mem_range, List.mem_cons, List.not_mem_nil, or_false, false_or]; omega)
          have h_385 := h_363.fr fr_383 (by intro u hu; simp only [List.mem_append, mem_tgT, List.mem_range, List.mem_cons, List.not_mem_nil, or_false, false_or] at hu; omega)
          have h_387 := h_362.fr fr_383 (by simp only [List.mem_append, mem_tgT, List.mem_range, List.mem_cons, List.not_mem_nil, or_false, false_or]; omega) (by simp only [List.mem_append, mem_tgT, List.mem_range, List.mem_cons, List.not_mem_nil, or_false, false_or]; omega)
          have h_388 := h_364.fr fr_383 (by simp only [List.mem_append, mem_tgT, List.mem_range, List.mem_cons, List.not_mem_nil, or_false, false_or]; omega) (by simp only [List.mem_append, mem_tgT, List.mem_range, List.mem_cons, List.not_mem_nil, or_false, false_or]; omega)
          have h_389 := h_365.fr fr_383 (by simp only [List.mem_append, mem_tgT, List.mem_range, List.mem_cons, List.not_mem_nil, or_false, false_or]; omega) (by simp only [List.mem_append, mem_tgT, List.mem_range, List.mem_cons, List.not_mem_nil, or_false, false_or]; omega)
          have h_390 := fr_383.at h_367 (by simp only [List.mem_append, mem_tgT, List.mem_range, List.mem_cons, List.not_mem_nil, or_false, false_or]; omega)
          have h_386 : IsMo (eD E) M_370 q_10 tb.2 ob.2 es so ((perR es so cn vo).2.1) ((perR es so cn vo).2.2) := by exact ⟨_, _, _, _, _, _, _, _, _, _, _, _, _, _, _, _, _, _, _, _, _, _, h_380, h_384, h_387, h_385, h_388, h_389, h_381, h_390, h_382, h_369⟩
          refine G_ieq hC 311 (rfl) (by decide) d_La_law_247 ?_
          refine G_iinc (lv' := [(3, vI (i + 6)), (0, .ref b), (1, .ref q_1), (2, .ref q_10)]) hC 3 rfl (by rw [hN]; decide) rfl d_La_law_311 ?_
          refine G_goto hC 18 (by decide) d_La_law_314 ?_
          refine G_lv [1, 2, 3, 0] rfl ?_
          have h_391 := h_335.fr fr_383 (by intro u hu; simp only [List.mem_append, mem_tgT, List.mem_range, List.mem_cons, List.not_mem_nil, or_false, false_or] at hu; omega)
          refine G_widen (k' := 400 + 610 * ((i + 6) / 6 : Int).toNat + psi 800 tb + psi 18200 ob) (n' := 70000 + 2710 * ((i + 6) / 6 : Int).toNat + psi 800 tb + psi 18200 ob) (by omega) (by omega) ?_
          exact ih18 M_370 (i + 6) _ _ _ _ _ _ (by omega) (((hfr1.up (T := ([] ++ List.range 1000)) (by intro u hu; simp only [List.mem_append, mem_lvT, List.mem_range, List.mem_cons, List.not_mem_nil, or_false, false_or] at hu ⊢ <;> omega)).tr' (T := ([] ++ List.range 1000)) fr_336 (fun _ z => z) (by intro u hu; simp only [List.mem_append, mem_lvT, List.mem_range, List.mem_cons, List.not_mem_nil, or_false, false_or] at hu ⊢ <;> omega)).tr' (T := ([] ++ List.range 1000)) fr_383 (fun _ z => z) (by intro u hu; simp only [List.mem_append, mem_tgT, List.mem_range, List.mem_cons, List.not_mem_nil, or_false, false_or] at hu ⊢ <;> omega)) h_391 h_386 (by omega)
        by_cases c_392 : ((xs (i : Int).toNat).toInt) % 16 = 6
        · refine G_tabIn 6 252 hC c_392 (by omega) rfl (by decide) d_La_law_33 ?_
          refine G_aload_n hC 1 rfl rfl d_La_law_252 ?_
          refine G_aload_n hC 0 rfl rfl d_La_law_253 ?_
          refine G_iload_n hC 3 rfl rfl d_La_law_254 ?_
          refine G_iconst (i := 1) hC d_La_law_255 ?_
          refine G_iadd hC d_La_law_256 ?_
          refine G_sld hC hX hbB (by omega) (by omega) d_La_law_257 ?_
          have g_393 := zI_rng (xs (i + 1 : Int).toNat)
          refine G_ypV (rest := []) hC hR (c_Po_cost hpo (by omega)) cv_La_41 hpo.obj (by decide) (by omega) (by omega) rfl rfl (Nat.le_of_ble_eq_true rfl) d_La_law_258 ?_
          refine G_aload_n hC 2 rfl rfl d_La_law_261 ?_
          refine G_aload_n hC 0 rfl rfl d_La_law_262 ?_
          refine G_iload_n hC 3 rfl rfl d_La_law_263 ?_
          refine G_iconst (i := 1) hC d_La_law_264 ?_
          refine G_iadd hC d_La_law_265 ?_
          refine G_sld hC hX hbB (by omega) (by omega) d_La_law_266 ?_
          have g_394 := zI_rng (xs (i + 1 : Int).toNat)
          obtain ⟨tp_395, ou_396, sa_397, aa_398, na_399, va_400, lo_401, dm_402, tg_403, pc_404, ft_405, fm_406, w0_407, st_408, k0_409, s0_410, f0_411, o0_412, n0_413, ls_414, ds_415, ps_416, h_417, h_418, h_419, h_420, h_421, h_422, h_423, h_424, h_425, h_426⟩ := id hmo
          refine G_ypV (rest := [vI (if ((xs (i + 1 : Int).toNat).toInt) = 0 then cn else if ((xs (i + 1 : Int).toNat).toInt) = 1 then vo else -1)]) hC hR (c_Mo_cost h_417 (by omega)) cv_La_44 ⟨_, _, h_417⟩ (by decide) (by omega) (by omega) rfl rfl (Nat.le_of_ble_eq_true rfl) d_La_law_267 ?_
          refine G_ieq hC 311 (rfl) (by decide) d_La_law_270 ?_
          refine G_iinc (lv' := [(3, vI (i + 6)), (0, .ref b), (1, .ref q_1), (2, .ref q_10)]) hC 3 rfl (by rw [hN]; decide) rfl d_La_law_311 ?_
          refine G_goto hC 18 (by decide) d_La_law_314 ?_
          refine G_lv [1, 2, 3, 0] rfl ?_
          refine G_widen (k' := 400 + 610 * ((i + 6) / 6 : Int).toNat + psi 800 tb + psi 18200 ob) (n' := 70000 + 2710 * ((i + 6) / 6 : Int).toNat + psi 800 tb + psi 18200 ob) (by omega) (by omega) ?_
          exact ih18 M1 (i + 6) _ _ _ _ _ _ (by omega) (hfr1.up (T := ([] ++ List.range 1000)) (by intro u hu; simp only [List.mem_append, mem_lvT, List.mem_range, List.mem_cons, List.not_mem_nil, or_false, false_or] at hu ⊢ <;> omega)) hpo hmo (by omega)
        by_cases c_427 : ((xs (i : Int).toNat).toInt) % 16 = 7
        · refine G_tabIn 7 275 hC c_427 (by omega) rfl (by decide) d_La_law_33 ?_
          refine G_aload_n hC 1 rfl rfl d_La_law_275 ?_
          have hps := exp_psi (ob := ob) (tb := tb) (so := so) hrg.2.1
          have hp0 : psi 800 (tb.1, ([] : List Int)) = psi 800 tb := rfl
          refine G_yxV (rest := []) hC hR (c_Po_expand hpo) cv_La_45 hpo.obj (by decide) (by omega) (by omega) rfl rfl (Nat.le_of_ble_eq_true rfl) d_La_law_276 (fun r_430 M_428 p_429 => ?_)
          obtain ⟨rfl, h_431, fr_432⟩ := p_429
          show G E M_428 (400 + 610 * (i / 6 : Int).toNat + psi 800 tb + psi 18200 ob + (psi 18200 ((expO ob tb so).getD ob) - psi 18200 ob)) (70000 + 2710 * (i / 6 : Int).toNat + psi 800 tb + psi 18200 ob + (psi 18200 ((expO ob tb so).getD ob) - psi 18200 ob)) [(0, .ref b), (1, .ref q_1), (2, .ref q_10), (3, vI i)] [vI (if (expO ob tb so).isSome = true then (((expO ob tb so).getD ob).2.length : Int) else -1)] 279
          refine G_aload_n hC 2 rfl rfl d_La_law_279 ?_
          have h_433 := hmo.fr fr_432 (by intro u hu; simp only [List.mem_append, mem_lvT, List.mem_range, List.mem_cons, List.not_mem_nil, or_false, false_or] at hu; omega)
          obtain ⟨tp_434, ou_435, sa_436, aa_437, na_438, va_439, lo_440, dm_441, tg_442, pc_443, ft_444, fm_445, w0_446, st_447, k0_448, s0_449, f0_450, o0_451, n0_452, ls_453, ds_454, ps_455, h_456, h_457, h_458, h_459, h_460, h_461, h_462, h_463, h_464, h_465⟩ := id h_433
          have hsp := snT_P h_465
          refine G_yxV (rest := [vI (if (expO ob tb so).isSome = true then (((expO ob tb so).getD ob).2.length : Int) else -1)]) hC hR (c_Mo_expand1 h_456 h_457 h_460 h_461 h_462 h_458 (by omega) h_465 rfl) cv_La_48 ⟨_, _, h_456⟩ (by decide) (by omega) (by omega) rfl rfl (Nat.le_of_ble_eq_true rfl) d_La_law_280 (fun r_468 M_466 p_467 => ?_)
          obtain ⟨ps9_469, rfl, h_470, h_471, h_472, fr_473⟩ := p_467
          show G E M_466 (400 + 610 * (i / 6 : Int).toNat + psi 800 tb + psi 18200 ob + (psi 18200 ((expO ob tb so).getD ob) - psi 18200 ob) + 0) (70000 + 2710 * (i / 6 : Int).toNat + psi 800 tb + psi 18200 ob + (psi 18200 ((expO ob tb so).getD ob) - psi 18200 ob) + 0) [(0, .ref b), (1, .ref q_1), (2, .ref q_10), (3, vI i)] [vI ((rexO tb.2 so).elim (-1) (fun l => (l.length : Int))), vI (if (expO ob tb so).isSome = true then (((expO ob tb so).getD ob).2.length : Int) else -1)] 283
          have hx2 := exp_2 (ob := ob) (tb := tb) (so := so) (by omega) hsp
          have h_474 := h_457.fr fr_473 (by decide)
          have h_475 := h_459.fr fr_473 (by intro u hu; simp only [List.mem_cons, List.not_mem_nil, or_false] at hu <;> omega)
          have h_477 := h_460.fr fr_473 (by decide) (by decide)
          have h_478 := h_461.fr fr_473 (by decide) (by decide)
          have h_479 := fr_473.at h_463 (by decide)
          have h_480 := h_464.fr fr_473 (by intro u hu; simp only [List.mem_cons, List.not_mem_nil, or_false] at hu <;> omega)
          have h_476 : IsMo (eD E) M_466 q_10 ((tb.1, []).2) (((expO ob tb so).getD ob).2) es so cn vo := by exact ⟨_, _, _, _, _, _, _, _, _, _, _, _, _, _, _, _, _, _, _, _, _, _, h_470, h_474.take 0, by rw [← hx2]; exact h_471, h_475, h_477, h_478, h_472, h_479, h_480, h_465⟩
          refine G_ieq hC 311 (exp_r (by omega) hsp) (by decide) d_La_law_283 ?_
          refine G_iinc (lv' := [(3, vI (i + 6)), (0, .ref b), (1, .ref q_1), (2, .ref q_10)]) hC 3 rfl (by rw [hN]; decide) rfl d_La_law_311 ?_
          refine G_goto hC 18 (by decide) d_La_law_314 ?_
          refine G_lv [1, 2, 3, 0] rfl ?_
          have h_481 := h_431.fr fr_473 (by intro u hu; simp only [List.mem_cons, List.not_mem_nil, or_false] at hu <;> omega)
          refine G_widen (k' := 400 + 610 * ((i + 6) / 6 : Int).toNat + psi 800 (tb.1, []) + psi 18200 ((expO ob tb so).getD ob)) (n' := 70000 + 2710 * ((i + 6) / 6 : Int).toNat + psi 800 (tb.1, []) + psi 18200 ((expO ob tb so).getD ob)) (by omega) (by omega) ?_
          exact ih18 M_466 (i + 6) _ _ _ _ _ _ (by omega) (((hfr1.up (T := ([] ++ List.range 1000)) (by intro u hu; simp only [List.mem_append, mem_lvT, List.mem_range, List.mem_cons, List.not_mem_nil, or_false, false_or] at hu ⊢ <;> omega)).tr' (T := ([] ++ List.range 1000)) fr_432 (fun _ z => z) (by intro u hu; simp only [List.mem_append, mem_lvT, List.mem_range, List.mem_cons, List.not_mem_nil, or_false, false_or] at hu ⊢ <;> omega)).tr' (T := ([] ++ List.range 1000)) fr_473 (fun _ z => z) (by intro u hu; simp only [List.mem_append, mem_lvT, List.mem_range, List.mem_cons, List.not_mem_nil, or_false, false_or] at hu ⊢ <;> omega)) h_481 h_476 (by omega)
        by_cases c_482 : ((xs (i : Int).toNat).toInt) % 16 = 8
        · refine G_tabIn 8 288 hC c_482 (by omega) rfl (by decide) d_La_law_33 ?_
          refine G_aload_n hC 1 rfl rfl d_La_law_288 ?_
          refine G_aload_n hC 0 rfl rfl d_La_law_289 ?_
          refine G_iload_n hC 3 rfl rfl d_La_law_290 ?_
          refine G_iconst (i := 1) hC d_La_law_291 ?_
          refine G_iadd hC d_La_law_292 ?_
          refine G_sld hC hX hbB (by omega) (by omega) d_La_law_293 ?_
          have g_483 := zI_rng (xs (i + 1 : Int).toNat)
          refine G_ypV (rest := []) hC hR (c_Po_octet hpo (by omega)) cv_La_49 hpo.obj (by decide) (by omega) (by omega) rfl rfl (Nat.le_of_ble_eq_true rfl) d_La_law_294 ?_
          refine G_aload_n hC 2 rfl rfl d_La_law_297 ?_
          refine G_aload_n hC 0 rfl rfl d_La_law_298 ?_
          refine G_iload_n hC 3 rfl rfl d_La_law_299 ?_
          refine G_iconst (i := 1) hC d_La_law_300 ?_
          refine G_iadd hC d_La_law_301 ?_
          refine G_sld hC hX hbB (by omega) (by omega) d_La_law_302 ?_
          have g_484 := zI_rng (xs (i + 1 : Int).toNat)
          obtain ⟨tp_485, ou_486, sa_487, aa_488, na_489, va_490, lo_491, dm_492, tg_493, pc_494, ft_495, fm_496, w0_497, st_498, k0_499, s0_500, f0_501, o0_502, n0_503, ls_504, ds_505, ps_506, h_507, h_508, h_509, h_510, h_511, h_512, h_513, h_514, h_515, h_516⟩ := id hmo
          refine G_ypV (rest := [vI (if ((xs (i + 1 : Int).toNat).toInt) = -1 then (ob.2.length : Int) else if ((xs (i + 1 : Int).toNat).toInt) < 0 ∨ (ob.2.length : Int) ≤ ((xs (i + 1 : Int).toNat).toInt) then -2 else atS ob.2 ((xs (i + 1 : Int).toNat).toInt))]) hC hR (c_Mo_octet h_507 h_509 (by omega)) cv_La_52 ⟨_, _, h_507⟩ (by decide) (by omega) (by omega) rfl rfl (Nat.le_of_ble_eq_true rfl) d_La_law_303 ?_
          refine G_ieq hC 311 (rfl) (by decide) d_La_law_306 ?_
          refine G_iinc (lv' := [(3, vI (i + 6)), (0, .ref b), (1, .ref q_1), (2, .ref q_10)]) hC 3 rfl (by rw [hN]; decide) rfl d_La_law_311 ?_
          refine G_goto hC 18 (by decide) d_La_law_314 ?_
          refine G_lv [1, 2, 3, 0] rfl ?_
          refine G_widen (k' := 400 + 610 * ((i + 6) / 6 : Int).toNat + psi 800 tb + psi 18200 ob) (n' := 70000 + 2710 * ((i + 6) / 6 : Int).toNat + psi 800 tb + psi 18200 ob) (by omega) (by omega) ?_
          exact ih18 M1 (i + 6) _ _ _ _ _ _ (by omega) (hfr1.up (T := ([] ++ List.range 1000)) (by intro u hu; simp only [List.mem_append, mem_lvT, List.mem_range, List.mem_cons, List.not_mem_nil, or_false, false_or] at hu ⊢ <;> omega)) hpo hmo (by omega)
        refine G_tabOut 311 hC (by omega) (by omega) (by decide) d_La_law_33 ?_
        refine G_iinc (lv' := [(3, vI (i + 6)), (0, .ref b), (1, .ref q_1), (2, .ref q_10)]) hC 3 rfl (by rw [hN]; decide) rfl d_La_law_311 ?_
        refine G_goto hC 18 (by decide) d_La_law_314 ?_
        refine G_lv [1, 2, 3, 0] rfl ?_
        refine G_widen (k' := 400 + 610 * ((i + 6) / 6 : Int).toNat + psi 800 tb + psi 18200 ob) (n' := 70000 + 2710 * ((i + 6) / 6 : Int).toNat + psi 800 tb + psi 18200 ob) (by omega) (by omega) ?_
        exact ih18 M1 (i + 6) _ _ _ _ _ _ (by omega) (hfr1.up (T := ([] ++ List.range 1000)) (by intro u hu; simp only [List.mem_append, mem_lvT, List.mem_range, List.mem_cons, List.not_mem_nil, or_false, false_or] at hu ⊢ <;> omega)) hpo hmo (by omega)
  refine G_lv [3, 2, 1, 0] rfl ?_
  refine G_widen (k' := 400 + 610 * (0 / 6 : Int).toNat + psi 800 ((64 : Nat), ([] : List Int)) + psi 18200 ((64 : Nat), ([] : List Int))) (n' := 70000 + 2710 * (0 / 6 : Int).toNat + psi 800 ((64 : Nat), ([] : List Int)) + psi 18200 ((64 : Nat), ([] : List Int))) (by omega) (by omega) ?_
  exact L18 _ M_14 0 _ _ _ _ _ _ (Nat.lt_succ_self _) Fr.rf h_39 h_40 (by omega)
