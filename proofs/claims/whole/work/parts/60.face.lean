set_option maxHeartbeats 4000000 in
set_option maxRecDepth 100000 in
theorem c_Po_feed {l : Launch} {D : Dg} {b0 : Nat} {M : Mp} {a : Nat} {x1 : Int} {x2 : Int} {x3 : Int} {x4 : Int} {x5 : Int} {tb : Bv} {ob : Bv} {es : List Ent} {so : Option Snd} {cn : Int} {vo : Int} (h_Po_a : IsPo D M a tb ob es so cn vo) (hx1 : -2147483648 ≤ x1 ∧ x1 ≤ 2147483647) (hx2 : -2147483648 ≤ x2 ∧ x2 ≤ 2147483647) (hx3 : -2147483648 ≤ x3 ∧ x3 ≤ 2147483647) (hx4 : -2147483648 ≤ x4 ∧ x4 ≤ 2147483647) (hx5 : -2147483648 ≤ x5 ∧ x5 ≤ 2147483647) : Ok l D b0 6 y_Po_feed b_Po_feed 6 (some .int) M [.ref a, vI x1, vI x2, vI x3, vI x4, vI x5] (psi 800 (if 800 < (tb.2.length : Int) + 20 then tb else feedB tb x1 x2 x3 x4 x5) - psi 800 tb) (psi 800 (if 800 < (tb.2.length : Int) + 20 then tb else feedB tb x1 x2 x3 x4 x5) - psi 800 tb) (fun r M' => r = some (vI (if 800 < (tb.2.length : Int) + 20 then -3 else ((feedB tb x1 x2 x3 x4 x5).2.length : Int))) ∧ IsPo D M' a (if 800 < (tb.2.length : Int) + 20 then tb else feedB tb x1 x2 x3 x4 x5) ob es so cn vo ∧ Fr ([] ++ List.range 500) M M') := by
  refine Ok_of rfl (Nat.le_of_ble_eq_true rfl) (fun E hC hQ hl hD hB hN hR => ?_)
  subst hl hD hB
  obtain ⟨tp_1, op_2, di_3, se_4, ma_5, ch_6, lv_7, tg_8, f_9, bt_10, h_11, h_12, h_13, h_14, h_15, h_16, h_17, h_18, h_19, h_20, h_21, h_22⟩ := id h_Po_a
  have hT9 := h_12.len
  have hO9 := h_13.len
  have hE9 := h_14.len
  have hf1 := psi_add4 800 tb x1 ⟨by omega, by omega⟩
  have hf2 := psi_add4 800 _ x2 hf1.2
  have hf3 := psi_add4 800 _ x3 hf2.2
  have hf4 := psi_add4 800 _ x4 hf3.2
  have hf5 := psi_add4 800 _ x5 hf4.2
  have hcst : ¬ 800 < (tb.2.length : Int) + 20 → psi 800 (if 800 < (tb.2.length : Int) + 20 then tb else feedB tb x1 x2 x3 x4 x5) = psi 800 (add4B 800 (add4B 800 (add4B 800 (add4B 800 (add4B 800 tb x1) x2) x3) x4) x5) := fun z => by rw [if_neg z]; rfl
  show G E M 0 0 [(0, .ref a), (1, vI x1), (2, vI x2), (3, vI x3), (4, vI x4), (5, vI x5)] [] 0
  refine G_aload_n hC 0 rfl rfl d_Po_feed_0 ?_
  refine G_get hC fl_Po_14 h_11 rfl d_Po_feed_1 ?_
  refine G_pV (rest := []) hC hR (c_By_size h_12) cv_Po_53 h_12.obj (by decide) (by omega) (by omega) rfl rfl (Nat.le_of_ble_eq_true rfl) d_Po_feed_4 ?_
  have g_23 := h_12.len
  refine G_bipush (j := 20) hC (by decide +kernel) d_Po_feed_7 ?_
  refine G_iadd hC d_Po_feed_9 ?_
  refine G_sipush (j := 800) hC (by decide +kernel) d_Po_feed_10 ?_
  refine G_icmp_le hC 19 (by omega) (by decide) (by decide) d_Po_feed_13 (fun c_24 => ?_) (fun c_24 => ?_)
  · refine G_aload_n hC 0 rfl rfl d_Po_feed_19 ?_
    refine G_get hC fl_Po_14 h_11 rfl d_Po_feed_20 ?_
    refine G_iload_n hC 1 rfl rfl d_Po_feed_23 ?_
    have hcs9 := hcst (by omega)
    refine G_xV (rest := []) hC hR (c_By_addFour h_12 (by omega)) cv_Po_57 h_12.obj (by decide) (by omega) (by omega) rfl rfl (Nat.le_of_ble_eq_true rfl) d_Po_feed_24 (fun r_27 M_25 p_26 => ?_)
    obtain ⟨rfl, h_28, fr_29⟩ := p_26
    show G E M_25 (0 + (psi 800 (add4B 800 tb x1) - psi 800 tb)) (0 + (psi 800 (add4B 800 tb x1) - psi 800 tb)) [(0, .ref a), (1, vI x1), (2, vI x2), (3, vI x3), (4, vI x4), (5, vI x5)] [] 27
    have g_30 := psi_add4 800 tb x1 ⟨h_12.len.1, h_12.len.2.1⟩
    refine G_aload_n hC 0 rfl rfl d_Po_feed_27 ?_
    have h_31 := fr_29.at h_11 (by simp only [List.mem_cons, List.not_mem_nil, or_false, not_or, not_false_eq_true]; try omega)
    refine G_get hC fl_Po_14 h_31 rfl d_Po_feed_28 ?_
    refine G_iload_n hC 2 rfl rfl d_Po_feed_31 ?_
    refine G_xV (rest := []) hC hR (c_By_addFour h_28 (by omega)) cv_Po_57 h_28.obj (by decide) (by omega) (by omega) rfl rfl (Nat.le_of_ble_eq_true rfl) d_Po_feed_32 (fun r_34 M_32 p_33 => ?_)
    obtain ⟨rfl, h_35, fr_36⟩ := p_33
    show G E M_32 (0 + (psi 800 (add4B 800 tb x1) - psi 800 tb) + (psi 800 (add4B 800 (add4B 800 tb x1) x2) - psi 800 (add4B 800 tb x1))) (0 + (psi 800 (add4B 800 tb x1) - psi 800 tb) + (psi 800 (add4B 800 (add4B 800 tb x1) x2) - psi 800 (add4B 800 tb x1))) [(0, .ref a), (1, vI x1), (2, vI x2), (3, vI x3), (4, vI x4), (5, vI x5)] [] 35
    have g_37 := psi_add4 800 (add4B 800 tb x1) x2 ⟨h_28.len.1, h_28.len.2.1⟩
    refine G_aload_n hC 0 rfl rfl d_Po_feed_35 ?_
    have h_38 := fr_36.at h_31 (by simp only [List.mem_cons, List.not_mem_nil, or_false, not_or, not_false_eq_true]; try omega)
    refine G_get hC fl_Po_14 h_38 rfl d_Po_feed_36 ?_
    refine G_iload_n hC 3 rfl rfl d_Po_feed_39 ?_
    refine G_xV (rest := []) hC hR (c_By_addFour h_35 (by omega)) cv_Po_57 h_35.obj (by decide) (by omega) (by omega) rfl rfl (Nat.le_of_ble_eq_true rfl) d_Po_feed_40 (fun r_41 M_39 p_40 => ?_)
    obtain ⟨rfl, h_42, fr_43⟩ := p_40
    show G E M_39 (0 + (psi 800 (add4B 800 tb x1) - psi 800 tb) + (psi 800 (add4B 800 (add4B 800 tb x1) x2) - psi 800 (add4B 800 tb x1)) + (psi 800 (add4B 800 (add4B 800 (add4B 800 tb x1) x2) x3) - psi 800 (add4B 800 (add4B 800 tb x1) x2))) (0 + (psi 800 (add4B 800 tb x1) - psi 800 tb) + (psi 800 (add4B 800 (add4B 800 tb x1) x2) - psi 800 (add4B 800 tb x1)) + (psi 800 (add4B 800 (add4B 800 (add4B 800 tb x1) x2) x3) - psi 800 (add4B 800 (add4B 800 tb x1) x2))) [(0, .ref a), (1, vI x1), (2, vI x2), (3, vI x3), (4, vI x4), (5, vI x5)] [] 43
    have g_44 := psi_add4 800 (add4B 800 (add4B 800 tb x1) x2) x3 ⟨h_35.len.1, h_35.len.2.1⟩
    refine G_aload_n hC 0 rfl rfl d_Po_feed_43 ?_
    have h_45 := fr_43.at h_38 (by simp only [List.mem_cons, List.not_mem_nil, or_false, not_or, not_false_eq_true]; try omega)
    refine G_get hC fl_Po_14 h_45 rfl d_Po_feed_44 ?_
    refine G_iload hC 4 rfl d_Po_feed_47 ?_
    refine G_xV (rest := []) hC hR (c_By_addFour h_42 (by omega)) cv_Po_57 h_42.obj (by decide) (by omega) (by omega) rfl rfl (Nat.le_of_ble_eq_true rfl) d_Po_feed_49 (fun r_48 M_46 p_47 => ?_)
    obtain ⟨rfl, h_49, fr_50⟩ := p_47
    show G E M_46 (0 + (psi 800 (add4B 800 tb x1) - psi 800 tb) + (psi 800 (add4B 800 (add4B 800 tb x1) x2) - psi 800 (add4B 800 tb x1)) + (psi 800 (add4B 800 (add4B 800 (add4B 800 tb x1) x2) x3) - psi 800 (add4B 800 (add4B 800 tb x1) x2)) + (psi 800 (add4B 800 (add4B 800 (add4B 800 (add4B 800 tb x1) x2) x3) x4) - psi 800 (add4B 800 (add4B 800 (add4B 800 tb x1) x2) x3))) (0 + (psi 800 (add4B 800 tb x1) - psi 800 tb) + (psi 800 (add4B 800 (add4B 800 tb x1) x2) - psi 800 (add4B 800 tb x1)) + (psi 800 (add4B 800 (add4B 800 (add4B 800 tb x1) x2) x3) - psi 800 (add4B 800 (add4B 800 tb x1) x2)) + (psi 800 (add4B 800 (add4B 800 (add4B 800 (add4B 800 tb x1) x2) x3) x4) - psi 800 (add4B 800 (add4B 800 (add4B 800 tb x1) x2) x3))) [(0, .ref a), (1, vI x1), (2, vI x2), (3, vI x3), (4, vI x4), (5, vI x5)] [] 52
    have g_51 := psi_add4 800 (add4B 800 (add4B 800 (add4B 800 tb x1) x2) x3) x4 ⟨h_42.len.1, h_42.len.2.1⟩
    refine G_aload_n hC 0 rfl rfl d_Po_feed_52 ?_
    have h_52 := fr_50.at h_45 (by simp only [List.mem_cons, List.not_mem_nil, or_false, not_or, not_false_eq_true]; try omega)
    refine G_get hC fl_Po_14 h_52 rfl d_Po_feed_53 ?_
    refine G_iload hC 5 rfl d_Po_feed_56 ?_
    refine G_xV (rest := []) hC hR (c_By_addFour h_49 (by omega)) cv_Po_57 h_49.obj (by decide) (by omega) (by omega) rfl rfl (Nat.le_of_ble_eq_true rfl) d_Po_feed_58 (fun r_55 M_53 p_54 => ?_)
    obtain ⟨rfl, h_56, fr_57⟩ := p_54
    show G E M_53 (0 + (psi 800 (add4B 800 tb x1) - psi 800 tb) + (psi 800 (add4B 800 (add4B 800 tb x1) x2) - psi 800 (add4B 800 tb x1)) + (psi 800 (add4B 800 (add4B 800 (add4B 800 tb x1) x2) x3) - psi 800 (add4B 800 (add4B 800 tb x1) x2)) + (psi 800 (add4B 800 (add4B 800 (add4B 800 (add4B 800 tb x1) x2) x3) x4) - psi 800 (add4B 800 (add4B 800 (add4B 800 tb x1) x2) x3)) + (psi 800 (add4B 800 (add4B 800 (add4B 800 (add4B 800 (add4B 800 tb x1) x2) x3) x4) x5) - psi 800 (add4B 800 (add4B 800 (add4B 800 (add4B 800 tb x1) x2) x3) x4))) (0 + (psi 800 (add4B 800 tb x1) - psi 800 tb) + (psi 800 (add4B 800 (add4B 800 tb x1) x2) - psi 800 (add4B 800 tb x1)) + (psi 800 (add4B 800 (add4B 800 (add4B 800 tb x1) x2) x3) - psi 800 (add4B 800 (add4B 800 tb x1) x2)) + (psi 800 (add4B 800 (add4B 800 (add4B 800 (add4B 800 tb x1) x2) x3) x4) - psi 800 (add4B 800 (add4B 800 (add4B 800 tb x1) x2) x3)) + (psi 800 (add4B 800 (add4B 800 (add4B 800 (add4B 800 (add4B 800 tb x1) x2) x3) x4) x5) - psi 800 (add4B 800 (add4B 800 (add4B 800 (add4B 800 tb x1) x2) x3) x4))) [(0, .ref a), (1, vI x1), (2, vI x2), (3, vI x3), (4, vI x4), (5, vI x5)] [] 61
    have g_58 := psi_add4 800 (add4B 800 (add4B 800 (add4B 800 (add4B 800 tb x1) x2) x3) x4) x5 ⟨h_49.len.1, h_49.len.2.1⟩
    refine G_aload_n hC 0 rfl rfl d_Po_feed_61 ?_
    have h_59 := fr_57.at h_52 (by simp only [List.mem_cons, List.not_mem_nil, or_false, not_or, not_false_eq_true]; try omega)
    refine G_get hC fl_Po_14 h_59 rfl d_Po_feed_62 ?_
    refine G_pV (rest := []) hC hR (c_By_size h_56) cv_Po_53 h_56.obj (by decide) (by omega) (by omega) rfl rfl (Nat.le_of_ble_eq_true rfl) d_Po_feed_65 ?_
    have g_60 := h_56.len
    have h_61 := h_13.fr fr_29 (by simp only [List.mem_cons, List.not_mem_nil, or_false, not_or, not_false_eq_true]; try omega) (by simp only [List.mem_cons, List.not_mem_nil, or_false, not_or, not_false_eq_true]; try omega)
    have h_62 := h_61.fr fr_36 (by simp only [List.mem_cons, List.not_mem_nil, or_false, not_or, not_false_eq_true]; try omega) (by simp only [List.mem_cons, List.not_mem_nil, or_false, not_or, not_false_eq_true]; try omega)
    have h_63 := h_62.fr fr_43 (by simp only [List.mem_cons, List.not_mem_nil, or_false, not_or, not_false_eq_true]; try omega) (by simp only [List.mem_cons, List.not_mem_nil, or_false, not_or, not_false_eq_true]; try omega)
    have h_64 := h_63.fr fr_50 (by simp only [List.mem_cons, List.not_mem_nil, or_false, not_or, not_false_eq_true]; try omega) (by simp only [List.mem_cons, List.not_mem_nil, or_false, not_or, not_false_eq_true]; try omega)
    have h_65 := h_64.fr fr_57 (by simp only [List.mem_cons, List.not_mem_nil, or_false, not_or, not_false_eq_true]; try omega) (by simp only [List.mem_cons, List.not_mem_nil, or_false, not_or, not_false_eq_true]; try omega)
    have h_66 := h_14.fr fr_29 (by intro u hu; simp only [List.mem_cons, List.not_mem_nil, or_false] at hu <;> omega)
    have h_67 := h_66.fr fr_36 (by intro u hu; simp only [List.mem_cons, List.not_mem_nil, or_false] at hu <;> omega)
    have h_68 := h_67.fr fr_43 (by intro u hu; simp only [List.mem_cons, List.not_mem_nil, or_false] at hu <;> omega)
    have h_69 := h_68.fr fr_50 (by intro u hu; simp only [List.mem_cons, List.not_mem_nil, or_false] at hu <;> omega)
    have h_70 := h_69.fr fr_57 (by intro u hu; simp only [List.mem_cons, List.not_mem_nil, or_false] at hu <;> omega)
    have h_71 := h_15.fr fr_29 (by intro u hu; simp only [List.mem_cons, List.not_mem_nil, or_false] at hu <;> omega)
    have h_72 := h_71.fr fr_36 (by intro u hu; simp only [List.mem_cons, List.not_mem_nil, or_false] at hu <;> omega)
    have h_73 := h_72.fr fr_43 (by intro u hu; simp only [List.mem_cons, List.not_mem_nil, or_false] at hu <;> omega)
    have h_74 := h_73.fr fr_50 (by intro u hu; simp only [List.mem_cons, List.not_mem_nil, or_false] at hu <;> omega)
    have h_75 := h_74.fr fr_57 (by intro u hu; simp only [List.mem_cons, List.not_mem_nil, or_false] at hu <;> omega)
    have h_76 := h_16.fr fr_29 (by simp only [List.mem_cons, List.not_mem_nil, or_false, not_or, not_false_eq_true]; try omega) (by simp only [List.mem_cons, List.not_mem_nil, or_false, not_or, not_false_eq_true]; try omega)
    have h_77 := h_76.fr fr_36 (by simp only [List.mem_cons, List.not_mem_nil, or_false, not_or, not_false_eq_true]; try omega) (by simp only [List.mem_cons, List.not_mem_nil, or_false, not_or, not_false_eq_true]; try omega)
    have h_78 := h_77.fr fr_43 (by simp only [List.mem_cons, List.not_mem_nil, or_false, not_or, not_false_eq_true]; try omega) (by simp only [List.mem_cons, List.not_mem_nil, or_false, not_or, not_false_eq_true]; try omega)
    have h_79 := h_78.fr fr_50 (by simp only [List.mem_cons, List.not_mem_nil, or_false, not_or, not_false_eq_true]; try omega) (by simp only [List.mem_cons, List.not_mem_nil, or_false, not_or, not_false_eq_true]; try omega)
    have h_80 := h_79.fr fr_57 (by simp only [List.mem_cons, List.not_mem_nil, or_false, not_or, not_false_eq_true]; try omega) (by simp only [List.mem_cons, List.not_mem_nil, or_false, not_or, not_false_eq_true]; try omega)
    have h_81 := fr_29.at h_17 (by simp only [List.mem_cons, List.not_mem_nil, or_false, not_or, not_false_eq_true]; try omega)
    have h_82 := fr_36.at h_81 (by simp only [List.mem_cons, List.not_mem_nil, or_false, not_or, not_false_eq_true]; try omega)
    have h_83 := fr_43.at h_82 (by simp only [List.mem_cons, List.not_mem_nil, or_false, not_or, not_false_eq_true]; try omega)
    have h_84 := fr_50.at h_83 (by simp only [List.mem_cons, List.not_mem_nil, or_false, not_or, not_false_eq_true]; try omega)
    have h_85 := fr_57.at h_84 (by simp only [List.mem_cons, List.not_mem_nil, or_false, not_or, not_false_eq_true]; try omega)
    have h_86 := fr_29.at h_18 (by simp only [List.mem_cons, List.not_mem_nil, or_false, not_or, not_false_eq_true]; try omega)
    have h_87 := fr_36.at h_86 (by simp only [List.mem_cons, List.not_mem_nil, or_false, not_or, not_false_eq_true]; try omega)
    have h_88 := fr_43.at h_87 (by simp only [List.mem_cons, List.not_mem_nil, or_false, not_or, not_false_eq_true]; try omega)
    have h_89 := fr_50.at h_88 (by simp only [List.mem_cons, List.not_mem_nil, or_false, not_or, not_false_eq_true]; try omega)
    have h_90 := fr_57.at h_89 (by simp only [List.mem_cons, List.not_mem_nil, or_false, not_or, not_false_eq_true]; try omega)
    have h_91 := h_19.fr fr_29 (by simp only [List.mem_cons, List.not_mem_nil, or_false, not_or, not_false_eq_true]; try omega) (by simp only [List.mem_cons, List.not_mem_nil, or_false, not_or, not_false_eq_true]; try omega)
    have h_92 := h_91.fr fr_36 (by simp only [List.mem_cons, List.not_mem_nil, or_false, not_or, not_false_eq_true]; try omega) (by simp only [List.mem_cons, List.not_mem_nil, or_false, not_or, not_false_eq_true]; try omega)
    have h_93 := h_92.fr fr_43 (by simp only [List.mem_cons, List.not_mem_nil, or_false, not_or, not_false_eq_true]; try omega) (by simp only [List.mem_cons, List.not_mem_nil, or_false, not_or, not_false_eq_true]; try omega)
    have h_94 := h_93.fr fr_50 (by simp only [List.mem_cons, List.not_mem_nil, or_false, not_or, not_false_eq_true]; try omega) (by simp only [List.mem_cons, List.not_mem_nil, or_false, not_or, not_false_eq_true]; try omega)
    have h_95 := h_94.fr fr_57 (by simp only [List.mem_cons, List.not_mem_nil, or_false, not_or, not_false_eq_true]; try omega) (by simp only [List.mem_cons, List.not_mem_nil, or_false, not_or, not_false_eq_true]; try omega)
    have h_96 := h_21.fr fr_29 (by intro u hu; simp only [List.mem_cons, List.not_mem_nil, or_false] at hu <;> omega)
    have h_97 := h_96.fr fr_36 (by intro u hu; simp only [List.mem_cons, List.not_mem_nil, or_false] at hu <;> omega)
    have h_98 := h_97.fr fr_43 (by intro u hu; simp only [List.mem_cons, List.not_mem_nil, or_false] at hu <;> omega)
    have h_99 := h_98.fr fr_50 (by intro u hu; simp only [List.mem_cons, List.not_mem_nil, or_false] at hu <;> omega)
    have h_100 := h_99.fr fr_57 (by intro u hu; simp only [List.mem_cons, List.not_mem_nil, or_false] at hu <;> omega)
    exact G_iretX hC hQ (by first | omega | (rw [if_neg (by omega)]; unfold feedB; omega)) (by first | omega | (rw [if_neg (by omega)]; unfold feedB; omega)) d_Po_feed_68 ⟨by rw [if_neg (by omega)]; rfl, by rw [if_neg (by omega)]; exact ⟨_, _, _, _, _, _, _, _, _, _, h_59, h_56, h_65, h_70, h_75, h_80, h_85, h_90, h_95, h_20, h_100, h_22⟩, (((((fr_29.up (T := ([] ++ List.range 500)) (by intro u hu; simp only [List.mem_append, mem_lvT, List.mem_range, List.mem_cons, List.not_mem_nil, or_false, false_or] at hu ⊢ <;> omega)).tr' (T := ([] ++ List.range 500)) fr_36 (fun _ z => z) (by intro u hu; simp only [List.mem_append, mem_lvT, List.mem_range, List.mem_cons, List.not_mem_nil, or_false, false_or] at hu ⊢ <;> omega)).tr' (T := ([] ++ List.range 500)) fr_43 (fun _ z => z) (by intro u hu; simp only [List.mem_append, mem_lvT, List.mem_range, List.mem_cons, List.not_mem_nil, or_false, false_or] at hu ⊢ <;> omega)).tr' (T := ([] ++ List.range 500)) fr_50 (fun _ z => z) (by intro u hu; simp only [List.mem_append, mem_lvT, List.mem_range, List.mem_cons, List.not_mem_nil, or_false, false_or] at hu ⊢ <;> omega)).tr' (T := ([] ++ List.range 500)) fr_57 (fun _ z => z) (by intro u hu; simp only [List.mem_append, mem_lvT, List.mem_range, List.mem_cons, List.not_mem_nil, or_false, false_or] at hu ⊢ <;> omega))⟩
  · refine G_bipush (j := (-3)) hC (by decide +kernel) d_Po_feed_16 ?_
    exact G_iretX hC hQ (by first | omega | (rw [if_neg (by omega)]; unfold feedB; omega)) (by first | omega | (rw [if_neg (by omega)]; unfold feedB; omega)) d_Po_feed_18 ⟨by rw [if_pos (by omega)], by rw [if_pos (by omega)]; exact h_Po_a, Fr.rf⟩

set_option maxHeartbeats 4000000 in
set_option maxRecDepth 100000 in
theorem c_Po_end {l : Launch} {D : Dg} {b0 : Nat} {M : Mp} {a : Nat} {n : Int} {tb : Bv} {ob : Bv} {es : List Ent} {so : Option Snd} {cn : Int} {vo : Int} (h_Po_a : IsPo D M a tb ob es so cn vo) (hn : -2147483648 ≤ n ∧ n ≤ 2147483647) : Ok l D b0 2 y_Po_end b_Po_end 2 (some .int) M [.ref a, vI n] 0 0 (fun r M' => r = some (vI (if n < 0 ∨ (tb.2.length : Int) < n then -1 else n)) ∧ IsPo D M' a (if n < 0 ∨ (tb.2.length : Int) < n then tb else cutB tb n) ob es so cn vo ∧ Fr ([] ++ List.range 500) M M') := by
  refine Ok_of rfl (Nat.le_of_ble_eq_true rfl) (fun E hC hQ hl hD hB hN hR => ?_)
  subst hl hD hB
  obtain ⟨tp_1, op_2, di_3, se_4, ma_5, ch_6, lv_7, tg_8, f_9, bt_10, h_11, h_12, h_13, h_14, h_15, h_16, h_17, h_18, h_19, h_20, h_21, h_22⟩ := id h_Po_a
  have hT9 := h_12.len
  have hO9 := h_13.len
  have hE9 := h_14.len
  show G E M 0 0 [(0, .ref a), (1, vI n)] [] 0
  refine G_iload_n hC 1 rfl rfl d_Po_end_0 ?_
  refine G_if_lt hC 15 (by omega) (by decide) d_Po_end_1 (fun c_23 => ?_) (fun c_23 => ?_)
  · refine G_iconst (i := (-1)) hC d_Po_end_15 ?_
    exact G_iretX hC hQ (by omega) (by omega) d_Po_end_16 ⟨by rw [if_pos (by omega)], by rw [if_pos (by omega)]; exact h_Po_a, Fr.rf⟩
  · refine G_iload_n hC 1 rfl rfl d_Po_end_4 ?_
    refine G_aload_n hC 0 rfl rfl d_Po_end_5 ?_
    refine G_get hC fl_Po_14 h_11 rfl d_Po_end_6 ?_
    refine G_pV (rest := [vI n]) hC hR (c_By_size h_12) cv_Po_53 h_12.obj (by decide) (by omega) (by omega) rfl rfl (Nat.le_of_ble_eq_true rfl) d_Po_end_9 ?_
    have g_24 := h_12.len
    refine G_icmp_le hC 17 (by omega) (by omega) (by decide) d_Po_end_12 (fun c_25 => ?_) (fun c_25 => ?_)
    · refine G_aload_n hC 0 rfl rfl d_Po_end_17 ?_
      refine G_get hC fl_Po_14 h_11 rfl d_Po_end_18 ?_
      refine G_iload_n hC 1 rfl rfl d_Po_end_21 ?_
      refine G_xV (rest := []) hC hR (c_By_cut h_12 (by omega)) cv_Po_60 h_12.obj (by decide) (by omega) (by omega) rfl rfl (Nat.le_of_ble_eq_true rfl) d_Po_end_22 (fun r_28 M_26 p_27 => ?_)
      obtain ⟨rfl, h_29, fr_30⟩ := p_27
      show G E M_26 (0 + 0) (0 + 0) [(0, .ref a), (1, vI n)] [] 25
      refine G_iload_n hC 1 rfl rfl d_Po_end_25 ?_
      have h_31 := fr_30.at h_11 (by simp only [List.mem_cons, List.not_mem_nil, or_false, not_or, not_false_eq_true]; try omega)
      have h_32 := h_13.fr fr_30 (by simp only [List.mem_cons, List.not_mem_nil, or_false, not_or, not_false_eq_true]; try omega) (by simp only [List.mem_cons, List.not_mem_nil, or_false, not_or, not_false_eq_true]; try omega)
      have h_33 := h_14.fr fr_30 (by intro u hu; simp only [List.mem_cons, List.not_mem_nil, or_false] at hu <;> omega)
      have h_34 := h_15.fr fr_30 (by intro u hu; simp only [List.mem_cons, List.not_mem_nil, or_false] at hu <;> omega)
      have h_35 := h_16.fr fr_30 (by simp only [List.mem_cons, List.not_mem_nil, or_false, not_or, not_false_eq_true]; try omega) (by simp only [List.mem_cons, List.not_mem_nil, or_false, not_or, not_false_eq_true]; try omega)
      have h_36 := fr_30.at h_17 (by simp only [List.mem_cons, List.not_mem_nil, or_false, not_or, not_false_eq_true]; try omega)
      have h_37 := fr_30.at h_18 (by simp only [List.mem_cons, List.not_mem_nil, or_false, not_or, not_false_eq_true]; try omega)
      have h_38 := h_19.fr fr_30 (by simp only [List.mem_cons, List.not_mem_nil, or_false, not_or, not_false_eq_true]; try omega) (by simp only [List.mem_cons, List.not_mem_nil, or_false, not_or, not_false_eq_true]; try omega)
      have h_39 := h_21.fr fr_30 (by intro u hu; simp only [List.mem_cons, List.not_mem_nil, or_false] at hu <;> omega)
      exact G_iretX hC hQ (by omega) (by omega) d_Po_end_26 ⟨by rw [if_neg (by omega)], by rw [if_neg (by omega)]; exact ⟨_, _, _, _, _, _, _, _, _, _, h_31, h_29, h_32, h_33, h_34, h_35, h_36, h_37, h_38, h_20, h_39, h_22⟩, (fr_30.up (T := ([] ++ List.range 500)) (by intro u hu; simp only [List.mem_append, mem_lvT, List.mem_range, List.mem_cons, List.not_mem_nil, or_false, false_or] at hu ⊢ <;> omega))⟩
    · refine G_iconst (i := (-1)) hC d_Po_end_15 ?_
      exact G_iretX hC hQ (by omega) (by omega) d_Po_end_16 ⟨by rw [if_pos (by omega)], by rw [if_pos (by omega)]; exact h_Po_a, Fr.rf⟩

set_option maxHeartbeats 4000000 in
set_option maxRecDepth 100000 in
theorem c_Po_forget {l : Launch} {D : Dg} {b0 : Nat} {M : Mp} {a : Nat} {tb : Bv} {ob : Bv} {es : List Ent} {so : Option Snd} {cn : Int} {vo : Int} (h_Po_a : IsPo D M a tb ob es so cn vo) : Ok l D b0 2 y_Po_forget b_Po_forget 2 (some .int) M [.ref a] 0 0 (fun r M' => r = some (vI (es.length : Int)) ∧ IsPo D M' a tb ob ([]) so cn vo ∧ Fr ([] ++ List.range 500) M M') := by
  refine Ok_of rfl (Nat.le_of_ble_eq_true rfl) (fun E hC hQ hl hD hB hN hR => ?_)
  subst hl hD hB
  obtain ⟨tp_1, op_2, di_3, se_4, ma_5, ch_6, lv_7, tg_8, f_9, bt_10, h_11, h_12, h_13, h_14, h_15, h_16, h_17, h_18, h_19, h_20, h_21, h_22⟩ := id h_Po_a
  have hT9 := h_12.len
  have hO9 := h_13.len
  have hE9 := h_14.len
  show G E M 0 0 [(0, .ref a)] [] 0
  refine G_aload_n hC 0 rfl rfl d_Po_forget_0 ?_
  refine G_get hC fl_Po_24 h_11 rfl d_Po_forget_1 ?_
  refine G_pV (rest := []) hC hR (c_Di_size h_14) cv_Po_63 h_14.obj (by decide) (by omega) (by omega) rfl rfl (Nat.le_of_ble_eq_true rfl) d_Po_forget_4 ?_
  have g_23 := h_14.len
  refine G_istore_n (lv' := [(1, vI (es.length : Int)), (0, .ref a)]) hC rfl (by rw [hN]; decide) rfl d_Po_forget_7 ?_
  refine G_aload_n hC 1 rfl rfl d_Po_forget_8 ?_
  refine G_get hC fl_Po_24 h_11 rfl d_Po_forget_9 ?_
  refine G_xV (rest := []) hC hR (c_Di_clear h_14) cv_Po_68 h_14.obj (by decide) (by omega) (by omega) rfl rfl (Nat.le_of_ble_eq_true rfl) d_Po_forget_12 (fun r_26 M_24 p_25 => ?_)
  obtain ⟨rfl, h_27, fr_28⟩ := p_25
  show G E M_24 (0 + 0) (0 + 0) [(1, vI (es.length : Int)), (0, .ref a)] [] 15
  refine G_iload_n hC 0 rfl rfl d_Po_forget_15 ?_
  have h_29 := fr_28.at h_11 (by decide)
  have h_30 := h_12.fr fr_28 (by decide) (by decide)
  have h_31 := h_13.fr fr_28 (by decide) (by decide)
  have h_32 := h_15.fr fr_28 (by intro u hu; simp only [List.mem_cons, List.not_mem_nil, or_false] at hu <;> omega)
  have h_33 := h_16.fr fr_28 (by decide) (by decide)
  have h_34 := fr_28.at h_17 (by decide)
  have h_35 := fr_28.at h_18 (by decide)
  have h_36 := h_19.fr fr_28 (by decide) (by decide)
  have h_37 := h_21.fr fr_28 (by intro u hu; simp only [List.mem_cons, List.not_mem_nil, or_false] at hu <;> omega)
  exact G_iretX hC hQ (by omega) (by omega) d_Po_forget_16 ⟨rfl, ⟨_, _, _, _, _, _, _, _, _, _, h_29, h_30, h_31, h_27, h_32, h_33, h_34, h_35, h_36, h_20, h_37, h_22⟩, (fr_28.up (T := ([] ++ List.range 500)) (by intro u hu; simp only [List.mem_append, mem_lvT, List.mem_range, List.mem_cons, List.not_mem_nil, or_false, false_or] at hu ⊢ <;> omega))⟩

set_option maxHeartbeats 4000000 in
set_option maxRecDepth 100000 in
theorem c_Po_cost {l : Launch} {D : Dg} {b0 : Nat} {M : Mp} {a : Nat} {n : Int} {tb : Bv} {ob : Bv} {es : List Ent} {so : Option Snd} {cn : Int} {vo : Int} (h_Po_a : IsPo D M a tb ob es so cn vo) (hn : -2147483648 ≤ n ∧ n ≤ 2147483647) : OkP l D b0 2 y_Po_cost b_Po_cost 2 (some .int) M [.ref a, vI n] (vI (if n = 0 then cn else if n = 1 then vo else -1)) := by
  refine Ok_of rfl (Nat.le_of_ble_eq_true rfl) (fun E hC hQ hl hD hB hN hR => ?_)
  subst hl hD hB
  obtain ⟨tp_1, op_2, di_3, se_4, ma_5, ch_6, lv_7, tg_8, f_9, bt_10, h_11, h_12, h_13, h_14, h_15, h_16, h_17, h_18, h_19, h_20, h_21, h_22⟩ := id h_Po_a
  have hT9 := h_12.len
  have hO9 := h_13.len
  have hE9 := h_14.len
  show G E M 0 0 [(0, .ref a), (1, vI n)] [] 0
  refine G_iload_n hC 1 rfl rfl d_Po_cost_0 ?_
  refine G_if_ne hC 12 (by omega) (by decide) d_Po_cost_1 (fun c_23 => ?_) (fun c_23 => ?_)
  · refine G_iload_n hC 1 rfl rfl d_Po_cost_12 ?_
    refine G_iconst (i := 1) hC d_Po_cost_13 ?_
    refine G_icmp_ne hC 27 (by omega) (by decide) (by decide) d_Po_cost_14 (fun c_24 => ?_) (fun c_24 => ?_)
    · refine G_iconst (i := (-1)) hC d_Po_cost_27 ?_
      exact G_iretP hC hQ d_Po_cost_28 (by (repeat' split); all_goals omega)
    · refine G_aload_n hC 0 rfl rfl d_Po_cost_17 ?_
      refine G_get hC fl_Po_49 h_11 rfl d_Po_cost_18 ?_
      refine G_pV (rest := []) hC hR (c_Ch_voids h_17) cv_Po_88 ⟨_, _, h_17⟩ (by decide) (by omega) (by omega) rfl rfl (Nat.le_of_ble_eq_true rfl) d_Po_cost_21 ?_
      refine G_goto hC 28 (by decide) d_Po_cost_24 ?_
      exact G_iretP hC hQ d_Po_cost_28 (by (repeat' split); all_goals omega)
  · refine G_aload_n hC 0 rfl rfl d_Po_cost_4 ?_
    refine G_get hC fl_Po_49 h_11 rfl d_Po_cost_5 ?_
    refine G_pV (rest := []) hC hR (c_Ch_counted h_17) cv_Po_85 ⟨_, _, h_17⟩ (by decide) (by omega) (by omega) rfl rfl (Nat.le_of_ble_eq_true rfl) d_Po_cost_8 ?_
    exact G_iretP hC hQ d_Po_cost_11 (by (repeat' split); all_goals omega)

set_option maxHeartbeats 4000000 in
set_option maxRecDepth 100000 in
theorem c_Po_octet {l : Launch} {D : Dg} {b0 : Nat} {M : Mp} {a : Nat} {n : Int} {tb : Bv} {ob : Bv} {es : List Ent} {so : Option Snd} {cn : Int} {vo : Int} (h_Po_a : IsPo D M a tb ob es so cn vo) (hn : -2147483648 ≤ n ∧ n ≤ 2147483647) : OkP l D b0 2 y_Po_octet b_Po_octet 2 (some .int) M [.ref a, vI n] (vI (if n = -1 then (ob.2.length : Int) else if n < 0 ∨ (ob.2.length : Int) ≤ n then -2 else atS ob.2 n)) := by
  refine Ok_of rfl (Nat.le_of_ble_eq_true rfl) (fun E hC hQ hl hD hB hN hR => ?_)
  subst hl hD hB
  obtain ⟨tp_1, op_2, di_3, se_4, ma_5, ch_6, lv_7, tg_8, f_9, bt_10, h_11, h_12, h_13, h_14, h_15, h_16, h_17, h_18, h_19, h_20, h_21, h_22⟩ := id h_Po_a
  have hT9 := h_12.len
  have hO9 := h_13.len
  have hE9 := h_14.len
  show G E M 0 0 [(0, .ref a), (1, vI n)] [] 0
  refine G_iload_n hC 1 rfl rfl d_Po_octet_0 ?_
  refine G_iconst (i := (-1)) hC d_Po_octet_1 ?_
  refine G_icmp_ne hC 13 (by omega) (by decide) (by decide) d_Po_octet_2 (fun c_23 => ?_) (fun c_23 => ?_)
  · refine G_iload_n hC 1 rfl rfl d_Po_octet_13 ?_
    refine G_if_lt hC 28 (by omega) (by decide) d_Po_octet_14 (fun c_24 => ?_) (fun c_24 => ?_)
    · refine G_bipush (j := (-2)) hC (by decide +kernel) d_Po_octet_28 ?_
      refine G_goto hC 41 (by decide) d_Po_octet_30 ?_
      exact G_iretP hC hQ d_Po_octet_41 (by (repeat' split); all_goals omega)
    · refine G_iload_n hC 1 rfl rfl d_Po_octet_17 ?_
      refine G_aload_n hC 0 rfl rfl d_Po_octet_18 ?_
      refine G_get hC fl_Po_18 h_11 rfl d_Po_octet_19 ?_
      refine G_pV (rest := [vI n]) hC hR (c_By_size h_13) cv_Po_53 h_13.obj (by decide) (by omega) (by omega) rfl rfl (Nat.le_of_ble_eq_true rfl) d_Po_octet_22 ?_
      have g_25 := h_13.len
      refine G_icmp_lt hC 33 (by omega) (by omega) (by decide) d_Po_octet_25 (fun c_26 => ?_) (fun c_26 => ?_)
      · refine G_aload_n hC 0 rfl rfl d_Po_octet_33 ?_
        refine G_get hC fl_Po_18 h_11 rfl d_Po_octet_34 ?_
        refine G_iload_n hC 1 rfl rfl d_Po_octet_37 ?_
        refine G_pV (rest := []) hC hR (c_By_at h_13 (by omega)) cv_Po_103 h_13.obj (by decide) (by omega) (by omega) rfl rfl (Nat.le_of_ble_eq_true rfl) d_Po_octet_38 ?_
        have g_27 := h_13.at_rng n
        exact G_iretP hC hQ d_Po_octet_41 (by (repeat' split); all_goals omega)
      · refine G_bipush (j := (-2)) hC (by decide +kernel) d_Po_octet_28 ?_
        refine G_goto hC 41 (by decide) d_Po_octet_30 ?_
        exact G_iretP hC hQ d_Po_octet_41 (by (repeat' split); all_goals omega)
  · refine G_aload_n hC 0 rfl rfl d_Po_octet_5 ?_
    refine G_get hC fl_Po_18 h_11 rfl d_Po_octet_6 ?_
    refine G_pV (rest := []) hC hR (c_By_size h_13) cv_Po_53 h_13.obj (by decide) (by omega) (by omega) rfl rfl (Nat.le_of_ble_eq_true rfl) d_Po_octet_9 ?_
    have g_28 := h_13.len
    exact G_iretP hC hQ d_Po_octet_12 (by (repeat' split); all_goals omega)
