set_option maxHeartbeats 4000000 in
set_option maxRecDepth 100000 in
theorem c_Po_entry {l : Launch} {D : Dg} {b0 : Nat} {M : Mp} {a : Nat} {sort : Int} {ad : Int32} {tb : Bv} {ob : Bv} {es : List Ent} {so : Option Snd} {cn : Int} {vo : Int} (h_Po_a : IsPo D M a tb ob es so cn vo) (hs : -2147483648 ≤ sort ∧ sort ≤ 2147483647) : Ok l D b0 6 y_Po_entry b_Po_entry 5 (some .int) M [.ref a, vI sort, .int ad] 7 2700 (fun r M' => r = some (vI (if 40 ≤ (es.length : Int) then -3 else if (takeS es tb.2 sort ad).isSome = true then (((takeS es tb.2 sort ad).getD es).length : Int) else -1)) ∧ IsPo D M' a (tb.1, []) ob ((takeS es tb.2 sort ad).getD es) so cn vo ∧ Fr ([] ++ List.range 500) M M') := by
  refine Ok_of rfl (Nat.le_of_ble_eq_true rfl) (fun E hC hQ hl hD hB hN hR => ?_)
  subst hl hD hB
  obtain ⟨tp_1, op_2, di_3, se_4, ma_5, ch_6, lv_7, tg_8, f_9, bt_10, h_11, h_12, h_13, h_14, h_15, h_16, h_17, h_18, h_19, h_20, h_21, h_22⟩ := id h_Po_a
  have hT9 := h_12.len
  have hO9 := h_13.len
  have hE9 := h_14.len
  show G E M 0 0 [(0, .ref a), (1, vI sort), (2, .int ad)] [] 0
  refine G_aload_n hC 0 rfl rfl d_Po_entry_0 ?_
  refine G_get hC fl_Po_24 h_11 rfl d_Po_entry_1 ?_
  refine G_pV (rest := []) hC hR (c_Di_size h_14) cv_Po_63 h_14.obj (by decide) (by omega) (by omega) rfl rfl (Nat.le_of_ble_eq_true rfl) d_Po_entry_4 ?_
  have g_23 := h_14.len
  refine G_bipush (j := 40) hC (by decide +kernel) d_Po_entry_7 ?_
  refine G_icmp_lt hC 16 (by omega) (by decide) (by decide) d_Po_entry_9 (fun c_24 => ?_) (fun c_24 => ?_)
  · refine G_iconst (i := 0) hC d_Po_entry_16 ?_
    refine G_istore_n (lv' := [(3, vI 0), (0, .ref a), (1, vI sort), (2, .int ad)]) hC rfl (by rw [hN]; decide) rfl d_Po_entry_17 ?_
    refine G_iload_n hC 0 rfl rfl d_Po_entry_18 ?_
    refine G_if_ne hC 42 (by decide) (by decide) d_Po_entry_19 (fun c_25 => ?_) (fun c_25 => ?_)
    · exact (show False from by omega).elim
    · refine G_aload_n hC 1 rfl rfl d_Po_entry_22 ?_
      refine G_get hC fl_Po_24 h_11 rfl d_Po_entry_23 ?_
      refine G_iload_n hC 2 rfl rfl d_Po_entry_26 ?_
      refine G_iload_n hC 3 rfl rfl d_Po_entry_27 ?_
      refine G_aload_n hC 1 rfl rfl d_Po_entry_28 ?_
      refine G_get hC fl_Po_14 h_11 rfl d_Po_entry_29 ?_
      refine G_xV (rest := []) hC hR (c_Di_take h_14 h_12 (by omega) (by omega)) cv_Po_64 h_14.obj (by decide) (by omega) (by omega) rfl rfl (Nat.le_of_ble_eq_true rfl) d_Po_entry_32 (fun r_28 M_26 p_27 => ?_)
      obtain ⟨rfl, h_29, fr_30⟩ := p_27
      show G E M_26 (0 + (7)) (0 + (2700)) [(3, vI 0), (0, .ref a), (1, vI sort), (2, .int ad)] [vI (b2i (takeS es tb.2 sort ad).isSome)] 35
      refine G_if_eq hC 42 (by have := b2i_rng ((takeS es tb.2 sort ad).isSome); omega) (by decide) d_Po_entry_35 (fun c_31 => ?_) (fun c_31 => ?_)
      · have c_31 := b2i_eq0.mp c_31
        refine G_iconst (i := 0) hC d_Po_entry_42 ?_
        refine G_istore (lv' := [(4, vI 0), (3, vI 0), (0, .ref a), (1, vI sort), (2, .int ad)]) hC (by rw [hN]; decide) rfl d_Po_entry_43 ?_
        refine G_aload_n hC 2 rfl rfl d_Po_entry_45 ?_
        have h_32 := fr_30.at h_11 (by simp only [List.mem_cons, List.not_mem_nil, or_false, not_or, not_false_eq_true]; try omega)
        refine G_get hC fl_Po_14 h_32 rfl d_Po_entry_46 ?_
        refine G_iconst (i := 0) hC d_Po_entry_49 ?_
        have h_33 := h_12.fr fr_30 (by simp only [List.mem_cons, List.not_mem_nil, or_false, not_or, not_false_eq_true]; try omega) (by simp only [List.mem_cons, List.not_mem_nil, or_false, not_or, not_false_eq_true]; try omega)
        refine G_xV (rest := []) hC hR (c_By_cut h_33 (by omega)) cv_Po_60 h_33.obj (by decide) (by omega) (by omega) rfl rfl (Nat.le_of_ble_eq_true rfl) d_Po_entry_50 (fun r_36 M_34 p_35 => ?_)
        obtain ⟨rfl, h_37, fr_38⟩ := p_35
        show G E M_34 (0 + (7) + 0) (0 + (2700) + 0) [(4, vI 0), (3, vI 0), (0, .ref a), (1, vI sort), (2, .int ad)] [] 53
        have h_39 : IsB (eD E) M_34 tp_1 2 800 (tb.1, []) := by rw [← cut0 tb]; exact h_37
        refine G_iload_n hC 1 rfl rfl d_Po_entry_53 ?_
        refine G_if_eq hC 60 (by decide) (by decide) d_Po_entry_54 (fun c_40 => ?_) (fun c_40 => ?_)
        · refine G_iload hC 0 rfl d_Po_entry_60 ?_
          refine G_if_eq hC 75 (by decide) (by decide) d_Po_entry_62 (fun c_41 => ?_) (fun c_41 => ?_)
          · refine G_iconst (i := (-1)) hC d_Po_entry_75 ?_
            have h_42 := fr_38.at h_32 (by simp only [List.mem_cons, List.not_mem_nil, or_false, not_or, not_false_eq_true]; try omega)
            have h_43 := h_13.fr fr_30 (by simp only [List.mem_cons, List.not_mem_nil, or_false, not_or, not_false_eq_true]; try omega) (by simp only [List.mem_cons, List.not_mem_nil, or_false, not_or, not_false_eq_true]; try omega)
            have h_44 := h_43.fr fr_38 (by simp only [List.mem_cons, List.not_mem_nil, or_false, not_or, not_false_eq_true]; try omega) (by simp only [List.mem_cons, List.not_mem_nil, or_false, not_or, not_false_eq_true]; try omega)
            have h_45 := h_29.fr fr_38 (by intro u hu; simp only [List.mem_cons, List.not_mem_nil, or_false] at hu <;> omega)
            have h_46 := h_15.fr fr_30 (by intro u hu; simp only [List.mem_cons, List.not_mem_nil, or_false] at hu <;> omega)
            have h_47 := h_46.fr fr_38 (by intro u hu; simp only [List.mem_cons, List.not_mem_nil, or_false] at hu <;> omega)
            have h_48 := h_16.fr fr_30 (by simp only [List.mem_cons, List.not_mem_nil, or_false, not_or, not_false_eq_true]; try omega) (by simp only [List.mem_cons, List.not_mem_nil, or_false, not_or, not_false_eq_true]; try omega)
            have h_49 := h_48.fr fr_38 (by simp only [List.mem_cons, List.not_mem_nil, or_false, not_or, not_false_eq_true]; try omega) (by simp only [List.mem_cons, List.not_mem_nil, or_false, not_or, not_false_eq_true]; try omega)
            have h_50 := fr_30.at h_17 (by simp only [List.mem_cons, List.not_mem_nil, or_false, not_or, not_false_eq_true]; try omega)
            have h_51 := fr_38.at h_50 (by simp only [List.mem_cons, List.not_mem_nil, or_false, not_or, not_false_eq_true]; try omega)
            have h_52 := fr_30.at h_18 (by simp only [List.mem_cons, List.not_mem_nil, or_false, not_or, not_false_eq_true]; try omega)
            have h_53 := fr_38.at h_52 (by simp only [List.mem_cons, List.not_mem_nil, or_false, not_or, not_false_eq_true]; try omega)
            have h_54 := h_19.fr fr_30 (by simp only [List.mem_cons, List.not_mem_nil, or_false, not_or, not_false_eq_true]; try omega) (by simp only [List.mem_cons, List.not_mem_nil, or_false, not_or, not_false_eq_true]; try omega)
            have h_55 := h_54.fr fr_38 (by simp only [List.mem_cons, List.not_mem_nil, or_false, not_or, not_false_eq_true]; try omega) (by simp only [List.mem_cons, List.not_mem_nil, or_false, not_or, not_false_eq_true]; try omega)
            have h_56 := h_21.fr fr_30 (by intro u hu; simp only [List.mem_cons, List.not_mem_nil, or_false] at hu <;> omega)
            have h_57 := h_56.fr fr_38 (by intro u hu; simp only [List.mem_cons, List.not_mem_nil, or_false] at hu <;> omega)
            exact G_iretX hC hQ (by omega) (by omega) d_Po_entry_76 ⟨by rw [if_neg (by omega), if_neg (by rw [c_31]; decide)], ⟨_, _, _, _, _, _, _, _, _, _, h_42, h_39, h_44, h_45, h_47, h_49, h_51, h_53, h_55, h_20, h_57, h_22⟩, ((fr_30.up (T := ([] ++ List.range 500)) (by intro u hu; simp only [List.mem_append, mem_lvT, List.mem_range, List.mem_cons, List.not_mem_nil, or_false, false_or] at hu ⊢ <;> omega)).tr' (T := ([] ++ List.range 500)) fr_38 (fun _ z => z) (by intro u hu; simp only [List.mem_append, mem_lvT, List.mem_range, List.mem_cons, List.not_mem_nil, or_false, false_or] at hu ⊢ <;> omega))⟩
          · exact (show False from by omega).elim
        · exact (show False from by omega).elim
      · have c_31 := b2i_ne0.mp c_31
        refine G_iconst (i := 1) hC d_Po_entry_38 ?_
        refine G_goto hC 43 (by decide) d_Po_entry_39 ?_
        refine G_istore (lv' := [(4, vI 1), (3, vI 0), (0, .ref a), (1, vI sort), (2, .int ad)]) hC (by rw [hN]; decide) rfl d_Po_entry_43 ?_
        refine G_aload_n hC 2 rfl rfl d_Po_entry_45 ?_
        have h_58 := fr_30.at h_11 (by simp only [List.mem_cons, List.not_mem_nil, or_false, not_or, not_false_eq_true]; try omega)
        refine G_get hC fl_Po_14 h_58 rfl d_Po_entry_46 ?_
        refine G_iconst (i := 0) hC d_Po_entry_49 ?_
        have h_59 := h_12.fr fr_30 (by simp only [List.mem_cons, List.not_mem_nil, or_false, not_or, not_false_eq_true]; try omega) (by simp only [List.mem_cons, List.not_mem_nil, or_false, not_or, not_false_eq_true]; try omega)
        refine G_xV (rest := []) hC hR (c_By_cut h_59 (by omega)) cv_Po_60 h_59.obj (by decide) (by omega) (by omega) rfl rfl (Nat.le_of_ble_eq_true rfl) d_Po_entry_50 (fun r_62 M_60 p_61 => ?_)
        obtain ⟨rfl, h_63, fr_64⟩ := p_61
        show G E M_60 (0 + (7) + 0) (0 + (2700) + 0) [(4, vI 1), (3, vI 0), (0, .ref a), (1, vI sort), (2, .int ad)] [] 53
        have h_65 : IsB (eD E) M_60 tp_1 2 800 (tb.1, []) := by rw [← cut0 tb]; exact h_63
        refine G_iload_n hC 1 rfl rfl d_Po_entry_53 ?_
        refine G_if_eq hC 60 (by decide) (by decide) d_Po_entry_54 (fun c_66 => ?_) (fun c_66 => ?_)
        · refine G_iload hC 0 rfl d_Po_entry_60 ?_
          refine G_if_eq hC 75 (by decide) (by decide) d_Po_entry_62 (fun c_67 => ?_) (fun c_67 => ?_)
          · exact (show False from by omega).elim
          · refine G_aload_n hC 2 rfl rfl d_Po_entry_65 ?_
            have h_68 := fr_64.at h_58 (by simp only [List.mem_cons, List.not_mem_nil, or_false, not_or, not_false_eq_true]; try omega)
            refine G_get hC fl_Po_24 h_68 rfl d_Po_entry_66 ?_
            have h_69 := h_29.fr fr_64 (by intro u hu; simp only [List.mem_cons, List.not_mem_nil, or_false] at hu <;> omega)
            refine G_pV (rest := []) hC hR (c_Di_size h_69) cv_Po_63 h_69.obj (by decide) (by omega) (by omega) rfl rfl (Nat.le_of_ble_eq_true rfl) d_Po_entry_69 ?_
            have g_70 := h_69.len
            refine G_goto hC 76 (by decide) d_Po_entry_72 ?_
            have h_71 := h_13.fr fr_30 (by simp only [List.mem_cons, List.not_mem_nil, or_false, not_or, not_false_eq_true]; try omega) (by simp only [List.mem_cons, List.not_mem_nil, or_false, not_or, not_false_eq_true]; try omega)
            have h_72 := h_71.fr fr_64 (by simp only [List.mem_cons, List.not_mem_nil, or_false, not_or, not_false_eq_true]; try omega) (by simp only [List.mem_cons, List.not_mem_nil, or_false, not_or, not_false_eq_true]; try omega)
            have h_73 := h_15.fr fr_30 (by intro u hu; simp only [List.mem_cons, List.not_mem_nil, or_false] at hu <;> omega)
            have h_74 := h_73.fr fr_64 (by intro u hu; simp only [List.mem_cons, List.not_mem_nil, or_false] at hu <;> omega)
            have h_75 := h_16.fr fr_30 (by simp only [List.mem_cons, List.not_mem_nil, or_false, not_or, not_false_eq_true]; try omega) (by simp only [List.mem_cons, List.not_mem_nil, or_false, not_or, not_false_eq_true]; try omega)
            have h_76 := h_75.fr fr_64 (by simp only [List.mem_cons, List.not_mem_nil, or_false, not_or, not_false_eq_true]; try omega) (by simp only [List.mem_cons, List.not_mem_nil, or_false, not_or, not_false_eq_true]; try omega)
            have h_77 := fr_30.at h_17 (by simp only [List.mem_cons, List.not_mem_nil, or_false, not_or, not_false_eq_true]; try omega)
            have h_78 := fr_64.at h_77 (by simp only [List.mem_cons, List.not_mem_nil, or_false, not_or, not_false_eq_true]; try omega)
            have h_79 := fr_30.at h_18 (by simp only [List.mem_cons, List.not_mem_nil, or_false, not_or, not_false_eq_true]; try omega)
            have h_80 := fr_64.at h_79 (by simp only [List.mem_cons, List.not_mem_nil, or_false, not_or, not_false_eq_true]; try omega)
            have h_81 := h_19.fr fr_30 (by simp only [List.mem_cons, List.not_mem_nil, or_false, not_or, not_false_eq_true]; try omega) (by simp only [List.mem_cons, List.not_mem_nil, or_false, not_or, not_false_eq_true]; try omega)
            have h_82 := h_81.fr fr_64 (by simp only [List.mem_cons, List.not_mem_nil, or_false, not_or, not_false_eq_true]; try omega) (by simp only [List.mem_cons, List.not_mem_nil, or_false, not_or, not_false_eq_true]; try omega)
            have h_83 := h_21.fr fr_30 (by intro u hu; simp only [List.mem_cons, List.not_mem_nil, or_false] at hu <;> omega)
            have h_84 := h_83.fr fr_64 (by intro u hu; simp only [List.mem_cons, List.not_mem_nil, or_false] at hu <;> omega)
            exact G_iretX hC hQ (by omega) (by omega) d_Po_entry_76 ⟨by rw [if_neg (by omega), if_pos c_31], ⟨_, _, _, _, _, _, _, _, _, _, h_68, h_65, h_72, h_69, h_74, h_76, h_78, h_80, h_82, h_20, h_84, h_22⟩, ((fr_30.up (T := ([] ++ List.range 500)) (by intro u hu; simp only [List.mem_append, mem_lvT, List.mem_range, List.mem_cons, List.not_mem_nil, or_false, false_or] at hu ⊢ <;> omega)).tr' (T := ([] ++ List.range 500)) fr_64 (fun _ z => z) (by intro u hu; simp only [List.mem_append, mem_lvT, List.mem_range, List.mem_cons, List.not_mem_nil, or_false, false_or] at hu ⊢ <;> omega))⟩
        · exact (show False from by omega).elim
  · refine G_iconst (i := 1) hC d_Po_entry_12 ?_
    refine G_goto hC 17 (by decide) d_Po_entry_13 ?_
    refine G_istore_n (lv' := [(3, vI 1), (0, .ref a), (1, vI sort), (2, .int ad)]) hC rfl (by rw [hN]; decide) rfl d_Po_entry_17 ?_
    refine G_iload_n hC 0 rfl rfl d_Po_entry_18 ?_
    refine G_if_ne hC 42 (by decide) (by decide) d_Po_entry_19 (fun c_85 => ?_) (fun c_85 => ?_)
    · refine G_iconst (i := 0) hC d_Po_entry_42 ?_
      refine G_istore (lv' := [(4, vI 0), (3, vI 1), (0, .ref a), (1, vI sort), (2, .int ad)]) hC (by rw [hN]; decide) rfl d_Po_entry_43 ?_
      refine G_aload_n hC 2 rfl rfl d_Po_entry_45 ?_
      refine G_get hC fl_Po_14 h_11 rfl d_Po_entry_46 ?_
      refine G_iconst (i := 0) hC d_Po_entry_49 ?_
      refine G_xV (rest := []) hC hR (c_By_cut h_12 (by omega)) cv_Po_60 h_12.obj (by decide) (by omega) (by omega) rfl rfl (Nat.le_of_ble_eq_true rfl) d_Po_entry_50 (fun r_88 M_86 p_87 => ?_)
      obtain ⟨rfl, h_89, fr_90⟩ := p_87
      show G E M_86 (0 + 0) (0 + 0) [(4, vI 0), (3, vI 1), (0, .ref a), (1, vI sort), (2, .int ad)] [] 53
      have h_91 : IsB (eD E) M_86 tp_1 2 800 (tb.1, []) := by rw [← cut0 tb]; exact h_89
      refine G_iload_n hC 1 rfl rfl d_Po_entry_53 ?_
      refine G_if_eq hC 60 (by decide) (by decide) d_Po_entry_54 (fun c_92 => ?_) (fun c_92 => ?_)
      · exact (show False from by omega).elim
      · refine G_bipush (j := (-3)) hC (by decide +kernel) d_Po_entry_57 ?_
        have hno := take_no (es := es) (xs := tb.2) (sort := sort) (ad := ad) (Or.inl (decide_eq_false (by omega)))
        have h_93 := fr_90.at h_11 (by simp only [List.mem_cons, List.not_mem_nil, or_false, not_or, not_false_eq_true]; try omega)
        have h_94 := h_13.fr fr_90 (by simp only [List.mem_cons, List.not_mem_nil, or_false, not_or, not_false_eq_true]; try omega) (by simp only [List.mem_cons, List.not_mem_nil, or_false, not_or, not_false_eq_true]; try omega)
        have h_95 := h_14.fr fr_90 (by intro u hu; simp only [List.mem_cons, List.not_mem_nil, or_false] at hu <;> omega)
        have h_96 := h_15.fr fr_90 (by intro u hu; simp only [List.mem_cons, List.not_mem_nil, or_false] at hu <;> omega)
        have h_97 := h_16.fr fr_90 (by simp only [List.mem_cons, List.not_mem_nil, or_false, not_or, not_false_eq_true]; try omega) (by simp only [List.mem_cons, List.not_mem_nil, or_false, not_or, not_false_eq_true]; try omega)
        have h_98 := fr_90.at h_17 (by simp only [List.mem_cons, List.not_mem_nil, or_false, not_or, not_false_eq_true]; try omega)
        have h_99 := fr_90.at h_18 (by simp only [List.mem_cons, List.not_mem_nil, or_false, not_or, not_false_eq_true]; try omega)
        have h_100 := h_19.fr fr_90 (by simp only [List.mem_cons, List.not_mem_nil, or_false, not_or, not_false_eq_true]; try omega) (by simp only [List.mem_cons, List.not_mem_nil, or_false, not_or, not_false_eq_true]; try omega)
        have h_101 := h_21.fr fr_90 (by intro u hu; simp only [List.mem_cons, List.not_mem_nil, or_false] at hu <;> omega)
        exact G_iretX hC hQ (by omega) (by omega) d_Po_entry_59 ⟨by rw [if_pos (by omega)], by rw [hno.2]; exact ⟨_, _, _, _, _, _, _, _, _, _, h_93, h_91, h_94, h_95, h_96, h_97, h_98, h_99, h_100, h_20, h_101, h_22⟩, (fr_90.up (T := ([] ++ List.range 500)) (by intro u hu; simp only [List.mem_append, mem_lvT, List.mem_range, List.mem_cons, List.not_mem_nil, or_false, false_or] at hu ⊢ <;> omega))⟩
    · exact (show False from by omega).elim

set_option maxHeartbeats 4000000 in
set_option maxRecDepth 100000 in
theorem c_Po_sender {l : Launch} {D : Dg} {b0 : Nat} {M : Mp} {a : Nat} {ad : Int32} {tb : Bv} {ob : Bv} {es : List Ent} {so : Option Snd} {cn : Int} {vo : Int} (h_Po_a : IsPo D M a tb ob es so cn vo) : Ok l D b0 7 y_Po_sender b_Po_sender 3 (some .int) M [.ref a, .int ad] 600 600 (fun r M' => r = some (vI (if (sndS tb.2 ad).isSome = true then 0 else -1)) ∧ IsPo D M' a (tb.1, []) ob es ((sndS tb.2 ad).or so) cn vo ∧ Fr ([] ++ List.range 500) M M') := by
  refine Ok_of rfl (Nat.le_of_ble_eq_true rfl) (fun E hC hQ hl hD hB hN hR => ?_)
  subst hl hD hB
  obtain ⟨tp_1, op_2, di_3, se_4, ma_5, ch_6, lv_7, tg_8, f_9, bt_10, h_11, h_12, h_13, h_14, h_15, h_16, h_17, h_18, h_19, h_20, h_21, h_22⟩ := id h_Po_a
  have hT9 := h_12.len
  have hO9 := h_13.len
  have hE9 := h_14.len
  show G E M 0 0 [(0, .ref a), (1, .int ad)] [] 0
  refine G_aload_n hC 0 rfl rfl d_Po_sender_0 ?_
  refine G_get hC fl_Po_31 h_11 rfl d_Po_sender_1 ?_
  refine G_iload_n hC 1 rfl rfl d_Po_sender_4 ?_
  refine G_aload_n hC 0 rfl rfl d_Po_sender_5 ?_
  refine G_get hC fl_Po_14 h_11 rfl d_Po_sender_6 ?_
  refine G_xV (rest := []) hC hR (c_Se_take h_15 h_12 (by omega)) cv_Po_71 h_15.obj (by decide) (by omega) (by omega) rfl rfl (Nat.le_of_ble_eq_true rfl) d_Po_sender_9 (fun r_25 M_23 p_24 => ?_)
  obtain ⟨rfl, h_26, fr_27⟩ := p_24
  show G E M_23 (0 + (600)) (0 + (600)) [(0, .ref a), (1, .int ad)] [vI (b2i (sndS tb.2 ad).isSome)] 12
  refine G_istore_n (lv' := [(2, vI (b2i (sndS tb.2 ad).isSome)), (0, .ref a), (1, .int ad)]) hC rfl (by rw [hN]; decide) rfl d_Po_sender_12 ?_
  refine G_aload_n hC 1 rfl rfl d_Po_sender_13 ?_
  have h_28 := fr_27.at h_11 (by decide)
  refine G_get hC fl_Po_14 h_28 rfl d_Po_sender_14 ?_
  refine G_iconst (i := 0) hC d_Po_sender_17 ?_
  have h_29 := h_12.fr fr_27 (by decide) (by decide)
  refine G_xV (rest := []) hC hR (c_By_cut h_29 (by omega)) cv_Po_60 h_29.obj (by decide) (by omega) (by omega) rfl rfl (Nat.le_of_ble_eq_true rfl) d_Po_sender_18 (fun r_32 M_30 p_31 => ?_)
  obtain ⟨rfl, h_33, fr_34⟩ := p_31
  show G E M_30 (0 + (600) + 0) (0 + (600) + 0) [(2, vI (b2i (sndS tb.2 ad).isSome)), (0, .ref a), (1, .int ad)] [] 21
  have h_35 : IsB (eD E) M_30 tp_1 2 800 (tb.1, []) := by rw [← cut0 tb]; exact h_33
  refine G_iload_n hC 0 rfl rfl d_Po_sender_21 ?_
  refine G_if_eq hC 29 (by have := b2i_rng ((sndS tb.2 ad).isSome); omega) (by decide) d_Po_sender_22 (fun c_36 => ?_) (fun c_36 => ?_)
  · have c_36 := b2i_eq0.mp c_36
    refine G_iconst (i := (-1)) hC d_Po_sender_29 ?_
    have h_37 := fr_34.at h_28 (by simp only [List.mem_cons, List.not_mem_nil, or_false, not_or, not_false_eq_true]; try omega)
    have h_38 := h_13.fr fr_27 (by decide) (by decide)
    have h_39 := h_38.fr fr_34 (by simp only [List.mem_cons, List.not_mem_nil, or_false, not_or, not_false_eq_true]; try omega) (by simp only [List.mem_cons, List.not_mem_nil, or_false, not_or, not_false_eq_true]; try omega)
    have h_40 := h_14.fr fr_27 (by intro u hu; simp only [List.mem_cons, List.not_mem_nil, or_false] at hu <;> omega)
    have h_41 := h_40.fr fr_34 (by intro u hu; simp only [List.mem_cons, List.not_mem_nil, or_false] at hu <;> omega)
    have h_42 := h_26.fr fr_34 (by intro u hu; simp only [List.mem_cons, List.not_mem_nil, or_false] at hu <;> omega)
    have h_43 := h_16.fr fr_27 (by decide) (by decide)
    have h_44 := h_43.fr fr_34 (by simp only [List.mem_cons, List.not_mem_nil, or_false, not_or, not_false_eq_true]; try omega) (by simp only [List.mem_cons, List.not_mem_nil, or_false, not_or, not_false_eq_true]; try omega)
    have h_45 := fr_27.at h_17 (by decide)
    have h_46 := fr_34.at h_45 (by simp only [List.mem_cons, List.not_mem_nil, or_false, not_or, not_false_eq_true]; try omega)
    have h_47 := fr_27.at h_18 (by decide)
    have h_48 := fr_34.at h_47 (by simp only [List.mem_cons, List.not_mem_nil, or_false, not_or, not_false_eq_true]; try omega)
    have h_49 := h_19.fr fr_27 (by decide) (by decide)
    have h_50 := h_49.fr fr_34 (by simp only [List.mem_cons, List.not_mem_nil, or_false, not_or, not_false_eq_true]; try omega) (by simp only [List.mem_cons, List.not_mem_nil, or_false, not_or, not_false_eq_true]; try omega)
    have h_51 := h_21.fr fr_27 (by intro u hu; simp only [List.mem_cons, List.not_mem_nil, or_false] at hu <;> omega)
    have h_52 := h_51.fr fr_34 (by intro u hu; simp only [List.mem_cons, List.not_mem_nil, or_false] at hu <;> omega)
    exact G_iretX hC hQ (by omega) (by omega) d_Po_sender_30 ⟨by rw [if_neg (by rw [c_36]; decide)], ⟨_, _, _, _, _, _, _, _, _, _, h_37, h_35, h_39, h_41, h_42, h_44, h_46, h_48, h_50, h_20, h_52, h_22⟩, ((fr_27.up (T := ([] ++ List.range 500)) (by intro u hu; simp only [List.mem_append, mem_lvT, List.mem_range, List.mem_cons, List.not_mem_nil, or_false, false_or] at hu ⊢ <;> omega)).tr' (T := ([] ++ List.range 500)) fr_34 (fun _ z => z) (by intro u hu; simp only [List.mem_append, mem_lvT, List.mem_range, List.mem_cons, List.not_mem_nil, or_false, false_or] at hu ⊢ <;> omega))⟩
  · have c_36 := b2i_ne0.mp c_36
    refine G_iconst (i := 0) hC d_Po_sender_25 ?_
    refine G_goto hC 30 (by decide) d_Po_sender_26 ?_
    have h_53 := fr_34.at h_28 (by simp only [List.mem_cons, List.not_mem_nil, or_false, not_or, not_false_eq_true]; try omega)
    have h_54 := h_13.fr fr_27 (by decide) (by decide)
    have h_55 := h_54.fr fr_34 (by simp only [List.mem_cons, List.not_mem_nil, or_false, not_or, not_false_eq_true]; try omega) (by simp only [List.mem_cons, List.not_mem_nil, or_false, not_or, not_false_eq_true]; try omega)
    have h_56 := h_14.fr fr_27 (by intro u hu; simp only [List.mem_cons, List.not_mem_nil, or_false] at hu <;> omega)
    have h_57 := h_56.fr fr_34 (by intro u hu; simp only [List.mem_cons, List.not_mem_nil, or_false] at hu <;> omega)
    have h_58 := h_26.fr fr_34 (by intro u hu; simp only [List.mem_cons, List.not_mem_nil, or_false] at hu <;> omega)
    have h_59 := h_16.fr fr_27 (by decide) (by decide)
    have h_60 := h_59.fr fr_34 (by simp only [List.mem_cons, List.not_mem_nil, or_false, not_or, not_false_eq_true]; try omega) (by simp only [List.mem_cons, List.not_mem_nil, or_false, not_or, not_false_eq_true]; try omega)
    have h_61 := fr_27.at h_17 (by decide)
    have h_62 := fr_34.at h_61 (by simp only [List.mem_cons, List.not_mem_nil, or_false, not_or, not_false_eq_true]; try omega)
    have h_63 := fr_27.at h_18 (by decide)
    have h_64 := fr_34.at h_63 (by simp only [List.mem_cons, List.not_mem_nil, or_false, not_or, not_false_eq_true]; try omega)
    have h_65 := h_19.fr fr_27 (by decide) (by decide)
    have h_66 := h_65.fr fr_34 (by simp only [List.mem_cons, List.not_mem_nil, or_false, not_or, not_false_eq_true]; try omega) (by simp only [List.mem_cons, List.not_mem_nil, or_false, not_or, not_false_eq_true]; try omega)
    have h_67 := h_21.fr fr_27 (by intro u hu; simp only [List.mem_cons, List.not_mem_nil, or_false] at hu <;> omega)
    have h_68 := h_67.fr fr_34 (by intro u hu; simp only [List.mem_cons, List.not_mem_nil, or_false] at hu <;> omega)
    exact G_iretX hC hQ (by omega) (by omega) d_Po_sender_30 ⟨by rw [if_pos c_36], ⟨_, _, _, _, _, _, _, _, _, _, h_53, h_35, h_55, h_57, h_58, h_60, h_62, h_64, h_66, h_20, h_68, h_22⟩, ((fr_27.up (T := ([] ++ List.range 500)) (by intro u hu; simp only [List.mem_append, mem_lvT, List.mem_range, List.mem_cons, List.not_mem_nil, or_false, false_or] at hu ⊢ <;> omega)).tr' (T := ([] ++ List.range 500)) fr_34 (fun _ z => z) (by intro u hu; simp only [List.mem_append, mem_lvT, List.mem_range, List.mem_cons, List.not_mem_nil, or_false, false_or] at hu ⊢ <;> omega))⟩

set_option maxHeartbeats 4000000 in
set_option maxRecDepth 100000 in
theorem c_Po_expand {l : Launch} {D : Dg} {b0 : Nat} {M : Mp} {a : Nat} {tb : Bv} {ob : Bv} {es : List Ent} {so : Option Snd} {cn : Int} {vo : Int} (h_Po_a : IsPo D M a tb ob es so cn vo) : Ok l D b0 7 y_Po_expand b_Po_expand 2 (some .int) M [.ref a] (psi 18200 ((expO ob tb so).getD ob) - psi 18200 ob) (psi 18200 ((expO ob tb so).getD ob) - psi 18200 ob) (fun r M' => r = some (vI (if (expO ob tb so).isSome = true then (((expO ob tb so).getD ob).2.length : Int) else -1)) ∧ IsPo D M' a (tb.1, []) ((expO ob tb so).getD ob) es so cn vo ∧ Fr ([] ++ List.range 500) M M') := by
  rcases so with _ | sd
  · refine Ok_of rfl (Nat.le_of_ble_eq_true rfl) (fun E hC hQ hl hD hB hN hR => ?_)
    subst hl hD hB
    obtain ⟨tp_1, op_2, di_3, se_4, ma_5, ch_6, lv_7, tg_8, f_9, bt_10, h_11, h_12, h_13, h_14, h_15, h_16, h_17, h_18, h_19, h_20, h_21, h_22⟩ := id h_Po_a
    have hT9 := h_12.len
    have hO9 := h_13.len
    have hE9 := h_14.len
    show G E M 0 0 [(0, .ref a)] [] 0
    refine G_aload_n hC 0 rfl rfl d_Po_expand_0 ?_
    refine G_get hC fl_Po_31 h_11 rfl d_Po_expand_1 ?_
    refine G_pV (rest := []) hC hR (c_Se_isKnown h_15) cv_Po_74 h_15.obj (by decide) (by omega) (by omega) rfl rfl (Nat.le_of_ble_eq_true rfl) d_Po_expand_4 ?_
    refine G_if_eq hC 32 (by have := b2i_rng ((none : Option Snd).isSome); omega) (by decide) d_Po_expand_7 (fun c_23 => ?_) (fun c_23 => ?_)
    · have c_23 := b2i_eq0.mp c_23
      refine G_iconst (i := 0) hC d_Po_expand_32 ?_
      refine G_istore_n (lv' := [(1, vI 0), (0, .ref a)]) hC rfl (by rw [hN]; decide) rfl d_Po_expand_33 ?_
      refine G_iload_n hC 0 rfl rfl d_Po_expand_34 ?_
      refine G_if_eq hC 76 (by decide) (by decide) d_Po_expand_35 (fun c_24 => ?_) (fun c_24 => ?_)
      · refine G_aload_n hC 1 rfl rfl d_Po_expand_76 ?_
        refine G_get hC fl_Po_14 h_11 rfl d_Po_expand_77 ?_
        refine G_iconst (i := 0) hC d_Po_expand_80 ?_
        refine G_xV (rest := []) hC hR (c_By_cut h_12 (by omega)) cv_Po_60 h_12.obj (by decide) (by omega) (by omega) rfl rfl (Nat.le_of_ble_eq_true rfl) d_Po_expand_81 (fun r_27 M_25 p_26 => ?_)
        obtain ⟨rfl, h_28, fr_29⟩ := p_26
        show G E M_25 (0 + 0) (0 + 0) [(1, vI 0), (0, .ref a)] [] 84
        have h_30 : IsB (eD E) M_25 tp_1 2 800 (tb.1, []) := by rw [← cut0 tb]; exact h_28
        refine G_iload_n hC 0 rfl rfl d_Po_expand_84 ?_
        refine G_if_eq hC 98 (by decide) (by decide) d_Po_expand_85 (fun c_31 => ?_) (fun c_31 => ?_)
        · refine G_iconst (i := (-1)) hC d_Po_expand_98 ?_
          have h_32 := fr_29.at h_11 (by simp only [List.mem_cons, List.not_mem_nil, or_false, not_or, not_false_eq_true]; try omega)
          have h_33 := h_13.fr fr_29 (by simp only [List.mem_cons, List.not_mem_nil, or_false, not_or, not_false_eq_true]; try omega) (by simp only [List.mem_cons, List.not_mem_nil, or_false, not_or, not_false_eq_true]; try omega)
          have h_34 := h_14.fr fr_29 (by intro u hu; simp only [List.mem_cons, List.not_mem_nil, or_false] at hu <;> omega)
          have h_35 := h_15.fr fr_29 (by intro u hu; simp only [List.mem_cons, List.not_mem_nil, or_false] at hu <;> omega)
          have h_36 := h_16.fr fr_29 (by simp only [List.mem_cons, List.not_mem_nil, or_false, not_or, not_false_eq_true]; try omega) (by simp only [List.mem_cons, List.not_mem_nil, or_false, not_or, not_false_eq_true]; try omega)
          have h_37 := fr_29.at h_17 (by simp only [List.mem_cons, List.not_mem_nil, or_false, not_or, not_false_eq_true]; try omega)
          have h_38 := fr_29.at h_18 (by simp only [List.mem_cons, List.not_mem_nil, or_false, not_or, not_false_eq_true]; try omega)
          have h_39 := h_19.fr fr_29 (by simp only [List.mem_cons, List.not_mem_nil, or_false, not_or, not_false_eq_true]; try omega) (by simp only [List.mem_cons, List.not_mem_nil, or_false, not_or, not_false_eq_true]; try omega)
          have h_40 := h_21.fr fr_29 (by intro u hu; simp only [List.mem_cons, List.not_mem_nil, or_false] at hu <;> omega)
          exact G_iretX hC hQ (by omega) (by omega) d_Po_expand_99 ⟨rfl, ⟨_, _, _, _, _, _, _, _, _, _, h_32, h_30, h_33, h_34, h_35, h_36, h_37, h_38, h_39, h_20, h_40, h_22⟩, (fr_29.up (T := ([] ++ List.range 500)) (by intro u hu; simp only [List.mem_append, mem_lvT, List.mem_range, List.mem_cons, List.not_mem_nil, or_false, false_or] at hu ⊢ <;> omega))⟩
        · exact (show False from by omega).elim
      · exact (show False from by omega).elim
    · have c_23 := b2i_ne0.mp c_23
      exact absurd c_23 (by simp)
  · refine Ok_of rfl (Nat.le_of_ble_eq_true rfl) (fun E hC hQ hl hD hB hN hR => ?_)
    subst hl hD hB
    obtain ⟨tp_41, op_42, di_43, se_44, ma_45, ch_46, lv_47, tg_48, f_49, bt_50, h_51, h_52, h_53, h_54, h_55, h_56, h_57, h_58, h_59, h_60, h_61, h_62⟩ := id h_Po_a
    have hT9 := h_52.len
    have hO9 := h_53.len
    have hE9 := h_54.len
    have hsn := h_55.snd
    show G E M 0 0 [(0, .ref a)] [] 0
    refine G_aload_n hC 0 rfl rfl d_Po_expand_0 ?_
    refine G_get hC fl_Po_31 h_51 rfl d_Po_expand_1 ?_
    refine G_pV (rest := []) hC hR (c_Se_isKnown h_55) cv_Po_74 h_55.obj (by decide) (by omega) (by omega) rfl rfl (Nat.le_of_ble_eq_true rfl) d_Po_expand_4 ?_
    refine G_if_eq hC 32 (by have := b2i_rng ((some sd).isSome); omega) (by decide) d_Po_expand_7 (fun c_63 => ?_) (fun c_63 => ?_)
    · have c_63 := b2i_eq0.mp c_63
      exact absurd c_63 (by simp)
    · have c_63 := b2i_ne0.mp c_63
      refine G_aload_n hC 0 rfl rfl d_Po_expand_10 ?_
      refine G_get hC fl_Po_14 h_51 rfl d_Po_expand_11 ?_
      refine G_iconst (i := 0) hC d_Po_expand_14 ?_
      refine G_aload_n hC 0 rfl rfl d_Po_expand_15 ?_
      refine G_get hC fl_Po_14 h_51 rfl d_Po_expand_16 ?_
      refine G_pV (rest := [vI 0, .ref tp_41]) hC hR (c_By_size h_52) cv_Po_53 h_52.obj (by decide) (by omega) (by omega) rfl rfl (Nat.le_of_ble_eq_true rfl) d_Po_expand_19 ?_
      have g_64 := h_52.len
      refine G_pS (rest := []) hC hR (c_Ma_isTarget h_52 (by omega) (by omega) rfl) cs_Po_91 (by decide) (by omega) (by omega) rfl rfl (Nat.le_of_ble_eq_true rfl) d_Po_expand_22 ?_
      refine G_if_eq hC 32 (by have := b2i_rng (targS tb.2 0 (tb.2.length : Int)); omega) (by decide) d_Po_expand_25 (fun c_65 => ?_) (fun c_65 => ?_)
      · have c_65 := b2i_eq0.mp c_65
        refine G_iconst (i := 0) hC d_Po_expand_32 ?_
        refine G_istore_n (lv' := [(1, vI 0), (0, .ref a)]) hC rfl (by rw [hN]; decide) rfl d_Po_expand_33 ?_
        refine G_iload_n hC 0 rfl rfl d_Po_expand_34 ?_
        refine G_if_eq hC 76 (by decide) (by decide) d_Po_expand_35 (fun c_66 => ?_) (fun c_66 => ?_)
        · refine G_aload_n hC 1 rfl rfl d_Po_expand_76 ?_
          refine G_get hC fl_Po_14 h_51 rfl d_Po_expand_77 ?_
          refine G_iconst (i := 0) hC d_Po_expand_80 ?_
          refine G_xV (rest := []) hC hR (c_By_cut h_52 (by omega)) cv_Po_60 h_52.obj (by decide) (by omega) (by omega) rfl rfl (Nat.le_of_ble_eq_true rfl) d_Po_expand_81 (fun r_69 M_67 p_68 => ?_)
          obtain ⟨rfl, h_70, fr_71⟩ := p_68
          show G E M_67 (0 + 0) (0 + 0) [(1, vI 0), (0, .ref a)] [] 84
          have h_72 : IsB (eD E) M_67 tp_41 2 800 (tb.1, []) := by rw [← cut0 tb]; exact h_70
          refine G_iload_n hC 0 rfl rfl d_Po_expand_84 ?_
          refine G_if_eq hC 98 (by decide) (by decide) d_Po_expand_85 (fun c_73 => ?_) (fun c_73 => ?_)
          · refine G_iconst (i := (-1)) hC d_Po_expand_98 ?_
            have hex := expO_f (ob := ob) (sd := sd) c_65
            have h_74 := fr_71.at h_51 (by simp only [List.mem_cons, List.not_mem_nil, or_false, not_or, not_false_eq_true]; try omega)
            have h_75 := h_53.fr fr_71 (by simp only [List.mem_cons, List.not_mem_nil, or_false, not_or, not_false_eq_true]; try omega) (by simp only [List.mem_cons, List.not_mem_nil, or_false, not_or, not_false_eq_true]; try omega)
            have h_76 := h_54.fr fr_71 (by intro u hu; simp only [List.mem_cons, List.not_mem_nil, or_false] at hu <;> omega)
            have h_77 := h_55.fr fr_71 (by intro u hu; simp only [List.mem_cons, List.not_mem_nil, or_false] at hu <;> omega)
            have h_78 := h_56.fr fr_71 (by simp only [List.mem_cons, List.not_mem_nil, or_false, not_or, not_false_eq_true]; try omega) (by simp only [List.mem_cons, List.not_mem_nil, or_false, not_or, not_false_eq_true]; try omega)
            have h_79 := fr_71.at h_57 (by simp only [List.mem_cons, List.not_mem_nil, or_false, not_or, not_false_eq_true]; try omega)
            have h_80 := fr_71.at h_58 (by simp only [List.mem_cons, List.not_mem_nil, or_false, not_or, not_false_eq_true]; try omega)
            have h_81 := h_59.fr fr_71 (by simp only [List.mem_cons, List.not_mem_nil, or_false, not_or, not_false_eq_true]; try omega) (by simp only [List.mem_cons, List.not_mem_nil, or_false, not_or, not_false_eq_true]; try omega)
            have h_82 := h_61.fr fr_71 (by intro u hu; simp only [List.mem_cons, List.not_mem_nil, or_false] at hu <;> omega)
            exact G_iretX hC hQ (by omega) (by omega) d_Po_expand_99 ⟨by rw [hex]; rfl, by rw [hex]; exact ⟨_, _, _, _, _, _, _, _, _, _, h_74, h_72, h_75, h_76, h_77, h_78, h_79, h_80, h_81, h_60, h_82, h_62⟩, (fr_71.up (T := ([] ++ List.range 500)) (by intro u hu; simp only [List.mem_append, mem_lvT, List.mem_range, List.mem_cons, List.not_mem_nil, or_false, false_or] at hu ⊢ <;> omega))⟩
          · exact (show False from by omega).elim
        · exact (show False from by omega).elim
      · have c_65 := b2i_ne0.mp c_65
        refine G_iconst (i := 1) hC d_Po_expand_28 ?_
        refine G_goto hC 33 (by decide) d_Po_expand_29 ?_
        refine G_istore_n (lv' := [(1, vI 1), (0, .ref a)]) hC rfl (by rw [hN]; decide) rfl d_Po_expand_33 ?_
        refine G_iload_n hC 0 rfl rfl d_Po_expand_34 ?_
        refine G_if_eq hC 76 (by decide) (by decide) d_Po_expand_35 (fun c_83 => ?_) (fun c_83 => ?_)
        · exact (show False from by omega).elim
        · refine G_aload_n hC 1 rfl rfl d_Po_expand_38 ?_
          refine G_get hC fl_Po_18 h_51 rfl d_Po_expand_39 ?_
          refine G_iconst (i := 0) hC d_Po_expand_42 ?_
          refine G_xV (rest := []) hC hR (c_By_cut h_53 (by omega)) cv_Po_60 h_53.obj (by decide) (by omega) (by omega) rfl rfl (Nat.le_of_ble_eq_true rfl) d_Po_expand_43 (fun r_86 M_84 p_85 => ?_)
          obtain ⟨rfl, h_87, fr_88⟩ := p_85
          show G E M_84 (0 + 0) (0 + 0) [(1, vI 1), (0, .ref a)] [] 46
          have h_89 : IsB (eD E) M_84 op_42 4 18200 (ob.1, []) := by rw [← cut0 ob]; exact h_87
          refine G_aload_n hC 1 rfl rfl d_Po_expand_46 ?_
          have h_90 := fr_88.at h_51 (by simp only [List.mem_cons, List.not_mem_nil, or_false, not_or, not_false_eq_true]; try omega)
          refine G_get hC fl_Po_40 h_90 rfl d_Po_expand_47 ?_
          refine G_aload_n hC 1 rfl rfl d_Po_expand_50 ?_
          refine G_get hC fl_Po_14 h_90 rfl d_Po_expand_51 ?_
          refine G_iconst (i := 0) hC d_Po_expand_54 ?_
          refine G_aload_n hC 1 rfl rfl d_Po_expand_55 ?_
          refine G_get hC fl_Po_14 h_90 rfl d_Po_expand_56 ?_
          have h_91 := h_52.fr fr_88 (by simp only [List.mem_cons, List.not_mem_nil, or_false, not_or, not_false_eq_true]; try omega) (by simp only [List.mem_cons, List.not_mem_nil, or_false, not_or, not_false_eq_true]; try omega)
          refine G_pV (rest := [vI 0, .ref tp_41, .ref ma_45]) hC hR (c_By_size h_91) cv_Po_53 h_91.obj (by decide) (by omega) (by omega) rfl rfl (Nat.le_of_ble_eq_true rfl) d_Po_expand_59 ?_
          have g_92 := h_91.len
          refine G_aload_n hC 1 rfl rfl d_Po_expand_62 ?_
          refine G_get hC fl_Po_31 h_90 rfl d_Po_expand_63 ?_
          have h_93 := h_55.fr fr_88 (by intro u hu; simp only [List.mem_cons, List.not_mem_nil, or_false] at hu <;> omega)
          refine G_xV (rest := [vI (tb.2.length : Int), vI 0, .ref tp_41, .ref ma_45]) hC hR (c_Se_domain h_93) cv_Po_95 h_93.obj (by decide) (by omega) (by omega) rfl rfl (Nat.le_of_ble_eq_true rfl) d_Po_expand_66 (fun r_96 M_94 p_95 => ?_)
          obtain ⟨q_97, bq_98, rfl, h_99, h_100, rfl⟩ := p_95
          show G E M_84 (0 + 0 + 0) (0 + 0 + 0) [(1, vI 1), (0, .ref a)] [.ref q_97, vI (tb.2.length : Int), vI 0, .ref tp_41, .ref ma_45] 69
          refine G_aload_n hC 1 rfl rfl d_Po_expand_69 ?_
          refine G_get hC fl_Po_18 h_90 rfl d_Po_expand_70 ?_
          have hbq := h_100
          have hlb : bq_98.2.length ≤ 60 := by rw [hbq]; omega
          have hex := expO_t (ob := ob) (sd := sd) c_65
          have hW : wrL 18200 sd bq_98.2 tb.2 (tb.2.length : Int) 0 (ob.1, []) = wrL 18200 sd sd.2.1 tb.2 tb.2.length 0 (ob.1, []) := by rw [hbq]
          have hcst : psi 18200 ((expO ob tb (some sd)).getD ob) = psi 18200 (wrL 18200 sd bq_98.2 tb.2 (tb.2.length : Int) 0 (ob.1, [])) := by rw [hex, hW]; rfl
          have hp0 : psi 18200 (ob.1, ([] : List Int)) = psi 18200 ob := rfl
          have h_101 := h_56.fr fr_88 (by simp only [List.mem_cons, List.not_mem_nil, or_false, not_or, not_false_eq_true]; try omega) (by simp only [List.mem_cons, List.not_mem_nil, or_false, not_or, not_false_eq_true]; try omega)
          refine G_xV (rest := []) hC hR (c_Ma_write h_101 h_93 h_91 h_99 h_89 (by omega) (by omega) (by omega) (by omega) (by omega) rfl) cv_Po_99 h_101.obj (by decide) (by omega) (by omega) rfl rfl (Nat.le_of_ble_eq_true rfl) d_Po_expand_73 (fun r_104 M_102 p_103 => ?_)
          obtain ⟨rfl, h_105, h_106, fr_107⟩ := p_103
          show G E M_102 (0 + 0 + 0 + (psi 18200 (wrL 18200 sd bq_98.2 tb.2 (tb.2.length : Int) 0 (ob.1, [])) - psi 18200 (ob.1, []))) (0 + 0 + 0 + (psi 18200 (wrL 18200 sd bq_98.2 tb.2 (tb.2.length : Int) 0 (ob.1, [])) - psi 18200 (ob.1, []))) [(1, vI 1), (0, .ref a)] [] 76
          have g_108 := wrL_gr (lim := 18200) (s := sd) (chk := bq_98.2) (xs := tb.2) (to := (tb.2.length : Int)) _ 0 (ob.1, []) (Nat.lt_succ_self _) ⟨h_89.len.1, h_89.len.2.1⟩
          have h_109 : IsB (eD E) M_102 op_42 4 18200 ((expO ob tb (some sd)).getD ob) := by rw [hex]; show IsB (eD E) M_102 op_42 4 18200 (wrL 18200 sd sd.2.1 tb.2 tb.2.length 0 (ob.1, [])); rw [← hW]; exact h_105
          refine G_aload_n hC 1 rfl rfl d_Po_expand_76 ?_
          have h_110 := fr_107.at h_90 (by simp only [List.mem_cons, List.not_mem_nil, or_false, not_or, not_false_eq_true]; try omega)
          refine G_get hC fl_Po_14 h_110 rfl d_Po_expand_77 ?_
          refine G_iconst (i := 0) hC d_Po_expand_80 ?_
          have h_111 := h_91.fr fr_107 (by simp only [List.mem_cons, List.not_mem_nil, or_false, not_or, not_false_eq_true]; try omega) (by simp only [List.mem_cons, List.not_mem_nil, or_false, not_or, not_false_eq_true]; try omega)
          refine G_xV (rest := []) hC hR (c_By_cut h_111 (by omega)) cv_Po_60 h_111.obj (by decide) (by omega) (by omega) rfl rfl (Nat.le_of_ble_eq_true rfl) d_Po_expand_81 (fun r_114 M_112 p_113 => ?_)
          obtain ⟨rfl, h_115, fr_116⟩ := p_113
          show G E M_112 (0 + 0 + 0 + (psi 18200 (wrL 18200 sd bq_98.2 tb.2 (tb.2.length : Int) 0 (ob.1, [])) - psi 18200 (ob.1, [])) + 0) (0 + 0 + 0 + (psi 18200 (wrL 18200 sd bq_98.2 tb.2 (tb.2.length : Int) 0 (ob.1, [])) - psi 18200 (ob.1, [])) + 0) [(1, vI 1), (0, .ref a)] [] 84
          have h_117 : IsB (eD E) M_112 tp_41 2 800 (tb.1, []) := by rw [← cut0 tb]; exact h_115
          refine G_iload_n hC 0 rfl rfl d_Po_expand_84 ?_
          refine G_if_eq hC 98 (by decide) (by decide) d_Po_expand_85 (fun c_118 => ?_) (fun c_118 => ?_)
          · exact (show False from by omega).elim
          · refine G_aload_n hC 1 rfl rfl d_Po_expand_88 ?_
            have h_119 := fr_116.at h_110 (by simp only [List.mem_cons, List.not_mem_nil, or_false, not_or, not_false_eq_true]; try omega)
            refine G_get hC fl_Po_18 h_119 rfl d_Po_expand_89 ?_
            have h_120 := h_109.fr fr_116 (by simp only [List.mem_cons, List.not_mem_nil, or_false, not_or, not_false_eq_true]; try omega) (by simp only [List.mem_cons, List.not_mem_nil, or_false, not_or, not_false_eq_true]; try omega)
            refine G_pV (rest := []) hC hR (c_By_size h_120) cv_Po_53 h_120.obj (by decide) (by omega) (by omega) rfl rfl (Nat.le_of_ble_eq_true rfl) d_Po_expand_92 ?_
            have g_121 := h_120.len
            refine G_goto hC 99 (by decide) d_Po_expand_95 ?_
            have h_122 := h_54.fr fr_88 (by intro u hu; simp only [List.mem_cons, List.not_mem_nil, or_false] at hu <;> omega)
            have h_123 := h_122.fr fr_107 (by intro u hu; simp only [List.mem_cons, List.not_mem_nil, or_false] at hu <;> omega)
            have h_124 := h_123.fr fr_116 (by intro u hu; simp only [List.mem_cons, List.not_mem_nil, or_false] at hu <;> omega)
            have h_125 := h_93.fr fr_107 (by intro u hu; simp only [List.mem_cons, List.not_mem_nil, or_false] at hu <;> omega)
            have h_126 := h_125.fr fr_116 (by intro u hu; simp only [List.mem_cons, List.not_mem_nil, or_false] at hu <;> omega)
            have h_127 := h_106.fr fr_116 (by simp only [List.mem_cons, List.not_mem_nil, or_false, not_or, not_false_eq_true]; try omega) (by simp only [List.mem_cons, List.not_mem_nil, or_false, not_or, not_false_eq_true]; try omega)
            have h_128 := fr_88.at h_57 (by simp only [List.mem_cons, List.not_mem_nil, or_false, not_or, not_false_eq_true]; try omega)
            have h_129 := fr_107.at h_128 (by simp only [List.mem_cons, List.not_mem_nil, or_false, not_or, not_false_eq_true]; try omega)
            have h_130 := fr_116.at h_129 (by simp only [List.mem_cons, List.not_mem_nil, or_false, not_or, not_false_eq_true]; try omega)
            have h_131 := fr_88.at h_58 (by simp only [List.mem_cons, List.not_mem_nil, or_false, not_or, not_false_eq_true]; try omega)
            have h_132 := fr_107.at h_131 (by simp only [List.mem_cons, List.not_mem_nil, or_false, not_or, not_false_eq_true]; try omega)
            have h_133 := fr_116.at h_132 (by simp only [List.mem_cons, List.not_mem_nil, or_false, not_or, not_false_eq_true]; try omega)
            have h_134 := h_59.fr fr_88 (by simp only [List.mem_cons, List.not_mem_nil, or_false, not_or, not_false_eq_true]; try omega) (by simp only [List.mem_cons, List.not_mem_nil, or_false, not_or, not_false_eq_true]; try omega)
            have h_135 := h_134.fr fr_107 (by simp only [List.mem_cons, List.not_mem_nil, or_false, not_or, not_false_eq_true]; try omega) (by simp only [List.mem_cons, List.not_mem_nil, or_false, not_or, not_false_eq_true]; try omega)
            have h_136 := h_135.fr fr_116 (by simp only [List.mem_cons, List.not_mem_nil, or_false, not_or, not_false_eq_true]; try omega) (by simp only [List.mem_cons, List.not_mem_nil, or_false, not_or, not_false_eq_true]; try omega)
            have h_137 := h_61.fr fr_88 (by intro u hu; simp only [List.mem_cons, List.not_mem_nil, or_false] at hu <;> omega)
            have h_138 := h_137.fr fr_107 (by intro u hu; simp only [List.mem_cons, List.not_mem_nil, or_false] at hu <;> omega)
            have h_139 := h_138.fr fr_116 (by intro u hu; simp only [List.mem_cons, List.not_mem_nil, or_false] at hu <;> omega)
            exact G_iretX hC hQ (by omega) (by omega) d_Po_expand_99 ⟨by rw [if_pos (by rw [hex]; rfl)], ⟨_, _, _, _, _, _, _, _, _, _, h_119, h_117, h_120, h_124, h_126, h_127, h_130, h_133, h_136, h_60, h_139, h_62⟩, (((fr_88.up (T := ([] ++ List.range 500)) (by intro u hu; simp only [List.mem_append, mem_lvT, List.mem_range, List.mem_cons, List.not_mem_nil, or_false, false_or] at hu ⊢ <;> omega)).tr' (T := ([] ++ List.range 500)) fr_107 (fun _ z => z) (by intro u hu; simp only [List.mem_append, mem_lvT, List.mem_range, List.mem_cons, List.not_mem_nil, or_false, false_or] at hu ⊢ <;> omega)).tr' (T := ([] ++ List.range 500)) fr_116 (fun _ z => z) (by intro u hu; simp only [List.mem_append, mem_lvT, List.mem_range, List.mem_cons, List.not_mem_nil, or_false, false_or] at hu ⊢ <;> omega))⟩

set_option maxHeartbeats 4000000 in
set_option maxRecDepth 100000 in
theorem c_Ch_begin {l : Launch} {D : Dg} {b0 : Nat} {M : Mp} {a : Nat} {di : Nat} {se : Nat} {ma : Nat} {lv : Nat} {tg : Nat} {cn : Int} {vo : Int} {f : Nat → Option Nat} {sd : Snd} (h_obj_a : M a = some (19, .inr (cCh, [.ref di, .ref se, .ref ma, .ref lv, .ref tg, vI cn, vI vo]))) (h_Se_se : IsSe D M se (some sd)) (h_arR_lv : M lv = some (20, arR D 3 11 f)) (h_LvA_f : LvA D M f 0) : Ok l D b0 5 y_Ch_begin b_Ch_begin 2 none M [.ref a] 0 0 (fun r M' => ∃ L9 : Nat, ∃ nm9 : Nat, ∃ te9 : Nat, ∃ rf9 : Int, ∃ rt9 : Int, ∃ k9 : Int, ∃ s9 : Int, ∃ n9 : Int, ∃ w9 : Int32, ∃ f9 : Int, ∃ o9 : Int, r = none ∧ M' a = some (19, .inr (cCh, [.ref di, .ref se, .ref ma, .ref lv, .ref tg, vI 0, vI 0])) ∧ M' L9 = some (100 + 4 * 0, .inr (cLe, [.ref nm9, .ref te9, vI rf9, vI rt9])) ∧ IsB D M' nm9 (100 + 4 * 0 + 1) 61 (61, sd.2.1) ∧ M' te9 = some (100 + 4 * 0 + 3, .inr (cTe, [vI k9, vI s9, vI n9, .int w9, vI f9, vI o9])) ∧ LvA D M' f (0 + 1) ∧ (f 0 = some L9) ∧ Fr [19, 100 + 4 * 0 + 1, 100 + 4 * 0 + 2] M M') := by
  refine Ok_of rfl (Nat.le_of_ble_eq_true rfl) (fun E hC hQ hl hD hB hN hR => ?_)
  subst hl hD hB
  have hsn := h_Se_se.snd
  obtain ⟨L0, X0, hL0, nm0, te0, rf0, rt0, k0, s0, n0, w0, f0, o0, hv1, hv2, hv3⟩ := id (h_LvA_f 0 (Nat.le_refl _) (by omega))
  have hlv1 := LvA_up h_LvA_f (show 0 ≤ 0 + 1 by omega)
  show G E M 0 0 [(0, .ref a)] [] 0
  refine G_aload_n hC 0 rfl rfl d_Ch_begin_0 ?_
  refine G_iconst (i := 0) hC d_Ch_begin_1 ?_
  refine G_putX (fs' := [.ref di, .ref se, .ref ma, .ref lv, .ref tg, vI 0, vI vo]) hC fl_Ch_39 ft_Ch fw_Ch_5 h_obj_a rfl rfl (Nat.le_of_ble_eq_true rfl) rfl d_Ch_begin_2 (fun M_1 h_2 fr_3 => ?_)
  refine G_aload_n hC 0 rfl rfl d_Ch_begin_5 ?_
  refine G_iconst (i := 0) hC d_Ch_begin_6 ?_
  refine G_putX (fs' := [.ref di, .ref se, .ref ma, .ref lv, .ref tg, vI 0, vI 0]) hC fl_Ch_43 ft_Ch fw_Ch_6 h_2 rfl rfl (Nat.le_of_ble_eq_true rfl) rfl d_Ch_begin_7 (fun M_4 h_5 fr_6 => ?_)
  refine G_aload_n hC 0 rfl rfl d_Ch_begin_10 ?_
  refine G_get hC fl_Ch_25 h_5 rfl d_Ch_begin_11 ?_
  refine G_iconst (i := 0) hC d_Ch_begin_14 ?_
  have h_7 := fr_3.at h_arR_lv (by decide)
  have h_8 := fr_6.at h_7 (by decide)
  refine G_aald hC h_8 rfl (by omega) (by omega) (by rw [show (0 : Int).toNat = 0 by omega, hL0]) d_Ch_begin_15 ?_
  have h_9 := fr_3.at hv1 (by simp only [List.mem_cons, List.not_mem_nil, or_false, not_or, not_false_eq_true]; try omega)
  have h_10 := fr_6.at h_9 (by simp only [List.mem_cons, List.not_mem_nil, or_false, not_or, not_false_eq_true]; try omega)
  refine G_get hC fl_Ch_46 h_10 rfl d_Ch_begin_16 ?_
  refine G_astore_n (lv' := [(1, .ref nm0), (0, .ref a)]) hC rfl (by rw [hN]; decide) rfl d_Ch_begin_19 ?_
  refine G_aload_n hC 0 rfl rfl d_Ch_begin_20 ?_
  refine G_iconst (i := 0) hC d_Ch_begin_21 ?_
  have h_11 := hv2.fr fr_3 (by simp only [List.mem_cons, List.not_mem_nil, or_false, not_or, not_false_eq_true]; try omega) (by simp only [List.mem_cons, List.not_mem_nil, or_false, not_or, not_false_eq_true]; try omega)
  have h_12 := h_11.fr fr_6 (by simp only [List.mem_cons, List.not_mem_nil, or_false, not_or, not_false_eq_true]; try omega) (by simp only [List.mem_cons, List.not_mem_nil, or_false, not_or, not_false_eq_true]; try omega)
  refine G_xV (rest := []) hC hR (c_By_cut h_12 (by omega)) cv_Ch_49 h_12.obj (by decide) (by omega) (by omega) rfl rfl (Nat.le_of_ble_eq_true rfl) d_Ch_begin_22 (fun r_15 M_13 p_14 => ?_)
  obtain ⟨rfl, h_16, fr_17⟩ := p_14
  show G E M_13 (0 + 0) (0 + 0) [(1, .ref nm0), (0, .ref a)] [] 25
  have h_18 : IsB (eD E) M_13 nm0 (100 + 4 * 0 + 1) 61 ((61 : Nat), ([] : List Int)) := by have e9 := cut0 ((61 : Nat), X0); rw [e9] at h_16; exact h_16
  refine G_aload_n hC 0 rfl rfl d_Ch_begin_25 ?_
  refine G_aload_n hC 1 rfl rfl d_Ch_begin_26 ?_
  have h_19 := fr_17.at h_5 (by simp only [List.mem_cons, List.not_mem_nil, or_false, not_or, not_false_eq_true]; try omega)
  refine G_get hC fl_Ch_15 h_19 rfl d_Ch_begin_27 ?_
  have h_20 := h_Se_se.fr fr_3 (by intro u hu; simp only [List.mem_cons, List.not_mem_nil, or_false] at hu <;> omega)
  have h_21 := h_20.fr fr_6 (by intro u hu; simp only [List.mem_cons, List.not_mem_nil, or_false] at hu <;> omega)
  have h_22 := h_21.fr fr_17 (by intro u hu; simp only [List.mem_cons, List.not_mem_nil, or_false] at hu <;> omega)
  refine G_xV (rest := [.ref nm0]) hC hR (c_Se_domain h_22) cv_Ch_52 h_22.obj (by decide) (by omega) (by omega) rfl rfl (Nat.le_of_ble_eq_true rfl) d_Ch_begin_30 (fun r_25 M_23 p_24 => ?_)
  obtain ⟨q_26, bq_27, rfl, h_28, h_29, rfl⟩ := p_24
  show G E M_13 (0 + 0 + 0) (0 + 0 + 0) [(1, .ref nm0), (0, .ref a)] [.ref q_26, .ref nm0] 33
  refine G_iconst (i := 0) hC d_Ch_begin_33 ?_
  refine G_aload_n hC 1 rfl rfl d_Ch_begin_34 ?_
  refine G_get hC fl_Ch_15 h_19 rfl d_Ch_begin_35 ?_
  refine G_xV (rest := [vI 0, .ref q_26, .ref nm0]) hC hR (c_Se_domain h_22) cv_Ch_52 h_22.obj (by decide) (by omega) (by omega) rfl rfl (Nat.le_of_ble_eq_true rfl) d_Ch_begin_38 (fun r_32 M_30 p_31 => ?_)
  obtain ⟨q_33, bq_34, rfl, h_35, h_36, rfl⟩ := p_31
  show G E M_13 (0 + 0 + 0 + 0) (0 + 0 + 0 + 0) [(1, .ref nm0), (0, .ref a)] [.ref q_33, vI 0, .ref q_26, .ref nm0] 41
  refine G_pV (rest := [vI 0, .ref q_26, .ref nm0]) hC hR (c_By_size h_35) cv_Ch_58 h_35.obj (by decide) (by omega) (by omega) rfl rfl (Nat.le_of_ble_eq_true rfl) d_Ch_begin_41 ?_
  have g_37 := h_35.len
  have htg : addPB 61 ((61 : Nat), ([] : List Int)) bq_27.2 0 ((bq_34.2.length : Int)) = (61, sd.2.1) := by rw [h_29, h_36]; exact part_row (by omega)
  have hpz : psi 61 (addPB 61 ((61 : Nat), ([] : List Int)) bq_27.2 0 ((bq_34.2.length : Int))) = psi 61 ((61 : Nat), ([] : List Int)) := by rw [htg]; rfl
  have hl1 : bq_27.2.length ≤ 60 := by rw [h_29]; omega
  refine G_xV (rest := []) hC hR (c_By_addPart h_18 h_28 (by omega) (by omega) (by omega)) cv_Ch_62 h_18.obj (by decide) (by omega) (by omega) rfl rfl (Nat.le_of_ble_eq_true rfl) d_Ch_begin_44 (fun r_40 M_38 p_39 => ?_)
  obtain ⟨rfl, h_41, fr_42⟩ := p_39
  show G E M_38 (0 + 0 + 0 + 0 + (psi 61 (addPB 61 ((61 : Nat), ([] : List Int)) bq_27.2 0 (bq_34.2.length : Int)) - psi 61 ((61 : Nat), ([] : List Int)))) (0 + 0 + 0 + 0 + (psi 61 (addPB 61 ((61 : Nat), ([] : List Int)) bq_27.2 0 (bq_34.2.length : Int)) - psi 61 ((61 : Nat), ([] : List Int)))) [(1, .ref nm0), (0, .ref a)] [] 47
  have g_43 := psi_addPB (lim := 61) (b := ((61 : Nat), ([] : List Int))) bq_27.2 0 (bq_34.2.length : Int) ⟨h_18.len.1, h_18.len.2.1⟩
  have h_44 := fr_42.at h_19 (by simp only [List.mem_cons, List.not_mem_nil, or_false, not_or, not_false_eq_true]; try omega)
  have h_45 := fr_17.at h_10 (by simp only [List.mem_cons, List.not_mem_nil, or_false, not_or, not_false_eq_true]; try omega)
  have h_46 := fr_42.at h_45 (by simp only [List.mem_cons, List.not_mem_nil, or_false, not_or, not_false_eq_true]; try omega)
  have h_47 := fr_3.at hv3 (by simp only [List.mem_cons, List.not_mem_nil, or_false, not_or, not_false_eq_true]; try omega)
  have h_48 := fr_6.at h_47 (by simp only [List.mem_cons, List.not_mem_nil, or_false, not_or, not_false_eq_true]; try omega)
  have h_49 := fr_17.at h_48 (by simp only [List.mem_cons, List.not_mem_nil, or_false, not_or, not_false_eq_true]; try omega)
  have h_50 := fr_42.at h_49 (by simp only [List.mem_cons, List.not_mem_nil, or_false, not_or, not_false_eq_true]; try omega)
  have h_51 := hlv1.fr fr_3 (by intro u hu; simp only [List.mem_cons, List.not_mem_nil, or_false] at hu <;> omega)
  have h_52 := h_51.fr fr_6 (by intro u hu; simp only [List.mem_cons, List.not_mem_nil, or_false] at hu <;> omega)
  have h_53 := h_52.fr fr_17 (by intro u hu; simp only [List.mem_cons, List.not_mem_nil, or_false] at hu <;> omega)
  have h_54 := h_53.fr fr_42 (by intro u hu; simp only [List.mem_cons, List.not_mem_nil, or_false] at hu <;> omega)
  exact G_return hC hQ (by omega) (by omega) d_Ch_begin_47 ⟨L0, nm0, te0, _, _, _, _, _, _, _, _, rfl, h_44, h_46, by rw [← htg]; exact h_41, h_50, h_54, hL0, ((((fr_3.up (T := [19, 100 + 4 * 0 + 1, 100 + 4 * 0 + 2]) (by simp)).tr' (T := [19, 100 + 4 * 0 + 1, 100 + 4 * 0 + 2]) fr_6 (fun _ z => z) (by simp)).tr' (T := [19, 100 + 4 * 0 + 1, 100 + 4 * 0 + 2]) fr_17 (fun _ z => z) (by simp)).tr' (T := [19, 100 + 4 * 0 + 1, 100 + 4 * 0 + 2]) fr_42 (fun _ z => z) (by simp))⟩

set_option maxHeartbeats 4000000 in
set_option maxRecDepth 100000 in
theorem c_Po_permission {l : Launch} {D : Dg} {b0 : Nat} {M : Mp} {a : Nat} {tb : Bv} {ob : Bv} {es : List Ent} {so : Option Snd} {cn : Int} {vo : Int} (h_Po_a : IsPo D M a tb ob es so cn vo) : Ok l D b0 57 y_Po_permission b_Po_permission 1 (some .int) M [.ref a] 0 0 (fun r M' => r = some (vI ((perR es so cn vo).1)) ∧ IsPo D M' a tb ob es so ((perR es so cn vo).2.1) ((perR es so cn vo).2.2) ∧ Fr ([] ++ List.range 500) M M') := by
  rcases so with _ | sd
  · refine Ok_of rfl (Nat.le_of_ble_eq_true rfl) (fun E hC hQ hl hD hB hN hR => ?_)
    subst hl hD hB
    obtain ⟨tp_1, op_2, di_3, se_4, ma_5, ch_6, lv_7, tg_8, f_9, bt_10, h_11, h_12, h_13, h_14, h_15, h_16, h_17, h_18, h_19, h_20, h_21, h_22⟩ := id h_Po_a
    have hT9 := h_12.len
    have hO9 := h_13.len
    have hE9 := h_14.len
    show G E M 0 0 [(0, .ref a)] [] 0
    refine G_aload_n hC 0 rfl rfl d_Po_permission_0 ?_
    refine G_get hC fl_Po_31 h_11 rfl d_Po_permission_1 ?_
    refine G_pV (rest := []) hC hR (c_Se_isKnown h_15) cv_Po_74 h_15.obj (by decide) (by omega) (by omega) rfl rfl (Nat.le_of_ble_eq_true rfl) d_Po_permission_4 ?_
    refine G_if_ne hC 12 (by have := b2i_rng ((none : Option Snd).isSome); omega) (by decide) d_Po_permission_7 (fun c_23 => ?_) (fun c_23 => ?_)
    · have c_23 := b2i_ne0.mp c_23
      exact absurd c_23 (by simp)
    · have c_23 := b2i_eq0.mp c_23
      refine G_iconst (i := (-1)) hC d_Po_permission_10 ?_
      exact G_iretX hC hQ (by omega) (by omega) d_Po_permission_11 ⟨rfl, ⟨_, _, _, _, _, _, _, _, _, _, h_11, h_12, h_13, h_14, h_15, h_16, h_17, h_18, h_19, h_20, h_21, h_22⟩, Fr.rf⟩
  · refine Ok_of rfl (Nat.le_of_ble_eq_true rfl) (fun E hC hQ hl hD hB hN hR => ?_)
    subst hl hD hB
    obtain ⟨tp_24, op_25, di_26, se_27, ma_28, ch_29, lv_30, tg_31, f_32, bt_33, h_34, h_35, h_36, h_37, h_38, h_39, h_40, h_41, h_42, h_43, h_44, h_45⟩ := id h_Po_a
    have hT9 := h_35.len
    have hO9 := h_36.len
    have hE9 := h_37.len
    have hsn := h_38.snd
    show G E M 0 0 [(0, .ref a)] [] 0
    refine G_aload_n hC 0 rfl rfl d_Po_permission_0 ?_
    refine G_get hC fl_Po_31 h_34 rfl d_Po_permission_1 ?_
    refine G_pV (rest := []) hC hR (c_Se_isKnown h_38) cv_Po_74 h_38.obj (by decide) (by omega) (by omega) rfl rfl (Nat.le_of_ble_eq_true rfl) d_Po_permission_4 ?_
    refine G_if_ne hC 12 (by have := b2i_rng ((some sd).isSome); omega) (by decide) d_Po_permission_7 (fun c_46 => ?_) (fun c_46 => ?_)
    · have c_46 := b2i_ne0.mp c_46
      refine G_aload_n hC 0 rfl rfl d_Po_permission_12 ?_
      refine G_get hC fl_Po_49 h_34 rfl d_Po_permission_13 ?_
      refine G_xV (rest := []) hC hR (c_Ch_begin h_40 h_38 h_41 h_44) cv_Po_78 ⟨_, _, h_40⟩ (by decide) (by omega) (by omega) rfl rfl (Nat.le_of_ble_eq_true rfl) d_Po_permission_16 (fun r_49 M_47 p_48 => ?_)
      obtain ⟨L9_50, nm9_51, te9_52, rf9_53, rt9_54, k9_55, s9_56, n9_57, w9_58, f9_59, o9_60, rfl, h_61, h_62, h_63, h_64, h_65, h_66, fr_67⟩ := p_48
      show G E M_47 (0 + 0) (0 + 0) [(0, .ref a)] [] 19
      refine G_aload_n hC 0 rfl rfl d_Po_permission_19 ?_
      have h_68 := fr_67.at h_34 (by simp only [List.mem_cons, List.not_mem_nil, or_false, not_or, not_false_eq_true]; try omega)
      refine G_get hC fl_Po_49 h_68 rfl d_Po_permission_20 ?_
      refine G_iconst (i := 0) hC d_Po_permission_23 ?_
      have hcv := chkS_cv es sd 11 sd.2.1 0 0 (by omega)
      unfold cvP at hcv
      have h_69 := h_37.fr fr_67 (by intro u hu; simp only [List.mem_cons, List.not_mem_nil, or_false] at hu <;> omega)
      have h_70 := h_38.fr fr_67 (by intro u hu; simp only [List.mem_cons, List.not_mem_nil, or_false] at hu <;> omega)
      have h_71 := h_39.fr fr_67 (by simp only [List.mem_cons, List.not_mem_nil, or_false, not_or, not_false_eq_true]; try omega) (by simp only [List.mem_cons, List.not_mem_nil, or_false, not_or, not_false_eq_true]; try omega)
      have h_72 := fr_67.at h_41 (by simp only [List.mem_cons, List.not_mem_nil, or_false, not_or, not_false_eq_true]; try omega)
      have h_73 := h_42.fr fr_67 (by simp only [List.mem_cons, List.not_mem_nil, or_false, not_or, not_false_eq_true]; try omega) (by simp only [List.mem_cons, List.not_mem_nil, or_false, not_or, not_false_eq_true]; try omega)
      refine G_xV (rest := []) hC hR (chk_all (l := eL E) (D := eD E) (b0 := eB E) 11 0 rfl (by omega) h_61 h_69 h_70 h_71 h_72 h_73 h_65 h_62 h_63 h_64 h_66 h_43 (by omega) (by omega) (by omega) rfl) cv_Po_81 ⟨_, _, h_61⟩ (by omega) (by omega) (by omega) rfl rfl (Nat.le_of_ble_eq_true rfl) d_Po_permission_24 (fun r_76 M_74 p_75 => ?_)
      obtain ⟨bt9_77, rf9_78, rt9_79, k9_80, s9_81, n9_82, w9_83, f9_84, o9_85, rfl, h_86, h_87, h_88, h_89, h_90, h_91, h_92, fr_93⟩ := p_75
      show G E M_74 (0 + 0 + 0) (0 + 0 + 0) [(0, .ref a)] [vI ((chkS es sd (11 - 0) sd.2.1 0 0).1)] 27
      have h_94 := h_63.fr fr_93 (by simp only [List.mem_append, mem_lvT, List.mem_range, List.mem_cons, List.not_mem_nil, or_false, false_or]; omega) (by simp only [List.mem_append, mem_lvT, List.mem_range, List.mem_cons, List.not_mem_nil, or_false, false_or]; omega)
      have hlv9 := LvA_cons h_66 ⟨_, _, _, _, _, _, _, _, _, _, h_89, h_94, h_90⟩ h_91
      have h_95 := fr_93.at h_68 (by simp only [List.mem_append, mem_lvT, List.mem_range, List.mem_cons, List.not_mem_nil, or_false, false_or]; omega)
      have h_96 := h_35.fr fr_67 (by simp only [List.mem_cons, List.not_mem_nil, or_false, not_or, not_false_eq_true]; try omega) (by simp only [List.mem_cons, List.not_mem_nil, or_false, not_or, not_false_eq_true]; try omega)
      have h_97 := h_96.fr fr_93 (by simp only [List.mem_append, mem_lvT, List.mem_range, List.mem_cons, List.not_mem_nil, or_false, false_or]; omega) (by simp only [List.mem_append, mem_lvT, List.mem_range, List.mem_cons, List.not_mem_nil, or_false, false_or]; omega)
      have h_98 := h_36.fr fr_67 (by simp only [List.mem_cons, List.not_mem_nil, or_false, not_or, not_false_eq_true]; try omega) (by simp only [List.mem_cons, List.not_mem_nil, or_false, not_or, not_false_eq_true]; try omega)
      have h_99 := h_98.fr fr_93 (by simp only [List.mem_append, mem_lvT, List.mem_range, List.mem_cons, List.not_mem_nil, or_false, false_or]; omega) (by simp only [List.mem_append, mem_lvT, List.mem_range, List.mem_cons, List.not_mem_nil, or_false, false_or]; omega)
      have h_100 := h_69.fr fr_93 (by intro u hu; simp only [List.mem_append, mem_lvT, List.mem_range, List.mem_cons, List.not_mem_nil, or_false, false_or] at hu; omega)
      have h_101 := h_70.fr fr_93 (by intro u hu; simp only [List.mem_append, mem_lvT, List.mem_range, List.mem_cons, List.not_mem_nil, or_false, false_or] at hu; omega)
      have h_102 := fr_93.at h_72 (by simp only [List.mem_append, mem_lvT, List.mem_range, List.mem_cons, List.not_mem_nil, or_false, false_or]; omega)
      exact G_iretX hC hQ (by omega) (by omega) d_Po_permission_27 ⟨rfl, ⟨_, _, _, _, _, _, _, _, _, _, h_95, h_97, h_99, h_100, h_101, h_88, h_86, h_102, h_87, h_92, hlv9, ⟨hcv.2.1.1, hcv.2.1.2, hcv.2.2.1⟩⟩, ((fr_67.up (T := ([] ++ List.range 500)) (by intro u hu; simp only [List.mem_append, mem_lvT, List.mem_range, List.mem_cons, List.not_mem_nil, or_false, false_or] at hu ⊢ <;> omega)).tr' (T := ([] ++ List.range 500)) fr_93 (fun _ z => z) (by intro u hu; simp only [List.mem_append, mem_lvT, List.mem_range, List.mem_cons, List.not_mem_nil, or_false, false_or] at hu ⊢ <;> omega))⟩
    · have c_46 := b2i_eq0.mp c_46
      exact absurd c_46 (by simp)
