set_option maxHeartbeats 4000000 in
set_option maxRecDepth 100000 in
theorem c_By_addPartE {l : Launch} {D : Dg} {b0 : Nat} {M : Mp} {a : Nat} {o : Nat} {fr : Int} {to : Int} {t : Nat} {lim : Int} {b : Bv} {t2 : Nat} {lim2 : Int} {b2 : Bv} (h_B_a : IsB D M a t lim b) (h_B_o : IsB D M o t2 lim2 b2) (hfr : -100000 ≤ fr ∧ fr ≤ 100000) (hto : -100000 ≤ to ∧ to ≤ 100000) (htt : t2 ≠ t ∧ t2 ≠ t + 1 ∧ t2 + 1 ≠ t ∧ t2 + 1 ≠ t + 1) : Ok l D b0 3 y_By_addPart b_By_addPart 5 none M [.ref a, .ref o, vI fr, vI to] 1 (psi lim (addPB lim b b2.2 fr to) - psi lim b) (fun r M' => r = none ∧ IsB D M' a t lim (addPB lim b b2.2 fr to) ∧ Fr [t, t + 1] M M') := by
  refine Ok_of rfl (Nat.le_of_ble_eq_true rfl) (fun E hC hQ hl hD hB hN hR => ?_)
  subst hl hD hB
  have g_6 := h_B_a.len
  obtain ⟨r_1, h_2, h_3, h_4, h_5⟩ := id h_B_a
  have g_12 := h_B_o.len
  obtain ⟨r_7, h_8, h_9, h_10, h_11⟩ := id h_B_o
  show G E M 0 0 [(0, .ref a), (1, .ref o), (2, vI fr), (3, vI to)] [] 0
  refine G_iload_n hC 2 rfl rfl d_By_addPart_0 ?_
  refine G_if_lt hC 17 (by omega) (by decide) d_By_addPart_1 (fun c_13 => ?_) (fun c_13 => ?_)
  · exact G_return hC hQ (by omega) (by omega) d_By_addPart_17 ⟨rfl, by rw [addPB_none (by omega)]; exact h_B_a, Fr.rf⟩
  · refine G_iload_n hC 2 rfl rfl d_By_addPart_4 ?_
    refine G_iload_n hC 3 rfl rfl d_By_addPart_5 ?_
    refine G_icmp_ge hC 17 (by omega) (by omega) (by decide) d_By_addPart_6 (fun c_14 => ?_) (fun c_14 => ?_)
    · exact G_return hC hQ (by omega) (by omega) d_By_addPart_17 ⟨rfl, by rw [addPB_none (by omega)]; exact h_B_a, Fr.rf⟩
    · refine G_iload_n hC 3 rfl rfl d_By_addPart_9 ?_
      refine G_aload_n hC 1 rfl rfl d_By_addPart_10 ?_
      refine G_get hC fl_By_23 h_8 rfl d_By_addPart_11 ?_
      refine G_icmp_le hC 18 (by omega) (by omega) (by decide) d_By_addPart_14 (fun c_15 => ?_) (fun c_15 => ?_)
      · refine G_iload_n hC 3 rfl rfl d_By_addPart_18 ?_
        refine G_iload_n hC 2 rfl rfl d_By_addPart_19 ?_
        refine G_isub hC d_By_addPart_20 ?_
        refine G_aload_n hC 0 rfl rfl d_By_addPart_21 ?_
        refine G_get hC fl_By_7 h_2 rfl d_By_addPart_22 ?_
        refine G_aload_n hC 0 rfl rfl d_By_addPart_25 ?_
        refine G_get hC fl_By_23 h_2 rfl d_By_addPart_26 ?_
        refine G_isub hC d_By_addPart_29 ?_
        refine G_minX (c := min (to - fr) (lim - (b.2.length : Int))) hC hR lm_By_13 (by omega) (by omega) (by omega) (Nat.le_of_ble_eq_true rfl) (Nat.le_of_ble_eq_true rfl) (by omega) (by omega) d_By_addPart_30 ?_
        refine G_istore (lv' := [(4, vI (min (to - fr) (lim - (b.2.length : Int)))), (0, .ref a), (1, .ref o), (2, vI fr), (3, vI to)]) hC (by rw [hN]; decide) rfl d_By_addPart_33 ?_
        refine G_aload_n hC 1 rfl rfl d_By_addPart_35 ?_
        refine G_get hC fl_By_23 h_2 rfl d_By_addPart_36 ?_
        refine G_iload hC 0 rfl d_By_addPart_39 ?_
        refine G_iadd hC d_By_addPart_41 ?_
        refine G_aload_n hC 1 rfl rfl d_By_addPart_42 ?_
        refine G_get hC fl_By_19 h_2 rfl d_By_addPart_43 ?_
        refine G_alenR hC h_3 d_By_addPart_46 ?_
        refine G_icmp_le hC 77 (by omega) (by omega) (by decide) d_By_addPart_47 (fun c_16 => ?_) (fun c_16 => ?_)
        · refine G_aload_n hC 2 rfl rfl d_By_addPart_77 ?_
          refine G_get hC fl_By_19 h_8 rfl d_By_addPart_78 ?_
          refine G_iload_n hC 3 rfl rfl d_By_addPart_81 ?_
          refine G_aload_n hC 1 rfl rfl d_By_addPart_82 ?_
          refine G_get hC fl_By_19 h_2 rfl d_By_addPart_83 ?_
          refine G_aload_n hC 1 rfl rfl d_By_addPart_86 ?_
          refine G_get hC fl_By_23 h_2 rfl d_By_addPart_87 ?_
          refine G_iload hC 0 rfl d_By_addPart_90 ?_
          refine G_copyBA hC hR lm_By_36 w_acN w_acS w_syI h_9 h_3 (by omega) (by omega) (by omega) (Nat.le_of_ble_eq_true rfl) (Nat.le_of_ble_eq_true rfl) d_By_addPart_92 (fun M_17 h_18 fr_19 => ?_)
          refine G_aload_n hC 1 rfl rfl d_By_addPart_95 ?_
          refine G_dup hC rfl d_By_addPart_96 ?_
          have h_20 := fr_19.at h_2 (by simp only [List.mem_cons, List.not_mem_nil, or_false, not_or, not_false_eq_true]; try omega)
          refine G_get hC fl_By_23 h_20 rfl d_By_addPart_97 ?_
          refine G_iload hC 0 rfl d_By_addPart_100 ?_
          refine G_iadd hC d_By_addPart_102 ?_
          refine G_putX (fs' := [vI lim, .ref r_1, vI ((b.2.length : Int) + (min (to - fr) (lim - (b.2.length : Int))))]) hC fl_By_23 ft_By fw_By_2 h_20 rfl rfl (Nat.le_of_ble_eq_true rfl) rfl d_By_addPart_103 (fun M_21 h_22 fr_23 => ?_)
          have h_24 := h_18.fr fr_23 (by simp only [List.mem_cons, List.not_mem_nil, or_false, not_or, not_false_eq_true]; try omega)
          have e9 : (((b.2 ++ (b2.2.drop fr.toNat).take (min (to - fr) (lim - (b.2.length : Int))).toNat).length : Nat) : Int) = (b.2.length : Int) + min (to - fr) (lim - (b.2.length : Int)) := by rw [List.length_append, List.length_take, List.length_drop]; omega
          exact G_return hC hQ (by omega) (by omega) d_By_addPart_106 ⟨rfl, by rw [addPB_fits (by omega) (by omega)]; exact ⟨r_1, by show _ = some (t, Sum.inr (cBy, [vI lim, .ref r_1, vI (((b.2 ++ (b2.2.drop fr.toNat).take (min (to - fr) (lim - (b.2.length : Int))).toNat).length : Nat) : Int)])); rw [e9]; exact h_22, h_24, by omega, by omega⟩, ((fr_19.up (T := [t, t + 1]) (by simp)).tr' (T := [t, t + 1]) fr_23 (fun _ z => z) (by simp))⟩
        · refine G_aload_n hC 1 rfl rfl d_By_addPart_50 ?_
          refine G_aload_n hC 1 rfl rfl d_By_addPart_51 ?_
          refine G_get hC fl_By_19 h_2 rfl d_By_addPart_52 ?_
          refine G_aload_n hC 1 rfl rfl d_By_addPart_55 ?_
          refine G_get hC fl_By_7 h_2 rfl d_By_addPart_56 ?_
          refine G_iconst (i := 2) hC d_By_addPart_59 ?_
          refine G_aload_n hC 1 rfl rfl d_By_addPart_60 ?_
          refine G_get hC fl_By_23 h_2 rfl d_By_addPart_61 ?_
          refine G_iload hC 0 rfl d_By_addPart_64 ?_
          refine G_iadd hC d_By_addPart_66 ?_
          refine G_imul hC d_By_addPart_67 ?_
          refine G_minX (c := min lim (2 * ((b.2.length : Int) + (min (to - fr) (lim - (b.2.length : Int)))))) hC hR lm_By_13 (by omega) (by omega) (by omega) (Nat.le_of_ble_eq_true rfl) (Nat.le_of_ble_eq_true rfl) (by omega) (by omega) d_By_addPart_68 ?_
          have h9 := grow_part (lim := lim) (b := b) b2.2 fr to ⟨by omega, by omega⟩ (by omega) (by omega)
          refine G_xS (rest := [.ref a]) hC hR (c_Arr_copyOf (t + 1) h_3 (by omega)) cs_By_26 (by decide) (by omega) (by omega) rfl rfl (Nat.le_of_ble_eq_true rfl) d_By_addPart_71 (fun r_27 M_25 p_26 => ?_)
          obtain ⟨q_28, rfl, h_29, fr_30⟩ := p_26
          show G E M_25 (0 + (1)) (0 + ((min lim (2 * ((b.2.length : Int) + (min (to - fr) (lim - (b.2.length : Int)))))).toNat)) [(4, vI (min (to - fr) (lim - (b.2.length : Int)))), (0, .ref a), (1, .ref o), (2, vI fr), (3, vI to)] [.ref q_28, .ref a] 74
          have h_31 := fr_30.at h_2 (by simp only [List.mem_cons, List.not_mem_nil, or_false, not_or, not_false_eq_true]; try omega)
          refine G_putX (fs' := [vI lim, .ref q_28, vI (b.2.length : Int)]) hC fl_By_19 ft_By fw_By_1 h_31 rfl rfl (Nat.le_of_ble_eq_true rfl) rfl d_By_addPart_74 (fun M_32 h_33 fr_34 => ?_)
          refine G_aload_n hC 2 rfl rfl d_By_addPart_77 ?_
          have h_35 := fr_30.at h_8 (by simp only [List.mem_cons, List.not_mem_nil, or_false, not_or, not_false_eq_true]; try omega)
          have h_36 := fr_34.at h_35 (by simp only [List.mem_cons, List.not_mem_nil, or_false, not_or, not_false_eq_true]; try omega)
          refine G_get hC fl_By_19 h_36 rfl d_By_addPart_78 ?_
          refine G_iload_n hC 3 rfl rfl d_By_addPart_81 ?_
          refine G_aload_n hC 1 rfl rfl d_By_addPart_82 ?_
          refine G_get hC fl_By_19 h_33 rfl d_By_addPart_83 ?_
          refine G_aload_n hC 1 rfl rfl d_By_addPart_86 ?_
          refine G_get hC fl_By_23 h_33 rfl d_By_addPart_87 ?_
          refine G_iload hC 0 rfl d_By_addPart_90 ?_
          have h_37 := h_9.fr fr_30 (by simp only [List.mem_cons, List.not_mem_nil, or_false, not_or, not_false_eq_true]; try omega)
          have h_38 := h_37.fr fr_34 (by simp only [List.mem_cons, List.not_mem_nil, or_false, not_or, not_false_eq_true]; try omega)
          have h_39 := h_29.fr fr_34 (by simp only [List.mem_cons, List.not_mem_nil, or_false, not_or, not_false_eq_true]; try omega)
          refine G_copyBA hC hR lm_By_36 w_acN w_acS w_syI h_38 h_39 (by omega) (by omega) (by omega) (Nat.le_of_ble_eq_true rfl) (Nat.le_of_ble_eq_true rfl) d_By_addPart_92 (fun M_40 h_41 fr_42 => ?_)
          refine G_aload_n hC 1 rfl rfl d_By_addPart_95 ?_
          refine G_dup hC rfl d_By_addPart_96 ?_
          have h_43 := fr_42.at h_33 (by simp only [List.mem_cons, List.not_mem_nil, or_false, not_or, not_false_eq_true]; try omega)
          refine G_get hC fl_By_23 h_43 rfl d_By_addPart_97 ?_
          refine G_iload hC 0 rfl d_By_addPart_100 ?_
          refine G_iadd hC d_By_addPart_102 ?_
          refine G_putX (fs' := [vI lim, .ref q_28, vI ((b.2.length : Int) + (min (to - fr) (lim - (b.2.length : Int))))]) hC fl_By_23 ft_By fw_By_2 h_43 rfl rfl (Nat.le_of_ble_eq_true rfl) rfl d_By_addPart_103 (fun M_44 h_45 fr_46 => ?_)
          have h_47 := h_41.fr fr_46 (by simp only [List.mem_cons, List.not_mem_nil, or_false, not_or, not_false_eq_true]; try omega)
          have e9 : (((b.2 ++ (b2.2.drop fr.toNat).take (min (to - fr) (lim - (b.2.length : Int))).toNat).length : Nat) : Int) = (b.2.length : Int) + min (to - fr) (lim - (b.2.length : Int)) := by rw [List.length_append, List.length_take, List.length_drop]; omega
          exact G_return hC hQ (by omega) (by omega) d_By_addPart_106 ⟨rfl, by rw [addPB_grow (by omega) (by omega)]; exact ⟨q_28, by show _ = some (t, Sum.inr (cBy, [vI lim, .ref q_28, vI (((b.2 ++ (b2.2.drop fr.toNat).take (min (to - fr) (lim - (b.2.length : Int))).toNat).length : Nat) : Int)])); rw [e9]; exact h_45, h_47, by show (((min lim (2 * ((b.2.length : Int) + min (to - fr) (lim - (b.2.length : Int))))).toNat : Nat) : Int) ≤ lim; omega, by omega⟩, ((((fr_30.up (T := [t, t + 1]) (by simp)).tr' (T := [t, t + 1]) fr_34 (fun _ z => z) (by simp)).tr' (T := [t, t + 1]) fr_42 (fun _ z => z) (by simp)).tr' (T := [t, t + 1]) fr_46 (fun _ z => z) (by simp))⟩
      · exact G_return hC hQ (by omega) (by omega) d_By_addPart_17 ⟨rfl, by rw [addPB_none (by omega)]; exact h_B_a, Fr.rf⟩

set_option maxHeartbeats 4000000 in
set_option maxRecDepth 100000 in
theorem c_Di_take {l : Launch} {D : Dg} {b0 : Nat} {M : Mp} {a : Nat} {sort : Int} {ad : Int32} {o : Nat} {es : List Ent} {lim : Int} {b : Bv} (h_Dir_a : IsDir D M a es) (h_B_o : IsB D M o 2 lim b) (hs : -2147483648 ≤ sort ∧ sort ≤ 2147483647) (hl : b.2.length ≤ 800) : Ok l D b0 5 y_Di_take b_Di_take 7 (some .boolean) M [.ref a, vI sort, .int ad, .ref o] 7 2700 (fun r M' => r = some (vI (b2i (takeS es b.2 sort ad).isSome)) ∧ IsDir D M' a ((takeS es b.2 sort ad).getD es) ∧ Fr [6, 7, 200 + 5 * es.length, 200 + 5 * es.length + 1, 200 + 5 * es.length + 2, 200 + 5 * es.length + 3, 200 + 5 * es.length + 4] M M') := by
  refine Ok_of rfl (Nat.le_of_ble_eq_true rfl) (fun E hC hQ hl hD hB hN hR => ?_)
  subst hl hD hB
  have hD9 := h_Dir_a.len
  obtain ⟨ar_1, f_2, h_3, h_4, h_5, h_6⟩ := id h_Dir_a
  have hB9 := h_B_o.len
  have hbk := findS_rng b.2 32 0 (b.2.length : Int)
  show G E M 0 0 [(0, .ref a), (1, vI sort), (2, .int ad), (3, .ref o)] [] 0
  refine G_aload_n hC 3 rfl rfl d_Di_take_0 ?_
  refine G_bipush (j := 32) hC (by decide +kernel) d_Di_take_1 ?_
  refine G_iconst (i := 0) hC d_Di_take_3 ?_
  refine G_aload_n hC 3 rfl rfl d_Di_take_4 ?_
  refine G_pV (rest := [vI 0, vI 32, .ref o]) hC hR (c_By_size h_B_o) cv_Di_21 h_B_o.obj (by decide) (by omega) (by omega) rfl rfl (Nat.le_of_ble_eq_true rfl) d_Di_take_5 ?_
  have g_7 := h_B_o.len
  refine G_pV (rest := []) hC hR (c_By_find h_B_o (by omega) (by omega) (by omega) rfl) cv_Di_26 h_B_o.obj (by decide) (by omega) (by omega) rfl rfl (Nat.le_of_ble_eq_true rfl) d_Di_take_8 ?_
  have g_8 := findS_rng b.2 32 0 (b.2.length : Int)
  refine G_istore (lv' := [(4, vI (findS b.2 32 0 (b.2.length : Int))), (0, .ref a), (1, vI sort), (2, .int ad), (3, .ref o)]) hC (by rw [hN]; decide) rfl d_Di_take_11 ?_
  refine G_aload_n hC 1 rfl rfl d_Di_take_13 ?_
  refine G_get hC fl_Di_17 h_3 rfl d_Di_take_14 ?_
  refine G_aload_n hC 1 rfl rfl d_Di_take_17 ?_
  refine G_get hC fl_Di_11 h_3 rfl d_Di_take_18 ?_
  refine G_alen (q := 2) hC h_4 rfl d_Di_take_21 ?_
  refine G_icmp_ge hC 35 (by omega) (by omega) (by decide) d_Di_take_22 (fun c_9 => ?_) (fun c_9 => ?_)
  · refine G_iconst (i := 0) hC d_Di_take_35 ?_
    have hE : decide (es.length < 40) = false ∨ entS b.2 sort ad = none := by first | exact Or.inl (decide_eq_false (by omega)) | exact Or.inr (if_neg c_9)
    exact G_zretX _ hC hQ (by omega) (by omega) d_Di_take_36 (b2i_f (take_no hE).1) ⟨rfl, by rw [(take_no hE).2]; exact h_Dir_a, Fr.rf⟩
  · refine G_iload_n hC 2 rfl rfl d_Di_take_25 ?_
    refine G_aload_n hC 4 rfl rfl d_Di_take_26 ?_
    refine G_iload hC 0 rfl d_Di_take_27 ?_
    refine G_pS (rest := []) hC hR (c_Di_isGood h_B_o (by omega) (by omega)) cs_Di_30 (by decide) (by omega) (by omega) rfl rfl (Nat.le_of_ble_eq_true rfl) d_Di_take_29 ?_
    refine G_if_ne hC 37 (by have := b2i_rng (decide (goodP b.2 sort (findS b.2 32 0 (b.2.length : Int)))); omega) (by decide) d_Di_take_32 (fun c_10 => ?_) (fun c_10 => ?_)
    · have c_10 := b2i_ne0.mp c_10
      have c_10 := of_decide_eq_true c_10
      refine G_iload hC 0 rfl d_Di_take_37 ?_
      refine G_iconst (i := 1) hC d_Di_take_39 ?_
      refine G_iadd hC d_Di_take_40 ?_
      refine G_aload_n hC 4 rfl rfl d_Di_take_41 ?_
      refine G_pV (rest := [vI ((findS b.2 32 0 (b.2.length : Int)) + 1)]) hC hR (c_By_size h_B_o) cv_Di_21 h_B_o.obj (by decide) (by omega) (by omega) rfl rfl (Nat.le_of_ble_eq_true rfl) d_Di_take_42 ?_
      have g_11 := h_B_o.len
      refine G_minX (c := min ((findS b.2 32 0 (b.2.length : Int)) + 1) (b.2.length : Int)) hC hR lm_Di_34 (by omega) (by omega) (by omega) (Nat.le_of_ble_eq_true rfl) (Nat.le_of_ble_eq_true rfl) (by omega) (by omega) d_Di_take_45 ?_
      refine G_istore (lv' := [(5, vI (min ((findS b.2 32 0 (b.2.length : Int)) + 1) (b.2.length : Int))), (4, vI (findS b.2 32 0 (b.2.length : Int))), (0, .ref a), (1, vI sort), (2, .int ad), (3, .ref o)]) hC (by rw [hN]; decide) rfl d_Di_take_48 ?_
      refine G_newX (200 + 5 * es.length) [vI 0, .int 0, .null, .null] hC hR nw_Di_9 (fun j hj => by rcases (show j = 0 ∨ j = 1 ∨ j = 2 ∨ j = 3 by omega) with rfl | rfl | rfl | rfl <;> rfl) (by omega) (by omega) d_Di_take_50 (fun q_12 M_13 h_14 fr_15 => ?_)
      refine G_dup hC rfl d_Di_take_53 ?_
      refine G_iload_n hC 3 rfl rfl d_Di_take_54 ?_
      refine G_iload_n hC 4 rfl rfl d_Di_take_55 ?_
      refine G_iload hC 1 rfl d_Di_take_56 ?_
      refine G_aload_n hC 5 rfl rfl d_Di_take_58 ?_
      have h_16 := h_B_o.fr fr_15 (by decide) (by decide)
      refine G_pV (rest := [vI (findS b.2 32 0 (b.2.length : Int)), .int ad, vI sort, .ref q_12, .ref q_12]) hC hR (c_By_size h_16) cv_Di_21 h_16.obj (by decide) (by omega) (by omega) rfl rfl (Nat.le_of_ble_eq_true rfl) d_Di_take_59 ?_
      have g_17 := h_16.len
      refine G_iload hC 0 rfl d_Di_take_62 ?_
      refine G_isub hC d_Di_take_64 ?_
      refine G_xI (rest := [.ref q_12]) hC hR (c_En_init h_14 (by omega) (by omega)) ci_Di_40 (by decide) (by omega) (by omega) rfl rfl (Nat.le_of_ble_eq_true rfl) d_Di_take_65 (fun r_20 M_18 p_19 => ?_)
      obtain ⟨nm_21, vl_22, rfl, h_23, h_24, h_25, fr_26⟩ := p_19
      show G E M_18 (0 + 1 + (4)) (0 + 4 + (6 + (min (findS b.2 32 0 (b.2.length : Int)) 64 : Int).toNat + (min ((b.2.length : Int) - (min ((findS b.2 32 0 (b.2.length : Int)) + 1) (b.2.length : Int))) 64 : Int).toNat)) [(5, vI (min ((findS b.2 32 0 (b.2.length : Int)) + 1) (b.2.length : Int))), (4, vI (findS b.2 32 0 (b.2.length : Int))), (0, .ref a), (1, vI sort), (2, .int ad), (3, .ref o)] [.ref q_12] 68
      refine G_astore (lv' := [(6, .ref q_12), (5, vI (min ((findS b.2 32 0 (b.2.length : Int)) + 1) (b.2.length : Int))), (4, vI (findS b.2 32 0 (b.2.length : Int))), (0, .ref a), (1, vI sort), (2, .int ad), (3, .ref o)]) hC (by rw [hN]; decide) rfl d_Di_take_68 ?_
      refine G_aload hC 0 rfl d_Di_take_70 ?_
      refine G_get hC fl_Di_43 h_23 rfl d_Di_take_72 ?_
      refine G_aload_n hC 6 rfl rfl d_Di_take_75 ?_
      refine G_iconst (i := 0) hC d_Di_take_76 ?_
      refine G_iload hC 2 rfl d_Di_take_77 ?_
      have hz1 := psi_max (lim := (findS b.2 32 0 (b.2.length : Int))) (b := addPB (findS b.2 32 0 (b.2.length : Int)) ((min (findS b.2 32 0 (b.2.length : Int)) 64 : Int).toNat, []) b.2 0 (findS b.2 32 0 (b.2.length : Int))) (psi_addPB (lim := (findS b.2 32 0 (b.2.length : Int))) (b := ((min (findS b.2 32 0 (b.2.length : Int)) 64 : Int).toNat, [])) b.2 0 (findS b.2 32 0 (b.2.length : Int)) ⟨Nat.zero_le _, by show (((min (findS b.2 32 0 (b.2.length : Int)) 64 : Int).toNat : Nat) : Int) ≤ _; omega⟩).2.2
      have h_27 := h_16.fr fr_26 (by simp only [List.mem_cons, List.not_mem_nil, or_false, not_or, not_false_eq_true]; try omega) (by simp only [List.mem_cons, List.not_mem_nil, or_false, not_or, not_false_eq_true]; try omega)
      refine G_xV (rest := []) hC hR (c_By_addPartE h_24 h_27 (by omega) (by omega) (by omega)) cv_Di_47 h_24.obj (by decide) (by omega) (by omega) rfl rfl (Nat.le_of_ble_eq_true rfl) d_Di_take_79 (fun r_30 M_28 p_29 => ?_)
      obtain ⟨rfl, h_31, fr_32⟩ := p_29
      show G E M_28 (0 + 1 + (4) + (1)) (0 + 4 + (6 + (min (findS b.2 32 0 (b.2.length : Int)) 64 : Int).toNat + (min ((b.2.length : Int) - (min ((findS b.2 32 0 (b.2.length : Int)) + 1) (b.2.length : Int))) 64 : Int).toNat) + (psi (findS b.2 32 0 (b.2.length : Int)) (addPB (findS b.2 32 0 (b.2.length : Int)) ((min (findS b.2 32 0 (b.2.length : Int)) 64 : Int).toNat, []) b.2 0 (findS b.2 32 0 (b.2.length : Int))) - psi (findS b.2 32 0 (b.2.length : Int)) ((min (findS b.2 32 0 (b.2.length : Int)) 64 : Int).toNat, []))) [(6, .ref q_12), (5, vI (min ((findS b.2 32 0 (b.2.length : Int)) + 1) (b.2.length : Int))), (4, vI (findS b.2 32 0 (b.2.length : Int))), (0, .ref a), (1, vI sort), (2, .int ad), (3, .ref o)] [] 82
      have g_33 := psi_addPB (lim := (findS b.2 32 0 (b.2.length : Int))) (b := ((min (findS b.2 32 0 (b.2.length : Int)) 64 : Int).toNat, [])) b.2 0 (findS b.2 32 0 (b.2.length : Int)) ⟨h_24.len.1, h_24.len.2.1⟩
      refine G_aload hC 0 rfl d_Di_take_82 ?_
      have h_34 := fr_32.at h_23 (by simp only [List.mem_cons, List.not_mem_nil, or_false, not_or, not_false_eq_true]; try omega)
      refine G_get hC fl_Di_51 h_34 rfl d_Di_take_84 ?_
      refine G_aload_n hC 6 rfl rfl d_Di_take_87 ?_
      refine G_iload hC 1 rfl d_Di_take_88 ?_
      refine G_aload_n hC 6 rfl rfl d_Di_take_90 ?_
      have h_35 := h_27.fr fr_32 (by simp only [List.mem_cons, List.not_mem_nil, or_false, not_or, not_false_eq_true]; try omega) (by simp only [List.mem_cons, List.not_mem_nil, or_false, not_or, not_false_eq_true]; try omega)
      refine G_pV (rest := [vI (min ((findS b.2 32 0 (b.2.length : Int)) + 1) (b.2.length : Int)), .ref o, .ref vl_22]) hC hR (c_By_size h_35) cv_Di_21 h_35.obj (by decide) (by omega) (by omega) rfl rfl (Nat.le_of_ble_eq_true rfl) d_Di_take_91 ?_
      have g_36 := h_35.len
      have h_37 := h_25.fr fr_32 (by simp only [List.mem_cons, List.not_mem_nil, or_false, not_or, not_false_eq_true]; try omega) (by simp only [List.mem_cons, List.not_mem_nil, or_false, not_or, not_false_eq_true]; try omega)
      have hz2 := psi_max (lim := ((b.2.length : Int) - (min ((findS b.2 32 0 (b.2.length : Int)) + 1) (b.2.length : Int)))) (b := addPB ((b.2.length : Int) - (min ((findS b.2 32 0 (b.2.length : Int)) + 1) (b.2.length : Int))) ((min ((b.2.length : Int) - (min ((findS b.2 32 0 (b.2.length : Int)) + 1) (b.2.length : Int))) 64 : Int).toNat, []) b.2 (min ((findS b.2 32 0 (b.2.length : Int)) + 1) (b.2.length : Int)) (b.2.length : Int)) (psi_addPB (lim := ((b.2.length : Int) - (min ((findS b.2 32 0 (b.2.length : Int)) + 1) (b.2.length : Int)))) (b := ((min ((b.2.length : Int) - (min ((findS b.2 32 0 (b.2.length : Int)) + 1) (b.2.length : Int))) 64 : Int).toNat, [])) b.2 (min ((findS b.2 32 0 (b.2.length : Int)) + 1) (b.2.length : Int)) (b.2.length : Int) ⟨Nat.zero_le _, by show (((min ((b.2.length : Int) - (min ((findS b.2 32 0 (b.2.length : Int)) + 1) (b.2.length : Int))) 64 : Int).toNat : Nat) : Int) ≤ _; omega⟩).2.2
      refine G_xV (rest := []) hC hR (c_By_addPartE h_37 h_35 (by omega) (by omega) (by omega)) cv_Di_47 h_37.obj (by decide) (by omega) (by omega) rfl rfl (Nat.le_of_ble_eq_true rfl) d_Di_take_94 (fun r_40 M_38 p_39 => ?_)
      obtain ⟨rfl, h_41, fr_42⟩ := p_39
      show G E M_38 (0 + 1 + (4) + (1) + (1)) (0 + 4 + (6 + (min (findS b.2 32 0 (b.2.length : Int)) 64 : Int).toNat + (min ((b.2.length : Int) - (min ((findS b.2 32 0 (b.2.length : Int)) + 1) (b.2.length : Int))) 64 : Int).toNat) + (psi (findS b.2 32 0 (b.2.length : Int)) (addPB (findS b.2 32 0 (b.2.length : Int)) ((min (findS b.2 32 0 (b.2.length : Int)) 64 : Int).toNat, []) b.2 0 (findS b.2 32 0 (b.2.length : Int))) - psi (findS b.2 32 0 (b.2.length : Int)) ((min (findS b.2 32 0 (b.2.length : Int)) 64 : Int).toNat, [])) + (psi ((b.2.length : Int) - (min ((findS b.2 32 0 (b.2.length : Int)) + 1) (b.2.length : Int))) (addPB ((b.2.length : Int) - (min ((findS b.2 32 0 (b.2.length : Int)) + 1) (b.2.length : Int))) ((min ((b.2.length : Int) - (min ((findS b.2 32 0 (b.2.length : Int)) + 1) (b.2.length : Int))) 64 : Int).toNat, []) b.2 (min ((findS b.2 32 0 (b.2.length : Int)) + 1) (b.2.length : Int)) (b.2.length : Int)) - psi ((b.2.length : Int) - (min ((findS b.2 32 0 (b.2.length : Int)) + 1) (b.2.length : Int))) ((min ((b.2.length : Int) - (min ((findS b.2 32 0 (b.2.length : Int)) + 1) (b.2.length : Int))) 64 : Int).toNat, []))) [(6, .ref q_12), (5, vI (min ((findS b.2 32 0 (b.2.length : Int)) + 1) (b.2.length : Int))), (4, vI (findS b.2 32 0 (b.2.length : Int))), (0, .ref a), (1, vI sort), (2, .int ad), (3, .ref o)] [] 97
      have g_43 := psi_addPB (lim := ((b.2.length : Int) - (min ((findS b.2 32 0 (b.2.length : Int)) + 1) (b.2.length : Int)))) (b := ((min ((b.2.length : Int) - (min ((findS b.2 32 0 (b.2.length : Int)) + 1) (b.2.length : Int))) 64 : Int).toNat, [])) b.2 (min ((findS b.2 32 0 (b.2.length : Int)) + 1) (b.2.length : Int)) (b.2.length : Int) ⟨h_37.len.1, h_37.len.2.1⟩
      refine G_aload_n hC 3 rfl rfl d_Di_take_97 ?_
      have h_44 := fr_15.at h_3 (by decide)
      have h_45 := fr_26.at h_44 (by simp only [List.mem_cons, List.not_mem_nil, or_false, not_or, not_false_eq_true]; try omega)
      have h_46 := fr_32.at h_45 (by simp only [List.mem_cons, List.not_mem_nil, or_false, not_or, not_false_eq_true]; try omega)
      have h_47 := fr_42.at h_46 (by simp only [List.mem_cons, List.not_mem_nil, or_false, not_or, not_false_eq_true]; try omega)
      refine G_get hC fl_Di_11 h_47 rfl d_Di_take_98 ?_
      refine G_aload_n hC 3 rfl rfl d_Di_take_101 ?_
      refine G_get hC fl_Di_17 h_47 rfl d_Di_take_102 ?_
      refine G_aload hC 0 rfl d_Di_take_105 ?_
      have h_48 := fr_15.at h_4 (by decide)
      have h_49 := fr_26.at h_48 (by simp only [List.mem_cons, List.not_mem_nil, or_false, not_or, not_false_eq_true]; try omega)
      have h_50 := fr_32.at h_49 (by simp only [List.mem_cons, List.not_mem_nil, or_false, not_or, not_false_eq_true]; try omega)
      have h_51 := fr_42.at h_50 (by simp only [List.mem_cons, List.not_mem_nil, or_false, not_or, not_false_eq_true]; try omega)
      have h_52 := fr_42.at h_34 (by simp only [List.mem_cons, List.not_mem_nil, or_false, not_or, not_false_eq_true]; try omega)
      refine G_aastX hC h_51 rfl rfl h_52 (by omega) (by omega) d_Di_take_107 (fun M_53 h_54 fr_55 => ?_)
      refine G_aload_n hC 3 rfl rfl d_Di_take_108 ?_
      refine G_dup hC rfl d_Di_take_109 ?_
      have h_56 := fr_55.at h_47 (by decide)
      refine G_get hC fl_Di_17 h_56 rfl d_Di_take_110 ?_
      refine G_iconst (i := 1) hC d_Di_take_113 ?_
      refine G_iadd hC d_Di_take_114 ?_
      refine G_putX (fs' := [.ref ar_1, vI ((es.length : Int) + 1)]) hC fl_Di_17 ft_Di fw_Di_1 h_56 rfl rfl (Nat.le_of_ble_eq_true rfl) rfl d_Di_take_115 (fun M_57 h_58 fr_59 => ?_)
      refine G_iconst (i := 1) hC d_Di_take_118 ?_
      have hE : entS b.2 sort ad = some (sort, ad, b.2.take (blkS b.2).toNat, b.2.drop (min (blkS b.2 + 1) b.2.length).toNat) := if_pos c_10
      have hlt : es.length < 40 := by omega
      have h_60 := fr_59.at h_54 (by decide)
      have h_61 := fr_55.at h_52 (by simp only [List.mem_cons, List.not_mem_nil, or_false, not_or, not_false_eq_true]; try omega)
      have h_62 := fr_59.at h_61 (by simp only [List.mem_cons, List.not_mem_nil, or_false, not_or, not_false_eq_true]; try omega)
      have h_63 := h_31.fr fr_42 (by simp only [List.mem_cons, List.not_mem_nil, or_false, not_or, not_false_eq_true]; try omega) (by simp only [List.mem_cons, List.not_mem_nil, or_false, not_or, not_false_eq_true]; try omega)
      have h_64 := h_63.fr fr_55 (by simp only [List.mem_cons, List.not_mem_nil, or_false, not_or, not_false_eq_true]; try omega) (by simp only [List.mem_cons, List.not_mem_nil, or_false, not_or, not_false_eq_true]; try omega)
      have h_65 := h_64.fr fr_59 (by simp only [List.mem_cons, List.not_mem_nil, or_false, not_or, not_false_eq_true]; try omega) (by simp only [List.mem_cons, List.not_mem_nil, or_false, not_or, not_false_eq_true]; try omega)
      have h_66 := h_41.fr fr_55 (by simp only [List.mem_cons, List.not_mem_nil, or_false, not_or, not_false_eq_true]; try omega) (by simp only [List.mem_cons, List.not_mem_nil, or_false, not_or, not_false_eq_true]; try omega)
      have h_67 := h_66.fr fr_59 (by simp only [List.mem_cons, List.not_mem_nil, or_false, not_or, not_false_eq_true]; try omega) (by simp only [List.mem_cons, List.not_mem_nil, or_false, not_or, not_false_eq_true]; try omega)
      have hF : Fr [6, 7, 200 + 5 * es.length, 200 + 5 * es.length + 1, 200 + 5 * es.length + 2, 200 + 5 * es.length + 3, 200 + 5 * es.length + 4] M M_57 := ((((((fr_15.up (T := [6, 7, 200 + 5 * es.length, 200 + 5 * es.length + 1, 200 + 5 * es.length + 2, 200 + 5 * es.length + 3, 200 + 5 * es.length + 4]) (by simp)).tr' (T := [6, 7, 200 + 5 * es.length, 200 + 5 * es.length + 1, 200 + 5 * es.length + 2, 200 + 5 * es.length + 3, 200 + 5 * es.length + 4]) fr_26 (fun _ z => z) (by simp)).tr' (T := [6, 7, 200 + 5 * es.length, 200 + 5 * es.length + 1, 200 + 5 * es.length + 2, 200 + 5 * es.length + 3, 200 + 5 * es.length + 4]) fr_32 (fun _ z => z) (by simp)).tr' (T := [6, 7, 200 + 5 * es.length, 200 + 5 * es.length + 1, 200 + 5 * es.length + 2, 200 + 5 * es.length + 3, 200 + 5 * es.length + 4]) fr_42 (fun _ z => z) (by simp)).tr' (T := [6, 7, 200 + 5 * es.length, 200 + 5 * es.length + 1, 200 + 5 * es.length + 2, 200 + 5 * es.length + 3, 200 + 5 * es.length + 4]) fr_55 (fun _ z => z) (by simp)).tr' (T := [6, 7, 200 + 5 * es.length, 200 + 5 * es.length + 1, 200 + 5 * es.length + 2, 200 + 5 * es.length + 3, 200 + 5 * es.length + 4]) fr_59 (fun _ z => z) (by simp))
      have hnm := nameL_ne c_10.1
      have hX : IsE (eD E) M_57 q_12 (200 + 5 * es.length) (sort, ad, b.2.take (blkS b.2).toNat, b.2.drop (min (blkS b.2 + 1) b.2.length).toNat) := ⟨nm_21, vl_22, _, _, _, _, h_62, h_65, h_67, addPB_head (by unfold blkS at *; omega), addPB_tail (by omega), by show 0 ≤ sort; have hg := c_10.2; omega, by show sort ≤ 3; have hg := c_10.2; omega⟩
      have hDn := IsDir_push h_6 hF (by intro u hu; simp only [List.mem_cons, List.not_mem_nil, or_false] at hu; omega) h_58 h_60 hX hlt
      exact G_zretX _ hC hQ (by omega) (by omega) d_Di_take_119 (b2i_t (take_yes hlt hE).1) ⟨rfl, by rw [(take_yes hlt hE).2]; exact hDn, hF⟩
    · have c_10 := b2i_eq0.mp c_10
      have c_10 := of_decide_eq_false c_10
      refine G_iconst (i := 0) hC d_Di_take_35 ?_
      have hE : decide (es.length < 40) = false ∨ entS b.2 sort ad = none := by first | exact Or.inl (decide_eq_false (by omega)) | exact Or.inr (if_neg c_10)
      exact G_zretX _ hC hQ (by omega) (by omega) d_Di_take_36 (b2i_f (take_no hE).1) ⟨rfl, by rw [(take_no hE).2]; exact h_Dir_a, Fr.rf⟩
