set_option maxHeartbeats 4000000 in
set_option maxRecDepth 100000 in
theorem c_Arr_copyOf {l : Launch} {D : Dg} {b0 : Nat} {M : Mp} {r : Nat} {n : Int} {t : Nat} {len : Nat} {xs : List Int} (u : Nat) (h_row_r : Row D M r t len xs) (hn : (len : Int) < n ∧ n ≤ 20000) : Ok l D b0 2 y_Arr_copyOf b_Arr_copyOf 3 (some (.array .byte)) M [.ref r, vI n] 1 n.toNat (fun r M' => ∃ q : Nat, r = some (.ref q) ∧ Row D M' q u n.toNat xs ∧ Fr [u] M M') := by
  refine Ok_of rfl (Nat.le_of_ble_eq_true rfl) (fun E hC hQ hl hD hB hN hR => ?_)
  subst hl hD hB
  have hr9 := h_row_r.len
  show G E M 0 0 [(0, .ref r), (1, vI n)] [] 0
  refine G_iload_n hC 1 rfl rfl d_Arr_copyOf_0 ?_
  refine G_aload_n hC 0 rfl rfl d_Arr_copyOf_1 ?_
  refine G_alenR hC h_row_r d_Arr_copyOf_2 ?_
  refine G_icmp_ne hC 14 (by omega) (by omega) (by decide) d_Arr_copyOf_3 (fun c_1 => ?_) (fun c_1 => ?_)
  · refine G_iload_n hC 1 rfl rfl d_Arr_copyOf_14 ?_
    refine G_newBX u hC hR w_acB (by omega) (by omega) (by omega) d_Arr_copyOf_15 (fun q_2 M_3 h_4 h_5 fr_6 => ?_)
    refine G_astore_n (lv' := [(2, .ref q_2), (0, .ref r), (1, vI n)]) hC rfl (by rw [hN]; decide) rfl d_Arr_copyOf_17 ?_
    refine G_aload_n hC 1 rfl rfl d_Arr_copyOf_18 ?_
    refine G_iconst (i := 0) hC d_Arr_copyOf_19 ?_
    refine G_aload_n hC 0 rfl rfl d_Arr_copyOf_20 ?_
    refine G_iconst (i := 0) hC d_Arr_copyOf_21 ?_
    refine G_aload_n hC 1 rfl rfl d_Arr_copyOf_22 ?_
    have h_7 := h_row_r.fr fr_6 (by simp only [List.mem_cons, List.not_mem_nil, or_false, not_or, not_false_eq_true]; try omega)
    refine G_alenR hC h_7 d_Arr_copyOf_23 ?_
    refine G_iload_n hC 2 rfl rfl d_Arr_copyOf_24 ?_
    refine G_minX (c := min (len : Int) n) hC hR lm_Arr_304 (by omega) (by omega) (by omega) (Nat.le_of_ble_eq_true rfl) (Nat.le_of_ble_eq_true rfl) (by omega) (by omega) d_Arr_copyOf_25 ?_
    refine G_copyB0 hC hR lm_Arr_150 w_acN w_acS w_syI h_7 h_5 (by omega) (by omega) (Nat.le_of_ble_eq_true rfl) (Nat.le_of_ble_eq_true rfl) d_Arr_copyOf_28 (fun M_8 h_9 fr_10 => ?_)
    refine G_aload_n hC 0 rfl rfl d_Arr_copyOf_31 ?_
    exact G_areturn hC hQ (Or.inr ⟨_, rfl⟩) (Or.inr ⟨_, rfl⟩) (by omega) (by omega) d_Arr_copyOf_32 ⟨_, rfl, h_9, ((fr_6.up (T := [u]) (by simp)).tr' (T := [u]) fr_10 (fun _ z => z) (by simp))⟩
  · exact (show False from by omega).elim

set_option maxHeartbeats 4000000 in
set_option maxRecDepth 100000 in
theorem c_By_init {l : Launch} {D : Dg} {b0 : Nat} {M : Mp} {a : Nat} {lim : Int} {t : Nat} (h_obj_a : M a = some (t, .inr (cBy, [vI 0, .null, vI 0]))) (hlim : 0 ≤ lim ∧ lim ≤ 20000) : Ok l D b0 2 y_By_init b_By_init 2 none M [.ref a, vI lim] 1 ((min lim 64 : Int).toNat) (fun r M' => r = none ∧ IsB D M' a t lim ((min lim 64 : Int).toNat, []) ∧ Fr [t] M M') := by
  refine Ok_of rfl (Nat.le_of_ble_eq_true rfl) (fun E hC hQ hl hD hB hN hR => ?_)
  subst hl hD hB
  show G E M 0 0 [(0, .ref a), (1, vI lim)] [] 0
  refine G_aload_n hC 0 rfl rfl d_By_init_0 ?_
  refine G_objI hC hR lm_By_1 (Nat.le_of_ble_eq_true rfl) (Nat.le_of_ble_eq_true rfl) d_By_init_1 ?_
  refine G_aload_n hC 0 rfl rfl d_By_init_4 ?_
  refine G_iload_n hC 1 rfl rfl d_By_init_5 ?_
  refine G_putFX (fs' := [vI lim, .null, vI 0]) hC fl_By_7 ft_By ff_By_0 rfl h_obj_a rfl rfl (Nat.le_of_ble_eq_true rfl) rfl d_By_init_6 (fun M_1 h_2 fr_3 => ?_)
  refine G_aload_n hC 0 rfl rfl d_By_init_9 ?_
  refine G_iload_n hC 1 rfl rfl d_By_init_10 ?_
  refine G_bipush (j := 64) hC (by decide +kernel) d_By_init_11 ?_
  refine G_minX (c := min lim 64) hC hR lm_By_13 (by omega) (by omega) (by omega) (Nat.le_of_ble_eq_true rfl) (Nat.le_of_ble_eq_true rfl) (by omega) (by omega) d_By_init_13 ?_
  refine G_newBX (t + 1) hC hR w_acB (by omega) (by omega) (by omega) d_By_init_16 (fun q_4 M_5 h_6 h_7 fr_8 => ?_)
  have h_9 := fr_8.at h_2 (by simp only [List.mem_cons, List.not_mem_nil, or_false, not_or, not_false_eq_true]; try omega)
  refine G_putX (fs' := [vI lim, .ref q_4, vI 0]) hC fl_By_19 ft_By fw_By_1 h_9 rfl rfl (Nat.le_of_ble_eq_true rfl) rfl d_By_init_18 (fun M_10 h_11 fr_12 => ?_)
  refine G_aload_n hC 0 rfl rfl d_By_init_21 ?_
  refine G_iconst (i := 0) hC d_By_init_22 ?_
  refine G_putX (fs' := [vI lim, .ref q_4, vI 0]) hC fl_By_23 ft_By fw_By_2 h_11 rfl rfl (Nat.le_of_ble_eq_true rfl) rfl d_By_init_23 (fun M_13 h_14 fr_15 => ?_)
  have h_16 := h_7.fr fr_12 (by simp only [List.mem_cons, List.not_mem_nil, or_false, not_or, not_false_eq_true]; try omega)
  have h_17 := h_16.fr fr_15 (by simp only [List.mem_cons, List.not_mem_nil, or_false, not_or, not_false_eq_true]; try omega)
  exact G_return hC hQ (by omega) (by omega) d_By_init_26 ⟨rfl, ⟨q_4, h_14, h_17, by show (((min lim 64 : Int).toNat : Nat) : Int) ≤ lim; omega, by omega⟩, ((((fr_3.up (T := [t]) (by simp)).tr' (T := [t]) fr_8 (fun _ z => z) (by simp)).tr' (T := [t]) fr_12 (fun _ z => z) (by simp)).tr' (T := [t]) fr_15 (fun _ z => z) (by simp))⟩

set_option maxHeartbeats 4000000 in
set_option maxRecDepth 100000 in
theorem c_By_cut {l : Launch} {D : Dg} {b0 : Nat} {M : Mp} {a : Nat} {i : Int} {t : Nat} {lim : Int} {b : Bv} (h_B_a : IsB D M a t lim b) (hi : -2147483648 ≤ i ∧ i ≤ 2147483647) : Ok l D b0 1 y_By_cut b_By_cut 2 none M [.ref a, vI i] 0 0 (fun r M' => r = none ∧ IsB D M' a t lim (cutB b i) ∧ Fr [t, t + 1] M M') := by
  refine Ok_of rfl (Nat.le_of_ble_eq_true rfl) (fun E hC hQ hl hD hB hN hR => ?_)
  subst hl hD hB
  have g_6 := h_B_a.len
  obtain ⟨r_1, h_2, h_3, h_4, h_5⟩ := id h_B_a
  show G E M 0 0 [(0, .ref a), (1, vI i)] [] 0
  refine G_iload_n hC 1 rfl rfl d_By_cut_0 ?_
  refine G_if_lt hC 17 (by omega) (by decide) d_By_cut_1 (fun c_7 => ?_) (fun c_7 => ?_)
  · exact G_return hC hQ (by omega) (by omega) d_By_cut_17 ⟨rfl, by unfold cutB; rw [if_neg (by omega)]; exact h_B_a, Fr.rf⟩
  · refine G_iload_n hC 1 rfl rfl d_By_cut_4 ?_
    refine G_aload_n hC 0 rfl rfl d_By_cut_5 ?_
    refine G_get hC fl_By_23 h_2 rfl d_By_cut_6 ?_
    refine G_icmp_ge hC 17 (by omega) (by omega) (by decide) d_By_cut_9 (fun c_8 => ?_) (fun c_8 => ?_)
    · exact G_return hC hQ (by omega) (by omega) d_By_cut_17 ⟨rfl, by unfold cutB; rw [if_neg (by omega)]; exact h_B_a, Fr.rf⟩
    · refine G_aload_n hC 0 rfl rfl d_By_cut_12 ?_
      refine G_iload_n hC 1 rfl rfl d_By_cut_13 ?_
      refine G_putX (fs' := [vI lim, .ref r_1, vI i]) hC fl_By_23 ft_By fw_By_2 h_2 rfl rfl (Nat.le_of_ble_eq_true rfl) rfl d_By_cut_14 (fun M_9 h_10 fr_11 => ?_)
      have h_12 := h_3.fr fr_11 (by simp only [List.mem_cons, List.not_mem_nil, or_false, not_or, not_false_eq_true]; try omega)
      have e9 : (((b.2.take i.toNat).length : Nat) : Int) = i := by rw [List.length_take]; omega
      exact G_return hC hQ (by omega) (by omega) d_By_cut_17 ⟨rfl, by unfold cutB; rw [if_pos (by omega)]; exact ⟨r_1, by rw [e9]; exact h_10, h_12.take _, by omega, by omega⟩, (fr_11.up (T := [t, t + 1]) (by simp))⟩

set_option maxHeartbeats 4000000 in
set_option maxRecDepth 100000 in
theorem c_By_add {l : Launch} {D : Dg} {b0 : Nat} {M : Mp} {a : Nat} {c : Int} {t : Nat} {lim : Int} {b : Bv} (h_B_a : IsB D M a t lim b) (hc : -2147483648 ≤ c ∧ c ≤ 2147483647) : Ok l D b0 3 y_By_add b_By_add 2 none M [.ref a, vI c] (psi lim (addB lim b c) - psi lim b) (psi lim (addB lim b c) - psi lim b) (fun r M' => r = none ∧ IsB D M' a t lim (addB lim b c) ∧ Fr [t, t + 1] M M') := by
  refine Ok_of rfl (Nat.le_of_ble_eq_true rfl) (fun E hC hQ hl hD hB hN hR => ?_)
  subst hl hD hB
  have g_6 := h_B_a.len
  obtain ⟨r_1, h_2, h_3, h_4, h_5⟩ := id h_B_a
  show G E M 0 0 [(0, .ref a), (1, vI c)] [] 0
  refine G_aload_n hC 0 rfl rfl d_By_add_0 ?_
  refine G_get hC fl_By_23 h_2 rfl d_By_add_1 ?_
  refine G_aload_n hC 0 rfl rfl d_By_add_4 ?_
  refine G_get hC fl_By_7 h_2 rfl d_By_add_5 ?_
  refine G_icmp_lt hC 12 (by omega) (by omega) (by decide) d_By_add_8 (fun c_7 => ?_) (fun c_7 => ?_)
  · refine G_aload_n hC 0 rfl rfl d_By_add_12 ?_
    refine G_get hC fl_By_23 h_2 rfl d_By_add_13 ?_
    refine G_aload_n hC 0 rfl rfl d_By_add_16 ?_
    refine G_get hC fl_By_19 h_2 rfl d_By_add_17 ?_
    refine G_alenR hC h_3 d_By_add_20 ?_
    refine G_icmp_lt hC 50 (by omega) (by omega) (by decide) d_By_add_21 (fun c_8 => ?_) (fun c_8 => ?_)
    · refine G_aload_n hC 0 rfl rfl d_By_add_50 ?_
      refine G_get hC fl_By_19 h_2 rfl d_By_add_51 ?_
      refine G_aload_n hC 0 rfl rfl d_By_add_54 ?_
      refine G_get hC fl_By_23 h_2 rfl d_By_add_55 ?_
      refine G_iload_n hC 1 rfl rfl d_By_add_58 ?_
      refine G_i2bR hC (by omega) d_By_add_59 ?_
      have g_9 := sgb_rng c
      refine G_bastR hC h_3 (by omega) (by omega) (by omega) d_By_add_60 (fun M_10 h_11 fr_12 => ?_)
      refine G_aload_n hC 0 rfl rfl d_By_add_61 ?_
      refine G_dup hC rfl d_By_add_62 ?_
      have h_13 := fr_12.at h_2 (by simp only [List.mem_cons, List.not_mem_nil, or_false, not_or, not_false_eq_true]; try omega)
      refine G_get hC fl_By_23 h_13 rfl d_By_add_63 ?_
      refine G_iconst (i := 1) hC d_By_add_66 ?_
      refine G_iadd hC d_By_add_67 ?_
      refine G_putX (fs' := [vI lim, .ref r_1, vI ((b.2.length : Int) + 1)]) hC fl_By_23 ft_By fw_By_2 h_13 rfl rfl (Nat.le_of_ble_eq_true rfl) rfl d_By_add_68 (fun M_14 h_15 fr_16 => ?_)
      have h_17 := h_11.fr fr_16 (by simp only [List.mem_cons, List.not_mem_nil, or_false, not_or, not_false_eq_true]; try omega)
      have e9 : (((b.2 ++ [sgb c]).length : Nat) : Int) = (b.2.length : Int) + 1 := by simp
      exact G_return hC hQ (by omega) (by omega) d_By_add_71 ⟨rfl, by rw [addB_fits (by omega) (by omega)]; exact ⟨r_1, by show _ = some (t, Sum.inr (cBy, [vI lim, .ref r_1, vI (((b.2 ++ [sgb c]).length : Nat) : Int)])); rw [e9]; exact h_15, h_17, by omega, by omega⟩, ((fr_12.up (T := [t, t + 1]) (by simp)).tr' (T := [t, t + 1]) fr_16 (fun _ z => z) (by simp))⟩
    · refine G_aload_n hC 0 rfl rfl d_By_add_24 ?_
      refine G_aload_n hC 0 rfl rfl d_By_add_25 ?_
      refine G_get hC fl_By_19 h_2 rfl d_By_add_26 ?_
      refine G_aload_n hC 0 rfl rfl d_By_add_29 ?_
      refine G_get hC fl_By_7 h_2 rfl d_By_add_30 ?_
      refine G_iconst (i := 2) hC d_By_add_33 ?_
      refine G_aload_n hC 0 rfl rfl d_By_add_34 ?_
      refine G_get hC fl_By_23 h_2 rfl d_By_add_35 ?_
      refine G_imul hC d_By_add_38 ?_
      refine G_iconst (i := 1) hC d_By_add_39 ?_
      refine G_iadd hC d_By_add_40 ?_
      refine G_minX (c := min lim ((2 * (b.2.length : Int)) + 1)) hC hR lm_By_13 (by omega) (by omega) (by omega) (Nat.le_of_ble_eq_true rfl) (Nat.le_of_ble_eq_true rfl) (by omega) (by omega) d_By_add_41 ?_
      have h9 := grow_add (lim := lim) (b := b) c ⟨by omega, by omega⟩ (by omega) (by omega)
      refine G_xS (rest := [.ref a]) hC hR (c_Arr_copyOf (t + 1) h_3 (by omega)) cs_By_26 (by decide) (by omega) (by omega) rfl rfl (Nat.le_of_ble_eq_true rfl) d_By_add_44 (fun r_20 M_18 p_19 => ?_)
      obtain ⟨q_21, rfl, h_22, fr_23⟩ := p_19
      show G E M_18 (0 + (1)) (0 + ((min lim ((2 * (b.2.length : Int)) + 1)).toNat)) [(0, .ref a), (1, vI c)] [.ref q_21, .ref a] 47
      have h_24 := fr_23.at h_2 (by simp only [List.mem_cons, List.not_mem_nil, or_false, not_or, not_false_eq_true]; try omega)
      refine G_putX (fs' := [vI lim, .ref q_21, vI (b.2.length : Int)]) hC fl_By_19 ft_By fw_By_1 h_24 rfl rfl (Nat.le_of_ble_eq_true rfl) rfl d_By_add_47 (fun M_25 h_26 fr_27 => ?_)
      refine G_aload_n hC 0 rfl rfl d_By_add_50 ?_
      refine G_get hC fl_By_19 h_26 rfl d_By_add_51 ?_
      refine G_aload_n hC 0 rfl rfl d_By_add_54 ?_
      refine G_get hC fl_By_23 h_26 rfl d_By_add_55 ?_
      refine G_iload_n hC 1 rfl rfl d_By_add_58 ?_
      refine G_i2bR hC (by omega) d_By_add_59 ?_
      have g_28 := sgb_rng c
      have h_29 := h_22.fr fr_27 (by simp only [List.mem_cons, List.not_mem_nil, or_false, not_or, not_false_eq_true]; try omega)
      refine G_bastR hC h_29 (by omega) (by omega) (by omega) d_By_add_60 (fun M_30 h_31 fr_32 => ?_)
      refine G_aload_n hC 0 rfl rfl d_By_add_61 ?_
      refine G_dup hC rfl d_By_add_62 ?_
      have h_33 := fr_32.at h_26 (by simp only [List.mem_cons, List.not_mem_nil, or_false, not_or, not_false_eq_true]; try omega)
      refine G_get hC fl_By_23 h_33 rfl d_By_add_63 ?_
      refine G_iconst (i := 1) hC d_By_add_66 ?_
      refine G_iadd hC d_By_add_67 ?_
      refine G_putX (fs' := [vI lim, .ref q_21, vI ((b.2.length : Int) + 1)]) hC fl_By_23 ft_By fw_By_2 h_33 rfl rfl (Nat.le_of_ble_eq_true rfl) rfl d_By_add_68 (fun M_34 h_35 fr_36 => ?_)
      have h_37 := h_31.fr fr_36 (by simp only [List.mem_cons, List.not_mem_nil, or_false, not_or, not_false_eq_true]; try omega)
      have e9 : (((b.2 ++ [sgb c]).length : Nat) : Int) = (b.2.length : Int) + 1 := by simp
      exact G_return hC hQ (by omega) (by omega) d_By_add_71 ⟨rfl, by rw [addB_grow (by omega) (by omega)]; exact ⟨q_21, by show _ = some (t, Sum.inr (cBy, [vI lim, .ref q_21, vI (((b.2 ++ [sgb c]).length : Nat) : Int)])); rw [e9]; exact h_35, h_37, by show (((min lim (2 * (b.2.length : Int) + 1)).toNat : Nat) : Int) ≤ lim; omega, by omega⟩, ((((fr_23.up (T := [t, t + 1]) (by simp)).tr' (T := [t, t + 1]) fr_27 (fun _ z => z) (by simp)).tr' (T := [t, t + 1]) fr_32 (fun _ z => z) (by simp)).tr' (T := [t, t + 1]) fr_36 (fun _ z => z) (by simp))⟩
  · exact G_return hC hQ (by omega) (by omega) d_By_add_11 ⟨rfl, by rw [addB_full (by omega)]; exact h_B_a, Fr.rf⟩

set_option maxHeartbeats 4000000 in
set_option maxRecDepth 100000 in
theorem c_By_addFour {l : Launch} {D : Dg} {b0 : Nat} {M : Mp} {a : Nat} {w : Int} {t : Nat} {lim : Int} {b : Bv} (h_B_a : IsB D M a t lim b) (hw : -2147483648 ≤ w ∧ w ≤ 2147483647) : Ok l D b0 4 y_By_addFour b_By_addFour 2 none M [.ref a, vI w] (psi lim (add4B lim b w) - psi lim b) (psi lim (add4B lim b w) - psi lim b) (fun r M' => r = none ∧ IsB D M' a t lim (add4B lim b w) ∧ Fr [t, t + 1] M M') := by
  refine Ok_of rfl (Nat.le_of_ble_eq_true rfl) (fun E hC hQ hl hD hB hN hR => ?_)
  subst hl hD hB
  have hB9 := h_B_a.len
  have h91 := psi_addB (lim := lim) (b := b) (w % 4294967296 / 16777216) ⟨by omega, by omega⟩
  have h92 := psi_addB (w % 4294967296 / 65536) h91.2
  have h93 := psi_addB (w % 4294967296 / 256) h92.2
  have h94 := psi_addB w h93.2
  have h99 : add4B lim b w = addB lim (addB lim (addB lim (addB lim b (w % 4294967296 / 16777216)) (w % 4294967296 / 65536)) (w % 4294967296 / 256)) w := rfl
  rw [h99] at hQ hR
  show G E M 0 0 [(0, .ref a), (1, vI w)] [] 0
  refine G_aload_n hC 0 rfl rfl d_By_addFour_0 ?_
  refine G_iload_n hC 1 rfl rfl d_By_addFour_1 ?_
  refine G_bipush (j := 24) hC (by decide +kernel) d_By_addFour_2 ?_
  refine G_iushr hC (zI_ushr24 _) d_By_addFour_4 ?_
  refine G_xV (rest := []) hC hR (c_By_add h_B_a (by omega)) cv_By_32 h_B_a.obj (by decide) (by omega) (by omega) rfl rfl (Nat.le_of_ble_eq_true rfl) d_By_addFour_5 (fun r_3 M_1 p_2 => ?_)
  obtain ⟨rfl, h_4, fr_5⟩ := p_2
  show G E M_1 (0 + (psi lim (addB lim b (w % 4294967296 / 16777216)) - psi lim b)) (0 + (psi lim (addB lim b (w % 4294967296 / 16777216)) - psi lim b)) [(0, .ref a), (1, vI w)] [] 8
  have g_6 := psi_addB (lim := lim) (b := b) (w % 4294967296 / 16777216) ⟨h_B_a.len.1, h_B_a.len.2.1⟩
  refine G_aload_n hC 0 rfl rfl d_By_addFour_8 ?_
  refine G_iload_n hC 1 rfl rfl d_By_addFour_9 ?_
  refine G_bipush (j := 16) hC (by decide +kernel) d_By_addFour_10 ?_
  refine G_iushr hC (zI_ushr16 _) d_By_addFour_12 ?_
  refine G_xV (rest := []) hC hR (c_By_add h_4 (by omega)) cv_By_32 h_4.obj (by decide) (by omega) (by omega) rfl rfl (Nat.le_of_ble_eq_true rfl) d_By_addFour_13 (fun r_9 M_7 p_8 => ?_)
  obtain ⟨rfl, h_10, fr_11⟩ := p_8
  show G E M_7 (0 + (psi lim (addB lim b (w % 4294967296 / 16777216)) - psi lim b) + (psi lim (addB lim (addB lim b (w % 4294967296 / 16777216)) (w % 4294967296 / 65536)) - psi lim (addB lim b (w % 4294967296 / 16777216)))) (0 + (psi lim (addB lim b (w % 4294967296 / 16777216)) - psi lim b) + (psi lim (addB lim (addB lim b (w % 4294967296 / 16777216)) (w % 4294967296 / 65536)) - psi lim (addB lim b (w % 4294967296 / 16777216)))) [(0, .ref a), (1, vI w)] [] 16
  have g_12 := psi_addB (lim := lim) (b := (addB lim b (w % 4294967296 / 16777216))) (w % 4294967296 / 65536) ⟨h_4.len.1, h_4.len.2.1⟩
  refine G_aload_n hC 0 rfl rfl d_By_addFour_16 ?_
  refine G_iload_n hC 1 rfl rfl d_By_addFour_17 ?_
  refine G_bipush (j := 8) hC (by decide +kernel) d_By_addFour_18 ?_
  refine G_iushr hC (zI_ushr8 _) d_By_addFour_20 ?_
  refine G_xV (rest := []) hC hR (c_By_add h_10 (by omega)) cv_By_32 h_10.obj (by decide) (by omega) (by omega) rfl rfl (Nat.le_of_ble_eq_true rfl) d_By_addFour_21 (fun r_15 M_13 p_14 => ?_)
  obtain ⟨rfl, h_16, fr_17⟩ := p_14
  show G E M_13 (0 + (psi lim (addB lim b (w % 4294967296 / 16777216)) - psi lim b) + (psi lim (addB lim (addB lim b (w % 4294967296 / 16777216)) (w % 4294967296 / 65536)) - psi lim (addB lim b (w % 4294967296 / 16777216))) + (psi lim (addB lim (addB lim (addB lim b (w % 4294967296 / 16777216)) (w % 4294967296 / 65536)) (w % 4294967296 / 256)) - psi lim (addB lim (addB lim b (w % 4294967296 / 16777216)) (w % 4294967296 / 65536)))) (0 + (psi lim (addB lim b (w % 4294967296 / 16777216)) - psi lim b) + (psi lim (addB lim (addB lim b (w % 4294967296 / 16777216)) (w % 4294967296 / 65536)) - psi lim (addB lim b (w % 4294967296 / 16777216))) + (psi lim (addB lim (addB lim (addB lim b (w % 4294967296 / 16777216)) (w % 4294967296 / 65536)) (w % 4294967296 / 256)) - psi lim (addB lim (addB lim b (w % 4294967296 / 16777216)) (w % 4294967296 / 65536)))) [(0, .ref a), (1, vI w)] [] 24
  have g_18 := psi_addB (lim := lim) (b := (addB lim (addB lim b (w % 4294967296 / 16777216)) (w % 4294967296 / 65536))) (w % 4294967296 / 256) ⟨h_10.len.1, h_10.len.2.1⟩
  refine G_aload_n hC 0 rfl rfl d_By_addFour_24 ?_
  refine G_iload_n hC 1 rfl rfl d_By_addFour_25 ?_
  refine G_xV (rest := []) hC hR (c_By_add h_16 (by omega)) cv_By_32 h_16.obj (by decide) (by omega) (by omega) rfl rfl (Nat.le_of_ble_eq_true rfl) d_By_addFour_26 (fun r_21 M_19 p_20 => ?_)
  obtain ⟨rfl, h_22, fr_23⟩ := p_20
  show G E M_19 (0 + (psi lim (addB lim b (w % 4294967296 / 16777216)) - psi lim b) + (psi lim (addB lim (addB lim b (w % 4294967296 / 16777216)) (w % 4294967296 / 65536)) - psi lim (addB lim b (w % 4294967296 / 16777216))) + (psi lim (addB lim (addB lim (addB lim b (w % 4294967296 / 16777216)) (w % 4294967296 / 65536)) (w % 4294967296 / 256)) - psi lim (addB lim (addB lim b (w % 4294967296 / 16777216)) (w % 4294967296 / 65536))) + (psi lim (addB lim (addB lim (addB lim (addB lim b (w % 4294967296 / 16777216)) (w % 4294967296 / 65536)) (w % 4294967296 / 256)) w) - psi lim (addB lim (addB lim (addB lim b (w % 4294967296 / 16777216)) (w % 4294967296 / 65536)) (w % 4294967296 / 256)))) (0 + (psi lim (addB lim b (w % 4294967296 / 16777216)) - psi lim b) + (psi lim (addB lim (addB lim b (w % 4294967296 / 16777216)) (w % 4294967296 / 65536)) - psi lim (addB lim b (w % 4294967296 / 16777216))) + (psi lim (addB lim (addB lim (addB lim b (w % 4294967296 / 16777216)) (w % 4294967296 / 65536)) (w % 4294967296 / 256)) - psi lim (addB lim (addB lim b (w % 4294967296 / 16777216)) (w % 4294967296 / 65536))) + (psi lim (addB lim (addB lim (addB lim (addB lim b (w % 4294967296 / 16777216)) (w % 4294967296 / 65536)) (w % 4294967296 / 256)) w) - psi lim (addB lim (addB lim (addB lim b (w % 4294967296 / 16777216)) (w % 4294967296 / 65536)) (w % 4294967296 / 256)))) [(0, .ref a), (1, vI w)] [] 29
  have g_24 := psi_addB (lim := lim) (b := (addB lim (addB lim (addB lim b (w % 4294967296 / 16777216)) (w % 4294967296 / 65536)) (w % 4294967296 / 256))) w ⟨h_16.len.1, h_16.len.2.1⟩
  exact G_return hC hQ (by omega) (by omega) d_By_addFour_29 ⟨rfl, h_22, ((((fr_5.up (T := [t, t + 1]) (by simp)).tr' (T := [t, t + 1]) fr_11 (fun _ z => z) (by simp)).tr' (T := [t, t + 1]) fr_17 (fun _ z => z) (by simp)).tr' (T := [t, t + 1]) fr_23 (fun _ z => z) (by simp))⟩

set_option maxHeartbeats 4000000 in
set_option maxRecDepth 100000 in
theorem c_By_addPart {l : Launch} {D : Dg} {b0 : Nat} {M : Mp} {a : Nat} {o : Nat} {fr : Int} {to : Int} {t : Nat} {lim : Int} {b : Bv} {t2 : Nat} {lim2 : Int} {b2 : Bv} (h_B_a : IsB D M a t lim b) (h_B_o : IsB D M o t2 lim2 b2) (hfr : -100000 ≤ fr ∧ fr ≤ 100000) (hto : -100000 ≤ to ∧ to ≤ 100000) (htt : t2 ≠ t ∧ t2 ≠ t + 1 ∧ t2 + 1 ≠ t ∧ t2 + 1 ≠ t + 1) : Ok l D b0 3 y_By_addPart b_By_addPart 5 none M [.ref a, .ref o, vI fr, vI to] (psi lim (addPB lim b b2.2 fr to) - psi lim b) (psi lim (addPB lim b b2.2 fr to) - psi lim b) (fun r M' => r = none ∧ IsB D M' a t lim (addPB lim b b2.2 fr to) ∧ Fr [t, t + 1] M M') := by
  refine Ok_of rfl (Nat.le_of_ble_eq_true rfl) (fun E hC hQ hl hD hB hN hR => ?_)
  subst hl hD hB
  have g_6 := h_B_a.len
  obtain ⟨r_1, h_2, h_3, h_4, h_5⟩ := id h_B_a
  have g_12 := h_B_o.len
  obtain ⟨r_7, h_8, h_9, h_10, h_11⟩ := id h_B_o
  show G E M 0 0 [(0, .ref a), (1, .ref o), (2, vI fr), (3, vI to)] [] 0
  refine G_iload_n hC 2 rfl rfl d_By_addPart_0 ?_
  refine G_if_lt hC 17 (by omega) (by decide) d_By_addPart_1 (fun c_13 => ?_) (fun c_13 => ?_)
  · exact G_return hC hQ (by omega) (by omega) d_By_addPart_17 ⟨rfl, by rw [addPB_none (by omega)]; exact h_B_a, Fr.rf⟩
  · refine G_iload_n hC 2 rfl rfl d_By_addPart_4 ?_
    refine G_iload_n hC 3 rfl rfl d_By_addPart_5 ?_
    refine G_icmp_ge hC 17 (by omega) (by omega) (by decide) d_By_addPart_6 (fun c_14 => ?_) (fun c_14 => ?_)
    · exact G_return hC hQ (by omega) (by omega) d_By_addPart_17 ⟨rfl, by rw [addPB_none (by omega)]; exact h_B_a, Fr.rf⟩
    · refine G_iload_n hC 3 rfl rfl d_By_addPart_9 ?_
      refine G_aload_n hC 1 rfl rfl d_By_addPart_10 ?_
      refine G_get hC fl_By_23 h_8 rfl d_By_addPart_11 ?_
      refine G_icmp_le hC 18 (by omega) (by omega) (by decide) d_By_addPart_14 (fun c_15 => ?_) (fun c_15 => ?_)
      · refine G_iload_n hC 3 rfl rfl d_By_addPart_18 ?_
        refine G_iload_n hC 2 rfl rfl d_By_addPart_19 ?_
        refine G_isub hC d_By_addPart_20 ?_
        refine G_aload_n hC 0 rfl rfl d_By_addPart_21 ?_
        refine G_get hC fl_By_7 h_2 rfl d_By_addPart_22 ?_
        refine G_aload_n hC 0 rfl rfl d_By_addPart_25 ?_
        refine G_get hC fl_By_23 h_2 rfl d_By_addPart_26 ?_
        refine G_isub hC d_By_addPart_29 ?_
        refine G_minX (c := min (to - fr) (lim - (b.2.length : Int))) hC hR lm_By_13 (by omega) (by omega) (by omega) (Nat.le_of_ble_eq_true rfl) (Nat.le_of_ble_eq_true rfl) (by omega) (by omega) d_By_addPart_30 ?_
        refine G_istore (lv' := [(4, vI (min (to - fr) (lim - (b.2.length : Int)))), (0, .ref a), (1, .ref o), (2, vI fr), (3, vI to)]) hC (by rw [hN]; decide) rfl d_By_addPart_33 ?_
        refine G_aload_n hC 1 rfl rfl d_By_addPart_35 ?_
        refine G_get hC fl_By_23 h_2 rfl d_By_addPart_36 ?_
        refine G_iload hC 0 rfl d_By_addPart_39 ?_
        refine G_iadd hC d_By_addPart_41 ?_
        refine G_aload_n hC 1 rfl rfl d_By_addPart_42 ?_
        refine G_get hC fl_By_19 h_2 rfl d_By_addPart_43 ?_
        refine G_alenR hC h_3 d_By_addPart_46 ?_
        refine G_icmp_le hC 77 (by omega) (by omega) (by decide) d_By_addPart_47 (fun c_16 => ?_) (fun c_16 => ?_)
        · refine G_aload_n hC 2 rfl rfl d_By_addPart_77 ?_
          refine G_get hC fl_By_19 h_8 rfl d_By_addPart_78 ?_
          refine G_iload_n hC 3 rfl rfl d_By_addPart_81 ?_
          refine G_aload_n hC 1 rfl rfl d_By_addPart_82 ?_
          refine G_get hC fl_By_19 h_2 rfl d_By_addPart_83 ?_
          refine G_aload_n hC 1 rfl rfl d_By_addPart_86 ?_
          refine G_get hC fl_By_23 h_2 rfl d_By_addPart_87 ?_
          refine G_iload hC 0 rfl d_By_addPart_90 ?_
          refine G_copyBA hC hR lm_By_36 w_acN w_acS w_syI h_9 h_3 (by omega) (by omega) (by omega) (Nat.le_of_ble_eq_true rfl) (Nat.le_of_ble_eq_true rfl) d_By_addPart_92 (fun M_17 h_18 fr_19 => ?_)
          refine G_aload_n hC 1 rfl rfl d_By_addPart_95 ?_
          refine G_dup hC rfl d_By_addPart_96 ?_
          have h_20 := fr_19.at h_2 (by simp only [List.mem_cons, List.not_mem_nil, or_false, not_or, not_false_eq_true]; try omega)
          refine G_get hC fl_By_23 h_20 rfl d_By_addPart_97 ?_
          refine G_iload hC 0 rfl d_By_addPart_100 ?_
          refine G_iadd hC d_By_addPart_102 ?_
          refine G_putX (fs' := [vI lim, .ref r_1, vI ((b.2.length : Int) + (min (to - fr) (lim - (b.2.length : Int))))]) hC fl_By_23 ft_By fw_By_2 h_20 rfl rfl (Nat.le_of_ble_eq_true rfl) rfl d_By_addPart_103 (fun M_21 h_22 fr_23 => ?_)
          have h_24 := h_18.fr fr_23 (by simp only [List.mem_cons, List.not_mem_nil, or_false, not_or, not_false_eq_true]; try omega)
          have e9 : (((b.2 ++ (b2.2.drop fr.toNat).take (min (to - fr) (lim - (b.2.length : Int))).toNat).length : Nat) : Int) = (b.2.length : Int) + min (to - fr) (lim - (b.2.length : Int)) := by rw [List.length_append, List.length_take, List.length_drop]; omega
          exact G_return hC hQ (by omega) (by omega) d_By_addPart_106 ⟨rfl, by rw [addPB_fits (by omega) (by omega)]; exact ⟨r_1, by show _ = some (t, Sum.inr (cBy, [vI lim, .ref r_1, vI (((b.2 ++ (b2.2.drop fr.toNat).take (min (to - fr) (lim - (b.2.length : Int))).toNat).length : Nat) : Int)])); rw [e9]; exact h_22, h_24, by omega, by omega⟩, ((fr_19.up (T := [t, t + 1]) (by simp)).tr' (T := [t, t + 1]) fr_23 (fun _ z => z) (by simp))⟩
        · refine G_aload_n hC 1 rfl rfl d_By_addPart_50 ?_
          refine G_aload_n hC 1 rfl rfl d_By_addPart_51 ?_
          refine G_get hC fl_By_19 h_2 rfl d_By_addPart_52 ?_
          refine G_aload_n hC 1 rfl rfl d_By_addPart_55 ?_
          refine G_get hC fl_By_7 h_2 rfl d_By_addPart_56 ?_
          refine G_iconst (i := 2) hC d_By_addPart_59 ?_
          refine G_aload_n hC 1 rfl rfl d_By_addPart_60 ?_
          refine G_get hC fl_By_23 h_2 rfl d_By_addPart_61 ?_
          refine G_iload hC 0 rfl d_By_addPart_64 ?_
          refine G_iadd hC d_By_addPart_66 ?_
          refine G_imul hC d_By_addPart_67 ?_
          refine G_minX (c := min lim (2 * ((b.2.length : Int) + (min (to - fr) (lim - (b.2.length : Int)))))) hC hR lm_By_13 (by omega) (by omega) (by omega) (Nat.le_of_ble_eq_true rfl) (Nat.le_of_ble_eq_true rfl) (by omega) (by omega) d_By_addPart_68 ?_
          have h9 := grow_part (lim := lim) (b := b) b2.2 fr to ⟨by omega, by omega⟩ (by omega) (by omega)
          refine G_xS (rest := [.ref a]) hC hR (c_Arr_copyOf (t + 1) h_3 (by omega)) cs_By_26 (by decide) (by omega) (by omega) rfl rfl (Nat.le_of_ble_eq_true rfl) d_By_addPart_71 (fun r_27 M_25 p_26 => ?_)
          obtain ⟨q_28, rfl, h_29, fr_30⟩ := p_26
          show G E M_25 (0 + (1)) (0 + ((min lim (2 * ((b.2.length : Int) + (min (to - fr) (lim - (b.2.length : Int)))))).toNat)) [(4, vI (min (to - fr) (lim - (b.2.length : Int)))), (0, .ref a), (1, .ref o), (2, vI fr), (3, vI to)] [.ref q_28, .ref a] 74
          have h_31 := fr_30.at h_2 (by simp only [List.mem_cons, List.not_mem_nil, or_false, not_or, not_false_eq_true]; try omega)
          refine G_putX (fs' := [vI lim, .ref q_28, vI (b.2.length : Int)]) hC fl_By_19 ft_By fw_By_1 h_31 rfl rfl (Nat.le_of_ble_eq_true rfl) rfl d_By_addPart_74 (fun M_32 h_33 fr_34 => ?_)
          refine G_aload_n hC 2 rfl rfl d_By_addPart_77 ?_
          have h_35 := fr_30.at h_8 (by simp only [List.mem_cons, List.not_mem_nil, or_false, not_or, not_false_eq_true]; try omega)
          have h_36 := fr_34.at h_35 (by simp only [List.mem_cons, List.not_mem_nil, or_false, not_or, not_false_eq_true]; try omega)
          refine G_get hC fl_By_19 h_36 rfl d_By_addPart_78 ?_
          refine G_iload_n hC 3 rfl rfl d_By_addPart_81 ?_
          refine G_aload_n hC 1 rfl rfl d_By_addPart_82 ?_
          refine G_get hC fl_By_19 h_33 rfl d_By_addPart_83 ?_
          refine G_aload_n hC 1 rfl rfl d_By_addPart_86 ?_
          refine G_get hC fl_By_23 h_33 rfl d_By_addPart_87 ?_
          refine G_iload hC 0 rfl d_By_addPart_90 ?_
          have h_37 := h_9.fr fr_30 (by simp only [List.mem_cons, List.not_mem_nil, or_false, not_or, not_false_eq_true]; try omega)
          have h_38 := h_37.fr fr_34 (by simp only [List.mem_cons, List.not_mem_nil, or_false, not_or, not_false_eq_true]; try omega)
          have h_39 := h_29.fr fr_34 (by simp only [List.mem_cons, List.not_mem_nil, or_false, not_or, not_false_eq_true]; try omega)
          refine G_copyBA hC hR lm_By_36 w_acN w_acS w_syI h_38 h_39 (by omega) (by omega) (by omega) (Nat.le_of_ble_eq_true rfl) (Nat.le_of_ble_eq_true rfl) d_By_addPart_92 (fun M_40 h_41 fr_42 => ?_)
          refine G_aload_n hC 1 rfl rfl d_By_addPart_95 ?_
          refine G_dup hC rfl d_By_addPart_96 ?_
          have h_43 := fr_42.at h_33 (by simp only [List.mem_cons, List.not_mem_nil, or_false, not_or, not_false_eq_true]; try omega)
          refine G_get hC fl_By_23 h_43 rfl d_By_addPart_97 ?_
          refine G_iload hC 0 rfl d_By_addPart_100 ?_
          refine G_iadd hC d_By_addPart_102 ?_
          refine G_putX (fs' := [vI lim, .ref q_28, vI ((b.2.length : Int) + (min (to - fr) (lim - (b.2.length : Int))))]) hC fl_By_23 ft_By fw_By_2 h_43 rfl rfl (Nat.le_of_ble_eq_true rfl) rfl d_By_addPart_103 (fun M_44 h_45 fr_46 => ?_)
          have h_47 := h_41.fr fr_46 (by simp only [List.mem_cons, List.not_mem_nil, or_false, not_or, not_false_eq_true]; try omega)
          have e9 : (((b.2 ++ (b2.2.drop fr.toNat).take (min (to - fr) (lim - (b.2.length : Int))).toNat).length : Nat) : Int) = (b.2.length : Int) + min (to - fr) (lim - (b.2.length : Int)) := by rw [List.length_append, List.length_take, List.length_drop]; omega
          exact G_return hC hQ (by omega) (by omega) d_By_addPart_106 ⟨rfl, by rw [addPB_grow (by omega) (by omega)]; exact ⟨q_28, by show _ = some (t, Sum.inr (cBy, [vI lim, .ref q_28, vI (((b.2 ++ (b2.2.drop fr.toNat).take (min (to - fr) (lim - (b.2.length : Int))).toNat).length : Nat) : Int)])); rw [e9]; exact h_45, h_47, by show (((min lim (2 * ((b.2.length : Int) + min (to - fr) (lim - (b.2.length : Int))))).toNat : Nat) : Int) ≤ lim; omega, by omega⟩, ((((fr_30.up (T := [t, t + 1]) (by simp)).tr' (T := [t, t + 1]) fr_34 (fun _ z => z) (by simp)).tr' (T := [t, t + 1]) fr_42 (fun _ z => z) (by simp)).tr' (T := [t, t + 1]) fr_46 (fun _ z => z) (by simp))⟩
      · exact G_return hC hQ (by omega) (by omega) d_By_addPart_17 ⟨rfl, by rw [addPB_none (by omega)]; exact h_B_a, Fr.rf⟩

set_option maxHeartbeats 4000000 in
set_option maxRecDepth 100000 in
theorem c_By_same {l : Launch} {D : Dg} {b0 : Nat} {M : Mp} {a : Nat} {o : Nat} {t : Nat} {lim : Int} {b : Bv} {t2 : Nat} {lim2 : Int} {b2 : Bv} (h_B_a : IsB D M a t lim b) (h_B_o : IsB D M o t2 lim2 b2) : OkP l D b0 1 y_By_same b_By_same 3 (some .boolean) M [.ref a, .ref o] (vI (b2i (decide (b.2 = b2.2)))) := by
  refine Ok_of rfl (Nat.le_of_ble_eq_true rfl) (fun E hC hQ hl hD hB hN hR => ?_)
  subst hl hD hB
  have g_6 := h_B_a.len
  obtain ⟨r_1, h_2, h_3, h_4, h_5⟩ := id h_B_a
  have g_12 := h_B_o.len
  obtain ⟨r_7, h_8, h_9, h_10, h_11⟩ := id h_B_o
  show G E M 0 0 [(0, .ref a), (1, .ref o)] [] 0
  refine G_aload_n hC 0 rfl rfl d_By_same_0 ?_
  refine G_get hC fl_By_23 h_2 rfl d_By_same_1 ?_
  refine G_aload_n hC 1 rfl rfl d_By_same_4 ?_
  refine G_get hC fl_By_23 h_8 rfl d_By_same_5 ?_
  refine G_icmp_eq hC 13 (by omega) (by omega) (by decide) d_By_same_8 (fun c_13 => ?_) (fun c_13 => ?_)
  · refine G_iconst (i := 0) hC d_By_same_13 ?_
    refine G_istore_n (lv' := [(2, vI 0), (0, .ref a), (1, .ref o)]) hC rfl (by rw [hN]; decide) rfl d_By_same_14 ?_
    have L15 : ∀ (N : Nat) (k : Int), ((b.2.length : Int) - k).toNat < N → (0 ≤ k ∧ k ≤ b.2.length) → (∀ j : Nat, (j : Int) < k → b.2.getD j 0 = b2.2.getD j 0) → G E M 0 0 [(0, .ref a), (1, .ref o), (2, vI k)] [] 15 := by
      intro N
      induction N with
      | zero => intro k hN15 hk hv; exact absurd hN15 (Nat.not_lt_zero _)
      | succ N ih15 =>
        intro k hN15 hk hv
        refine G_iload_n hC 2 rfl rfl d_By_same_15 ?_
        refine G_aload_n hC 0 rfl rfl d_By_same_16 ?_
        refine G_get hC fl_By_23 h_2 rfl d_By_same_17 ?_
        refine G_icmp_ge hC 46 (by omega) (by omega) (by decide) d_By_same_20 (fun c_14 => ?_) (fun c_14 => ?_)
        · refine G_iconst (i := 1) hC d_By_same_46 ?_
          exact G_zretP hC hQ d_By_same_47 (b2i_t (decide_eq_true (ext_getD (by omega) (fun j hj => hv j (by omega)))))
        · refine G_aload_n hC 0 rfl rfl d_By_same_23 ?_
          refine G_get hC fl_By_19 h_2 rfl d_By_same_24 ?_
          refine G_iload_n hC 2 rfl rfl d_By_same_27 ?_
          refine G_baldR hC h_3 (by omega) d_By_same_28 ?_
          have g_15 := h_3.rng k
          have g_16 := atS_gx (xs := b.2) (i := k) (by omega)
          refine G_aload_n hC 1 rfl rfl d_By_same_29 ?_
          refine G_get hC fl_By_19 h_8 rfl d_By_same_30 ?_
          refine G_iload_n hC 2 rfl rfl d_By_same_33 ?_
          refine G_baldR hC h_9 (by omega) d_By_same_34 ?_
          have g_17 := h_9.rng k
          have g_18 := atS_gx (xs := b2.2) (i := k) (by omega)
          refine G_icmp_eq hC 40 (by omega) (by omega) (by decide) d_By_same_35 (fun c_19 => ?_) (fun c_19 => ?_)
          · refine G_iinc (lv' := [(2, vI (k + 1)), (0, .ref a), (1, .ref o)]) hC 2 rfl (by rw [hN]; decide) rfl d_By_same_40 ?_
            refine G_goto hC 15 (by decide) d_By_same_43 ?_
            refine G_lv [1, 2, 0] rfl ?_
            exact ih15 (k + 1) (by omega) (by omega) (fun j hj => by
                by_cases hjk : (j : Int) < k
                · exact hv j hjk
                · have hj9 : j = k.toNat := by omega
                  subst hj9
                  exact c_19)
          · refine G_iconst (i := 0) hC d_By_same_38 ?_
            exact G_zretP hC hQ d_By_same_39 (b2i_f (decide_eq_false (fun e => c_19 (by rw [e]))))
    refine G_lv [1, 2, 0] rfl ?_
    exact L15 _ 0 (Nat.lt_succ_self _) (by omega) (fun j hj => absurd hj (by omega))
  · refine G_iconst (i := 0) hC d_By_same_11 ?_
    exact G_zretP hC hQ d_By_same_12 (b2i_f (decide_eq_false (fun e => c_13 (by rw [e]))))
