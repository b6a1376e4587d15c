set_option maxHeartbeats 4000000 in
set_option maxRecDepth 100000 in
theorem c_En_init {l : Launch} {D : Dg} {b0 : Nat} {M : Mp} {a : Nat} {sort : Int} {ad : Int32} {ns : Int} {vs : Int} {t : Nat} (h_obj_a : M a = some (t, .inr (cEn, [vI 0, .int 0, .null, .null]))) (hns : 0 ≤ ns ∧ ns ≤ 20000) (hvs : 0 ≤ vs ∧ vs ≤ 20000) : Ok l D b0 3 y_En_init b_En_init 5 none M [.ref a, vI sort, .int ad, vI ns, vI vs] 4 (6 + (min ns 64 : Int).toNat + (min vs 64 : Int).toNat) (fun r M' => ∃ nm : Nat, ∃ vl : Nat, r = none ∧ M' a = some (t, .inr (cEn, [vI sort, .int ad, .ref nm, .ref vl])) ∧ IsB D M' nm (t + 1) ns ((min ns 64 : Int).toNat, []) ∧ IsB D M' vl (t + 3) vs ((min vs 64 : Int).toNat, []) ∧ Fr [t, t + 1, t + 3] M M') := by
  refine Ok_of rfl (Nat.le_of_ble_eq_true rfl) (fun E hC hQ hl hD hB hN hR => ?_)
  subst hl hD hB
  show G E M 0 0 [(0, .ref a), (1, vI sort), (2, .int ad), (3, vI ns), (4, vI vs)] [] 0
  refine G_aload_n hC 0 rfl rfl d_En_init_0 ?_
  refine G_objI hC hR lm_En_3 (Nat.le_of_ble_eq_true rfl) (Nat.le_of_ble_eq_true rfl) d_En_init_1 ?_
  refine G_aload_n hC 0 rfl rfl d_En_init_4 ?_
  refine G_iload_n hC 1 rfl rfl d_En_init_5 ?_
  refine G_putFX (fs' := [vI sort, .int 0, .null, .null]) hC fl_En_9 ft_En ff_En_0 rfl h_obj_a rfl rfl (Nat.le_of_ble_eq_true rfl) rfl d_En_init_6 (fun M_1 h_2 fr_3 => ?_)
  refine G_aload_n hC 0 rfl rfl d_En_init_9 ?_
  refine G_iload_n hC 2 rfl rfl d_En_init_10 ?_
  refine G_putFX (fs' := [vI sort, .int ad, .null, .null]) hC fl_En_15 ft_En ff_En_1 rfl h_2 rfl rfl (Nat.le_of_ble_eq_true rfl) rfl d_En_init_11 (fun M_4 h_5 fr_6 => ?_)
  refine G_aload_n hC 0 rfl rfl d_En_init_14 ?_
  refine G_newX (t + 1) [vI 0, .null, vI 0] hC hR nw_En_18 (fun j hj => by rcases (show j = 0 ∨ j = 1 ∨ j = 2 by omega) with rfl | rfl | rfl <;> rfl) (by omega) (by omega) d_En_init_15 (fun q_7 M_8 h_9 fr_10 => ?_)
  refine G_dup hC rfl d_En_init_18 ?_
  refine G_iload_n hC 3 rfl rfl d_En_init_19 ?_
  refine G_xI (rest := [.ref q_7, .ref a]) hC hR (c_By_init h_9 (by omega)) ci_En_20 (by decide) (by omega) (by omega) rfl rfl (Nat.le_of_ble_eq_true rfl) d_En_init_20 (fun r_13 M_11 p_12 => ?_)
  obtain ⟨rfl, h_14, fr_15⟩ := p_12
  show G E M_11 (0 + 1 + (1)) (0 + 3 + ((min ns 64 : Int).toNat)) [(0, .ref a), (1, vI sort), (2, .int ad), (3, vI ns), (4, vI vs)] [.ref q_7, .ref a] 23
  have h_16 := fr_10.at h_5 (by simp only [List.mem_cons, List.not_mem_nil, or_false, not_or, not_false_eq_true]; try omega)
  have h_17 := fr_15.at h_16 (by simp only [List.mem_cons, List.not_mem_nil, or_false, not_or, not_false_eq_true]; try omega)
  refine G_putFX (fs' := [vI sort, .int ad, .ref q_7, .null]) hC fl_En_23 ft_En ff_En_2 rfl h_17 rfl rfl (Nat.le_of_ble_eq_true rfl) rfl d_En_init_23 (fun M_18 h_19 fr_20 => ?_)
  refine G_aload_n hC 0 rfl rfl d_En_init_26 ?_
  refine G_newX (t + 3) [vI 0, .null, vI 0] hC hR nw_En_18 (fun j hj => by rcases (show j = 0 ∨ j = 1 ∨ j = 2 by omega) with rfl | rfl | rfl <;> rfl) (by omega) (by omega) d_En_init_27 (fun q_21 M_22 h_23 fr_24 => ?_)
  refine G_dup hC rfl d_En_init_30 ?_
  refine G_iload hC 4 rfl d_En_init_31 ?_
  refine G_xI (rest := [.ref q_21, .ref a]) hC hR (c_By_init h_23 (by omega)) ci_En_20 (by decide) (by omega) (by omega) rfl rfl (Nat.le_of_ble_eq_true rfl) d_En_init_33 (fun r_27 M_25 p_26 => ?_)
  obtain ⟨rfl, h_28, fr_29⟩ := p_26
  show G E M_25 (0 + 1 + (1) + 1 + (1)) (0 + 3 + ((min ns 64 : Int).toNat) + 3 + ((min vs 64 : Int).toNat)) [(0, .ref a), (1, vI sort), (2, .int ad), (3, vI ns), (4, vI vs)] [.ref q_21, .ref a] 36
  have h_30 := fr_24.at h_19 (by simp only [List.mem_cons, List.not_mem_nil, or_false, not_or, not_false_eq_true]; try omega)
  have h_31 := fr_29.at h_30 (by simp only [List.mem_cons, List.not_mem_nil, or_false, not_or, not_false_eq_true]; try omega)
  refine G_putFX (fs' := [vI sort, .int ad, .ref q_7, .ref q_21]) hC fl_En_27 ft_En ff_En_3 rfl h_31 rfl rfl (Nat.le_of_ble_eq_true rfl) rfl d_En_init_36 (fun M_32 h_33 fr_34 => ?_)
  have h_35 := h_14.fr fr_20 (by simp only [List.mem_cons, List.not_mem_nil, or_false, not_or, not_false_eq_true]; try omega) (by simp only [List.mem_cons, List.not_mem_nil, or_false, not_or, not_false_eq_true]; try omega)
  have h_36 := h_35.fr fr_24 (by simp only [List.mem_cons, List.not_mem_nil, or_false, not_or, not_false_eq_true]; try omega) (by simp only [List.mem_cons, List.not_mem_nil, or_false, not_or, not_false_eq_true]; try omega)
  have h_37 := h_36.fr fr_29 (by simp only [List.mem_cons, List.not_mem_nil, or_false, not_or, not_false_eq_true]; try omega) (by simp only [List.mem_cons, List.not_mem_nil, or_false, not_or, not_false_eq_true]; try omega)
  have h_38 := h_37.fr fr_34 (by simp only [List.mem_cons, List.not_mem_nil, or_false, not_or, not_false_eq_true]; try omega) (by simp only [List.mem_cons, List.not_mem_nil, or_false, not_or, not_false_eq_true]; try omega)
  have h_39 := h_28.fr fr_34 (by simp only [List.mem_cons, List.not_mem_nil, or_false, not_or, not_false_eq_true]; try omega) (by simp only [List.mem_cons, List.not_mem_nil, or_false, not_or, not_false_eq_true]; try omega)
  exact G_return hC hQ (by omega) (by omega) d_En_init_39 ⟨_, _, rfl, h_33, h_38, h_39, ((((((((fr_3.up (T := [t, t + 1, t + 3]) (by simp)).tr' (T := [t, t + 1, t + 3]) fr_6 (fun _ z => z) (by simp)).tr' (T := [t, t + 1, t + 3]) fr_10 (fun _ z => z) (by simp)).tr' (T := [t, t + 1, t + 3]) fr_15 (fun _ z => z) (by simp)).tr' (T := [t, t + 1, t + 3]) fr_20 (fun _ z => z) (by simp)).tr' (T := [t, t + 1, t + 3]) fr_24 (fun _ z => z) (by simp)).tr' (T := [t, t + 1, t + 3]) fr_29 (fun _ z => z) (by simp)).tr' (T := [t, t + 1, t + 3]) fr_34 (fun _ z => z) (by simp))⟩

set_option maxHeartbeats 4000000 in
set_option maxRecDepth 100000 in
theorem c_Te_init {l : Launch} {D : Dg} {b0 : Nat} {M : Mp} {a : Nat}  : OkV l D b0 2 y_Te_init b_Te_init 1 none M [.ref a] := by
  refine Ok_of rfl (Nat.le_of_ble_eq_true rfl) (fun E hC hQ hl hD hB hN hR => ?_)
  subst hl hD hB
  show G E M 0 0 [(0, .ref a)] [] 0
  refine G_aload_n hC 0 rfl rfl d_Te_init_0 ?_
  refine G_objI hC hR lm_Te_3 (Nat.le_of_ble_eq_true rfl) (Nat.le_of_ble_eq_true rfl) d_Te_init_1 ?_
  exact G_vretP hC hQ d_Te_init_4

set_option maxHeartbeats 4000000 in
set_option maxRecDepth 100000 in
theorem c_Le_init {l : Launch} {D : Dg} {b0 : Nat} {M : Mp} {a : Nat} {t : Nat} (h_obj_a : M a = some (t, .inr (cLe, [.null, .null, vI 0, vI 0]))) : Ok l D b0 3 y_Le_init b_Le_init 1 none M [.ref a] 3 70 (fun r M' => ∃ nm : Nat, ∃ te : Nat, r = none ∧ M' a = some (t, .inr (cLe, [.ref nm, .ref te, vI 0, vI 0])) ∧ IsB D M' nm (t + 1) 61 (61, []) ∧ M' te = some (t + 3, .inr (cTe, [vI 0, vI 0, vI 0, .int 0, vI 0, vI 0])) ∧ Fr [t, t + 1, t + 3] M M') := by
  refine Ok_of rfl (Nat.le_of_ble_eq_true rfl) (fun E hC hQ hl hD hB hN hR => ?_)
  subst hl hD hB
  show G E M 0 0 [(0, .ref a)] [] 0
  refine G_aload_n hC 0 rfl rfl d_Le_init_0 ?_
  refine G_objI hC hR lm_Le_3 (Nat.le_of_ble_eq_true rfl) (Nat.le_of_ble_eq_true rfl) d_Le_init_1 ?_
  refine G_aload_n hC 0 rfl rfl d_Le_init_4 ?_
  refine G_newX (t + 1) [vI 0, .null, vI 0] hC hR nw_Le_9 (fun j hj => by rcases (show j = 0 ∨ j = 1 ∨ j = 2 by omega) with rfl | rfl | rfl <;> rfl) (by omega) (by omega) d_Le_init_5 (fun q_1 M_2 h_3 fr_4 => ?_)
  refine G_dup hC rfl d_Le_init_8 ?_
  refine G_bipush (j := 61) hC (by decide +kernel) d_Le_init_9 ?_
  refine G_xI (rest := [.ref q_1, .ref a]) hC hR (c_By_init h_3 (by omega)) ci_Le_11 (by decide) (by omega) (by omega) rfl rfl (Nat.le_of_ble_eq_true rfl) d_Le_init_11 (fun r_7 M_5 p_6 => ?_)
  obtain ⟨rfl, h_8, fr_9⟩ := p_6
  show G E M_5 (0 + 1 + (1)) (0 + 3 + ((min 61 64 : Int).toNat)) [(0, .ref a)] [.ref q_1, .ref a] 14
  have h_10 := fr_4.at h_obj_a (by simp only [List.mem_cons, List.not_mem_nil, or_false, not_or, not_false_eq_true]; try omega)
  have h_11 := fr_9.at h_10 (by simp only [List.mem_cons, List.not_mem_nil, or_false, not_or, not_false_eq_true]; try omega)
  refine G_putFX (fs' := [.ref q_1, .null, vI 0, vI 0]) hC fl_Le_14 ft_Le ff_Le_0 rfl h_11 rfl rfl (Nat.le_of_ble_eq_true rfl) rfl d_Le_init_14 (fun M_12 h_13 fr_14 => ?_)
  refine G_aload_n hC 0 rfl rfl d_Le_init_17 ?_
  refine G_newX (t + 3) [vI 0, vI 0, vI 0, .int 0, vI 0, vI 0] hC hR nw_Le_20 (fun j hj => by rcases (show j = 0 ∨ j = 1 ∨ j = 2 ∨ j = 3 ∨ j = 4 ∨ j = 5 by omega) with rfl | rfl | rfl | rfl | rfl | rfl <;> rfl) (by omega) (by omega) d_Le_init_18 (fun q_15 M_16 h_17 fr_18 => ?_)
  refine G_dup hC rfl d_Le_init_21 ?_
  refine G_vIN (rest := [.ref q_15, .ref a]) hC hR c_Te_init cm_Le_22 (by decide) (by omega) (by omega) rfl rfl (Nat.le_of_ble_eq_true rfl) d_Le_init_22 ?_
  have h_19 := fr_18.at h_13 (by simp only [List.mem_cons, List.not_mem_nil, or_false, not_or, not_false_eq_true]; try omega)
  refine G_putFX (fs' := [.ref q_1, .ref q_15, vI 0, vI 0]) hC fl_Le_23 ft_Le ff_Le_1 rfl h_19 rfl rfl (Nat.le_of_ble_eq_true rfl) rfl d_Le_init_25 (fun M_20 h_21 fr_22 => ?_)
  refine G_aload_n hC 0 rfl rfl d_Le_init_28 ?_
  refine G_iconst (i := 0) hC d_Le_init_29 ?_
  refine G_putX (fs' := [.ref q_1, .ref q_15, vI 0, vI 0]) hC fl_Le_27 ft_Le fw_Le_2 h_21 rfl rfl (Nat.le_of_ble_eq_true rfl) rfl d_Le_init_30 (fun M_23 h_24 fr_25 => ?_)
  refine G_aload_n hC 0 rfl rfl d_Le_init_33 ?_
  refine G_iconst (i := 0) hC d_Le_init_34 ?_
  refine G_putX (fs' := [.ref q_1, .ref q_15, vI 0, vI 0]) hC fl_Le_31 ft_Le fw_Le_3 h_24 rfl rfl (Nat.le_of_ble_eq_true rfl) rfl d_Le_init_35 (fun M_26 h_27 fr_28 => ?_)
  have h_29 := h_8.fr fr_14 (by simp only [List.mem_cons, List.not_mem_nil, or_false, not_or, not_false_eq_true]; try omega) (by simp only [List.mem_cons, List.not_mem_nil, or_false, not_or, not_false_eq_true]; try omega)
  have h_30 := h_29.fr fr_18 (by simp only [List.mem_cons, List.not_mem_nil, or_false, not_or, not_false_eq_true]; try omega) (by simp only [List.mem_cons, List.not_mem_nil, or_false, not_or, not_false_eq_true]; try omega)
  have h_31 := h_30.fr fr_22 (by simp only [List.mem_cons, List.not_mem_nil, or_false, not_or, not_false_eq_true]; try omega) (by simp only [List.mem_cons, List.not_mem_nil, or_false, not_or, not_false_eq_true]; try omega)
  have h_32 := h_31.fr fr_25 (by simp only [List.mem_cons, List.not_mem_nil, or_false, not_or, not_false_eq_true]; try omega) (by simp only [List.mem_cons, List.not_mem_nil, or_false, not_or, not_false_eq_true]; try omega)
  have h_33 := h_32.fr fr_28 (by simp only [List.mem_cons, List.not_mem_nil, or_false, not_or, not_false_eq_true]; try omega) (by simp only [List.mem_cons, List.not_mem_nil, or_false, not_or, not_false_eq_true]; try omega)
  have h_34 := fr_22.at h_17 (by simp only [List.mem_cons, List.not_mem_nil, or_false, not_or, not_false_eq_true]; try omega)
  have h_35 := fr_25.at h_34 (by simp only [List.mem_cons, List.not_mem_nil, or_false, not_or, not_false_eq_true]; try omega)
  have h_36 := fr_28.at h_35 (by simp only [List.mem_cons, List.not_mem_nil, or_false, not_or, not_false_eq_true]; try omega)
  exact G_return hC hQ (by omega) (by omega) d_Le_init_38 ⟨_, _, rfl, h_27, h_33, h_36, (((((((fr_4.up (T := [t, t + 1, t + 3]) (by simp)).tr' (T := [t, t + 1, t + 3]) fr_9 (fun _ z => z) (by simp)).tr' (T := [t, t + 1, t + 3]) fr_14 (fun _ z => z) (by simp)).tr' (T := [t, t + 1, t + 3]) fr_18 (fun _ z => z) (by simp)).tr' (T := [t, t + 1, t + 3]) fr_22 (fun _ z => z) (by simp)).tr' (T := [t, t + 1, t + 3]) fr_25 (fun _ z => z) (by simp)).tr' (T := [t, t + 1, t + 3]) fr_28 (fun _ z => z) (by simp))⟩

set_option maxHeartbeats 4000000 in
set_option maxRecDepth 100000 in
theorem c_Se_init {l : Launch} {D : Dg} {b0 : Nat} {M : Mp} {a : Nat} (h_obj_a : M a = some (8, .inr (cSe, [.null, .null, .null, .null, .int 0]))) : Ok l D b0 3 y_Se_init b_Se_init 1 none M [.ref a] 8 (12 + 64 + 30 + 60 + 15) (fun r M' => r = none ∧ IsSe D M' a none ∧ Fr [8, 9, 11, 13, 15] M M') := by
  refine Ok_of rfl (Nat.le_of_ble_eq_true rfl) (fun E hC hQ hl hD hB hN hR => ?_)
  subst hl hD hB
  show G E M 0 0 [(0, .ref a)] [] 0
  refine G_aload_n hC 0 rfl rfl d_Se_init_0 ?_
  refine G_objI hC hR lm_Se_3 (Nat.le_of_ble_eq_true rfl) (Nat.le_of_ble_eq_true rfl) d_Se_init_1 ?_
  refine G_aload_n hC 0 rfl rfl d_Se_init_4 ?_
  refine G_newX 9 [vI 0, .null, vI 0] hC hR nw_Se_9 (fun j hj => by rcases (show j = 0 ∨ j = 1 ∨ j = 2 by omega) with rfl | rfl | rfl <;> rfl) (by omega) (by omega) d_Se_init_5 (fun q_1 M_2 h_3 fr_4 => ?_)
  refine G_dup hC rfl d_Se_init_8 ?_
  refine G_bipush (j := 91) hC (by decide +kernel) d_Se_init_9 ?_
  refine G_xI (rest := [.ref q_1, .ref a]) hC hR (c_By_init h_3 (by omega)) ci_Se_11 (by decide) (by omega) (by omega) rfl rfl (Nat.le_of_ble_eq_true rfl) d_Se_init_11 (fun r_7 M_5 p_6 => ?_)
  obtain ⟨rfl, h_8, fr_9⟩ := p_6
  show G E M_5 (0 + 1 + (1)) (0 + 3 + ((min 91 64 : Int).toNat)) [(0, .ref a)] [.ref q_1, .ref a] 14
  have h_10 := fr_4.at h_obj_a (by decide)
  have h_11 := fr_9.at h_10 (by decide)
  refine G_putFX (fs' := [.ref q_1, .null, .null, .null, .int 0]) hC fl_Se_14 ft_Se ff_Se_0 rfl h_11 rfl rfl (Nat.le_of_ble_eq_true rfl) rfl d_Se_init_14 (fun M_12 h_13 fr_14 => ?_)
  refine G_aload_n hC 0 rfl rfl d_Se_init_17 ?_
  refine G_newX 11 [vI 0, .null, vI 0] hC hR nw_Se_9 (fun j hj => by rcases (show j = 0 ∨ j = 1 ∨ j = 2 by omega) with rfl | rfl | rfl <;> rfl) (by omega) (by omega) d_Se_init_18 (fun q_15 M_16 h_17 fr_18 => ?_)
  refine G_dup hC rfl d_Se_init_21 ?_
  refine G_bipush (j := 30) hC (by decide +kernel) d_Se_init_22 ?_
  refine G_xI (rest := [.ref q_15, .ref a]) hC hR (c_By_init h_17 (by omega)) ci_Se_11 (by decide) (by omega) (by omega) rfl rfl (Nat.le_of_ble_eq_true rfl) d_Se_init_24 (fun r_21 M_19 p_20 => ?_)
  obtain ⟨rfl, h_22, fr_23⟩ := p_20
  show G E M_19 (0 + 1 + (1) + 1 + (1)) (0 + 3 + ((min 91 64 : Int).toNat) + 3 + ((min 30 64 : Int).toNat)) [(0, .ref a)] [.ref q_15, .ref a] 27
  have h_24 := fr_18.at h_13 (by decide)
  have h_25 := fr_23.at h_24 (by decide)
  refine G_putFX (fs' := [.ref q_1, .ref q_15, .null, .null, .int 0]) hC fl_Se_20 ft_Se ff_Se_1 rfl h_25 rfl rfl (Nat.le_of_ble_eq_true rfl) rfl d_Se_init_27 (fun M_26 h_27 fr_28 => ?_)
  refine G_aload_n hC 0 rfl rfl d_Se_init_30 ?_
  refine G_newX 13 [vI 0, .null, vI 0] hC hR nw_Se_9 (fun j hj => by rcases (show j = 0 ∨ j = 1 ∨ j = 2 by omega) with rfl | rfl | rfl <;> rfl) (by omega) (by omega) d_Se_init_31 (fun q_29 M_30 h_31 fr_32 => ?_)
  refine G_dup hC rfl d_Se_init_34 ?_
  refine G_bipush (j := 60) hC (by decide +kernel) d_Se_init_35 ?_
  refine G_xI (rest := [.ref q_29, .ref a]) hC hR (c_By_init h_31 (by omega)) ci_Se_11 (by decide) (by omega) (by omega) rfl rfl (Nat.le_of_ble_eq_true rfl) d_Se_init_37 (fun r_35 M_33 p_34 => ?_)
  obtain ⟨rfl, h_36, fr_37⟩ := p_34
  show G E M_33 (0 + 1 + (1) + 1 + (1) + 1 + (1)) (0 + 3 + ((min 91 64 : Int).toNat) + 3 + ((min 30 64 : Int).toNat) + 3 + ((min 60 64 : Int).toNat)) [(0, .ref a)] [.ref q_29, .ref a] 40
  have h_38 := fr_32.at h_27 (by decide)
  have h_39 := fr_37.at h_38 (by decide)
  refine G_putFX (fs' := [.ref q_1, .ref q_15, .ref q_29, .null, .int 0]) hC fl_Se_23 ft_Se ff_Se_2 rfl h_39 rfl rfl (Nat.le_of_ble_eq_true rfl) rfl d_Se_init_40 (fun M_40 h_41 fr_42 => ?_)
  refine G_aload_n hC 0 rfl rfl d_Se_init_43 ?_
  refine G_newX 15 [vI 0, .null, vI 0] hC hR nw_Se_9 (fun j hj => by rcases (show j = 0 ∨ j = 1 ∨ j = 2 by omega) with rfl | rfl | rfl <;> rfl) (by omega) (by omega) d_Se_init_44 (fun q_43 M_44 h_45 fr_46 => ?_)
  refine G_dup hC rfl d_Se_init_47 ?_
  refine G_bipush (j := 15) hC (by decide +kernel) d_Se_init_48 ?_
  refine G_xI (rest := [.ref q_43, .ref a]) hC hR (c_By_init h_45 (by omega)) ci_Se_11 (by decide) (by omega) (by omega) rfl rfl (Nat.le_of_ble_eq_true rfl) d_Se_init_50 (fun r_49 M_47 p_48 => ?_)
  obtain ⟨rfl, h_50, fr_51⟩ := p_48
  show G E M_47 (0 + 1 + (1) + 1 + (1) + 1 + (1) + 1 + (1)) (0 + 3 + ((min 91 64 : Int).toNat) + 3 + ((min 30 64 : Int).toNat) + 3 + ((min 60 64 : Int).toNat) + 3 + ((min 15 64 : Int).toNat)) [(0, .ref a)] [.ref q_43, .ref a] 53
  have h_52 := fr_46.at h_41 (by decide)
  have h_53 := fr_51.at h_52 (by decide)
  refine G_putFX (fs' := [.ref q_1, .ref q_15, .ref q_29, .ref q_43, .int 0]) hC fl_Se_26 ft_Se ff_Se_3 rfl h_53 rfl rfl (Nat.le_of_ble_eq_true rfl) rfl d_Se_init_53 (fun M_54 h_55 fr_56 => ?_)
  refine G_aload_n hC 0 rfl rfl d_Se_init_56 ?_
  refine G_iconst (i := 0) hC d_Se_init_57 ?_
  refine G_putX (fs' := [.ref q_1, .ref q_15, .ref q_29, .ref q_43, vI 0]) hC fl_Se_29 ft_Se fw_Se_4 h_55 rfl rfl (Nat.le_of_ble_eq_true rfl) rfl d_Se_init_58 (fun M_57 h_58 fr_59 => ?_)
  have h_60 := h_8.fr fr_14 (by decide) (by decide)
  have h_61 := h_60.fr fr_18 (by decide) (by decide)
  have h_62 := h_61.fr fr_23 (by decide) (by decide)
  have h_63 := h_62.fr fr_28 (by decide) (by decide)
  have h_64 := h_63.fr fr_32 (by decide) (by decide)
  have h_65 := h_64.fr fr_37 (by decide) (by decide)
  have h_66 := h_65.fr fr_42 (by decide) (by decide)
  have h_67 := h_66.fr fr_46 (by decide) (by decide)
  have h_68 := h_67.fr fr_51 (by decide) (by decide)
  have h_69 := h_68.fr fr_56 (by decide) (by decide)
  have h_70 := h_69.fr fr_59 (by decide) (by decide)
  have h_71 := h_22.fr fr_28 (by decide) (by decide)
  have h_72 := h_71.fr fr_32 (by decide) (by decide)
  have h_73 := h_72.fr fr_37 (by decide) (by decide)
  have h_74 := h_73.fr fr_42 (by decide) (by decide)
  have h_75 := h_74.fr fr_46 (by decide) (by decide)
  have h_76 := h_75.fr fr_51 (by decide) (by decide)
  have h_77 := h_76.fr fr_56 (by decide) (by decide)
  have h_78 := h_77.fr fr_59 (by decide) (by decide)
  have h_79 := h_36.fr fr_42 (by decide) (by decide)
  have h_80 := h_79.fr fr_46 (by decide) (by decide)
  have h_81 := h_80.fr fr_51 (by decide) (by decide)
  have h_82 := h_81.fr fr_56 (by decide) (by decide)
  have h_83 := h_82.fr fr_59 (by decide) (by decide)
  have h_84 := h_50.fr fr_56 (by decide) (by decide)
  have h_85 := h_84.fr fr_59 (by decide) (by decide)
  exact G_return hC hQ (by omega) (by omega) d_Se_init_61 ⟨rfl, ⟨_, _, _, _, _, _, _, _, _, h_58, h_70, h_78, h_83, h_85, rfl, fun _ => rfl, fun s9 h9 => by cases h9⟩, (((((((((((((fr_4.up (T := [8, 9, 11, 13, 15]) (by simp)).tr' (T := [8, 9, 11, 13, 15]) fr_9 (fun _ z => z) (by simp)).tr' (T := [8, 9, 11, 13, 15]) fr_14 (fun _ z => z) (by simp)).tr' (T := [8, 9, 11, 13, 15]) fr_18 (fun _ z => z) (by simp)).tr' (T := [8, 9, 11, 13, 15]) fr_23 (fun _ z => z) (by simp)).tr' (T := [8, 9, 11, 13, 15]) fr_28 (fun _ z => z) (by simp)).tr' (T := [8, 9, 11, 13, 15]) fr_32 (fun _ z => z) (by simp)).tr' (T := [8, 9, 11, 13, 15]) fr_37 (fun _ z => z) (by simp)).tr' (T := [8, 9, 11, 13, 15]) fr_42 (fun _ z => z) (by simp)).tr' (T := [8, 9, 11, 13, 15]) fr_46 (fun _ z => z) (by simp)).tr' (T := [8, 9, 11, 13, 15]) fr_51 (fun _ z => z) (by simp)).tr' (T := [8, 9, 11, 13, 15]) fr_56 (fun _ z => z) (by simp)).tr' (T := [8, 9, 11, 13, 15]) fr_59 (fun _ z => z) (by simp))⟩

set_option maxHeartbeats 4000000 in
set_option maxRecDepth 100000 in
theorem c_Se_isKnown {l : Launch} {D : Dg} {b0 : Nat} {M : Mp} {a : Nat} {so : Option Snd} (h_Se_a : IsSe D M a so) : OkP l D b0 2 y_Se_isKnown b_Se_isKnown 1 (some .boolean) M [.ref a] (vI (b2i so.isSome)) := by
  refine Ok_of rfl (Nat.le_of_ble_eq_true rfl) (fun E hC hQ hl hD hB hN hR => ?_)
  subst hl hD hB
  obtain ⟨m_1, l_2, d_3, e_4, bm_5, bl_6, bd_7, be_8, ad_9, h_10, h_11, h_12, h_13, h_14, h_15, h_16, h_17⟩ := id h_Se_a
  have hm9 := h_11.len
  show G E M 0 0 [(0, .ref a)] [] 0
  refine G_aload_n hC 0 rfl rfl d_Se_isKnown_0 ?_
  refine G_get hC fl_Se_14 h_10 rfl d_Se_isKnown_1 ?_
  refine G_pV (rest := []) hC hR (c_By_size h_11) cv_Se_33 h_11.obj (by decide) (by omega) (by omega) rfl rfl (Nat.le_of_ble_eq_true rfl) d_Se_isKnown_4 ?_
  have g_18 := h_11.len
  refine G_if_le hC 14 (by omega) (by decide) d_Se_isKnown_7 (fun c_19 => ?_) (fun c_19 => ?_)
  · refine G_iconst (i := 0) hC d_Se_isKnown_14 ?_
    exact G_zretP hC hQ d_Se_isKnown_15 (b2i_f (by cases so with | none => rfl | some s9 => (have h9 := congrArg List.length (h_17 s9 rfl).2.1; rw [List.length_append, List.length_append, List.length_singleton] at h9; exfalso; omega)))
  · refine G_iconst (i := 1) hC d_Se_isKnown_10 ?_
    refine G_goto hC 15 (by decide) d_Se_isKnown_11 ?_
    exact G_zretP hC hQ d_Se_isKnown_15 (b2i_t (by cases so with | none => (have h9 := congrArg List.length (h_16 rfl); rw [List.length_nil] at h9; exfalso; omega) | some s9 => rfl))

set_option maxHeartbeats 4000000 in
set_option maxRecDepth 100000 in
theorem c_Se_address {l : Launch} {D : Dg} {b0 : Nat} {M : Mp} {a : Nat} {sd : Snd} (h_Se_a : IsSe D M a (some sd)) : OkP l D b0 1 y_Se_address b_Se_address 1 (some .int) M [.ref a] (.int sd.2.2) := by
  refine Ok_of rfl (Nat.le_of_ble_eq_true rfl) (fun E hC hQ hl hD hB hN hR => ?_)
  subst hl hD hB
  obtain ⟨m_1, l_2, d_3, e_4, bm_5, bl_6, bd_7, be_8, ad_9, h_10, h_11, h_12, h_13, h_14, h_15, h_16, h_17⟩ := id h_Se_a
  obtain ⟨-, -, -, -, -, had9⟩ := h_17 _ rfl
  subst had9
  show G E M 0 0 [(0, .ref a)] [] 0
  refine G_aload_n hC 0 rfl rfl d_Se_address_0 ?_
  refine G_get hC fl_Se_29 h_10 rfl d_Se_address_1 ?_
  exact G_xretP hC hQ d_Se_address_4

set_option maxHeartbeats 4000000 in
set_option maxRecDepth 100000 in
theorem c_Se_domain {l : Launch} {D : Dg} {b0 : Nat} {M : Mp} {a : Nat} {sd : Snd} (h_Se_a : IsSe D M a (some sd)) : Ok l D b0 1 y_Se_domain b_Se_domain 1 (some (.object "SendPolicy$Bytes")) M [.ref a] 0 0 (fun r M' => ∃ q : Nat, ∃ bq : Bv, r = some (.ref q) ∧ IsB D M' q 13 60 bq ∧ (bq.2 = sd.2.1) ∧ M = M') := by
  refine Ok_of rfl (Nat.le_of_ble_eq_true rfl) (fun E hC hQ hl hD hB hN hR => ?_)
  subst hl hD hB
  obtain ⟨m_1, l_2, d_3, e_4, bm_5, bl_6, bd_7, be_8, ad_9, h_10, h_11, h_12, h_13, h_14, h_15, h_16, h_17⟩ := id h_Se_a
  show G E M 0 0 [(0, .ref a)] [] 0
  refine G_aload_n hC 0 rfl rfl d_Se_domain_0 ?_
  refine G_get hC fl_Se_23 h_10 rfl d_Se_domain_1 ?_
  exact G_areturn hC hQ (Or.inl ⟨_, rfl⟩) (Or.inr ⟨_, rfl⟩) (by omega) (by omega) d_Se_domain_4 ⟨d_3, _, rfl, h_13, (h_17 _ rfl).2.2.2.1, rfl⟩

set_option maxHeartbeats 4000000 in
set_option maxRecDepth 100000 in
theorem c_Se_source {l : Launch} {D : Dg} {b0 : Nat} {M : Mp} {a : Nat} {c : Int} {o : Nat} {t : Nat} {lim : Int} {b : Bv} {sd : Snd} (h_Se_a : IsSe D M a (some sd)) (h_B_o : IsB D M o t lim b) (hc : -2147483648 ≤ c ∧ c ≤ 2147483647) : Ok l D b0 1 y_Se_source b_Se_source 3 (some (.object "SendPolicy$Bytes")) M [.ref a, vI c, .ref o] 0 0 (fun r M' => ∃ q : Nat, ∃ tq : Nat, ∃ lq : Int, ∃ bq : Bv, r = some (.ref q) ∧ IsB D M' q tq lq bq ∧ (bq.2 = srcS sd b.2 c ∧ ((9 ≤ tq ∧ tq ≤ 15) ∨ tq = t)) ∧ M = M') := by
  refine Ok_of rfl (Nat.le_of_ble_eq_true rfl) (fun E hC hQ hl hD hB hN hR => ?_)
  subst hl hD hB
  obtain ⟨m_1, l_2, d_3, e_4, bm_5, bl_6, bd_7, be_8, ad_9, h_10, h_11, h_12, h_13, h_14, h_15, h_16, h_17⟩ := id h_Se_a
  obtain ⟨hs1, hs2, hs3, hs4, hs5, hs6⟩ := h_17 _ rfl
  show G E M 0 0 [(0, .ref a), (1, vI c), (2, .ref o)] [] 0
  refine G_iload_n hC 1 rfl rfl d_Se_source_0 ?_
  by_cases c_18 : c = 105
  · refine G_look 59 hC (by omega) rfl (by rw [c_18]; try rfl) (by decide) d_Se_source_1 ?_
    refine G_aload_n hC 0 rfl rfl d_Se_source_59 ?_
    refine G_get hC fl_Se_26 h_10 rfl d_Se_source_60 ?_
    exact G_areturn hC hQ (Or.inl ⟨_, rfl⟩) (Or.inr ⟨_, rfl⟩) (by omega) (by omega) d_Se_source_63 ⟨e_4, _, _, _, rfl, h_14, ⟨by unfold srcS; rw [if_neg (by omega), if_neg (by omega), if_neg (by omega), if_pos (by omega)]; exact hs5, Or.inl (by omega)⟩, rfl⟩
  by_cases c_19 : c = 108
  · refine G_look 49 hC (by omega) rfl (by rw [c_19]; try rfl) (by decide) d_Se_source_1 ?_
    refine G_aload_n hC 0 rfl rfl d_Se_source_49 ?_
    refine G_get hC fl_Se_20 h_10 rfl d_Se_source_50 ?_
    exact G_areturn hC hQ (Or.inl ⟨_, rfl⟩) (Or.inr ⟨_, rfl⟩) (by omega) (by omega) d_Se_source_53 ⟨l_2, _, _, _, rfl, h_12, ⟨by unfold srcS; rw [if_neg (by omega), if_pos (by omega)]; exact hs3, Or.inl (by omega)⟩, rfl⟩
  by_cases c_20 : c = 111
  · refine G_look 54 hC (by omega) rfl (by rw [c_20]; try rfl) (by decide) d_Se_source_1 ?_
    refine G_aload_n hC 0 rfl rfl d_Se_source_54 ?_
    refine G_get hC fl_Se_23 h_10 rfl d_Se_source_55 ?_
    exact G_areturn hC hQ (Or.inl ⟨_, rfl⟩) (Or.inr ⟨_, rfl⟩) (by omega) (by omega) d_Se_source_58 ⟨d_3, _, _, _, rfl, h_13, ⟨by unfold srcS; rw [if_neg (by omega), if_neg (by omega), if_pos (by omega)]; exact hs4, Or.inl (by omega)⟩, rfl⟩
  by_cases c_21 : c = 115
  · refine G_look 44 hC (by omega) rfl (by rw [c_21]; try rfl) (by decide) d_Se_source_1 ?_
    refine G_aload_n hC 0 rfl rfl d_Se_source_44 ?_
    refine G_get hC fl_Se_14 h_10 rfl d_Se_source_45 ?_
    exact G_areturn hC hQ (Or.inl ⟨_, rfl⟩) (Or.inr ⟨_, rfl⟩) (by omega) (by omega) d_Se_source_48 ⟨m_1, _, _, _, rfl, h_11, ⟨by unfold srcS; rw [if_pos (by omega)]; exact hs2, Or.inl (by omega)⟩, rfl⟩
  refine G_look (off := 63) 64 hC (by omega) rfl (by simp only [Op.lookupswitch.offset]; rw [if_neg (by omega), if_neg (by omega), if_neg (by omega), if_neg (by omega)]) (by decide) d_Se_source_1 ?_
  refine G_aload_n hC 2 rfl rfl d_Se_source_64 ?_
  exact G_areturn hC hQ (Or.inl ⟨_, rfl⟩) (Or.inr ⟨_, rfl⟩) (by omega) (by omega) d_Se_source_65 ⟨o, _, _, _, rfl, h_B_o, ⟨by unfold srcS; rw [if_neg (by omega), if_neg (by omega), if_neg (by omega), if_neg (by omega)], Or.inr rfl⟩, rfl⟩

set_option maxHeartbeats 4000000 in
set_option maxRecDepth 100000 in
theorem c_Se_refill {l : Launch} {D : Dg} {b0 : Nat} {M : Mp} {a : Nat} {o : Nat} {fr : Int} {to : Int} {t : Nat} {lim : Int} {b : Bv} {t2 : Nat} {lim2 : Int} {b2 : Bv} (h_B_a : IsB D M a t lim b) (h_B_o : IsB D M o t2 lim2 b2) (hfr : -100000 ≤ fr ∧ fr ≤ 100000) (hto : -100000 ≤ to ∧ to ≤ 100000) (htt : t2 ≠ t ∧ t2 ≠ t + 1 ∧ t2 + 1 ≠ t ∧ t2 + 1 ≠ t + 1) : Ok l D b0 4 y_Se_refill b_Se_refill 4 none M [.ref a, .ref o, vI fr, vI to] (psi lim (addPB lim (b.1, []) b2.2 fr to) - psi lim b) (psi lim (addPB lim (b.1, []) b2.2 fr to) - psi lim b) (fun r M' => r = none ∧ IsB D M' a t lim (addPB lim (b.1, []) b2.2 fr to) ∧ Fr [t, t + 1] M M') := by
  refine Ok_of rfl (Nat.le_of_ble_eq_true rfl) (fun E hC hQ hl hD hB hN hR => ?_)
  subst hl hD hB
  have hB9 := h_B_a.len
  have hO9 := h_B_o.len
  have hcut := cut0_psi lim b (by omega)
  have hadd := psi_addPB (lim := lim) (b := (b.1, [])) b2.2 fr to ⟨by simp, by omega⟩
  show G E M 0 0 [(0, .ref a), (1, .ref o), (2, vI fr), (3, vI to)] [] 0
  refine G_aload_n hC 0 rfl rfl d_Se_refill_0 ?_
  refine G_iconst (i := 0) hC d_Se_refill_1 ?_
  refine G_xV (rest := []) hC hR (c_By_cut h_B_a (by omega)) cv_Se_57 h_B_a.obj (by decide) (by omega) (by omega) rfl rfl (Nat.le_of_ble_eq_true rfl) d_Se_refill_2 (fun r_3 M_1 p_2 => ?_)
  obtain ⟨rfl, h_4, fr_5⟩ := p_2
  show G E M_1 (0 + 0) (0 + 0) [(0, .ref a), (1, .ref o), (2, vI fr), (3, vI to)] [] 5
  refine G_aload_n hC 0 rfl rfl d_Se_refill_5 ?_
  refine G_aload_n hC 1 rfl rfl d_Se_refill_6 ?_
  refine G_iload_n hC 2 rfl rfl d_Se_refill_7 ?_
  refine G_iload_n hC 3 rfl rfl d_Se_refill_8 ?_
  have h_6 : IsB (eD E) M_1 a t lim (b.1, []) := by rw [← cut0 b]; exact h_4
  have hl0 : ((b.1, ([] : List Int)) : Bv).2.length = 0 := rfl
  have h_7 := h_B_o.fr fr_5 (by simp only [List.mem_cons, List.not_mem_nil, or_false, not_or, not_false_eq_true]; try omega) (by simp only [List.mem_cons, List.not_mem_nil, or_false, not_or, not_false_eq_true]; try omega)
  refine G_xV (rest := []) hC hR (c_By_addPart h_6 h_7 (by omega) (by omega) htt) cv_Se_60 h_6.obj (by decide) (by omega) (by omega) rfl rfl (Nat.le_of_ble_eq_true rfl) d_Se_refill_9 (fun r_10 M_8 p_9 => ?_)
  obtain ⟨rfl, h_11, fr_12⟩ := p_9
  show G E M_8 (0 + 0 + (psi lim (addPB lim (b.1, []) b2.2 fr to) - psi lim (b.1, []))) (0 + 0 + (psi lim (addPB lim (b.1, []) b2.2 fr to) - psi lim (b.1, []))) [(0, .ref a), (1, .ref o), (2, vI fr), (3, vI to)] [] 12
  have g_13 := psi_addPB (lim := lim) (b := (b.1, [])) b2.2 fr to ⟨h_6.len.1, h_6.len.2.1⟩
  exact G_return hC hQ (by omega) (by omega) d_Se_refill_12 ⟨rfl, h_11, ((fr_5.up (T := [t, t + 1]) (by simp)).tr' (T := [t, t + 1]) fr_12 (fun _ z => z) (by simp))⟩
