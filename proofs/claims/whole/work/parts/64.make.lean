set_option maxHeartbeats 4000000 in
set_option maxRecDepth 100000 in
theorem c_Ch_init {l : Launch} {D : Dg} {b0 : Nat} {M : Mp} {a : Nat} {di : Nat} {se : Nat} {ma : Nat} (h_obj_a : M a = some (19, .inr (cCh, [.null, .null, .null, .null, .null, vI 0, vI 0]))) : Ok l D b0 4 y_Ch_init b_Ch_init 5 none M [.ref a, .ref di, .ref se, .ref ma] 60 1000 (fun r M' => ∃ lv : Nat, ∃ tg : Nat, ∃ f : Nat → Option Nat, r = none ∧ M' a = some (19, .inr (cCh, [.ref di, .ref se, .ref ma, .ref lv, .ref tg, vI 0, vI 0])) ∧ M' lv = some (20, arR D 3 11 f) ∧ IsB D M' tg 21 61 (61, []) ∧ LvA D M' f 0 ∧ Fr ([19, 20, 21] ++ lvT 0) M M') := by
  refine Ok_of rfl (Nat.le_of_ble_eq_true rfl) (fun E hC hQ hl hD hB hN hR => ?_)
  subst hl hD hB
  show G E M 0 0 [(0, .ref a), (1, .ref di), (2, .ref se), (3, .ref ma)] [] 0
  refine G_aload_n hC 0 rfl rfl d_Ch_init_0 ?_
  refine G_objI hC hR lm_Ch_3 (Nat.le_of_ble_eq_true rfl) (Nat.le_of_ble_eq_true rfl) d_Ch_init_1 ?_
  refine G_aload_n hC 0 rfl rfl d_Ch_init_4 ?_
  refine G_aload_n hC 1 rfl rfl d_Ch_init_5 ?_
  refine G_putFX (fs' := [.ref di, .null, .null, .null, .null, vI 0, vI 0]) hC fl_Ch_9 ft_Ch ff_Ch_0 rfl h_obj_a rfl rfl (Nat.le_of_ble_eq_true rfl) rfl d_Ch_init_6 (fun M_1 h_2 fr_3 => ?_)
  refine G_aload_n hC 0 rfl rfl d_Ch_init_9 ?_
  refine G_aload_n hC 2 rfl rfl d_Ch_init_10 ?_
  refine G_putFX (fs' := [.ref di, .ref se, .null, .null, .null, vI 0, vI 0]) hC fl_Ch_15 ft_Ch ff_Ch_1 rfl h_2 rfl rfl (Nat.le_of_ble_eq_true rfl) rfl d_Ch_init_11 (fun M_4 h_5 fr_6 => ?_)
  refine G_aload_n hC 0 rfl rfl d_Ch_init_14 ?_
  refine G_aload_n hC 3 rfl rfl d_Ch_init_15 ?_
  refine G_putFX (fs' := [.ref di, .ref se, .ref ma, .null, .null, vI 0, vI 0]) hC fl_Ch_19 ft_Ch ff_Ch_2 rfl h_5 rfl rfl (Nat.le_of_ble_eq_true rfl) rfl d_Ch_init_16 (fun M_7 h_8 fr_9 => ?_)
  refine G_aload_n hC 0 rfl rfl d_Ch_init_19 ?_
  refine G_bipush (j := 11) hC (by decide +kernel) d_Ch_init_20 ?_
  refine G_anewX (q0 := 3) 20 hC hR kl_Ch_23 (by decide) rfl (by omega) (by omega) (by omega) d_Ch_init_22 (fun q_10 M_11 h_12 fr_13 => ?_)
  have h_14 := fr_13.at h_8 (by decide)
  refine G_putFX (fs' := [.ref di, .ref se, .ref ma, .ref q_10, .null, vI 0, vI 0]) hC fl_Ch_25 ft_Ch ff_Ch_3 rfl h_14 rfl rfl (Nat.le_of_ble_eq_true rfl) rfl d_Ch_init_25 (fun M_15 h_16 fr_17 => ?_)
  have h_18 := fr_17.at h_12 (by decide)
  have h_19 : M_15 q_10 = some (20, arR (eD E) 3 11 (fun _ => none)) := h_18
  refine G_iconst (i := 0) hC d_Ch_init_28 ?_
  refine G_istore (lv' := [(4, vI 0), (0, .ref a), (1, .ref di), (2, .ref se), (3, .ref ma)]) hC (by rw [hN]; decide) rfl d_Ch_init_29 ?_
  have L31 : ∀ (N : Nat) (M1 : Mp) (k : Int) (f1 : Nat → Option Nat), (11 - k).toNat < N → (Fr ([20] ++ lvT 0) M_15 M1) → (M1 q_10 = some (20, arR (eD E) 3 11 f1)) → (0 ≤ k ∧ k ≤ 11) → (LvB (eD E) M1 f1 k) → G E M1 (1 + 4 * (k : Int).toNat) (11 + 74 * (k : Int).toNat) [(0, .ref a), (1, .ref di), (2, .ref se), (3, .ref ma), (4, vI k)] [] 31 := by
    intro N
    induction N with
    | zero => intro M1 k f1 hN31 hfr1 hm1 hk hlb; exact absurd hN31 (Nat.not_lt_zero _)
    | succ N ih31 =>
      intro M1 k f1 hN31 hfr1 hm1 hk hlb
      refine G_iload hC 4 rfl d_Ch_init_31 ?_
      refine G_bipush (j := 11) hC (by decide +kernel) d_Ch_init_33 ?_
      refine G_icmp_ge hC 58 (by omega) (by decide) (by decide) d_Ch_init_35 (fun c_20 => ?_) (fun c_20 => ?_)
      · refine G_aload_n hC 0 rfl rfl d_Ch_init_58 ?_
        refine G_newX 21 [vI 0, .null, vI 0] hC hR nw_Ch_30 (fun j hj => by rcases (show j = 0 ∨ j = 1 ∨ j = 2 by omega) with rfl | rfl | rfl <;> rfl) (by omega) (by omega) d_Ch_init_59 (fun q_21 M_22 h_23 fr_24 => ?_)
        refine G_dup hC rfl d_Ch_init_62 ?_
        refine G_bipush (j := 61) hC (by decide +kernel) d_Ch_init_63 ?_
        refine G_xI (rest := [.ref q_21, .ref a]) hC hR (c_By_init h_23 (by omega)) ci_Ch_32 (by decide) (by omega) (by omega) rfl rfl (Nat.le_of_ble_eq_true rfl) d_Ch_init_65 (fun r_27 M_25 p_26 => ?_)
        obtain ⟨rfl, h_28, fr_29⟩ := p_26
        show G E M_25 (1 + 4 * (k : Int).toNat + 1 + (1)) (11 + 74 * (k : Int).toNat + 3 + ((min 61 64 : Int).toNat)) [(0, .ref a), (1, .ref di), (2, .ref se), (3, .ref ma), (4, vI k)] [.ref q_21, .ref a] 68
        have h_30 := hfr1.at h_16 (by simp only [List.mem_append, mem_lvT, List.mem_range, List.mem_cons, List.not_mem_nil, or_false, false_or]; omega)
        have h_31 := fr_24.at h_30 (by decide)
        have h_32 := fr_29.at h_31 (by decide)
        refine G_putFX (fs' := [.ref di, .ref se, .ref ma, .ref q_10, .ref q_21, vI 0, vI 0]) hC fl_Ch_35 ft_Ch ff_Ch_4 rfl h_32 rfl rfl (Nat.le_of_ble_eq_true rfl) rfl d_Ch_init_68 (fun M_33 h_34 fr_35 => ?_)
        refine G_aload_n hC 0 rfl rfl d_Ch_init_71 ?_
        refine G_iconst (i := 0) hC d_Ch_init_72 ?_
        refine G_putX (fs' := [.ref di, .ref se, .ref ma, .ref q_10, .ref q_21, vI 0, vI 0]) hC fl_Ch_39 ft_Ch fw_Ch_5 h_34 rfl rfl (Nat.le_of_ble_eq_true rfl) rfl d_Ch_init_73 (fun M_36 h_37 fr_38 => ?_)
        refine G_aload_n hC 0 rfl rfl d_Ch_init_76 ?_
        refine G_iconst (i := 0) hC d_Ch_init_77 ?_
        refine G_putX (fs' := [.ref di, .ref se, .ref ma, .ref q_10, .ref q_21, vI 0, vI 0]) hC fl_Ch_43 ft_Ch fw_Ch_6 h_37 rfl rfl (Nat.le_of_ble_eq_true rfl) rfl d_Ch_init_78 (fun M_39 h_40 fr_41 => ?_)
        have hla : LvA (eD E) M_39 f1 0 := LvB_all (LvB.fr hlb (((((fr_24.up (T := [19, 21]) (by simp)).tr' (T := [19, 21]) fr_29 (fun _ z => z) (by simp)).tr' (T := [19, 21]) fr_35 (fun _ z => z) (by simp)).tr' (T := [19, 21]) fr_38 (fun _ z => z) (by simp)).tr' (T := [19, 21]) fr_41 (fun _ z => z) (by simp)) (by intro u hu; simp only [List.mem_cons, List.not_mem_nil, or_false] at hu; omega)) (by omega)
        have h_42 := fr_24.at hm1 (by decide)
        have h_43 := fr_29.at h_42 (by decide)
        have h_44 := fr_35.at h_43 (by decide)
        have h_45 := fr_38.at h_44 (by decide)
        have h_46 := fr_41.at h_45 (by decide)
        have h_47 := h_28.fr fr_35 (by decide) (by decide)
        have h_48 := h_47.fr fr_38 (by decide) (by decide)
        have h_49 := h_48.fr fr_41 (by decide) (by decide)
        exact G_return hC hQ (by omega) (by omega) d_Ch_init_81 ⟨_, _, _, rfl, h_40, h_46, h_49, hla, (((((((((((fr_3.up (T := ([19, 20, 21] ++ lvT 0)) (by intro u hu; simp only [List.mem_append, mem_lvT, List.mem_range, List.mem_cons, List.not_mem_nil, or_false, false_or] at hu ⊢ <;> omega)).tr' (T := ([19, 20, 21] ++ lvT 0)) fr_6 (fun _ z => z) (by intro u hu; simp only [List.mem_append, mem_lvT, List.mem_range, List.mem_cons, List.not_mem_nil, or_false, false_or] at hu ⊢ <;> omega)).tr' (T := ([19, 20, 21] ++ lvT 0)) fr_9 (fun _ z => z) (by intro u hu; simp only [List.mem_append, mem_lvT, List.mem_range, List.mem_cons, List.not_mem_nil, or_false, false_or] at hu ⊢ <;> omega)).tr' (T := ([19, 20, 21] ++ lvT 0)) fr_13 (fun _ z => z) (by intro u hu; simp only [List.mem_append, mem_lvT, List.mem_range, List.mem_cons, List.not_mem_nil, or_false, false_or] at hu ⊢ <;> omega)).tr' (T := ([19, 20, 21] ++ lvT 0)) fr_17 (fun _ z => z) (by intro u hu; simp only [List.mem_append, mem_lvT, List.mem_range, List.mem_cons, List.not_mem_nil, or_false, false_or] at hu ⊢ <;> omega)).tr' (T := ([19, 20, 21] ++ lvT 0)) hfr1 (fun _ z => z) (by intro u hu; simp only [List.mem_append, mem_lvT, List.mem_range, List.mem_cons, List.not_mem_nil, or_false, false_or] at hu ⊢ <;> omega)).tr' (T := ([19, 20, 21] ++ lvT 0)) fr_24 (fun _ z => z) (by intro u hu; simp only [List.mem_append, mem_lvT, List.mem_range, List.mem_cons, List.not_mem_nil, or_false, false_or] at hu ⊢ <;> omega)).tr' (T := ([19, 20, 21] ++ lvT 0)) fr_29 (fun _ z => z) (by intro u hu; simp only [List.mem_append, mem_lvT, List.mem_range, List.mem_cons, List.not_mem_nil, or_false, false_or] at hu ⊢ <;> omega)).tr' (T := ([19, 20, 21] ++ lvT 0)) fr_35 (fun _ z => z) (by intro u hu; simp only [List.mem_append, mem_lvT, List.mem_range, List.mem_cons, List.not_mem_nil, or_false, false_or] at hu ⊢ <;> omega)).tr' (T := ([19, 20, 21] ++ lvT 0)) fr_38 (fun _ z => z) (by intro u hu; simp only [List.mem_append, mem_lvT, List.mem_range, List.mem_cons, List.not_mem_nil, or_false, false_or] at hu ⊢ <;> omega)).tr' (T := ([19, 20, 21] ++ lvT 0)) fr_41 (fun _ z => z) (by intro u hu; simp only [List.mem_append, mem_lvT, List.mem_range, List.mem_cons, List.not_mem_nil, or_false, false_or] at hu ⊢ <;> omega))⟩
      · refine G_aload_n hC 0 rfl rfl d_Ch_init_38 ?_
        have h_50 := hfr1.at h_16 (by simp only [List.mem_append, mem_lvT, List.mem_range, List.mem_cons, List.not_mem_nil, or_false, false_or]; omega)
        refine G_get hC fl_Ch_25 h_50 rfl d_Ch_init_39 ?_
        refine G_iload hC 4 rfl d_Ch_init_42 ?_
        refine G_newX (100 + 4 * k.toNat) [.null, .null, vI 0, vI 0] hC hR nw_Ch_23 (fun j hj => by rcases (show j = 0 ∨ j = 1 ∨ j = 2 ∨ j = 3 by omega) with rfl | rfl | rfl | rfl <;> rfl) (by omega) (by omega) d_Ch_init_44 (fun q_51 M_52 h_53 fr_54 => ?_)
        refine G_dup hC rfl d_Ch_init_47 ?_
        refine G_xI (rest := [.ref q_51, vI k, .ref q_10]) hC hR (c_Le_init h_53) ci_Ch_29 (by decide) (by omega) (by omega) rfl rfl (Nat.le_of_ble_eq_true rfl) d_Ch_init_48 (fun r_57 M_55 p_56 => ?_)
        obtain ⟨nm_58, te_59, rfl, h_60, h_61, h_62, fr_63⟩ := p_56
        show G E M_55 (1 + 4 * (k : Int).toNat + 1 + (3)) (11 + 74 * (k : Int).toNat + 4 + (70)) [(0, .ref a), (1, .ref di), (2, .ref se), (3, .ref ma), (4, vI k)] [.ref q_51, vI k, .ref q_10] 51
        have h_64 := fr_54.at hm1 (by decide)
        have h_65 := fr_63.at h_64 (by simp only [List.mem_cons, List.not_mem_nil, or_false, not_or, not_false_eq_true]; try omega)
        refine G_aastX hC h_65 rfl rfl h_60 (by omega) (by omega) d_Ch_init_51 (fun M_66 h_67 fr_68 => ?_)
        refine G_iinc (lv' := [(4, vI (k + 1)), (0, .ref a), (1, .ref di), (2, .ref se), (3, .ref ma)]) hC 4 rfl (by rw [hN]; decide) rfl d_Ch_init_52 ?_
        refine G_goto hC 31 (by decide) d_Ch_init_55 ?_
        refine G_lv [1, 2, 3, 4, 0] rfl ?_
        have h_69 := fr_68.at h_60 (by simp only [List.mem_cons, List.not_mem_nil, or_false, not_or, not_false_eq_true]; try omega)
        have h_70 := h_61.fr fr_68 (by simp only [List.mem_cons, List.not_mem_nil, or_false, not_or, not_false_eq_true]; try omega) (by simp only [List.mem_cons, List.not_mem_nil, or_false, not_or, not_false_eq_true]; try omega)
        have h_71 := fr_68.at h_62 (by simp only [List.mem_cons, List.not_mem_nil, or_false, not_or, not_false_eq_true]; try omega)
        refine G_widen (k' := 1 + 4 * ((k + 1) : Int).toNat) (n' := 11 + 74 * ((k + 1) : Int).toNat) (by omega) (by omega) ?_
        exact ih31 M_66 (k + 1) _ (by omega) ((((hfr1.up (T := ([20] ++ lvT 0)) (by intro u hu; simp only [List.mem_append, mem_lvT, List.mem_range, List.mem_cons, List.not_mem_nil, or_false, false_or] at hu ⊢ <;> omega)).tr' (T := ([20] ++ lvT 0)) fr_54 (fun _ z => z) (by intro u hu; simp only [List.mem_append, mem_lvT, List.mem_range, List.mem_cons, List.not_mem_nil, or_false, false_or] at hu ⊢ <;> omega)).tr' (T := ([20] ++ lvT 0)) fr_63 (fun _ z => z) (by intro u hu; simp only [List.mem_append, mem_lvT, List.mem_range, List.mem_cons, List.not_mem_nil, or_false, false_or] at hu ⊢ <;> omega)).tr' (T := ([20] ++ lvT 0)) fr_68 (fun _ z => z) (by intro u hu; simp only [List.mem_append, mem_lvT, List.mem_range, List.mem_cons, List.not_mem_nil, or_false, false_or] at hu ⊢ <;> omega)) h_67 (by omega) (LvB_step hlb (((fr_54.up (T := [20, 100 + 4 * k.toNat, 100 + 4 * k.toNat + 1, 100 + 4 * k.toNat + 3]) (by simp)).tr' (T := [20, 100 + 4 * k.toNat, 100 + 4 * k.toNat + 1, 100 + 4 * k.toNat + 3]) fr_63 (fun _ z => z) (by simp)).tr' (T := [20, 100 + 4 * k.toNat, 100 + 4 * k.toNat + 1, 100 + 4 * k.toNat + 3]) fr_68 (fun _ z => z) (by simp)) (by intro u hu; simp only [List.mem_cons, List.not_mem_nil, or_false] at hu; omega) (by omega) ⟨_, _, _, _, _, _, _, _, _, _, h_69, h_70, h_71⟩)
  refine G_lv [1, 2, 3, 4, 0] rfl ?_
  refine G_widen (k' := 1 + 4 * (0 : Int).toNat) (n' := 11 + 74 * (0 : Int).toNat) (by omega) (by omega) ?_
  exact L31 _ M_15 0 _ (Nat.lt_succ_self _) Fr.rf h_19 (by omega) (LvB_0 _ _ _)

set_option maxHeartbeats 4000000 in
set_option maxRecDepth 100000 in
theorem c_Po_init {l : Launch} {D : Dg} {b0 : Nat} {M : Mp} {a : Nat} (h_obj_a : M a = some (1, .inr (cPo, [.null, .null, .null, .null, .null, .null]))) : Ok l D b0 5 y_Po_init b_Po_init 1 none M [.ref a] 100 2000 (fun r M' => r = none ∧ IsPo D M' a (64, []) (64, []) ([]) none 0 0 ∧ Fr ([] ++ List.range 500) M M') := by
  refine Ok_of rfl (Nat.le_of_ble_eq_true rfl) (fun E hC hQ hl hD hB hN hR => ?_)
  subst hl hD hB
  show G E M 0 0 [(0, .ref a)] [] 0
  refine G_aload_n hC 0 rfl rfl d_Po_init_0 ?_
  refine G_objI hC hR lm_Po_3 (Nat.le_of_ble_eq_true rfl) (Nat.le_of_ble_eq_true rfl) d_Po_init_1 ?_
  refine G_aload_n hC 0 rfl rfl d_Po_init_4 ?_
  refine G_newX 2 [vI 0, .null, vI 0] hC hR nw_Po_9 (fun j hj => by rcases (show j = 0 ∨ j = 1 ∨ j = 2 by omega) with rfl | rfl | rfl <;> rfl) (by omega) (by omega) d_Po_init_5 (fun q_1 M_2 h_3 fr_4 => ?_)
  refine G_dup hC rfl d_Po_init_8 ?_
  refine G_sipush (j := 800) hC (by decide +kernel) d_Po_init_9 ?_
  refine G_xI (rest := [.ref q_1, .ref a]) hC hR (c_By_init h_3 (by omega)) ci_Po_11 (by decide) (by omega) (by omega) rfl rfl (Nat.le_of_ble_eq_true rfl) d_Po_init_12 (fun r_7 M_5 p_6 => ?_)
  obtain ⟨rfl, h_8, fr_9⟩ := p_6
  show G E M_5 (0 + 1 + (1)) (0 + 3 + ((min 800 64 : Int).toNat)) [(0, .ref a)] [.ref q_1, .ref a] 15
  have h_10 := fr_4.at h_obj_a (by decide)
  have h_11 := fr_9.at h_10 (by decide)
  refine G_putFX (fs' := [.ref q_1, .null, .null, .null, .null, .null]) hC fl_Po_14 ft_Po ff_Po_0 rfl h_11 rfl rfl (Nat.le_of_ble_eq_true rfl) rfl d_Po_init_15 (fun M_12 h_13 fr_14 => ?_)
  refine G_aload_n hC 0 rfl rfl d_Po_init_18 ?_
  refine G_newX 4 [vI 0, .null, vI 0] hC hR nw_Po_9 (fun j hj => by rcases (show j = 0 ∨ j = 1 ∨ j = 2 by omega) with rfl | rfl | rfl <;> rfl) (by omega) (by omega) d_Po_init_19 (fun q_15 M_16 h_17 fr_18 => ?_)
  refine G_dup hC rfl d_Po_init_22 ?_
  refine G_sipush (j := 18200) hC (by decide +kernel) d_Po_init_23 ?_
  refine G_xI (rest := [.ref q_15, .ref a]) hC hR (c_By_init h_17 (by omega)) ci_Po_11 (by decide) (by omega) (by omega) rfl rfl (Nat.le_of_ble_eq_true rfl) d_Po_init_26 (fun r_21 M_19 p_20 => ?_)
  obtain ⟨rfl, h_22, fr_23⟩ := p_20
  show G E M_19 (0 + 1 + (1) + 1 + (1)) (0 + 3 + ((min 800 64 : Int).toNat) + 3 + ((min 18200 64 : Int).toNat)) [(0, .ref a)] [.ref q_15, .ref a] 29
  have h_24 := fr_18.at h_13 (by decide)
  have h_25 := fr_23.at h_24 (by decide)
  refine G_putFX (fs' := [.ref q_1, .ref q_15, .null, .null, .null, .null]) hC fl_Po_18 ft_Po ff_Po_1 rfl h_25 rfl rfl (Nat.le_of_ble_eq_true rfl) rfl d_Po_init_29 (fun M_26 h_27 fr_28 => ?_)
  refine G_aload_n hC 0 rfl rfl d_Po_init_32 ?_
  refine G_newX 6 [.null, vI 0] hC hR nw_Po_21 (fun j hj => by rcases (show j = 0 ∨ j = 1 by omega) with rfl | rfl <;> rfl) (by omega) (by omega) d_Po_init_33 (fun q_29 M_30 h_31 fr_32 => ?_)
  refine G_dup hC rfl d_Po_init_36 ?_
  refine G_xI (rest := [.ref q_29, .ref a]) hC hR (c_Di_init h_31) ci_Po_23 (by decide) (by omega) (by omega) rfl rfl (Nat.le_of_ble_eq_true rfl) d_Po_init_37 (fun r_35 M_33 p_34 => ?_)
  obtain ⟨rfl, h_36, fr_37⟩ := p_34
  show G E M_33 (0 + 1 + (1) + 1 + (1) + 1 + (1)) (0 + 3 + ((min 800 64 : Int).toNat) + 3 + ((min 18200 64 : Int).toNat) + 2 + (40)) [(0, .ref a)] [.ref q_29, .ref a] 40
  have h_38 := fr_32.at h_27 (by decide)
  have h_39 := fr_37.at h_38 (by decide)
  refine G_putFX (fs' := [.ref q_1, .ref q_15, .ref q_29, .null, .null, .null]) hC fl_Po_24 ft_Po ff_Po_2 rfl h_39 rfl rfl (Nat.le_of_ble_eq_true rfl) rfl d_Po_init_40 (fun M_40 h_41 fr_42 => ?_)
  refine G_aload_n hC 0 rfl rfl d_Po_init_43 ?_
  refine G_newX 8 [.null, .null, .null, .null, .int 0] hC hR nw_Po_28 (fun j hj => by rcases (show j = 0 ∨ j = 1 ∨ j = 2 ∨ j = 3 ∨ j = 4 by omega) with rfl | rfl | rfl | rfl | rfl <;> rfl) (by omega) (by omega) d_Po_init_44 (fun q_43 M_44 h_45 fr_46 => ?_)
  refine G_dup hC rfl d_Po_init_47 ?_
  refine G_xI (rest := [.ref q_43, .ref a]) hC hR (c_Se_init h_45) ci_Po_30 (by decide) (by omega) (by omega) rfl rfl (Nat.le_of_ble_eq_true rfl) d_Po_init_48 (fun r_49 M_47 p_48 => ?_)
  obtain ⟨rfl, h_50, fr_51⟩ := p_48
  show G E M_47 (0 + 1 + (1) + 1 + (1) + 1 + (1) + 1 + (8)) (0 + 3 + ((min 800 64 : Int).toNat) + 3 + ((min 18200 64 : Int).toNat) + 2 + (40) + 5 + (12 + 64 + 30 + 60 + 15)) [(0, .ref a)] [.ref q_43, .ref a] 51
  have h_52 := fr_46.at h_41 (by decide)
  have h_53 := fr_51.at h_52 (by decide)
  refine G_putFX (fs' := [.ref q_1, .ref q_15, .ref q_29, .ref q_43, .null, .null]) hC fl_Po_31 ft_Po ff_Po_3 rfl h_53 rfl rfl (Nat.le_of_ble_eq_true rfl) rfl d_Po_init_51 (fun M_54 h_55 fr_56 => ?_)
  refine G_aload_n hC 0 rfl rfl d_Po_init_54 ?_
  refine G_newX 17 [.null, .null] hC hR nw_Po_35 (fun j hj => by rcases (show j = 0 ∨ j = 1 by omega) with rfl | rfl <;> rfl) (by omega) (by omega) d_Po_init_55 (fun q_57 M_58 h_59 fr_60 => ?_)
  refine G_dup hC rfl d_Po_init_58 ?_
  refine G_aload_n hC 0 rfl rfl d_Po_init_59 ?_
  have h_61 := fr_60.at h_55 (by decide)
  refine G_get hC fl_Po_31 h_61 rfl d_Po_init_60 ?_
  refine G_xI (rest := [.ref q_57, .ref a]) hC hR (c_Ma_init h_59) ci_Po_37 (by decide) (by omega) (by omega) rfl rfl (Nat.le_of_ble_eq_true rfl) d_Po_init_63 (fun r_64 M_62 p_63 => ?_)
  obtain ⟨rfl, h_65, fr_66⟩ := p_63
  show G E M_62 (0 + 1 + (1) + 1 + (1) + 1 + (1) + 1 + (8) + 1 + (1)) (0 + 3 + ((min 800 64 : Int).toNat) + 3 + ((min 18200 64 : Int).toNat) + 2 + (40) + 5 + (12 + 64 + 30 + 60 + 15) + 2 + (93)) [(0, .ref a)] [.ref q_57, .ref a] 66
  have h_67 := fr_66.at h_61 (by decide)
  refine G_putFX (fs' := [.ref q_1, .ref q_15, .ref q_29, .ref q_43, .ref q_57, .null]) hC fl_Po_40 ft_Po ff_Po_4 rfl h_67 rfl rfl (Nat.le_of_ble_eq_true rfl) rfl d_Po_init_66 (fun M_68 h_69 fr_70 => ?_)
  refine G_aload_n hC 0 rfl rfl d_Po_init_69 ?_
  refine G_newX 19 [.null, .null, .null, .null, .null, vI 0, vI 0] hC hR nw_Po_44 (fun j hj => by rcases (show j = 0 ∨ j = 1 ∨ j = 2 ∨ j = 3 ∨ j = 4 ∨ j = 5 ∨ j = 6 by omega) with rfl | rfl | rfl | rfl | rfl | rfl | rfl <;> rfl) (by omega) (by omega) d_Po_init_70 (fun q_71 M_72 h_73 fr_74 => ?_)
  refine G_dup hC rfl d_Po_init_73 ?_
  refine G_aload_n hC 0 rfl rfl d_Po_init_74 ?_
  have h_75 := fr_74.at h_69 (by decide)
  refine G_get hC fl_Po_24 h_75 rfl d_Po_init_75 ?_
  refine G_aload_n hC 0 rfl rfl d_Po_init_78 ?_
  refine G_get hC fl_Po_31 h_75 rfl d_Po_init_79 ?_
  refine G_aload_n hC 0 rfl rfl d_Po_init_82 ?_
  refine G_get hC fl_Po_40 h_75 rfl d_Po_init_83 ?_
  refine G_xI (rest := [.ref q_71, .ref a]) hC hR (c_Ch_init h_73) ci_Po_46 (by decide) (by omega) (by omega) rfl rfl (Nat.le_of_ble_eq_true rfl) d_Po_init_86 (fun r_78 M_76 p_77 => ?_)
  obtain ⟨lv_79, tg_80, f_81, rfl, h_82, h_83, h_84, h_85, fr_86⟩ := p_77
  show G E M_76 (0 + 1 + (1) + 1 + (1) + 1 + (1) + 1 + (8) + 1 + (1) + 1 + (60)) (0 + 3 + ((min 800 64 : Int).toNat) + 3 + ((min 18200 64 : Int).toNat) + 2 + (40) + 5 + (12 + 64 + 30 + 60 + 15) + 2 + (93) + 7 + (1000)) [(0, .ref a)] [.ref q_71, .ref a] 89
  have h_87 := fr_86.at h_75 (by simp only [List.mem_append, mem_lvT, List.mem_range, List.mem_cons, List.not_mem_nil, or_false, false_or]; omega)
  refine G_putFX (fs' := [.ref q_1, .ref q_15, .ref q_29, .ref q_43, .ref q_57, .ref q_71]) hC fl_Po_49 ft_Po ff_Po_5 rfl h_87 rfl rfl (Nat.le_of_ble_eq_true rfl) rfl d_Po_init_89 (fun M_88 h_89 fr_90 => ?_)
  have h_91 := fr_90.at h_82 (by decide)
  have h_92 := h_8.fr fr_14 (by decide) (by decide)
  have h_93 := h_92.fr fr_18 (by decide) (by decide)
  have h_94 := h_93.fr fr_23 (by decide) (by decide)
  have h_95 := h_94.fr fr_28 (by decide) (by decide)
  have h_96 := h_95.fr fr_32 (by decide) (by decide)
  have h_97 := h_96.fr fr_37 (by decide) (by decide)
  have h_98 := h_97.fr fr_42 (by decide) (by decide)
  have h_99 := h_98.fr fr_46 (by decide) (by decide)
  have h_100 := h_99.fr fr_51 (by decide) (by decide)
  have h_101 := h_100.fr fr_56 (by decide) (by decide)
  have h_102 := h_101.fr fr_60 (by decide) (by decide)
  have h_103 := h_102.fr fr_66 (by decide) (by decide)
  have h_104 := h_103.fr fr_70 (by decide) (by decide)
  have h_105 := h_104.fr fr_74 (by decide) (by decide)
  have h_106 := h_105.fr fr_86 (by simp only [List.mem_append, mem_lvT, List.mem_range, List.mem_cons, List.not_mem_nil, or_false, false_or]; omega) (by simp only [List.mem_append, mem_lvT, List.mem_range, List.mem_cons, List.not_mem_nil, or_false, false_or]; omega)
  have h_107 := h_106.fr fr_90 (by decide) (by decide)
  have h_108 := h_22.fr fr_28 (by decide) (by decide)
  have h_109 := h_108.fr fr_32 (by decide) (by decide)
  have h_110 := h_109.fr fr_37 (by decide) (by decide)
  have h_111 := h_110.fr fr_42 (by decide) (by decide)
  have h_112 := h_111.fr fr_46 (by decide) (by decide)
  have h_113 := h_112.fr fr_51 (by decide) (by decide)
  have h_114 := h_113.fr fr_56 (by decide) (by decide)
  have h_115 := h_114.fr fr_60 (by decide) (by decide)
  have h_116 := h_115.fr fr_66 (by decide) (by decide)
  have h_117 := h_116.fr fr_70 (by decide) (by decide)
  have h_118 := h_117.fr fr_74 (by decide) (by decide)
  have h_119 := h_118.fr fr_86 (by simp only [List.mem_append, mem_lvT, List.mem_range, List.mem_cons, List.not_mem_nil, or_false, false_or]; omega) (by simp only [List.mem_append, mem_lvT, List.mem_range, List.mem_cons, List.not_mem_nil, or_false, false_or]; omega)
  have h_120 := h_119.fr fr_90 (by decide) (by decide)
  have h_121 := h_36.fr fr_42 (by intro u hu; simp only [List.mem_cons, List.not_mem_nil, or_false] at hu <;> omega)
  have h_122 := h_121.fr fr_46 (by intro u hu; simp only [List.mem_cons, List.not_mem_nil, or_false] at hu <;> omega)
  have h_123 := h_122.fr fr_51 (by intro u hu; simp only [List.mem_cons, List.not_mem_nil, or_false] at hu <;> omega)
  have h_124 := h_123.fr fr_56 (by intro u hu; simp only [List.mem_cons, List.not_mem_nil, or_false] at hu <;> omega)
  have h_125 := h_124.fr fr_60 (by intro u hu; simp only [List.mem_cons, List.not_mem_nil, or_false] at hu <;> omega)
  have h_126 := h_125.fr fr_66 (by intro u hu; simp only [List.mem_cons, List.not_mem_nil, or_false] at hu <;> omega)
  have h_127 := h_126.fr fr_70 (by intro u hu; simp only [List.mem_cons, List.not_mem_nil, or_false] at hu <;> omega)
  have h_128 := h_127.fr fr_74 (by intro u hu; simp only [List.mem_cons, List.not_mem_nil, or_false] at hu <;> omega)
  have h_129 := h_128.fr fr_86 (by intro u hu; simp only [List.mem_append, mem_lvT, List.mem_range, List.mem_cons, List.not_mem_nil, or_false, false_or] at hu; omega)
  have h_130 := h_129.fr fr_90 (by intro u hu; simp only [List.mem_cons, List.not_mem_nil, or_false] at hu <;> omega)
  have h_131 := h_50.fr fr_56 (by intro u hu; simp only [List.mem_cons, List.not_mem_nil, or_false] at hu <;> omega)
  have h_132 := h_131.fr fr_60 (by intro u hu; simp only [List.mem_cons, List.not_mem_nil, or_false] at hu <;> omega)
  have h_133 := h_132.fr fr_66 (by intro u hu; simp only [List.mem_cons, List.not_mem_nil, or_false] at hu <;> omega)
  have h_134 := h_133.fr fr_70 (by intro u hu; simp only [List.mem_cons, List.not_mem_nil, or_false] at hu <;> omega)
  have h_135 := h_134.fr fr_74 (by intro u hu; simp only [List.mem_cons, List.not_mem_nil, or_false] at hu <;> omega)
  have h_136 := h_135.fr fr_86 (by intro u hu; simp only [List.mem_append, mem_lvT, List.mem_range, List.mem_cons, List.not_mem_nil, or_false, false_or] at hu; omega)
  have h_137 := h_136.fr fr_90 (by intro u hu; simp only [List.mem_cons, List.not_mem_nil, or_false] at hu <;> omega)
  have h_138 := h_65.fr fr_70 (by decide) (by decide)
  have h_139 := h_138.fr fr_74 (by decide) (by decide)
  have h_140 := h_139.fr fr_86 (by simp only [List.mem_append, mem_lvT, List.mem_range, List.mem_cons, List.not_mem_nil, or_false, false_or]; omega) (by simp only [List.mem_append, mem_lvT, List.mem_range, List.mem_cons, List.not_mem_nil, or_false, false_or]; omega)
  have h_141 := h_140.fr fr_90 (by decide) (by decide)
  have h_142 := fr_90.at h_83 (by decide)
  have h_143 := h_84.fr fr_90 (by decide) (by decide)
  have h_144 := h_85.fr fr_90 (by intro u hu; simp only [List.mem_cons, List.not_mem_nil, or_false] at hu <;> omega)
  exact G_return hC hQ (by omega) (by omega) d_Po_init_92 ⟨rfl, ⟨_, _, _, _, _, _, _, _, _, _, h_89, h_107, h_120, h_130, h_137, h_141, h_91, h_142, h_143, rfl, h_144, by omega⟩, ((((((((((((((((((fr_4.up (T := ([] ++ List.range 500)) (by intro u hu; simp only [List.mem_append, mem_lvT, List.mem_range, List.mem_cons, List.not_mem_nil, or_false, false_or] at hu ⊢ <;> omega)).tr' (T := ([] ++ List.range 500)) fr_9 (fun _ z => z) (by intro u hu; simp only [List.mem_append, mem_lvT, List.mem_range, List.mem_cons, List.not_mem_nil, or_false, false_or] at hu ⊢ <;> omega)).tr' (T := ([] ++ List.range 500)) fr_14 (fun _ z => z) (by intro u hu; simp only [List.mem_append, mem_lvT, List.mem_range, List.mem_cons, List.not_mem_nil, or_false, false_or] at hu ⊢ <;> omega)).tr' (T := ([] ++ List.range 500)) fr_18 (fun _ z => z) (by intro u hu; simp only [List.mem_append, mem_lvT, List.mem_range, List.mem_cons, List.not_mem_nil, or_false, false_or] at hu ⊢ <;> omega)).tr' (T := ([] ++ List.range 500)) fr_23 (fun _ z => z) (by intro u hu; simp only [List.mem_append, mem_lvT, List.mem_range, List.mem_cons, List.not_mem_nil, or_false, false_or] at hu ⊢ <;> omega)).tr' (T := ([] ++ List.range 500)) fr_28 (fun _ z => z) (by intro u hu; simp only [List.mem_append, mem_lvT, List.mem_range, List.mem_cons, List.not_mem_nil, or_false, false_or] at hu ⊢ <;> omega)).tr' (T := ([] ++ List.range 500)) fr_32 (fun _ z => z) (by intro u hu; simp only [List.mem_append, mem_lvT, List.mem_range, List.mem_cons, List.not_mem_nil, or_false, false_or] at hu ⊢ <;> omega)).tr' (T := ([] ++ List.range 500)) fr_37 (fun _ z => z) (by intro u hu; simp only [List.mem_append, mem_lvT, List.mem_range, List.mem_cons, List.not_mem_nil, or_false, false_or] at hu ⊢ <;> omega)).tr' (T := ([] ++ List.range 500)) fr_42 (fun _ z => z) (by intro u hu; simp only [List.mem_append, mem_lvT, List.mem_range, List.mem_cons, List.not_mem_nil, or_false, false_or] at hu ⊢ <;> omega)).tr' (T := ([] ++ List.range 500)) fr_46 (fun _ z => z) (by intro u hu; simp only [List.mem_append, mem_lvT, List.mem_range, List.mem_cons, List.not_mem_nil, or_false, false_or] at hu ⊢ <;> omega)).tr' (T := ([] ++ List.range 500)) fr_51 (fun _ z => z) (by intro u hu; simp only [List.mem_append, mem_lvT, List.mem_range, List.mem_cons, List.not_mem_nil, or_false, false_or] at hu ⊢ <;> omega)).tr' (T := ([] ++ List.range 500)) fr_56 (fun _ z => z) (by intro u hu; simp only [List.mem_append, mem_lvT, List.mem_range, List.mem_cons, List.not_mem_nil, or_false, false_or] at hu ⊢ <;> omega)).tr' (T := ([] ++ List.range 500)) fr_60 (fun _ z => z) (by intro u hu; simp only [List.mem_append, mem_lvT, List.mem_range, List.mem_cons, List.not_mem_nil, or_false, false_or] at hu ⊢ <;> omega)).tr' (T := ([] ++ List.range 500)) fr_66 (fun _ z => z) (by intro u hu; simp only [List.mem_append, mem_lvT, List.mem_range, List.mem_cons, List.not_mem_nil, or_false, false_or] at hu ⊢ <;> omega)).tr' (T := ([] ++ List.range 500)) fr_70 (fun _ z => z) (by intro u hu; simp only [List.mem_append, mem_lvT, List.mem_range, List.mem_cons, List.not_mem_nil, or_false, false_or] at hu ⊢ <;> omega)).tr' (T := ([] ++ List.range 500)) fr_74 (fun _ z => z) (by intro u hu; simp only [List.mem_append, mem_lvT, List.mem_range, List.mem_cons, List.not_mem_nil, or_false, false_or] at hu ⊢ <;> omega)).tr' (T := ([] ++ List.range 500)) fr_86 (fun _ z => z) (by intro u hu; simp only [List.mem_append, mem_lvT, List.mem_range, List.mem_cons, List.not_mem_nil, or_false, false_or] at hu ⊢ <;> omega)).tr' (T := ([] ++ List.range 500)) fr_90 (fun _ z => z) (by intro u hu; simp only [List.mem_append, mem_lvT, List.mem_range, List.mem_cons, List.not_mem_nil, or_false, false_or] at hu ⊢ <;> omega))⟩
