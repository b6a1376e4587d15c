set_option maxHeartbeats 4000000 in
set_option maxRecDepth 100000 in
theorem c_Di_size {l : Launch} {D : Dg} {b0 : Nat} {M : Mp} {a : Nat} {es : List Ent} (h_Dir_a : IsDir D M a es) : OkP l D b0 1 y_Di_size b_Di_size 1 (some .int) M [.ref a] (vI (es.length : Int)) := by
  refine Ok_of rfl (Nat.le_of_ble_eq_true rfl) (fun E hC hQ hl hD hB hN hR => ?_)
  subst hl hD hB
  obtain ⟨ar_1, f_2, h_3, h_4, h_5, h_6⟩ := id h_Dir_a
  show G E M 0 0 [(0, .ref a)] [] 0
  refine G_aload_n hC 0 rfl rfl d_Di_size_0 ?_
  refine G_get hC fl_Di_17 h_3 rfl d_Di_size_1 ?_
  exact G_iretP hC hQ d_Di_size_4 rfl

set_option maxHeartbeats 4000000 in
set_option maxRecDepth 100000 in
theorem c_Di_has {l : Launch} {D : Dg} {b0 : Nat} {M : Mp} {a : Nat} {sort : Int} {o : Nat} {es : List Ent} {t : Nat} {lim : Int} {b : Bv} {B : Bool} (h_Dir_a : IsDir D M a es) (h_B_o : IsB D M o t lim b) (hs : -2147483648 ≤ sort ∧ sort ≤ 2147483647) (hr : hasD es sort b.2 = B) : OkP l D b0 2 y_Di_has b_Di_has 4 (some .boolean) M [.ref a, vI sort, .ref o] (vI (b2i B)) := by
  refine Ok_of rfl (Nat.le_of_ble_eq_true rfl) (fun E hC hQ hl hD hB hN hR => ?_)
  subst hl hD hB
  have hD9 := h_Dir_a.len
  obtain ⟨ar_1, f_2, h_3, h_4, h_5, h_6⟩ := id h_Dir_a
  unfold hasD at hr
  show G E M 0 0 [(0, .ref a), (1, vI sort), (2, .ref o)] [] 0
  refine G_iconst (i := 0) hC d_Di_has_0 ?_
  refine G_istore_n (lv' := [(3, vI 0), (0, .ref a), (1, vI sort), (2, .ref o)]) hC rfl (by rw [hN]; decide) rfl d_Di_has_1 ?_
  have L2 : ∀ (N : Nat) (k : Int), ((es.length : Int) - k).toNat < N → (0 ≤ k ∧ k ≤ es.length) → ((es.drop k.toNat).any (isD sort b.2) = B) → G E M 0 0 [(0, .ref a), (1, vI sort), (2, .ref o), (3, vI k)] [] 2 := by
    intro N
    induction N with
    | zero => intro k hN2 hk hf; exact absurd hN2 (Nat.not_lt_zero _)
    | succ N ih2 =>
      intro k hN2 hk hf
      refine G_iload_n hC 3 rfl rfl d_Di_has_2 ?_
      refine G_aload_n hC 0 rfl rfl d_Di_has_3 ?_
      refine G_get hC fl_Di_17 h_3 rfl d_Di_has_4 ?_
      refine G_icmp_ge hC 47 (by omega) (by omega) (by decide) d_Di_has_7 (fun c_7 => ?_) (fun c_7 => ?_)
      · refine G_iconst (i := 0) hC d_Di_has_47 ?_
        exact G_zretP hC hQ d_Di_has_48 (b2i_f (by rw [List.drop_eq_nil_of_le (by omega)] at hf; exact hf.symm))
      · refine G_aload_n hC 0 rfl rfl d_Di_has_10 ?_
        refine G_get hC fl_Di_11 h_3 rfl d_Di_has_11 ?_
        refine G_iload_n hC 3 rfl rfl d_Di_has_14 ?_
        obtain ⟨x_8, hx_9, hx_10⟩ := get_of (es := es) (k := k) (by omega)
        obtain ⟨e_11, he_12, he_13⟩ := h_6 _ x_8 hx_9
        obtain ⟨nm_14, vl_15, li_16, li_17, bn_18, bv_19, h_20, h_21, h_22, h_23, h_24, h_25, h_26⟩ := id he_13
        refine G_aald hC h_4 rfl (by omega) (by omega) (by rw [he_12]) d_Di_has_15 ?_
        refine G_get hC fl_Di_60 h_20 rfl d_Di_has_16 ?_
        refine G_iload_n hC 1 rfl rfl d_Di_has_19 ?_
        refine G_icmp_ne hC 41 (by omega) (by omega) (by decide) d_Di_has_20 (fun c_27 => ?_) (fun c_27 => ?_)
        · refine G_iinc (lv' := [(3, vI (k + 1)), (0, .ref a), (1, vI sort), (2, .ref o)]) hC 3 rfl (by rw [hN]; decide) rfl d_Di_has_41 ?_
          refine G_goto hC 2 (by decide) d_Di_has_44 ?_
          refine G_lv [1, 2, 3, 0] rfl ?_
          exact ih2 (k + 1) (by omega) (by omega) (by rw [hx_10, List.any_cons, isD_no (fun z => c_27 z.1), Bool.false_or] at hf; exact hf)
        · refine G_aload_n hC 0 rfl rfl d_Di_has_23 ?_
          refine G_get hC fl_Di_11 h_3 rfl d_Di_has_24 ?_
          refine G_iload_n hC 3 rfl rfl d_Di_has_27 ?_
          refine G_aald hC h_4 rfl (by omega) (by omega) (by rw [he_12]) d_Di_has_28 ?_
          refine G_get hC fl_Di_43 h_20 rfl d_Di_has_29 ?_
          refine G_aload_n hC 2 rfl rfl d_Di_has_32 ?_
          refine G_pV (rest := []) hC hR (c_By_same h_21 h_B_o) cv_Di_63 h_21.obj (by decide) (by omega) (by omega) rfl rfl (Nat.le_of_ble_eq_true rfl) d_Di_has_33 ?_
          refine G_if_eq hC 41 (by have := b2i_rng (decide (bn_18.2 = b.2)); omega) (by decide) d_Di_has_36 (fun c_28 => ?_) (fun c_28 => ?_)
          · have c_28 := b2i_eq0.mp c_28
            have c_28 := of_decide_eq_false c_28
            refine G_iinc (lv' := [(3, vI (k + 1)), (0, .ref a), (1, vI sort), (2, .ref o)]) hC 3 rfl (by rw [hN]; decide) rfl d_Di_has_41 ?_
            refine G_goto hC 2 (by decide) d_Di_has_44 ?_
            refine G_lv [1, 2, 3, 0] rfl ?_
            exact ih2 (k + 1) (by omega) (by omega) (by rw [hx_10, List.any_cons, isD_no (fun z => c_28 (h_23.trans z.2)), Bool.false_or] at hf; exact hf)
          · have c_28 := b2i_ne0.mp c_28
            have c_28 := of_decide_eq_true c_28
            refine G_iconst (i := 1) hC d_Di_has_39 ?_
            exact G_zretP hC hQ d_Di_has_40 (b2i_t (by rw [hx_10, List.any_cons, isD_yes ⟨c_27, h_23.symm.trans c_28⟩, Bool.true_or] at hf; exact hf.symm))
  refine G_lv [1, 2, 3, 0] rfl ?_
  exact L2 _ 0 (Nat.lt_succ_self _) (by omega) hr

set_option maxHeartbeats 4000000 in
set_option maxRecDepth 100000 in
theorem c_En_isPolicyOf {l : Launch} {D : Dg} {b0 : Nat} {M : Mp} {a : Nat} {o : Nat} {te : Nat} {x : Ent} {t : Nat} {lim : Int} {b : Bv} (h_E_a : IsE D M a te x) (h_B_o : IsB D M o t lim b) : OkP l D b0 6 y_En_isPolicyOf b_En_isPolicyOf 4 (some .boolean) M [.ref a, .ref o] (vI (b2i (isP b.2 x))) := by
  refine Ok_of rfl (Nat.le_of_ble_eq_true rfl) (fun E hC hQ hl hD hB hN hR => ?_)
  subst hl hD hB
  obtain ⟨nm_1, vl_2, li_3, li_4, bn_5, bv_6, h_7, h_8, h_9, h_10, h_11, h_12, h_13⟩ := id h_E_a
  have hv9 := h_9.len
  show G E M 0 0 [(0, .ref a), (1, .ref o)] [] 0
  refine G_aload_n hC 0 rfl rfl d_En_isPolicyOf_0 ?_
  refine G_get hC fl_En_27 h_7 rfl d_En_isPolicyOf_1 ?_
  refine G_ldcS (tx := "v=spf1") (i := 0) hC (by decide) d_En_isPolicyOf_4 ?_
  refine G_iconst (i := 0) hC d_En_isPolicyOf_6 ?_
  refine G_aload_n hC 0 rfl rfl d_En_isPolicyOf_7 ?_
  refine G_get hC fl_En_27 h_7 rfl d_En_isPolicyOf_8 ?_
  refine G_pV (rest := [vI 0, .ref ((eD E).2.2.1 0), .ref vl_2]) hC hR (c_By_size h_9) cv_En_32 h_9.obj (by decide) (by omega) (by omega) rfl rfl (Nat.le_of_ble_eq_true rfl) d_En_isPolicyOf_11 ?_
  have g_14 := h_9.len
  refine G_pV (rest := []) hC hR (c_By_has h_9 (by decide) (by omega) (by omega)) cv_En_36 h_9.obj (by decide) (by omega) (by omega) rfl rfl (Nat.le_of_ble_eq_true rfl) d_En_isPolicyOf_14 ?_
  refine G_istore_n (lv' := [(2, vI (b2i (hasS bv_6.2 (wrd 0) 0 (bv_6.2.length : Int)))), (0, .ref a), (1, .ref o)]) hC rfl (by rw [hN]; decide) rfl d_En_isPolicyOf_17 ?_
  refine G_aload_n hC 1 rfl rfl d_En_isPolicyOf_18 ?_
  refine G_get hC fl_En_27 h_7 rfl d_En_isPolicyOf_19 ?_
  refine G_pV (rest := []) hC hR (c_By_size h_9) cv_En_32 h_9.obj (by decide) (by omega) (by omega) rfl rfl (Nat.le_of_ble_eq_true rfl) d_En_isPolicyOf_22 ?_
  have g_15 := h_9.len
  refine G_ldcS (tx := "v=spf1") (i := 0) hC (by decide) d_En_isPolicyOf_25 ?_
  refine G_pT (rest := [vI (bv_6.2.length : Int)]) hC hR (c_Str_length (by decide)) ct_En_40 (by decide) (by decide) (by omega) (by omega) rfl rfl (Nat.le_of_ble_eq_true rfl) d_En_isPolicyOf_27 ?_
  have g_16 := wrd_all 0 (by decide)
  refine G_icmp_eq hC 50 (by omega) (by omega) (by decide) d_En_isPolicyOf_30 (fun c_17 => ?_) (fun c_17 => ?_)
  · refine G_iconst (i := 1) hC d_En_isPolicyOf_50 ?_
    refine G_goto hC 55 (by decide) d_En_isPolicyOf_51 ?_
    refine G_istore_n (lv' := [(3, vI 1), (2, vI (b2i (hasS bv_6.2 (wrd 0) 0 (bv_6.2.length : Int)))), (0, .ref a), (1, .ref o)]) hC rfl (by rw [hN]; decide) rfl d_En_isPolicyOf_55 ?_
    refine G_aload_n hC 2 rfl rfl d_En_isPolicyOf_56 ?_
    refine G_get hC fl_En_9 h_7 rfl d_En_isPolicyOf_57 ?_
    refine G_if_ne hC 86 (by omega) (by decide) d_En_isPolicyOf_60 (fun c_18 => ?_) (fun c_18 => ?_)
    · refine G_iconst (i := 0) hC d_En_isPolicyOf_86 ?_
      exact G_zretP hC hQ d_En_isPolicyOf_87 (b2i_f (by unfold isP recP; rw [← h_11, ← h_10]; exact decide_eq_false (fun z => by obtain ⟨z1, ⟨z2, z3⟩, z4⟩ := z; first | omega | exact absurd z4 c_18 | (rw [z2] at c_18; cases c_18))))
    · refine G_iload_n hC 1 rfl rfl d_En_isPolicyOf_63 ?_
      refine G_if_eq hC 86 (by have := b2i_rng (hasS bv_6.2 (wrd 0) 0 (bv_6.2.length : Int)); omega) (by decide) d_En_isPolicyOf_64 (fun c_19 => ?_) (fun c_19 => ?_)
      · have c_19 := b2i_eq0.mp c_19
        refine G_iconst (i := 0) hC d_En_isPolicyOf_86 ?_
        exact G_zretP hC hQ d_En_isPolicyOf_87 (b2i_f (by unfold isP recP; rw [← h_11, ← h_10]; exact decide_eq_false (fun z => by obtain ⟨z1, ⟨z2, z3⟩, z4⟩ := z; first | omega | exact absurd z4 c_19 | (rw [z2] at c_19; cases c_19))))
      · have c_19 := b2i_ne0.mp c_19
        refine G_iload_n hC 0 rfl rfl d_En_isPolicyOf_67 ?_
        refine G_if_eq hC 86 (by decide) (by decide) d_En_isPolicyOf_68 (fun c_20 => ?_) (fun c_20 => ?_)
        · exact (show False from by omega).elim
        · refine G_aload_n hC 2 rfl rfl d_En_isPolicyOf_71 ?_
          refine G_get hC fl_En_23 h_7 rfl d_En_isPolicyOf_72 ?_
          refine G_aload_n hC 3 rfl rfl d_En_isPolicyOf_75 ?_
          refine G_pV (rest := []) hC hR (c_By_same h_8 h_B_o) cv_En_49 h_8.obj (by decide) (by omega) (by omega) rfl rfl (Nat.le_of_ble_eq_true rfl) d_En_isPolicyOf_76 ?_
          refine G_if_eq hC 86 (by have := b2i_rng (decide (bn_5.2 = b.2)); omega) (by decide) d_En_isPolicyOf_79 (fun c_21 => ?_) (fun c_21 => ?_)
          · have c_21 := b2i_eq0.mp c_21
            have c_21 := of_decide_eq_false c_21
            refine G_iconst (i := 0) hC d_En_isPolicyOf_86 ?_
            exact G_zretP hC hQ d_En_isPolicyOf_87 (b2i_f (by unfold isP recP; rw [← h_11, ← h_10]; exact decide_eq_false (fun z => by obtain ⟨z1, ⟨z2, z3⟩, z4⟩ := z; first | omega | exact absurd z4 c_21 | (rw [z2] at c_21; cases c_21))))
          · have c_21 := b2i_ne0.mp c_21
            have c_21 := of_decide_eq_true c_21
            refine G_iconst (i := 1) hC d_En_isPolicyOf_82 ?_
            refine G_goto hC 87 (by decide) d_En_isPolicyOf_83 ?_
            exact G_zretP hC hQ d_En_isPolicyOf_87 (b2i_t (by unfold isP recP; rw [← h_11, ← h_10]; exact decide_eq_true ⟨c_18, ⟨c_19, by omega⟩, c_21⟩))
  · refine G_aload_n hC 1 rfl rfl d_En_isPolicyOf_33 ?_
    refine G_get hC fl_En_27 h_7 rfl d_En_isPolicyOf_34 ?_
    refine G_ldcS (tx := "v=spf1") (i := 0) hC (by decide) d_En_isPolicyOf_37 ?_
    refine G_pT (rest := [.ref vl_2]) hC hR (c_Str_length (by decide)) ct_En_40 (by decide) (by decide) (by omega) (by omega) rfl rfl (Nat.le_of_ble_eq_true rfl) d_En_isPolicyOf_39 ?_
    have g_22 := wrd_all 0 (by decide)
    refine G_pV (rest := []) hC hR (c_By_at h_9 (by omega)) cv_En_45 h_9.obj (by decide) (by omega) (by omega) rfl rfl (Nat.le_of_ble_eq_true rfl) d_En_isPolicyOf_42 ?_
    have g_23 := h_9.at_rng ((wrd 0).length : Int)
    refine G_bipush (j := 32) hC (by decide +kernel) d_En_isPolicyOf_45 ?_
    refine G_icmp_ne hC 54 (by omega) (by decide) (by decide) d_En_isPolicyOf_47 (fun c_24 => ?_) (fun c_24 => ?_)
    · refine G_iconst (i := 0) hC d_En_isPolicyOf_54 ?_
      refine G_istore_n (lv' := [(3, vI 0), (2, vI (b2i (hasS bv_6.2 (wrd 0) 0 (bv_6.2.length : Int)))), (0, .ref a), (1, .ref o)]) hC rfl (by rw [hN]; decide) rfl d_En_isPolicyOf_55 ?_
      refine G_aload_n hC 2 rfl rfl d_En_isPolicyOf_56 ?_
      refine G_get hC fl_En_9 h_7 rfl d_En_isPolicyOf_57 ?_
      refine G_if_ne hC 86 (by omega) (by decide) d_En_isPolicyOf_60 (fun c_25 => ?_) (fun c_25 => ?_)
      · refine G_iconst (i := 0) hC d_En_isPolicyOf_86 ?_
        exact G_zretP hC hQ d_En_isPolicyOf_87 (b2i_f (by unfold isP recP; rw [← h_11, ← h_10]; exact decide_eq_false (fun z => by obtain ⟨z1, ⟨z2, z3⟩, z4⟩ := z; first | omega | exact absurd z4 c_25 | (rw [z2] at c_25; cases c_25))))
      · refine G_iload_n hC 1 rfl rfl d_En_isPolicyOf_63 ?_
        refine G_if_eq hC 86 (by have := b2i_rng (hasS bv_6.2 (wrd 0) 0 (bv_6.2.length : Int)); omega) (by decide) d_En_isPolicyOf_64 (fun c_26 => ?_) (fun c_26 => ?_)
        · have c_26 := b2i_eq0.mp c_26
          refine G_iconst (i := 0) hC d_En_isPolicyOf_86 ?_
          exact G_zretP hC hQ d_En_isPolicyOf_87 (b2i_f (by unfold isP recP; rw [← h_11, ← h_10]; exact decide_eq_false (fun z => by obtain ⟨z1, ⟨z2, z3⟩, z4⟩ := z; first | omega | exact absurd z4 c_26 | (rw [z2] at c_26; cases c_26))))
        · have c_26 := b2i_ne0.mp c_26
          refine G_iload_n hC 0 rfl rfl d_En_isPolicyOf_67 ?_
          refine G_if_eq hC 86 (by decide) (by decide) d_En_isPolicyOf_68 (fun c_27 => ?_) (fun c_27 => ?_)
          · refine G_iconst (i := 0) hC d_En_isPolicyOf_86 ?_
            exact G_zretP hC hQ d_En_isPolicyOf_87 (b2i_f (by unfold isP recP; rw [← h_11, ← h_10]; exact decide_eq_false (fun z => by obtain ⟨z1, ⟨z2, z3⟩, z4⟩ := z; first | omega | exact absurd z4 c_27 | (rw [z2] at c_27; cases c_27))))
          · exact (show False from by omega).elim
    · refine G_iconst (i := 1) hC d_En_isPolicyOf_50 ?_
      refine G_goto hC 55 (by decide) d_En_isPolicyOf_51 ?_
      refine G_istore_n (lv' := [(3, vI 1), (2, vI (b2i (hasS bv_6.2 (wrd 0) 0 (bv_6.2.length : Int)))), (0, .ref a), (1, .ref o)]) hC rfl (by rw [hN]; decide) rfl d_En_isPolicyOf_55 ?_
      refine G_aload_n hC 2 rfl rfl d_En_isPolicyOf_56 ?_
      refine G_get hC fl_En_9 h_7 rfl d_En_isPolicyOf_57 ?_
      refine G_if_ne hC 86 (by omega) (by decide) d_En_isPolicyOf_60 (fun c_28 => ?_) (fun c_28 => ?_)
      · refine G_iconst (i := 0) hC d_En_isPolicyOf_86 ?_
        exact G_zretP hC hQ d_En_isPolicyOf_87 (b2i_f (by unfold isP recP; rw [← h_11, ← h_10]; exact decide_eq_false (fun z => by obtain ⟨z1, ⟨z2, z3⟩, z4⟩ := z; first | omega | exact absurd z4 c_28 | (rw [z2] at c_28; cases c_28))))
      · refine G_iload_n hC 1 rfl rfl d_En_isPolicyOf_63 ?_
        refine G_if_eq hC 86 (by have := b2i_rng (hasS bv_6.2 (wrd 0) 0 (bv_6.2.length : Int)); omega) (by decide) d_En_isPolicyOf_64 (fun c_29 => ?_) (fun c_29 => ?_)
        · have c_29 := b2i_eq0.mp c_29
          refine G_iconst (i := 0) hC d_En_isPolicyOf_86 ?_
          exact G_zretP hC hQ d_En_isPolicyOf_87 (b2i_f (by unfold isP recP; rw [← h_11, ← h_10]; exact decide_eq_false (fun z => by obtain ⟨z1, ⟨z2, z3⟩, z4⟩ := z; first | omega | exact absurd z4 c_29 | (rw [z2] at c_29; cases c_29))))
        · have c_29 := b2i_ne0.mp c_29
          refine G_iload_n hC 0 rfl rfl d_En_isPolicyOf_67 ?_
          refine G_if_eq hC 86 (by decide) (by decide) d_En_isPolicyOf_68 (fun c_30 => ?_) (fun c_30 => ?_)
          · exact (show False from by omega).elim
          · refine G_aload_n hC 2 rfl rfl d_En_isPolicyOf_71 ?_
            refine G_get hC fl_En_23 h_7 rfl d_En_isPolicyOf_72 ?_
            refine G_aload_n hC 3 rfl rfl d_En_isPolicyOf_75 ?_
            refine G_pV (rest := []) hC hR (c_By_same h_8 h_B_o) cv_En_49 h_8.obj (by decide) (by omega) (by omega) rfl rfl (Nat.le_of_ble_eq_true rfl) d_En_isPolicyOf_76 ?_
            refine G_if_eq hC 86 (by have := b2i_rng (decide (bn_5.2 = b.2)); omega) (by decide) d_En_isPolicyOf_79 (fun c_31 => ?_) (fun c_31 => ?_)
            · have c_31 := b2i_eq0.mp c_31
              have c_31 := of_decide_eq_false c_31
              refine G_iconst (i := 0) hC d_En_isPolicyOf_86 ?_
              exact G_zretP hC hQ d_En_isPolicyOf_87 (b2i_f (by unfold isP recP; rw [← h_11, ← h_10]; exact decide_eq_false (fun z => by obtain ⟨z1, ⟨z2, z3⟩, z4⟩ := z; first | omega | exact absurd z4 c_31 | (rw [z2] at c_31; cases c_31))))
            · have c_31 := b2i_ne0.mp c_31
              have c_31 := of_decide_eq_true c_31
              refine G_iconst (i := 1) hC d_En_isPolicyOf_82 ?_
              refine G_goto hC 87 (by decide) d_En_isPolicyOf_83 ?_
              exact G_zretP hC hQ d_En_isPolicyOf_87 (b2i_t (by unfold isP recP; rw [← h_11, ← h_10]; exact decide_eq_true ⟨c_28, ⟨c_29, by omega⟩, c_31⟩))

set_option maxHeartbeats 4000000 in
set_option maxRecDepth 100000 in
theorem c_Di_policies {l : Launch} {D : Dg} {b0 : Nat} {M : Mp} {a : Nat} {o : Nat} {es : List Ent} {t : Nat} {lim : Int} {b : Bv} {z : Int} (h_Dir_a : IsDir D M a es) (h_B_o : IsB D M o t lim b) (hr : ((es.filter (isP b.2)).length : Int) = z) : OkP l D b0 7 y_Di_policies b_Di_policies 4 (some .int) M [.ref a, .ref o] (vI z) := by
  refine Ok_of rfl (Nat.le_of_ble_eq_true rfl) (fun E hC hQ hl hD hB hN hR => ?_)
  subst hl hD hB
  have hD9 := h_Dir_a.len
  obtain ⟨ar_1, f_2, h_3, h_4, h_5, h_6⟩ := id h_Dir_a
  show G E M 0 0 [(0, .ref a), (1, .ref o)] [] 0
  refine G_iconst (i := 0) hC d_Di_policies_0 ?_
  refine G_istore_n (lv' := [(2, vI 0), (0, .ref a), (1, .ref o)]) hC rfl (by rw [hN]; decide) rfl d_Di_policies_1 ?_
  refine G_iconst (i := 0) hC d_Di_policies_2 ?_
  refine G_istore_n (lv' := [(3, vI 0), (2, vI 0), (0, .ref a), (1, .ref o)]) hC rfl (by rw [hN]; decide) rfl d_Di_policies_3 ?_
  have L4 : ∀ (N : Nat) (found : Int) (k : Int), ((es.length : Int) - k).toNat < N → (0 ≤ k ∧ k ≤ es.length ∧ 0 ≤ found ∧ found ≤ k) → (found + (((es.drop k.toNat).filter (isP b.2)).length : Int) = z) → G E M 0 0 [(0, .ref a), (1, .ref o), (2, vI found), (3, vI k)] [] 4 := by
    intro N
    induction N with
    | zero => intro found k hN4 hk hf; exact absurd hN4 (Nat.not_lt_zero _)
    | succ N ih4 =>
      intro found k hN4 hk hf
      refine G_iload_n hC 3 rfl rfl d_Di_policies_4 ?_
      refine G_aload_n hC 0 rfl rfl d_Di_policies_5 ?_
      refine G_get hC fl_Di_17 h_3 rfl d_Di_policies_6 ?_
      refine G_icmp_ge hC 34 (by omega) (by omega) (by decide) d_Di_policies_9 (fun c_7 => ?_) (fun c_7 => ?_)
      · refine G_iload_n hC 2 rfl rfl d_Di_policies_34 ?_
        exact G_iretP hC hQ d_Di_policies_35 (by rw [List.drop_eq_nil_of_le (by omega), List.filter_nil, List.length_nil] at hf; omega)
      · refine G_aload_n hC 0 rfl rfl d_Di_policies_12 ?_
        refine G_get hC fl_Di_11 h_3 rfl d_Di_policies_13 ?_
        refine G_iload_n hC 3 rfl rfl d_Di_policies_16 ?_
        obtain ⟨x_8, hx_9, hx_10⟩ := get_of (es := es) (k := k) (by omega)
        obtain ⟨e_11, he_12, he_13⟩ := h_6 _ x_8 hx_9
        obtain ⟨nm_14, vl_15, li_16, li_17, bn_18, bv_19, h_20, h_21, h_22, h_23, h_24, h_25, h_26⟩ := id he_13
        refine G_aald hC h_4 rfl (by omega) (by omega) (by rw [he_12]) d_Di_policies_17 ?_
        refine G_aload_n hC 1 rfl rfl d_Di_policies_18 ?_
        refine G_pV (rest := []) hC hR (c_En_isPolicyOf he_13 h_B_o) cv_Di_67 ⟨_, _, h_20⟩ (by decide) (by omega) (by omega) rfl rfl (Nat.le_of_ble_eq_true rfl) d_Di_policies_19 ?_
        refine G_if_eq hC 28 (by have := b2i_rng (isP b.2 x_8); omega) (by decide) d_Di_policies_22 (fun c_27 => ?_) (fun c_27 => ?_)
        · have c_27 := b2i_eq0.mp c_27
          refine G_iinc (lv' := [(3, vI (k + 1)), (0, .ref a), (1, .ref o), (2, vI found)]) hC 3 rfl (by rw [hN]; decide) rfl d_Di_policies_28 ?_
          refine G_goto hC 4 (by decide) d_Di_policies_31 ?_
          refine G_lv [1, 2, 3, 0] rfl ?_
          exact ih4 found (k + 1) (by omega) (by omega) (by rw [hx_10, List.filter_cons_of_neg (by rw [c_27]; decide)] at hf; exact hf)
        · have c_27 := b2i_ne0.mp c_27
          refine G_iinc (lv' := [(2, vI (found + 1)), (0, .ref a), (1, .ref o), (3, vI k)]) hC 2 rfl (by rw [hN]; decide) rfl d_Di_policies_25 ?_
          refine G_iinc (lv' := [(3, vI (k + 1)), (2, vI (found + 1)), (0, .ref a), (1, .ref o)]) hC 3 rfl (by rw [hN]; decide) rfl d_Di_policies_28 ?_
          refine G_goto hC 4 (by decide) d_Di_policies_31 ?_
          refine G_lv [2, 3, 1, 0] rfl ?_
          exact ih4 (found + 1) (k + 1) (by omega) (by omega) (by rw [hx_10, List.filter_cons_of_pos c_27, List.length_cons] at hf; omega)
  refine G_lv [2, 3, 1, 0] rfl ?_
  exact L4 _ 0 0 (Nat.lt_succ_self _) (by omega) (by rw [← hr]; show 0 + ((es.filter (isP b.2)).length : Int) = _; omega)

set_option maxHeartbeats 4000000 in
set_option maxRecDepth 100000 in
theorem c_Di_policy0 {l : Launch} {D : Dg} {b0 : Nat} {M : Mp} {a : Nat} {o : Nat} {es : List Ent} {t : Nat} {lim : Int} {b : Bv} (h_Dir_a : IsDir D M a es) (h_B_o : IsB D M o t lim b) (hr : es.filter (isP b.2) = []) : OkP l D b0 7 y_Di_policy b_Di_policy 3 (some (.object "SendPolicy$Bytes")) M [.ref a, .ref o] (.null) := by
  refine Ok_of rfl (Nat.le_of_ble_eq_true rfl) (fun E hC hQ hl hD hB hN hR => ?_)
  subst hl hD hB
  have hD9 := h_Dir_a.len
  obtain ⟨ar_1, f_2, h_3, h_4, h_5, h_6⟩ := id h_Dir_a
  show G E M 0 0 [(0, .ref a), (1, .ref o)] [] 0
  refine G_iconst (i := 0) hC d_Di_policy_0 ?_
  refine G_istore_n (lv' := [(2, vI 0), (0, .ref a), (1, .ref o)]) hC rfl (by rw [hN]; decide) rfl d_Di_policy_1 ?_
  have L2 : ∀ (N : Nat) (k : Int), ((es.length : Int) - k).toNat < N → (0 ≤ k ∧ k ≤ es.length) → ((es.drop k.toNat).filter (isP b.2) = []) → G E M 0 0 [(0, .ref a), (1, .ref o), (2, vI k)] [] 2 := by
    intro N
    induction N with
    | zero => intro k hN2 hk hf; exact absurd hN2 (Nat.not_lt_zero _)
    | succ N ih2 =>
      intro k hN2 hk hf
      refine G_iload_n hC 2 rfl rfl d_Di_policy_2 ?_
      refine G_aload_n hC 0 rfl rfl d_Di_policy_3 ?_
      refine G_get hC fl_Di_17 h_3 rfl d_Di_policy_4 ?_
      refine G_icmp_ge hC 39 (by omega) (by omega) (by decide) d_Di_policy_7 (fun c_7 => ?_) (fun c_7 => ?_)
      · refine G_null hC d_Di_policy_39 ?_
        exact G_aretN hC hQ d_Di_policy_40
      · refine G_aload_n hC 0 rfl rfl d_Di_policy_10 ?_
        refine G_get hC fl_Di_11 h_3 rfl d_Di_policy_11 ?_
        refine G_iload_n hC 2 rfl rfl d_Di_policy_14 ?_
        obtain ⟨x_8, hx_9, hx_10⟩ := get_of (es := es) (k := k) (by omega)
        obtain ⟨e_11, he_12, he_13⟩ := h_6 _ x_8 hx_9
        obtain ⟨nm_14, vl_15, li_16, li_17, bn_18, bv_19, h_20, h_21, h_22, h_23, h_24, h_25, h_26⟩ := id he_13
        refine G_aald hC h_4 rfl (by omega) (by omega) (by rw [he_12]) d_Di_policy_15 ?_
        refine G_aload_n hC 1 rfl rfl d_Di_policy_16 ?_
        refine G_pV (rest := []) hC hR (c_En_isPolicyOf he_13 h_B_o) cv_Di_67 ⟨_, _, h_20⟩ (by decide) (by omega) (by omega) rfl rfl (Nat.le_of_ble_eq_true rfl) d_Di_policy_17 ?_
        refine G_if_eq hC 33 (by have := b2i_rng (isP b.2 x_8); omega) (by decide) d_Di_policy_20 (fun c_27 => ?_) (fun c_27 => ?_)
        · have c_27 := b2i_eq0.mp c_27
          refine G_iinc (lv' := [(2, vI (k + 1)), (0, .ref a), (1, .ref o)]) hC 2 rfl (by rw [hN]; decide) rfl d_Di_policy_33 ?_
          refine G_goto hC 2 (by decide) d_Di_policy_36 ?_
          refine G_lv [1, 2, 0] rfl ?_
          exact ih2 (k + 1) (by omega) (by omega) (by rw [hx_10, List.filter_cons_of_neg (by rw [c_27]; decide)] at hf; exact hf)
        · have c_27 := b2i_ne0.mp c_27
          exact absurd (by rw [hx_10, List.filter_cons_of_pos c_27] at hf; exact hf) (List.cons_ne_nil _ _)
  refine G_lv [1, 2, 0] rfl ?_
  exact L2 _ 0 (Nat.lt_succ_self _) (by omega) hr

set_option maxHeartbeats 4000000 in
set_option maxRecDepth 100000 in
theorem c_Di_policy1 {l : Launch} {D : Dg} {b0 : Nat} {M : Mp} {a : Nat} {o : Nat} {es : List Ent} {t : Nat} {lim : Int} {b : Bv} {x : Ent} {lst : List Ent} (h_Dir_a : IsDir D M a es) (h_B_o : IsB D M o t lim b) (hr : es.filter (isP b.2) = x :: lst) : Ok l D b0 7 y_Di_policy b_Di_policy 3 (some (.object "SendPolicy$Bytes")) M [.ref a, .ref o] 0 0 (fun r M' => ∃ q : Nat, ∃ tq : Nat, ∃ lq : Int, ∃ bq : Bv, r = some (.ref q) ∧ IsB D M' q tq lq bq ∧ (bq.2 = x.2.2.2 ∧ 200 ≤ tq ∧ tq ≤ 398) ∧ M = M') := by
  refine Ok_of rfl (Nat.le_of_ble_eq_true rfl) (fun E hC hQ hl hD hB hN hR => ?_)
  subst hl hD hB
  have hD9 := h_Dir_a.len
  obtain ⟨ar_1, f_2, h_3, h_4, h_5, h_6⟩ := id h_Dir_a
  show G E M 0 0 [(0, .ref a), (1, .ref o)] [] 0
  refine G_iconst (i := 0) hC d_Di_policy_0 ?_
  refine G_istore_n (lv' := [(2, vI 0), (0, .ref a), (1, .ref o)]) hC rfl (by rw [hN]; decide) rfl d_Di_policy_1 ?_
  have L2 : ∀ (N : Nat) (k : Int), ((es.length : Int) - k).toNat < N → (0 ≤ k ∧ k ≤ es.length) → ((es.drop k.toNat).filter (isP b.2) = x :: lst) → G E M 0 0 [(0, .ref a), (1, .ref o), (2, vI k)] [] 2 := by
    intro N
    induction N with
    | zero => intro k hN2 hk hf; exact absurd hN2 (Nat.not_lt_zero _)
    | succ N ih2 =>
      intro k hN2 hk hf
      refine G_iload_n hC 2 rfl rfl d_Di_policy_2 ?_
      refine G_aload_n hC 0 rfl rfl d_Di_policy_3 ?_
      refine G_get hC fl_Di_17 h_3 rfl d_Di_policy_4 ?_
      refine G_icmp_ge hC 39 (by omega) (by omega) (by decide) d_Di_policy_7 (fun c_7 => ?_) (fun c_7 => ?_)
      · exact absurd (by rw [List.drop_eq_nil_of_le (by omega), List.filter_nil] at hf; exact hf.symm) (List.cons_ne_nil _ _)
      · refine G_aload_n hC 0 rfl rfl d_Di_policy_10 ?_
        refine G_get hC fl_Di_11 h_3 rfl d_Di_policy_11 ?_
        refine G_iload_n hC 2 rfl rfl d_Di_policy_14 ?_
        obtain ⟨x_8, hx_9, hx_10⟩ := get_of (es := es) (k := k) (by omega)
        obtain ⟨e_11, he_12, he_13⟩ := h_6 _ x_8 hx_9
        obtain ⟨nm_14, vl_15, li_16, li_17, bn_18, bv_19, h_20, h_21, h_22, h_23, h_24, h_25, h_26⟩ := id he_13
        refine G_aald hC h_4 rfl (by omega) (by omega) (by rw [he_12]) d_Di_policy_15 ?_
        refine G_aload_n hC 1 rfl rfl d_Di_policy_16 ?_
        refine G_pV (rest := []) hC hR (c_En_isPolicyOf he_13 h_B_o) cv_Di_67 ⟨_, _, h_20⟩ (by decide) (by omega) (by omega) rfl rfl (Nat.le_of_ble_eq_true rfl) d_Di_policy_17 ?_
        refine G_if_eq hC 33 (by have := b2i_rng (isP b.2 x_8); omega) (by decide) d_Di_policy_20 (fun c_27 => ?_) (fun c_27 => ?_)
        · have c_27 := b2i_eq0.mp c_27
          refine G_iinc (lv' := [(2, vI (k + 1)), (0, .ref a), (1, .ref o)]) hC 2 rfl (by rw [hN]; decide) rfl d_Di_policy_33 ?_
          refine G_goto hC 2 (by decide) d_Di_policy_36 ?_
          refine G_lv [1, 2, 0] rfl ?_
          exact ih2 (k + 1) (by omega) (by omega) (by rw [hx_10, List.filter_cons_of_neg (by rw [c_27]; decide)] at hf; exact hf)
        · have c_27 := b2i_ne0.mp c_27
          refine G_aload_n hC 0 rfl rfl d_Di_policy_23 ?_
          refine G_get hC fl_Di_11 h_3 rfl d_Di_policy_24 ?_
          refine G_iload_n hC 2 rfl rfl d_Di_policy_27 ?_
          refine G_aald hC h_4 rfl (by omega) (by omega) (by rw [he_12]) d_Di_policy_28 ?_
          refine G_get hC fl_Di_51 h_20 rfl d_Di_policy_29 ?_
          have hx9 : x_8 = x := by rw [hx_10, List.filter_cons_of_pos c_27] at hf; exact (List.cons.inj hf).1
          exact G_areturn hC hQ (Or.inl ⟨_, rfl⟩) (Or.inr ⟨_, rfl⟩) (by omega) (by omega) d_Di_policy_32 ⟨vl_15, _, _, _, rfl, h_22, ⟨by rw [h_24, hx9], by omega⟩, rfl⟩
  refine G_lv [1, 2, 0] rfl ?_
  exact L2 _ 0 (Nat.lt_succ_self _) (by omega) hr

set_option maxHeartbeats 4000000 in
set_option maxRecDepth 100000 in
theorem c_Di_sameBits {l : Launch} {D : Dg} {b0 : Nat} {M : Mp} {a : Int32} {b : Int32} {n : Int} (hn : -100000 ≤ n ∧ n ≤ 100000) : OkP l D b0 1 y_Di_sameBits b_Di_sameBits 3 (some .boolean) M [.int a, .int b, vI n] (vI (b2i (sbS a b n))) := by
  refine Ok_of rfl (Nat.le_of_ble_eq_true rfl) (fun E hC hQ hl hD hB hN hR => ?_)
  subst hl hD hB
  show G E M 0 0 [(0, .int a), (1, .int b), (2, vI n)] [] 0
  refine G_iload_n hC 2 rfl rfl d_Di_sameBits_0 ?_
  refine G_if_le hC 15 (by omega) (by decide) d_Di_sameBits_1 (fun c_1 => ?_) (fun c_1 => ?_)
  · refine G_iconst (i := 1) hC d_Di_sameBits_15 ?_
    refine G_goto hC 20 (by decide) d_Di_sameBits_16 ?_
    exact G_zretP hC hQ d_Di_sameBits_20 (b2i_t (decide_eq_true (by omega)))
  · refine G_iload_n hC 0 rfl rfl d_Di_sameBits_4 ?_
    refine G_iload_n hC 1 rfl rfl d_Di_sameBits_5 ?_
    refine G_ixor hC rfl d_Di_sameBits_6 ?_
    refine G_bipush (j := 32) hC (by decide +kernel) d_Di_sameBits_7 ?_
    refine G_iload_n hC 2 rfl rfl d_Di_sameBits_9 ?_
    refine G_isub hC d_Di_sameBits_10 ?_
    refine G_iushr hC rfl d_Di_sameBits_11 ?_
    refine G_X2I ?_
    have g_3 := zI_rng (((a ^^^ b).toUInt32 >>> ((zI (32 - n)).toUInt32 &&& Int32.toUInt32 31)).toInt32)
    refine G_if_ne hC 19 (by omega) (by decide) d_Di_sameBits_12 (fun c_2 => ?_) (fun c_2 => ?_)
    · refine G_iconst (i := 0) hC d_Di_sameBits_19 ?_
      exact G_zretP hC hQ d_Di_sameBits_20 (b2i_f (decide_eq_false (by omega)))
    · refine G_iconst (i := 1) hC d_Di_sameBits_15 ?_
      refine G_goto hC 20 (by decide) d_Di_sameBits_16 ?_
      exact G_zretP hC hQ d_Di_sameBits_20 (b2i_t (decide_eq_true (by omega)))

set_option maxHeartbeats 4000000 in
set_option maxRecDepth 100000 in
theorem c_Di_reaches {l : Launch} {D : Dg} {b0 : Nat} {M : Mp} {a : Nat} {o : Nat} {ad : Int32} {n : Int} {es : List Ent} {t : Nat} {lim : Int} {b : Bv} {B : Bool} (h_Dir_a : IsDir D M a es) (h_B_o : IsB D M o t lim b) (hn : -100000 ≤ n ∧ n ≤ 100000) (hr : reaD es b.2 ad n = B) : OkP l D b0 2 y_Di_reaches b_Di_reaches 6 (some .boolean) M [.ref a, .ref o, .int ad, vI n] (vI (b2i B)) := by
  refine Ok_of rfl (Nat.le_of_ble_eq_true rfl) (fun E hC hQ hl hD hB hN hR => ?_)
  subst hl hD hB
  have hD9 := h_Dir_a.len
  obtain ⟨ar_1, f_2, h_3, h_4, h_5, h_6⟩ := id h_Dir_a
  unfold reaD at hr
  show G E M 0 0 [(0, .ref a), (1, .ref o), (2, .int ad), (3, vI n)] [] 0
  refine G_iconst (i := 0) hC d_Di_reaches_0 ?_
  refine G_istore (lv' := [(4, vI 0), (0, .ref a), (1, .ref o), (2, .int ad), (3, vI n)]) hC (by rw [hN]; decide) rfl d_Di_reaches_1 ?_
  have L3 : ∀ (N : Nat) (k : Int), ((es.length : Int) - k).toNat < N → (0 ≤ k ∧ k ≤ es.length) → ((es.drop k.toNat).any (reaP b.2 ad n) = B) → G E M 0 0 [(0, .ref a), (1, .ref o), (2, .int ad), (3, vI n), (4, vI k)] [] 3 := by
    intro N
    induction N with
    | zero => intro k hN3 hk hf; exact absurd hN3 (Nat.not_lt_zero _)
    | succ N ih3 =>
      intro k hN3 hk hf
      refine G_iload hC 4 rfl d_Di_reaches_3 ?_
      refine G_aload_n hC 0 rfl rfl d_Di_reaches_5 ?_
      refine G_get hC fl_Di_17 h_3 rfl d_Di_reaches_6 ?_
      refine G_icmp_ge hC 63 (by omega) (by omega) (by decide) d_Di_reaches_9 (fun c_7 => ?_) (fun c_7 => ?_)
      · refine G_iconst (i := 0) hC d_Di_reaches_63 ?_
        exact G_zretP hC hQ d_Di_reaches_64 (b2i_f (by rw [List.drop_eq_nil_of_le (by omega)] at hf; exact hf.symm))
      · refine G_aload_n hC 0 rfl rfl d_Di_reaches_12 ?_
        refine G_get hC fl_Di_11 h_3 rfl d_Di_reaches_13 ?_
        refine G_iload hC 4 rfl d_Di_reaches_16 ?_
        obtain ⟨x_8, hx_9, hx_10⟩ := get_of (es := es) (k := k) (by omega)
        obtain ⟨e_11, he_12, he_13⟩ := h_6 _ x_8 hx_9
        obtain ⟨nm_14, vl_15, li_16, li_17, bn_18, bv_19, h_20, h_21, h_22, h_23, h_24, h_25, h_26⟩ := id he_13
        refine G_aald hC h_4 rfl (by omega) (by omega) (by rw [he_12]) d_Di_reaches_18 ?_
        refine G_astore (lv' := [(5, .ref e_11), (0, .ref a), (1, .ref o), (2, .int ad), (3, vI n), (4, vI k)]) hC (by rw [hN]; decide) rfl d_Di_reaches_19 ?_
        refine G_aload hC 0 rfl d_Di_reaches_21 ?_
        refine G_get hC fl_Di_60 h_20 rfl d_Di_reaches_23 ?_
        refine G_iconst (i := 1) hC d_Di_reaches_26 ?_
        refine G_icmp_ne hC 57 (by omega) (by decide) (by decide) d_Di_reaches_27 (fun c_27 => ?_) (fun c_27 => ?_)
        · refine G_iinc (lv' := [(4, vI (k + 1)), (5, .ref e_11), (0, .ref a), (1, .ref o), (2, .int ad), (3, vI n)]) hC 5 rfl (by rw [hN]; decide) rfl d_Di_reaches_57 ?_
          refine G_goto hC 3 (by decide) d_Di_reaches_60 ?_
          refine G_lv [2, 3, 4, 5, 0] rfl ?_
          exact ih3 (k + 1) (by omega) (by omega) (by rw [hx_10, List.any_cons, reaP_no (fun z => c_27 z.1), Bool.false_or] at hf; exact hf)
        · refine G_aload hC 0 rfl d_Di_reaches_30 ?_
          refine G_get hC fl_Di_70 h_20 rfl d_Di_reaches_32 ?_
          refine G_iload_n hC 3 rfl rfl d_Di_reaches_35 ?_
          refine G_iload_n hC 4 rfl rfl d_Di_reaches_36 ?_
          refine G_pS (rest := []) hC hR (c_Di_sameBits (by omega)) cs_Di_73 (by decide) (by omega) (by omega) rfl rfl (Nat.le_of_ble_eq_true rfl) d_Di_reaches_37 ?_
          refine G_if_eq hC 57 (by have := b2i_rng (sbS x_8.2.1 ad n); omega) (by decide) d_Di_reaches_40 (fun c_28 => ?_) (fun c_28 => ?_)
          · have c_28 := b2i_eq0.mp c_28
            refine G_iinc (lv' := [(4, vI (k + 1)), (5, .ref e_11), (0, .ref a), (1, .ref o), (2, .int ad), (3, vI n)]) hC 5 rfl (by rw [hN]; decide) rfl d_Di_reaches_57 ?_
            refine G_goto hC 3 (by decide) d_Di_reaches_60 ?_
            refine G_lv [2, 3, 4, 5, 0] rfl ?_
            exact ih3 (k + 1) (by omega) (by omega) (by rw [hx_10, List.any_cons, reaP_no (fun z => by rw [z.2.1] at c_28; cases c_28), Bool.false_or] at hf; exact hf)
          · have c_28 := b2i_ne0.mp c_28
            refine G_aload hC 0 rfl d_Di_reaches_43 ?_
            refine G_get hC fl_Di_43 h_20 rfl d_Di_reaches_45 ?_
            refine G_aload_n hC 2 rfl rfl d_Di_reaches_48 ?_
            refine G_pV (rest := []) hC hR (c_By_same h_21 h_B_o) cv_Di_63 h_21.obj (by decide) (by omega) (by omega) rfl rfl (Nat.le_of_ble_eq_true rfl) d_Di_reaches_49 ?_
            refine G_if_eq hC 57 (by have := b2i_rng (decide (bn_18.2 = b.2)); omega) (by decide) d_Di_reaches_52 (fun c_29 => ?_) (fun c_29 => ?_)
            · have c_29 := b2i_eq0.mp c_29
              have c_29 := of_decide_eq_false c_29
              refine G_iinc (lv' := [(4, vI (k + 1)), (5, .ref e_11), (0, .ref a), (1, .ref o), (2, .int ad), (3, vI n)]) hC 5 rfl (by rw [hN]; decide) rfl d_Di_reaches_57 ?_
              refine G_goto hC 3 (by decide) d_Di_reaches_60 ?_
              refine G_lv [2, 3, 4, 5, 0] rfl ?_
              exact ih3 (k + 1) (by omega) (by omega) (by rw [hx_10, List.any_cons, reaP_no (fun z => c_29 (h_23.trans z.2.2)), Bool.false_or] at hf; exact hf)
            · have c_29 := b2i_ne0.mp c_29
              have c_29 := of_decide_eq_true c_29
              refine G_iconst (i := 1) hC d_Di_reaches_55 ?_
              exact G_zretP hC hQ d_Di_reaches_56 (b2i_t (by rw [hx_10, List.any_cons, reaP_yes ⟨c_27, c_28, h_23.symm.trans c_29⟩, Bool.true_or] at hf; exact hf.symm))
  refine G_lv [1, 2, 3, 4, 0] rfl ?_
  exact L3 _ 0 (Nat.lt_succ_self _) (by omega) hr

set_option maxHeartbeats 4000000 in
set_option maxRecDepth 100000 in
theorem c_Di_isGood {l : Launch} {D : Dg} {b0 : Nat} {M : Mp} {sort : Int} {a : Nat} {blank : Int} {t : Nat} {lim : Int} {b : Bv} (h_B_a : IsB D M a t lim b) (hs : -2147483648 ≤ sort ∧ sort ≤ 2147483647) (hb : 0 ≤ blank ∧ blank ≤ b.2.length) : OkP l D b0 4 y_Di_isGood b_Di_isGood 4 (some .boolean) M [vI sort, .ref a, vI blank] (vI (b2i (decide (goodP b.2 sort blank)))) := by
  refine Ok_of rfl (Nat.le_of_ble_eq_true rfl) (fun E hC hQ hl hD hB hN hR => ?_)
  subst hl hD hB
  have hB9 := h_B_a.len
  show G E M 0 0 [(0, vI sort), (1, .ref a), (2, vI blank)] [] 0
  refine G_aload_n hC 1 rfl rfl d_Di_isGood_0 ?_
  refine G_iconst (i := 0) hC d_Di_isGood_1 ?_
  refine G_iload_n hC 2 rfl rfl d_Di_isGood_2 ?_
  refine G_pS (rest := []) hC hR (c_Si_isName h_B_a (by omega) (by omega) rfl) cs_Di_54 (by decide) (by omega) (by omega) rfl rfl (Nat.le_of_ble_eq_true rfl) d_Di_isGood_3 ?_
  refine G_if_ne hC 11 (by have := b2i_rng (nameS b.2 0 blank); omega) (by decide) d_Di_isGood_6 (fun c_1 => ?_) (fun c_1 => ?_)
  · have c_1 := b2i_ne0.mp c_1
    refine G_iload_n hC 2 rfl rfl d_Di_isGood_11 ?_
    refine G_aload_n hC 1 rfl rfl d_Di_isGood_12 ?_
    refine G_pV (rest := [vI blank]) hC hR (c_By_size h_B_a) cv_Di_21 h_B_a.obj (by decide) (by omega) (by omega) rfl rfl (Nat.le_of_ble_eq_true rfl) d_Di_isGood_13 ?_
    have g_2 := h_B_a.len
    refine G_icmp_ne hC 23 (by omega) (by omega) (by decide) d_Di_isGood_16 (fun c_3 => ?_) (fun c_3 => ?_)
    · refine G_iconst (i := 0) hC d_Di_isGood_23 ?_
      refine G_istore_n (lv' := [(3, vI 0), (0, vI sort), (1, .ref a), (2, vI blank)]) hC rfl (by rw [hN]; decide) rfl d_Di_isGood_24 ?_
      refine G_iload_n hC 1 rfl rfl d_Di_isGood_25 ?_
      by_cases c_4 : sort = 0
      · refine G_tabIn 0 56 hC c_4 (by omega) rfl (by decide) d_Di_isGood_26 ?_
        refine G_iload_n hC 0 rfl rfl d_Di_isGood_56 ?_
        refine G_if_ne hC 78 (by decide) (by decide) d_Di_isGood_57 (fun c_5 => ?_) (fun c_5 => ?_)
        · exact (show False from by omega).elim
        · refine G_aload_n hC 2 rfl rfl d_Di_isGood_60 ?_
          refine G_pV (rest := []) hC hR (c_By_size h_B_a) cv_Di_21 h_B_a.obj (by decide) (by omega) (by omega) rfl rfl (Nat.le_of_ble_eq_true rfl) d_Di_isGood_61 ?_
          have g_6 := h_B_a.len
          refine G_iload_n hC 3 rfl rfl d_Di_isGood_64 ?_
          refine G_isub hC d_Di_isGood_65 ?_
          refine G_iconst (i := 1) hC d_Di_isGood_66 ?_
          refine G_isub hC d_Di_isGood_67 ?_
          refine G_sipush (j := 700) hC (by decide +kernel) d_Di_isGood_68 ?_
          refine G_icmp_gt hC 78 (by omega) (by decide) (by decide) d_Di_isGood_71 (fun c_7 => ?_) (fun c_7 => ?_)
          · refine G_iconst (i := 0) hC d_Di_isGood_78 ?_
            exact G_zretP hC hQ d_Di_isGood_79 (b2i_f (decide_eq_false (by unfold goodP; grind)))
          · refine G_iconst (i := 1) hC d_Di_isGood_74 ?_
            refine G_goto hC 79 (by decide) d_Di_isGood_75 ?_
            exact G_zretP hC hQ d_Di_isGood_79 (b2i_t (decide_eq_true (by unfold goodP; grind)))
      by_cases c_8 : sort = 1
      · refine G_tabIn 1 104 hC c_8 (by omega) rfl (by decide) d_Di_isGood_26 ?_
        refine G_iload_n hC 0 rfl rfl d_Di_isGood_104 ?_
        exact G_zretP hC hQ d_Di_isGood_105 (b2i_f (decide_eq_false (by unfold goodP; grind)))
      by_cases c_9 : sort = 2
      · refine G_tabIn 2 80 hC c_9 (by omega) rfl (by decide) d_Di_isGood_26 ?_
        refine G_iload_n hC 0 rfl rfl d_Di_isGood_80 ?_
        refine G_if_ne hC 102 (by decide) (by decide) d_Di_isGood_81 (fun c_10 => ?_) (fun c_10 => ?_)
        · exact (show False from by omega).elim
        · refine G_aload_n hC 2 rfl rfl d_Di_isGood_84 ?_
          refine G_iload_n hC 3 rfl rfl d_Di_isGood_85 ?_
          refine G_iconst (i := 1) hC d_Di_isGood_86 ?_
          refine G_iadd hC d_Di_isGood_87 ?_
          refine G_aload_n hC 2 rfl rfl d_Di_isGood_88 ?_
          refine G_pV (rest := [vI (blank + 1), .ref a]) hC hR (c_By_size h_B_a) cv_Di_21 h_B_a.obj (by decide) (by omega) (by omega) rfl rfl (Nat.le_of_ble_eq_true rfl) d_Di_isGood_89 ?_
          have g_11 := h_B_a.len
          refine G_pS (rest := []) hC hR (c_Si_isName h_B_a (by omega) (by omega) rfl) cs_Di_54 (by decide) (by omega) (by omega) rfl rfl (Nat.le_of_ble_eq_true rfl) d_Di_isGood_92 ?_
          refine G_if_eq hC 102 (by have := b2i_rng (nameS b.2 (blank + 1) (b.2.length : Int)); omega) (by decide) d_Di_isGood_95 (fun c_12 => ?_) (fun c_12 => ?_)
          · have c_12 := b2i_eq0.mp c_12
            refine G_iconst (i := 0) hC d_Di_isGood_102 ?_
            exact G_zretP hC hQ d_Di_isGood_103 (b2i_f (decide_eq_false (by unfold goodP; grind)))
          · have c_12 := b2i_ne0.mp c_12
            refine G_iconst (i := 1) hC d_Di_isGood_98 ?_
            refine G_goto hC 103 (by decide) d_Di_isGood_99 ?_
            exact G_zretP hC hQ d_Di_isGood_103 (b2i_t (decide_eq_true (by unfold goodP; grind)))
      by_cases c_13 : sort = 3
      · refine G_tabIn 3 104 hC c_13 (by omega) rfl (by decide) d_Di_isGood_26 ?_
        refine G_iload_n hC 0 rfl rfl d_Di_isGood_104 ?_
        exact G_zretP hC hQ d_Di_isGood_105 (b2i_f (decide_eq_false (by unfold goodP; grind)))
      refine G_tabOut 106 hC (by omega) (by omega) (by decide) d_Di_isGood_26 ?_
      refine G_iconst (i := 0) hC d_Di_isGood_106 ?_
      exact G_zretP hC hQ d_Di_isGood_107 (b2i_f (decide_eq_false (by unfold goodP; grind)))
    · refine G_iconst (i := 1) hC d_Di_isGood_19 ?_
      refine G_goto hC 24 (by decide) d_Di_isGood_20 ?_
      refine G_istore_n (lv' := [(3, vI 1), (0, vI sort), (1, .ref a), (2, vI blank)]) hC rfl (by rw [hN]; decide) rfl d_Di_isGood_24 ?_
      refine G_iload_n hC 1 rfl rfl d_Di_isGood_25 ?_
      by_cases c_14 : sort = 0
      · refine G_tabIn 0 56 hC c_14 (by omega) rfl (by decide) d_Di_isGood_26 ?_
        refine G_iload_n hC 0 rfl rfl d_Di_isGood_56 ?_
        refine G_if_ne hC 78 (by decide) (by decide) d_Di_isGood_57 (fun c_15 => ?_) (fun c_15 => ?_)
        · refine G_iconst (i := 0) hC d_Di_isGood_78 ?_
          exact G_zretP hC hQ d_Di_isGood_79 (b2i_f (decide_eq_false (by unfold goodP; grind)))
        · exact (show False from by omega).elim
      by_cases c_16 : sort = 1
      · refine G_tabIn 1 104 hC c_16 (by omega) rfl (by decide) d_Di_isGood_26 ?_
        refine G_iload_n hC 0 rfl rfl d_Di_isGood_104 ?_
        exact G_zretP hC hQ d_Di_isGood_105 (b2i_t (decide_eq_true (by unfold goodP; grind)))
      by_cases c_17 : sort = 2
      · refine G_tabIn 2 80 hC c_17 (by omega) rfl (by decide) d_Di_isGood_26 ?_
        refine G_iload_n hC 0 rfl rfl d_Di_isGood_80 ?_
        refine G_if_ne hC 102 (by decide) (by decide) d_Di_isGood_81 (fun c_18 => ?_) (fun c_18 => ?_)
        · refine G_iconst (i := 0) hC d_Di_isGood_102 ?_
          exact G_zretP hC hQ d_Di_isGood_103 (b2i_f (decide_eq_false (by unfold goodP; grind)))
        · exact (show False from by omega).elim
      by_cases c_19 : sort = 3
      · refine G_tabIn 3 104 hC c_19 (by omega) rfl (by decide) d_Di_isGood_26 ?_
        refine G_iload_n hC 0 rfl rfl d_Di_isGood_104 ?_
        exact G_zretP hC hQ d_Di_isGood_105 (b2i_t (decide_eq_true (by unfold goodP; grind)))
      refine G_tabOut 106 hC (by omega) (by omega) (by decide) d_Di_isGood_26 ?_
      refine G_iconst (i := 0) hC d_Di_isGood_106 ?_
      exact G_zretP hC hQ d_Di_isGood_107 (b2i_f (decide_eq_false (by unfold goodP; grind)))
  · have c_1 := b2i_eq0.mp c_1
    refine G_iconst (i := 0) hC d_Di_isGood_9 ?_
    exact G_zretP hC hQ d_Di_isGood_10 (b2i_f (decide_eq_false (by unfold goodP; grind)))

set_option maxHeartbeats 4000000 in
set_option maxRecDepth 100000 in
theorem c_Di_clear {l : Launch} {D : Dg} {b0 : Nat} {M : Mp} {a : Nat} {es : List Ent} (h_Dir_a : IsDir D M a es) : Ok l D b0 1 y_Di_clear b_Di_clear 1 none M [.ref a] 0 0 (fun r M' => r = none ∧ IsDir D M' a ([]) ∧ Fr [6] M M') := by
  refine Ok_of rfl (Nat.le_of_ble_eq_true rfl) (fun E hC hQ hl hD hB hN hR => ?_)
  subst hl hD hB
  obtain ⟨ar_1, f_2, h_3, h_4, h_5, h_6⟩ := id h_Dir_a
  show G E M 0 0 [(0, .ref a)] [] 0
  refine G_aload_n hC 0 rfl rfl d_Di_clear_0 ?_
  refine G_iconst (i := 0) hC d_Di_clear_1 ?_
  refine G_putX (fs' := [.ref ar_1, vI 0]) hC fl_Di_17 ft_Di fw_Di_1 h_3 rfl rfl (Nat.le_of_ble_eq_true rfl) rfl d_Di_clear_2 (fun M_7 h_8 fr_9 => ?_)
  have h_10 := fr_9.at h_4 (by decide)
  exact G_return hC hQ (by omega) (by omega) d_Di_clear_5 ⟨rfl, ⟨_, _, h_8, h_10, by simp, fun j x hj => by simp at hj⟩, (fr_9.up (T := [6]) (by simp))⟩
