set_option maxHeartbeats 4000000 in
set_option maxRecDepth 100000 in
theorem c_Le_hasRedirect {l : Launch} {D : Dg} {b0 : Nat} {M : Mp} {a : Nat} {tl : Nat} {nm : Nat} {te : Nat} {rf : Int} {rt : Int} (h_obj_a : M a = some (tl, .inr (cLe, [.ref nm, .ref te, vI rf, vI rt]))) (hrt : -2147483648 ≤ rt ∧ rt ≤ 2147483647) : OkP l D b0 1 y_Le_hasRedirect b_Le_hasRedirect 1 (some .boolean) M [.ref a] (vI (b2i (decide (0 < rt)))) := by
  refine Ok_of rfl (Nat.le_of_ble_eq_true rfl) (fun E hC hQ hl hD hB hN hR => ?_)
  subst hl hD hB
  show G E M 0 0 [(0, .ref a)] [] 0
  refine G_aload_n hC 0 rfl rfl d_Le_hasRedirect_0 ?_
  refine G_get hC fl_Le_31 h_obj_a rfl d_Le_hasRedirect_1 ?_
  refine G_if_le hC 11 (by omega) (by decide) d_Le_hasRedirect_4 (fun c_1 => ?_) (fun c_1 => ?_)
  · refine G_iconst (i := 0) hC d_Le_hasRedirect_11 ?_
    exact G_zretP hC hQ d_Le_hasRedirect_12 (b2i_f (decide_eq_false (by omega)))
  · refine G_iconst (i := 1) hC d_Le_hasRedirect_7 ?_
    refine G_goto hC 12 (by decide) d_Le_hasRedirect_8 ?_
    exact G_zretP hC hQ d_Le_hasRedirect_12 (b2i_t (decide_eq_true (by omega)))

set_option maxHeartbeats 4000000 in
set_option maxRecDepth 100000 in
theorem c_Le_redirectFrom {l : Launch} {D : Dg} {b0 : Nat} {M : Mp} {a : Nat} {tl : Nat} {nm : Nat} {te : Nat} {rf : Int} {rt : Int} (h_obj_a : M a = some (tl, .inr (cLe, [.ref nm, .ref te, vI rf, vI rt]))) : OkP l D b0 1 y_Le_redirectFrom b_Le_redirectFrom 1 (some .int) M [.ref a] (vI rf) := by
  refine Ok_of rfl (Nat.le_of_ble_eq_true rfl) (fun E hC hQ hl hD hB hN hR => ?_)
  subst hl hD hB
  show G E M 0 0 [(0, .ref a)] [] 0
  refine G_aload_n hC 0 rfl rfl d_Le_redirectFrom_0 ?_
  refine G_get hC fl_Le_27 h_obj_a rfl d_Le_redirectFrom_1 ?_
  exact G_iretP hC hQ d_Le_redirectFrom_4 rfl

set_option maxHeartbeats 4000000 in
set_option maxRecDepth 100000 in
theorem c_Le_redirectTo {l : Launch} {D : Dg} {b0 : Nat} {M : Mp} {a : Nat} {tl : Nat} {nm : Nat} {te : Nat} {rf : Int} {rt : Int} (h_obj_a : M a = some (tl, .inr (cLe, [.ref nm, .ref te, vI rf, vI rt]))) : OkP l D b0 1 y_Le_redirectTo b_Le_redirectTo 1 (some .int) M [.ref a] (vI rt) := by
  refine Ok_of rfl (Nat.le_of_ble_eq_true rfl) (fun E hC hQ hl hD hB hN hR => ?_)
  subst hl hD hB
  show G E M 0 0 [(0, .ref a)] [] 0
  refine G_aload_n hC 0 rfl rfl d_Le_redirectTo_0 ?_
  refine G_get hC fl_Le_31 h_obj_a rfl d_Le_redirectTo_1 ?_
  exact G_iretP hC hQ d_Le_redirectTo_4 rfl

set_option maxHeartbeats 4000000 in
set_option maxRecDepth 100000 in
theorem c_Le_readTerms {l : Launch} {D : Dg} {b0 : Nat} {M : Mp} {a : Nat} {o : Nat} {tl : Nat} {nm : Nat} {te : Nat} {rf : Int} {rt : Int} {k0 : Int} {s0 : Int} {n0 : Int} {w0 : Int32} {f0 : Int} {o0 : Int} {tt : Nat} {lim : Int} {b : Bv} {P : Option (Option (Int × Int))} (h_obj_a : M a = some (tl, .inr (cLe, [.ref nm, .ref te, vI rf, vI rt]))) (h_obj_te : M te = some (tl + 3, .inr (cTe, [vI k0, vI s0, vI n0, .int w0, vI f0, vI o0]))) (h_B_o : IsB D M o tt lim b) (htt : (tt ≠ tl ∧ tt + 1 ≠ tl) ∧ tt ≠ tl + 3 ∧ tt + 1 ≠ tl + 3) (hr : rtL b.2 7 none = P) : Ok l D b0 8 y_Le_readTerms b_Le_readTerms 3 (some .boolean) M [.ref a, .ref o] 0 0 (fun r M' => ∃ k9 : Int, ∃ s9 : Int, ∃ n9 : Int, ∃ w9 : Int32, ∃ f9 : Int, ∃ o9 : Int, ∃ rf9 : Int, ∃ rt9 : Int, r = some (vI (b2i P.isSome)) ∧ M' a = some (tl, .inr (cLe, [.ref nm, .ref te, vI rf9, vI rt9])) ∧ M' te = some (tl + 3, .inr (cTe, [vI k9, vI s9, vI n9, .int w9, vI f9, vI o9])) ∧ (∀ rd, P = some rd → rdP b.2 rd rf9 rt9) ∧ Fr [tl, tl + 3] M M') := by
  refine Ok_of rfl (Nat.le_of_ble_eq_true rfl) (fun E hC hQ hl hD hB hN hR => ?_)
  subst hl hD hB
  have hB9 := h_B_o.len
  show G E M 0 0 [(0, .ref a), (1, .ref o)] [] 0
  refine G_aload_n hC 0 rfl rfl d_Le_readTerms_0 ?_
  refine G_iconst (i := 0) hC d_Le_readTerms_1 ?_
  refine G_putX (fs' := [.ref nm, .ref te, vI 0, vI rt]) hC fl_Le_27 ft_Le fw_Le_2 h_obj_a rfl rfl (Nat.le_of_ble_eq_true rfl) rfl d_Le_readTerms_2 (fun M_1 h_2 fr_3 => ?_)
  refine G_aload_n hC 0 rfl rfl d_Le_readTerms_5 ?_
  refine G_iconst (i := 0) hC d_Le_readTerms_6 ?_
  refine G_putX (fs' := [.ref nm, .ref te, vI 0, vI 0]) hC fl_Le_31 ft_Le fw_Le_3 h_2 rfl rfl (Nat.le_of_ble_eq_true rfl) rfl d_Le_readTerms_7 (fun M_4 h_5 fr_6 => ?_)
  refine G_bipush (j := 7) hC (by decide +kernel) d_Le_readTerms_10 ?_
  refine G_istore_n (lv' := [(2, vI 7), (0, .ref a), (1, .ref o)]) hC rfl (by rw [hN]; decide) rfl d_Le_readTerms_12 ?_
  have L13 : ∀ (N : Nat) (M1 : Mp) (q : Int) (rd : Option (Int × Int)) (k1 : Int) (s1 : Int) (n1 : Int) (w1 : Int32) (f1 : Int) (o1 : Int) (rf1 : Int) (rt1 : Int), ((b.2.length : Int) - q).toNat < N → (Fr [tl, tl + 3] M_4 M1) → (M1 a = some (tl, .inr (cLe, [.ref nm, .ref te, vI rf1, vI rt1]))) → (M1 te = some (tl + 3, .inr (cTe, [vI k1, vI s1, vI n1, .int w1, vI f1, vI o1]))) → (7 ≤ q ∧ (q ≤ b.2.length ∨ q = 7)) → (rtL b.2 q rd = P) → (rdP b.2 rd rf1 rt1) → G E M1 0 0 [(0, .ref a), (1, .ref o), (2, vI q)] [] 13 := by
    intro N
    induction N with
    | zero => intro M1 q rd k1 s1 n1 w1 f1 o1 rf1 rt1 hN13 hfr1 ha1 ht1 hk hRt hrd; exact absurd hN13 (Nat.not_lt_zero _)
    | succ N ih13 =>
      intro M1 q rd k1 s1 n1 w1 f1 o1 rf1 rt1 hN13 hfr1 ha1 ht1 hk hRt hrd
      have hrg := rdP_rng hrd
      refine G_iload_n hC 2 rfl rfl d_Le_readTerms_13 ?_
      refine G_aload_n hC 1 rfl rfl d_Le_readTerms_14 ?_
      have h_7 := h_B_o.fr fr_3 (by simp only [List.mem_cons, List.not_mem_nil, or_false, not_or, not_false_eq_true]; try omega) (by simp only [List.mem_cons, List.not_mem_nil, or_false, not_or, not_false_eq_true]; try omega)
      have h_8 := h_7.fr fr_6 (by simp only [List.mem_cons, List.not_mem_nil, or_false, not_or, not_false_eq_true]; try omega) (by simp only [List.mem_cons, List.not_mem_nil, or_false, not_or, not_false_eq_true]; try omega)
      have h_9 := h_8.fr hfr1 (by simp only [List.mem_cons, List.not_mem_nil, or_false, not_or, not_false_eq_true]; try omega) (by simp only [List.mem_cons, List.not_mem_nil, or_false, not_or, not_false_eq_true]; try omega)
      refine G_pV (rest := [vI q]) hC hR (c_By_size h_9) cv_Le_34 h_9.obj (by decide) (by omega) (by omega) rfl rfl (Nat.le_of_ble_eq_true rfl) d_Le_readTerms_15 ?_
      have g_10 := h_9.len
      refine G_icmp_ge hC 95 (by omega) (by omega) (by decide) d_Le_readTerms_18 (fun c_11 => ?_) (fun c_11 => ?_)
      · refine G_iconst (i := 1) hC d_Le_readTerms_95 ?_
        rw [rtL_end (by omega)] at hRt
        exact G_zretX _ hC hQ (by omega) (by omega) d_Le_readTerms_96 (b2i_t (by rw [← hRt]; rfl)) ⟨_, _, _, _, _, _, _, _, rfl, ha1, ht1, (fun rd9 h9 => by rw [← hRt] at h9; cases h9; exact hrd), (((fr_3.up (T := [tl, tl + 3]) (by simp)).tr' (T := [tl, tl + 3]) fr_6 (fun _ z => z) (by simp)).tr' (T := [tl, tl + 3]) hfr1 (fun _ z => z) (by simp))⟩
      · refine G_aload_n hC 1 rfl rfl d_Le_readTerms_21 ?_
        refine G_iload_n hC 2 rfl rfl d_Le_readTerms_22 ?_
        refine G_pS (rest := []) hC hR (c_Te_startsAt h_9 (by omega)) cs_Le_38 (by decide) (by omega) (by omega) rfl rfl (Nat.le_of_ble_eq_true rfl) d_Le_readTerms_23 ?_
        refine G_if_ne hC 32 (by have := b2i_rng (decide (¬ atS b.2 q = 32 ∧ atS b.2 (q - 1) = 32)); omega) (by decide) d_Le_readTerms_26 (fun c_12 => ?_) (fun c_12 => ?_)
        · have c_12 := b2i_ne0.mp c_12
          have c_12 := of_decide_eq_true c_12
          refine G_aload_n hC 0 rfl rfl d_Le_readTerms_32 ?_
          refine G_get hC fl_Le_23 ha1 rfl d_Le_readTerms_33 ?_
          refine G_aload_n hC 1 rfl rfl d_Le_readTerms_36 ?_
          refine G_iload_n hC 2 rfl rfl d_Le_readTerms_37 ?_
          refine G_xV (rest := []) hC hR (c_Te_read ht1 h_9 (by omega) (by omega) rfl) cv_Le_42 ⟨_, _, ht1⟩ (by decide) (by omega) (by omega) rfl rfl (Nat.le_of_ble_eq_true rfl) d_Le_readTerms_38 (fun r_15 M_13 p_14 => ?_)
          obtain ⟨k1_16, n1_17, w1_18, f1_19, o1_20, rfl, h_21, h_22, fr_23⟩ := p_14
          show G E M_13 (0 + 0) (0 + 0) [(0, .ref a), (1, .ref o), (2, vI q)] [vI (b2i (readS b.2 q).isSome)] 41
          refine G_if_ne hC 46 (by have := b2i_rng ((readS b.2 q).isSome); omega) (by decide) d_Le_readTerms_41 (fun c_24 => ?_) (fun c_24 => ?_)
          · have c_24 := b2i_ne0.mp c_24
            obtain ⟨tm, htm⟩ := isS_t c_24
            have hfl := h_22 tm htm
            have htp := readS_P htm
            rw [rtL_term (by omega) c_12 htm] at hRt
            obtain ⟨hf1, hf2, hf3, hf4, hf5⟩ := hfl
            obtain ⟨ht1', ht2', ht3', ht4'⟩ := htp
            refine G_aload_n hC 0 rfl rfl d_Le_readTerms_46 ?_
            have h_25 := fr_23.at ha1 (by simp only [List.mem_cons, List.not_mem_nil, or_false, not_or, not_false_eq_true]; try omega)
            refine G_get hC fl_Le_23 h_25 rfl d_Le_readTerms_47 ?_
            refine G_pV (rest := []) hC hR (c_Te_kind h_21) cv_Le_45 ⟨_, _, h_21⟩ (by decide) (by omega) (by omega) rfl rfl (Nat.le_of_ble_eq_true rfl) d_Le_readTerms_50 ?_
            refine G_bipush (j := 6) hC (by decide +kernel) d_Le_readTerms_53 ?_
            refine G_icmp_ne hC 89 (by omega) (by decide) (by decide) d_Le_readTerms_55 (fun c_26 => ?_) (fun c_26 => ?_)
            · rw [if_neg (show ¬ tm.1 = 6 by omega)] at hRt
              refine G_iinc (lv' := [(2, vI (q + 1)), (0, .ref a), (1, .ref o)]) hC 2 rfl (by rw [hN]; decide) rfl d_Le_readTerms_89 ?_
              refine G_goto hC 13 (by decide) d_Le_readTerms_92 ?_
              refine G_lv [1, 2, 0] rfl ?_
              exact ih13 M_13 (q + 1) rd _ _ _ _ _ _ _ _ (by omega) ((hfr1.up (T := [tl, tl + 3]) (by simp)).tr' (T := [tl, tl + 3]) fr_23 (fun _ z => z) (by simp)) h_25 h_21 (by omega) hRt hrd
            · rw [if_pos (show tm.1 = 6 by omega)] at hRt
              refine G_aload_n hC 0 rfl rfl d_Le_readTerms_58 ?_
              refine G_pV (rest := []) hC hR (c_Le_hasRedirect h_25 (by omega)) cv_Le_48 ⟨_, _, h_25⟩ (by decide) (by omega) (by omega) rfl rfl (Nat.le_of_ble_eq_true rfl) d_Le_readTerms_59 ?_
              refine G_if_eq hC 67 (by have := b2i_rng (decide (0 < rt1)); omega) (by decide) d_Le_readTerms_62 (fun c_27 => ?_) (fun c_27 => ?_)
              · have c_27 := b2i_eq0.mp c_27
                have c_27 := of_decide_eq_false c_27
                rw [if_neg (show ¬ rd.isSome = true from fun z => c_27 (hrg.2.2.2.2.mp z))] at hRt
                obtain ⟨d9, hd9⟩ := ht4' (by omega)
                have hfo := hf4 d9 hd9
                have hdo := ht3' d9 hd9
                have hrd2 : rdP b.2 tm.2.2.2 f1_19 o1_20 := ⟨(fun z => by rw [hd9] at z; cases z), (fun d hd => by rw [hd9] at hd; cases hd; exact ⟨hfo.1, hfo.2, by omega, by omega, by omega, hdo.2.2.2⟩)⟩
                refine G_aload_n hC 0 rfl rfl d_Le_readTerms_67 ?_
                refine G_aload_n hC 0 rfl rfl d_Le_readTerms_68 ?_
                refine G_get hC fl_Le_23 h_25 rfl d_Le_readTerms_69 ?_
                refine G_pV (rest := [.ref a]) hC hR (c_Te_from h_21) cv_Le_52 ⟨_, _, h_21⟩ (by decide) (by omega) (by omega) rfl rfl (Nat.le_of_ble_eq_true rfl) d_Le_readTerms_72 ?_
                refine G_putX (fs' := [.ref nm, .ref te, vI f1_19, vI rt1]) hC fl_Le_27 ft_Le fw_Le_2 h_25 rfl rfl (Nat.le_of_ble_eq_true rfl) rfl d_Le_readTerms_75 (fun M_28 h_29 fr_30 => ?_)
                refine G_aload_n hC 0 rfl rfl d_Le_readTerms_78 ?_
                refine G_aload_n hC 0 rfl rfl d_Le_readTerms_79 ?_
                refine G_get hC fl_Le_23 h_29 rfl d_Le_readTerms_80 ?_
                have h_31 := fr_30.at h_21 (by simp only [List.mem_cons, List.not_mem_nil, or_false, not_or, not_false_eq_true]; try omega)
                refine G_pV (rest := [.ref a]) hC hR (c_Te_to h_31) cv_Le_55 ⟨_, _, h_31⟩ (by decide) (by omega) (by omega) rfl rfl (Nat.le_of_ble_eq_true rfl) d_Le_readTerms_83 ?_
                refine G_putX (fs' := [.ref nm, .ref te, vI f1_19, vI o1_20]) hC fl_Le_31 ft_Le fw_Le_3 h_29 rfl rfl (Nat.le_of_ble_eq_true rfl) rfl d_Le_readTerms_86 (fun M_32 h_33 fr_34 => ?_)
                refine G_iinc (lv' := [(2, vI (q + 1)), (0, .ref a), (1, .ref o)]) hC 2 rfl (by rw [hN]; decide) rfl d_Le_readTerms_89 ?_
                refine G_goto hC 13 (by decide) d_Le_readTerms_92 ?_
                refine G_lv [1, 2, 0] rfl ?_
                have h_35 := fr_34.at h_31 (by simp only [List.mem_cons, List.not_mem_nil, or_false, not_or, not_false_eq_true]; try omega)
                exact ih13 M_32 (q + 1) tm.2.2.2 _ _ _ _ _ _ _ _ (by omega) ((((hfr1.up (T := [tl, tl + 3]) (by simp)).tr' (T := [tl, tl + 3]) fr_23 (fun _ z => z) (by simp)).tr' (T := [tl, tl + 3]) fr_30 (fun _ z => z) (by simp)).tr' (T := [tl, tl + 3]) fr_34 (fun _ z => z) (by simp)) h_33 h_35 (by omega) hRt hrd2
              · have c_27 := b2i_ne0.mp c_27
                have c_27 := of_decide_eq_true c_27
                refine G_iconst (i := 0) hC d_Le_readTerms_65 ?_
                have hP : P = none := by rw [← hRt, if_pos (hrg.2.2.2.2.mpr c_27)]
                exact G_zretX _ hC hQ (by omega) (by omega) d_Le_readTerms_66 (b2i_f (by rw [hP]; rfl)) ⟨_, _, _, _, _, _, _, _, rfl, h_25, h_21, (fun rd9 h9 => by rw [hP] at h9; cases h9), ((((fr_3.up (T := [tl, tl + 3]) (by simp)).tr' (T := [tl, tl + 3]) fr_6 (fun _ z => z) (by simp)).tr' (T := [tl, tl + 3]) hfr1 (fun _ z => z) (by simp)).tr' (T := [tl, tl + 3]) fr_23 (fun _ z => z) (by simp))⟩
          · have c_24 := b2i_eq0.mp c_24
            refine G_iconst (i := 0) hC d_Le_readTerms_44 ?_
            have h_36 := fr_23.at ha1 (by simp only [List.mem_cons, List.not_mem_nil, or_false, not_or, not_false_eq_true]; try omega)
            have hP : P = none := by rw [← hRt, rtL_bad (by omega) c_12 (isS_f c_24)]
            exact G_zretX _ hC hQ (by omega) (by omega) d_Le_readTerms_45 (b2i_f (by rw [hP]; rfl)) ⟨_, _, _, _, _, _, _, _, rfl, h_36, h_21, (fun rd9 h9 => by rw [hP] at h9; cases h9), ((((fr_3.up (T := [tl, tl + 3]) (by simp)).tr' (T := [tl, tl + 3]) fr_6 (fun _ z => z) (by simp)).tr' (T := [tl, tl + 3]) hfr1 (fun _ z => z) (by simp)).tr' (T := [tl, tl + 3]) fr_23 (fun _ z => z) (by simp))⟩
        · have c_12 := b2i_eq0.mp c_12
          have c_12 := of_decide_eq_false c_12
          have hR2 := (rtL_skip (by omega) c_12).symm.trans hRt
          refine G_goto hC 89 (by decide) d_Le_readTerms_29 ?_
          refine G_iinc (lv' := [(2, vI (q + 1)), (0, .ref a), (1, .ref o)]) hC 2 rfl (by rw [hN]; decide) rfl d_Le_readTerms_89 ?_
          refine G_goto hC 13 (by decide) d_Le_readTerms_92 ?_
          refine G_lv [1, 2, 0] rfl ?_
          exact ih13 M1 (q + 1) rd _ _ _ _ _ _ _ _ (by omega) (hfr1.up (T := [tl, tl + 3]) (by simp)) ha1 ht1 (by omega) hR2 hrd
  refine G_lv [1, 2, 0] rfl ?_
  have h_37 := fr_3.at h_obj_te (by simp only [List.mem_cons, List.not_mem_nil, or_false, not_or, not_false_eq_true]; try omega)
  have h_38 := fr_6.at h_37 (by simp only [List.mem_cons, List.not_mem_nil, or_false, not_or, not_false_eq_true]; try omega)
  exact L13 _ M_4 7 none _ _ _ _ _ _ _ _ (Nat.lt_succ_self _) Fr.rf h_5 h_38 (by omega) hr (rdP_0 _)
