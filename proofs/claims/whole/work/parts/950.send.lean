set_option maxHeartbeats 4000000 in
set_option maxRecDepth 100000 in
theorem c_Mo_sender {l : Launch} {D : Dg} {b0 : Nat} {M : Mp} {a : Nat} {ad : Int32} {tp : Nat} {tm : Int} {en : Int} {ou : Nat} {sa : Nat} {aa : Nat} {na : Nat} {va : Nat} {lo : Nat} {dm : Nat} {fm : Int32} {st : Int} {tg : Nat} {cn : Int} {vo : Int} {pc : Nat} {k0 : Int} {s0 : Int} {f0 : Int} {o0 : Int} {n0 : Int} {w0 : Int32} {xs : List Int} {ls : List Int} {ds : List Int} {P : Option Snd} (h_obj_a : M a = some (500, .inr (cMo, [.ref tp, vI tm, vI en, .ref ou, .ref sa, .ref aa, .ref na, .ref va, .ref lo, .ref dm, .int fm, vI st, .ref tg, vI cn, vI vo, .ref pc, vI k0, vI s0, vI f0, vI o0, vI n0, .int w0]))) (h_row_tp : Row D M tp 501 800 xs) (h_Tx_lo : IsT D M lo 508 30 ls) (h_Tx_dm : IsT D M dm 510 60 ds) (htm : tm = (xs.length : Int)) (hr : sndS xs ad = P) : Ok l D b0 5 y_Mo_sender b_Mo_sender 6 (some .int) M [.ref a, .int ad] 0 0 (fun r M' => r = some (vI (if P.isSome = true then 0 else -1)) ∧ M' a = some (500, .inr (cMo, [.ref tp, vI 0, vI en, .ref ou, .ref sa, .ref aa, .ref na, .ref va, .ref lo, .ref dm, .int (P.elim fm (fun s => s.2.2)), vI (P.elim st (fun _ => 1)), .ref tg, vI cn, vI vo, .ref pc, vI k0, vI s0, vI f0, vI o0, vI n0, .int w0])) ∧ IsT D M' lo 508 30 (P.elim ls (fun s => s.1)) ∧ IsT D M' dm 510 60 (P.elim ds (fun s => s.2.1)) ∧ Fr [500, 508, 509, 510, 511] M M') := by
  refine Ok_of rfl (Nat.le_of_ble_eq_true rfl) (fun E hC hQ hl hD hB hN hR => ?_)
  subst hl hD hB
  have hr9 := h_row_tp.len
  obtain ⟨z, hz⟩ : ∃ z, findS xs 64 0 (xs.length : Int) = z := ⟨_, rfl⟩
  show G E M 0 0 [(0, .ref a), (1, .int ad)] [] 0
  refine G_aload_n hC 0 rfl rfl d_Mo_sender_0 ?_
  refine G_xV (rest := []) hC hR (c_Mo_used h_obj_a) cv_Mo_70 ⟨_, _, h_obj_a⟩ (by decide) (by omega) (by omega) rfl rfl (Nat.le_of_ble_eq_true rfl) d_Mo_sender_1 (fun r_3 M_1 p_2 => ?_)
  obtain ⟨rfl, h_4, fr_5⟩ := p_2
  show G E M_1 (0 + 0) (0 + 0) [(0, .ref a), (1, .int ad)] [vI tm] 4
  refine G_istore_n (lv' := [(2, vI tm), (0, .ref a), (1, .int ad)]) hC rfl (by rw [hN]; decide) rfl d_Mo_sender_4 ?_
  refine G_iconst (i := 0) hC d_Mo_sender_5 ?_
  refine G_istore_n (lv' := [(3, vI 0), (2, vI tm), (0, .ref a), (1, .int ad)]) hC rfl (by rw [hN]; decide) rfl d_Mo_sender_6 ?_
  have L7 : ∀ (N : Nat) (q : Int), (tm - q).toNat < N → (0 ≤ q ∧ q ≤ tm) → (findS xs 64 q (xs.length : Int) = z) → G E M_1 (0 + 0) (0 + 0) [(0, .ref a), (1, .int ad), (2, vI tm), (3, vI q)] [] 7 := by
    intro N
    induction N with
    | zero => intro q hN7 hq hf; exact absurd hN7 (Nat.not_lt_zero _)
    | succ N ih7 =>
      intro q hN7 hq hf
      refine G_iload_n hC 3 rfl rfl d_Mo_sender_7 ?_
      refine G_iload_n hC 2 rfl rfl d_Mo_sender_8 ?_
      refine G_icmp_ge hC 29 (by omega) (by omega) (by decide) d_Mo_sender_9 (fun c_6 => ?_) (fun c_6 => ?_)
      · have hzq : z = q := by rw [findS] at hf; (repeat' split at hf); all_goals first | omega | (exfalso; omega)
        subst hzq
        refine G_iload_n hC 3 rfl rfl d_Mo_sender_29 ?_
        refine G_iload_n hC 2 rfl rfl d_Mo_sender_30 ?_
        refine G_icmp_eq hC 60 (by omega) (by omega) (by decide) d_Mo_sender_31 (fun c_7 => ?_) (fun c_7 => ?_)
        · refine G_iconst (i := (-1)) hC d_Mo_sender_60 ?_
          have h_8 := h_Tx_lo.fr fr_5 (by decide) (by decide)
          have h_9 := h_Tx_dm.fr fr_5 (by decide) (by decide)
          have hP : P = none := by rw [← hr]; exact snd_none hz (Or.inr (name_over (by omega)))
          subst hP
          exact G_iretX hC hQ (by omega) (by omega) d_Mo_sender_61 ⟨rfl, h_4, h_8, h_9, (fr_5.up (T := [500, 508, 509, 510, 511]) (by simp))⟩
        · refine G_iload_n hC 3 rfl rfl d_Mo_sender_34 ?_
          refine G_i2lR hC (by omega) d_Mo_sender_35 ?_
          refine G_lconst (v := zL 1) hC (by decide +kernel) d_Mo_sender_36 ?_
          refine G_ldc2R (a := 30) hC lc_Mo_96 d_Mo_sender_37 ?_
          refine G_pS (rest := []) hC hR (c_Mo_in (by omega) (by omega) (by omega)) cs_Mo_66 (by decide) (by omega) (by omega) rfl rfl (Nat.le_of_ble_eq_true rfl) d_Mo_sender_40 ?_
          refine G_if_eq hC 60 (by have := b2i_rng (decide (1 ≤ z ∧ z ≤ 30)); omega) (by decide) d_Mo_sender_43 (fun c_10 => ?_) (fun c_10 => ?_)
          · have c_10 := b2i_eq0.mp c_10
            have c_10 := of_decide_eq_false c_10
            refine G_iconst (i := (-1)) hC d_Mo_sender_60 ?_
            have h_11 := h_Tx_lo.fr fr_5 (by decide) (by decide)
            have h_12 := h_Tx_dm.fr fr_5 (by decide) (by decide)
            have hP : P = none := by rw [← hr]; exact snd_none hz (Or.inl (loca_no c_10))
            subst hP
            exact G_iretX hC hQ (by omega) (by omega) d_Mo_sender_61 ⟨rfl, h_4, h_11, h_12, (fr_5.up (T := [500, 508, 509, 510, 511]) (by simp))⟩
          · have c_10 := b2i_ne0.mp c_10
            have c_10 := of_decide_eq_true c_10
            refine G_aload_n hC 0 rfl rfl d_Mo_sender_46 ?_
            refine G_get hC fl_Mo_23 h_4 rfl d_Mo_sender_47 ?_
            refine G_iload_n hC 3 rfl rfl d_Mo_sender_50 ?_
            refine G_iconst (i := 1) hC d_Mo_sender_51 ?_
            refine G_iadd hC d_Mo_sender_52 ?_
            refine G_iload_n hC 2 rfl rfl d_Mo_sender_53 ?_
            have h_13 := h_row_tp.fr fr_5 (by decide)
            refine G_pS (rest := []) hC hR (c_Tx_isName h_13 (by omega) (by omega) rfl) cs_Mo_78 (by decide) (by omega) (by omega) rfl rfl (Nat.le_of_ble_eq_true rfl) d_Mo_sender_54 ?_
            refine G_if_ne hC 62 (by have := b2i_rng (nameS xs (z + 1) tm); omega) (by decide) d_Mo_sender_57 (fun c_14 => ?_) (fun c_14 => ?_)
            · have c_14 := b2i_ne0.mp c_14
              obtain ⟨B, hB⟩ : ∃ B, locaL xs z 0 = B := ⟨_, rfl⟩
              have hnm : nameS xs (z + 1) xs.length = true := by rw [← htm]; exact c_14
              have hzr : 1 ≤ z ∧ z ≤ 30 := by omega
              refine G_iconst (i := 0) hC d_Mo_sender_62 ?_
              refine G_istore (lv' := [(4, vI 0), (0, .ref a), (1, .int ad), (2, vI tm), (3, vI z)]) hC (by rw [hN]; decide) rfl d_Mo_sender_63 ?_
              have L65 : ∀ (N : Nat) (k : Int), (z - k).toNat < N → (0 ≤ k ∧ k ≤ z) → (locaL xs z k = B) → G E M_1 (0 + 0) (0 + 0) [(0, .ref a), (1, .int ad), (2, vI tm), (3, vI z), (4, vI k)] [] 65 := by
                intro N
                induction N with
                | zero => intro k hN65 hk hg; exact absurd hN65 (Nat.not_lt_zero _)
                | succ N ih65 =>
                  intro k hN65 hk hg
                  refine G_iload hC 4 rfl d_Mo_sender_65 ?_
                  refine G_iload_n hC 3 rfl rfl d_Mo_sender_67 ?_
                  refine G_icmp_ge hC 132 (by omega) (by omega) (by decide) d_Mo_sender_68 (fun c_15 => ?_) (fun c_15 => ?_)
                  · have hBt : B = true := by rw [locaL, dif_neg (by omega)] at hg; exact hg.symm
                    have hnl := nameL_ne hnm
                    refine G_aload_n hC 0 rfl rfl d_Mo_sender_132 ?_
                    refine G_get hC fl_Mo_50 h_4 rfl d_Mo_sender_133 ?_
                    refine G_aload_n hC 0 rfl rfl d_Mo_sender_136 ?_
                    refine G_get hC fl_Mo_23 h_4 rfl d_Mo_sender_137 ?_
                    refine G_iconst (i := 0) hC d_Mo_sender_140 ?_
                    refine G_iload_n hC 3 rfl rfl d_Mo_sender_141 ?_
                    have h_16 := h_Tx_lo.fr fr_5 (by decide) (by decide)
                    refine G_xV (rest := []) hC hR (c_Tx_set h_16 h_13 (by omega) (by omega) (by decide)) cv_Mo_82 h_16.obj (by decide) (by omega) (by omega) rfl rfl (Nat.le_of_ble_eq_true rfl) d_Mo_sender_142 (fun r_19 M_17 p_18 => ?_)
                    obtain ⟨rfl, h_20, fr_21⟩ := p_18
                    show G E M_17 (0 + 0 + 0) (0 + 0 + 0) [(0, .ref a), (1, .int ad), (2, vI tm), (3, vI z), (4, vI k)] [] 145
                    refine G_aload_n hC 0 rfl rfl d_Mo_sender_145 ?_
                    have h_22 := fr_21.at h_4 (by simp only [List.mem_cons, List.not_mem_nil, or_false, not_or, not_false_eq_true]; try omega)
                    refine G_get hC fl_Mo_53 h_22 rfl d_Mo_sender_146 ?_
                    refine G_aload_n hC 0 rfl rfl d_Mo_sender_149 ?_
                    refine G_get hC fl_Mo_23 h_22 rfl d_Mo_sender_150 ?_
                    refine G_iload_n hC 3 rfl rfl d_Mo_sender_153 ?_
                    refine G_iconst (i := 1) hC d_Mo_sender_154 ?_
                    refine G_iadd hC d_Mo_sender_155 ?_
                    refine G_iload_n hC 2 rfl rfl d_Mo_sender_156 ?_
                    have h_23 := h_Tx_dm.fr fr_5 (by decide) (by decide)
                    have h_24 := h_23.fr fr_21 (by simp only [List.mem_cons, List.not_mem_nil, or_false, not_or, not_false_eq_true]; try omega) (by simp only [List.mem_cons, List.not_mem_nil, or_false, not_or, not_false_eq_true]; try omega)
                    have h_25 := h_13.fr fr_21 (by simp only [List.mem_cons, List.not_mem_nil, or_false, not_or, not_false_eq_true]; try omega)
                    refine G_xV (rest := []) hC hR (c_Tx_set h_24 h_25 (by omega) (by omega) (by decide)) cv_Mo_82 h_24.obj (by decide) (by omega) (by omega) rfl rfl (Nat.le_of_ble_eq_true rfl) d_Mo_sender_157 (fun r_28 M_26 p_27 => ?_)
                    obtain ⟨rfl, h_29, fr_30⟩ := p_27
                    show G E M_26 (0 + 0 + 0 + 0) (0 + 0 + 0 + 0) [(0, .ref a), (1, .int ad), (2, vI tm), (3, vI z), (4, vI k)] [] 160
                    refine G_aload_n hC 0 rfl rfl d_Mo_sender_160 ?_
                    refine G_iload_n hC 1 rfl rfl d_Mo_sender_161 ?_
                    have h_31 := fr_30.at h_22 (by simp only [List.mem_cons, List.not_mem_nil, or_false, not_or, not_false_eq_true]; try omega)
                    refine G_putX (fs' := [.ref tp, vI 0, vI en, .ref ou, .ref sa, .ref aa, .ref na, .ref va, .ref lo, .ref dm, .int ad, vI st, .ref tg, vI cn, vI vo, .ref pc, vI k0, vI s0, vI f0, vI o0, vI n0, .int w0]) hC fl_Mo_105 ft_Mo fw_Mo_10 h_31 rfl rfl (Nat.le_of_ble_eq_true rfl) rfl d_Mo_sender_162 (fun M_32 h_33 fr_34 => ?_)
                    refine G_aload_n hC 0 rfl rfl d_Mo_sender_165 ?_
                    refine G_iconst (i := 1) hC d_Mo_sender_166 ?_
                    refine G_putX (fs' := [.ref tp, vI 0, vI en, .ref ou, .ref sa, .ref aa, .ref na, .ref va, .ref lo, .ref dm, .int ad, vI 1, .ref tg, vI cn, vI vo, .ref pc, vI k0, vI s0, vI f0, vI o0, vI n0, .int w0]) hC fl_Mo_108 ft_Mo fw_Mo_11 h_33 (by decide +kernel) rfl (Nat.le_of_ble_eq_true rfl) rfl d_Mo_sender_167 (fun M_35 h_36 fr_37 => ?_)
                    refine G_iconst (i := 0) hC d_Mo_sender_170 ?_
                    have h_38 := h_20.fr fr_30 (by simp only [List.mem_cons, List.not_mem_nil, or_false, not_or, not_false_eq_true]; try omega) (by simp only [List.mem_cons, List.not_mem_nil, or_false, not_or, not_false_eq_true]; try omega)
                    have h_39 := h_38.fr fr_34 (by decide) (by decide)
                    have h_40 := h_39.fr fr_37 (by decide) (by decide)
                    have h_41 := h_29.fr fr_34 (by decide) (by decide)
                    have h_42 := h_41.fr fr_37 (by decide) (by decide)
                    have hP : P = some (xs.take z.toNat, xs.drop (z + 1).toNat, ad) := by rw [← hr]; exact snd_some hz (loca_L hzr (hB.trans hBt)) hnm
                    subst hP
                    exact G_iretX hC hQ (by omega) (by omega) d_Mo_sender_171 ⟨rfl, h_36, by show IsT (eD E) M_35 lo 508 30 (xs.take z.toNat); rw [← sl_head]; exact h_40, by show IsT (eD E) M_35 dm 510 60 (xs.drop (z + 1).toNat); rw [← sl_tail (e := tm) (by omega) htm]; exact h_42, (((((fr_5.up (T := [500, 508, 509, 510, 511]) (by simp)).tr' (T := [500, 508, 509, 510, 511]) fr_21 (fun _ z => z) (by simp)).tr' (T := [500, 508, 509, 510, 511]) fr_30 (fun _ z => z) (by simp)).tr' (T := [500, 508, 509, 510, 511]) fr_34 (fun _ z => z) (by simp)).tr' (T := [500, 508, 509, 510, 511]) fr_37 (fun _ z => z) (by simp))⟩
                  · refine G_aload_n hC 0 rfl rfl d_Mo_sender_71 ?_
                    refine G_get hC fl_Mo_23 h_4 rfl d_Mo_sender_72 ?_
                    refine G_iload hC 4 rfl d_Mo_sender_75 ?_
                    refine G_baldR hC h_13 (by omega) d_Mo_sender_77 ?_
                    have g_43 := h_13.rng k
                    have g_44 := atS_gx (xs := xs) (i := k) (by omega)
                    refine G_istore (lv' := [(5, vI (gx xs k)), (0, .ref a), (1, .int ad), (2, vI tm), (3, vI z), (4, vI k)]) hC (by rw [hN]; decide) rfl d_Mo_sender_78 ?_
                    refine G_iload hC 0 rfl d_Mo_sender_80 ?_
                    refine G_pS (rest := []) hC hR (c_Mo_isSmall (by omega)) cs_Mo_98 (by decide) (by omega) (by omega) rfl rfl (Nat.le_of_ble_eq_true rfl) d_Mo_sender_82 ?_
                    refine G_if_ne hC 126 (by have := b2i_rng (decide (letP (gx xs k))); omega) (by decide) d_Mo_sender_85 (fun c_45 => ?_) (fun c_45 => ?_)
                    · have c_45 := b2i_ne0.mp c_45
                      have c_45 := of_decide_eq_true c_45
                      refine G_iinc (lv' := [(4, vI (k + 1)), (5, vI (gx xs k)), (0, .ref a), (1, .int ad), (2, vI tm), (3, vI z)]) hC 5 rfl (by rw [hN]; decide) rfl d_Mo_sender_126 ?_
                      refine G_goto hC 65 (by decide) d_Mo_sender_129 ?_
                      refine G_lv [2, 3, 4, 5, 0] rfl ?_
                      exact ih65 (k + 1) (by omega) (by omega) (by rw [locaL] at hg; (repeat' split at hg); all_goals first | exact hg | (exfalso; omega) | omega)
                    · have c_45 := b2i_eq0.mp c_45
                      have c_45 := of_decide_eq_false c_45
                      refine G_iload hC 0 rfl d_Mo_sender_88 ?_
                      refine G_pS (rest := []) hC hR (c_Mo_isDigit (by omega)) cs_Mo_102 (by decide) (by omega) (by omega) rfl rfl (Nat.le_of_ble_eq_true rfl) d_Mo_sender_90 ?_
                      refine G_if_ne hC 126 (by have := b2i_rng (decide (digP (gx xs k))); omega) (by decide) d_Mo_sender_93 (fun c_46 => ?_) (fun c_46 => ?_)
                      · have c_46 := b2i_ne0.mp c_46
                        have c_46 := of_decide_eq_true c_46
                        refine G_iinc (lv' := [(4, vI (k + 1)), (5, vI (gx xs k)), (0, .ref a), (1, .int ad), (2, vI tm), (3, vI z)]) hC 5 rfl (by rw [hN]; decide) rfl d_Mo_sender_126 ?_
                        refine G_goto hC 65 (by decide) d_Mo_sender_129 ?_
                        refine G_lv [2, 3, 4, 5, 0] rfl ?_
                        exact ih65 (k + 1) (by omega) (by omega) (by rw [locaL] at hg; (repeat' split at hg); all_goals first | exact hg | (exfalso; omega) | omega)
                      · have c_46 := b2i_eq0.mp c_46
                        have c_46 := of_decide_eq_false c_46
                        refine G_iload hC 0 rfl d_Mo_sender_96 ?_
                        refine G_bipush (j := 46) hC (by decide +kernel) d_Mo_sender_98 ?_
                        refine G_icmp_eq hC 126 (by omega) (by decide) (by decide) d_Mo_sender_100 (fun c_47 => ?_) (fun c_47 => ?_)
                        · refine G_iinc (lv' := [(4, vI (k + 1)), (5, vI (gx xs k)), (0, .ref a), (1, .int ad), (2, vI tm), (3, vI z)]) hC 5 rfl (by rw [hN]; decide) rfl d_Mo_sender_126 ?_
                          refine G_goto hC 65 (by decide) d_Mo_sender_129 ?_
                          refine G_lv [2, 3, 4, 5, 0] rfl ?_
                          exact ih65 (k + 1) (by omega) (by omega) (by rw [locaL] at hg; (repeat' split at hg); all_goals first | exact hg | (exfalso; omega) | omega)
                        · refine G_iload hC 0 rfl d_Mo_sender_103 ?_
                          refine G_bipush (j := 45) hC (by decide +kernel) d_Mo_sender_105 ?_
                          refine G_icmp_eq hC 126 (by omega) (by decide) (by decide) d_Mo_sender_107 (fun c_48 => ?_) (fun c_48 => ?_)
                          · refine G_iinc (lv' := [(4, vI (k + 1)), (5, vI (gx xs k)), (0, .ref a), (1, .int ad), (2, vI tm), (3, vI z)]) hC 5 rfl (by rw [hN]; decide) rfl d_Mo_sender_126 ?_
                            refine G_goto hC 65 (by decide) d_Mo_sender_129 ?_
                            refine G_lv [2, 3, 4, 5, 0] rfl ?_
                            exact ih65 (k + 1) (by omega) (by omega) (by rw [locaL] at hg; (repeat' split at hg); all_goals first | exact hg | (exfalso; omega) | omega)
                          · refine G_iload hC 0 rfl d_Mo_sender_110 ?_
                            refine G_bipush (j := 95) hC (by decide +kernel) d_Mo_sender_112 ?_
                            refine G_icmp_eq hC 126 (by omega) (by decide) (by decide) d_Mo_sender_114 (fun c_49 => ?_) (fun c_49 => ?_)
                            · refine G_iinc (lv' := [(4, vI (k + 1)), (5, vI (gx xs k)), (0, .ref a), (1, .int ad), (2, vI tm), (3, vI z)]) hC 5 rfl (by rw [hN]; decide) rfl d_Mo_sender_126 ?_
                              refine G_goto hC 65 (by decide) d_Mo_sender_129 ?_
                              refine G_lv [2, 3, 4, 5, 0] rfl ?_
                              exact ih65 (k + 1) (by omega) (by omega) (by rw [locaL] at hg; (repeat' split at hg); all_goals first | exact hg | (exfalso; omega) | omega)
                            · refine G_iload hC 0 rfl d_Mo_sender_117 ?_
                              refine G_bipush (j := 43) hC (by decide +kernel) d_Mo_sender_119 ?_
                              refine G_icmp_eq hC 126 (by omega) (by decide) (by decide) d_Mo_sender_121 (fun c_50 => ?_) (fun c_50 => ?_)
                              · refine G_iinc (lv' := [(4, vI (k + 1)), (5, vI (gx xs k)), (0, .ref a), (1, .int ad), (2, vI tm), (3, vI z)]) hC 5 rfl (by rw [hN]; decide) rfl d_Mo_sender_126 ?_
                                refine G_goto hC 65 (by decide) d_Mo_sender_129 ?_
                                refine G_lv [2, 3, 4, 5, 0] rfl ?_
                                exact ih65 (k + 1) (by omega) (by omega) (by rw [locaL] at hg; (repeat' split at hg); all_goals first | exact hg | (exfalso; omega) | omega)
                              · refine G_iconst (i := (-1)) hC d_Mo_sender_124 ?_
                                have h_51 := h_Tx_lo.fr fr_5 (by decide) (by decide)
                                have h_52 := h_Tx_dm.fr fr_5 (by decide) (by decide)
                                have hP : P = none := by rw [← hr]; exact snd_none hz (Or.inl (loca_L hzr (hB.trans (by rw [locaL] at hg; (repeat' split at hg); all_goals first | exact hg.symm | (exfalso; omega)))))
                                subst hP
                                exact G_iretX hC hQ (by omega) (by omega) d_Mo_sender_125 ⟨rfl, h_4, h_51, h_52, (fr_5.up (T := [500, 508, 509, 510, 511]) (by simp))⟩
              refine G_lv [1, 2, 3, 4, 0] rfl ?_
              exact L65 _ 0 (Nat.lt_succ_self _) (by omega) hB
            · have c_14 := b2i_eq0.mp c_14
              refine G_iconst (i := (-1)) hC d_Mo_sender_60 ?_
              have h_53 := h_Tx_lo.fr fr_5 (by decide) (by decide)
              have h_54 := h_Tx_dm.fr fr_5 (by decide) (by decide)
              have hP : P = none := by rw [← hr]; exact snd_none hz (Or.inr (by rw [← htm]; exact c_14))
              subst hP
              exact G_iretX hC hQ (by omega) (by omega) d_Mo_sender_61 ⟨rfl, h_4, h_53, h_54, (fr_5.up (T := [500, 508, 509, 510, 511]) (by simp))⟩
      · refine G_aload_n hC 0 rfl rfl d_Mo_sender_12 ?_
        refine G_get hC fl_Mo_23 h_4 rfl d_Mo_sender_13 ?_
        refine G_iload_n hC 3 rfl rfl d_Mo_sender_16 ?_
        have h_55 := h_row_tp.fr fr_5 (by decide)
        refine G_baldR hC h_55 (by omega) d_Mo_sender_17 ?_
        have g_56 := h_55.rng q
        have g_57 := atS_gx (xs := xs) (i := q) (by omega)
        refine G_bipush (j := 64) hC (by decide +kernel) d_Mo_sender_18 ?_
        refine G_icmp_eq hC 29 (by omega) (by decide) (by decide) d_Mo_sender_20 (fun c_58 => ?_) (fun c_58 => ?_)
        · have hzq : z = q := by rw [findS] at hf; (repeat' split at hf); all_goals first | omega | (exfalso; omega)
          subst hzq
          refine G_iload_n hC 3 rfl rfl d_Mo_sender_29 ?_
          refine G_iload_n hC 2 rfl rfl d_Mo_sender_30 ?_
          refine G_icmp_eq hC 60 (by omega) (by omega) (by decide) d_Mo_sender_31 (fun c_59 => ?_) (fun c_59 => ?_)
          · refine G_iconst (i := (-1)) hC d_Mo_sender_60 ?_
            have h_60 := h_Tx_lo.fr fr_5 (by decide) (by decide)
            have h_61 := h_Tx_dm.fr fr_5 (by decide) (by decide)
            have hP : P = none := by rw [← hr]; exact snd_none hz (Or.inr (name_over (by omega)))
            subst hP
            exact G_iretX hC hQ (by omega) (by omega) d_Mo_sender_61 ⟨rfl, h_4, h_60, h_61, (fr_5.up (T := [500, 508, 509, 510, 511]) (by simp))⟩
          · refine G_iload_n hC 3 rfl rfl d_Mo_sender_34 ?_
            refine G_i2lR hC (by omega) d_Mo_sender_35 ?_
            refine G_lconst (v := zL 1) hC (by decide +kernel) d_Mo_sender_36 ?_
            refine G_ldc2R (a := 30) hC lc_Mo_96 d_Mo_sender_37 ?_
            refine G_pS (rest := []) hC hR (c_Mo_in (by omega) (by omega) (by omega)) cs_Mo_66 (by decide) (by omega) (by omega) rfl rfl (Nat.le_of_ble_eq_true rfl) d_Mo_sender_40 ?_
            refine G_if_eq hC 60 (by have := b2i_rng (decide (1 ≤ z ∧ z ≤ 30)); omega) (by decide) d_Mo_sender_43 (fun c_62 => ?_) (fun c_62 => ?_)
            · have c_62 := b2i_eq0.mp c_62
              have c_62 := of_decide_eq_false c_62
              refine G_iconst (i := (-1)) hC d_Mo_sender_60 ?_
              have h_63 := h_Tx_lo.fr fr_5 (by decide) (by decide)
              have h_64 := h_Tx_dm.fr fr_5 (by decide) (by decide)
              have hP : P = none := by rw [← hr]; exact snd_none hz (Or.inl (loca_no c_62))
              subst hP
              exact G_iretX hC hQ (by omega) (by omega) d_Mo_sender_61 ⟨rfl, h_4, h_63, h_64, (fr_5.up (T := [500, 508, 509, 510, 511]) (by simp))⟩
            · have c_62 := b2i_ne0.mp c_62
              have c_62 := of_decide_eq_true c_62
              refine G_aload_n hC 0 rfl rfl d_Mo_sender_46 ?_
              refine G_get hC fl_Mo_23 h_4 rfl d_Mo_sender_47 ?_
              refine G_iload_n hC 3 rfl rfl d_Mo_sender_50 ?_
              refine G_iconst (i := 1) hC d_Mo_sender_51 ?_
              refine G_iadd hC d_Mo_sender_52 ?_
              refine G_iload_n hC 2 rfl rfl d_Mo_sender_53 ?_
              refine G_pS (rest := []) hC hR (c_Tx_isName h_55 (by omega) (by omega) rfl) cs_Mo_78 (by decide) (by omega) (by omega) rfl rfl (Nat.le_of_ble_eq_true rfl) d_Mo_sender_54 ?_
              refine G_if_ne hC 62 (by have := b2i_rng (nameS xs (z + 1) tm); omega) (by decide) d_Mo_sender_57 (fun c_65 => ?_) (fun c_65 => ?_)
              · have c_65 := b2i_ne0.mp c_65
                obtain ⟨B, hB⟩ : ∃ B, locaL xs z 0 = B := ⟨_, rfl⟩
                have hnm : nameS xs (z + 1) xs.length = true := by rw [← htm]; exact c_65
                have hzr : 1 ≤ z ∧ z ≤ 30 := by omega
                refine G_iconst (i := 0) hC d_Mo_sender_62 ?_
                refine G_istore (lv' := [(4, vI 0), (0, .ref a), (1, .int ad), (2, vI tm), (3, vI z)]) hC (by rw [hN]; decide) rfl d_Mo_sender_63 ?_
                have L65 : ∀ (N : Nat) (k : Int), (z - k).toNat < N → (0 ≤ k ∧ k ≤ z) → (locaL xs z k = B) → G E M_1 (0 + 0) (0 + 0) [(0, .ref a), (1, .int ad), (2, vI tm), (3, vI z), (4, vI k)] [] 65 := by
                  intro N
                  induction N with
                  | zero => intro k hN65 hk hg; exact absurd hN65 (Nat.not_lt_zero _)
                  | succ N ih65 =>
                    intro k hN65 hk hg
                    refine G_iload hC 4 rfl d_Mo_sender_65 ?_
                    refine G_iload_n hC 3 rfl rfl d_Mo_sender_67 ?_
                    refine G_icmp_ge hC 132 (by omega) (by omega) (by decide) d_Mo_sender_68 (fun c_66 => ?_) (fun c_66 => ?_)
                    · have hBt : B = true := by rw [locaL, dif_neg (by omega)] at hg; exact hg.symm
                      have hnl := nameL_ne hnm
                      refine G_aload_n hC 0 rfl rfl d_Mo_sender_132 ?_
                      refine G_get hC fl_Mo_50 h_4 rfl d_Mo_sender_133 ?_
                      refine G_aload_n hC 0 rfl rfl d_Mo_sender_136 ?_
                      refine G_get hC fl_Mo_23 h_4 rfl d_Mo_sender_137 ?_
                      refine G_iconst (i := 0) hC d_Mo_sender_140 ?_
                      refine G_iload_n hC 3 rfl rfl d_Mo_sender_141 ?_
                      have h_67 := h_Tx_lo.fr fr_5 (by decide) (by decide)
                      refine G_xV (rest := []) hC hR (c_Tx_set h_67 h_55 (by omega) (by omega) (by decide)) cv_Mo_82 h_67.obj (by decide) (by omega) (by omega) rfl rfl (Nat.le_of_ble_eq_true rfl) d_Mo_sender_142 (fun r_70 M_68 p_69 => ?_)
                      obtain ⟨rfl, h_71, fr_72⟩ := p_69
                      show G E M_68 (0 + 0 + 0) (0 + 0 + 0) [(0, .ref a), (1, .int ad), (2, vI tm), (3, vI z), (4, vI k)] [] 145
                      refine G_aload_n hC 0 rfl rfl d_Mo_sender_145 ?_
                      have h_73 := fr_72.at h_4 (by simp only [List.mem_cons, List.not_mem_nil, or_false, not_or, not_false_eq_true]; try omega)
                      refine G_get hC fl_Mo_53 h_73 rfl d_Mo_sender_146 ?_
                      refine G_aload_n hC 0 rfl rfl d_Mo_sender_149 ?_
                      refine G_get hC fl_Mo_23 h_73 rfl d_Mo_sender_150 ?_
                      refine G_iload_n hC 3 rfl rfl d_Mo_sender_153 ?_
                      refine G_iconst (i := 1) hC d_Mo_sender_154 ?_
                      refine G_iadd hC d_Mo_sender_155 ?_
                      refine G_iload_n hC 2 rfl rfl d_Mo_sender_156 ?_
                      have h_74 := h_Tx_dm.fr fr_5 (by decide) (by decide)
                      have h_75 := h_74.fr fr_72 (by simp only [List.mem_cons, List.not_mem_nil, or_false, not_or, not_false_eq_true]; try omega) (by simp only [List.mem_cons, List.not_mem_nil, or_false, not_or, not_false_eq_true]; try omega)
                      have h_76 := h_55.fr fr_72 (by simp only [List.mem_cons, List.not_mem_nil, or_false, not_or, not_false_eq_true]; try omega)
                      refine G_xV (rest := []) hC hR (c_Tx_set h_75 h_76 (by omega) (by omega) (by decide)) cv_Mo_82 h_75.obj (by decide) (by omega) (by omega) rfl rfl (Nat.le_of_ble_eq_true rfl) d_Mo_sender_157 (fun r_79 M_77 p_78 => ?_)
                      obtain ⟨rfl, h_80, fr_81⟩ := p_78
                      show G E M_77 (0 + 0 + 0 + 0) (0 + 0 + 0 + 0) [(0, .ref a), (1, .int ad), (2, vI tm), (3, vI z), (4, vI k)] [] 160
                      refine G_aload_n hC 0 rfl rfl d_Mo_sender_160 ?_
                      refine G_iload_n hC 1 rfl rfl d_Mo_sender_161 ?_
                      have h_82 := fr_81.at h_73 (by simp only [List.mem_cons, List.not_mem_nil, or_false, not_or, not_false_eq_true]; try omega)
                      refine G_putX (fs' := [.ref tp, vI 0, vI en, .ref ou, .ref sa, .ref aa, .ref na, .ref va, .ref lo, .ref dm, .int ad, vI st, .ref tg, vI cn, vI vo, .ref pc, vI k0, vI s0, vI f0, vI o0, vI n0, .int w0]) hC fl_Mo_105 ft_Mo fw_Mo_10 h_82 rfl rfl (Nat.le_of_ble_eq_true rfl) rfl d_Mo_sender_162 (fun M_83 h_84 fr_85 => ?_)
                      refine G_aload_n hC 0 rfl rfl d_Mo_sender_165 ?_
                      refine G_iconst (i := 1) hC d_Mo_sender_166 ?_
                      refine G_putX (fs' := [.ref tp, vI 0, vI en, .ref ou, .ref sa, .ref aa, .ref na, .ref va, .ref lo, .ref dm, .int ad, vI 1, .ref tg, vI cn, vI vo, .ref pc, vI k0, vI s0, vI f0, vI o0, vI n0, .int w0]) hC fl_Mo_108 ft_Mo fw_Mo_11 h_84 (by decide +kernel) rfl (Nat.le_of_ble_eq_true rfl) rfl d_Mo_sender_167 (fun M_86 h_87 fr_88 => ?_)
                      refine G_iconst (i := 0) hC d_Mo_sender_170 ?_
                      have h_89 := h_71.fr fr_81 (by simp only [List.mem_cons, List.not_mem_nil, or_false, not_or, not_false_eq_true]; try omega) (by simp only [List.mem_cons, List.not_mem_nil, or_false, not_or, not_false_eq_true]; try omega)
                      have h_90 := h_89.fr fr_85 (by decide) (by decide)
                      have h_91 := h_90.fr fr_88 (by decide) (by decide)
                      have h_92 := h_80.fr fr_85 (by decide) (by decide)
                      have h_93 := h_92.fr fr_88 (by decide) (by decide)
                      have hP : P = some (xs.take z.toNat, xs.drop (z + 1).toNat, ad) := by rw [← hr]; exact snd_some hz (loca_L hzr (hB.trans hBt)) hnm
                      subst hP
                      exact G_iretX hC hQ (by omega) (by omega) d_Mo_sender_171 ⟨rfl, h_87, by show IsT (eD E) M_86 lo 508 30 (xs.take z.toNat); rw [← sl_head]; exact h_91, by show IsT (eD E) M_86 dm 510 60 (xs.drop (z + 1).toNat); rw [← sl_tail (e := tm) (by omega) htm]; exact h_93, (((((fr_5.up (T := [500, 508, 509, 510, 511]) (by simp)).tr' (T := [500, 508, 509, 510, 511]) fr_72 (fun _ z => z) (by simp)).tr' (T := [500, 508, 509, 510, 511]) fr_81 (fun _ z => z) (by simp)).tr' (T := [500, 508, 509, 510, 511]) fr_85 (fun _ z => z) (by simp)).tr' (T := [500, 508, 509, 510, 511]) fr_88 (fun _ z => z) (by simp))⟩
                    · refine G_aload_n hC 0 rfl rfl d_Mo_sender_71 ?_
                      refine G_get hC fl_Mo_23 h_4 rfl d_Mo_sender_72 ?_
                      refine G_iload hC 4 rfl d_Mo_sender_75 ?_
                      refine G_baldR hC h_55 (by omega) d_Mo_sender_77 ?_
                      have g_94 := h_55.rng k
                      have g_95 := atS_gx (xs := xs) (i := k) (by omega)
                      refine G_istore (lv' := [(5, vI (gx xs k)), (0, .ref a), (1, .int ad), (2, vI tm), (3, vI z), (4, vI k)]) hC (by rw [hN]; decide) rfl d_Mo_sender_78 ?_
                      refine G_iload hC 0 rfl d_Mo_sender_80 ?_
                      refine G_pS (rest := []) hC hR (c_Mo_isSmall (by omega)) cs_Mo_98 (by decide) (by omega) (by omega) rfl rfl (Nat.le_of_ble_eq_true rfl) d_Mo_sender_82 ?_
                      refine G_if_ne hC 126 (by have := b2i_rng (decide (letP (gx xs k))); omega) (by decide) d_Mo_sender_85 (fun c_96 => ?_) (fun c_96 => ?_)
                      · have c_96 := b2i_ne0.mp c_96
                        have c_96 := of_decide_eq_true c_96
                        refine G_iinc (lv' := [(4, vI (k + 1)), (5, vI (gx xs k)), (0, .ref a), (1, .int ad), (2, vI tm), (3, vI z)]) hC 5 rfl (by rw [hN]; decide) rfl d_Mo_sender_126 ?_
                        refine G_goto hC 65 (by decide) d_Mo_sender_129 ?_
                        refine G_lv [2, 3, 4, 5, 0] rfl ?_
                        exact ih65 (k + 1) (by omega) (by omega) (by rw [locaL] at hg; (repeat' split at hg); all_goals first | exact hg | (exfalso; omega) | omega)
                      · have c_96 := b2i_eq0.mp c_96
                        have c_96 := of_decide_eq_false c_96
                        refine G_iload hC 0 rfl d_Mo_sender_88 ?_
                        refine G_pS (rest := []) hC hR (c_Mo_isDigit (by omega)) cs_Mo_102 (by decide) (by omega) (by omega) rfl rfl (Nat.le_of_ble_eq_true rfl) d_Mo_sender_90 ?_
                        refine G_if_ne hC 126 (by have := b2i_rng (decide (digP (gx xs k))); omega) (by decide) d_Mo_sender_93 (fun c_97 => ?_) (fun c_97 => ?_)
                        · have c_97 := b2i_ne0.mp c_97
                          have c_97 := of_decide_eq_true c_97
                          refine G_iinc (lv' := [(4, vI (k + 1)), (5, vI (gx xs k)), (0, .ref a), (1, .int ad), (2, vI tm), (3, vI z)]) hC 5 rfl (by rw [hN]; decide) rfl d_Mo_sender_126 ?_
                          refine G_goto hC 65 (by decide) d_Mo_sender_129 ?_
                          refine G_lv [2, 3, 4, 5, 0] rfl ?_
                          exact ih65 (k + 1) (by omega) (by omega) (by rw [locaL] at hg; (repeat' split at hg); all_goals first | exact hg | (exfalso; omega) | omega)
                        · have c_97 := b2i_eq0.mp c_97
                          have c_97 := of_decide_eq_false c_97
                          refine G_iload hC 0 rfl d_Mo_sender_96 ?_
                          refine G_bipush (j := 46) hC (by decide +kernel) d_Mo_sender_98 ?_
                          refine G_icmp_eq hC 126 (by omega) (by decide) (by decide) d_Mo_sender_100 (fun c_98 => ?_) (fun c_98 => ?_)
                          · refine G_iinc (lv' := [(4, vI (k + 1)), (5, vI (gx xs k)), (0, .ref a), (1, .int ad), (2, vI tm), (3, vI z)]) hC 5 rfl (by rw [hN]; decide) rfl d_Mo_sender_126 ?_
                            refine G_goto hC 65 (by decide) d_Mo_sender_129 ?_
                            refine G_lv [2, 3, 4, 5, 0] rfl ?_
                            exact ih65 (k + 1) (by omega) (by omega) (by rw [locaL] at hg; (repeat' split at hg); all_goals first | exact hg | (exfalso; omega) | omega)
                          · refine G_iload hC 0 rfl d_Mo_sender_103 ?_
                            refine G_bipush (j := 45) hC (by decide +kernel) d_Mo_sender_105 ?_
                            refine G_icmp_eq hC 126 (by omega) (by decide) (by decide) d_Mo_sender_107 (fun c_99 => ?_) (fun c_99 => ?_)
                            · refine G_iinc (lv' := [(4, vI (k + 1)), (5, vI (gx xs k)), (0, .ref a), (1, .int ad), (2, vI tm), (3, vI z)]) hC 5 rfl (by rw [hN]; decide) rfl d_Mo_sender_126 ?_
                              refine G_goto hC 65 (by decide) d_Mo_sender_129 ?_
                              refine G_lv [2, 3, 4, 5, 0] rfl ?_
                              exact ih65 (k + 1) (by omega) (by omega) (by rw [locaL] at hg; (repeat' split at hg); all_goals first | exact hg | (exfalso; omega) | omega)
                            · refine G_iload hC 0 rfl d_Mo_sender_110 ?_
                              refine G_bipush (j := 95) hC (by decide +kernel) d_Mo_sender_112 ?_
                              refine G_icmp_eq hC 126 (by omega) (by decide) (by decide) d_Mo_sender_114 (fun c_100 => ?_) (fun c_100 => ?_)
                              · refine G_iinc (lv' := [(4, vI (k + 1)), (5, vI (gx xs k)), (0, .ref a), (1, .int ad), (2, vI tm), (3, vI z)]) hC 5 rfl (by rw [hN]; decide) rfl d_Mo_sender_126 ?_
                                refine G_goto hC 65 (by decide) d_Mo_sender_129 ?_
                                refine G_lv [2, 3, 4, 5, 0] rfl ?_
                                exact ih65 (k + 1) (by omega) (by omega) (by rw [locaL] at hg; (repeat' split at hg); all_goals first | exact hg | (exfalso; omega) | omega)
                              · refine G_iload hC 0 rfl d_Mo_sender_117 ?_
                                refine G_bipush (j := 43) hC (by decide +kernel) d_Mo_sender_119 ?_
                                refine G_icmp_eq hC 126 (by omega) (by decide) (by decide) d_Mo_sender_121 (fun c_101 => ?_) (fun c_101 => ?_)
                                · refine G_iinc (lv' := [(4, vI (k + 1)), (5, vI (gx xs k)), (0, .ref a), (1, .int ad), (2, vI tm), (3, vI z)]) hC 5 rfl (by rw [hN]; decide) rfl d_Mo_sender_126 ?_
                                  refine G_goto hC 65 (by decide) d_Mo_sender_129 ?_
                                  refine G_lv [2, 3, 4, 5, 0] rfl ?_
                                  exact ih65 (k + 1) (by omega) (by omega) (by rw [locaL] at hg; (repeat' split at hg); all_goals first | exact hg | (exfalso; omega) | omega)
                                · refine G_iconst (i := (-1)) hC d_Mo_sender_124 ?_
                                  have h_102 := h_Tx_lo.fr fr_5 (by decide) (by decide)
                                  have h_103 := h_Tx_dm.fr fr_5 (by decide) (by decide)
                                  have hP : P = none := by rw [← hr]; exact snd_none hz (Or.inl (loca_L hzr (hB.trans (by rw [locaL] at hg; (repeat' split at hg); all_goals first | exact hg.symm | (exfalso; omega)))))
                                  subst hP
                                  exact G_iretX hC hQ (by omega) (by omega) d_Mo_sender_125 ⟨rfl, h_4, h_102, h_103, (fr_5.up (T := [500, 508, 509, 510, 511]) (by simp))⟩
                refine G_lv [1, 2, 3, 4, 0] rfl ?_
                exact L65 _ 0 (Nat.lt_succ_self _) (by omega) hB
              · have c_65 := b2i_eq0.mp c_65
                refine G_iconst (i := (-1)) hC d_Mo_sender_60 ?_
                have h_104 := h_Tx_lo.fr fr_5 (by decide) (by decide)
                have h_105 := h_Tx_dm.fr fr_5 (by decide) (by decide)
                have hP : P = none := by rw [← hr]; exact snd_none hz (Or.inr (by rw [← htm]; exact c_65))
                subst hP
                exact G_iretX hC hQ (by omega) (by omega) d_Mo_sender_61 ⟨rfl, h_4, h_104, h_105, (fr_5.up (T := [500, 508, 509, 510, 511]) (by simp))⟩
        · refine G_iinc (lv' := [(3, vI (q + 1)), (0, .ref a), (1, .int ad), (2, vI tm)]) hC 3 rfl (by rw [hN]; decide) rfl d_Mo_sender_23 ?_
          refine G_goto hC 7 (by decide) d_Mo_sender_26 ?_
          refine G_lv [1, 2, 3, 0] rfl ?_
          exact ih7 (q + 1) (by omega) (by omega) (by rw [findS] at hf; (repeat' split at hf); all_goals first | exact hf | (exfalso; omega) | omega)
  refine G_lv [2, 3, 1, 0] rfl ?_
  exact L7 _ 0 (Nat.lt_succ_self _) (by omega) hz
