set_option maxHeartbeats 4000000 in
set_option maxRecDepth 100000 in
theorem c_Mo_entry {l : Launch} {D : Dg} {b0 : Nat} {M : Mp} {a : Nat} {sort : Int} {ad : Int32} {tp : Nat} {tm : Int} {en : Int} {ou : Nat} {sa : Nat} {aa : Nat} {na : Nat} {va : Nat} {lo : Nat} {dm : Nat} {fm : Int32} {st : Int} {tg : Nat} {cn : Int} {vo : Int} {pc : Nat} {k0 : Int} {s0 : Int} {f0 : Int} {o0 : Int} {n0 : Int} {w0 : Int32} {es : List Ent} {xs : List Int} (h_obj_a : M a = some (500, .inr (cMo, [.ref tp, vI tm, vI en, .ref ou, .ref sa, .ref aa, .ref na, .ref va, .ref lo, .ref dm, .int fm, vI st, .ref tg, vI cn, vI vo, .ref pc, vI k0, vI s0, vI f0, vI o0, vI n0, .int w0]))) (h_Md_sa : IsMd D M sa aa na va es) (h_row_tp : Row D M tp 501 800 xs) (htm : tm = (xs.length : Int)) (hen : en = (es.length : Int)) (hs : -2147483648 ≤ sort ∧ sort ≤ 2147483647) : Ok l D b0 5 y_Mo_entry b_Mo_entry 7 (some .int) M [.ref a, vI sort, .int ad] 0 0 (fun r M' => r = some (vI (if 40 ≤ (es.length : Int) then -3 else if (takeS es xs sort ad).isSome = true then (((takeS es xs sort ad).getD es).length : Int) else -1)) ∧ M' a = some (500, .inr (cMo, [.ref tp, vI 0, vI (((takeS es xs sort ad).getD es).length : Int), .ref ou, .ref sa, .ref aa, .ref na, .ref va, .ref lo, .ref dm, .int fm, vI st, .ref tg, vI cn, vI vo, .ref pc, vI k0, vI s0, vI f0, vI o0, vI n0, .int w0])) ∧ IsMd D M' sa aa na va ((takeS es xs sort ad).getD es) ∧ Fr [500, 504, 505, 600 + 4 * en.toNat, 600 + 4 * en.toNat + 1, 600 + 4 * en.toNat + 2, 600 + 4 * en.toNat + 2 + 1] M M') := by
  refine Ok_of rfl (Nat.le_of_ble_eq_true rfl) (fun E hC hQ hl hD hB hN hR => ?_)
  subst hl hD hB
  have hr9 := h_row_tp.len
  have hD9 := h_Md_sa.len
  obtain ⟨g_8, ga_9, fn_10, fv_11, h_1, h_2, h_3, h_4, h_5, h_6, h_7⟩ := id h_Md_sa
  obtain ⟨z, hz⟩ : ∃ z, blkS xs = z := ⟨_, rfl⟩
  show G E M 0 0 [(0, .ref a), (1, vI sort), (2, .int ad)] [] 0
  refine G_aload_n hC 0 rfl rfl d_Mo_entry_0 ?_
  refine G_xV (rest := []) hC hR (c_Mo_used h_obj_a) cv_Mo_70 ⟨_, _, h_obj_a⟩ (by decide) (by omega) (by omega) rfl rfl (Nat.le_of_ble_eq_true rfl) d_Mo_entry_1 (fun r_14 M_12 p_13 => ?_)
  obtain ⟨rfl, h_15, fr_16⟩ := p_13
  show G E M_12 (0 + 0) (0 + 0) [(0, .ref a), (1, vI sort), (2, .int ad)] [vI tm] 4
  refine G_istore_n (lv' := [(3, vI tm), (0, .ref a), (1, vI sort), (2, .int ad)]) hC rfl (by rw [hN]; decide) rfl d_Mo_entry_4 ?_
  refine G_iconst (i := 0) hC d_Mo_entry_5 ?_
  refine G_istore (lv' := [(4, vI 0), (3, vI tm), (0, .ref a), (1, vI sort), (2, .int ad)]) hC (by rw [hN]; decide) rfl d_Mo_entry_6 ?_
  refine G_aload_n hC 2 rfl rfl d_Mo_entry_8 ?_
  refine G_get hC fl_Mo_73 h_15 rfl d_Mo_entry_9 ?_
  refine G_bipush (j := 40) hC (by decide +kernel) d_Mo_entry_12 ?_
  refine G_icmp_ne hC 20 (by omega) (by decide) (by decide) d_Mo_entry_14 (fun c_17 => ?_) (fun c_17 => ?_)
  · refine G_iload_n hC 3 rfl rfl d_Mo_entry_20 ?_
    refine G_i2lR hC (by omega) d_Mo_entry_21 ?_
    refine G_lconst (v := zL 0) hC (by decide +kernel) d_Mo_entry_22 ?_
    refine G_ldc2R (a := 3) hC lc_Mo_76 d_Mo_entry_23 ?_
    refine G_pS (rest := []) hC hR (c_Mo_in (by omega) (by omega) (by omega)) cs_Mo_66 (by decide) (by omega) (by omega) rfl rfl (Nat.le_of_ble_eq_true rfl) d_Mo_entry_26 ?_
    refine G_if_ne hC 34 (by have := b2i_rng (decide (0 ≤ sort ∧ sort ≤ 3)); omega) (by decide) d_Mo_entry_29 (fun c_18 => ?_) (fun c_18 => ?_)
    · have c_18 := b2i_ne0.mp c_18
      have c_18 := of_decide_eq_true c_18
      refine G_iload_n hC 3 rfl rfl d_Mo_entry_34 ?_
      refine G_if_eq hC 43 (by omega) (by decide) d_Mo_entry_35 (fun c_19 => ?_) (fun c_19 => ?_)
      · refine G_iconst (i := 1) hC d_Mo_entry_43 ?_
        refine G_goto hC 48 (by decide) d_Mo_entry_44 ?_
        refine G_istore (lv' := [(5, vI 1), (4, vI 0), (3, vI tm), (0, .ref a), (1, vI sort), (2, .int ad)]) hC (by rw [hN]; decide) rfl d_Mo_entry_48 ?_
        have L50 : ∀ (N : Nat) (b : Int), (tm - b).toNat < N → (0 ≤ b ∧ b ≤ tm) → (findS xs 32 b (xs.length : Int) = z) → G E M_12 (0 + 0) (0 + 0) [(0, .ref a), (1, vI sort), (2, .int ad), (3, vI tm), (4, vI b), (5, vI 1)] [] 50 := by
          intro N
          induction N with
          | zero => intro b hN50 hb hf; exact absurd hN50 (Nat.not_lt_zero _)
          | succ N ih50 =>
            intro b hN50 hb hf
            refine G_iload hC 5 rfl d_Mo_entry_50 ?_
            refine G_if_eq hC 79 (by decide) (by decide) d_Mo_entry_52 (fun c_20 => ?_) (fun c_20 => ?_)
            · exact (show False from by omega).elim
            · refine G_iload hC 4 rfl d_Mo_entry_55 ?_
              refine G_iload_n hC 3 rfl rfl d_Mo_entry_57 ?_
              refine G_icmp_ge hC 79 (by omega) (by omega) (by decide) d_Mo_entry_58 (fun c_21 => ?_) (fun c_21 => ?_)
              · have hzb : z = b := by rw [findS] at hf; (repeat' split at hf); all_goals first | omega | (exfalso; omega)
                subst hzb
                refine G_iload hC 5 rfl d_Mo_entry_79 ?_
                refine G_if_eq hC 89 (by decide) (by decide) d_Mo_entry_81 (fun c_22 => ?_) (fun c_22 => ?_)
                · exact (show False from by omega).elim
                · refine G_iload hC 4 rfl d_Mo_entry_84 ?_
                  refine G_goto hC 90 (by decide) d_Mo_entry_86 ?_
                  refine G_istore (lv' := [(6, vI z), (0, .ref a), (1, vI sort), (2, .int ad), (3, vI tm), (4, vI z), (5, vI 1)]) hC (by rw [hN]; decide) rfl d_Mo_entry_90 ?_
                  refine G_iload hC 6 rfl d_Mo_entry_92 ?_
                  refine G_if_eq hC 103 (by decide) (by decide) d_Mo_entry_94 (fun c_23 => ?_) (fun c_23 => ?_)
                  · exact (show False from by omega).elim
                  · refine G_iload hC 5 rfl d_Mo_entry_97 ?_
                    refine G_iload_n hC 4 rfl rfl d_Mo_entry_99 ?_
                    refine G_icmp_eq hC 116 (by omega) (by omega) (by decide) d_Mo_entry_100 (fun c_24 => ?_) (fun c_24 => ?_)
                    · refine G_iconst (i := (-1)) hC d_Mo_entry_116 ?_
                      have hno := ent_no (es := es) (xs := xs) (sort := sort) (ad := ad) (by rw [hz]; exact (fun y => by rcases y.2 with y | y | y <;> omega))
                      have h_25 := h_Md_sa.fr fr_16 (by intro u hu; simp only [List.mem_cons, List.not_mem_nil, or_false] at hu <;> omega)
                      exact G_iretX hC hQ (by omega) (by omega) d_Mo_entry_117 ⟨by rw [if_neg (by omega), if_neg (nt hno.1)], by rw [hno.2, ← hen]; exact h_15, by rw [hno.2]; exact h_25, (fr_16.up (T := [500, 504, 505, 600 + 4 * en.toNat, 600 + 4 * en.toNat + 1, 600 + 4 * en.toNat + 2, 600 + 4 * en.toNat + 2 + 1]) (by simp))⟩
                    · exact (show False from by omega).elim
              · refine G_aload_n hC 0 rfl rfl d_Mo_entry_61 ?_
                refine G_get hC fl_Mo_23 h_15 rfl d_Mo_entry_62 ?_
                refine G_iload hC 4 rfl d_Mo_entry_65 ?_
                have h_26 := h_row_tp.fr fr_16 (by decide)
                refine G_baldR hC h_26 (by omega) d_Mo_entry_67 ?_
                have g_27 := h_26.rng b
                have g_28 := atS_gx (xs := xs) (i := b) (by omega)
                refine G_bipush (j := 32) hC (by decide +kernel) d_Mo_entry_68 ?_
                refine G_icmp_eq hC 79 (by omega) (by decide) (by decide) d_Mo_entry_70 (fun c_29 => ?_) (fun c_29 => ?_)
                · have hzb : z = b := by rw [findS] at hf; (repeat' split at hf); all_goals first | omega | (exfalso; omega)
                  subst hzb
                  refine G_iload hC 5 rfl d_Mo_entry_79 ?_
                  refine G_if_eq hC 89 (by decide) (by decide) d_Mo_entry_81 (fun c_30 => ?_) (fun c_30 => ?_)
                  · exact (show False from by omega).elim
                  · refine G_iload hC 4 rfl d_Mo_entry_84 ?_
                    refine G_goto hC 90 (by decide) d_Mo_entry_86 ?_
                    refine G_istore (lv' := [(6, vI z), (0, .ref a), (1, vI sort), (2, .int ad), (3, vI tm), (4, vI z), (5, vI 1)]) hC (by rw [hN]; decide) rfl d_Mo_entry_90 ?_
                    refine G_iload hC 6 rfl d_Mo_entry_92 ?_
                    refine G_if_eq hC 103 (by decide) (by decide) d_Mo_entry_94 (fun c_31 => ?_) (fun c_31 => ?_)
                    · exact (show False from by omega).elim
                    · refine G_iload hC 5 rfl d_Mo_entry_97 ?_
                      refine G_iload_n hC 4 rfl rfl d_Mo_entry_99 ?_
                      refine G_icmp_eq hC 116 (by omega) (by omega) (by decide) d_Mo_entry_100 (fun c_32 => ?_) (fun c_32 => ?_)
                      · exact (show False from by omega).elim
                      · refine G_aload_n hC 1 rfl rfl d_Mo_entry_103 ?_
                        refine G_get hC fl_Mo_23 h_15 rfl d_Mo_entry_104 ?_
                        refine G_iconst (i := 0) hC d_Mo_entry_107 ?_
                        refine G_iload hC 0 rfl d_Mo_entry_108 ?_
                        refine G_pS (rest := []) hC hR (c_Tx_isName h_26 (by omega) (by omega) rfl) cs_Mo_78 (by decide) (by omega) (by omega) rfl rfl (Nat.le_of_ble_eq_true rfl) d_Mo_entry_110 ?_
                        refine G_if_ne hC 118 (by have := b2i_rng (nameS xs 0 z); omega) (by decide) d_Mo_entry_113 (fun c_33 => ?_) (fun c_33 => ?_)
                        · have c_33 := b2i_ne0.mp c_33
                          have hnm := c_33
                          have hnl := nameL_ne hnm
                          refine G_iload_n hC 2 rfl rfl d_Mo_entry_118 ?_
                          refine G_iconst (i := 2) hC d_Mo_entry_119 ?_
                          refine G_icmp_ne hC 138 (by omega) (by decide) (by decide) d_Mo_entry_120 (fun c_34 => ?_) (fun c_34 => ?_)
                          · refine G_iload_n hC 2 rfl rfl d_Mo_entry_138 ?_
                            refine G_if_ne hC 156 (by omega) (by decide) d_Mo_entry_139 (fun c_35 => ?_) (fun c_35 => ?_)
                            · exact (show False from by omega).elim
                            · refine G_iload_n hC 4 rfl rfl d_Mo_entry_142 ?_
                              refine G_iload hC 5 rfl d_Mo_entry_143 ?_
                              refine G_isub hC d_Mo_entry_145 ?_
                              refine G_iconst (i := 1) hC d_Mo_entry_146 ?_
                              refine G_isub hC d_Mo_entry_147 ?_
                              refine G_sipush (j := 700) hC (by decide +kernel) d_Mo_entry_148 ?_
                              refine G_icmp_le hC 156 (by omega) (by decide) (by decide) d_Mo_entry_151 (fun c_36 => ?_) (fun c_36 => ?_)
                              · have hen9 : en.toNat = es.length := by omega
                                have hgd : goodP xs sort z := ⟨hnm, Or.inl ⟨by omega, by omega, by omega⟩⟩
                                refine G_aload_n hC 1 rfl rfl d_Mo_entry_156 ?_
                                refine G_get hC fl_Mo_36 h_15 rfl d_Mo_entry_157 ?_
                                refine G_aload_n hC 1 rfl rfl d_Mo_entry_160 ?_
                                refine G_get hC fl_Mo_73 h_15 rfl d_Mo_entry_161 ?_
                                refine G_iload_n hC 2 rfl rfl d_Mo_entry_164 ?_
                                have h_37 := fr_16.at h_1 (by decide)
                                refine G_iastX hC h_37 (by omega) (by omega) d_Mo_entry_165 (fun M_38 h_39 fr_40 => ?_)
                                refine G_aload_n hC 1 rfl rfl d_Mo_entry_166 ?_
                                have h_41 := fr_40.at h_15 (by decide)
                                refine G_get hC fl_Mo_40 h_41 rfl d_Mo_entry_167 ?_
                                refine G_aload_n hC 1 rfl rfl d_Mo_entry_170 ?_
                                refine G_get hC fl_Mo_73 h_41 rfl d_Mo_entry_171 ?_
                                refine G_iload_n hC 3 rfl rfl d_Mo_entry_174 ?_
                                refine G_X2I ?_
                                have h_42 := fr_16.at h_2 (by decide)
                                have h_43 := fr_40.at h_42 (by decide)
                                refine G_iastX hC h_43 (by omega) (by omega) d_Mo_entry_175 (fun M_44 h_45 fr_46 => ?_)
                                refine G_aload_n hC 1 rfl rfl d_Mo_entry_176 ?_
                                have h_47 := fr_46.at h_41 (by decide)
                                refine G_get hC fl_Mo_43 h_47 rfl d_Mo_entry_177 ?_
                                refine G_aload_n hC 1 rfl rfl d_Mo_entry_180 ?_
                                refine G_get hC fl_Mo_73 h_47 rfl d_Mo_entry_181 ?_
                                have h_48 := fr_16.at h_3 (by decide)
                                have h_49 := fr_40.at h_48 (by decide)
                                have h_50 := fr_46.at h_49 (by decide)
                                obtain ⟨t_51, u_52, ns_53, vs_54, h_55, h_56, h_57, h_58, h_59⟩ := h_7 (en : Int).toNat (by omega)
                                refine G_aald hC h_50 rfl (by omega) (by omega) (by rw [h_55]) d_Mo_entry_184 ?_
                                refine G_aload_n hC 1 rfl rfl d_Mo_entry_185 ?_
                                refine G_get hC fl_Mo_23 h_47 rfl d_Mo_entry_186 ?_
                                refine G_iconst (i := 0) hC d_Mo_entry_189 ?_
                                refine G_iload hC 0 rfl d_Mo_entry_190 ?_
                                have h_60 := h_57.fr fr_16 (by simp only [List.mem_cons, List.not_mem_nil, or_false, not_or, not_false_eq_true]; try omega) (by simp only [List.mem_cons, List.not_mem_nil, or_false, not_or, not_false_eq_true]; try omega)
                                have h_61 := h_60.fr fr_40 (by simp only [List.mem_cons, List.not_mem_nil, or_false, not_or, not_false_eq_true]; try omega) (by simp only [List.mem_cons, List.not_mem_nil, or_false, not_or, not_false_eq_true]; try omega)
                                have h_62 := h_61.fr fr_46 (by simp only [List.mem_cons, List.not_mem_nil, or_false, not_or, not_false_eq_true]; try omega) (by simp only [List.mem_cons, List.not_mem_nil, or_false, not_or, not_false_eq_true]; try omega)
                                have h_63 := h_26.fr fr_40 (by decide)
                                have h_64 := h_63.fr fr_46 (by decide)
                                refine G_xV (rest := []) hC hR (c_Tx_set h_62 h_64 (by omega) (by omega) (by omega)) cv_Mo_82 h_62.obj (by decide) (by omega) (by omega) rfl rfl (Nat.le_of_ble_eq_true rfl) d_Mo_entry_192 (fun r_67 M_65 p_66 => ?_)
                                obtain ⟨rfl, h_68, fr_69⟩ := p_66
                                show G E M_65 (0 + 0 + 0) (0 + 0 + 0) [(6, vI z), (0, .ref a), (1, vI sort), (2, .int ad), (3, vI tm), (4, vI z), (5, vI 1)] [] 195
                                refine G_aload_n hC 1 rfl rfl d_Mo_entry_195 ?_
                                have h_70 := fr_69.at h_47 (by simp only [List.mem_cons, List.not_mem_nil, or_false, not_or, not_false_eq_true]; try omega)
                                refine G_get hC fl_Mo_47 h_70 rfl d_Mo_entry_196 ?_
                                refine G_aload_n hC 1 rfl rfl d_Mo_entry_199 ?_
                                refine G_get hC fl_Mo_73 h_70 rfl d_Mo_entry_200 ?_
                                have h_71 := fr_16.at h_4 (by decide)
                                have h_72 := fr_40.at h_71 (by decide)
                                have h_73 := fr_46.at h_72 (by decide)
                                have h_74 := fr_69.at h_73 (by simp only [List.mem_cons, List.not_mem_nil, or_false, not_or, not_false_eq_true]; try omega)
                                refine G_aald hC h_74 rfl (by omega) (by omega) (by rw [h_56]) d_Mo_entry_203 ?_
                                have h_75 := h_58.fr fr_16 (by simp only [List.mem_cons, List.not_mem_nil, or_false, not_or, not_false_eq_true]; try omega) (by simp only [List.mem_cons, List.not_mem_nil, or_false, not_or, not_false_eq_true]; try omega)
                                have h_76 := h_75.fr fr_40 (by simp only [List.mem_cons, List.not_mem_nil, or_false, not_or, not_false_eq_true]; try omega) (by simp only [List.mem_cons, List.not_mem_nil, or_false, not_or, not_false_eq_true]; try omega)
                                have h_77 := h_76.fr fr_46 (by simp only [List.mem_cons, List.not_mem_nil, or_false, not_or, not_false_eq_true]; try omega) (by simp only [List.mem_cons, List.not_mem_nil, or_false, not_or, not_false_eq_true]; try omega)
                                have h_78 := h_77.fr fr_69 (by simp only [List.mem_cons, List.not_mem_nil, or_false, not_or, not_false_eq_true]; try omega) (by simp only [List.mem_cons, List.not_mem_nil, or_false, not_or, not_false_eq_true]; try omega)
                                have g_82 := h_78.len
                                obtain ⟨r_79, h_80, h_81⟩ := id h_78
                                refine G_iconst (i := 0) hC d_Mo_entry_204 ?_
                                refine G_putX (fs' := [.ref r_79, vI 0]) hC fl_Mo_86 ft_Tx fw_Tx_1 h_80 rfl rfl (Nat.le_of_ble_eq_true rfl) rfl d_Mo_entry_205 (fun M_83 h_84 fr_85 => ?_)
                                have h_86 := h_81.fr fr_85 (by simp only [List.mem_cons, List.not_mem_nil, or_false, not_or, not_false_eq_true]; try omega)
                                have h_87 : IsT (eD E) M_83 u_52 (600 + 4 * (en : Int).toNat + 2) 700 ([] : List Int) := ⟨r_79, h_84, h_86.take 0⟩
                                refine G_iload hC 6 rfl d_Mo_entry_208 ?_
                                refine G_if_eq hC 234 (by decide) (by decide) d_Mo_entry_210 (fun c_88 => ?_) (fun c_88 => ?_)
                                · exact (show False from by omega).elim
                                · refine G_aload_n hC 1 rfl rfl d_Mo_entry_213 ?_
                                  have h_89 := fr_85.at h_70 (by simp only [List.mem_cons, List.not_mem_nil, or_false, not_or, not_false_eq_true]; try omega)
                                  refine G_get hC fl_Mo_47 h_89 rfl d_Mo_entry_214 ?_
                                  refine G_aload_n hC 1 rfl rfl d_Mo_entry_217 ?_
                                  refine G_get hC fl_Mo_73 h_89 rfl d_Mo_entry_218 ?_
                                  have h_90 := fr_85.at h_74 (by simp only [List.mem_cons, List.not_mem_nil, or_false, not_or, not_false_eq_true]; try omega)
                                  refine G_aald hC h_90 rfl (by omega) (by omega) (by rw [h_56]) d_Mo_entry_221 ?_
                                  refine G_aload_n hC 1 rfl rfl d_Mo_entry_222 ?_
                                  refine G_get hC fl_Mo_23 h_89 rfl d_Mo_entry_223 ?_
                                  refine G_iload hC 5 rfl d_Mo_entry_226 ?_
                                  refine G_iconst (i := 1) hC d_Mo_entry_228 ?_
                                  refine G_iadd hC d_Mo_entry_229 ?_
                                  refine G_iload_n hC 4 rfl rfl d_Mo_entry_230 ?_
                                  have h_91 := h_64.fr fr_69 (by simp only [List.mem_cons, List.not_mem_nil, or_false, not_or, not_false_eq_true]; try omega)
                                  have h_92 := h_91.fr fr_85 (by simp only [List.mem_cons, List.not_mem_nil, or_false, not_or, not_false_eq_true]; try omega)
                                  refine G_xV (rest := []) hC hR (c_Tx_set h_87 h_92 (by omega) (by omega) (by omega)) cv_Mo_82 h_87.obj (by decide) (by omega) (by omega) rfl rfl (Nat.le_of_ble_eq_true rfl) d_Mo_entry_231 (fun r_95 M_93 p_94 => ?_)
                                  obtain ⟨rfl, h_96, fr_97⟩ := p_94
                                  show G E M_93 (0 + 0 + 0 + 0) (0 + 0 + 0 + 0) [(6, vI z), (0, .ref a), (1, vI sort), (2, .int ad), (3, vI tm), (4, vI z), (5, vI 1)] [] 234
                                  refine G_aload_n hC 1 rfl rfl d_Mo_entry_234 ?_
                                  refine G_dup hC rfl d_Mo_entry_235 ?_
                                  have h_98 := fr_97.at h_89 (by simp only [List.mem_cons, List.not_mem_nil, or_false, not_or, not_false_eq_true]; try omega)
                                  refine G_get hC fl_Mo_73 h_98 rfl d_Mo_entry_236 ?_
                                  refine G_iconst (i := 1) hC d_Mo_entry_239 ?_
                                  refine G_iadd hC d_Mo_entry_240 ?_
                                  refine G_putX (fs' := [.ref tp, vI 0, vI (en + 1), .ref ou, .ref sa, .ref aa, .ref na, .ref va, .ref lo, .ref dm, .int fm, vI st, .ref tg, vI cn, vI vo, .ref pc, vI k0, vI s0, vI f0, vI o0, vI n0, .int w0]) hC fl_Mo_73 ft_Mo fw_Mo_2 h_98 rfl rfl (Nat.le_of_ble_eq_true rfl) rfl d_Mo_entry_241 (fun M_99 h_100 fr_101 => ?_)
                                  refine G_aload_n hC 1 rfl rfl d_Mo_entry_244 ?_
                                  refine G_get hC fl_Mo_73 h_100 rfl d_Mo_entry_245 ?_
                                  have h_102 := h_68.fr fr_85 (by simp only [List.mem_cons, List.not_mem_nil, or_false, not_or, not_false_eq_true]; try omega) (by simp only [List.mem_cons, List.not_mem_nil, or_false, not_or, not_false_eq_true]; try omega)
                                  have h_103 := h_102.fr fr_97 (by simp only [List.mem_cons, List.not_mem_nil, or_false, not_or, not_false_eq_true]; try omega) (by simp only [List.mem_cons, List.not_mem_nil, or_false, not_or, not_false_eq_true]; try omega)
                                  have h_104 := h_103.fr fr_101 (by simp only [List.mem_cons, List.not_mem_nil, or_false, not_or, not_false_eq_true]; try omega) (by simp only [List.mem_cons, List.not_mem_nil, or_false, not_or, not_false_eq_true]; try omega)
                                  have h_105 := h_96.fr fr_101 (by simp only [List.mem_cons, List.not_mem_nil, or_false, not_or, not_false_eq_true]; try omega) (by simp only [List.mem_cons, List.not_mem_nil, or_false, not_or, not_false_eq_true]; try omega)
                                  have hyes := ent_yes (es := es) (xs := xs) (sort := sort) (ad := ad) (ns := [] ++ (xs.drop (0 : Int).toNat).take (z - 0).toNat) (vs := [] ++ (xs.drop ((z + 1) : Int).toNat).take (tm - (z + 1)).toNat) (by omega) hz hgd (by rw [List.nil_append, sl_head]) (by rw [List.nil_append, sl_tail (e := tm) (by omega) htm, show min (z + 1) (xs.length : Int) = z + 1 by omega])
                                  have hfrz : Fr [500, 504, 505, 600 + 4 * en.toNat, 600 + 4 * en.toNat + 1, 600 + 4 * en.toNat + 2, 600 + 4 * en.toNat + 2 + 1] M M_99 := (((((((fr_16.up (T := [500, 504, 505, 600 + 4 * en.toNat, 600 + 4 * en.toNat + 1, 600 + 4 * en.toNat + 2, 600 + 4 * en.toNat + 2 + 1]) (by simp)).tr' (T := [500, 504, 505, 600 + 4 * en.toNat, 600 + 4 * en.toNat + 1, 600 + 4 * en.toNat + 2, 600 + 4 * en.toNat + 2 + 1]) fr_40 (fun _ z => z) (by simp)).tr' (T := [500, 504, 505, 600 + 4 * en.toNat, 600 + 4 * en.toNat + 1, 600 + 4 * en.toNat + 2, 600 + 4 * en.toNat + 2 + 1]) fr_46 (fun _ z => z) (by simp)).tr' (T := [500, 504, 505, 600 + 4 * en.toNat, 600 + 4 * en.toNat + 1, 600 + 4 * en.toNat + 2, 600 + 4 * en.toNat + 2 + 1]) fr_69 (fun _ z => z) (by simp)).tr' (T := [500, 504, 505, 600 + 4 * en.toNat, 600 + 4 * en.toNat + 1, 600 + 4 * en.toNat + 2, 600 + 4 * en.toNat + 2 + 1]) fr_85 (fun _ z => z) (by simp)).tr' (T := [500, 504, 505, 600 + 4 * en.toNat, 600 + 4 * en.toNat + 1, 600 + 4 * en.toNat + 2, 600 + 4 * en.toNat + 2 + 1]) fr_97 (fun _ z => z) (by simp)).tr' (T := [500, 504, 505, 600 + 4 * en.toNat, 600 + 4 * en.toNat + 1, 600 + 4 * en.toNat + 2, 600 + 4 * en.toNat + 2 + 1]) fr_101 (fun _ z => z) (by simp))
                                  have h_106 := fr_46.at h_39 (by decide)
                                  have h_107 := fr_69.at h_106 (by simp only [List.mem_cons, List.not_mem_nil, or_false, not_or, not_false_eq_true]; try omega)
                                  have h_108 := fr_85.at h_107 (by simp only [List.mem_cons, List.not_mem_nil, or_false, not_or, not_false_eq_true]; try omega)
                                  have h_109 := fr_97.at h_108 (by simp only [List.mem_cons, List.not_mem_nil, or_false, not_or, not_false_eq_true]; try omega)
                                  have h_110 := fr_101.at h_109 (by decide)
                                  have h_111 := fr_69.at h_45 (by simp only [List.mem_cons, List.not_mem_nil, or_false, not_or, not_false_eq_true]; try omega)
                                  have h_112 := fr_85.at h_111 (by simp only [List.mem_cons, List.not_mem_nil, or_false, not_or, not_false_eq_true]; try omega)
                                  have h_113 := fr_97.at h_112 (by simp only [List.mem_cons, List.not_mem_nil, or_false, not_or, not_false_eq_true]; try omega)
                                  have h_114 := fr_101.at h_113 (by decide)
                                  have h_115 := fr_69.at h_50 (by simp only [List.mem_cons, List.not_mem_nil, or_false, not_or, not_false_eq_true]; try omega)
                                  have h_116 := fr_85.at h_115 (by simp only [List.mem_cons, List.not_mem_nil, or_false, not_or, not_false_eq_true]; try omega)
                                  have h_117 := fr_97.at h_116 (by simp only [List.mem_cons, List.not_mem_nil, or_false, not_or, not_false_eq_true]; try omega)
                                  have h_118 := fr_101.at h_117 (by decide)
                                  have h_119 := fr_97.at h_90 (by simp only [List.mem_cons, List.not_mem_nil, or_false, not_or, not_false_eq_true]; try omega)
                                  have h_120 := fr_101.at h_119 (by decide)
                                  have hmd9 := IsMd_push h_118 h_120 h_6 h_7 hfrz (by intro v hv; simp only [List.mem_cons, List.not_mem_nil, or_false] at hv; omega) (by rw [← hen9]; exact h_110) (by rw [← hen9]; exact h_114) (by rw [← hen9]; exact h_55) (by rw [← hen9]; exact h_56) (by rw [← hen9]; exact h_104) (by rw [← hen9]; exact h_105) (by omega) (show 0 ≤ sort ∧ sort ≤ 3 by omega)
                                  have hln : (((es ++ [(sort, ad, [] ++ (xs.drop (0 : Int).toNat).take (z - 0).toNat, [] ++ (xs.drop ((z + 1) : Int).toNat).take (tm - (z + 1)).toNat)]).length : Nat) : Int) = en + 1 := by rw [List.length_append, List.length_singleton]; omega
                                  exact G_iretX hC hQ (by omega) (by omega) d_Mo_entry_248 ⟨by rw [if_neg (by omega), if_pos hyes.1, hyes.2, hln], by rw [hyes.2, hln]; exact h_100, by rw [hyes.2]; exact hmd9, hfrz⟩
                              · refine G_iconst (i := (-1)) hC d_Mo_entry_154 ?_
                                have hno := ent_no (es := es) (xs := xs) (sort := sort) (ad := ad) (by rw [hz]; exact (fun y => by rcases y.2 with y | y | y <;> omega))
                                have h_121 := h_Md_sa.fr fr_16 (by intro u hu; simp only [List.mem_cons, List.not_mem_nil, or_false] at hu <;> omega)
                                exact G_iretX hC hQ (by omega) (by omega) d_Mo_entry_155 ⟨by rw [if_neg (by omega), if_neg (nt hno.1)], by rw [hno.2, ← hen]; exact h_15, by rw [hno.2]; exact h_121, (fr_16.up (T := [500, 504, 505, 600 + 4 * en.toNat, 600 + 4 * en.toNat + 1, 600 + 4 * en.toNat + 2, 600 + 4 * en.toNat + 2 + 1]) (by simp))⟩
                          · exact (show False from by omega).elim
                        · have c_33 := b2i_eq0.mp c_33
                          refine G_iconst (i := (-1)) hC d_Mo_entry_116 ?_
                          have hno := ent_no (es := es) (xs := xs) (sort := sort) (ad := ad) (by rw [hz]; exact (fun y => nt c_33 y.1))
                          have h_122 := h_Md_sa.fr fr_16 (by intro u hu; simp only [List.mem_cons, List.not_mem_nil, or_false] at hu <;> omega)
                          exact G_iretX hC hQ (by omega) (by omega) d_Mo_entry_117 ⟨by rw [if_neg (by omega), if_neg (nt hno.1)], by rw [hno.2, ← hen]; exact h_15, by rw [hno.2]; exact h_122, (fr_16.up (T := [500, 504, 505, 600 + 4 * en.toNat, 600 + 4 * en.toNat + 1, 600 + 4 * en.toNat + 2, 600 + 4 * en.toNat + 2 + 1]) (by simp))⟩
                · refine G_iinc (lv' := [(4, vI (b + 1)), (0, .ref a), (1, vI sort), (2, .int ad), (3, vI tm), (5, vI 1)]) hC 4 rfl (by rw [hN]; decide) rfl d_Mo_entry_73 ?_
                  refine G_goto hC 50 (by decide) d_Mo_entry_76 ?_
                  refine G_lv [1, 2, 3, 4, 0, 5] rfl ?_
                  exact ih50 (b + 1) (by omega) (by omega) (by rw [findS] at hf; (repeat' split at hf); all_goals first | exact hf | (exfalso; omega) | omega)
        refine G_lv [3, 4, 5, 2, 1, 0] rfl ?_
        exact L50 _ 0 (Nat.lt_succ_self _) (by omega) hz
      · refine G_iload_n hC 3 rfl rfl d_Mo_entry_38 ?_
        refine G_iconst (i := 2) hC d_Mo_entry_39 ?_
        refine G_icmp_ne hC 47 (by omega) (by decide) (by decide) d_Mo_entry_40 (fun c_123 => ?_) (fun c_123 => ?_)
        · refine G_iconst (i := 0) hC d_Mo_entry_47 ?_
          refine G_istore (lv' := [(5, vI 0), (4, vI 0), (3, vI tm), (0, .ref a), (1, vI sort), (2, .int ad)]) hC (by rw [hN]; decide) rfl d_Mo_entry_48 ?_
          refine G_iload hC 0 rfl d_Mo_entry_50 ?_
          refine G_if_eq hC 79 (by decide) (by decide) d_Mo_entry_52 (fun c_124 => ?_) (fun c_124 => ?_)
          · refine G_iload hC 0 rfl d_Mo_entry_79 ?_
            refine G_if_eq hC 89 (by decide) (by decide) d_Mo_entry_81 (fun c_125 => ?_) (fun c_125 => ?_)
            · refine G_iload_n hC 2 rfl rfl d_Mo_entry_89 ?_
              refine G_istore (lv' := [(6, vI tm), (5, vI 0), (4, vI 0), (3, vI tm), (0, .ref a), (1, vI sort), (2, .int ad)]) hC (by rw [hN]; decide) rfl d_Mo_entry_90 ?_
              refine G_iload hC 1 rfl d_Mo_entry_92 ?_
              refine G_if_eq hC 103 (by decide) (by decide) d_Mo_entry_94 (fun c_126 => ?_) (fun c_126 => ?_)
              · refine G_aload_n hC 4 rfl rfl d_Mo_entry_103 ?_
                refine G_get hC fl_Mo_23 h_15 rfl d_Mo_entry_104 ?_
                refine G_iconst (i := 0) hC d_Mo_entry_107 ?_
                refine G_iload hC 0 rfl d_Mo_entry_108 ?_
                have h_127 := h_row_tp.fr fr_16 (by decide)
                refine G_pS (rest := []) hC hR (c_Tx_isName h_127 (by omega) (by omega) rfl) cs_Mo_78 (by decide) (by omega) (by omega) rfl rfl (Nat.le_of_ble_eq_true rfl) d_Mo_entry_110 ?_
                refine G_if_ne hC 118 (by have := b2i_rng (nameS xs 0 tm); omega) (by decide) d_Mo_entry_113 (fun c_128 => ?_) (fun c_128 => ?_)
                · have c_128 := b2i_ne0.mp c_128
                  have hnm : nameS xs 0 xs.length = true := by rw [← htm]; exact c_128
                  have hzl : z = xs.length := hz.symm.trans (name_blk hnm)
                  have hnl := nameL_ne hnm
                  refine G_iload_n hC 5 rfl rfl d_Mo_entry_118 ?_
                  refine G_iconst (i := 2) hC d_Mo_entry_119 ?_
                  refine G_icmp_ne hC 138 (by omega) (by decide) (by decide) d_Mo_entry_120 (fun c_129 => ?_) (fun c_129 => ?_)
                  · refine G_iload_n hC 5 rfl rfl d_Mo_entry_138 ?_
                    refine G_if_ne hC 156 (by omega) (by decide) d_Mo_entry_139 (fun c_130 => ?_) (fun c_130 => ?_)
                    · have hen9 : en.toNat = es.length := by omega
                      have hgd : goodP xs sort z := ⟨by rw [hzl]; exact hnm, Or.inr (Or.inr ⟨by omega, hzl⟩)⟩
                      refine G_aload_n hC 4 rfl rfl d_Mo_entry_156 ?_
                      refine G_get hC fl_Mo_36 h_15 rfl d_Mo_entry_157 ?_
                      refine G_aload_n hC 4 rfl rfl d_Mo_entry_160 ?_
                      refine G_get hC fl_Mo_73 h_15 rfl d_Mo_entry_161 ?_
                      refine G_iload_n hC 5 rfl rfl d_Mo_entry_164 ?_
                      have h_131 := fr_16.at h_1 (by decide)
                      refine G_iastX hC h_131 (by omega) (by omega) d_Mo_entry_165 (fun M_132 h_133 fr_134 => ?_)
                      refine G_aload_n hC 4 rfl rfl d_Mo_entry_166 ?_
                      have h_135 := fr_134.at h_15 (by decide)
                      refine G_get hC fl_Mo_40 h_135 rfl d_Mo_entry_167 ?_
                      refine G_aload_n hC 4 rfl rfl d_Mo_entry_170 ?_
                      refine G_get hC fl_Mo_73 h_135 rfl d_Mo_entry_171 ?_
                      refine G_iload_n hC 6 rfl rfl d_Mo_entry_174 ?_
                      refine G_X2I ?_
                      have h_136 := fr_16.at h_2 (by decide)
                      have h_137 := fr_134.at h_136 (by decide)
                      refine G_iastX hC h_137 (by omega) (by omega) d_Mo_entry_175 (fun M_138 h_139 fr_140 => ?_)
                      refine G_aload_n hC 4 rfl rfl d_Mo_entry_176 ?_
                      have h_141 := fr_140.at h_135 (by decide)
                      refine G_get hC fl_Mo_43 h_141 rfl d_Mo_entry_177 ?_
                      refine G_aload_n hC 4 rfl rfl d_Mo_entry_180 ?_
                      refine G_get hC fl_Mo_73 h_141 rfl d_Mo_entry_181 ?_
                      have h_142 := fr_16.at h_3 (by decide)
                      have h_143 := fr_134.at h_142 (by decide)
                      have h_144 := fr_140.at h_143 (by decide)
                      obtain ⟨t_145, u_146, ns_147, vs_148, h_149, h_150, h_151, h_152, h_153⟩ := h_7 (en : Int).toNat (by omega)
                      refine G_aald hC h_144 rfl (by omega) (by omega) (by rw [h_149]) d_Mo_entry_184 ?_
                      refine G_aload_n hC 4 rfl rfl d_Mo_entry_185 ?_
                      refine G_get hC fl_Mo_23 h_141 rfl d_Mo_entry_186 ?_
                      refine G_iconst (i := 0) hC d_Mo_entry_189 ?_
                      refine G_iload hC 0 rfl d_Mo_entry_190 ?_
                      have h_154 := h_151.fr fr_16 (by simp only [List.mem_cons, List.not_mem_nil, or_false, not_or, not_false_eq_true]; try omega) (by simp only [List.mem_cons, List.not_mem_nil, or_false, not_or, not_false_eq_true]; try omega)
                      have h_155 := h_154.fr fr_134 (by simp only [List.mem_cons, List.not_mem_nil, or_false, not_or, not_false_eq_true]; try omega) (by simp only [List.mem_cons, List.not_mem_nil, or_false, not_or, not_false_eq_true]; try omega)
                      have h_156 := h_155.fr fr_140 (by simp only [List.mem_cons, List.not_mem_nil, or_false, not_or, not_false_eq_true]; try omega) (by simp only [List.mem_cons, List.not_mem_nil, or_false, not_or, not_false_eq_true]; try omega)
                      have h_157 := h_127.fr fr_134 (by decide)
                      have h_158 := h_157.fr fr_140 (by decide)
                      refine G_xV (rest := []) hC hR (c_Tx_set h_156 h_158 (by omega) (by omega) (by omega)) cv_Mo_82 h_156.obj (by decide) (by omega) (by omega) rfl rfl (Nat.le_of_ble_eq_true rfl) d_Mo_entry_192 (fun r_161 M_159 p_160 => ?_)
                      obtain ⟨rfl, h_162, fr_163⟩ := p_160
                      show G E M_159 (0 + 0 + 0) (0 + 0 + 0) [(6, vI tm), (5, vI 0), (4, vI 0), (3, vI tm), (0, .ref a), (1, vI sort), (2, .int ad)] [] 195
                      refine G_aload_n hC 4 rfl rfl d_Mo_entry_195 ?_
                      have h_164 := fr_163.at h_141 (by simp only [List.mem_cons, List.not_mem_nil, or_false, not_or, not_false_eq_true]; try omega)
                      refine G_get hC fl_Mo_47 h_164 rfl d_Mo_entry_196 ?_
                      refine G_aload_n hC 4 rfl rfl d_Mo_entry_199 ?_
                      refine G_get hC fl_Mo_73 h_164 rfl d_Mo_entry_200 ?_
                      have h_165 := fr_16.at h_4 (by decide)
                      have h_166 := fr_134.at h_165 (by decide)
                      have h_167 := fr_140.at h_166 (by decide)
                      have h_168 := fr_163.at h_167 (by simp only [List.mem_cons, List.not_mem_nil, or_false, not_or, not_false_eq_true]; try omega)
                      refine G_aald hC h_168 rfl (by omega) (by omega) (by rw [h_150]) d_Mo_entry_203 ?_
                      have h_169 := h_152.fr fr_16 (by simp only [List.mem_cons, List.not_mem_nil, or_false, not_or, not_false_eq_true]; try omega) (by simp only [List.mem_cons, List.not_mem_nil, or_false, not_or, not_false_eq_true]; try omega)
                      have h_170 := h_169.fr fr_134 (by simp only [List.mem_cons, List.not_mem_nil, or_false, not_or, not_false_eq_true]; try omega) (by simp only [List.mem_cons, List.not_mem_nil, or_false, not_or, not_false_eq_true]; try omega)
                      have h_171 := h_170.fr fr_140 (by simp only [List.mem_cons, List.not_mem_nil, or_false, not_or, not_false_eq_true]; try omega) (by simp only [List.mem_cons, List.not_mem_nil, or_false, not_or, not_false_eq_true]; try omega)
                      have h_172 := h_171.fr fr_163 (by simp only [List.mem_cons, List.not_mem_nil, or_false, not_or, not_false_eq_true]; try omega) (by simp only [List.mem_cons, List.not_mem_nil, or_false, not_or, not_false_eq_true]; try omega)
                      have g_176 := h_172.len
                      obtain ⟨r_173, h_174, h_175⟩ := id h_172
                      refine G_iconst (i := 0) hC d_Mo_entry_204 ?_
                      refine G_putX (fs' := [.ref r_173, vI 0]) hC fl_Mo_86 ft_Tx fw_Tx_1 h_174 rfl rfl (Nat.le_of_ble_eq_true rfl) rfl d_Mo_entry_205 (fun M_177 h_178 fr_179 => ?_)
                      have h_180 := h_175.fr fr_179 (by simp only [List.mem_cons, List.not_mem_nil, or_false, not_or, not_false_eq_true]; try omega)
                      have h_181 : IsT (eD E) M_177 u_146 (600 + 4 * (en : Int).toNat + 2) 700 ([] : List Int) := ⟨r_173, h_178, h_180.take 0⟩
                      refine G_iload hC 1 rfl d_Mo_entry_208 ?_
                      refine G_if_eq hC 234 (by decide) (by decide) d_Mo_entry_210 (fun c_182 => ?_) (fun c_182 => ?_)
                      · refine G_aload_n hC 4 rfl rfl d_Mo_entry_234 ?_
                        refine G_dup hC rfl d_Mo_entry_235 ?_
                        have h_183 := fr_179.at h_164 (by simp only [List.mem_cons, List.not_mem_nil, or_false, not_or, not_false_eq_true]; try omega)
                        refine G_get hC fl_Mo_73 h_183 rfl d_Mo_entry_236 ?_
                        refine G_iconst (i := 1) hC d_Mo_entry_239 ?_
                        refine G_iadd hC d_Mo_entry_240 ?_
                        refine G_putX (fs' := [.ref tp, vI 0, vI (en + 1), .ref ou, .ref sa, .ref aa, .ref na, .ref va, .ref lo, .ref dm, .int fm, vI st, .ref tg, vI cn, vI vo, .ref pc, vI k0, vI s0, vI f0, vI o0, vI n0, .int w0]) hC fl_Mo_73 ft_Mo fw_Mo_2 h_183 rfl rfl (Nat.le_of_ble_eq_true rfl) rfl d_Mo_entry_241 (fun M_184 h_185 fr_186 => ?_)
                        refine G_aload_n hC 4 rfl rfl d_Mo_entry_244 ?_
                        refine G_get hC fl_Mo_73 h_185 rfl d_Mo_entry_245 ?_
                        have h_187 := h_162.fr fr_179 (by simp only [List.mem_cons, List.not_mem_nil, or_false, not_or, not_false_eq_true]; try omega) (by simp only [List.mem_cons, List.not_mem_nil, or_false, not_or, not_false_eq_true]; try omega)
                        have h_188 := h_187.fr fr_186 (by simp only [List.mem_cons, List.not_mem_nil, or_false, not_or, not_false_eq_true]; try omega) (by simp only [List.mem_cons, List.not_mem_nil, or_false, not_or, not_false_eq_true]; try omega)
                        have h_189 := h_181.fr fr_186 (by simp only [List.mem_cons, List.not_mem_nil, or_false, not_or, not_false_eq_true]; try omega) (by simp only [List.mem_cons, List.not_mem_nil, or_false, not_or, not_false_eq_true]; try omega)
                        have hyes := ent_yes (es := es) (xs := xs) (sort := sort) (ad := ad) (ns := [] ++ (xs.drop (0 : Int).toNat).take (tm - 0).toNat) (vs := ([] : List Int)) (by omega) hz hgd (by rw [List.nil_append, sl_head, htm, hzl]) ((List.drop_eq_nil_of_le (by omega)).symm)
                        have hfrz : Fr [500, 504, 505, 600 + 4 * en.toNat, 600 + 4 * en.toNat + 1, 600 + 4 * en.toNat + 2, 600 + 4 * en.toNat + 2 + 1] M M_184 := ((((((fr_16.up (T := [500, 504, 505, 600 + 4 * en.toNat, 600 + 4 * en.toNat + 1, 600 + 4 * en.toNat + 2, 600 + 4 * en.toNat + 2 + 1]) (by simp)).tr' (T := [500, 504, 505, 600 + 4 * en.toNat, 600 + 4 * en.toNat + 1, 600 + 4 * en.toNat + 2, 600 + 4 * en.toNat + 2 + 1]) fr_134 (fun _ z => z) (by simp)).tr' (T := [500, 504, 505, 600 + 4 * en.toNat, 600 + 4 * en.toNat + 1, 600 + 4 * en.toNat + 2, 600 + 4 * en.toNat + 2 + 1]) fr_140 (fun _ z => z) (by simp)).tr' (T := [500, 504, 505, 600 + 4 * en.toNat, 600 + 4 * en.toNat + 1, 600 + 4 * en.toNat + 2, 600 + 4 * en.toNat + 2 + 1]) fr_163 (fun _ z => z) (by simp)).tr' (T := [500, 504, 505, 600 + 4 * en.toNat, 600 + 4 * en.toNat + 1, 600 + 4 * en.toNat + 2, 600 + 4 * en.toNat + 2 + 1]) fr_179 (fun _ z => z) (by simp)).tr' (T := [500, 504, 505, 600 + 4 * en.toNat, 600 + 4 * en.toNat + 1, 600 + 4 * en.toNat + 2, 600 + 4 * en.toNat + 2 + 1]) fr_186 (fun _ z => z) (by simp))
                        have h_190 := fr_140.at h_133 (by decide)
                        have h_191 := fr_163.at h_190 (by simp only [List.mem_cons, List.not_mem_nil, or_false, not_or, not_false_eq_true]; try omega)
                        have h_192 := fr_179.at h_191 (by simp only [List.mem_cons, List.not_mem_nil, or_false, not_or, not_false_eq_true]; try omega)
                        have h_193 := fr_186.at h_192 (by decide)
                        have h_194 := fr_163.at h_139 (by simp only [List.mem_cons, List.not_mem_nil, or_false, not_or, not_false_eq_true]; try omega)
                        have h_195 := fr_179.at h_194 (by simp only [List.mem_cons, List.not_mem_nil, or_false, not_or, not_false_eq_true]; try omega)
                        have h_196 := fr_186.at h_195 (by decide)
                        have h_197 := fr_163.at h_144 (by simp only [List.mem_cons, List.not_mem_nil, or_false, not_or, not_false_eq_true]; try omega)
                        have h_198 := fr_179.at h_197 (by simp only [List.mem_cons, List.not_mem_nil, or_false, not_or, not_false_eq_true]; try omega)
                        have h_199 := fr_186.at h_198 (by decide)
                        have h_200 := fr_179.at h_168 (by simp only [List.mem_cons, List.not_mem_nil, or_false, not_or, not_false_eq_true]; try omega)
                        have h_201 := fr_186.at h_200 (by decide)
                        have hmd9 := IsMd_push h_199 h_201 h_6 h_7 hfrz (by intro v hv; simp only [List.mem_cons, List.not_mem_nil, or_false] at hv; omega) (by rw [← hen9]; exact h_193) (by rw [← hen9]; exact h_196) (by rw [← hen9]; exact h_149) (by rw [← hen9]; exact h_150) (by rw [← hen9]; exact h_188) (by rw [← hen9]; exact h_189) (by omega) (show 0 ≤ sort ∧ sort ≤ 3 by omega)
                        have hln : (((es ++ [(sort, ad, [] ++ (xs.drop (0 : Int).toNat).take (tm - 0).toNat, ([] : List Int))]).length : Nat) : Int) = en + 1 := by rw [List.length_append, List.length_singleton]; omega
                        exact G_iretX hC hQ (by omega) (by omega) d_Mo_entry_248 ⟨by rw [if_neg (by omega), if_pos hyes.1, hyes.2, hln], by rw [hyes.2, hln]; exact h_185, by rw [hyes.2]; exact hmd9, hfrz⟩
                      · exact (show False from by omega).elim
                    · exact (show False from by omega).elim
                  · exact (show False from by omega).elim
                · have c_128 := b2i_eq0.mp c_128
                  refine G_iconst (i := (-1)) hC d_Mo_entry_116 ?_
                  have hno := ent_no (es := es) (xs := xs) (sort := sort) (ad := ad) (by rw [hz]; exact (fun y => by have y1 := y.1; rcases y.2 with y | y | y; omega; omega; (rw [y.2, ← htm] at y1; exact nt c_128 y1)))
                  have h_202 := h_Md_sa.fr fr_16 (by intro u hu; simp only [List.mem_cons, List.not_mem_nil, or_false] at hu <;> omega)
                  exact G_iretX hC hQ (by omega) (by omega) d_Mo_entry_117 ⟨by rw [if_neg (by omega), if_neg (nt hno.1)], by rw [hno.2, ← hen]; exact h_15, by rw [hno.2]; exact h_202, (fr_16.up (T := [500, 504, 505, 600 + 4 * en.toNat, 600 + 4 * en.toNat + 1, 600 + 4 * en.toNat + 2, 600 + 4 * en.toNat + 2 + 1]) (by simp))⟩
              · exact (show False from by omega).elim
            · exact (show False from by omega).elim
          · exact (show False from by omega).elim
        · refine G_iconst (i := 1) hC d_Mo_entry_43 ?_
          refine G_goto hC 48 (by decide) d_Mo_entry_44 ?_
          refine G_istore (lv' := [(5, vI 1), (4, vI 0), (3, vI tm), (0, .ref a), (1, vI sort), (2, .int ad)]) hC (by rw [hN]; decide) rfl d_Mo_entry_48 ?_
          have L50 : ∀ (N : Nat) (b : Int), (tm - b).toNat < N → (0 ≤ b ∧ b ≤ tm) → (findS xs 32 b (xs.length : Int) = z) → G E M_12 (0 + 0) (0 + 0) [(0, .ref a), (1, vI sort), (2, .int ad), (3, vI tm), (4, vI b), (5, vI 1)] [] 50 := by
            intro N
            induction N with
            | zero => intro b hN50 hb hf; exact absurd hN50 (Nat.not_lt_zero _)
            | succ N ih50 =>
              intro b hN50 hb hf
              refine G_iload hC 5 rfl d_Mo_entry_50 ?_
              refine G_if_eq hC 79 (by decide) (by decide) d_Mo_entry_52 (fun c_203 => ?_) (fun c_203 => ?_)
              · exact (show False from by omega).elim
              · refine G_iload hC 4 rfl d_Mo_entry_55 ?_
                refine G_iload_n hC 3 rfl rfl d_Mo_entry_57 ?_
                refine G_icmp_ge hC 79 (by omega) (by omega) (by decide) d_Mo_entry_58 (fun c_204 => ?_) (fun c_204 => ?_)
                · have hzb : z = b := by rw [findS] at hf; (repeat' split at hf); all_goals first | omega | (exfalso; omega)
                  subst hzb
                  refine G_iload hC 5 rfl d_Mo_entry_79 ?_
                  refine G_if_eq hC 89 (by decide) (by decide) d_Mo_entry_81 (fun c_205 => ?_) (fun c_205 => ?_)
                  · exact (show False from by omega).elim
                  · refine G_iload hC 4 rfl d_Mo_entry_84 ?_
                    refine G_goto hC 90 (by decide) d_Mo_entry_86 ?_
                    refine G_istore (lv' := [(6, vI z), (0, .ref a), (1, vI sort), (2, .int ad), (3, vI tm), (4, vI z), (5, vI 1)]) hC (by rw [hN]; decide) rfl d_Mo_entry_90 ?_
                    refine G_iload hC 6 rfl d_Mo_entry_92 ?_
                    refine G_if_eq hC 103 (by decide) (by decide) d_Mo_entry_94 (fun c_206 => ?_) (fun c_206 => ?_)
                    · exact (show False from by omega).elim
                    · refine G_iload hC 5 rfl d_Mo_entry_97 ?_
                      refine G_iload_n hC 4 rfl rfl d_Mo_entry_99 ?_
                      refine G_icmp_eq hC 116 (by omega) (by omega) (by decide) d_Mo_entry_100 (fun c_207 => ?_) (fun c_207 => ?_)
                      · refine G_iconst (i := (-1)) hC d_Mo_entry_116 ?_
                        have hno := ent_no (es := es) (xs := xs) (sort := sort) (ad := ad) (by rw [hz]; exact (fun y => by rcases y.2 with y | y | y <;> omega))
                        have h_208 := h_Md_sa.fr fr_16 (by intro u hu; simp only [List.mem_cons, List.not_mem_nil, or_false] at hu <;> omega)
                        exact G_iretX hC hQ (by omega) (by omega) d_Mo_entry_117 ⟨by rw [if_neg (by omega), if_neg (nt hno.1)], by rw [hno.2, ← hen]; exact h_15, by rw [hno.2]; exact h_208, (fr_16.up (T := [500, 504, 505, 600 + 4 * en.toNat, 600 + 4 * en.toNat + 1, 600 + 4 * en.toNat + 2, 600 + 4 * en.toNat + 2 + 1]) (by simp))⟩
                      · exact (show False from by omega).elim
                · refine G_aload_n hC 0 rfl rfl d_Mo_entry_61 ?_
                  refine G_get hC fl_Mo_23 h_15 rfl d_Mo_entry_62 ?_
                  refine G_iload hC 4 rfl d_Mo_entry_65 ?_
                  have h_209 := h_row_tp.fr fr_16 (by decide)
                  refine G_baldR hC h_209 (by omega) d_Mo_entry_67 ?_
                  have g_210 := h_209.rng b
                  have g_211 := atS_gx (xs := xs) (i := b) (by omega)
                  refine G_bipush (j := 32) hC (by decide +kernel) d_Mo_entry_68 ?_
                  refine G_icmp_eq hC 79 (by omega) (by decide) (by decide) d_Mo_entry_70 (fun c_212 => ?_) (fun c_212 => ?_)
                  · have hzb : z = b := by rw [findS] at hf; (repeat' split at hf); all_goals first | omega | (exfalso; omega)
                    subst hzb
                    refine G_iload hC 5 rfl d_Mo_entry_79 ?_
                    refine G_if_eq hC 89 (by decide) (by decide) d_Mo_entry_81 (fun c_213 => ?_) (fun c_213 => ?_)
                    · exact (show False from by omega).elim
                    · refine G_iload hC 4 rfl d_Mo_entry_84 ?_
                      refine G_goto hC 90 (by decide) d_Mo_entry_86 ?_
                      refine G_istore (lv' := [(6, vI z), (0, .ref a), (1, vI sort), (2, .int ad), (3, vI tm), (4, vI z), (5, vI 1)]) hC (by rw [hN]; decide) rfl d_Mo_entry_90 ?_
                      refine G_iload hC 6 rfl d_Mo_entry_92 ?_
                      refine G_if_eq hC 103 (by decide) (by decide) d_Mo_entry_94 (fun c_214 => ?_) (fun c_214 => ?_)
                      · exact (show False from by omega).elim
                      · refine G_iload hC 5 rfl d_Mo_entry_97 ?_
                        refine G_iload_n hC 4 rfl rfl d_Mo_entry_99 ?_
                        refine G_icmp_eq hC 116 (by omega) (by omega) (by decide) d_Mo_entry_100 (fun c_215 => ?_) (fun c_215 => ?_)
                        · exact (show False from by omega).elim
                        · refine G_aload_n hC 1 rfl rfl d_Mo_entry_103 ?_
                          refine G_get hC fl_Mo_23 h_15 rfl d_Mo_entry_104 ?_
                          refine G_iconst (i := 0) hC d_Mo_entry_107 ?_
                          refine G_iload hC 0 rfl d_Mo_entry_108 ?_
                          refine G_pS (rest := []) hC hR (c_Tx_isName h_209 (by omega) (by omega) rfl) cs_Mo_78 (by decide) (by omega) (by omega) rfl rfl (Nat.le_of_ble_eq_true rfl) d_Mo_entry_110 ?_
                          refine G_if_ne hC 118 (by have := b2i_rng (nameS xs 0 z); omega) (by decide) d_Mo_entry_113 (fun c_216 => ?_) (fun c_216 => ?_)
                          · have c_216 := b2i_ne0.mp c_216
                            have hnm := c_216
                            have hnl := nameL_ne hnm
                            refine G_iload_n hC 2 rfl rfl d_Mo_entry_118 ?_
                            refine G_iconst (i := 2) hC d_Mo_entry_119 ?_
                            refine G_icmp_ne hC 138 (by omega) (by decide) (by decide) d_Mo_entry_120 (fun c_217 => ?_) (fun c_217 => ?_)
                            · exact (show False from by omega).elim
                            · refine G_aload_n hC 1 rfl rfl d_Mo_entry_123 ?_
                              refine G_get hC fl_Mo_23 h_15 rfl d_Mo_entry_124 ?_
                              refine G_iload hC 5 rfl d_Mo_entry_127 ?_
                              refine G_iconst (i := 1) hC d_Mo_entry_129 ?_
                              refine G_iadd hC d_Mo_entry_130 ?_
                              refine G_iload_n hC 4 rfl rfl d_Mo_entry_131 ?_
                              refine G_pS (rest := []) hC hR (c_Tx_isName h_209 (by omega) (by omega) rfl) cs_Mo_78 (by decide) (by omega) (by omega) rfl rfl (Nat.le_of_ble_eq_true rfl) d_Mo_entry_132 ?_
                              refine G_if_eq hC 154 (by have := b2i_rng (nameS xs (z + 1) tm); omega) (by decide) d_Mo_entry_135 (fun c_218 => ?_) (fun c_218 => ?_)
                              · have c_218 := b2i_eq0.mp c_218
                                refine G_iconst (i := (-1)) hC d_Mo_entry_154 ?_
                                have hno := ent_no (es := es) (xs := xs) (sort := sort) (ad := ad) (by rw [hz]; exact (fun y => by rcases y.2 with y | y | y; omega; (have y1 := y.2.2; rw [← htm] at y1; exact nt c_218 y1); omega))
                                have h_219 := h_Md_sa.fr fr_16 (by intro u hu; simp only [List.mem_cons, List.not_mem_nil, or_false] at hu <;> omega)
                                exact G_iretX hC hQ (by omega) (by omega) d_Mo_entry_155 ⟨by rw [if_neg (by omega), if_neg (nt hno.1)], by rw [hno.2, ← hen]; exact h_15, by rw [hno.2]; exact h_219, (fr_16.up (T := [500, 504, 505, 600 + 4 * en.toNat, 600 + 4 * en.toNat + 1, 600 + 4 * en.toNat + 2, 600 + 4 * en.toNat + 2 + 1]) (by simp))⟩
                              · have c_218 := b2i_ne0.mp c_218
                                refine G_iload_n hC 2 rfl rfl d_Mo_entry_138 ?_
                                refine G_if_ne hC 156 (by omega) (by decide) d_Mo_entry_139 (fun c_220 => ?_) (fun c_220 => ?_)
                                · have hen9 : en.toNat = es.length := by omega
                                  have hnv : nameS xs (z + 1) xs.length = true := by rw [← htm]; exact c_218
                                  have hnl2 := nameL_ne hnv
                                  have hgd : goodP xs sort z := ⟨hnm, Or.inr (Or.inl ⟨by omega, by omega, hnv⟩)⟩
                                  refine G_aload_n hC 1 rfl rfl d_Mo_entry_156 ?_
                                  refine G_get hC fl_Mo_36 h_15 rfl d_Mo_entry_157 ?_
                                  refine G_aload_n hC 1 rfl rfl d_Mo_entry_160 ?_
                                  refine G_get hC fl_Mo_73 h_15 rfl d_Mo_entry_161 ?_
                                  refine G_iload_n hC 2 rfl rfl d_Mo_entry_164 ?_
                                  have h_221 := fr_16.at h_1 (by decide)
                                  refine G_iastX hC h_221 (by omega) (by omega) d_Mo_entry_165 (fun M_222 h_223 fr_224 => ?_)
                                  refine G_aload_n hC 1 rfl rfl d_Mo_entry_166 ?_
                                  have h_225 := fr_224.at h_15 (by decide)
                                  refine G_get hC fl_Mo_40 h_225 rfl d_Mo_entry_167 ?_
                                  refine G_aload_n hC 1 rfl rfl d_Mo_entry_170 ?_
                                  refine G_get hC fl_Mo_73 h_225 rfl d_Mo_entry_171 ?_
                                  refine G_iload_n hC 3 rfl rfl d_Mo_entry_174 ?_
                                  refine G_X2I ?_
                                  have h_226 := fr_16.at h_2 (by decide)
                                  have h_227 := fr_224.at h_226 (by decide)
                                  refine G_iastX hC h_227 (by omega) (by omega) d_Mo_entry_175 (fun M_228 h_229 fr_230 => ?_)
                                  refine G_aload_n hC 1 rfl rfl d_Mo_entry_176 ?_
                                  have h_231 := fr_230.at h_225 (by decide)
                                  refine G_get hC fl_Mo_43 h_231 rfl d_Mo_entry_177 ?_
                                  refine G_aload_n hC 1 rfl rfl d_Mo_entry_180 ?_
                                  refine G_get hC fl_Mo_73 h_231 rfl d_Mo_entry_181 ?_
                                  have h_232 := fr_16.at h_3 (by decide)
                                  have h_233 := fr_224.at h_232 (by decide)
                                  have h_234 := fr_230.at h_233 (by decide)
                                  obtain ⟨t_235, u_236, ns_237, vs_238, h_239, h_240, h_241, h_242, h_243⟩ := h_7 (en : Int).toNat (by omega)
                                  refine G_aald hC h_234 rfl (by omega) (by omega) (by rw [h_239]) d_Mo_entry_184 ?_
                                  refine G_aload_n hC 1 rfl rfl d_Mo_entry_185 ?_
                                  refine G_get hC fl_Mo_23 h_231 rfl d_Mo_entry_186 ?_
                                  refine G_iconst (i := 0) hC d_Mo_entry_189 ?_
                                  refine G_iload hC 0 rfl d_Mo_entry_190 ?_
                                  have h_244 := h_241.fr fr_16 (by simp only [List.mem_cons, List.not_mem_nil, or_false, not_or, not_false_eq_true]; try omega) (by simp only [List.mem_cons, List.not_mem_nil, or_false, not_or, not_false_eq_true]; try omega)
                                  have h_245 := h_244.fr fr_224 (by simp only [List.mem_cons, List.not_mem_nil, or_false, not_or, not_false_eq_true]; try omega) (by simp only [List.mem_cons, List.not_mem_nil, or_false, not_or, not_false_eq_true]; try omega)
                                  have h_246 := h_245.fr fr_230 (by simp only [List.mem_cons, List.not_mem_nil, or_false, not_or, not_false_eq_true]; try omega) (by simp only [List.mem_cons, List.not_mem_nil, or_false, not_or, not_false_eq_true]; try omega)
                                  have h_247 := h_209.fr fr_224 (by decide)
                                  have h_248 := h_247.fr fr_230 (by decide)
                                  refine G_xV (rest := []) hC hR (c_Tx_set h_246 h_248 (by omega) (by omega) (by omega)) cv_Mo_82 h_246.obj (by decide) (by omega) (by omega) rfl rfl (Nat.le_of_ble_eq_true rfl) d_Mo_entry_192 (fun r_251 M_249 p_250 => ?_)
                                  obtain ⟨rfl, h_252, fr_253⟩ := p_250
                                  show G E M_249 (0 + 0 + 0) (0 + 0 + 0) [(6, vI z), (0, .ref a), (1, vI sort), (2, .int ad), (3, vI tm), (4, vI z), (5, vI 1)] [] 195
                                  refine G_aload_n hC 1 rfl rfl d_Mo_entry_195 ?_
                                  have h_254 := fr_253.at h_231 (by simp only [List.mem_cons, List.not_mem_nil, or_false, not_or, not_false_eq_true]; try omega)
                                  refine G_get hC fl_Mo_47 h_254 rfl d_Mo_entry_196 ?_
                                  refine G_aload_n hC 1 rfl rfl d_Mo_entry_199 ?_
                                  refine G_get hC fl_Mo_73 h_254 rfl d_Mo_entry_200 ?_
                                  have h_255 := fr_16.at h_4 (by decide)
                                  have h_256 := fr_224.at h_255 (by decide)
                                  have h_257 := fr_230.at h_256 (by decide)
                                  have h_258 := fr_253.at h_257 (by simp only [List.mem_cons, List.not_mem_nil, or_false, not_or, not_false_eq_true]; try omega)
                                  refine G_aald hC h_258 rfl (by omega) (by omega) (by rw [h_240]) d_Mo_entry_203 ?_
                                  have h_259 := h_242.fr fr_16 (by simp only [List.mem_cons, List.not_mem_nil, or_false, not_or, not_false_eq_true]; try omega) (by simp only [List.mem_cons, List.not_mem_nil, or_false, not_or, not_false_eq_true]; try omega)
                                  have h_260 := h_259.fr fr_224 (by simp only [List.mem_cons, List.not_mem_nil, or_false, not_or, not_false_eq_true]; try omega) (by simp only [List.mem_cons, List.not_mem_nil, or_false, not_or, not_false_eq_true]; try omega)
                                  have h_261 := h_260.fr fr_230 (by simp only [List.mem_cons, List.not_mem_nil, or_false, not_or, not_false_eq_true]; try omega) (by simp only [List.mem_cons, List.not_mem_nil, or_false, not_or, not_false_eq_true]; try omega)
                                  have h_262 := h_261.fr fr_253 (by simp only [List.mem_cons, List.not_mem_nil, or_false, not_or, not_false_eq_true]; try omega) (by simp only [List.mem_cons, List.not_mem_nil, or_false, not_or, not_false_eq_true]; try omega)
                                  have g_266 := h_262.len
                                  obtain ⟨r_263, h_264, h_265⟩ := id h_262
                                  refine G_iconst (i := 0) hC d_Mo_entry_204 ?_
                                  refine G_putX (fs' := [.ref r_263, vI 0]) hC fl_Mo_86 ft_Tx fw_Tx_1 h_264 rfl rfl (Nat.le_of_ble_eq_true rfl) rfl d_Mo_entry_205 (fun M_267 h_268 fr_269 => ?_)
                                  have h_270 := h_265.fr fr_269 (by simp only [List.mem_cons, List.not_mem_nil, or_false, not_or, not_false_eq_true]; try omega)
                                  have h_271 : IsT (eD E) M_267 u_236 (600 + 4 * (en : Int).toNat + 2) 700 ([] : List Int) := ⟨r_263, h_268, h_270.take 0⟩
                                  refine G_iload hC 6 rfl d_Mo_entry_208 ?_
                                  refine G_if_eq hC 234 (by decide) (by decide) d_Mo_entry_210 (fun c_272 => ?_) (fun c_272 => ?_)
                                  · exact (show False from by omega).elim
                                  · refine G_aload_n hC 1 rfl rfl d_Mo_entry_213 ?_
                                    have h_273 := fr_269.at h_254 (by simp only [List.mem_cons, List.not_mem_nil, or_false, not_or, not_false_eq_true]; try omega)
                                    refine G_get hC fl_Mo_47 h_273 rfl d_Mo_entry_214 ?_
                                    refine G_aload_n hC 1 rfl rfl d_Mo_entry_217 ?_
                                    refine G_get hC fl_Mo_73 h_273 rfl d_Mo_entry_218 ?_
                                    have h_274 := fr_269.at h_258 (by simp only [List.mem_cons, List.not_mem_nil, or_false, not_or, not_false_eq_true]; try omega)
                                    refine G_aald hC h_274 rfl (by omega) (by omega) (by rw [h_240]) d_Mo_entry_221 ?_
                                    refine G_aload_n hC 1 rfl rfl d_Mo_entry_222 ?_
                                    refine G_get hC fl_Mo_23 h_273 rfl d_Mo_entry_223 ?_
                                    refine G_iload hC 5 rfl d_Mo_entry_226 ?_
                                    refine G_iconst (i := 1) hC d_Mo_entry_228 ?_
                                    refine G_iadd hC d_Mo_entry_229 ?_
                                    refine G_iload_n hC 4 rfl rfl d_Mo_entry_230 ?_
                                    have h_275 := h_248.fr fr_253 (by simp only [List.mem_cons, List.not_mem_nil, or_false, not_or, not_false_eq_true]; try omega)
                                    have h_276 := h_275.fr fr_269 (by simp only [List.mem_cons, List.not_mem_nil, or_false, not_or, not_false_eq_true]; try omega)
                                    refine G_xV (rest := []) hC hR (c_Tx_set h_271 h_276 (by omega) (by omega) (by omega)) cv_Mo_82 h_271.obj (by decide) (by omega) (by omega) rfl rfl (Nat.le_of_ble_eq_true rfl) d_Mo_entry_231 (fun r_279 M_277 p_278 => ?_)
                                    obtain ⟨rfl, h_280, fr_281⟩ := p_278
                                    show G E M_277 (0 + 0 + 0 + 0) (0 + 0 + 0 + 0) [(6, vI z), (0, .ref a), (1, vI sort), (2, .int ad), (3, vI tm), (4, vI z), (5, vI 1)] [] 234
                                    refine G_aload_n hC 1 rfl rfl d_Mo_entry_234 ?_
                                    refine G_dup hC rfl d_Mo_entry_235 ?_
                                    have h_282 := fr_281.at h_273 (by simp only [List.mem_cons, List.not_mem_nil, or_false, not_or, not_false_eq_true]; try omega)
                                    refine G_get hC fl_Mo_73 h_282 rfl d_Mo_entry_236 ?_
                                    refine G_iconst (i := 1) hC d_Mo_entry_239 ?_
                                    refine G_iadd hC d_Mo_entry_240 ?_
                                    refine G_putX (fs' := [.ref tp, vI 0, vI (en + 1), .ref ou, .ref sa, .ref aa, .ref na, .ref va, .ref lo, .ref dm, .int fm, vI st, .ref tg, vI cn, vI vo, .ref pc, vI k0, vI s0, vI f0, vI o0, vI n0, .int w0]) hC fl_Mo_73 ft_Mo fw_Mo_2 h_282 rfl rfl (Nat.le_of_ble_eq_true rfl) rfl d_Mo_entry_241 (fun M_283 h_284 fr_285 => ?_)
                                    refine G_aload_n hC 1 rfl rfl d_Mo_entry_244 ?_
                                    refine G_get hC fl_Mo_73 h_284 rfl d_Mo_entry_245 ?_
                                    have h_286 := h_252.fr fr_269 (by simp only [List.mem_cons, List.not_mem_nil, or_false, not_or, not_false_eq_true]; try omega) (by simp only [List.mem_cons, List.not_mem_nil, or_false, not_or, not_false_eq_true]; try omega)
                                    have h_287 := h_286.fr fr_281 (by simp only [List.mem_cons, List.not_mem_nil, or_false, not_or, not_false_eq_true]; try omega) (by simp only [List.mem_cons, List.not_mem_nil, or_false, not_or, not_false_eq_true]; try omega)
                                    have h_288 := h_287.fr fr_285 (by simp only [List.mem_cons, List.not_mem_nil, or_false, not_or, not_false_eq_true]; try omega) (by simp only [List.mem_cons, List.not_mem_nil, or_false, not_or, not_false_eq_true]; try omega)
                                    have h_289 := h_280.fr fr_285 (by simp only [List.mem_cons, List.not_mem_nil, or_false, not_or, not_false_eq_true]; try omega) (by simp only [List.mem_cons, List.not_mem_nil, or_false, not_or, not_false_eq_true]; try omega)
                                    have hyes := ent_yes (es := es) (xs := xs) (sort := sort) (ad := ad) (ns := [] ++ (xs.drop (0 : Int).toNat).take (z - 0).toNat) (vs := [] ++ (xs.drop ((z + 1) : Int).toNat).take (tm - (z + 1)).toNat) (by omega) hz hgd (by rw [List.nil_append, sl_head]) (by rw [List.nil_append, sl_tail (e := tm) (by omega) htm, show min (z + 1) (xs.length : Int) = z + 1 by omega])
                                    have hfrz : Fr [500, 504, 505, 600 + 4 * en.toNat, 600 + 4 * en.toNat + 1, 600 + 4 * en.toNat + 2, 600 + 4 * en.toNat + 2 + 1] M M_283 := (((((((fr_16.up (T := [500, 504, 505, 600 + 4 * en.toNat, 600 + 4 * en.toNat + 1, 600 + 4 * en.toNat + 2, 600 + 4 * en.toNat + 2 + 1]) (by simp)).tr' (T := [500, 504, 505, 600 + 4 * en.toNat, 600 + 4 * en.toNat + 1, 600 + 4 * en.toNat + 2, 600 + 4 * en.toNat + 2 + 1]) fr_224 (fun _ z => z) (by simp)).tr' (T := [500, 504, 505, 600 + 4 * en.toNat, 600 + 4 * en.toNat + 1, 600 + 4 * en.toNat + 2, 600 + 4 * en.toNat + 2 + 1]) fr_230 (fun _ z => z) (by simp)).tr' (T := [500, 504, 505, 600 + 4 * en.toNat, 600 + 4 * en.toNat + 1, 600 + 4 * en.toNat + 2, 600 + 4 * en.toNat + 2 + 1]) fr_253 (fun _ z => z) (by simp)).tr' (T := [500, 504, 505, 600 + 4 * en.toNat, 600 + 4 * en.toNat + 1, 600 + 4 * en.toNat + 2, 600 + 4 * en.toNat + 2 + 1]) fr_269 (fun _ z => z) (by simp)).tr' (T := [500, 504, 505, 600 + 4 * en.toNat, 600 + 4 * en.toNat + 1, 600 + 4 * en.toNat + 2, 600 + 4 * en.toNat + 2 + 1]) fr_281 (fun _ z => z) (by simp)).tr' (T := [500, 504, 505, 600 + 4 * en.toNat, 600 + 4 * en.toNat + 1, 600 + 4 * en.toNat + 2, 600 + 4 * en.toNat + 2 + 1]) fr_285 (fun _ z => z) (by simp))
                                    have h_290 := fr_230.at h_223 (by decide)
                                    have h_291 := fr_253.at h_290 (by simp only [List.mem_cons, List.not_mem_nil, or_false, not_or, not_false_eq_true]; try omega)
                                    have h_292 := fr_269.at h_291 (by simp only [List.mem_cons, List.not_mem_nil, or_false, not_or, not_false_eq_true]; try omega)
                                    have h_293 := fr_281.at h_292 (by simp only [List.mem_cons, List.not_mem_nil, or_false, not_or, not_false_eq_true]; try omega)
                                    have h_294 := fr_285.at h_293 (by decide)
                                    have h_295 := fr_253.at h_229 (by simp only [List.mem_cons, List.not_mem_nil, or_false, not_or, not_false_eq_true]; try omega)
                                    have h_296 := fr_269.at h_295 (by simp only [List.mem_cons, List.not_mem_nil, or_false, not_or, not_false_eq_true]; try omega)
                                    have h_297 := fr_281.at h_296 (by simp only [List.mem_cons, List.not_mem_nil, or_false, not_or, not_false_eq_true]; try omega)
                                    have h_298 := fr_285.at h_297 (by decide)
                                    have h_299 := fr_253.at h_234 (by simp only [List.mem_cons, List.not_mem_nil, or_false, not_or, not_false_eq_true]; try omega)
                                    have h_300 := fr_269.at h_299 (by simp only [List.mem_cons, List.not_mem_nil, or_false, not_or, not_false_eq_true]; try omega)
                                    have h_301 := fr_281.at h_300 (by simp only [List.mem_cons, List.not_mem_nil, or_false, not_or, not_false_eq_true]; try omega)
                                    have h_302 := fr_285.at h_301 (by decide)
                                    have h_303 := fr_281.at h_274 (by simp only [List.mem_cons, List.not_mem_nil, or_false, not_or, not_false_eq_true]; try omega)
                                    have h_304 := fr_285.at h_303 (by decide)
                                    have hmd9 := IsMd_push h_302 h_304 h_6 h_7 hfrz (by intro v hv; simp only [List.mem_cons, List.not_mem_nil, or_false] at hv; omega) (by rw [← hen9]; exact h_294) (by rw [← hen9]; exact h_298) (by rw [← hen9]; exact h_239) (by rw [← hen9]; exact h_240) (by rw [← hen9]; exact h_288) (by rw [← hen9]; exact h_289) (by omega) (show 0 ≤ sort ∧ sort ≤ 3 by omega)
                                    have hln : (((es ++ [(sort, ad, [] ++ (xs.drop (0 : Int).toNat).take (z - 0).toNat, [] ++ (xs.drop ((z + 1) : Int).toNat).take (tm - (z + 1)).toNat)]).length : Nat) : Int) = en + 1 := by rw [List.length_append, List.length_singleton]; omega
                                    exact G_iretX hC hQ (by omega) (by omega) d_Mo_entry_248 ⟨by rw [if_neg (by omega), if_pos hyes.1, hyes.2, hln], by rw [hyes.2, hln]; exact h_284, by rw [hyes.2]; exact hmd9, hfrz⟩
                                · exact (show False from by omega).elim
                          · have c_216 := b2i_eq0.mp c_216
                            refine G_iconst (i := (-1)) hC d_Mo_entry_116 ?_
                            have hno := ent_no (es := es) (xs := xs) (sort := sort) (ad := ad) (by rw [hz]; exact (fun y => nt c_216 y.1))
                            have h_305 := h_Md_sa.fr fr_16 (by intro u hu; simp only [List.mem_cons, List.not_mem_nil, or_false] at hu <;> omega)
                            exact G_iretX hC hQ (by omega) (by omega) d_Mo_entry_117 ⟨by rw [if_neg (by omega), if_neg (nt hno.1)], by rw [hno.2, ← hen]; exact h_15, by rw [hno.2]; exact h_305, (fr_16.up (T := [500, 504, 505, 600 + 4 * en.toNat, 600 + 4 * en.toNat + 1, 600 + 4 * en.toNat + 2, 600 + 4 * en.toNat + 2 + 1]) (by simp))⟩
                  · refine G_iinc (lv' := [(4, vI (b + 1)), (0, .ref a), (1, vI sort), (2, .int ad), (3, vI tm), (5, vI 1)]) hC 4 rfl (by rw [hN]; decide) rfl d_Mo_entry_73 ?_
                    refine G_goto hC 50 (by decide) d_Mo_entry_76 ?_
                    refine G_lv [1, 2, 3, 4, 0, 5] rfl ?_
                    exact ih50 (b + 1) (by omega) (by omega) (by rw [findS] at hf; (repeat' split at hf); all_goals first | exact hf | (exfalso; omega) | omega)
          refine G_lv [3, 4, 5, 2, 1, 0] rfl ?_
          exact L50 _ 0 (Nat.lt_succ_self _) (by omega) hz
    · have c_18 := b2i_eq0.mp c_18
      have c_18 := of_decide_eq_false c_18
      refine G_iconst (i := (-1)) hC d_Mo_entry_32 ?_
      have hno := ent_no (es := es) (xs := xs) (sort := sort) (ad := ad) (by rw [hz]; exact (fun y => by rcases y.2 with y | y | y <;> omega))
      have h_306 := h_Md_sa.fr fr_16 (by intro u hu; simp only [List.mem_cons, List.not_mem_nil, or_false] at hu <;> omega)
      exact G_iretX hC hQ (by omega) (by omega) d_Mo_entry_33 ⟨by rw [if_neg (by omega), if_neg (nt hno.1)], by rw [hno.2, ← hen]; exact h_15, by rw [hno.2]; exact h_306, (fr_16.up (T := [500, 504, 505, 600 + 4 * en.toNat, 600 + 4 * en.toNat + 1, 600 + 4 * en.toNat + 2, 600 + 4 * en.toNat + 2 + 1]) (by simp))⟩
  · refine G_bipush (j := (-3)) hC (by decide +kernel) d_Mo_entry_17 ?_
    have hno := ent_full (es := es) (xs := xs) (sort := sort) (ad := ad) (by omega)
    have h_307 := h_Md_sa.fr fr_16 (by intro u hu; simp only [List.mem_cons, List.not_mem_nil, or_false] at hu <;> omega)
    exact G_iretX hC hQ (by omega) (by omega) d_Mo_entry_19 ⟨by rw [if_pos (by omega)], by rw [hno.2, ← hen]; exact h_15, by rw [hno.2]; exact h_307, (fr_16.up (T := [500, 504, 505, 600 + 4 * en.toNat, 600 + 4 * en.toNat + 1, 600 + 4 * en.toNat + 2, 600 + 4 * en.toNat + 2 + 1]) (by simp))⟩
