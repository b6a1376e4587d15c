set_option maxHeartbeats 4000000 in
set_option maxRecDepth 100000 in
theorem c_Mo_entry {l : Launch} {D : Dg} {b0 : Nat} {M : Mp} {a : Nat} {sort : Int} {ad : Int32} {tp : Nat} {tm : Int} {en : Int} {ou : Nat} {sa : Nat} {aa : Nat} {na : Nat} {va : Nat} {lo : Nat} {dm : Nat} {fm : Int32} {st : Int} {tg : Nat} {cn : Int} {vo : Int} {pc : Nat} {k0 : Int} {s0 : Int} {f0 : Int} {o0 : Int} {n0 : Int} {w0 : Int32} {es : List Ent} {xs : List Int} (h_obj_a : M a = some (500, .inr (cMo, [.ref tp, vI tm, vI en, .ref ou, .ref sa, .ref aa, .ref na, .ref va, .ref lo, .ref dm, .int fm, vI st, .ref tg, vI cn, vI vo, .ref pc, vI k0, vI s0, vI f0, vI o0, vI n0, .int w0]))) (h_Md_sa : IsMd D M sa aa na va es) (h_row_tp : Row D M tp 501 800 xs) (htm : tm = (xs.length : Int)) (hen : en = (es.length : Int)) (hs : -2147483648 ≤ sort ∧ sort ≤ 2147483647) : Ok l D b0 5 y_Mo_entry b_Mo_entry 7 (some .int) M [.ref a, vI sort, .int ad] 0 0 (fun r M' => r = some (vI (if 40 ≤ (es.length : Int) then -3 else if (takeS es xs sort ad).isSome = true then (((takeS es xs sort ad).getD es).length : Int) else -1)) ∧ M' a = some (500, .inr (cMo, [.ref tp, vI 0, vI (((takeS es xs sort ad).getD es).length : Int), .ref ou, .ref sa, .ref aa, .ref na, .ref va, .ref lo, .ref dm, .int fm, vI st, .ref tg, vI cn, vI vo, .ref pc, vI k0, vI s0, vI f0, vI o0, vI n0, .int w0])) ∧ IsMd D M' sa aa na va ((takeS es xs sort ad).getD es) ∧ Fr [500, 504, 505, 600 + 4 * es.length, 600 + 4 * es.length + 1, 600 + 4 * es.length + 2, 600 + 4 * es.length + 3] M M') := by
  refine Ok_of rfl (Nat.le_of_ble_eq_true rfl) (fun E hC hQ hl hD hB hN hR => ?_)
  subst hl hD hB
  have hr9 := h_row_tp.len
  have hD9 := h_Md_sa.len
  obtain ⟨g_8, ga_9, fn_10, fv_11, h_1, h_2, h_3, h_4, h_5, h_6, h_7⟩ := id h_Md_sa
  obtain ⟨z, hz⟩ : ∃ z, blkS xs = z := ⟨_, rfl⟩
  show G E M 0 0 [(0, .ref a), (1, vI sort), (2, .int ad)] [] 0
  refine G_aload_n hC 0 rfl rfl d_Mo_entry_0 ?_
  refine G_xV (rest := []) hC hR (c_Mo_used h_obj_a) cv_Mo_70 ⟨_, _, h_obj_a⟩ (by decide) (by omega) (by omega) rfl rfl (Nat.le_of_ble_eq_true rfl) d_Mo_entry_1 (fun r_14 M_12 p_13 => ?_)
  obtain ⟨rfl, h_15, fr_16⟩ := p_13
  show G E M_12 (0 + 0) (0 + 0) [(0, .ref a), (1, vI sort), (2, .int ad)] [vI tm] 4
  refine G_istore_n (lv' := [(3, vI tm), (0, .ref a), (1, vI sort), (2, .int ad)]) hC rfl (by rw [hN]; decide) rfl d_Mo_entry_4 ?_
  refine G_iconst (i := 0) hC d_Mo_entry_5 ?_
  refine G_istore (lv' := [(4, vI 0), (3, vI tm), (0, .ref a), (1, vI sort), (2, .int ad)]) hC (by rw [hN]; decide) rfl d_Mo_entry_6 ?_
  refine G_aload_n hC 2 rfl rfl d_Mo_entry_8 ?_
  refine G_get hC fl_Mo_73 h_15 rfl d_Mo_entry_9 ?_
  refine G_bipush (j := 40) hC (by decide +kernel) d_Mo_entry_12 ?_
  refine G_icmp_ne hC 20 (by omega) (by decide) (by decide) d_Mo_entry_14 (fun c_17 => ?_) (fun c_17 => ?_)
  · refine G_iload_n hC 3 rfl rfl d_Mo_entry_20 ?_
    refine G_i2lR hC (by omega) d_Mo_entry_21 ?_
    refine G_lconst (v := zL 0) hC (by decide +kernel) d_Mo_entry_22 ?_
    refine G_ldc2R (a := 3) hC lc_Mo_76 d_Mo_entry_23 ?_
    refine G_pS (rest := []) hC hR (c_Mo_in (by omega) (by omega) (by omega)) cs_Mo_66 (by decide) (by omega) (by omega) rfl rfl (Nat.le_of_ble_eq_true rfl) d_Mo_entry_26 ?_
    refine G_if_ne hC 34 (by have := b2i_rng (decide (0 ≤ sort ∧ sort ≤ 3)); omega) (by decide) d_Mo_entry_29 (fun c_18 => ?_) (fun c_18 => ?_)
    · have c_18 := b2i_ne0.mp c_18
      have c_18 := of_decide_eq_true c_18
      refine G_iload_n hC 3 rfl rfl d_Mo_entry_34 ?_
      refine G_if_eq hC 43 (by omega) (by decide) d_Mo_entry_35 (fun c_19 => ?_) (fun c_19 => ?_)
      · refine G_iconst (i := 1) hC d_Mo_entry_43 ?_
        refine G_goto hC 48 (by decide) d_Mo_entry_44 ?_
        refine G_istore (lv' := [(5, vI 1), (4, vI 0), (3, vI tm), (0, .ref a), (1, vI sort), (2, .int ad)]) hC (by rw [hN]; decide) rfl d_Mo_entry_48 ?_
        have L50 : ∀ (N : Nat) (b : Int), (tm - b).toNat < N → (0 ≤ b ∧ b ≤ tm) → (findS xs 32 b (xs.length : Int) = z) → G E M_12 (0 + 0) (0 + 0) [(0, .ref a), (1, vI sort), (2, .int ad), (3, vI tm), (4, vI b), (5, vI 1)] [] 50 := by
          intro N
          induction N with
          | zero => intro b hN50 hb hf; exact absurd hN50 (Nat.not_lt_zero _)
          | succ N ih50 =>
            intro b hN50 hb hf
            refine G_iload hC 5 rfl d_Mo_entry_50 ?_
            refine G_if_eq hC 79 (by decide) (by decide) d_Mo_entry_52 (fun c_20 => ?_) (fun c_20 => ?_)
            · exact (show False from by omega).elim
            · refine G_iload hC 4 rfl d_Mo_entry_55 ?_
              refine G_iload_n hC 3 rfl rfl d_Mo_entry_57 ?_
              refine G_icmp_ge hC 79 (by omega) (by omega) (by decide) d_Mo_entry_58 (fun c_21 => ?_) (fun c_21 => ?_)
              · have hzb : z = b := by rw [findS] at hf; (repeat' split at hf); all_goals first | omega | (exfalso; omega)
                subst hzb
                refine G_iload hC 5 rfl d_Mo_entry_79 ?_
                refine G_if_eq hC 89 (by decide) (by decide) d_Mo_entry_81 (fun c_22 => ?_) (fun c_22 => ?_)
                · exact (show False from by omega).elim
                · refine G_iload hC 4 rfl d_Mo_entry_84 ?_
                  refine G_goto hC 90 (by decide) d_Mo_entry_86 ?_
                  refine G_istore (lv' := [(6, vI z), (0, .ref a), (1, vI sort), (2, .int ad), (3, vI tm), (4, vI z), (5, vI 1)]) hC (by rw [hN]; decide) rfl d_Mo_entry_90 ?_
                  refine G_iload hC 6 rfl d_Mo_entry_92 ?_
                  refine G_if_eq hC 103 (by decide) (by decide) d_Mo_entry_94 (fun c_23 => ?_) (fun c_23 => ?_)
                  · exact (show False from by omega).elim
                  · refine G_iload hC 5 rfl d_Mo_entry_97 ?_
                    refine G_iload_n hC 4 rfl rfl d_Mo_entry_99 ?_
                    refine G_icmp_eq hC 116 (by omega) (by omega) (by decide) d_Mo_entry_100 (fun c_24 => ?_) (fun c_24 => ?_)
                    · refine G_iconst (i := (-1)) hC d_Mo_entry_116 ?_
                      have hno := ent_no (es := es) (xs := xs) (sort := sort) (ad := ad) (by rw [hz]; exact (fun y => by rcases y.2 with y | y | y <;> omega))
                      have h_25 := h_Md_sa.fr fr_16 (by intro u hu; simp only [List.mem_cons, List.not_mem_nil, or_false] at hu <;> omega)
                      exact G_iretX hC hQ (by omega) (by omega) d_Mo_entry_117 ⟨by rw [if_neg (by omega), if_neg (nt hno.1)], by rw [hno.2, ← hen]; exact h_15, by rw [hno.2]; exact h_25, (fr_16.up (T := [500, 504, 505, 600 + 4 * es.length, 600 + 4 * es.length + 1, 600 + 4 * es.length + 2, 600 + 4 * es.length + 3]) (by simp))⟩
                    · exact (show False from by omega).elim
              · refine G_aload_n hC 0 rfl rfl d_Mo_entry_61 ?_
                refine G_get hC fl_Mo_23 h_15 rfl d_Mo_entry_62 ?_
                refine G_iload hC 4 rfl d_Mo_entry_65 ?_
                have h_26 := h_row_tp.fr fr_16 (by decide)
                refine G_baldR hC h_26 (by omega) d_Mo_entry_67 ?_
                have g_27 := h_26.rng b
                have g_28 := atS_gx (xs := xs) (i := b) (by omega)
                refine G_bipush (j := 32) hC (by decide +kernel) d_Mo_entry_68 ?_
                refine G_icmp_eq hC 79 (by omega) (by decide) (by decide) d_Mo_entry_70 (fun c_29 => ?_) (fun c_29 => ?_)
                · have hzb : z = b := by rw [findS] at hf; (repeat' split at hf); all_goals first | omega | (exfalso; omega)
                  subst hzb
                  refine G_iload hC 5 rfl d_Mo_entry_79 ?_
                  refine G_if_eq hC 89 (by decide) (by decide) d_Mo_entry_81 (fun c_30 => ?_) (fun c_30 => ?_)
                  · exact (show False from by omega).elim
                  · refine G_iload hC 4 rfl d_Mo_entry_84 ?_
                    refine G_goto hC 90 (by decide) d_Mo_entry_86 ?_
                    refine G_istore (lv' := [(6, vI z), (0, .ref a), (1, vI sort), (2, .int ad), (3, vI tm), (4, vI z), (5, vI 1)]) hC (by rw [hN]; decide) rfl d_Mo_entry_90 ?_
                    refine G_iload hC 6 rfl d_Mo_entry_92 ?_
                    refine G_if_eq hC 103 (by decide) (by decide) d_Mo_entry_94 (fun c_31 => ?_) (fun c_31 => ?_)
                    · exact (show False from by omega).elim
                    · refine G_iload hC 5 rfl d_Mo_entry_97 ?_
                      refine G_iload_n hC 4 rfl rfl d_Mo_entry_99 ?_
                      refine G_icmp_eq hC 116 (by omega) (by omega) (by decide) d_Mo_entry_100 (fun c_32 => ?_) (fun c_32 => ?_)
                      · exact (show False from by omega).elim
                      · refine G_aload_n hC 1 rfl rfl d_Mo_entry_103 ?_
                        refine G_get hC fl_Mo_23 h_15 rfl d_Mo_entry_104 ?_
                        refine G_iconst (i := 0) hC d_Mo_entry_107 ?_
                        refine G_iload hC 0 rfl d_Mo_entry_108 ?_
                        refine G_pS (rest := []) hC hR (c_Tx_isName h_26 (by omega) (by omega) rfl) cs_Mo_78 (by decide) (by omega) (by omega) rfl rfl (Nat.le_of_ble_eq_true rfl) d_Mo_entry_110 ?_
                        refine G_if_ne hC 118 (by have := b2i_rng (nameS xs 0 z); omega) (by decide) d_Mo_entry_113 (fun c_33 => ?_) (fun c_33 => ?_)
                        · have c_33 := b2i_ne0.mp c_33
                          have hnm := c_33
                          have hnl := nameL_ne hnm
                          refine G_iload_n hC 2 rfl rfl d_Mo_entry_118 ?_
                          refine G_iconst (i := 2) hC d_Mo_entry_119 ?_
                          refine G_icmp_ne hC 138 (by omega) (by decide) (by decide) d_Mo_entry_120 (fun c_34 => ?_) (fun c_34 => ?_)
                          · refine G_iload_n hC 2 rfl rfl d_Mo_entry_138 ?_
                            refine G_if_ne hC 156 (by omega) (by decide) d_Mo_entry_139 (fun c_35 => ?_) (fun c_35 => ?_)
                            · exact (show False from by omega).elim
                            · refine G_iload_n hC 4 rfl rfl d_Mo_entry_142 ?_
                              refine G_iload hC 5 rfl d_Mo_entry_143 ?_
                              refine G_isub hC d_Mo_entry_145 ?_
                              refine G_iconst (i := 1) hC d_Mo_entry_146 ?_
                              refine G_isub hC d_Mo_entry_147 ?_
                              refine G_sipush (j := 700) hC (by decide +kernel) d_Mo_entry_148 ?_
                              refine G_icmp_le hC 156 (by omega) (by decide) (by decide) d_Mo_entry_151 (fun c_36 => ?_) (fun c_36 => ?_)
                              · have hen9 : en.toNat = es.length := by omega
                                have hgd : goodP xs sort z := ⟨hnm, Or.inl ⟨by omega, by omega, by omega⟩⟩
                                refine G_aload_n hC 1 rfl rfl d_Mo_entry_156 ?_
                                refine G_get hC fl_Mo_36 h_15 rfl d_Mo_entry_157 ?_
                                refine G_aload_n hC 1 rfl rfl d_Mo_entry_160 ?_
                                refine G_get hC fl_Mo_73 h_15 rfl d_Mo_entry_161 ?_
                                refine G_iload_n hC 2 rfl rfl d_Mo_entry_164 ?_
                                have h_37 := fr_16.at h_1 (by decide)
                                refine G_iastX hC h_37 (by omega) (by omega) d_Mo_entry_165 (fun M_38 h_39 fr_40 => ?_)
                                refine G_aload_n hC 1 rfl rfl d_Mo_entry_166 ?_
                                have h_41 := fr_40.at h_15 (by decide)
                                refine G_get hC fl_Mo_40 h_41 rfl d_Mo_entry_167 ?_
                                refine G_aload_n hC 1 rfl rfl d_Mo_entry_170 ?_
                                refine G_get hC fl_Mo_73 h_41 rfl d_Mo_entry_171 ?_
                                refine G_iload_n hC 3 rfl rfl d_Mo_entry_174 ?_
                                refine G_X2I ?_
                                have h_42 := fr_16.at h_2 (by decide)
                                have h_43 := fr_40.at h_42 (by decide)
                                refine G_iastX hC h_43 (by omega) (by omega) d_Mo_entry_175 (fun M_44 h_45 fr_46 => ?_)
                                refine G_aload_n hC 1 rfl rfl d_Mo_entry_176 ?_
                                have h_47 := fr_46.at h_41 (by decide)
                                refine G_get hC fl_Mo_43 h_47 rfl d_Mo_entry_177 ?_
                                refine G_aload_n hC 1 rfl rfl d_Mo_entry_180 ?_
                                refine G_get hC fl_Mo_73 h_47 rfl d_Mo_entry_181 ?_
                                have h_48 := fr_16.at h_3 (by decide)
                                have h_49 := fr_40.at h_48 (by decide)
                                have h_50 := fr_46.at h_49 (by decide)
                                obtain ⟨t_51, u_52, ns_53, vs_54, h_55, h_56, h_57, h_58, h_59⟩ := h_7 (en : Int).toNat (by omega)
                                refine G_aald hC h_50 rfl (by omega) (by omega) (by rw [h_55]) d_Mo_entry_184 ?_
                                refine G_aload_n hC 1 rfl rfl d_Mo_entry_185 ?_
                                refine G_get hC fl_Mo_23 h_47 rfl d_Mo_entry_186 ?_
                                refine G_iconst (i := 0) hC d_Mo_entry_189 ?_
                                refine G_iload hC 0 rfl d_Mo_entry_190 ?_
                                have h_60 := h_26.fr fr_40 (by decide)
                                have h_61 := h_60.fr fr_46 (by decide)
                                refine G_xV (rest := []) hC hR (c_Tx_set h_57 h_61 (by omega) (by omega) (by omega)) cv_Mo_82 h_57.obj (by decide) (by omega) (by omega) rfl rfl (Nat.le_of_ble_eq_true rfl) d_Mo_entry_192 (fun r_64 M_62 p_63 => ?_)
                                obtain ⟨rfl, h_65, fr_66⟩ := p_63
                                show G E M_62 (0 + 0 + 0) (0 + 0 + 0) [(6, vI z), (0, .ref a), (1, vI sort), (2, .int ad), (3, vI tm), (4, vI z), (5, vI 1)] [] 195
                                refine G_aload_n hC 1 rfl rfl d_Mo_entry_195 ?_
                                have h_67 := fr_66.at h_47 (by simp only [List.mem_cons, List.not_mem_nil, or_false, not_or, not_false_eq_true]; try omega)
                                refine G_get hC fl_Mo_47 h_67 rfl d_Mo_entry_196 ?_
                                refine G_aload_n hC 1 rfl rfl d_Mo_entry_199 ?_
                                refine G_get hC fl_Mo_73 h_67 rfl d_Mo_entry_200 ?_
                                have h_68 := fr_16.at h_4 (by decide)
                                have h_69 := fr_40.at h_68 (by decide)
                                have h_70 := fr_46.at h_69 (by decide)
                                have h_71 := fr_66.at h_70 (by simp only [List.mem_cons, List.not_mem_nil, or_false, not_or, not_false_eq_true]; try omega)
                                refine G_aald hC h_71 rfl (by omega) (by omega) (by rw [h_56]) d_Mo_entry_203 ?_
                                have h_72 := h_58.fr fr_66 (by simp only [List.mem_cons, List.not_mem_nil, or_false, not_or, not_false_eq_true]; try omega) (by simp only [List.mem_cons, List.not_mem_nil, or_false, not_or, not_false_eq_true]; try omega)
                                have g_76 := h_72.len
                                obtain ⟨r_73, h_74, h_75⟩ := id h_72
                                refine G_iconst (i := 0) hC d_Mo_entry_204 ?_
                                refine G_putX (fs' := [.ref r_73, vI 0]) hC fl_Mo_86 ft_Tx fw_Tx_1 h_74 rfl rfl (Nat.le_of_ble_eq_true rfl) rfl d_Mo_entry_205 (fun M_77 h_78 fr_79 => ?_)
                                have h_80 := h_75.fr fr_79 (by simp only [List.mem_cons, List.not_mem_nil, or_false, not_or, not_false_eq_true]; try omega)
                                have h_81 : IsT (eD E) M_77 u_52 600 + 4 * (en : Int).toNat + 2 700 ([] : List Int) := ⟨r_73, h_78, h_80.take 0⟩
                                refine G_iload hC 6 rfl d_Mo_entry_208 ?_
                                refine G_if_eq hC 234 (by decide) (by decide) d_Mo_entry_210 (fun c_82 => ?_) (fun c_82 => ?_)
                                · exact (show False from by omega).elim
                                · refine G_aload_n hC 1 rfl rfl d_Mo_entry_213 ?_
                                  have h_83 := fr_79.at h_67 (by simp only [List.mem_cons, List.not_mem_nil, or_false, not_or, not_false_eq_true]; try omega)
                                  refine G_get hC fl_Mo_47 h_83 rfl d_Mo_entry_214 ?_
                                  refine G_aload_n hC 1 rfl rfl d_Mo_entry_217 ?_
                                  refine G_get hC fl_Mo_73 h_83 rfl d_Mo_entry_218 ?_
                                  have h_84 := fr_79.at h_71 (by simp only [List.mem_cons, List.not_mem_nil, or_false, not_or, not_false_eq_true]; try omega)
                                  refine G_aald hC h_84 rfl (by omega) (by omega) (by rw [h_56]) d_Mo_entry_221 ?_
                                  refine G_aload_n hC 1 rfl rfl d_Mo_entry_222 ?_
                                  refine G_get hC fl_Mo_23 h_83 rfl d_Mo_entry_223 ?_
                                  refine G_iload hC 5 rfl d_Mo_entry_226 ?_
                                  refine G_iconst (i := 1) hC d_Mo_entry_228 ?_
                                  refine G_iadd hC d_Mo_entry_229 ?_
                                  refine G_iload_n hC 4 rfl rfl d_Mo_entry_230 ?_
                                  have h_85 := h_61.fr fr_66 (by simp only [List.mem_cons, List.not_mem_nil, or_false, not_or, not_false_eq_true]; try omega)
                                  have h_86 := h_85.fr fr_79 (by simp only [List.mem_cons, List.not_mem_nil, or_false, not_or, not_false_eq_true]; try omega)
                                  refine G_xV (rest := []) hC hR (c_Tx_set h_81 h_86 (by omega) (by omega) (by omega)) cv_Mo_82 ⟨_, _, h_78⟩ (by decide) (by omega) (by omega) rfl rfl (Nat.le_of_ble_eq_true rfl) d_Mo_entry_231 (fun r_89 M_87 p_88 => ?_)
                                  obtain ⟨rfl, h_90, fr_91⟩ := p_88
                                  show G E M_87 (0 + 0 + 0 + 0) (0 + 0 + 0 + 0) [(6, vI z), (0, .ref a), (1, vI sort), (2, .int ad), (3, vI tm), (4, vI z), (5, vI 1)] [] 234
                                  refine G_aload_n hC 1 rfl rfl d_Mo_entry_234 ?_
                                  refine G_dup hC rfl d_Mo_entry_235 ?_
                                  have h_92 := fr_91.at h_83 (by simp only [List.mem_cons, List.not_mem_nil, or_false, not_or, not_false_eq_true]; try omega)
                                  refine G_get hC fl_Mo_73 h_92 rfl d_Mo_entry_236 ?_
                                  refine G_iconst (i := 1) hC d_Mo_entry_239 ?_
                                  refine G_iadd hC d_Mo_entry_240 ?_
                                  refine G_putX (fs' := [.ref tp, vI 0, vI (en + 1), .ref ou, .ref sa, .ref aa, .ref na, .ref va, .ref lo, .ref dm, .int fm, vI st, .ref tg, vI cn, vI vo, .ref pc, vI k0, vI s0, vI f0, vI o0, vI n0, .int w0]) hC fl_Mo_73 ft_Mo fw_Mo_2 h_92 rfl rfl (Nat.le_of_ble_eq_true rfl) rfl d_Mo_entry_241 (fun M_93 h_94 fr_95 => ?_)
                                  refine G_aload_n hC 1 rfl rfl d_Mo_entry_244 ?_
                                  refine G_get hC fl_Mo_73 h_94 rfl d_Mo_entry_245 ?_
                                  have h_96 := h_65.fr fr_79 (by simp only [List.mem_cons, List.not_mem_nil, or_false, not_or, not_false_eq_true]; try omega) (by simp only [List.mem_cons, List.not_mem_nil, or_false, not_or, not_false_eq_true]; try omega)
                                  have h_97 := h_96.fr fr_91 (by simp only [List.mem_cons, List.not_mem_nil, or_false, not_or, not_false_eq_true]; try omega) (by simp only [List.mem_cons, List.not_mem_nil, or_false, not_or, not_false_eq_true]; try omega)
                                  have h_98 := h_97.fr fr_95 (by simp only [List.mem_cons, List.not_mem_nil, or_false, not_or, not_false_eq_true]; try omega) (by simp only [List.mem_cons, List.not_mem_nil, or_false, not_or, not_false_eq_true]; try omega)
                                  have h_99 := h_90.fr fr_95 (by simp only [List.mem_cons, List.not_mem_nil, or_false, not_or, not_false_eq_true]; try omega) (by simp only [List.mem_cons, List.not_mem_nil, or_false, not_or, not_false_eq_true]; try omega)
                                  have hyes := ent_yes (es := es) (xs := xs) (sort := sort) (ad := ad) (ns := [] ++ (xs.drop (0 : Int).toNat).take (z - 0).toNat) (vs := [] ++ (xs.drop ((z + 1) : Int).toNat).take (tm - (z + 1)).toNat) (by omega) hz hgd (by rw [List.nil_append, sl_head]) (by rw [List.nil_append, sl_tail (e := tm) (by omega) htm, show min (z + 1) (xs.length : Int) = z + 1 by omega])
                                  have hfrz : Fr [500, 504, 505, 600 + 4 * es.length, 600 + 4 * es.length + 1, 600 + 4 * es.length + 2, 600 + 4 * es.length + 3] M M_93 := (((((((fr_16.up (T := [500, 504, 505, 600 + 4 * es.length, 600 + 4 * es.length + 1, 600 + 4 * es.length + 2, 600 + 4 * es.length + 3]) (by simp)).tr' (T := [500, 504, 505, 600 + 4 * es.length, 600 + 4 * es.length + 1, 600 + 4 * es.length + 2, 600 + 4 * es.length + 3]) fr_40 (fun _ z => z) (by simp)).tr' (T := [500, 504, 505, 600 + 4 * es.length, 600 + 4 * es.length + 1, 600 + 4 * es.length + 2, 600 + 4 * es.length + 3]) fr_46 (fun _ z => z) (by simp)).tr' (T := [500, 504, 505, 600 + 4 * es.length, 600 + 4 * es.length + 1, 600 + 4 * es.length + 2, 600 + 4 * es.length + 3]) fr_66 (fun _ z => z) (by simp)).tr' (T := [500, 504, 505, 600 + 4 * es.length, 600 + 4 * es.length + 1, 600 + 4 * es.length + 2, 600 + 4 * es.length + 3]) fr_79 (fun _ z => z) (by simp)).tr' (T := [500, 504, 505, 600 + 4 * es.length, 600 + 4 * es.length + 1, 600 + 4 * es.length + 2, 600 + 4 * es.length + 3]) fr_91 (fun _ z => z) (by simp)).tr' (T := [500, 504, 505, 600 + 4 * es.length, 600 + 4 * es.length + 1, 600 + 4 * es.length + 2, 600 + 4 * es.length + 3]) fr_95 (fun _ z => z) (by simp))
                                  have h_100 := fr_46.at h_39 (by decide)
                                  have h_101 := fr_66.at h_100 (by simp only [List.mem_cons, List.not_mem_nil, or_false, not_or, not_false_eq_true]; try omega)
                                  have h_102 := fr_79.at h_101 (by simp only [List.mem_cons, List.not_mem_nil, or_false, not_or, not_false_eq_true]; try omega)
                                  have h_103 := fr_91.at h_102 (by simp only [List.mem_cons, List.not_mem_nil, or_false, not_or, not_false_eq_true]; try omega)
                                  have h_104 := fr_95.at h_103 (by decide)
                                  have h_105 := fr_66.at h_45 (by simp only [List.mem_cons, List.not_mem_nil, or_false, not_or, not_false_eq_true]; try omega)
                                  have h_106 := fr_79.at h_105 (by simp only [List.mem_cons, List.not_mem_nil, or_false, not_or, not_false_eq_true]; try omega)
                                  have h_107 := fr_91.at h_106 (by simp only [List.mem_cons, List.not_mem_nil, or_false, not_or, not_false_eq_true]; try omega)
                                  have h_108 := fr_95.at h_107 (by decide)
                                  have h_109 := fr_66.at h_50 (by simp only [List.mem_cons, List.not_mem_nil, or_false, not_or, not_false_eq_true]; try omega)
                                  have h_110 := fr_79.at h_109 (by simp only [List.mem_cons, List.not_mem_nil, or_false, not_or, not_false_eq_true]; try omega)
                                  have h_111 := fr_91.at h_110 (by simp only [List.mem_cons, List.not_mem_nil, or_false, not_or, not_false_eq_true]; try omega)
                                  have h_112 := fr_95.at h_111 (by decide)
                                  have h_113 := fr_91.at h_84 (by simp only [List.mem_cons, List.not_mem_nil, or_false, not_or, not_false_eq_true]; try omega)
                                  have h_114 := fr_95.at h_113 (by decide)
                                  have hmd9 := IsMd_push h_112 h_114 h_6 h_7 hfrz (by intro v hv; simp only [List.mem_cons, List.not_mem_nil, or_false] at hv; omega) (by rw [← hen9]; exact h_104) (by rw [← hen9]; exact h_108) (by rw [← hen9]; exact h_55) (by rw [← hen9]; exact h_56) (by rw [← hen9]; exact h_98) (by rw [← hen9]; exact h_99) (by omega) (show 0 ≤ sort ∧ sort ≤ 3 by omega)
                                  have hln : (((es ++ [(sort, ad, [] ++ (xs.drop (0 : Int).toNat).take (z - 0).toNat, [] ++ (xs.drop ((z + 1) : Int).toNat).take (tm - (z + 1)).toNat)]).length : Nat) : Int) = en + 1 := by rw [List.length_append, List.length_singleton]; omega
                                  exact G_iretX hC hQ (by omega) (by omega) d_Mo_entry_248 ⟨by rw [if_neg (by omega), if_pos hyes.1, hyes.2, hln], by rw [hyes.2, hln]; exact h_94, by rw [hyes.2]; exact hmd9, hfrz⟩
                              · refine G_iconst (i := (-1)) hC d_Mo_entry_154 ?_
                                have hno := ent_no (es := es) (xs := xs) (sort := sort) (ad := ad) (by rw [hz]; exact (fun y => by rcases y.2 with y | y | y <;> omega))
                                have h_115 := h_Md_sa.fr fr_16 (by intro u hu; simp only [List.mem_cons, List.not_mem_nil, or_false] at hu <;> omega)
                                exact G_iretX hC hQ (by omega) (by omega) d_Mo_entry_155 ⟨by rw [if_neg (by omega), if_neg (nt hno.1)], by rw [hno.2, ← hen]; exact h_15, by rw [hno.2]; exact h_115, (fr_16.up (T := [500, 504, 505, 600 + 4 * es.length, 600 + 4 * es.length + 1, 600 + 4 * es.length + 2, 600 + 4 * es.length + 3]) (by simp))⟩
                          · exact (show False from by omega).elim
                        · have c_33 := b2i_eq0.mp c_33
                          refine G_iconst (i := (-1)) hC d_Mo_entry_116 ?_
                          have hno := ent_no (es := es) (xs := xs) (sort := sort) (ad := ad) (by rw [hz]; exact (fun y => nt c_33 y.1))
                          have h_116 := h_Md_sa.fr fr_16 (by intro u hu; simp only [List.mem_cons, List.not_mem_nil, or_false] at hu <;> omega)
                          exact G_iretX hC hQ (by omega) (by omega) d_Mo_entry_117 ⟨by rw [if_neg (by omega), if_neg (nt hno.1)], by rw [hno.2, ← hen]; exact h_15, by rw [hno.2]; exact h_116, (fr_16.up (T := [500, 504, 505, 600 + 4 * es.length, 600 + 4 * es.length + 1, 600 + 4 * es.length + 2, 600 + 4 * es.length + 3]) (by simp))⟩
                · refine G_iinc (lv' := [(4, vI (b + 1)), (0, .ref a), (1, vI sort), (2, .int ad), (3, vI tm), (5, vI 1)]) hC 4 rfl (by rw [hN]; decide) rfl d_Mo_entry_73 ?_
                  refine G_goto hC 50 (by decide) d_Mo_entry_76 ?_
                  refine G_lv [1, 2, 3, 4, 0, 5] rfl ?_
                  exact ih50 (b + 1) (by omega) (by omega) (by rw [findS] at hf; (repeat' split at hf); all_goals first | exact hf | (exfalso; omega) | omega)
        refine G_lv [3, 4, 5, 2, 1, 0] rfl ?_
        exact L50 _ 0 (Nat.lt_succ_self _) (by omega) hz
      · refine G_iload_n hC 3 rfl rfl d_Mo_entry_38 ?_
        refine G_iconst (i := 2) hC d_Mo_entry_39 ?_
        refine G_icmp_ne hC 47 (by omega) (by decide) (by decide) d_Mo_entry_40 (fun c_117 => ?_) (fun c_117 => ?_)
        · refine G_iconst (i := 0) hC d_Mo_entry_47 ?_
          refine G_istore (lv' := [(5, vI 0), (4, vI 0), (3, vI tm), (0, .ref a), (1, vI sort), (2, .int ad)]) hC (by rw [hN]; decide) rfl d_Mo_entry_48 ?_
          refine G_iload hC 0 rfl d_Mo_entry_50 ?_
          refine G_if_eq hC 79 (by decide) (by decide) d_Mo_entry_52 (fun c_118 => ?_) (fun c_118 => ?_)
          · refine G_iload hC 0 rfl d_Mo_entry_79 ?_
            refine G_if_eq hC 89 (by decide) (by decide) d_Mo_entry_81 (fun c_119 => ?_) (fun c_119 => ?_)
            · refine G_iload_n hC 2 rfl rfl d_Mo_entry_89 ?_
              refine G_istore (lv' := [(6, vI tm), (5, vI 0), (4, vI 0), (3, vI tm), (0, .ref a), (1, vI sort), (2, .int ad)]) hC (by rw [hN]; decide) rfl d_Mo_entry_90 ?_
              refine G_iload hC 1 rfl d_Mo_entry_92 ?_
              refine G_if_eq hC 103 (by decide) (by decide) d_Mo_entry_94 (fun c_120 => ?_) (fun c_120 => ?_)
              · refine G_aload_n hC 4 rfl rfl d_Mo_entry_103 ?_
                refine G_get hC fl_Mo_23 h_15 rfl d_Mo_entry_104 ?_
                refine G_iconst (i := 0) hC d_Mo_entry_107 ?_
                refine G_iload hC 0 rfl d_Mo_entry_108 ?_
                have h_121 := h_row_tp.fr fr_16 (by decide)
                refine G_pS (rest := []) hC hR (c_Tx_isName h_121 (by omega) (by omega) rfl) cs_Mo_78 (by decide) (by omega) (by omega) rfl rfl (Nat.le_of_ble_eq_true rfl) d_Mo_entry_110 ?_
                refine G_if_ne hC 118 (by have := b2i_rng (nameS xs 0 tm); omega) (by decide) d_Mo_entry_113 (fun c_122 => ?_) (fun c_122 => ?_)
                · have c_122 := b2i_ne0.mp c_122
                  have hnm : nameS xs 0 xs.length = true := by rw [← htm]; exact c_122
                  have hzl : z = xs.length := hz.symm.trans (name_blk hnm)
                  have hnl := nameL_ne hnm
                  refine G_iload_n hC 5 rfl rfl d_Mo_entry_118 ?_
                  refine G_iconst (i := 2) hC d_Mo_entry_119 ?_
                  refine G_icmp_ne hC 138 (by omega) (by decide) (by decide) d_Mo_entry_120 (fun c_123 => ?_) (fun c_123 => ?_)
                  · refine G_iload_n hC 5 rfl rfl d_Mo_entry_138 ?_
                    refine G_if_ne hC 156 (by omega) (by decide) d_Mo_entry_139 (fun c_124 => ?_) (fun c_124 => ?_)
                    · have hen9 : en.toNat = es.length := by omega
                      have hgd : goodP xs sort z := ⟨by rw [hzl]; exact hnm, Or.inr (Or.inr ⟨by omega, hzl⟩)⟩
                      refine G_aload_n hC 4 rfl rfl d_Mo_entry_156 ?_
                      refine G_get hC fl_Mo_36 h_15 rfl d_Mo_entry_157 ?_
                      refine G_aload_n hC 4 rfl rfl d_Mo_entry_160 ?_
                      refine G_get hC fl_Mo_73 h_15 rfl d_Mo_entry_161 ?_
                      refine G_iload_n hC 5 rfl rfl d_Mo_entry_164 ?_
                      have h_125 := fr_16.at h_1 (by decide)
                      refine G_iastX hC h_125 (by omega) (by omega) d_Mo_entry_165 (fun M_126 h_127 fr_128 => ?_)
                      refine G_aload_n hC 4 rfl rfl d_Mo_entry_166 ?_
                      have h_129 := fr_128.at h_15 (by decide)
                      refine G_get hC fl_Mo_40 h_129 rfl d_Mo_entry_167 ?_
                      refine G_aload_n hC 4 rfl rfl d_Mo_entry_170 ?_
                      refine G_get hC fl_Mo_73 h_129 rfl d_Mo_entry_171 ?_
                      refine G_iload_n hC 6 rfl rfl d_Mo_entry_174 ?_
                      refine G_X2I ?_
                      have h_130 := fr_16.at h_2 (by decide)
                      have h_131 := fr_128.at h_130 (by decide)
                      refine G_iastX hC h_131 (by omega) (by omega) d_Mo_entry_175 (fun M_132 h_133 fr_134 => ?_)
                      refine G_aload_n hC 4 rfl rfl d_Mo_entry_176 ?_
                      have h_135 := fr_134.at h_129 (by decide)
                      refine G_get hC fl_Mo_43 h_135 rfl d_Mo_entry_177 ?_
                      refine G_aload_n hC 4 rfl rfl d_Mo_entry_180 ?_
                      refine G_get hC fl_Mo_73 h_135 rfl d_Mo_entry_181 ?_
                      have h_136 := fr_16.at h_3 (by decide)
                      have h_137 := fr_128.at h_136 (by decide)
                      have h_138 := fr_134.at h_137 (by decide)
                      obtain ⟨t_139, u_140, ns_141, vs_142, h_143, h_144, h_145, h_146, h_147⟩ := h_7 (en : Int).toNat (by omega)
                      refine G_aald hC h_138 rfl (by omega) (by omega) (by rw [h_143]) d_Mo_entry_184 ?_
                      refine G_aload_n hC 4 rfl rfl d_Mo_entry_185 ?_
                      refine G_get hC fl_Mo_23 h_135 rfl d_Mo_entry_186 ?_
                      refine G_iconst (i := 0) hC d_Mo_entry_189 ?_
                      refine G_iload hC 0 rfl d_Mo_entry_190 ?_
                      have h_148 := h_121.fr fr_128 (by decide)
                      have h_149 := h_148.fr fr_134 (by decide)
                      refine G_xV (rest := []) hC hR (c_Tx_set h_145 h_149 (by omega) (by omega) (by omega)) cv_Mo_82 h_145.obj (by decide) (by omega) (by omega) rfl rfl (Nat.le_of_ble_eq_true rfl) d_Mo_entry_192 (fun r_152 M_150 p_151 => ?_)
                      obtain ⟨rfl, h_153, fr_154⟩ := p_151
                      show G E M_150 (0 + 0 + 0) (0 + 0 + 0) [(6, vI tm), (5, vI 0), (4, vI 0), (3, vI tm), (0, .ref a), (1, vI sort), (2, .int ad)] [] 195
                      refine G_aload_n hC 4 rfl rfl d_Mo_entry_195 ?_
                      have h_155 := fr_154.at h_135 (by simp only [List.mem_cons, List.not_mem_nil, or_false, not_or, not_false_eq_true]; try omega)
                      refine G_get hC fl_Mo_47 h_155 rfl d_Mo_entry_196 ?_
                      refine G_aload_n hC 4 rfl rfl d_Mo_entry_199 ?_
                      refine G_get hC fl_Mo_73 h_155 rfl d_Mo_entry_200 ?_
                      have h_156 := fr_16.at h_4 (by decide)
                      have h_157 := fr_128.at h_156 (by decide)
                      have h_158 := fr_134.at h_157 (by decide)
                      have h_159 := fr_154.at h_158 (by simp only [List.mem_cons, List.not_mem_nil, or_false, not_or, not_false_eq_true]; try omega)
                      refine G_aald hC h_159 rfl (by omega) (by omega) (by rw [h_144]) d_Mo_entry_203 ?_
                      have h_160 := h_146.fr fr_154 (by simp only [List.mem_cons, List.not_mem_nil, or_false, not_or, not_false_eq_true]; try omega) (by simp only [List.mem_cons, List.not_mem_nil, or_false, not_or, not_false_eq_true]; try omega)
                      have g_164 := h_160.len
                      obtain ⟨r_161, h_162, h_163⟩ := id h_160
                      refine G_iconst (i := 0) hC d_Mo_entry_204 ?_
                      refine G_putX (fs' := [.ref r_161, vI 0]) hC fl_Mo_86 ft_Tx fw_Tx_1 h_162 rfl rfl (Nat.le_of_ble_eq_true rfl) rfl d_Mo_entry_205 (fun M_165 h_166 fr_167 => ?_)
                      have h_168 := h_163.fr fr_167 (by simp only [List.mem_cons, List.not_mem_nil, or_false, not_or, not_false_eq_true]; try omega)
                      have h_169 : IsT (eD E) M_165 u_140 600 + 4 * (en : Int).toNat + 2 700 ([] : List Int) := ⟨r_161, h_166, h_168.take 0⟩
                      refine G_iload hC 1 rfl d_Mo_entry_208 ?_
                      refine G_if_eq hC 234 (by decide) (by decide) d_Mo_entry_210 (fun c_170 => ?_) (fun c_170 => ?_)
                      · refine G_aload_n hC 4 rfl rfl d_Mo_entry_234 ?_
                        refine G_dup hC rfl d_Mo_entry_235 ?_
                        have h_171 := fr_167.at h_155 (by simp only [List.mem_cons, List.not_mem_nil, or_false, not_or, not_false_eq_true]; try omega)
                        refine G_get hC fl_Mo_73 h_171 rfl d_Mo_entry_236 ?_
                        refine G_iconst (i := 1) hC d_Mo_entry_239 ?_
                        refine G_iadd hC d_Mo_entry_240 ?_
                        refine G_putX (fs' := [.ref tp, vI 0, vI (en + 1), .ref ou, .ref sa, .ref aa, .ref na, .ref va, .ref lo, .ref dm, .int fm, vI st, .ref tg, vI cn, vI vo, .ref pc, vI k0, vI s0, vI f0, vI o0, vI n0, .int w0]) hC fl_Mo_73 ft_Mo fw_Mo_2 h_171 rfl rfl (Nat.le_of_ble_eq_true rfl) rfl d_Mo_entry_241 (fun M_172 h_173 fr_174 => ?_)
                        refine G_aload_n hC 4 rfl rfl d_Mo_entry_244 ?_
                        refine G_get hC fl_Mo_73 h_173 rfl d_Mo_entry_245 ?_
                        have h_175 := h_153.fr fr_167 (by simp only [List.mem_cons, List.not_mem_nil, or_false, not_or, not_false_eq_true]; try omega) (by simp only [List.mem_cons, List.not_mem_nil, or_false, not_or, not_false_eq_true]; try omega)
                        have h_176 := h_175.fr fr_174 (by simp only [List.mem_cons, List.not_mem_nil, or_false, not_or, not_false_eq_true]; try omega) (by simp only [List.mem_cons, List.not_mem_nil, or_false, not_or, not_false_eq_true]; try omega)
                        have h_177 := h_169.fr fr_174 (by simp only [List.mem_cons, List.not_mem_nil, or_false, not_or, not_false_eq_true]; try omega) (by simp only [List.mem_cons, List.not_mem_nil, or_false, not_or, not_false_eq_true]; try omega)
                        have hyes := ent_yes (es := es) (xs := xs) (sort := sort) (ad := ad) (ns := [] ++ (xs.drop (0 : Int).toNat).take (tm - 0).toNat) (vs := ([] : List Int)) (by omega) hz hgd (by rw [List.nil_append, sl_head, htm, hzl]) ((List.drop_eq_nil_of_le (by omega)).symm)
                        have hfrz : Fr [500, 504, 505, 600 + 4 * es.length, 600 + 4 * es.length + 1, 600 + 4 * es.length + 2, 600 + 4 * es.length + 3] M M_172 := ((((((fr_16.up (T := [500, 504, 505, 600 + 4 * es.length, 600 + 4 * es.length + 1, 600 + 4 * es.length + 2, 600 + 4 * es.length + 3]) (by simp)).tr' (T := [500, 504, 505, 600 + 4 * es.length, 600 + 4 * es.length + 1, 600 + 4 * es.length + 2, 600 + 4 * es.length + 3]) fr_128 (fun _ z => z) (by simp)).tr' (T := [500, 504, 505, 600 + 4 * es.length, 600 + 4 * es.length + 1, 600 + 4 * es.length + 2, 600 + 4 * es.length + 3]) fr_134 (fun _ z => z) (by simp)).tr' (T := [500, 504, 505, 600 + 4 * es.length, 600 + 4 * es.length + 1, 600 + 4 * es.length + 2, 600 + 4 * es.length + 3]) fr_154 (fun _ z => z) (by simp)).tr' (T := [500, 504, 505, 600 + 4 * es.length, 600 + 4 * es.length + 1, 600 + 4 * es.length + 2, 600 + 4 * es.length + 3]) fr_167 (fun _ z => z) (by simp)).tr' (T := [500, 504, 505, 600 + 4 * es.length, 600 + 4 * es.length + 1, 600 + 4 * es.length + 2, 600 + 4 * es.length + 3]) fr_174 (fun _ z => z) (by simp))
                        have h_178 := fr_134.at h_127 (by decide)
                        have h_179 := fr_154.at h_178 (by simp only [List.mem_cons, List.not_mem_nil, or_false, not_or, not_false_eq_true]; try omega)
                        have h_180 := fr_167.at h_179 (by simp only [List.mem_cons, List.not_mem_nil, or_false, not_or, not_false_eq_true]; try omega)
                        have h_181 := fr_174.at h_180 (by decide)
                        have h_182 := fr_154.at h_133 (by simp only [List.mem_cons, List.not_mem_nil, or_false, not_or, not_false_eq_true]; try omega)
                        have h_183 := fr_167.at h_182 (by simp only [List.mem_cons, List.not_mem_nil, or_false, not_or, not_false_eq_true]; try omega)
                        have h_184 := fr_174.at h_183 (by decide)
                        have h_185 := fr_154.at h_138 (by simp only [List.mem_cons, List.not_mem_nil, or_false, not_or, not_false_eq_true]; try omega)
                        have h_186 := fr_167.at h_185 (by simp only [List.mem_cons, List.not_mem_nil, or_false, not_or, not_false_eq_true]; try omega)
                        have h_187 := fr_174.at h_186 (by decide)
                        have h_188 := fr_167.at h_159 (by simp only [List.mem_cons, List.not_mem_nil, or_false, not_or, not_false_eq_true]; try omega)
                        have h_189 := fr_174.at h_188 (by decide)
                        have hmd9 := IsMd_push h_187 h_189 h_6 h_7 hfrz (by intro v hv; simp only [List.mem_cons, List.not_mem_nil, or_false] at hv; omega) (by rw [← hen9]; exact h_181) (by rw [← hen9]; exact h_184) (by rw [← hen9]; exact h_143) (by rw [← hen9]; exact h_144) (by rw [← hen9]; exact h_176) (by rw [← hen9]; exact h_177) (by omega) (show 0 ≤ sort ∧ sort ≤ 3 by omega)
                        have hln : (((es ++ [(sort, ad, [] ++ (xs.drop (0 : Int).toNat).take (tm - 0).toNat, ([] : List Int))]).length : Nat) : Int) = en + 1 := by rw [List.length_append, List.length_singleton]; omega
                        exact G_iretX hC hQ (by omega) (by omega) d_Mo_entry_248 ⟨by rw [if_neg (by omega), if_pos hyes.1, hyes.2, hln], by rw [hyes.2, hln]; exact h_173, by rw [hyes.2]; exact hmd9, hfrz⟩
                      · exact (show False from by omega).elim
                    · exact (show False from by omega).elim
                  · exact (show False from by omega).elim
                · have c_122 := b2i_eq0.mp c_122
                  refine G_iconst (i := (-1)) hC d_Mo_entry_116 ?_
                  have hno := ent_no (es := es) (xs := xs) (sort := sort) (ad := ad) (by rw [hz]; exact (fun y => by have y1 := y.1; rcases y.2 with y | y | y; omega; omega; (rw [y.2, ← htm] at y1; exact nt c_122 y1)))
                  have h_190 := h_Md_sa.fr fr_16 (by intro u hu; simp only [List.mem_cons, List.not_mem_nil, or_false] at hu <;> omega)
                  exact G_iretX hC hQ (by omega) (by omega) d_Mo_entry_117 ⟨by rw [if_neg (by omega), if_neg (nt hno.1)], by rw [hno.2, ← hen]; exact h_15, by rw [hno.2]; exact h_190, (fr_16.up (T := [500, 504, 505, 600 + 4 * es.length, 600 + 4 * es.length + 1, 600 + 4 * es.length + 2, 600 + 4 * es.length + 3]) (by simp))⟩
              · exact (show False from by omega).elim
            · exact (show False from by omega).elim
          · exact (show False from by omega).elim
        · refine G_iconst (i := 1) hC d_Mo_entry_43 ?_
          refine G_goto hC 48 (by decide) d_Mo_entry_44 ?_
          refine G_istore (lv' := [(5, vI 1), (4, vI 0), (3, vI tm), (0, .ref a), (1, vI sort), (2, .int ad)]) hC (by rw [hN]; decide) rfl d_Mo_entry_48 ?_
          have L50 : ∀ (N : Nat) (b : Int), (tm - b).toNat < N → (0 ≤ b ∧ b ≤ tm) → (findS xs 32 b (xs.length : Int) = z) → G E M_12 (0 + 0) (0 + 0) [(0, .ref a), (1, vI sort), (2, .int ad), (3, vI tm), (4, vI b), (5, vI 1)] [] 50 := by
            intro N
            induction N with
            | zero => intro b hN50 hb hf; exact absurd hN50 (Nat.not_lt_zero _)
            | succ N ih50 =>
              intro b hN50 hb hf
              refine G_iload hC 5 rfl d_Mo_entry_50 ?_
              refine G_if_eq hC 79 (by decide) (by decide) d_Mo_entry_52 (fun c_191 => ?_) (fun c_191 => ?_)
              · exact (show False from by omega).elim
              · refine G_iload hC 4 rfl d_Mo_entry_55 ?_
                refine G_iload_n hC 3 rfl rfl d_Mo_entry_57 ?_
                refine G_icmp_ge hC 79 (by omega) (by omega) (by decide) d_Mo_entry_58 (fun c_192 => ?_) (fun c_192 => ?_)
                · have hzb : z = b := by rw [findS] at hf; (repeat' split at hf); all_goals first | omega | (exfalso; omega)
                  subst hzb
                  refine G_iload hC 5 rfl d_Mo_entry_79 ?_
                  refine G_if_eq hC 89 (by decide) (by decide) d_Mo_entry_81 (fun c_193 => ?_) (fun c_193 => ?_)
                  · exact (show False from by omega).elim
                  · refine G_iload hC 4 rfl d_Mo_entry_84 ?_
                    refine G_goto hC 90 (by decide) d_Mo_entry_86 ?_
                    refine G_istore (lv' := [(6, vI z), (0, .ref a), (1, vI sort), (2, .int ad), (3, vI tm), (4, vI z), (5, vI 1)]) hC (by rw [hN]; decide) rfl d_Mo_entry_90 ?_
                    refine G_iload hC 6 rfl d_Mo_entry_92 ?_
                    refine G_if_eq hC 103 (by decide) (by decide) d_Mo_entry_94 (fun c_194 => ?_) (fun c_194 => ?_)
                    · exact (show False from by omega).elim
                    · refine G_iload hC 5 rfl d_Mo_entry_97 ?_
                      refine G_iload_n hC 4 rfl rfl d_Mo_entry_99 ?_
                      refine G_icmp_eq hC 116 (by omega) (by omega) (by decide) d_Mo_entry_100 (fun c_195 => ?_) (fun c_195 => ?_)
                      · refine G_iconst (i := (-1)) hC d_Mo_entry_116 ?_
                        have hno := ent_no (es := es) (xs := xs) (sort := sort) (ad := ad) (by rw [hz]; exact (fun y => by rcases y.2 with y | y | y <;> omega))
                        have h_196 := h_Md_sa.fr fr_16 (by intro u hu; simp only [List.mem_cons, List.not_mem_nil, or_false] at hu <;> omega)
                        exact G_iretX hC hQ (by omega) (by omega) d_Mo_entry_117 ⟨by rw [if_neg (by omega), if_neg (nt hno.1)], by rw [hno.2, ← hen]; exact h_15, by rw [hno.2]; exact h_196, (fr_16.up (T := [500, 504, 505, 600 + 4 * es.length, 600 + 4 * es.length + 1, 600 + 4 * es.length + 2, 600 + 4 * es.length + 3]) (by simp))⟩
                      · exact (show False from by omega).elim
                · refine G_aload_n hC 0 rfl rfl d_Mo_entry_61 ?_
                  refine G_get hC fl_Mo_23 h_15 rfl d_Mo_entry_62 ?_
                  refine G_iload hC 4 rfl d_Mo_entry_65 ?_
                  have h_197 := h_row_tp.fr fr_16 (by decide)
                  refine G_baldR hC h_197 (by omega) d_Mo_entry_67 ?_
                  have g_198 := h_197.rng b
                  have g_199 := atS_gx (xs := xs) (i := b) (by omega)
                  refine G_bipush (j := 32) hC (by decide +kernel) d_Mo_entry_68 ?_
                  refine G_icmp_eq hC 79 (by omega) (by decide) (by decide) d_Mo_entry_70 (fun c_200 => ?_) (fun c_200 => ?_)
                  · have hzb : z = b := by rw [findS] at hf; (repeat' split at hf); all_goals first | omega | (exfalso; omega)
                    subst hzb
                    refine G_iload hC 5 rfl d_Mo_entry_79 ?_
                    refine G_if_eq hC 89 (by decide) (by decide) d_Mo_entry_81 (fun c_201 => ?_) (fun c_201 => ?_)
                    · exact (show False from by omega).elim
                    · refine G_iload hC 4 rfl d_Mo_entry_84 ?_
                      refine G_goto hC 90 (by decide) d_Mo_entry_86 ?_
                      refine G_istore (lv' := [(6, vI z), (0, .ref a), (1, vI sort), (2, .int ad), (3, vI tm), (4, vI z), (5, vI 1)]) hC (by rw [hN]; decide) rfl d_Mo_entry_90 ?_
                      refine G_iload hC 6 rfl d_Mo_entry_92 ?_
                      refine G_if_eq hC 103 (by decide) (by decide) d_Mo_entry_94 (fun c_202 => ?_) (fun c_202 => ?_)
                      · exact (show False from by omega).elim
                      · refine G_iload hC 5 rfl d_Mo_entry_97 ?_
                        refine G_iload_n hC 4 rfl rfl d_Mo_entry_99 ?_
                        refine G_icmp_eq hC 116 (by omega) (by omega) (by decide) d_Mo_entry_100 (fun c_203 => ?_) (fun c_203 => ?_)
                        · exact (show False from by omega).elim
                        · refine G_aload_n hC 1 rfl rfl d_Mo_entry_103 ?_
                          refine G_get hC fl_Mo_23 h_15 rfl d_Mo_entry_104 ?_
                          refine G_iconst (i := 0) hC d_Mo_entry_107 ?_
                          refine G_iload hC 0 rfl d_Mo_entry_108 ?_
                          refine G_pS (rest := []) hC hR (c_Tx_isName h_197 (by omega) (by omega) rfl) cs_Mo_78 (by decide) (by omega) (by omega) rfl rfl (Nat.le_of_ble_eq_true rfl) d_Mo_entry_110 ?_
                          refine G_if_ne hC 118 (by have := b2i_rng (nameS xs 0 z); omega) (by decide) d_Mo_entry_113 (fun c_204 => ?_) (fun c_204 => ?_)
                          · have c_204 := b2i_ne0.mp c_204
                            have hnm := c_204
                            have hnl := nameL_ne hnm
                            refine G_iload_n hC 2 rfl rfl d_Mo_entry_118 ?_
                            refine G_iconst (i := 2) hC d_Mo_entry_119 ?_
                            refine G_icmp_ne hC 138 (by omega) (by decide) (by decide) d_Mo_entry_120 (fun c_205 => ?_) (fun c_205 => ?_)
                            · exact (show False from by omega).elim
                            · refine G_aload_n hC 1 rfl rfl d_Mo_entry_123 ?_
                              refine G_get hC fl_Mo_23 h_15 rfl d_Mo_entry_124 ?_
                              refine G_iload hC 5 rfl d_Mo_entry_127 ?_
                              refine G_iconst (i := 1) hC d_Mo_entry_129 ?_
                              refine G_iadd hC d_Mo_entry_130 ?_
                              refine G_iload_n hC 4 rfl rfl d_Mo_entry_131 ?_
                              refine G_pS (rest := []) hC hR (c_Tx_isName h_197 (by omega) (by omega) rfl) cs_Mo_78 (by decide) (by omega) (by omega) rfl rfl (Nat.le_of_ble_eq_true rfl) d_Mo_entry_132 ?_
                              refine G_if_eq hC 154 (by have := b2i_rng (nameS xs (z + 1) tm); omega) (by decide) d_Mo_entry_135 (fun c_206 => ?_) (fun c_206 => ?_)
                              · have c_206 := b2i_eq0.mp c_206
                                refine G_iconst (i := (-1)) hC d_Mo_entry_154 ?_
                                have hno := ent_no (es := es) (xs := xs) (sort := sort) (ad := ad) (by rw [hz]; exact (fun y => by rcases y.2 with y | y | y; omega; (have y1 := y.2.2; rw [← htm] at y1; exact nt c_206 y1); omega))
                                have h_207 := h_Md_sa.fr fr_16 (by intro u hu; simp only [List.mem_cons, List.not_mem_nil, or_false] at hu <;> omega)
                                exact G_iretX hC hQ (by omega) (by omega) d_Mo_entry_155 ⟨by rw [if_neg (by omega), if_neg (nt hno.1)], by rw [hno.2, ← hen]; exact h_15, by rw [hno.2]; exact h_207, (fr_16.up (T := [500, 504, 505, 600 + 4 * es.length, 600 + 4 * es.length + 1, 600 + 4 * es.length + 2, 600 + 4 * es.length + 3]) (by simp))⟩
                              · have c_206 := b2i_ne0.mp c_206
                                refine G_iload_n hC 2 rfl rfl d_Mo_entry_138 ?_
                                refine G_if_ne hC 156 (by omega) (by decide) d_Mo_entry_139 (fun c_208 => ?_) (fun c_208 => ?_)
                                · have hen9 : en.toNat = es.length := by omega
                                  have hnv : nameS xs (z + 1) xs.length = true := by rw [← htm]; exact c_206
                                  have hnl2 := nameL_ne hnv
                                  have hgd : goodP xs sort z := ⟨hnm, Or.inr (Or.inl ⟨by omega, by omega, hnv⟩)⟩
                                  refine G_aload_n hC 1 rfl rfl d_Mo_entry_156 ?_
                                  refine G_get hC fl_Mo_36 h_15 rfl d_Mo_entry_157 ?_
                                  refine G_aload_n hC 1 rfl rfl d_Mo_entry_160 ?_
                                  refine G_get hC fl_Mo_73 h_15 rfl d_Mo_entry_161 ?_
                                  refine G_iload_n hC 2 rfl rfl d_Mo_entry_164 ?_
                                  have h_209 := fr_16.at h_1 (by decide)
                                  refine G_iastX hC h_209 (by omega) (by omega) d_Mo_entry_165 (fun M_210 h_211 fr_212 => ?_)
                                  refine G_aload_n hC 1 rfl rfl d_Mo_entry_166 ?_
                                  have h_213 := fr_212.at h_15 (by decide)
                                  refine G_get hC fl_Mo_40 h_213 rfl d_Mo_entry_167 ?_
                                  refine G_aload_n hC 1 rfl rfl d_Mo_entry_170 ?_
                                  refine G_get hC fl_Mo_73 h_213 rfl d_Mo_entry_171 ?_
                                  refine G_iload_n hC 3 rfl rfl d_Mo_entry_174 ?_
                                  refine G_X2I ?_
                                  have h_214 := fr_16.at h_2 (by decide)
                                  have h_215 := fr_212.at h_214 (by decide)
                                  refine G_iastX hC h_215 (by omega) (by omega) d_Mo_entry_175 (fun M_216 h_217 fr_218 => ?_)
                                  refine G_aload_n hC 1 rfl rfl d_Mo_entry_176 ?_
                                  have h_219 := fr_218.at h_213 (by decide)
                                  refine G_get hC fl_Mo_43 h_219 rfl d_Mo_entry_177 ?_
                                  refine G_aload_n hC 1 rfl rfl d_Mo_entry_180 ?_
                                  refine G_get hC fl_Mo_73 h_219 rfl d_Mo_entry_181 ?_
                                  have h_220 := fr_16.at h_3 (by decide)
                                  have h_221 := fr_212.at h_220 (by decide)
                                  have h_222 := fr_218.at h_221 (by decide)
                                  obtain ⟨t_223, u_224, ns_225, vs_226, h_227, h_228, h_229, h_230, h_231⟩ := h_7 (en : Int).toNat (by omega)
                                  refine G_aald hC h_222 rfl (by omega) (by omega) (by rw [h_227]) d_Mo_entry_184 ?_
                                  refine G_aload_n hC 1 rfl rfl d_Mo_entry_185 ?_
                                  refine G_get hC fl_Mo_23 h_219 rfl d_Mo_entry_186 ?_
                                  refine G_iconst (i := 0) hC d_Mo_entry_189 ?_
                                  refine G_iload hC 0 rfl d_Mo_entry_190 ?_
                                  have h_232 := h_197.fr fr_212 (by decide)
                                  have h_233 := h_232.fr fr_218 (by decide)
                                  refine G_xV (rest := []) hC hR (c_Tx_set h_229 h_233 (by omega) (by omega) (by omega)) cv_Mo_82 h_229.obj (by decide) (by omega) (by omega) rfl rfl (Nat.le_of_ble_eq_true rfl) d_Mo_entry_192 (fun r_236 M_234 p_235 => ?_)
                                  obtain ⟨rfl, h_237, fr_238⟩ := p_235
                                  show G E M_234 (0 + 0 + 0) (0 + 0 + 0) [(6, vI z), (0, .ref a), (1, vI sort), (2, .int ad), (3, vI tm), (4, vI z), (5, vI 1)] [] 195
                                  refine G_aload_n hC 1 rfl rfl d_Mo_entry_195 ?_
                                  have h_239 := fr_238.at h_219 (by simp only [List.mem_cons, List.not_mem_nil, or_false, not_or, not_false_eq_true]; try omega)
                                  refine G_get hC fl_Mo_47 h_239 rfl d_Mo_entry_196 ?_
                                  refine G_aload_n hC 1 rfl rfl d_Mo_entry_199 ?_
                                  refine G_get hC fl_Mo_73 h_239 rfl d_Mo_entry_200 ?_
                                  have h_240 := fr_16.at h_4 (by decide)
                                  have h_241 := fr_212.at h_240 (by decide)
                                  have h_242 := fr_218.at h_241 (by decide)
                                  have h_243 := fr_238.at h_242 (by simp only [List.mem_cons, List.not_mem_nil, or_false, not_or, not_false_eq_true]; try omega)
                                  refine G_aald hC h_243 rfl (by omega) (by omega) (by rw [h_228]) d_Mo_entry_203 ?_
                                  have h_244 := h_230.fr fr_238 (by simp only [List.mem_cons, List.not_mem_nil, or_false, not_or, not_false_eq_true]; try omega) (by simp only [List.mem_cons, List.not_mem_nil, or_false, not_or, not_false_eq_true]; try omega)
                                  have g_248 := h_244.len
                                  obtain ⟨r_245, h_246, h_247⟩ := id h_244
                                  refine G_iconst (i := 0) hC d_Mo_entry_204 ?_
                                  refine G_putX (fs' := [.ref r_245, vI 0]) hC fl_Mo_86 ft_Tx fw_Tx_1 h_246 rfl rfl (Nat.le_of_ble_eq_true rfl) rfl d_Mo_entry_205 (fun M_249 h_250 fr_251 => ?_)
                                  have h_252 := h_247.fr fr_251 (by simp only [List.mem_cons, List.not_mem_nil, or_false, not_or, not_false_eq_true]; try omega)
                                  have h_253 : IsT (eD E) M_249 u_224 600 + 4 * (en : Int).toNat + 2 700 ([] : List Int) := ⟨r_245, h_250, h_252.take 0⟩
                                  refine G_iload hC 6 rfl d_Mo_entry_208 ?_
                                  refine G_if_eq hC 234 (by decide) (by decide) d_Mo_entry_210 (fun c_254 => ?_) (fun c_254 => ?_)
                                  · exact (show False from by omega).elim
                                  · refine G_aload_n hC 1 rfl rfl d_Mo_entry_213 ?_
                                    have h_255 := fr_251.at h_239 (by simp only [List.mem_cons, List.not_mem_nil, or_false, not_or, not_false_eq_true]; try omega)
                                    refine G_get hC fl_Mo_47 h_255 rfl d_Mo_entry_214 ?_
                                    refine G_aload_n hC 1 rfl rfl d_Mo_entry_217 ?_
                                    refine G_get hC fl_Mo_73 h_255 rfl d_Mo_entry_218 ?_
                                    have h_256 := fr_251.at h_243 (by simp only [List.mem_cons, List.not_mem_nil, or_false, not_or, not_false_eq_true]; try omega)
                                    refine G_aald hC h_256 rfl (by omega) (by omega) (by rw [h_228]) d_Mo_entry_221 ?_
                                    refine G_aload_n hC 1 rfl rfl d_Mo_entry_222 ?_
                                    refine G_get hC fl_Mo_23 h_255 rfl d_Mo_entry_223 ?_
                                    refine G_iload hC 5 rfl d_Mo_entry_226 ?_
                                    refine G_iconst (i := 1) hC d_Mo_entry_228 ?_
                                    refine G_iadd hC d_Mo_entry_229 ?_
                                    refine G_iload_n hC 4 rfl rfl d_Mo_entry_230 ?_
                                    have h_257 := h_233.fr fr_238 (by simp only [List.mem_cons, List.not_mem_nil, or_false, not_or, not_false_eq_true]; try omega)
                                    have h_258 := h_257.fr fr_251 (by simp only [List.mem_cons, List.not_mem_nil, or_false, not_or, not_false_eq_true]; try omega)
                                    refine G_xV (rest := []) hC hR (c_Tx_set h_253 h_258 (by omega) (by omega) (by omega)) cv_Mo_82 ⟨_, _, h_250⟩ (by decide) (by omega) (by omega) rfl rfl (Nat.le_of_ble_eq_true rfl) d_Mo_entry_231 (fun r_261 M_259 p_260 => ?_)
                                    obtain ⟨rfl, h_262, fr_263⟩ := p_260
                                    show G E M_259 (0 + 0 + 0 + 0) (0 + 0 + 0 + 0) [(6, vI z), (0, .ref a), (1, vI sort), (2, .int ad), (3, vI tm), (4, vI z), (5, vI 1)] [] 234
                                    refine G_aload_n hC 1 rfl rfl d_Mo_entry_234 ?_
                                    refine G_dup hC rfl d_Mo_entry_235 ?_
                                    have h_264 := fr_263.at h_255 (by simp only [List.mem_cons, List.not_mem_nil, or_false, not_or, not_false_eq_true]; try omega)
                                    refine G_get hC fl_Mo_73 h_264 rfl d_Mo_entry_236 ?_
                                    refine G_iconst (i := 1) hC d_Mo_entry_239 ?_
                                    refine G_iadd hC d_Mo_entry_240 ?_
                                    refine G_putX (fs' := [.ref tp, vI 0, vI (en + 1), .ref ou, .ref sa, .ref aa, .ref na, .ref va, .ref lo, .ref dm, .int fm, vI st, .ref tg, vI cn, vI vo, .ref pc, vI k0, vI s0, vI f0, vI o0, vI n0, .int w0]) hC fl_Mo_73 ft_Mo fw_Mo_2 h_264 rfl rfl (Nat.le_of_ble_eq_true rfl) rfl d_Mo_entry_241 (fun M_265 h_266 fr_267 => ?_)
                                    refine G_aload_n hC 1 rfl rfl d_Mo_entry_244 ?_
                                    refine G_get hC fl_Mo_73 h_266 rfl d_Mo_entry_245 ?_
                                    have h_268 := h_237.fr fr_251 (by simp only [List.mem_cons, List.not_mem_nil, or_false, not_or, not_false_eq_true]; try omega) (by simp only [List.mem_cons, List.not_mem_nil, or_false, not_or, not_false_eq_true]; try omega)
                                    have h_269 := h_268.fr fr_263 (by simp only [List.mem_cons, List.not_mem_nil, or_false, not_or, not_false_eq_true]; try omega) (by simp only [List.mem_cons, List.not_mem_nil, or_false, not_or, not_false_eq_true]; try omega)
                                    have h_270 := h_269.fr fr_267 (by simp only [List.mem_cons, List.not_mem_nil, or_false, not_or, not_false_eq_true]; try omega) (by simp only [List.mem_cons, List.not_mem_nil, or_false, not_or, not_false_eq_true]; try omega)
                                    have h_271 := h_262.fr fr_267 (by simp only [List.mem_cons, List.not_mem_nil, or_false, not_or, not_false_eq_true]; try omega) (by simp only [List.mem_cons, List.not_mem_nil, or_false, not_or, not_false_eq_true]; try omega)
                                    have hyes := ent_yes (es := es) (xs := xs) (sort := sort) (ad := ad) (ns := [] ++ (xs.drop (0 : Int).toNat).take (z - 0).toNat) (vs := [] ++ (xs.drop ((z + 1) : Int).toNat).take (tm - (z + 1)).toNat) (by omega) hz hgd (by rw [List.nil_append, sl_head]) (by rw [List.nil_append, sl_tail (e := tm) (by omega) htm, show min (z + 1) (xs.length : Int) = z + 1 by omega])
                                    have hfrz : Fr [500, 504, 505, 600 + 4 * es.length, 600 + 4 * es.length + 1, 600 + 4 * es.length + 2, 600 + 4 * es.length + 3] M M_265 := (((((((fr_16.up (T := [500, 504, 505, 600 + 4 * es.length, 600 + 4 * es.length + 1, 600 + 4 * es.length + 2, 600 + 4 * es.length + 3]) (by simp)).tr' (T := [500, 504, 505, 600 + 4 * es.length, 600 + 4 * es.length + 1, 600 + 4 * es.length + 2, 600 + 4 * es.length + 3]) fr_212 (fun _ z => z) (by simp)).tr' (T := [500, 504, 505, 600 + 4 * es.length, 600 + 4 * es.length + 1, 600 + 4 * es.length + 2, 600 + 4 * es.length + 3]) fr_218 (fun _ z => z) (by simp)).tr' (T := [500, 504, 505, 600 + 4 * es.length, 600 + 4 * es.length + 1, 600 + 4 * es.length + 2, 600 + 4 * es.length + 3]) fr_238 (fun _ z => z) (by simp)).tr' (T := [500, 504, 505, 600 + 4 * es.length, 600 + 4 * es.length + 1, 600 + 4 * es.length + 2, 600 + 4 * es.length + 3]) fr_251 (fun _ z => z) (by simp)).tr' (T := [500, 504, 505, 600 + 4 * es.length, 600 + 4 * es.length + 1, 600 + 4 * es.length + 2, 600 + 4 * es.length + 3]) fr_263 (fun _ z => z) (by simp)).tr' (T := [500, 504, 505, 600 + 4 * es.length, 600 + 4 * es.length + 1, 600 + 4 * es.length + 2, 600 + 4 * es.length + 3]) fr_267 (fun _ z => z) (by simp))
                                    have h_272 := fr_218.at h_211 (by decide)
                                    have h_273 := fr_238.at h_272 (by simp only [List.mem_cons, List.not_mem_nil, or_false, not_or, not_false_eq_true]; try omega)
                                    have h_274 := fr_251.at h_273 (by simp only [List.mem_cons, List.not_mem_nil, or_false, not_or, not_false_eq_true]; try omega)
                                    have h_275 := fr_263.at h_274 (by simp only [List.mem_cons, List.not_mem_nil, or_false, not_or, not_false_eq_true]; try omega)
                                    have h_276 := fr_267.at h_275 (by decide)
                                    have h_277 := fr_238.at h_217 (by simp only [List.mem_cons, List.not_mem_nil, or_false, not_or, not_false_eq_true]; try omega)
                                    have h_278 := fr_251.at h_277 (by simp only [List.mem_cons, List.not_mem_nil, or_false, not_or, not_false_eq_true]; try omega)
                                    have h_279 := fr_263.at h_278 (by simp only [List.mem_cons, List.not_mem_nil, or_false, not_or, not_false_eq_true]; try omega)
                                    have h_280 := fr_267.at h_279 (by decide)
                                    have h_281 := fr_238.at h_222 (by simp only [List.mem_cons, List.not_mem_nil, or_false, not_or, not_false_eq_true]; try omega)
                                    have h_282 := fr_251.at h_281 (by simp only [List.mem_cons, List.not_mem_nil, or_false, not_or, not_false_eq_true]; try omega)
                                    have h_283 := fr_263.at h_282 (by simp only [List.mem_cons, List.not_mem_nil, or_false, not_or, not_false_eq_true]; try omega)
                                    have h_284 := fr_267.at h_283 (by decide)
                                    have h_285 := fr_263.at h_256 (by simp only [List.mem_cons, List.not_mem_nil, or_false, not_or, not_false_eq_true]; try omega)
                                    have h_286 := fr_267.at h_285 (by decide)
                                    have hmd9 := IsMd_push h_284 h_286 h_6 h_7 hfrz (by intro v hv; simp only [List.mem_cons, List.not_mem_nil, or_false] at hv; omega) (by rw [← hen9]; exact h_276) (by rw [← hen9]; exact h_280) (by rw [← hen9]; exact h_227) (by rw [← hen9]; exact h_228) (by rw [← hen9]; exact h_270) (by rw [← hen9]; exact h_271) (by omega) (show 0 ≤ sort ∧ sort ≤ 3 by omega)
                                    have hln : (((es ++ [(sort, ad, [] ++ (xs.drop (0 : Int).toNat).take (z - 0).toNat, [] ++ (xs.drop ((z + 1) : Int).toNat).take (tm - (z + 1)).toNat)]).length : Nat) : Int) = en + 1 := by rw [List.length_append, List.length_singleton]; omega
                                    exact G_iretX hC hQ (by omega) (by omega) d_Mo_entry_248 ⟨by rw [if_neg (by omega), if_pos hyes.1, hyes.2, hln], by rw [hyes.2, hln]; exact h_266, by rw [hyes.2]; exact hmd9, hfrz⟩
                                · exact (show False from by omega).elim
                          · have c_204 := b2i_eq0.mp c_204
                            refine G_iconst (i := (-1)) hC d_Mo_entry_116 ?_
                            have hno := ent_no (es := es) (xs := xs) (sort := sort) (ad := ad) (by rw [hz]; exact (fun y => nt c_204 y.1))
                            have h_287 := h_Md_sa.fr fr_16 (by intro u hu; simp only [List.mem_cons, List.not_mem_nil, or_false] at hu <;> omega)
                            exact G_iretX hC hQ (by omega) (by omega) d_Mo_entry_117 ⟨by rw [if_neg (by omega), if_neg (nt hno.1)], by rw [hno.2, ← hen]; exact h_15, by rw [hno.2]; exact h_287, (fr_16.up (T := [500, 504, 505, 600 + 4 * es.length, 600 + 4 * es.length + 1, 600 + 4 * es.length + 2, 600 + 4 * es.length + 3]) (by simp))⟩
                  · refine G_iinc (lv' := [(4, vI (b + 1)), (0, .ref a), (1, vI sort), (2, .int ad), (3, vI tm), (5, vI 1)]) hC 4 rfl (by rw [hN]; decide) rfl d_Mo_entry_73 ?_
                    refine G_goto hC 50 (by decide) d_Mo_entry_76 ?_
                    refine G_lv [1, 2, 3, 4, 0, 5] rfl ?_
                    exact ih50 (b + 1) (by omega) (by omega) (by rw [findS] at hf; (repeat' split at hf); all_goals first | exact hf | (exfalso; omega) | omega)
          refine G_lv [3, 4, 5, 2, 1, 0] rfl ?_
          exact L50 _ 0 (Nat.lt_succ_self _) (by omega) hz
    · have c_18 := b2i_eq0.mp c_18
      have c_18 := of_decide_eq_false c_18
      refine G_iconst (i := (-1)) hC d_Mo_entry_32 ?_
      have hno := ent_no (es := es) (xs := xs) (sort := sort) (ad := ad) (by rw [hz]; exact (fun y => by rcases y.2 with y | y | y <;> omega))
      have h_288 := h_Md_sa.fr fr_16 (by intro u hu; simp only [List.mem_cons, List.not_mem_nil, or_false] at hu <;> omega)
      exact G_iretX hC hQ (by omega) (by omega) d_Mo_entry_33 ⟨by rw [if_neg (by omega), if_neg (nt hno.1)], by rw [hno.2, ← hen]; exact h_15, by rw [hno.2]; exact h_288, (fr_16.up (T := [500, 504, 505, 600 + 4 * es.length, 600 + 4 * es.length + 1, 600 + 4 * es.length + 2, 600 + 4 * es.length + 3]) (by simp))⟩
  · refine G_bipush (j := (-3)) hC (by decide +kernel) d_Mo_entry_17 ?_
    have hno := ent_full (es := es) (xs := xs) (sort := sort) (ad := ad) (by omega)
    have h_289 := h_Md_sa.fr fr_16 (by intro u hu; simp only [List.mem_cons, List.not_mem_nil, or_false] at hu <;> omega)
    exact G_iretX hC hQ (by omega) (by omega) d_Mo_entry_19 ⟨by rw [if_pos (by omega)], by rw [hno.2, ← hen]; exact h_15, by rw [hno.2]; exact h_289, (fr_16.up (T := [500, 504, 505, 600 + 4 * es.length, 600 + 4 * es.length + 1, 600 + 4 * es.length + 2, 600 + 4 * es.length + 3]) (by simp))⟩
