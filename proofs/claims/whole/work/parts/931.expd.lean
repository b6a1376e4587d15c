set_option maxHeartbeats 4000000 in
set_option maxRecDepth 100000 in
theorem c_Mo_expand2 {l : Launch} {D : Dg} {b0 : Nat} {M : Mp} {a : Nat} {p : Nat} {fr : Int} {to : Int} {d : Nat} {o : Nat} {tp : Nat} {tm : Int} {en : Int} {ou : Nat} {sa : Nat} {aa : Nat} {na : Nat} {va : Nat} {lo : Nat} {dm : Nat} {fm : Int32} {st : Int} {tg : Nat} {cn : Int} {vo : Int} {pc : Nat} {k0 : Int} {s0 : Int} {f0 : Int} {o0 : Int} {n0 : Int} {w0 : Int32} {tr : Nat} {lr : Nat} {ys : List Int} {ls : List Int} {ds : List Int} {td : Nat} {ld : Nat} {X : List Int} {ps : List Int} {t : Nat} {len : Nat} {xs : List Int} {W : List Int} (h_obj_a : M a = some (500, .inr (cMo, [.ref tp, vI tm, vI en, .ref ou, .ref sa, .ref aa, .ref na, .ref va, .ref lo, .ref dm, .int fm, vI st, .ref tg, vI cn, vI vo, .ref pc, vI k0, vI s0, vI f0, vI o0, vI n0, .int w0]))) (h_row_p : Row D M p tr lr ys) (h_Tx_lo : IsT D M lo 508 30 ls) (h_Tx_dm : IsT D M dm 510 60 ds) (h_Tx_d : IsT D M d td ld X) (h_Tx_pc : IsT D M pc 513 100 ps) (h_Tx_o : IsT D M o t len xs) (ht : tgP t) (htd : tdP td t) (htr : trP tr) (hX : X.length ≤ 61) (hsn : sndP (ls, ds, fm)) (hfr : 0 ≤ fr ∧ fr ≤ 20000 ∧ 0 ≤ to ∧ to ≤ ys.length) (htg : targL ys to fr = true) (hr : (expL (ls, ds, fm) X ys to fr).take len = W) : Ok l D b0 6 y_Mo_expand2 b_Mo_expand2 8 none M [.ref a, .ref p, vI fr, vI to, .ref d, .ref o] 0 0 (fun r M' => ∃ ps1 : List Int, r = none ∧ IsT D M' o t len W ∧ IsT D M' pc 513 100 ps1 ∧ Fr [t, t + 1, 513, 514] M M') := by
  refine Ok_of rfl (Nat.le_of_ble_eq_true rfl) (fun E hC hQ hl hD hB hN hR => ?_)
  subst hl hD hB
  have hr9 := h_row_p.len
  have hr8 := h_Tx_o.len
  have g_4 := h_Tx_o.len
  obtain ⟨r_1, h_2, h_3⟩ := id h_Tx_o
  show G E M 0 0 [(0, .ref a), (1, .ref p), (2, vI fr), (3, vI to), (4, .ref d), (5, .ref o)] [] 0
  refine G_aload hC 5 rfl d_Mo_expand2_0 ?_
  refine G_iconst (i := 0) hC d_Mo_expand2_2 ?_
  refine G_putX (fs' := [.ref r_1, vI 0]) hC fl_Mo_86 ft_Tx fw_Tx_1 h_2 rfl rfl (Nat.le_of_ble_eq_true rfl) rfl d_Mo_expand2_3 (fun M_5 h_6 fr_7 => ?_)
  have h_8 := h_3.fr fr_7 (by simp only [List.mem_cons, List.not_mem_nil, or_false, not_or, not_false_eq_true]; try omega)
  have h_9 : IsT (eD E) M_5 o t len ([] : List Int) := ⟨r_1, h_6, h_8.take 0⟩
  refine G_iload_n hC 2 rfl rfl d_Mo_expand2_6 ?_
  refine G_istore (lv' := [(6, vI fr), (0, .ref a), (1, .ref p), (2, vI fr), (3, vI to), (4, .ref d), (5, .ref o)]) hC (by rw [hN]; decide) rfl d_Mo_expand2_7 ?_
  have L9 : ∀ (N : Nat) (M9 : Mp) (k : Int) (cur : List Int) (ps9 : List Int), (to - k).toNat < N → (Fr [t, t + 1, 513, 514] M_5 M9) → (IsT (eD E) M9 o t len cur) → (IsT (eD E) M9 pc 513 100 ps9) → (fr ≤ k ∧ (k ≤ to ∨ k = fr)) → (targL ys to k = true) → ((cur ++ expL (ls, ds, fm) X ys to k).take len = W) → G E M9 0 0 [(0, .ref a), (1, .ref p), (2, vI fr), (3, vI to), (4, .ref d), (5, .ref o), (6, vI k)] [] 9 := by
    intro N
    induction N with
    | zero => intro M9 k cur ps9 hN9 hfr9 ho9 hp9 hk htl hf; exact absurd hN9 (Nat.not_lt_zero _)
    | succ N ih9 =>
      intro M9 k cur ps9 hN9 hfr9 ho9 hp9 hk htl hf
      have hcl := ho9.len
      refine G_iload hC 6 rfl d_Mo_expand2_9 ?_
      refine G_iload_n hC 3 rfl rfl d_Mo_expand2_11 ?_
      refine G_icmp_ge hC 168 (by omega) (by omega) (by decide) d_Mo_expand2_12 (fun c_10 => ?_) (fun c_10 => ?_)
      · have hW : cur = W := put_done (len := len) (by omega) (by rw [expL, dif_neg (show ¬ k < to by omega)] at hf; exact hf)
        exact G_return hC hQ (by omega) (by omega) d_Mo_expand2_168 ⟨_, rfl, by rw [← hW]; exact ho9, hp9, ((fr_7.up (T := [t, t + 1, 513, 514]) (by simp)).tr' (T := [t, t + 1, 513, 514]) hfr9 (fun _ z => z) (by simp))⟩
      · refine G_aload_n hC 1 rfl rfl d_Mo_expand2_15 ?_
        refine G_iload hC 6 rfl d_Mo_expand2_16 ?_
        have h_11 := h_row_p.fr fr_7 (m1 (trN ht htr))
        have h_12 := h_11.fr hfr9 (trN4 ht htr)
        refine G_baldR hC h_12 (by omega) d_Mo_expand2_18 ?_
        have g_13 := h_12.rng k
        have g_14 := atS_gx (xs := ys) (i := k) (by omega)
        refine G_bipush (j := 37) hC (by decide +kernel) d_Mo_expand2_19 ?_
        refine G_icmp_eq hC 36 (by omega) (by decide) (by decide) d_Mo_expand2_21 (fun c_15 => ?_) (fun c_15 => ?_)
        · have hml := tg_m htl (by omega) (by omega)
          have hm0 := hml.1
          have hmr := mlenS_rng ys k to
          have hm2 := ml_two hm0
          have hm4 := mlenS_4 hm0
          refine G_aload_n hC 1 rfl rfl d_Mo_expand2_36 ?_
          refine G_iload hC 6 rfl d_Mo_expand2_37 ?_
          refine G_iload_n hC 3 rfl rfl d_Mo_expand2_39 ?_
          refine G_pS (rest := []) hC hR (c_Mo_macro h_12 (by omega) (by omega) rfl) cs_Mo_126 (by decide) (by omega) (by omega) rfl rfl (Nat.le_of_ble_eq_true rfl) d_Mo_expand2_40 ?_
          have g_16 := mlenS_rng ys k to
          refine G_istore (lv' := [(7, vI (mlenS ys k to)), (0, .ref a), (1, .ref p), (2, vI fr), (3, vI to), (4, .ref d), (5, .ref o), (6, vI k)]) hC (by rw [hN]; decide) rfl d_Mo_expand2_43 ?_
          refine G_aload_n hC 2 rfl rfl d_Mo_expand2_45 ?_
          refine G_iload hC 7 rfl d_Mo_expand2_46 ?_
          refine G_iconst (i := 1) hC d_Mo_expand2_48 ?_
          refine G_iadd hC d_Mo_expand2_49 ?_
          refine G_baldR hC h_12 (by omega) d_Mo_expand2_50 ?_
          have g_17 := h_12.rng (k + 1)
          have g_18 := atS_gx (xs := ys) (i := k + 1) (by omega)
          refine G_bipush (j := 37) hC (by decide +kernel) d_Mo_expand2_51 ?_
          refine G_icmp_ne hC 66 (by omega) (by decide) (by decide) d_Mo_expand2_53 (fun c_19 => ?_) (fun c_19 => ?_)
          · refine G_aload_n hC 2 rfl rfl d_Mo_expand2_66 ?_
            refine G_iload hC 7 rfl d_Mo_expand2_67 ?_
            refine G_iconst (i := 1) hC d_Mo_expand2_69 ?_
            refine G_iadd hC d_Mo_expand2_70 ?_
            refine G_baldR hC h_12 (by omega) d_Mo_expand2_71 ?_
            have g_20 := h_12.rng (k + 1)
            have g_21 := atS_gx (xs := ys) (i := k + 1) (by omega)
            refine G_bipush (j := 95) hC (by decide +kernel) d_Mo_expand2_72 ?_
            refine G_icmp_ne hC 87 (by omega) (by decide) (by decide) d_Mo_expand2_74 (fun c_22 => ?_) (fun c_22 => ?_)
            · refine G_aload_n hC 2 rfl rfl d_Mo_expand2_87 ?_
              refine G_iload hC 7 rfl d_Mo_expand2_88 ?_
              refine G_iconst (i := 1) hC d_Mo_expand2_90 ?_
              refine G_iadd hC d_Mo_expand2_91 ?_
              refine G_baldR hC h_12 (by omega) d_Mo_expand2_92 ?_
              have g_23 := h_12.rng (k + 1)
              have g_24 := atS_gx (xs := ys) (i := k + 1) (by omega)
              refine G_bipush (j := 45) hC (by decide +kernel) d_Mo_expand2_93 ?_
              refine G_icmp_ne hC 108 (by omega) (by decide) (by decide) d_Mo_expand2_95 (fun c_25 => ?_) (fun c_25 => ?_)
              · refine G_aload_n hC 1 rfl rfl d_Mo_expand2_108 ?_
                refine G_aload_n hC 2 rfl rfl d_Mo_expand2_109 ?_
                refine G_iload hC 7 rfl d_Mo_expand2_110 ?_
                refine G_iconst (i := 2) hC d_Mo_expand2_112 ?_
                refine G_iadd hC d_Mo_expand2_113 ?_
                refine G_iload hC 7 rfl d_Mo_expand2_114 ?_
                refine G_iload hC 0 rfl d_Mo_expand2_116 ?_
                refine G_iadd hC d_Mo_expand2_118 ?_
                refine G_iconst (i := 1) hC d_Mo_expand2_119 ?_
                refine G_isub hC d_Mo_expand2_120 ?_
                refine G_aload hC 5 rfl d_Mo_expand2_121 ?_
                refine G_aload hC 6 rfl d_Mo_expand2_123 ?_
                have h_26 := fr_7.at h_obj_a (m1 (tgN ht 500 (by decide)))
                have h_27 := hfr9.at h_26 (tgN4 ht 500 (by decide))
                have h_28 := h_Tx_lo.fr fr_7 (m1 (tgN ht 508 (by decide))) (m1 (tgN ht 509 (by decide)))
                have h_29 := h_28.fr hfr9 (tgN4 ht 508 (by decide)) (tgN4 ht 509 (by decide))
                have h_30 := h_Tx_dm.fr fr_7 (m1 (tgN ht 510 (by decide))) (m1 (tgN ht 511 (by decide)))
                have h_31 := h_30.fr hfr9 (tgN4 ht 510 (by decide)) (tgN4 ht 511 (by decide))
                have h_32 := h_Tx_d.fr fr_7 (m1 (tdN htd).1) (m1 (tdN htd).2)
                have h_33 := h_32.fr hfr9 (tdN4 htd).1 (tdN4 htd).2
                refine G_xV (rest := []) hC hR (c_Mo_macroValue k (mlenS ys k to) to h_27 h_12 h_29 h_31 h_33 hp9 ho9 (by first | exact ht | (unfold tgP; omega)) (by first | exact htd | (unfold tdP; omega)) (by first | exact htr | (unfold trP; omega)) (by omega) hsn (by omega) (by omega) (by omega) rfl rfl) cv_Mo_188 ⟨_, _, h_27⟩ (by decide) (by omega) (by omega) rfl rfl (Nat.le_of_ble_eq_true rfl) d_Mo_expand2_125 (fun r_36 M_34 p_35 => ?_)
                obtain ⟨ps1_37, rfl, h_38, h_39, fr_40⟩ := p_35
                show G E M_34 (0 + 0) (0 + 0) [(7, vI (mlenS ys k to)), (0, .ref a), (1, .ref p), (2, vI fr), (3, vI to), (4, .ref d), (5, .ref o), (6, vI k)] [] 128
                refine G_aload_n hC 2 rfl rfl d_Mo_expand2_128 ?_
                refine G_iload hC 7 rfl d_Mo_expand2_129 ?_
                refine G_iconst (i := 1) hC d_Mo_expand2_131 ?_
                refine G_iadd hC d_Mo_expand2_132 ?_
                have h_41 := h_12.fr fr_40 (trN4 ht htr)
                refine G_baldR hC h_41 (by omega) d_Mo_expand2_133 ?_
                have g_42 := h_41.rng (k + 1)
                have g_43 := atS_gx (xs := ys) (i := k + 1) (by omega)
                refine G_bipush (j := 45) hC (by decide +kernel) d_Mo_expand2_134 ?_
                refine G_icmp_ne hC 153 (by omega) (by decide) (by decide) d_Mo_expand2_136 (fun c_44 => ?_) (fun c_44 => ?_)
                · refine G_iload hC 7 rfl d_Mo_expand2_153 ?_
                  refine G_iload hC 0 rfl d_Mo_expand2_155 ?_
                  refine G_iconst (i := 1) hC d_Mo_expand2_157 ?_
                  refine G_isub hC d_Mo_expand2_158 ?_
                  refine G_iadd hC d_Mo_expand2_159 ?_
                  refine G_istore (lv' := [(6, vI (k + ((mlenS ys k to) - 1))), (7, vI (mlenS ys k to)), (0, .ref a), (1, .ref p), (2, vI fr), (3, vI to), (4, .ref d), (5, .ref o)]) hC (by rw [hN]; decide) rfl d_Mo_expand2_160 ?_
                  refine G_iinc (lv' := [(6, vI ((k + ((mlenS ys k to) - 1)) + 1)), (7, vI (mlenS ys k to)), (0, .ref a), (1, .ref p), (2, vI fr), (3, vI to), (4, .ref d), (5, .ref o)]) hC 0 rfl (by rw [hN]; decide) rfl d_Mo_expand2_162 ?_
                  refine G_goto hC 9 (by decide) d_Mo_expand2_165 ?_
                  refine G_lv [2, 3, 4, 5, 6, 7, 0] rfl ?_
                  refine G_widen (k' := 0) (n' := 0) (by omega) (by omega) ?_
                  exact ih9 M_34 ((k + ((mlenS ys k to) - 1)) + 1) _ _ (by omega) ((hfr9.up (T := [t, t + 1, 513, 514]) (by simp)).tr' (T := [t, t + 1, 513, 514]) fr_40 (fun _ z => z) (by simp)) h_38 h_39 (by omega) (by rw [show (k + ((mlenS ys k to) - 1)) + 1 = k + mlenS ys k to by omega]; exact (tg_m htl (by omega) (by omega)).2) (by rw [show (k + ((mlenS ys k to) - 1)) + 1 = k + mlenS ys k to by omega]; exact ex_m htl (by omega) (by omega) (by omega) hf)
                · exact (show False from by omega).elim
              · refine G_aload hC 6 rfl d_Mo_expand2_98 ?_
                refine G_bipush (j := 37) hC (by decide +kernel) d_Mo_expand2_100 ?_
                refine G_xS (rest := []) hC hR (c_Mo_put ho9 (by omega)) cs_Mo_184 (by decide) (by omega) (by omega) rfl rfl (Nat.le_of_ble_eq_true rfl) d_Mo_expand2_102 (fun r_47 M_45 p_46 => ?_)
                obtain ⟨rfl, h_48, fr_49⟩ := p_46
                show G E M_45 (0 + 0) (0 + 0) [(7, vI (mlenS ys k to)), (0, .ref a), (1, .ref p), (2, vI fr), (3, vI to), (4, .ref d), (5, .ref o), (6, vI k)] [] 105
                refine G_goto hC 128 (by decide) d_Mo_expand2_105 ?_
                refine G_aload_n hC 2 rfl rfl d_Mo_expand2_128 ?_
                refine G_iload hC 7 rfl d_Mo_expand2_129 ?_
                refine G_iconst (i := 1) hC d_Mo_expand2_131 ?_
                refine G_iadd hC d_Mo_expand2_132 ?_
                have h_50 := h_12.fr fr_49 (trN ht htr)
                refine G_baldR hC h_50 (by omega) d_Mo_expand2_133 ?_
                have g_51 := h_50.rng (k + 1)
                have g_52 := atS_gx (xs := ys) (i := k + 1) (by omega)
                refine G_bipush (j := 45) hC (by decide +kernel) d_Mo_expand2_134 ?_
                refine G_icmp_ne hC 153 (by omega) (by decide) (by decide) d_Mo_expand2_136 (fun c_53 => ?_) (fun c_53 => ?_)
                · exact (show False from by omega).elim
                · refine G_aload hC 6 rfl d_Mo_expand2_139 ?_
                  refine G_bipush (j := 50) hC (by decide +kernel) d_Mo_expand2_141 ?_
                  refine G_xS (rest := []) hC hR (c_Mo_put h_48 (by omega)) cs_Mo_184 (by decide) (by omega) (by omega) rfl rfl (Nat.le_of_ble_eq_true rfl) d_Mo_expand2_143 (fun r_56 M_54 p_55 => ?_)
                  obtain ⟨rfl, h_57, fr_58⟩ := p_55
                  show G E M_54 (0 + 0 + 0) (0 + 0 + 0) [(7, vI (mlenS ys k to)), (0, .ref a), (1, .ref p), (2, vI fr), (3, vI to), (4, .ref d), (5, .ref o), (6, vI k)] [] 146
                  refine G_aload hC 6 rfl d_Mo_expand2_146 ?_
                  refine G_bipush (j := 48) hC (by decide +kernel) d_Mo_expand2_148 ?_
                  refine G_xS (rest := []) hC hR (c_Mo_put h_57 (by omega)) cs_Mo_184 (by decide) (by omega) (by omega) rfl rfl (Nat.le_of_ble_eq_true rfl) d_Mo_expand2_150 (fun r_61 M_59 p_60 => ?_)
                  obtain ⟨rfl, h_62, fr_63⟩ := p_60
                  show G E M_59 (0 + 0 + 0 + 0) (0 + 0 + 0 + 0) [(7, vI (mlenS ys k to)), (0, .ref a), (1, .ref p), (2, vI fr), (3, vI to), (4, .ref d), (5, .ref o), (6, vI k)] [] 153
                  refine G_iload hC 7 rfl d_Mo_expand2_153 ?_
                  refine G_iload hC 0 rfl d_Mo_expand2_155 ?_
                  refine G_iconst (i := 1) hC d_Mo_expand2_157 ?_
                  refine G_isub hC d_Mo_expand2_158 ?_
                  refine G_iadd hC d_Mo_expand2_159 ?_
                  refine G_istore (lv' := [(6, vI (k + ((mlenS ys k to) - 1))), (7, vI (mlenS ys k to)), (0, .ref a), (1, .ref p), (2, vI fr), (3, vI to), (4, .ref d), (5, .ref o)]) hC (by rw [hN]; decide) rfl d_Mo_expand2_160 ?_
                  refine G_iinc (lv' := [(6, vI ((k + ((mlenS ys k to) - 1)) + 1)), (7, vI (mlenS ys k to)), (0, .ref a), (1, .ref p), (2, vI fr), (3, vI to), (4, .ref d), (5, .ref o)]) hC 0 rfl (by rw [hN]; decide) rfl d_Mo_expand2_162 ?_
                  refine G_goto hC 9 (by decide) d_Mo_expand2_165 ?_
                  refine G_lv [2, 3, 4, 5, 6, 7, 0] rfl ?_
                  have h_64 := hp9.fr fr_49 (tgN ht 513 (by decide)) (tgN ht 514 (by decide))
                  have h_65 := h_64.fr fr_58 (tgN ht 513 (by decide)) (tgN ht 514 (by decide))
                  have h_66 := h_65.fr fr_63 (tgN ht 513 (by decide)) (tgN ht 514 (by decide))
                  refine G_widen (k' := 0) (n' := 0) (by omega) (by omega) ?_
                  exact ih9 M_59 ((k + ((mlenS ys k to) - 1)) + 1) _ _ (by omega) ((((hfr9.up (T := [t, t + 1, 513, 514]) (by simp)).tr' (T := [t, t + 1, 513, 514]) fr_49 (fun _ z => z) (by simp)).tr' (T := [t, t + 1, 513, 514]) fr_58 (fun _ z => z) (by simp)).tr' (T := [t, t + 1, 513, 514]) fr_63 (fun _ z => z) (by simp)) h_62 h_66 (by omega) (by rw [show (k + ((mlenS ys k to) - 1)) + 1 = k + mlenS ys k to by omega]; exact (tg_m htl (by omega) (by omega)).2) (by rw [show (k + ((mlenS ys k to) - 1)) + 1 = k + mlenS ys k to by omega]; exact ex_s (l := [37, 50, 48]) htl (by omega) (by omega) (by unfold signS; rw [if_neg (by omega), if_neg (by omega)]) (by omega) (put_3 (by omega)) hf)
            · refine G_aload hC 6 rfl d_Mo_expand2_77 ?_
              refine G_bipush (j := 32) hC (by decide +kernel) d_Mo_expand2_79 ?_
              refine G_xS (rest := []) hC hR (c_Mo_put ho9 (by omega)) cs_Mo_184 (by decide) (by omega) (by omega) rfl rfl (Nat.le_of_ble_eq_true rfl) d_Mo_expand2_81 (fun r_69 M_67 p_68 => ?_)
              obtain ⟨rfl, h_70, fr_71⟩ := p_68
              show G E M_67 (0 + 0) (0 + 0) [(7, vI (mlenS ys k to)), (0, .ref a), (1, .ref p), (2, vI fr), (3, vI to), (4, .ref d), (5, .ref o), (6, vI k)] [] 84
              refine G_goto hC 128 (by decide) d_Mo_expand2_84 ?_
              refine G_aload_n hC 2 rfl rfl d_Mo_expand2_128 ?_
              refine G_iload hC 7 rfl d_Mo_expand2_129 ?_
              refine G_iconst (i := 1) hC d_Mo_expand2_131 ?_
              refine G_iadd hC d_Mo_expand2_132 ?_
              have h_72 := h_12.fr fr_71 (trN ht htr)
              refine G_baldR hC h_72 (by omega) d_Mo_expand2_133 ?_
              have g_73 := h_72.rng (k + 1)
              have g_74 := atS_gx (xs := ys) (i := k + 1) (by omega)
              refine G_bipush (j := 45) hC (by decide +kernel) d_Mo_expand2_134 ?_
              refine G_icmp_ne hC 153 (by omega) (by decide) (by decide) d_Mo_expand2_136 (fun c_75 => ?_) (fun c_75 => ?_)
              · refine G_iload hC 7 rfl d_Mo_expand2_153 ?_
                refine G_iload hC 0 rfl d_Mo_expand2_155 ?_
                refine G_iconst (i := 1) hC d_Mo_expand2_157 ?_
                refine G_isub hC d_Mo_expand2_158 ?_
                refine G_iadd hC d_Mo_expand2_159 ?_
                refine G_istore (lv' := [(6, vI (k + ((mlenS ys k to) - 1))), (7, vI (mlenS ys k to)), (0, .ref a), (1, .ref p), (2, vI fr), (3, vI to), (4, .ref d), (5, .ref o)]) hC (by rw [hN]; decide) rfl d_Mo_expand2_160 ?_
                refine G_iinc (lv' := [(6, vI ((k + ((mlenS ys k to) - 1)) + 1)), (7, vI (mlenS ys k to)), (0, .ref a), (1, .ref p), (2, vI fr), (3, vI to), (4, .ref d), (5, .ref o)]) hC 0 rfl (by rw [hN]; decide) rfl d_Mo_expand2_162 ?_
                refine G_goto hC 9 (by decide) d_Mo_expand2_165 ?_
                refine G_lv [2, 3, 4, 5, 6, 7, 0] rfl ?_
                have h_76 := hp9.fr fr_71 (tgN ht 513 (by decide)) (tgN ht 514 (by decide))
                refine G_widen (k' := 0) (n' := 0) (by omega) (by omega) ?_
                exact ih9 M_67 ((k + ((mlenS ys k to) - 1)) + 1) _ _ (by omega) ((hfr9.up (T := [t, t + 1, 513, 514]) (by simp)).tr' (T := [t, t + 1, 513, 514]) fr_71 (fun _ z => z) (by simp)) h_70 h_76 (by omega) (by rw [show (k + ((mlenS ys k to) - 1)) + 1 = k + mlenS ys k to by omega]; exact (tg_m htl (by omega) (by omega)).2) (by rw [show (k + ((mlenS ys k to) - 1)) + 1 = k + mlenS ys k to by omega]; exact ex_s (l := [32]) htl (by omega) (by omega) (by unfold signS; rw [if_neg (by omega), if_pos (by omega)]) (by omega) (put_1 _ (by omega) (by omega)) hf)
              · exact (show False from by omega).elim
          · refine G_aload hC 6 rfl d_Mo_expand2_56 ?_
            refine G_bipush (j := 37) hC (by decide +kernel) d_Mo_expand2_58 ?_
            refine G_xS (rest := []) hC hR (c_Mo_put ho9 (by omega)) cs_Mo_184 (by decide) (by omega) (by omega) rfl rfl (Nat.le_of_ble_eq_true rfl) d_Mo_expand2_60 (fun r_79 M_77 p_78 => ?_)
            obtain ⟨rfl, h_80, fr_81⟩ := p_78
            show G E M_77 (0 + 0) (0 + 0) [(7, vI (mlenS ys k to)), (0, .ref a), (1, .ref p), (2, vI fr), (3, vI to), (4, .ref d), (5, .ref o), (6, vI k)] [] 63
            refine G_goto hC 128 (by decide) d_Mo_expand2_63 ?_
            refine G_aload_n hC 2 rfl rfl d_Mo_expand2_128 ?_
            refine G_iload hC 7 rfl d_Mo_expand2_129 ?_
            refine G_iconst (i := 1) hC d_Mo_expand2_131 ?_
            refine G_iadd hC d_Mo_expand2_132 ?_
            have h_82 := h_12.fr fr_81 (trN ht htr)
            refine G_baldR hC h_82 (by omega) d_Mo_expand2_133 ?_
            have g_83 := h_82.rng (k + 1)
            have g_84 := atS_gx (xs := ys) (i := k + 1) (by omega)
            refine G_bipush (j := 45) hC (by decide +kernel) d_Mo_expand2_134 ?_
            refine G_icmp_ne hC 153 (by omega) (by decide) (by decide) d_Mo_expand2_136 (fun c_85 => ?_) (fun c_85 => ?_)
            · refine G_iload hC 7 rfl d_Mo_expand2_153 ?_
              refine G_iload hC 0 rfl d_Mo_expand2_155 ?_
              refine G_iconst (i := 1) hC d_Mo_expand2_157 ?_
              refine G_isub hC d_Mo_expand2_158 ?_
              refine G_iadd hC d_Mo_expand2_159 ?_
              refine G_istore (lv' := [(6, vI (k + ((mlenS ys k to) - 1))), (7, vI (mlenS ys k to)), (0, .ref a), (1, .ref p), (2, vI fr), (3, vI to), (4, .ref d), (5, .ref o)]) hC (by rw [hN]; decide) rfl d_Mo_expand2_160 ?_
              refine G_iinc (lv' := [(6, vI ((k + ((mlenS ys k to) - 1)) + 1)), (7, vI (mlenS ys k to)), (0, .ref a), (1, .ref p), (2, vI fr), (3, vI to), (4, .ref d), (5, .ref o)]) hC 0 rfl (by rw [hN]; decide) rfl d_Mo_expand2_162 ?_
              refine G_goto hC 9 (by decide) d_Mo_expand2_165 ?_
              refine G_lv [2, 3, 4, 5, 6, 7, 0] rfl ?_
              have h_86 := hp9.fr fr_81 (tgN ht 513 (by decide)) (tgN ht 514 (by decide))
              refine G_widen (k' := 0) (n' := 0) (by omega) (by omega) ?_
              exact ih9 M_77 ((k + ((mlenS ys k to) - 1)) + 1) _ _ (by omega) ((hfr9.up (T := [t, t + 1, 513, 514]) (by simp)).tr' (T := [t, t + 1, 513, 514]) fr_81 (fun _ z => z) (by simp)) h_80 h_86 (by omega) (by rw [show (k + ((mlenS ys k to) - 1)) + 1 = k + mlenS ys k to by omega]; exact (tg_m htl (by omega) (by omega)).2) (by rw [show (k + ((mlenS ys k to) - 1)) + 1 = k + mlenS ys k to by omega]; exact ex_s (l := [37]) htl (by omega) (by omega) (by unfold signS; rw [if_pos (by omega)]) (by omega) (put_1 _ (by omega) (by omega)) hf)
            · exact (show False from by omega).elim
        · refine G_aload hC 5 rfl d_Mo_expand2_24 ?_
          refine G_aload_n hC 1 rfl rfl d_Mo_expand2_26 ?_
          refine G_iload hC 6 rfl d_Mo_expand2_27 ?_
          refine G_baldR hC h_12 (by omega) d_Mo_expand2_29 ?_
          have g_87 := h_12.rng k
          have g_88 := atS_gx (xs := ys) (i := k) (by omega)
          refine G_xS (rest := []) hC hR (c_Mo_put ho9 (by omega)) cs_Mo_184 (by decide) (by omega) (by omega) rfl rfl (Nat.le_of_ble_eq_true rfl) d_Mo_expand2_30 (fun r_91 M_89 p_90 => ?_)
          obtain ⟨rfl, h_92, fr_93⟩ := p_90
          show G E M_89 (0 + 0) (0 + 0) [(0, .ref a), (1, .ref p), (2, vI fr), (3, vI to), (4, .ref d), (5, .ref o), (6, vI k)] [] 33
          refine G_goto hC 162 (by decide) d_Mo_expand2_33 ?_
          refine G_iinc (lv' := [(6, vI (k + 1)), (0, .ref a), (1, .ref p), (2, vI fr), (3, vI to), (4, .ref d), (5, .ref o)]) hC 6 rfl (by rw [hN]; decide) rfl d_Mo_expand2_162 ?_
          refine G_goto hC 9 (by decide) d_Mo_expand2_165 ?_
          refine G_lv [1, 2, 3, 4, 5, 6, 0] rfl ?_
          have h_94 := hp9.fr fr_93 (tgN ht 513 (by decide)) (tgN ht 514 (by decide))
          refine G_widen (k' := 0) (n' := 0) (by omega) (by omega) ?_
          exact ih9 M_89 (k + 1) _ _ (by omega) ((hfr9.up (T := [t, t + 1, 513, 514]) (by simp)).tr' (T := [t, t + 1, 513, 514]) fr_93 (fun _ z => z) (by simp)) h_92 h_94 (by omega) (tg_1 htl (by omega) (by omega)) (ex_1 htl (by omega) (by omega) (by omega) hf)
  refine G_lv [1, 2, 3, 4, 5, 6, 0] rfl ?_
  have h_95 := h_Tx_pc.fr fr_7 (m1 (tgN ht 513 (by decide))) (m1 (tgN ht 514 (by decide)))
  refine G_widen (k' := 0) (n' := 0) (by omega) (by omega) ?_
  exact L9 _ M_5 fr _ _ (Nat.lt_succ_self _) Fr.rf h_9 h_95 (by omega) htg hr
