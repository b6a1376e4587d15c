set_option maxHeartbeats 4000000 in
set_option maxRecDepth 100000 in
theorem c_Mo_readHost {l : Launch} {D : Dg} {b0 : Nat} {M : Mp} {a : Nat} {p : Nat} {q : Int} {to : Int} {kd : Int} {tp : Nat} {tm : Int} {en : Int} {ou : Nat} {sa : Nat} {aa : Nat} {na : Nat} {va : Nat} {lo : Nat} {dm : Nat} {fm : Int32} {st : Int} {tg : Nat} {cn : Int} {vo : Int} {pc : Nat} {k0 : Int} {s0 : Int} {f0 : Int} {o0 : Int} {n0 : Int} {w0 : Int32} {t : Nat} {len : Nat} {xs : List Int} {P : Option Tm} (h_obj_a : M a = some (500, .inr (cMo, [.ref tp, vI tm, vI en, .ref ou, .ref sa, .ref aa, .ref na, .ref va, .ref lo, .ref dm, .int fm, vI st, .ref tg, vI cn, vI vo, .ref pc, vI k0, vI s0, vI f0, vI o0, vI n0, .int w0]))) (h_row_p : Row D M p t len xs) (hq : 0 ≤ q ∧ q ≤ to ∧ to ≤ xs.length) (htt : t ≠ 500) (hn0 : n0 = 32) (hr : hostS xs kd q to = P) : Ok l D b0 3 y_Mo_readHost b_Mo_readHost 6 none M [.ref a, .ref p, vI q, vI to, vI kd] 0 0 (fun r M' => ∃ k1 : Int, ∃ n1 : Int, ∃ f1 : Int, ∃ o1 : Int, r = none ∧ M' a = some (500, .inr (cMo, [.ref tp, vI tm, vI en, .ref ou, .ref sa, .ref aa, .ref na, .ref va, .ref lo, .ref dm, .int fm, vI st, .ref tg, vI cn, vI vo, .ref pc, vI k1, vI s0, vI f1, vI o1, vI n1, .int w0])) ∧ (hosQ P k0 f0 k1 n1 f1 o1) ∧ Fr [500] M M') := by
  refine Ok_of rfl (Nat.le_of_ble_eq_true rfl) (fun E hC hQ hl hD hB hN hR => ?_)
  subst hl hD hB
  have hr9 := h_row_p.len
  have hfs := findS_rng xs 47 q to
  show G E M 0 0 [(0, .ref a), (1, .ref p), (2, vI q), (3, vI to), (4, vI kd)] [] 0
  refine G_aload_n hC 1 rfl rfl d_Mo_readHost_0 ?_
  refine G_iload_n hC 2 rfl rfl d_Mo_readHost_1 ?_
  refine G_iload_n hC 3 rfl rfl d_Mo_readHost_2 ?_
  refine G_pS (rest := []) hC hR (c_Mo_slashOf h_row_p (by omega) rfl) cs_Mo_165 (by decide) (by omega) (by omega) rfl rfl (Nat.le_of_ble_eq_true rfl) d_Mo_readHost_3 ?_
  have g_1 := findS_rng xs 47 q to
  refine G_istore (lv' := [(5, vI (findS xs 47 q to)), (0, .ref a), (1, .ref p), (2, vI q), (3, vI to), (4, vI kd)]) hC (by rw [hN]; decide) rfl d_Mo_readHost_6 ?_
  refine G_iload hC 0 rfl d_Mo_readHost_8 ?_
  refine G_iload_n hC 4 rfl rfl d_Mo_readHost_10 ?_
  refine G_icmp_ge hC 27 (by omega) (by omega) (by decide) d_Mo_readHost_11 (fun c_2 => ?_) (fun c_2 => ?_)
  · refine G_aload_n hC 1 rfl rfl d_Mo_readHost_27 ?_
    refine G_get hC fl_Mo_147 h_obj_a rfl d_Mo_readHost_28 ?_
    refine G_if_ge hC 35 (by omega) (by decide) d_Mo_readHost_31 (fun c_3 => ?_) (fun c_3 => ?_)
    · refine G_iload hC 0 rfl d_Mo_readHost_35 ?_
      refine G_iload_n hC 3 rfl rfl d_Mo_readHost_37 ?_
      refine G_icmp_le hC 79 (by omega) (by omega) (by decide) d_Mo_readHost_38 (fun c_4 => ?_) (fun c_4 => ?_)
      · refine G_aload_n hC 1 rfl rfl d_Mo_readHost_79 ?_
        refine G_iload hC 5 rfl d_Mo_readHost_80 ?_
        refine G_putX (fs' := [.ref tp, vI tm, vI en, .ref ou, .ref sa, .ref aa, .ref na, .ref va, .ref lo, .ref dm, .int fm, vI st, .ref tg, vI cn, vI vo, .ref pc, vI kd, vI s0, vI f0, vI o0, vI n0, .int w0]) hC fl_Mo_138 ft_Mo fw_Mo_16 h_obj_a rfl rfl (Nat.le_of_ble_eq_true rfl) rfl d_Mo_readHost_82 (fun M_5 h_6 fr_7 => ?_)
        have hP : P = some (kd, 32, 0, none) := by rw [← hr, host_s1 (fun z => absurd z (by omega)) (show findS xs 47 q to = to by omega), if_neg (show ¬ q < findS xs 47 q to by omega)]
        exact G_return hC hQ (by omega) (by omega) d_Mo_readHost_85 ⟨_, _, _, _, rfl, h_6, ⟨(fun z => by rw [hP] at z; cases z), (fun tm htm => by rw [hP] at htm; cases htm; exact ⟨rfl, hn0, (fun d hd => by cases hd), (fun _ => rfl)⟩)⟩, (fr_7.up (T := [500]) (by simp))⟩
      · refine G_aload_n hC 1 rfl rfl d_Mo_readHost_41 ?_
        refine G_iload_n hC 3 rfl rfl d_Mo_readHost_42 ?_
        refine G_iconst (i := 1) hC d_Mo_readHost_43 ?_
        refine G_iadd hC d_Mo_readHost_44 ?_
        refine G_putX (fs' := [.ref tp, vI tm, vI en, .ref ou, .ref sa, .ref aa, .ref na, .ref va, .ref lo, .ref dm, .int fm, vI st, .ref tg, vI cn, vI vo, .ref pc, vI k0, vI s0, vI (q + 1), vI o0, vI n0, .int w0]) hC fl_Mo_141 ft_Mo fw_Mo_18 h_obj_a rfl rfl (Nat.le_of_ble_eq_true rfl) rfl d_Mo_readHost_45 (fun M_8 h_9 fr_10 => ?_)
        refine G_aload_n hC 1 rfl rfl d_Mo_readHost_48 ?_
        refine G_iload hC 0 rfl d_Mo_readHost_49 ?_
        refine G_putX (fs' := [.ref tp, vI tm, vI en, .ref ou, .ref sa, .ref aa, .ref na, .ref va, .ref lo, .ref dm, .int fm, vI st, .ref tg, vI cn, vI vo, .ref pc, vI k0, vI s0, vI (q + 1), vI (findS xs 47 q to), vI n0, .int w0]) hC fl_Mo_144 ft_Mo fw_Mo_19 h_9 rfl rfl (Nat.le_of_ble_eq_true rfl) rfl d_Mo_readHost_51 (fun M_11 h_12 fr_13 => ?_)
        refine G_aload_n hC 2 rfl rfl d_Mo_readHost_54 ?_
        refine G_iload_n hC 3 rfl rfl d_Mo_readHost_55 ?_
        have h_14 := h_row_p.fr fr_10 (by simp only [List.mem_cons, List.not_mem_nil, or_false, not_or, not_false_eq_true]; try omega)
        have h_15 := h_14.fr fr_13 (by simp only [List.mem_cons, List.not_mem_nil, or_false, not_or, not_false_eq_true]; try omega)
        refine G_baldR hC h_15 (by omega) d_Mo_readHost_56 ?_
        have g_16 := h_15.rng q
        have g_17 := atS_gx (xs := xs) (i := q) (by omega)
        refine G_bipush (j := 58) hC (by decide +kernel) d_Mo_readHost_57 ?_
        refine G_icmp_ne hC 78 (by omega) (by decide) (by decide) d_Mo_readHost_59 (fun c_18 => ?_) (fun c_18 => ?_)
        · have hP : P = none := by rw [← hr]; exact host_f1 (by omega) (fun z => by have := z.1; omega)
          exact G_return hC hQ (by omega) (by omega) d_Mo_readHost_78 ⟨_, _, _, _, rfl, h_12, hosQ_no hP, ((fr_10.up (T := [500]) (by simp)).tr' (T := [500]) fr_13 (fun _ z => z) (by simp))⟩
        · refine G_aload_n hC 2 rfl rfl d_Mo_readHost_62 ?_
          refine G_aload_n hC 1 rfl rfl d_Mo_readHost_63 ?_
          refine G_get hC fl_Mo_141 h_12 rfl d_Mo_readHost_64 ?_
          refine G_aload_n hC 1 rfl rfl d_Mo_readHost_67 ?_
          refine G_get hC fl_Mo_144 h_12 rfl d_Mo_readHost_68 ?_
          refine G_iconst (i := 0) hC d_Mo_readHost_71 ?_
          refine G_pS (rest := []) hC hR (c_Mo_isD (sl := false) h_15 (by omega) (Or.inr (fun j hj => findS_before xs 47 to _ q (Nat.lt_succ_self _) j (by omega) (by omega))) rfl) cs_Mo_157 (by decide) (by omega) (by omega) rfl rfl (Nat.le_of_ble_eq_true rfl) d_Mo_readHost_72 ?_
          refine G_if_ne hC 79 (by have := b2i_rng (targS xs (q + 1) (findS xs 47 q to)); omega) (by decide) d_Mo_readHost_75 (fun c_19 => ?_) (fun c_19 => ?_)
          · have c_19 := b2i_ne0.mp c_19
            refine G_aload_n hC 1 rfl rfl d_Mo_readHost_79 ?_
            refine G_iload hC 5 rfl d_Mo_readHost_80 ?_
            refine G_putX (fs' := [.ref tp, vI tm, vI en, .ref ou, .ref sa, .ref aa, .ref na, .ref va, .ref lo, .ref dm, .int fm, vI st, .ref tg, vI cn, vI vo, .ref pc, vI kd, vI s0, vI (q + 1), vI (findS xs 47 q to), vI n0, .int w0]) hC fl_Mo_138 ft_Mo fw_Mo_16 h_12 rfl rfl (Nat.le_of_ble_eq_true rfl) rfl d_Mo_readHost_82 (fun M_20 h_21 fr_22 => ?_)
            have hP : P = some (kd, 32, 0, some (q + 1, findS xs 47 q to)) := by rw [← hr, host_s1 (fun _ => ⟨by omega, c_19⟩) (show findS xs 47 q to = to by omega), if_pos (show q < findS xs 47 q to by omega)]
            exact G_return hC hQ (by omega) (by omega) d_Mo_readHost_85 ⟨_, _, _, _, rfl, h_21, ⟨(fun z => by rw [hP] at z; cases z), (fun tm htm => by rw [hP] at htm; cases htm; exact ⟨rfl, hn0, (fun d hd => by cases hd; exact ⟨rfl, rfl⟩), (fun z => by cases z)⟩)⟩, (((fr_10.up (T := [500]) (by simp)).tr' (T := [500]) fr_13 (fun _ z => z) (by simp)).tr' (T := [500]) fr_22 (fun _ z => z) (by simp))⟩
          · have c_19 := b2i_eq0.mp c_19
            have hP : P = none := by rw [← hr]; exact host_f1 (by omega) (fun z => by have z2 := c_19.symm.trans z.2; cases z2)
            exact G_return hC hQ (by omega) (by omega) d_Mo_readHost_78 ⟨_, _, _, _, rfl, h_12, hosQ_no hP, ((fr_10.up (T := [500]) (by simp)).tr' (T := [500]) fr_13 (fun _ z => z) (by simp))⟩
    · have hP : P = none := by omega
      exact G_return hC hQ (by omega) (by omega) d_Mo_readHost_34 ⟨_, _, _, _, rfl, h_obj_a, hosQ_no hP, Fr.rf⟩
  · refine G_aload_n hC 1 rfl rfl d_Mo_readHost_14 ?_
    refine G_aload_n hC 2 rfl rfl d_Mo_readHost_15 ?_
    refine G_iload hC 0 rfl d_Mo_readHost_16 ?_
    refine G_iconst (i := 1) hC d_Mo_readHost_18 ?_
    refine G_iadd hC d_Mo_readHost_19 ?_
    refine G_iload_n hC 4 rfl rfl d_Mo_readHost_20 ?_
    refine G_pS (rest := [.ref a]) hC hR (c_Mo_bits h_row_p (by omega) rfl) cs_Mo_168 (by decide) (by omega) (by omega) rfl rfl (Nat.le_of_ble_eq_true rfl) d_Mo_readHost_21 ?_
    have g_23 := bits_gd xs ((findS xs 47 q to) + 1) to
    refine G_putX (fs' := [.ref tp, vI tm, vI en, .ref ou, .ref sa, .ref aa, .ref na, .ref va, .ref lo, .ref dm, .int fm, vI st, .ref tg, vI cn, vI vo, .ref pc, vI k0, vI s0, vI f0, vI o0, vI ((bitsS xs ((findS xs 47 q to) + 1) to).getD (-1)), .int w0]) hC fl_Mo_147 ft_Mo fw_Mo_20 h_obj_a rfl rfl (Nat.le_of_ble_eq_true rfl) rfl d_Mo_readHost_24 (fun M_24 h_25 fr_26 => ?_)
    refine G_aload_n hC 1 rfl rfl d_Mo_readHost_27 ?_
    refine G_get hC fl_Mo_147 h_25 rfl d_Mo_readHost_28 ?_
    refine G_if_ge hC 35 (by omega) (by decide) d_Mo_readHost_31 (fun c_27 => ?_) (fun c_27 => ?_)
    · refine G_iload hC 0 rfl d_Mo_readHost_35 ?_
      refine G_iload_n hC 3 rfl rfl d_Mo_readHost_37 ?_
      refine G_icmp_le hC 79 (by omega) (by omega) (by decide) d_Mo_readHost_38 (fun c_28 => ?_) (fun c_28 => ?_)
      · refine G_aload_n hC 1 rfl rfl d_Mo_readHost_79 ?_
        refine G_iload hC 5 rfl d_Mo_readHost_80 ?_
        refine G_putX (fs' := [.ref tp, vI tm, vI en, .ref ou, .ref sa, .ref aa, .ref na, .ref va, .ref lo, .ref dm, .int fm, vI st, .ref tg, vI cn, vI vo, .ref pc, vI kd, vI s0, vI f0, vI o0, vI ((bitsS xs ((findS xs 47 q to) + 1) to).getD (-1)), .int w0]) hC fl_Mo_138 ft_Mo fw_Mo_16 h_25 rfl rfl (Nat.le_of_ble_eq_true rfl) rfl d_Mo_readHost_82 (fun M_29 h_30 fr_31 => ?_)
        obtain ⟨v9, hv9, hv8⟩ := bits_pos c_27
        have hP : P = some (kd, v9, 0, none) := by rw [← hr, host_s2 (fun z => absurd z (by omega)) (show ¬ findS xs 47 q to = to by omega) hv9, if_neg (show ¬ q < findS xs 47 q to by omega)]
        exact G_return hC hQ (by omega) (by omega) d_Mo_readHost_85 ⟨_, _, _, _, rfl, h_30, ⟨(fun z => by rw [hP] at z; cases z), (fun tm htm => by rw [hP] at htm; cases htm; exact ⟨rfl, hv8, (fun d hd => by cases hd), (fun _ => rfl)⟩)⟩, ((fr_26.up (T := [500]) (by simp)).tr' (T := [500]) fr_31 (fun _ z => z) (by simp))⟩
      · refine G_aload_n hC 1 rfl rfl d_Mo_readHost_41 ?_
        refine G_iload_n hC 3 rfl rfl d_Mo_readHost_42 ?_
        refine G_iconst (i := 1) hC d_Mo_readHost_43 ?_
        refine G_iadd hC d_Mo_readHost_44 ?_
        refine G_putX (fs' := [.ref tp, vI tm, vI en, .ref ou, .ref sa, .ref aa, .ref na, .ref va, .ref lo, .ref dm, .int fm, vI st, .ref tg, vI cn, vI vo, .ref pc, vI k0, vI s0, vI (q + 1), vI o0, vI ((bitsS xs ((findS xs 47 q to) + 1) to).getD (-1)), .int w0]) hC fl_Mo_141 ft_Mo fw_Mo_18 h_25 rfl rfl (Nat.le_of_ble_eq_true rfl) rfl d_Mo_readHost_45 (fun M_32 h_33 fr_34 => ?_)
        refine G_aload_n hC 1 rfl rfl d_Mo_readHost_48 ?_
        refine G_iload hC 0 rfl d_Mo_readHost_49 ?_
        refine G_putX (fs' := [.ref tp, vI tm, vI en, .ref ou, .ref sa, .ref aa, .ref na, .ref va, .ref lo, .ref dm, .int fm, vI st, .ref tg, vI cn, vI vo, .ref pc, vI k0, vI s0, vI (q + 1), vI (findS xs 47 q to), vI ((bitsS xs ((findS xs 47 q to) + 1) to).getD (-1)), .int w0]) hC fl_Mo_144 ft_Mo fw_Mo_19 h_33 rfl rfl (Nat.le_of_ble_eq_true rfl) rfl d_Mo_readHost_51 (fun M_35 h_36 fr_37 => ?_)
        refine G_aload_n hC 2 rfl rfl d_Mo_readHost_54 ?_
        refine G_iload_n hC 3 rfl rfl d_Mo_readHost_55 ?_
        have h_38 := h_row_p.fr fr_26 (by simp only [List.mem_cons, List.not_mem_nil, or_false, not_or, not_false_eq_true]; try omega)
        have h_39 := h_38.fr fr_34 (by simp only [List.mem_cons, List.not_mem_nil, or_false, not_or, not_false_eq_true]; try omega)
        have h_40 := h_39.fr fr_37 (by simp only [List.mem_cons, List.not_mem_nil, or_false, not_or, not_false_eq_true]; try omega)
        refine G_baldR hC h_40 (by omega) d_Mo_readHost_56 ?_
        have g_41 := h_40.rng q
        have g_42 := atS_gx (xs := xs) (i := q) (by omega)
        refine G_bipush (j := 58) hC (by decide +kernel) d_Mo_readHost_57 ?_
        refine G_icmp_ne hC 78 (by omega) (by decide) (by decide) d_Mo_readHost_59 (fun c_43 => ?_) (fun c_43 => ?_)
        · have hP : P = none := by rw [← hr]; exact host_f1 (by omega) (fun z => by have := z.1; omega)
          exact G_return hC hQ (by omega) (by omega) d_Mo_readHost_78 ⟨_, _, _, _, rfl, h_36, hosQ_no hP, (((fr_26.up (T := [500]) (by simp)).tr' (T := [500]) fr_34 (fun _ z => z) (by simp)).tr' (T := [500]) fr_37 (fun _ z => z) (by simp))⟩
        · refine G_aload_n hC 2 rfl rfl d_Mo_readHost_62 ?_
          refine G_aload_n hC 1 rfl rfl d_Mo_readHost_63 ?_
          refine G_get hC fl_Mo_141 h_36 rfl d_Mo_readHost_64 ?_
          refine G_aload_n hC 1 rfl rfl d_Mo_readHost_67 ?_
          refine G_get hC fl_Mo_144 h_36 rfl d_Mo_readHost_68 ?_
          refine G_iconst (i := 0) hC d_Mo_readHost_71 ?_
          refine G_pS (rest := []) hC hR (c_Mo_isD (sl := false) h_40 (by omega) (Or.inr (fun j hj => findS_before xs 47 to _ q (Nat.lt_succ_self _) j (by omega) (by omega))) rfl) cs_Mo_157 (by decide) (by omega) (by omega) rfl rfl (Nat.le_of_ble_eq_true rfl) d_Mo_readHost_72 ?_
          refine G_if_ne hC 79 (by have := b2i_rng (targS xs (q + 1) (findS xs 47 q to)); omega) (by decide) d_Mo_readHost_75 (fun c_44 => ?_) (fun c_44 => ?_)
          · have c_44 := b2i_ne0.mp c_44
            refine G_aload_n hC 1 rfl rfl d_Mo_readHost_79 ?_
            refine G_iload hC 5 rfl d_Mo_readHost_80 ?_
            refine G_putX (fs' := [.ref tp, vI tm, vI en, .ref ou, .ref sa, .ref aa, .ref na, .ref va, .ref lo, .ref dm, .int fm, vI st, .ref tg, vI cn, vI vo, .ref pc, vI kd, vI s0, vI (q + 1), vI (findS xs 47 q to), vI ((bitsS xs ((findS xs 47 q to) + 1) to).getD (-1)), .int w0]) hC fl_Mo_138 ft_Mo fw_Mo_16 h_36 rfl rfl (Nat.le_of_ble_eq_true rfl) rfl d_Mo_readHost_82 (fun M_45 h_46 fr_47 => ?_)
            obtain ⟨v9, hv9, hv8⟩ := bits_pos c_27
            have hP : P = some (kd, v9, 0, some (q + 1, findS xs 47 q to)) := by rw [← hr, host_s2 (fun _ => ⟨by omega, c_44⟩) (show ¬ findS xs 47 q to = to by omega) hv9, if_pos (show q < findS xs 47 q to by omega)]
            exact G_return hC hQ (by omega) (by omega) d_Mo_readHost_85 ⟨_, _, _, _, rfl, h_46, ⟨(fun z => by rw [hP] at z; cases z), (fun tm htm => by rw [hP] at htm; cases htm; exact ⟨rfl, hv8, (fun d hd => by cases hd; exact ⟨rfl, rfl⟩), (fun z => by cases z)⟩)⟩, ((((fr_26.up (T := [500]) (by simp)).tr' (T := [500]) fr_34 (fun _ z => z) (by simp)).tr' (T := [500]) fr_37 (fun _ z => z) (by simp)).tr' (T := [500]) fr_47 (fun _ z => z) (by simp))⟩
          · have c_44 := b2i_eq0.mp c_44
            have hP : P = none := by rw [← hr]; exact host_f1 (by omega) (fun z => by have z2 := c_44.symm.trans z.2; cases z2)
            exact G_return hC hQ (by omega) (by omega) d_Mo_readHost_78 ⟨_, _, _, _, rfl, h_36, hosQ_no hP, (((fr_26.up (T := [500]) (by simp)).tr' (T := [500]) fr_34 (fun _ z => z) (by simp)).tr' (T := [500]) fr_37 (fun _ z => z) (by simp))⟩
    · have hP : P = none := by rw [← hr]; exact host_f2 (show ¬ findS xs 47 q to = to by omega) (bits_neg c_27)
      exact G_return hC hQ (by omega) (by omega) d_Mo_readHost_34 ⟨_, _, _, _, rfl, h_25, hosQ_no hP, (fr_26.up (T := [500]) (by simp))⟩
