set_option maxHeartbeats 4000000 in
set_option maxRecDepth 100000 in
theorem c_Mo_checkStep {l : Launch} {D : Dg} {b0 : Nat} {M : Mp} {a : Nat} {d : Nat} {dd : Int} {tp : Nat} {tm : Int} {en : Int} {ou : Nat} {sa : Nat} {aa : Nat} {na : Nat} {va : Nat} {lo : Nat} {dm : Nat} {fm : Int32} {st : Int} {tg : Nat} {cn : Int} {vo : Int} {pc : Nat} {k0 : Int} {s0 : Int} {f0 : Int} {o0 : Int} {n0 : Int} {w0 : Int32} {es : List Ent} {ls : List Int} {ds : List Int} {ps : List Int} {ft : Nat → Option Nat} {lv : Nat} {td : Nat} {ld : Nat} {X : List Int} {R : Rs} (h_obj_a : M a = some (500, .inr (cMo, [.ref tp, vI tm, vI en, .ref ou, .ref sa, .ref aa, .ref na, .ref va, .ref lo, .ref dm, .int fm, vI st, .ref tg, vI cn, vI vo, .ref pc, vI k0, vI s0, vI f0, vI o0, vI n0, .int w0]))) (h_Md_sa : IsMd D M sa aa na va es) (h_Tx_lo : IsT D M lo 508 30 ls) (h_Tx_dm : IsT D M dm 510 60 ds) (h_Tx_pc : IsT D M pc 513 100 ps) (h_arR_tg : M tg = some (512, arR D 4 13 ft)) (h_TgA_ft : TgA D M ft lv) (h_Tx_d : IsT D M d td ld X) (IH : lv < 10 → RefOK l D b0 es ls ds fm ft (lv + 1)) (hen : en = (es.length : Int)) (hsn : sndP (ls, ds, fm)) (hdd : dd = (lv : Int) ∧ lv < 11) (hok : okC cn vo) (hlc : (lv : Int) ≤ cn) (hX : X.length ≤ 61) (htd : (td = 510 ∨ 520 ≤ td) ∧ td + 1 < 520 + 2 * lv) (hr : chkS es (ls, ds, fm) (11 - lv) X cn vo = R) : Ok l D b0 (12 + 4 * (11 - lv)) y_Mo_check b_Mo_check 10 (some .int) M [.ref a, .ref d, vI dd] 0 0 (fun r M' => ∃ k9 : Int, ∃ s9 : Int, ∃ f9 : Int, ∃ o9 : Int, ∃ n9 : Int, ∃ w9 : Int32, ∃ ps9 : List Int, r = some (vI R.1) ∧ M' a = some (500, .inr (cMo, [.ref tp, vI tm, vI en, .ref ou, .ref sa, .ref aa, .ref na, .ref va, .ref lo, .ref dm, .int fm, vI st, .ref tg, vI R.2.1, vI R.2.2, .ref pc, vI k9, vI s9, vI f9, vI o9, vI n9, .int w9])) ∧ IsT D M' pc 513 100 ps9 ∧ TgA D M' ft lv ∧ Fr ([500, 513, 514] ++ tgT lv) M M') := by
  refine Ok_of rfl (Nat.le_of_ble_eq_true rfl) (fun E hC hQ hl hD hB hN hR => ?_)
  subst hl hD hB
  have hD9 := h_Md_sa.len
  obtain ⟨g_8, ga_9, fn_10, fv_11, h_1, h_2, h_3, h_4, h_5, h_6, h_7⟩ := id h_Md_sa
  have htd9 : tdQ td lv := htd
  clear htd
  rw [show 11 - lv = (10 - lv) + 1 by omega, chkS, show 10 - lv = 11 - (lv + 1) by omega] at hr
  show G E M 0 0 [(0, .ref a), (1, .ref d), (2, vI dd)] [] 0
  refine G_aload_n hC 0 rfl rfl d_Mo_check_0 ?_
  refine G_aload_n hC 1 rfl rfl d_Mo_check_1 ?_
  refine G_pV (rest := []) hC hR (c_Mo_isTrouble h_obj_a h_Md_sa h_Tx_d (by omega) rfl) cv_Mo_208 ⟨_, _, h_obj_a⟩ (by omega) (by omega) (by omega) rfl rfl (Nat.le_of_ble_eq_true rfl) d_Mo_check_2 ?_
  refine G_if_eq hC 10 (by have := b2i_rng (hasD es 3 X); omega) (by decide) d_Mo_check_5 (fun c_12 => ?_) (fun c_12 => ?_)
  · have c_12 := b2i_eq0.mp c_12
    rw [if_neg (nt c_12)] at hr
    refine G_aload_n hC 0 rfl rfl d_Mo_check_10 ?_
    refine G_aload_n hC 1 rfl rfl d_Mo_check_11 ?_
    obtain ⟨kk, hkk⟩ : ∃ kk, recL X es 0 (-1) = kk := ⟨_, rfl⟩
    refine G_pV (rest := []) hC hR (c_Mo_recordOf h_obj_a h_Md_sa h_Tx_d (by omega) rfl) cv_Mo_211 ⟨_, _, h_obj_a⟩ (by omega) (by omega) (by omega) rfl rfl (Nat.le_of_ble_eq_true rfl) d_Mo_check_12 ?_
    refine G_top (b := kk) hkk ?_
    have hrn := recL_n (X := X) es 0 (by omega)
    rw [hkk] at hrn
    rcases hrn with ⟨hfl, hk0⟩ | ⟨x, x2, r2, hfl, hk0⟩ | ⟨x, j, hfl, hk0, hxj⟩
    · rw [hfl] at hr
      dsimp only at hr
      refine G_istore_n (lv' := [(3, vI kk), (0, .ref a), (1, .ref d), (2, vI dd)]) hC rfl (by rw [hN]; decide) rfl d_Mo_check_15 ?_
      refine G_iload_n hC 0 rfl rfl d_Mo_check_16 ?_
      refine G_if_ge hC 32 (by omega) (by decide) d_Mo_check_17 (fun c_13 => ?_) (fun c_13 => ?_)
      · exact (show False from by omega).elim
      · refine G_iload_n hC 0 rfl rfl d_Mo_check_20 ?_
        refine G_iconst (i := (-1)) hC d_Mo_check_21 ?_
        refine G_icmp_ne hC 29 (by omega) (by decide) (by decide) d_Mo_check_22 (fun c_14 => ?_) (fun c_14 => ?_)
        · exact (show False from by omega).elim
        · refine G_iconst (i := 0) hC d_Mo_check_25 ?_
          refine G_goto hC 31 (by decide) d_Mo_check_26 ?_
          have hP : R = (0, cn, vo) := hr.symm
          subst hP
          exact G_iretX hC hQ (by omega) (by omega) d_Mo_check_31 ⟨_, _, _, _, _, _, _, rfl, h_obj_a, h_Tx_pc, h_TgA_ft, Fr.rf⟩
    · rw [hfl] at hr
      dsimp only at hr
      rw [if_pos (List.cons_ne_nil _ _)] at hr
      refine G_istore_n (lv' := [(3, vI kk), (0, .ref a), (1, .ref d), (2, vI dd)]) hC rfl (by rw [hN]; decide) rfl d_Mo_check_15 ?_
      refine G_iload_n hC 0 rfl rfl d_Mo_check_16 ?_
      refine G_if_ge hC 32 (by omega) (by decide) d_Mo_check_17 (fun c_15 => ?_) (fun c_15 => ?_)
      · exact (show False from by omega).elim
      · refine G_iload_n hC 0 rfl rfl d_Mo_check_20 ?_
        refine G_iconst (i := (-1)) hC d_Mo_check_21 ?_
        refine G_icmp_ne hC 29 (by omega) (by decide) (by decide) d_Mo_check_22 (fun c_16 => ?_) (fun c_16 => ?_)
        · refine G_bipush (j := 6) hC (by decide +kernel) d_Mo_check_29 ?_
          have hP : R = (6, cn, vo) := hr.symm
          subst hP
          exact G_iretX hC hQ (by omega) (by omega) d_Mo_check_31 ⟨_, _, _, _, _, _, _, rfl, h_obj_a, h_Tx_pc, h_TgA_ft, Fr.rf⟩
        · exact (show False from by omega).elim
    · rw [hfl] at hr
      dsimp only at hr
      rw [if_neg (show ¬ ¬ ([] : List Ent) = [] from fun z => z rfl)] at hr
      have hjl : j < es.length := (List.getElem?_eq_some_iff.mp hxj).1
      have hkj : kk.toNat = j := by omega
      have hxk : es[kk.toNat]? = some x := by rw [hkj]; exact hxj
      have hpx : isP X x = true := by
        have hm9 : x ∈ es.filter (isP X) := by rw [hfl]; exact List.mem_singleton.mpr rfl
        exact (List.mem_filter.mp hm9).2
      refine G_istore_n (lv' := [(3, vI kk), (0, .ref a), (1, .ref d), (2, vI dd)]) hC rfl (by rw [hN]; decide) rfl d_Mo_check_15 ?_
      refine G_iload_n hC 0 rfl rfl d_Mo_check_16 ?_
      refine G_if_ge hC 32 (by omega) (by decide) d_Mo_check_17 (fun c_17 => ?_) (fun c_17 => ?_)
      · refine G_aload_n hC 1 rfl rfl d_Mo_check_32 ?_
        refine G_get hC fl_Mo_47 h_obj_a rfl d_Mo_check_33 ?_
        refine G_iload_n hC 0 rfl rfl d_Mo_check_36 ?_
        obtain ⟨t_18, u_19, ns_20, vs_21, h_22, h_23, h_24, h_25, h_26⟩ := h_7 (kk : Int).toNat (by omega)
        refine G_aald hC h_4 rfl (by omega) (by omega) (by rw [h_23]) d_Mo_check_37 ?_
        refine G_astore (lv' := [(4, .ref u_19), (3, vI kk), (0, .ref a), (1, .ref d), (2, vI dd)]) hC (by rw [hN]; decide) rfl d_Mo_check_38 ?_
        have hvs := (h_26 x hxk).2
        rw [← hvs] at hr
        obtain ⟨txt, htx⟩ : ∃ t9, vs_21 = t9 := ⟨_, rfl⟩
        rw [htx] at hr hvs h_25
        have hrp := (isP_iff.mp hpx).2
        rw [← hvs] at hrp
        have hsp : spP txt := rec_sp hrp
        have hs6 := sp_6 hsp
        clear hrp
        have g_30 := h_25.len
        obtain ⟨r_27, h_28, h_29⟩ := id h_25
        obtain ⟨RT, hRT⟩ : ∃ t9, rtL txt 7 none = t9 := ⟨_, rfl⟩
        rw [hRT] at hr
        have hst := rt_start (rd := none) hsp hRT
        have hb6 := nb_rng6 hsp
        refine G_iconst (i := 0) hC d_Mo_check_40 ?_
        refine G_istore (lv' := [(5, vI 0), (4, .ref u_19), (3, vI kk), (0, .ref a), (1, .ref d), (2, vI dd)]) hC (by rw [hN]; decide) rfl d_Mo_check_41 ?_
        refine G_iconst (i := (-1)) hC d_Mo_check_43 ?_
        refine G_istore (lv' := [(6, vI (-1)), (5, vI 0), (4, .ref u_19), (3, vI kk), (0, .ref a), (1, .ref d), (2, vI dd)]) hC (by rw [hN]; decide) rfl d_Mo_check_44 ?_
        refine G_aload hC 2 rfl d_Mo_check_46 ?_
        refine G_bipush (j := 6) hC (by decide +kernel) d_Mo_check_48 ?_
        refine G_pS (rest := []) hC hR (c_Mo_blankFrom h_25 (by omega) rfl) cs_Mo_215 (by omega) (by omega) (by omega) rfl rfl (Nat.le_of_ble_eq_true rfl) d_Mo_check_50 ?_
        have g_31 := nbS_rng txt _ 6 (Nat.lt_succ_self _)
        refine G_istore (lv' := [(7, vI (nbS txt 6)), (6, vI (-1)), (5, vI 0), (4, .ref u_19), (3, vI kk), (0, .ref a), (1, .ref d), (2, vI dd)]) hC (by rw [hN]; decide) rfl d_Mo_check_53 ?_
        have L55 : ∀ (N : Nat) (M55 : Mp) (all : Int) (turn : Int) (q : Int) (rd : Option (Int × Int)) (k1 : Int) (s1 : Int) (f1 : Int) (o1 : Int) (n1 : Int) (w1 : Int32), ((txt.length : Int) - q).toNat < N → (Fr [500] M M55) → (M55 a = some (500, .inr (cMo, [.ref tp, vI tm, vI en, .ref ou, .ref sa, .ref aa, .ref na, .ref va, .ref lo, .ref dm, .int fm, vI st, .ref tg, vI cn, vI vo, .ref pc, vI k1, vI s1, vI f1, vI o1, vI n1, .int w1]))) → (6 ≤ q ∧ q ≤ txt.length ∧ (0 ≤ all ∧ all ≤ 1) ∧ (-1 ≤ turn ∧ turn ≤ 20000)) → (bgP txt q) → (trnP txt turn rd) → (alP txt all) → (rtL txt q rd = RT) → G E M55 0 0 [(0, .ref a), (1, .ref d), (2, vI dd), (3, vI kk), (4, .ref u_19), (5, vI all), (6, vI turn), (7, vI q)] [] 55 := by
          intro N
          induction N with
          | zero => intro M55 all turn q rd k1 s1 f1 o1 n1 w1 hN55 hfr55 ho55 hq hbg htr hal hf; exact absurd hN55 (Nat.not_lt_zero _)
          | succ N ih55 =>
            intro M55 all turn q rd k1 s1 f1 o1 n1 w1 hN55 hfr55 ho55 hq hbg htr hal hf
            refine G_iload hC 7 rfl d_Mo_check_55 ?_
            refine G_aload hC 4 rfl d_Mo_check_57 ?_
            have h_32 := hfr55.at h_28 (by simp only [List.mem_cons, List.not_mem_nil, or_false, not_or, not_false_eq_true]; try omega)
            refine G_get hC fl_Mo_86 h_32 rfl d_Mo_check_59 ?_
            refine G_icmp_ge hC 156 (by omega) (by omega) (by decide) d_Mo_check_62 (fun c_33 => ?_) (fun c_33 => ?_)
            · rw [rtL_end (by omega)] at hf
              rw [← hf] at hr
              dsimp only at hr
              obtain ⟨FM, hFM⟩ : ∃ t9, fmL (matS (chkS es (ls, ds, fm) (11 - (lv + 1))) (decide (0 < 11 - (lv + 1))) es (ls, ds, fm) X txt) txt 7 cn vo = t9 := ⟨_, rfl⟩
              rw [hFM] at hr
              have hsf := fm_start hsp hFM
              refine G_aload hC 4 rfl d_Mo_check_156 ?_
              refine G_bipush (j := 6) hC (by decide +kernel) d_Mo_check_158 ?_
              have h_34 := h_25.fr hfr55 (by simp only [List.mem_cons, List.not_mem_nil, or_false, not_or, not_false_eq_true]; try omega) (by simp only [List.mem_cons, List.not_mem_nil, or_false, not_or, not_false_eq_true]; try omega)
              refine G_pS (rest := []) hC hR (c_Mo_blankFrom h_34 (by omega) rfl) cs_Mo_215 (by omega) (by omega) (by omega) rfl rfl (Nat.le_of_ble_eq_true rfl) d_Mo_check_160 ?_
              have g_35 := nbS_rng txt _ 6 (Nat.lt_succ_self _)
              refine G_istore (lv' := [(7, vI (nbS txt 6)), (0, .ref a), (1, .ref d), (2, vI dd), (3, vI kk), (4, .ref u_19), (5, vI all), (6, vI turn)]) hC (by rw [hN]; decide) rfl d_Mo_check_163 ?_
              have L165 : ∀ (N : Nat) (M165 : Mp) (p : Int) (k2 : Int) (s2 : Int) (f2 : Int) (o2 : Int) (n2 : Int) (w2 : Int32) (c2 : Int) (v2 : Int) (ps2 : List Int), ((txt.length : Int) - p).toNat < N → (Fr ([500, 513, 514] ++ tgT lv) M55 M165) → (M165 a = some (500, .inr (cMo, [.ref tp, vI tm, vI en, .ref ou, .ref sa, .ref aa, .ref na, .ref va, .ref lo, .ref dm, .int fm, vI st, .ref tg, vI c2, vI v2, .ref pc, vI k2, vI s2, vI f2, vI o2, vI n2, .int w2]))) → (IsT (eD E) M165 pc 513 100 ps2) → (TgA (eD E) M165 ft lv) → (6 ≤ p ∧ p ≤ txt.length) → (bgP txt p) → (okC c2 v2 ∧ cn ≤ c2) → (fmL (matS (chkS es (ls, ds, fm) (11 - (lv + 1))) (decide (0 < 11 - (lv + 1))) es (ls, ds, fm) X txt) txt p c2 v2 = FM) → G E M165 0 0 [(0, .ref a), (1, .ref d), (2, vI dd), (3, vI kk), (4, .ref u_19), (5, vI all), (6, vI turn), (7, vI p)] [] 165 := by
                intro N
                induction N with
                | zero => intro M165 p k2 s2 f2 o2 n2 w2 c2 v2 ps2 hN165 hfr165 ho165 hp165 hg165 hp hbp hoc hfm; exact absurd hN165 (Nat.not_lt_zero _)
                | succ N ih165 =>
                  intro M165 p k2 s2 f2 o2 n2 w2 c2 v2 ps2 hN165 hfr165 ho165 hp165 hg165 hp hbp hoc hfm
                  refine G_iload hC 7 rfl d_Mo_check_165 ?_
                  refine G_aload hC 4 rfl d_Mo_check_167 ?_
                  have h_36 := hfr165.at h_32 (by simp only [List.mem_append, mem_tgT, List.mem_range, List.mem_cons, List.not_mem_nil, or_false, false_or]; omega)
                  refine G_get hC fl_Mo_86 h_36 rfl d_Mo_check_169 ?_
                  refine G_icmp_ge hC 288 (by omega) (by omega) (by decide) d_Mo_check_172 (fun c_37 => ?_) (fun c_37 => ?_)
                  · rw [fmL_end (by omega)] at hfm
                    rw [← hfm] at hr
                    rw [if_neg (show ¬ ¬ (-1 : Int) = -1 from fun z => z rfl)] at hr
                    refine G_iload hC 6 rfl d_Mo_check_288 ?_
                    refine G_if_lt hC 298 (by omega) (by decide) d_Mo_check_290 (fun c_38 => ?_) (fun c_38 => ?_)
                    · refine G_iconst (i := 1) hC d_Mo_check_298 ?_
                      have hP : R = (1, c2, v2) := by rw [trn_neg htr (by omega)] at hr; exact hr.symm
                      subst hP
                      exact G_iretX hC hQ (by omega) (by omega) d_Mo_check_299 ⟨_, _, _, _, _, _, _, rfl, ho165, hp165, hg165, ((hfr55.up (T := ([500, 513, 514] ++ tgT lv)) (by intro u hu; simp only [List.mem_append, mem_tgT, List.mem_range, List.mem_cons, List.not_mem_nil, or_false, false_or] at hu ⊢ <;> omega)).tr' (T := ([500, 513, 514] ++ tgT lv)) hfr165 (fun _ z => z) (by intro u hu; simp only [List.mem_append, mem_tgT, List.mem_range, List.mem_cons, List.not_mem_nil, or_false, false_or] at hu ⊢ <;> omega))⟩
                    · refine G_iload hC 5 rfl d_Mo_check_293 ?_
                      refine G_if_eq hC 300 (by omega) (by decide) d_Mo_check_295 (fun c_39 => ?_) (fun c_39 => ?_)
                      · obtain ⟨ht1, ht2, t6, htm6, hk66, hrd6, hsm6⟩ := trn_pos htr (by omega)
                        obtain ⟨d9, hd9⟩ := isS_t hsm6
                        rw [hd9] at hr hrd6
                        dsimp only at hr
                        unfold insS at hr
                        dsimp only at hr
                        refine G_aload_n hC 0 rfl rfl d_Mo_check_300 ?_
                        refine G_aload hC 4 rfl d_Mo_check_301 ?_
                        refine G_get hC fl_Mo_192 h_36 rfl d_Mo_check_303 ?_
                        refine G_iload hC 6 rfl d_Mo_check_306 ?_
                        refine G_aload hC 4 rfl d_Mo_check_308 ?_
                        refine G_iload hC 6 rfl d_Mo_check_310 ?_
                        have h_40 := h_34.fr hfr165 (by simp only [List.mem_append, mem_tgT, List.mem_range, List.mem_cons, List.not_mem_nil, or_false, false_or]; omega) (by simp only [List.mem_append, mem_tgT, List.mem_range, List.mem_cons, List.not_mem_nil, or_false, false_or]; omega)
                        refine G_pS (rest := [vI turn, .ref r_27, .ref a]) hC hR (c_Mo_wordEnd h_40 (by omega) rfl) cs_Mo_218 (by omega) (by omega) (by omega) rfl rfl (Nat.le_of_ble_eq_true rfl) d_Mo_check_312 ?_
                        have g_41 := findS_rng txt 32 turn (txt.length : Int)
                        have h_42 := h_29.fr hfr55 (by simp only [List.mem_cons, List.not_mem_nil, or_false, not_or, not_false_eq_true]; try omega)
                        have h_43 := h_42.fr hfr165 (by simp only [List.mem_append, mem_tgT, List.mem_range, List.mem_cons, List.not_mem_nil, or_false, false_or]; omega)
                        refine G_xV (rest := []) hC hR (c_Mo_readTerm ho165 h_43 (by omega) (by omega) (by omega) rfl) cv_Mo_221 ⟨_, _, ho165⟩ (by omega) (by omega) (by omega) rfl rfl (Nat.le_of_ble_eq_true rfl) d_Mo_check_315 (fun r_46 M_44 p_45 => ?_)
                        obtain ⟨k1_47, n1_48, w1_49, f1_50, o1_51, rfl, h_52, h_53, fr_54⟩ := p_45
                        show G E M_44 (0 + 0) (0 + 0) [(0, .ref a), (1, .ref d), (2, vI dd), (3, vI kk), (4, .ref u_19), (5, vI all), (6, vI turn), (7, vI p)] [] 318
                        have hfl6 := h_53
                        rw [htm6] at hfl6
                        have htp6 := readS_P htm6
                        obtain ⟨e9, he9, hfo1, hfo2, hfo3, hfo4, hfo5, hfo6⟩ := (rq_some hfl6 htp6 ht1 (by omega)).2.1 (fun z => by have z2 := (rq_some hfl6 htp6 ht1 (by omega)).1 z; rw [hrd6] at z2; cases z2)
                        obtain rfl : d9 = e9 := Option.some.inj (hrd6.symm.trans he9)
                        refine G_aload_n hC 0 rfl rfl d_Mo_check_318 ?_
                        refine G_dup hC rfl d_Mo_check_319 ?_
                        refine G_get hC fl_Mo_112 h_52 rfl d_Mo_check_320 ?_
                        refine G_iconst (i := 1) hC d_Mo_check_323 ?_
                        refine G_iadd hC d_Mo_check_324 ?_
                        refine G_putX (fs' := [.ref tp, vI tm, vI en, .ref ou, .ref sa, .ref aa, .ref na, .ref va, .ref lo, .ref dm, .int fm, vI st, .ref tg, vI (c2 + 1), vI v2, .ref pc, vI k1_47, vI (sgnS txt turn), vI f1_50, vI o1_51, vI n1_48, .int w1_49]) hC fl_Mo_112 ft_Mo fw_Mo_13 h_52 rfl rfl (Nat.le_of_ble_eq_true rfl) rfl d_Mo_check_325 (fun M_55 h_56 fr_57 => ?_)
                        refine G_aload_n hC 0 rfl rfl d_Mo_check_328 ?_
                        refine G_get hC fl_Mo_112 h_56 rfl d_Mo_check_329 ?_
                        refine G_bipush (j := 10) hC (by decide +kernel) d_Mo_check_332 ?_
                        refine G_icmp_le hC 340 (by omega) (by decide) (by decide) d_Mo_check_334 (fun c_58 => ?_) (fun c_58 => ?_)
                        · have hlv : lv < 10 := by omega
                          rw [if_neg (show ¬ (10 < c2 + 1 ∨ decide (0 < 11 - (lv + 1)) = false) from fun z => by rcases z with z | z; omega; (have z2 := of_decide_eq_false z; omega))] at hr
                          have h_59 := hg165.fr fr_54 (by intro u hu; simp only [List.mem_cons, List.not_mem_nil, or_false] at hu <;> omega)
                          have h_60 := h_59.fr fr_57 (by intro u hu; simp only [List.mem_cons, List.not_mem_nil, or_false] at hu <;> omega)
                          obtain ⟨T0, xs0, hT0, hT1⟩ := id (h_60 lv (Nat.le_refl _) (by omega))
                          have h_61 := TgA_up h_60 (show lv ≤ lv + 1 by omega)
                          refine G_aload_n hC 0 rfl rfl d_Mo_check_340 ?_
                          refine G_aload hC 4 rfl d_Mo_check_341 ?_
                          have h_62 := fr_54.at h_36 (by simp only [List.mem_cons, List.not_mem_nil, or_false, not_or, not_false_eq_true]; try omega)
                          have h_63 := fr_57.at h_62 (by simp only [List.mem_cons, List.not_mem_nil, or_false, not_or, not_false_eq_true]; try omega)
                          refine G_get hC fl_Mo_192 h_63 rfl d_Mo_check_343 ?_
                          refine G_aload_n hC 0 rfl rfl d_Mo_check_346 ?_
                          refine G_get hC fl_Mo_141 h_56 rfl d_Mo_check_347 ?_
                          refine G_aload_n hC 0 rfl rfl d_Mo_check_350 ?_
                          refine G_get hC fl_Mo_144 h_56 rfl d_Mo_check_351 ?_
                          refine G_aload_n hC 1 rfl rfl d_Mo_check_354 ?_
                          refine G_aload_n hC 0 rfl rfl d_Mo_check_355 ?_
                          refine G_get hC fl_Mo_56 h_56 rfl d_Mo_check_356 ?_
                          refine G_iload_n hC 2 rfl rfl d_Mo_check_359 ?_
                          have h_64 := hfr55.at h_arR_tg (by decide)
                          have h_65 := hfr165.at h_64 (by simp only [List.mem_append, mem_tgT, List.mem_range, List.mem_cons, List.not_mem_nil, or_false, false_or]; omega)
                          have h_66 := fr_54.at h_65 (by decide)
                          have h_67 := fr_57.at h_66 (by decide)
                          refine G_aald hC h_67 rfl (by omega) (by omega) (by rw [show (dd : Int).toNat = lv by omega, hT0]) d_Mo_check_360 ?_
                          have h_68 := h_43.fr fr_54 (by simp only [List.mem_cons, List.not_mem_nil, or_false, not_or, not_false_eq_true]; try omega)
                          have h_69 := h_68.fr fr_57 (by simp only [List.mem_cons, List.not_mem_nil, or_false, not_or, not_false_eq_true]; try omega)
                          have h_70 := h_Tx_lo.fr hfr55 (by decide) (by decide)
                          have h_71 := h_70.fr hfr165 (by simp only [List.mem_append, mem_tgT, List.mem_range, List.mem_cons, List.not_mem_nil, or_false, false_or]; omega) (by simp only [List.mem_append, mem_tgT, List.mem_range, List.mem_cons, List.not_mem_nil, or_false, false_or]; omega)
                          have h_72 := h_71.fr fr_54 (by decide) (by decide)
                          have h_73 := h_72.fr fr_57 (by decide) (by decide)
                          have h_74 := h_Tx_dm.fr hfr55 (by decide) (by decide)
                          have h_75 := h_74.fr hfr165 (by simp only [List.mem_append, mem_tgT, List.mem_range, List.mem_cons, List.not_mem_nil, or_false, false_or]; omega) (by simp only [List.mem_append, mem_tgT, List.mem_range, List.mem_cons, List.not_mem_nil, or_false, false_or]; omega)
                          have h_76 := h_75.fr fr_54 (by decide) (by decide)
                          have h_77 := h_76.fr fr_57 (by decide) (by decide)
                          have h_78 := h_Tx_d.fr hfr55 (tdQ_5 htd9).1 (tdQ_5 htd9).2
                          have h_79 := h_78.fr hfr165 (tdQ_t htd9).1 (tdQ_t htd9).2
                          have h_80 := h_79.fr fr_54 (tdQ_5 htd9).1 (tdQ_5 htd9).2
                          have h_81 := h_80.fr fr_57 (tdQ_5 htd9).1 (tdQ_5 htd9).2
                          have h_82 := hp165.fr fr_54 (by decide) (by decide)
                          have h_83 := h_82.fr fr_57 (by decide) (by decide)
                          refine G_xV (rest := []) hC hR (c_Mo_expand2 h_56 h_69 h_73 h_77 h_81 h_83 hT1 (by first | exact ht | (unfold tgP; omega)) (tdQ_x htd9 hdd.2) (by first | exact htr | (unfold trP; omega)) (by omega) hsn (by omega) hfo6 rfl) cv_Mo_228 ⟨_, _, h_56⟩ (by omega) (by omega) (by omega) rfl rfl (Nat.le_of_ble_eq_true rfl) d_Mo_check_361 (fun r_86 M_84 p_85 => ?_)
                          obtain ⟨ps1_87, rfl, h_88, h_89, fr_90⟩ := p_85
                          show G E M_84 (0 + 0 + 0) (0 + 0 + 0) [(0, .ref a), (1, .ref d), (2, vI dd), (3, vI kk), (4, .ref u_19), (5, vI all), (6, vI turn), (7, vI p)] [] 364
                          have h_91 : IsT (eD E) M_84 T0 (520 + 2 * lv) 61 (tgS (ls, ds, fm) X txt d9) := by rw [show tgS (ls, ds, fm) X txt d9 = (((expL (ls, ds, fm) X txt o1_51 f1_50).take 61)) by rw [tg_take, hfo1, hfo2]]; exact h_88
                          have hxl := h_91.len
                          have hcr := cv_r (chkS_cv es (ls, ds, fm) (11 - (lv + 1)) (tgS (ls, ds, fm) X txt d9) (c2 + 1) v2 (by omega))
                          refine G_aload_n hC 0 rfl rfl d_Mo_check_364 ?_
                          refine G_aload_n hC 0 rfl rfl d_Mo_check_365 ?_
                          have h_92 := fr_90.at h_56 (by simp only [List.mem_cons, List.not_mem_nil, or_false, not_or, not_false_eq_true]; try omega)
                          refine G_get hC fl_Mo_56 h_92 rfl d_Mo_check_366 ?_
                          refine G_iload_n hC 2 rfl rfl d_Mo_check_369 ?_
                          have h_93 := fr_90.at h_67 (by simp only [List.mem_cons, List.not_mem_nil, or_false, not_or, not_false_eq_true]; try omega)
                          refine G_aald hC h_93 rfl (by omega) (by omega) (by rw [show (dd : Int).toNat = lv by omega, hT0]) d_Mo_check_370 ?_
                          refine G_iload_n hC 2 rfl rfl d_Mo_check_371 ?_
                          refine G_iconst (i := 1) hC d_Mo_check_372 ?_
                          refine G_iadd hC d_Mo_check_373 ?_
                          have h_94 := h_Md_sa.fr hfr55 (by intro u hu; simp only [List.mem_cons, List.not_mem_nil, or_false] at hu <;> omega)
                          have h_95 := h_94.fr hfr165 (by intro u hu; simp only [List.mem_append, mem_tgT, List.mem_range, List.mem_cons, List.not_mem_nil, or_false, false_or] at hu; omega)
                          have h_96 := h_95.fr fr_54 (by intro u hu; simp only [List.mem_cons, List.not_mem_nil, or_false] at hu <;> omega)
                          have h_97 := h_96.fr fr_57 (by intro u hu; simp only [List.mem_cons, List.not_mem_nil, or_false] at hu <;> omega)
                          have h_98 := h_97.fr fr_90 (by intro u hu; simp only [List.mem_cons, List.not_mem_nil, or_false] at hu <;> omega)
                          have h_99 := h_73.fr fr_90 (by simp only [List.mem_cons, List.not_mem_nil, or_false, not_or, not_false_eq_true]; try omega) (by simp only [List.mem_cons, List.not_mem_nil, or_false, not_or, not_false_eq_true]; try omega)
                          have h_100 := h_77.fr fr_90 (by simp only [List.mem_cons, List.not_mem_nil, or_false, not_or, not_false_eq_true]; try omega) (by simp only [List.mem_cons, List.not_mem_nil, or_false, not_or, not_false_eq_true]; try omega)
                          have h_101 := h_61.fr fr_90 (by intro u hu; simp only [List.mem_cons, List.not_mem_nil, or_false] at hu <;> omega)
                          refine G_xV (rest := []) hC hR (IH (by omega) h_92 h_98 h_99 h_100 h_89 h_93 h_101 h_91 (by omega) hsn (by omega) (by omega) (by omega) (by omega) (by omega) rfl) cv_Mo_118 ⟨_, _, h_92⟩ (by omega) (by omega) (by omega) rfl rfl (Nat.le_of_ble_eq_true rfl) d_Mo_check_374 (fun r_104 M_102 p_103 => ?_)
                          obtain ⟨k9_105, s9_106, f9_107, o9_108, n9_109, w9_110, ps9_111, rfl, h_112, h_113, h_114, fr_115⟩ := p_103
                          show G E M_102 (0 + 0 + 0 + 0) (0 + 0 + 0 + 0) [(0, .ref a), (1, .ref d), (2, vI dd), (3, vI kk), (4, .ref u_19), (5, vI all), (6, vI turn), (7, vI p)] [vI ((chkS es (ls, ds, fm) (11 - (lv + 1)) (tgS (ls, ds, fm) X txt d9) (c2 + 1) v2).1)] 377
                          refine G_istore (lv' := [(7, vI ((chkS es (ls, ds, fm) (11 - (lv + 1)) (tgS (ls, ds, fm) X txt d9) (c2 + 1) v2).1)), (0, .ref a), (1, .ref d), (2, vI dd), (3, vI kk), (4, .ref u_19), (5, vI all), (6, vI turn)]) hC (by rw [hN]; decide) rfl d_Mo_check_377 ?_
                          refine G_iload hC 0 rfl d_Mo_check_379 ?_
                          refine G_if_ne hC 389 (by omega) (by decide) d_Mo_check_381 (fun c_116 => ?_) (fun c_116 => ?_)
                          · refine G_iload hC 0 rfl d_Mo_check_389 ?_
                            have hP : R = ((chkS es (ls, ds, fm) (11 - (lv + 1)) (tgS (ls, ds, fm) X txt d9) (c2 + 1) v2).1, (chkS es (ls, ds, fm) (11 - (lv + 1)) (tgS (ls, ds, fm) X txt d9) (c2 + 1) v2).2) := by rw [if_neg c_116] at hr; exact hr.symm
                            subst hP
                            have h_117 := h_91.fr fr_115 (by simp only [List.mem_append, mem_tgT, List.mem_range, List.mem_cons, List.not_mem_nil, or_false, false_or]; omega) (by simp only [List.mem_append, mem_tgT, List.mem_range, List.mem_cons, List.not_mem_nil, or_false, false_or]; omega)
                            exact G_iretX hC hQ (by omega) (by omega) d_Mo_check_391 ⟨_, _, _, _, _, _, _, rfl, h_112, h_113, (TgA_cons hT0 h_117 h_114), ((((((hfr55.up (T := ([500, 513, 514] ++ tgT lv)) (by intro u hu; simp only [List.mem_append, mem_tgT, List.mem_range, List.mem_cons, List.not_mem_nil, or_false, false_or] at hu ⊢ <;> omega)).tr' (T := ([500, 513, 514] ++ tgT lv)) hfr165 (fun _ z => z) (by intro u hu; simp only [List.mem_append, mem_tgT, List.mem_range, List.mem_cons, List.not_mem_nil, or_false, false_or] at hu ⊢ <;> omega)).tr' (T := ([500, 513, 514] ++ tgT lv)) fr_54 (fun _ z => z) (by intro u hu; simp only [List.mem_append, mem_tgT, List.mem_range, List.mem_cons, List.not_mem_nil, or_false, false_or] at hu ⊢ <;> omega)).tr' (T := ([500, 513, 514] ++ tgT lv)) fr_57 (fun _ z => z) (by intro u hu; simp only [List.mem_append, mem_tgT, List.mem_range, List.mem_cons, List.not_mem_nil, or_false, false_or] at hu ⊢ <;> omega)).tr' (T := ([500, 513, 514] ++ tgT lv)) fr_90 (fun _ z => z) (by intro u hu; simp only [List.mem_append, mem_tgT, List.mem_range, List.mem_cons, List.not_mem_nil, or_false, false_or] at hu ⊢ <;> omega)).tr' (T := ([500, 513, 514] ++ tgT lv)) fr_115 (fun _ z => z) (by intro u hu; simp only [List.mem_append, mem_tgT, List.mem_range, List.mem_cons, List.not_mem_nil, or_false, false_or] at hu ⊢ <;> omega))⟩
                          · refine G_bipush (j := 6) hC (by decide +kernel) d_Mo_check_384 ?_
                            refine G_goto hC 391 (by decide) d_Mo_check_386 ?_
                            have hP : R = (6, (chkS es (ls, ds, fm) (11 - (lv + 1)) (tgS (ls, ds, fm) X txt d9) (c2 + 1) v2).2) := by rw [if_pos c_116] at hr; exact hr.symm
                            subst hP
                            have h_118 := h_91.fr fr_115 (by simp only [List.mem_append, mem_tgT, List.mem_range, List.mem_cons, List.not_mem_nil, or_false, false_or]; omega) (by simp only [List.mem_append, mem_tgT, List.mem_range, List.mem_cons, List.not_mem_nil, or_false, false_or]; omega)
                            exact G_iretX hC hQ (by omega) (by omega) d_Mo_check_391 ⟨_, _, _, _, _, _, _, rfl, h_112, h_113, (TgA_cons hT0 h_118 h_114), ((((((hfr55.up (T := ([500, 513, 514] ++ tgT lv)) (by intro u hu; simp only [List.mem_append, mem_tgT, List.mem_range, List.mem_cons, List.not_mem_nil, or_false, false_or] at hu ⊢ <;> omega)).tr' (T := ([500, 513, 514] ++ tgT lv)) hfr165 (fun _ z => z) (by intro u hu; simp only [List.mem_append, mem_tgT, List.mem_range, List.mem_cons, List.not_mem_nil, or_false, false_or] at hu ⊢ <;> omega)).tr' (T := ([500, 513, 514] ++ tgT lv)) fr_54 (fun _ z => z) (by intro u hu; simp only [List.mem_append, mem_tgT, List.mem_range, List.mem_cons, List.not_mem_nil, or_false, false_or] at hu ⊢ <;> omega)).tr' (T := ([500, 513, 514] ++ tgT lv)) fr_57 (fun _ z => z) (by intro u hu; simp only [List.mem_append, mem_tgT, List.mem_range, List.mem_cons, List.not_mem_nil, or_false, false_or] at hu ⊢ <;> omega)).tr' (T := ([500, 513, 514] ++ tgT lv)) fr_90 (fun _ z => z) (by intro u hu; simp only [List.mem_append, mem_tgT, List.mem_range, List.mem_cons, List.not_mem_nil, or_false, false_or] at hu ⊢ <;> omega)).tr' (T := ([500, 513, 514] ++ tgT lv)) fr_115 (fun _ z => z) (by intro u hu; simp only [List.mem_append, mem_tgT, List.mem_range, List.mem_cons, List.not_mem_nil, or_false, false_or] at hu ⊢ <;> omega))⟩
                        · refine G_bipush (j := 6) hC (by decide +kernel) d_Mo_check_337 ?_
                          have hP : R = (6, c2 + 1, v2) := by rw [if_pos (Or.inl (by omega))] at hr; exact hr.symm
                          subst hP
                          have h_119 := hp165.fr fr_54 (by decide) (by decide)
                          have h_120 := h_119.fr fr_57 (by decide) (by decide)
                          have h_121 := hg165.fr fr_54 (by intro u hu; simp only [List.mem_cons, List.not_mem_nil, or_false] at hu <;> omega)
                          have h_122 := h_121.fr fr_57 (by intro u hu; simp only [List.mem_cons, List.not_mem_nil, or_false] at hu <;> omega)
                          exact G_iretX hC hQ (by omega) (by omega) d_Mo_check_339 ⟨_, _, _, _, _, _, _, rfl, h_56, h_120, h_122, ((((hfr55.up (T := ([500, 513, 514] ++ tgT lv)) (by intro u hu; simp only [List.mem_append, mem_tgT, List.mem_range, List.mem_cons, List.not_mem_nil, or_false, false_or] at hu ⊢ <;> omega)).tr' (T := ([500, 513, 514] ++ tgT lv)) hfr165 (fun _ z => z) (by intro u hu; simp only [List.mem_append, mem_tgT, List.mem_range, List.mem_cons, List.not_mem_nil, or_false, false_or] at hu ⊢ <;> omega)).tr' (T := ([500, 513, 514] ++ tgT lv)) fr_54 (fun _ z => z) (by intro u hu; simp only [List.mem_append, mem_tgT, List.mem_range, List.mem_cons, List.not_mem_nil, or_false, false_or] at hu ⊢ <;> omega)).tr' (T := ([500, 513, 514] ++ tgT lv)) fr_57 (fun _ z => z) (by intro u hu; simp only [List.mem_append, mem_tgT, List.mem_range, List.mem_cons, List.not_mem_nil, or_false, false_or] at hu ⊢ <;> omega))⟩
                      · exact absurd (show FM.1 = -1 by rw [← hfm]) (al_hit hal hFM (fun te h0 cn vo => by rw [mat_0 h0]) (by omega))
                  · have hb7 := bg_7 hbp (by omega)
                    have hbq := bg_b hbp (by omega)
                    refine G_aload_n hC 0 rfl rfl d_Mo_check_175 ?_
                    refine G_aload hC 4 rfl d_Mo_check_176 ?_
                    refine G_get hC fl_Mo_192 h_36 rfl d_Mo_check_178 ?_
                    refine G_iload hC 7 rfl d_Mo_check_181 ?_
                    refine G_aload hC 4 rfl d_Mo_check_183 ?_
                    refine G_iload hC 7 rfl d_Mo_check_185 ?_
                    have h_123 := h_34.fr hfr165 (by simp only [List.mem_append, mem_tgT, List.mem_range, List.mem_cons, List.not_mem_nil, or_false, false_or]; omega) (by simp only [List.mem_append, mem_tgT, List.mem_range, List.mem_cons, List.not_mem_nil, or_false, false_or]; omega)
                    refine G_pS (rest := [vI p, .ref r_27, .ref a]) hC hR (c_Mo_wordEnd h_123 (by omega) rfl) cs_Mo_218 (by omega) (by omega) (by omega) rfl rfl (Nat.le_of_ble_eq_true rfl) d_Mo_check_187 ?_
                    have g_124 := findS_rng txt 32 p (txt.length : Int)
                    have h_125 := h_29.fr hfr55 (by simp only [List.mem_cons, List.not_mem_nil, or_false, not_or, not_false_eq_true]; try omega)
                    have h_126 := h_125.fr hfr165 (by simp only [List.mem_append, mem_tgT, List.mem_range, List.mem_cons, List.not_mem_nil, or_false, false_or]; omega)
                    refine G_xV (rest := []) hC hR (c_Mo_readTerm ho165 h_126 (by omega) (by omega) (by omega) rfl) cv_Mo_221 ⟨_, _, ho165⟩ (by omega) (by omega) (by omega) rfl rfl (Nat.le_of_ble_eq_true rfl) d_Mo_check_190 (fun r_129 M_127 p_128 => ?_)
                    obtain ⟨k1_130, n1_131, w1_132, f1_133, o1_134, rfl, h_135, h_136, fr_137⟩ := p_128
                    show G E M_127 (0 + 0) (0 + 0) [(0, .ref a), (1, .ref d), (2, vI dd), (3, vI kk), (4, .ref u_19), (5, vI all), (6, vI turn), (7, vI p)] [] 193
                    have hrk := rq_k h_136
                    rcases hrk with ⟨hn8, hk8⟩ | ⟨te, htm, hk8, htp, hfl⟩
                    · refine G_aload_n hC 0 rfl rfl d_Mo_check_193 ?_
                      refine G_get hC fl_Mo_138 h_135 rfl d_Mo_check_194 ?_
                      refine G_bipush (j := 6) hC (by decide +kernel) d_Mo_check_197 ?_
                      refine G_icmp_lt hC 205 (by omega) (by decide) (by decide) d_Mo_check_199 (fun c_138 => ?_) (fun c_138 => ?_)
                      · exact (show False from by omega).elim
                      · refine G_goto hC 271 (by decide) d_Mo_check_202 ?_
                        have hfm2 := (fmL_none (by omega) hn8).symm.trans hfm
                        have hoc2 := hoc
                        rw [fmL_next (by omega) hbq.1] at hfm2
                        have hnx := nx_rng (txt := txt) (k := p) (by omega) hbq
                        refine G_aload hC 4 rfl d_Mo_check_271 ?_
                        refine G_aload hC 4 rfl d_Mo_check_273 ?_
                        refine G_iload hC 7 rfl d_Mo_check_275 ?_
                        have h_139 := h_123.fr fr_137 (by simp only [List.mem_cons, List.not_mem_nil, or_false, not_or, not_false_eq_true]; try omega) (by simp only [List.mem_cons, List.not_mem_nil, or_false, not_or, not_false_eq_true]; try omega)
                        refine G_pS (rest := [.ref u_19]) hC hR (c_Mo_wordEnd h_139 (by omega) rfl) cs_Mo_218 (by omega) (by omega) (by omega) rfl rfl (Nat.le_of_ble_eq_true rfl) d_Mo_check_277 ?_
                        have g_140 := findS_rng txt 32 p (txt.length : Int)
                        refine G_pS (rest := []) hC hR (c_Mo_blankFrom h_139 (by omega) rfl) cs_Mo_215 (by omega) (by omega) (by omega) rfl rfl (Nat.le_of_ble_eq_true rfl) d_Mo_check_280 ?_
                        have g_141 := nbS_rng txt _ (findS txt 32 p (txt.length : Int)) (Nat.lt_succ_self _)
                        refine G_istore (lv' := [(7, vI (nbS txt (findS txt 32 p (txt.length : Int)))), (0, .ref a), (1, .ref d), (2, vI dd), (3, vI kk), (4, .ref u_19), (5, vI all), (6, vI turn)]) hC (by rw [hN]; decide) rfl d_Mo_check_283 ?_
                        refine G_goto hC 165 (by decide) d_Mo_check_285 ?_
                        refine G_lv [1, 2, 3, 4, 5, 6, 7, 0] rfl ?_
                        have h_142 := hp165.fr fr_137 (by decide) (by decide)
                        have h_143 := hg165.fr fr_137 (by intro u hu; simp only [List.mem_cons, List.not_mem_nil, or_false] at hu <;> omega)
                        exact ih165 M_127 (nbS txt (findS txt 32 p (txt.length : Int))) _ _ _ _ _ _ _ _ _ (by omega) ((hfr165.up (T := ([500, 513, 514] ++ tgT lv)) (by intro u hu; simp only [List.mem_append, mem_tgT, List.mem_range, List.mem_cons, List.not_mem_nil, or_false, false_or] at hu ⊢ <;> omega)).tr' (T := ([500, 513, 514] ++ tgT lv)) fr_137 (fun _ z => z) (by intro u hu; simp only [List.mem_append, mem_tgT, List.mem_range, List.mem_cons, List.not_mem_nil, or_false, false_or] at hu ⊢ <;> omega)) h_135 h_142 h_143 (by omega) (bg_n hb7 (by omega)) hoc2 hfm2
                    · have hk7 := htp.1
                      refine G_aload_n hC 0 rfl rfl d_Mo_check_193 ?_
                      refine G_get hC fl_Mo_138 h_135 rfl d_Mo_check_194 ?_
                      refine G_bipush (j := 6) hC (by decide +kernel) d_Mo_check_197 ?_
                      refine G_icmp_lt hC 205 (by omega) (by decide) (by decide) d_Mo_check_199 (fun c_144 => ?_) (fun c_144 => ?_)
                      · have hsg := sgnS_rng txt p
                        have hmm : mvQ (matS (chkS es (ls, ds, fm) (11 - (lv + 1))) (decide (0 < 11 - (lv + 1))) es (ls, ds, fm) X txt te c2 v2).1 := matS_mv (ck := chkS es (ls, ds, fm) (11 - (lv + 1))) (more := decide (0 < 11 - (lv + 1))) (es := es) (sd := (ls, ds, fm)) (X := X) (txt := txt) (tm := te) (cn := c2) (vo := v2)
                        have hmr := mx_rng hmm
                        have hcv := matS_cv (ck := chkS es (ls, ds, fm) (11 - (lv + 1))) (more := decide (0 < 11 - (lv + 1))) (es := es) (sd := (ls, ds, fm)) (X := X) (txt := txt) (tm := te) (cn := c2) (vo := v2) (fun X cn vo ho => chkS_cv es (ls, ds, fm) _ X cn vo ho) hoc.1
                        have hup : c2 ≤ (matS (chkS es (ls, ds, fm) (11 - (lv + 1))) (decide (0 < 11 - (lv + 1))) es (ls, ds, fm) X txt te c2 v2).2.1 := matS_up (fun X cn vo => chkS_up es (ls, ds, fm) _ X cn vo)
                        refine G_aload_n hC 0 rfl rfl d_Mo_check_205 ?_
                        refine G_get hC fl_Mo_135 h_135 rfl d_Mo_check_206 ?_
                        refine G_istore (lv' := [(8, vI (sgnS txt p)), (0, .ref a), (1, .ref d), (2, vI dd), (3, vI kk), (4, .ref u_19), (5, vI all), (6, vI turn), (7, vI p)]) hC (by rw [hN]; decide) rfl d_Mo_check_209 ?_
                        refine G_aload_n hC 1 rfl rfl d_Mo_check_211 ?_
                        refine G_aload hC 5 rfl d_Mo_check_212 ?_
                        refine G_aload_n hC 2 rfl rfl d_Mo_check_214 ?_
                        refine G_iload_n hC 3 rfl rfl d_Mo_check_215 ?_
                        have h_145 := h_Md_sa.fr hfr55 (by intro u hu; simp only [List.mem_cons, List.not_mem_nil, or_false] at hu <;> omega)
                        have h_146 := h_145.fr hfr165 (by intro u hu; simp only [List.mem_append, mem_tgT, List.mem_range, List.mem_cons, List.not_mem_nil, or_false, false_or] at hu; omega)
                        have h_147 := h_146.fr fr_137 (by intro u hu; simp only [List.mem_cons, List.not_mem_nil, or_false] at hu <;> omega)
                        have h_148 := h_Tx_lo.fr hfr55 (by decide) (by decide)
                        have h_149 := h_148.fr hfr165 (by simp only [List.mem_append, mem_tgT, List.mem_range, List.mem_cons, List.not_mem_nil, or_false, false_or]; omega) (by simp only [List.mem_append, mem_tgT, List.mem_range, List.mem_cons, List.not_mem_nil, or_false, false_or]; omega)
                        have h_150 := h_149.fr fr_137 (by decide) (by decide)
                        have h_151 := h_Tx_dm.fr hfr55 (by decide) (by decide)
                        have h_152 := h_151.fr hfr165 (by simp only [List.mem_append, mem_tgT, List.mem_range, List.mem_cons, List.not_mem_nil, or_false, false_or]; omega) (by simp only [List.mem_append, mem_tgT, List.mem_range, List.mem_cons, List.not_mem_nil, or_false, false_or]; omega)
                        have h_153 := h_152.fr fr_137 (by decide) (by decide)
                        have h_154 := hp165.fr fr_137 (by decide) (by decide)
                        have h_155 := hfr55.at h_arR_tg (by decide)
                        have h_156 := hfr165.at h_155 (by simp only [List.mem_append, mem_tgT, List.mem_range, List.mem_cons, List.not_mem_nil, or_false, false_or]; omega)
                        have h_157 := fr_137.at h_156 (by decide)
                        have h_158 := hg165.fr fr_137 (by intro u hu; simp only [List.mem_cons, List.not_mem_nil, or_false] at hu <;> omega)
                        have h_159 := h_Tx_d.fr hfr55 (tdQ_5 htd9).1 (tdQ_5 htd9).2
                        have h_160 := h_159.fr hfr165 (tdQ_t htd9).1 (tdQ_t htd9).2
                        have h_161 := h_160.fr fr_137 (tdQ_5 htd9).1 (tdQ_5 htd9).2
                        have h_162 := h_123.fr fr_137 (by simp only [List.mem_cons, List.not_mem_nil, or_false, not_or, not_false_eq_true]; try omega) (by simp only [List.mem_cons, List.not_mem_nil, or_false, not_or, not_false_eq_true]; try omega)
                        refine G_xV (rest := []) hC hR (c_Mo_matches h_135 h_147 h_150 h_153 h_154 h_157 h_158 h_161 h_162 IH (by omega) hsn (by omega) (by omega) (by omega) (by omega) htd9 (by omega) hfl htp (by omega) (by omega) rfl) cv_Mo_224 ⟨_, _, h_135⟩ (by omega) (by omega) (by omega) rfl rfl (Nat.le_of_ble_eq_true rfl) d_Mo_check_216 (fun r_165 M_163 p_164 => ?_)
                        obtain ⟨k9_166, s9_167, f9_168, o9_169, n9_170, w9_171, ps9_172, rfl, h_173, h_174, h_175, fr_176⟩ := p_164
                        show G E M_163 (0 + 0 + 0) (0 + 0 + 0) [(8, vI (sgnS txt p)), (0, .ref a), (1, .ref d), (2, vI dd), (3, vI kk), (4, .ref u_19), (5, vI all), (6, vI turn), (7, vI p)] [vI (excM (matS (chkS es (ls, ds, fm) (11 - (lv + 1))) (decide (0 < 11 - (lv + 1))) es (ls, ds, fm) X txt te c2 v2).1)] 219
                        refine G_istore (lv' := [(9, vI (excM (matS (chkS es (ls, ds, fm) (11 - (lv + 1))) (decide (0 < 11 - (lv + 1))) es (ls, ds, fm) X txt te c2 v2).1)), (8, vI (sgnS txt p)), (0, .ref a), (1, .ref d), (2, vI dd), (3, vI kk), (4, .ref u_19), (5, vI all), (6, vI turn), (7, vI p)]) hC (by rw [hN]; decide) rfl d_Mo_check_219 ?_
                        refine G_iload hC 0 rfl d_Mo_check_221 ?_
                        refine G_iconst (i := 1) hC d_Mo_check_223 ?_
                        refine G_icmp_le hC 230 (by omega) (by decide) (by decide) d_Mo_check_224 (fun c_177 => ?_) (fun c_177 => ?_)
                        · refine G_iload hC 0 rfl d_Mo_check_230 ?_
                          refine G_iconst (i := 1) hC d_Mo_check_232 ?_
                          refine G_icmp_ne hC 271 (by omega) (by decide) (by decide) d_Mo_check_233 (fun c_178 => ?_) (fun c_178 => ?_)
                          · have hm1 : (matS (chkS es (ls, ds, fm) (11 - (lv + 1))) (decide (0 < 11 - (lv + 1))) es (ls, ds, fm) X txt te c2 v2).1 = -1 := mx_no hmm c_177 c_178
                            have hfm2 := (fmL_miss (by omega) hbq htm hm1).symm.trans hfm
                            have hoc2 : okC (matS (chkS es (ls, ds, fm) (11 - (lv + 1))) (decide (0 < 11 - (lv + 1))) es (ls, ds, fm) X txt te c2 v2).2.1 (matS (chkS es (ls, ds, fm) (11 - (lv + 1))) (decide (0 < 11 - (lv + 1))) es (ls, ds, fm) X txt te c2 v2).2.2 ∧ cn ≤ (matS (chkS es (ls, ds, fm) (11 - (lv + 1))) (decide (0 < 11 - (lv + 1))) es (ls, ds, fm) X txt te c2 v2).2.1 := ⟨ok_of hcv hm1, Int.le_trans hoc.2 hup⟩
                            rw [fmL_next (by omega) hbq.1] at hfm2
                            have hnx := nx_rng (txt := txt) (k := p) (by omega) hbq
                            refine G_aload hC 6 rfl d_Mo_check_271 ?_
                            refine G_aload hC 6 rfl d_Mo_check_273 ?_
                            refine G_iload hC 9 rfl d_Mo_check_275 ?_
                            have h_179 := h_162.fr fr_176 (by simp only [List.mem_append, mem_tgT, List.mem_range, List.mem_cons, List.not_mem_nil, or_false, false_or]; omega) (by simp only [List.mem_append, mem_tgT, List.mem_range, List.mem_cons, List.not_mem_nil, or_false, false_or]; omega)
                            refine G_pS (rest := [.ref u_19]) hC hR (c_Mo_wordEnd h_179 (by omega) rfl) cs_Mo_218 (by omega) (by omega) (by omega) rfl rfl (Nat.le_of_ble_eq_true rfl) d_Mo_check_277 ?_
                            have g_180 := findS_rng txt 32 p (txt.length : Int)
                            refine G_pS (rest := []) hC hR (c_Mo_blankFrom h_179 (by omega) rfl) cs_Mo_215 (by omega) (by omega) (by omega) rfl rfl (Nat.le_of_ble_eq_true rfl) d_Mo_check_280 ?_
                            have g_181 := nbS_rng txt _ (findS txt 32 p (txt.length : Int)) (Nat.lt_succ_self _)
                            refine G_istore (lv' := [(7, vI (nbS txt (findS txt 32 p (txt.length : Int)))), (9, vI (excM (matS (chkS es (ls, ds, fm) (11 - (lv + 1))) (decide (0 < 11 - (lv + 1))) es (ls, ds, fm) X txt te c2 v2).1)), (8, vI (sgnS txt p)), (0, .ref a), (1, .ref d), (2, vI dd), (3, vI kk), (4, .ref u_19), (5, vI all), (6, vI turn)]) hC (by rw [hN]; decide) rfl d_Mo_check_283 ?_
                            refine G_goto hC 165 (by decide) d_Mo_check_285 ?_
                            refine G_lv [3, 4, 5, 6, 7, 8, 9, 0] rfl ?_
                            exact ih165 M_163 (nbS txt (findS txt 32 p (txt.length : Int))) _ _ _ _ _ _ _ _ _ (by omega) (((hfr165.up (T := ([500, 513, 514] ++ tgT lv)) (by intro u hu; simp only [List.mem_append, mem_tgT, List.mem_range, List.mem_cons, List.not_mem_nil, or_false, false_or] at hu ⊢ <;> omega)).tr' (T := ([500, 513, 514] ++ tgT lv)) fr_137 (fun _ z => z) (by intro u hu; simp only [List.mem_append, mem_tgT, List.mem_range, List.mem_cons, List.not_mem_nil, or_false, false_or] at hu ⊢ <;> omega)).tr' (T := ([500, 513, 514] ++ tgT lv)) fr_176 (fun _ z => z) (by intro u hu; simp only [List.mem_append, mem_tgT, List.mem_range, List.mem_cons, List.not_mem_nil, or_false, false_or] at hu ⊢ <;> omega)) h_173 h_174 h_175 (by omega) (bg_n hb7 (by omega)) hoc2 hfm2
                          · refine G_iload hC 1 rfl d_Mo_check_236 ?_
                            refine G_bipush (j := 43) hC (by decide +kernel) d_Mo_check_238 ?_
                            refine G_icmp_ne hC 247 (by omega) (by decide) (by decide) d_Mo_check_240 (fun c_182 => ?_) (fun c_182 => ?_)
                            · refine G_iload hC 1 rfl d_Mo_check_247 ?_
                              refine G_bipush (j := 63) hC (by decide +kernel) d_Mo_check_249 ?_
                              refine G_icmp_ne hC 258 (by omega) (by decide) (by decide) d_Mo_check_251 (fun c_183 => ?_) (fun c_183 => ?_)
                              · refine G_iload hC 1 rfl d_Mo_check_258 ?_
                                refine G_bipush (j := 126) hC (by decide +kernel) d_Mo_check_260 ?_
                                refine G_icmp_ne hC 269 (by omega) (by decide) (by decide) d_Mo_check_262 (fun c_184 => ?_) (fun c_184 => ?_)
                                · refine G_iconst (i := 3) hC d_Mo_check_269 ?_
                                  have hm2 := mx_hit hmm c_178
                                  rw [fmL_hit (by omega) hbq htm (by rw [hm2]; decide), if_pos hm2] at hfm
                                  rw [ver_3 c_182 c_183 c_184] at hfm
                                  have hP : R = (3, (matS (chkS es (ls, ds, fm) (11 - (lv + 1))) (decide (0 < 11 - (lv + 1))) es (ls, ds, fm) X txt te c2 v2).2) := by rw [← hfm, if_pos (show ¬ (3 : Int) = -1 by decide)] at hr; exact hr.symm
                                  subst hP
                                  exact G_iretX hC hQ (by omega) (by omega) d_Mo_check_270 ⟨_, _, _, _, _, _, _, rfl, h_173, h_174, h_175, ((((hfr55.up (T := ([500, 513, 514] ++ tgT lv)) (by intro u hu; simp only [List.mem_append, mem_tgT, List.mem_range, List.mem_cons, List.not_mem_nil, or_false, false_or] at hu ⊢ <;> omega)).tr' (T := ([500, 513, 514] ++ tgT lv)) hfr165 (fun _ z => z) (by intro u hu; simp only [List.mem_append, mem_tgT, List.mem_range, List.mem_cons, List.not_mem_nil, or_false, false_or] at hu ⊢ <;> omega)).tr' (T := ([500, 513, 514] ++ tgT lv)) fr_137 (fun _ z => z) (by intro u hu; simp only [List.mem_append, mem_tgT, List.mem_range, List.mem_cons, List.not_mem_nil, or_false, false_or] at hu ⊢ <;> omega)).tr' (T := ([500, 513, 514] ++ tgT lv)) fr_176 (fun _ z => z) (by intro u hu; simp only [List.mem_append, mem_tgT, List.mem_range, List.mem_cons, List.not_mem_nil, or_false, false_or] at hu ⊢ <;> omega))⟩
                                · refine G_iconst (i := 4) hC d_Mo_check_265 ?_
                                  refine G_goto hC 270 (by decide) d_Mo_check_266 ?_
                                  have hm2 := mx_hit hmm c_178
                                  rw [fmL_hit (by omega) hbq htm (by rw [hm2]; decide), if_pos hm2] at hfm
                                  rw [ver_4 c_184] at hfm
                                  have hP : R = (4, (matS (chkS es (ls, ds, fm) (11 - (lv + 1))) (decide (0 < 11 - (lv + 1))) es (ls, ds, fm) X txt te c2 v2).2) := by rw [← hfm, if_pos (show ¬ (4 : Int) = -1 by decide)] at hr; exact hr.symm
                                  subst hP
                                  exact G_iretX hC hQ (by omega) (by omega) d_Mo_check_270 ⟨_, _, _, _, _, _, _, rfl, h_173, h_174, h_175, ((((hfr55.up (T := ([500, 513, 514] ++ tgT lv)) (by intro u hu; simp only [List.mem_append, mem_tgT, List.mem_range, List.mem_cons, List.not_mem_nil, or_false, false_or] at hu ⊢ <;> omega)).tr' (T := ([500, 513, 514] ++ tgT lv)) hfr165 (fun _ z => z) (by intro u hu; simp only [List.mem_append, mem_tgT, List.mem_range, List.mem_cons, List.not_mem_nil, or_false, false_or] at hu ⊢ <;> omega)).tr' (T := ([500, 513, 514] ++ tgT lv)) fr_137 (fun _ z => z) (by intro u hu; simp only [List.mem_append, mem_tgT, List.mem_range, List.mem_cons, List.not_mem_nil, or_false, false_or] at hu ⊢ <;> omega)).tr' (T := ([500, 513, 514] ++ tgT lv)) fr_176 (fun _ z => z) (by intro u hu; simp only [List.mem_append, mem_tgT, List.mem_range, List.mem_cons, List.not_mem_nil, or_false, false_or] at hu ⊢ <;> omega))⟩
                              · refine G_iconst (i := 1) hC d_Mo_check_254 ?_
                                refine G_goto hC 270 (by decide) d_Mo_check_255 ?_
                                have hm2 := mx_hit hmm c_178
                                rw [fmL_hit (by omega) hbq htm (by rw [hm2]; decide), if_pos hm2] at hfm
                                rw [ver_1 c_183] at hfm
                                have hP : R = (1, (matS (chkS es (ls, ds, fm) (11 - (lv + 1))) (decide (0 < 11 - (lv + 1))) es (ls, ds, fm) X txt te c2 v2).2) := by rw [← hfm, if_pos (show ¬ (1 : Int) = -1 by decide)] at hr; exact hr.symm
                                subst hP
                                exact G_iretX hC hQ (by omega) (by omega) d_Mo_check_270 ⟨_, _, _, _, _, _, _, rfl, h_173, h_174, h_175, ((((hfr55.up (T := ([500, 513, 514] ++ tgT lv)) (by intro u hu; simp only [List.mem_append, mem_tgT, List.mem_range, List.mem_cons, List.not_mem_nil, or_false, false_or] at hu ⊢ <;> omega)).tr' (T := ([500, 513, 514] ++ tgT lv)) hfr165 (fun _ z => z) (by intro u hu; simp only [List.mem_append, mem_tgT, List.mem_range, List.mem_cons, List.not_mem_nil, or_false, false_or] at hu ⊢ <;> omega)).tr' (T := ([500, 513, 514] ++ tgT lv)) fr_137 (fun _ z => z) (by intro u hu; simp only [List.mem_append, mem_tgT, List.mem_range, List.mem_cons, List.not_mem_nil, or_false, false_or] at hu ⊢ <;> omega)).tr' (T := ([500, 513, 514] ++ tgT lv)) fr_176 (fun _ z => z) (by intro u hu; simp only [List.mem_append, mem_tgT, List.mem_range, List.mem_cons, List.not_mem_nil, or_false, false_or] at hu ⊢ <;> omega))⟩
                            · refine G_iconst (i := 2) hC d_Mo_check_243 ?_
                              refine G_goto hC 270 (by decide) d_Mo_check_244 ?_
                              have hm2 := mx_hit hmm c_178
                              rw [fmL_hit (by omega) hbq htm (by rw [hm2]; decide), if_pos hm2] at hfm
                              rw [ver_2 c_182] at hfm
                              have hP : R = (2, (matS (chkS es (ls, ds, fm) (11 - (lv + 1))) (decide (0 < 11 - (lv + 1))) es (ls, ds, fm) X txt te c2 v2).2) := by rw [← hfm, if_pos (show ¬ (2 : Int) = -1 by decide)] at hr; exact hr.symm
                              subst hP
                              exact G_iretX hC hQ (by omega) (by omega) d_Mo_check_270 ⟨_, _, _, _, _, _, _, rfl, h_173, h_174, h_175, ((((hfr55.up (T := ([500, 513, 514] ++ tgT lv)) (by intro u hu; simp only [List.mem_append, mem_tgT, List.mem_range, List.mem_cons, List.not_mem_nil, or_false, false_or] at hu ⊢ <;> omega)).tr' (T := ([500, 513, 514] ++ tgT lv)) hfr165 (fun _ z => z) (by intro u hu; simp only [List.mem_append, mem_tgT, List.mem_range, List.mem_cons, List.not_mem_nil, or_false, false_or] at hu ⊢ <;> omega)).tr' (T := ([500, 513, 514] ++ tgT lv)) fr_137 (fun _ z => z) (by intro u hu; simp only [List.mem_append, mem_tgT, List.mem_range, List.mem_cons, List.not_mem_nil, or_false, false_or] at hu ⊢ <;> omega)).tr' (T := ([500, 513, 514] ++ tgT lv)) fr_176 (fun _ z => z) (by intro u hu; simp only [List.mem_append, mem_tgT, List.mem_range, List.mem_cons, List.not_mem_nil, or_false, false_or] at hu ⊢ <;> omega))⟩
                        · refine G_iload hC 0 rfl d_Mo_check_227 ?_
                          obtain ⟨hb1, hb2, hb3⟩ := mx_bad hmm c_177
                          rw [fmL_hit (by omega) hbq htm hb1, if_neg hb2] at hfm
                          have hP : R = (excM (matS (chkS es (ls, ds, fm) (11 - (lv + 1))) (decide (0 < 11 - (lv + 1))) es (ls, ds, fm) X txt te c2 v2).1, (matS (chkS es (ls, ds, fm) (11 - (lv + 1))) (decide (0 < 11 - (lv + 1))) es (ls, ds, fm) X txt te c2 v2).2) := by rw [← hfm, if_pos hb1] at hr; rw [hb3]; exact hr.symm
                          subst hP
                          exact G_iretX hC hQ (by omega) (by omega) d_Mo_check_229 ⟨_, _, _, _, _, _, _, rfl, h_173, h_174, h_175, ((((hfr55.up (T := ([500, 513, 514] ++ tgT lv)) (by intro u hu; simp only [List.mem_append, mem_tgT, List.mem_range, List.mem_cons, List.not_mem_nil, or_false, false_or] at hu ⊢ <;> omega)).tr' (T := ([500, 513, 514] ++ tgT lv)) hfr165 (fun _ z => z) (by intro u hu; simp only [List.mem_append, mem_tgT, List.mem_range, List.mem_cons, List.not_mem_nil, or_false, false_or] at hu ⊢ <;> omega)).tr' (T := ([500, 513, 514] ++ tgT lv)) fr_137 (fun _ z => z) (by intro u hu; simp only [List.mem_append, mem_tgT, List.mem_range, List.mem_cons, List.not_mem_nil, or_false, false_or] at hu ⊢ <;> omega)).tr' (T := ([500, 513, 514] ++ tgT lv)) fr_176 (fun _ z => z) (by intro u hu; simp only [List.mem_append, mem_tgT, List.mem_range, List.mem_cons, List.not_mem_nil, or_false, false_or] at hu ⊢ <;> omega))⟩
                      · refine G_goto hC 271 (by decide) d_Mo_check_202 ?_
                        have hfm2 := (fmL_miss (by omega) hbq htm (by rw [mat_7 (by omega)])).symm.trans hfm
                        rw [mat_7 (by omega)] at hfm2
                        dsimp only at hfm2
                        have hoc2 := hoc
                        rw [fmL_next (by omega) hbq.1] at hfm2
                        have hnx := nx_rng (txt := txt) (k := p) (by omega) hbq
                        refine G_aload hC 4 rfl d_Mo_check_271 ?_
                        refine G_aload hC 4 rfl d_Mo_check_273 ?_
                        refine G_iload hC 7 rfl d_Mo_check_275 ?_
                        have h_185 := h_123.fr fr_137 (by simp only [List.mem_cons, List.not_mem_nil, or_false, not_or, not_false_eq_true]; try omega) (by simp only [List.mem_cons, List.not_mem_nil, or_false, not_or, not_false_eq_true]; try omega)
                        refine G_pS (rest := [.ref u_19]) hC hR (c_Mo_wordEnd h_185 (by omega) rfl) cs_Mo_218 (by omega) (by omega) (by omega) rfl rfl (Nat.le_of_ble_eq_true rfl) d_Mo_check_277 ?_
                        have g_186 := findS_rng txt 32 p (txt.length : Int)
                        refine G_pS (rest := []) hC hR (c_Mo_blankFrom h_185 (by omega) rfl) cs_Mo_215 (by omega) (by omega) (by omega) rfl rfl (Nat.le_of_ble_eq_true rfl) d_Mo_check_280 ?_
                        have g_187 := nbS_rng txt _ (findS txt 32 p (txt.length : Int)) (Nat.lt_succ_self _)
                        refine G_istore (lv' := [(7, vI (nbS txt (findS txt 32 p (txt.length : Int)))), (0, .ref a), (1, .ref d), (2, vI dd), (3, vI kk), (4, .ref u_19), (5, vI all), (6, vI turn)]) hC (by rw [hN]; decide) rfl d_Mo_check_283 ?_
                        refine G_goto hC 165 (by decide) d_Mo_check_285 ?_
                        refine G_lv [1, 2, 3, 4, 5, 6, 7, 0] rfl ?_
                        have h_188 := hp165.fr fr_137 (by decide) (by decide)
                        have h_189 := hg165.fr fr_137 (by intro u hu; simp only [List.mem_cons, List.not_mem_nil, or_false] at hu <;> omega)
                        exact ih165 M_127 (nbS txt (findS txt 32 p (txt.length : Int))) _ _ _ _ _ _ _ _ _ (by omega) ((hfr165.up (T := ([500, 513, 514] ++ tgT lv)) (by intro u hu; simp only [List.mem_append, mem_tgT, List.mem_range, List.mem_cons, List.not_mem_nil, or_false, false_or] at hu ⊢ <;> omega)).tr' (T := ([500, 513, 514] ++ tgT lv)) fr_137 (fun _ z => z) (by intro u hu; simp only [List.mem_append, mem_tgT, List.mem_range, List.mem_cons, List.not_mem_nil, or_false, false_or] at hu ⊢ <;> omega)) h_135 h_188 h_189 (by omega) (bg_n hb7 (by omega)) hoc2 hfm2
              refine G_lv [1, 2, 3, 4, 5, 6, 7, 0] rfl ?_
              have h_190 := h_Tx_pc.fr hfr55 (by decide) (by decide)
              have h_191 := h_TgA_ft.fr hfr55 (by intro u hu; simp only [List.mem_cons, List.not_mem_nil, or_false] at hu <;> omega)
              exact L165 _ M55 (nbS txt 6) _ _ _ _ _ _ _ _ _ (Nat.lt_succ_self _) Fr.rf ho55 h_190 h_191 (by omega) (bg_0 hsp) ⟨hok, Int.le_refl _⟩ hsf
            · have hb7 := bg_7 hbg (by omega)
              have hbq := bg_b hbg (by omega)
              refine G_aload_n hC 0 rfl rfl d_Mo_check_65 ?_
              refine G_aload hC 4 rfl d_Mo_check_66 ?_
              refine G_get hC fl_Mo_192 h_32 rfl d_Mo_check_68 ?_
              refine G_iload hC 7 rfl d_Mo_check_71 ?_
              refine G_aload hC 4 rfl d_Mo_check_73 ?_
              refine G_iload hC 7 rfl d_Mo_check_75 ?_
              have h_192 := h_25.fr hfr55 (by simp only [List.mem_cons, List.not_mem_nil, or_false, not_or, not_false_eq_true]; try omega) (by simp only [List.mem_cons, List.not_mem_nil, or_false, not_or, not_false_eq_true]; try omega)
              refine G_pS (rest := [vI q, .ref r_27, .ref a]) hC hR (c_Mo_wordEnd h_192 (by omega) rfl) cs_Mo_218 (by omega) (by omega) (by omega) rfl rfl (Nat.le_of_ble_eq_true rfl) d_Mo_check_77 ?_
              have g_193 := findS_rng txt 32 q (txt.length : Int)
              have h_194 := h_29.fr hfr55 (by simp only [List.mem_cons, List.not_mem_nil, or_false, not_or, not_false_eq_true]; try omega)
              refine G_xV (rest := []) hC hR (c_Mo_readTerm ho55 h_194 (by omega) (by omega) (by omega) rfl) cv_Mo_221 ⟨_, _, ho55⟩ (by omega) (by omega) (by omega) rfl rfl (Nat.le_of_ble_eq_true rfl) d_Mo_check_80 (fun r_197 M_195 p_196 => ?_)
              obtain ⟨k1_198, n1_199, w1_200, f1_201, o1_202, rfl, h_203, h_204, fr_205⟩ := p_196
              show G E M_195 (0 + 0) (0 + 0) [(0, .ref a), (1, .ref d), (2, vI dd), (3, vI kk), (4, .ref u_19), (5, vI all), (6, vI turn), (7, vI q)] [] 83
              have hrk := rq_k h_204
              rcases hrk with ⟨hn8, hk8⟩ | ⟨te, htm, hk8, htp, hfl⟩
              · refine G_aload_n hC 0 rfl rfl d_Mo_check_83 ?_
                refine G_get hC fl_Mo_138 h_203 rfl d_Mo_check_84 ?_
                refine G_bipush (j := 8) hC (by decide +kernel) d_Mo_check_87 ?_
                refine G_icmp_eq hC 106 (by omega) (by decide) (by decide) d_Mo_check_89 (fun c_206 => ?_) (fun c_206 => ?_)
                · refine G_bipush (j := 6) hC (by decide +kernel) d_Mo_check_106 ?_
                  have hP : R = (6, cn, vo) := by rw [rtL_bad (by omega) hbq hn8] at hf; rw [← hf] at hr; exact hr.symm
                  subst hP
                  have h_207 := h_Tx_pc.fr hfr55 (by decide) (by decide)
                  have h_208 := h_207.fr fr_205 (by decide) (by decide)
                  have h_209 := h_TgA_ft.fr hfr55 (by intro u hu; simp only [List.mem_cons, List.not_mem_nil, or_false] at hu <;> omega)
                  have h_210 := h_209.fr fr_205 (by intro u hu; simp only [List.mem_cons, List.not_mem_nil, or_false] at hu <;> omega)
                  exact G_iretX hC hQ (by omega) (by omega) d_Mo_check_108 ⟨_, _, _, _, _, _, _, rfl, h_203, h_208, h_210, ((hfr55.up (T := ([500, 513, 514] ++ tgT lv)) (by intro u hu; simp only [List.mem_append, mem_tgT, List.mem_range, List.mem_cons, List.not_mem_nil, or_false, false_or] at hu ⊢ <;> omega)).tr' (T := ([500, 513, 514] ++ tgT lv)) fr_205 (fun _ z => z) (by intro u hu; simp only [List.mem_append, mem_tgT, List.mem_range, List.mem_cons, List.not_mem_nil, or_false, false_or] at hu ⊢ <;> omega))⟩
                · exact (show False from by omega).elim
              · have hk7 := htp.1
                refine G_aload_n hC 0 rfl rfl d_Mo_check_83 ?_
                refine G_get hC fl_Mo_138 h_203 rfl d_Mo_check_84 ?_
                refine G_bipush (j := 8) hC (by decide +kernel) d_Mo_check_87 ?_
                refine G_icmp_eq hC 106 (by omega) (by decide) (by decide) d_Mo_check_89 (fun c_211 => ?_) (fun c_211 => ?_)
                · exact (show False from by omega).elim
                · refine G_aload_n hC 0 rfl rfl d_Mo_check_92 ?_
                  refine G_get hC fl_Mo_138 h_203 rfl d_Mo_check_93 ?_
                  refine G_bipush (j := 6) hC (by decide +kernel) d_Mo_check_96 ?_
                  refine G_icmp_ne hC 109 (by omega) (by decide) (by decide) d_Mo_check_98 (fun c_212 => ?_) (fun c_212 => ?_)
                  · refine G_aload_n hC 0 rfl rfl d_Mo_check_109 ?_
                    refine G_get hC fl_Mo_138 h_203 rfl d_Mo_check_110 ?_
                    refine G_bipush (j := 6) hC (by decide +kernel) d_Mo_check_113 ?_
                    refine G_icmp_ne hC 122 (by omega) (by decide) (by decide) d_Mo_check_115 (fun c_213 => ?_) (fun c_213 => ?_)
                    · have hf2 : rtL txt (nbS txt (findS txt 32 q txt.length)) rd = RT := by rw [rtL_term (by omega) hbq htm, if_neg (show ¬ te.1 = 6 by omega), rtL_next (by omega) hbq.1] at hf; exact hf
                      have htr2 := htr
                      refine G_iload hC 5 rfl d_Mo_check_122 ?_
                      refine G_aload_n hC 0 rfl rfl d_Mo_check_124 ?_
                      refine G_get hC fl_Mo_138 h_203 rfl d_Mo_check_125 ?_
                      refine G_if_ne hC 135 (by omega) (by decide) d_Mo_check_128 (fun c_214 => ?_) (fun c_214 => ?_)
                      · refine G_iconst (i := 0) hC d_Mo_check_135 ?_
                        refine G_ior hC (zI_or (a := all) (b := 0) (c := max all 0) (by omega) (by omega) rfl) d_Mo_check_136 ?_
                        refine G_istore (lv' := [(5, vI (max all 0)), (0, .ref a), (1, .ref d), (2, vI dd), (3, vI kk), (4, .ref u_19), (6, vI turn), (7, vI q)]) hC (by rw [hN]; decide) rfl d_Mo_check_137 ?_
                        have hal2 : alP txt (max all 0) := al_or0 (by omega) hal
                        have hnx := nx_rng (txt := txt) (k := q) (by omega) hbq
                        refine G_aload hC 5 rfl d_Mo_check_139 ?_
                        refine G_aload hC 5 rfl d_Mo_check_141 ?_
                        refine G_iload hC 7 rfl d_Mo_check_143 ?_
                        have h_215 := h_192.fr fr_205 (by simp only [List.mem_cons, List.not_mem_nil, or_false, not_or, not_false_eq_true]; try omega) (by simp only [List.mem_cons, List.not_mem_nil, or_false, not_or, not_false_eq_true]; try omega)
                        refine G_pS (rest := [.ref u_19]) hC hR (c_Mo_wordEnd h_215 (by omega) rfl) cs_Mo_218 (by omega) (by omega) (by omega) rfl rfl (Nat.le_of_ble_eq_true rfl) d_Mo_check_145 ?_
                        have g_216 := findS_rng txt 32 q (txt.length : Int)
                        refine G_pS (rest := []) hC hR (c_Mo_blankFrom h_215 (by omega) rfl) cs_Mo_215 (by omega) (by omega) (by omega) rfl rfl (Nat.le_of_ble_eq_true rfl) d_Mo_check_148 ?_
                        have g_217 := nbS_rng txt _ (findS txt 32 q (txt.length : Int)) (Nat.lt_succ_self _)
                        refine G_istore (lv' := [(7, vI (nbS txt (findS txt 32 q (txt.length : Int)))), (5, vI (max all 0)), (0, .ref a), (1, .ref d), (2, vI dd), (3, vI kk), (4, .ref u_19), (6, vI turn)]) hC (by rw [hN]; decide) rfl d_Mo_check_151 ?_
                        refine G_goto hC 55 (by decide) d_Mo_check_153 ?_
                        refine G_lv [2, 3, 4, 5, 6, 1, 7, 0] rfl ?_
                        exact ih55 M_195 (max all 0) turn (nbS txt (findS txt 32 q (txt.length : Int))) rd _ _ _ _ _ _ (by omega) ((hfr55.up (T := [500]) (by simp)).tr' (T := [500]) fr_205 (fun _ z => z) (by simp)) h_203 (by omega) (bg_n hb7 (by omega)) htr2 hal2 hf2
                      · refine G_iconst (i := 1) hC d_Mo_check_131 ?_
                        refine G_goto hC 136 (by decide) d_Mo_check_132 ?_
                        refine G_ior hC (zI_or (a := all) (b := 1) (c := max all 1) (by omega) (by omega) rfl) d_Mo_check_136 ?_
                        refine G_istore (lv' := [(5, vI (max all 1)), (0, .ref a), (1, .ref d), (2, vI dd), (3, vI kk), (4, .ref u_19), (6, vI turn), (7, vI q)]) hC (by rw [hN]; decide) rfl d_Mo_check_137 ?_
                        have hal2 : alP txt (max all 1) := al_yes (by omega) hbq htm (by omega)
                        have hnx := nx_rng (txt := txt) (k := q) (by omega) hbq
                        refine G_aload hC 5 rfl d_Mo_check_139 ?_
                        refine G_aload hC 5 rfl d_Mo_check_141 ?_
                        refine G_iload hC 7 rfl d_Mo_check_143 ?_
                        have h_218 := h_192.fr fr_205 (by simp only [List.mem_cons, List.not_mem_nil, or_false, not_or, not_false_eq_true]; try omega) (by simp only [List.mem_cons, List.not_mem_nil, or_false, not_or, not_false_eq_true]; try omega)
                        refine G_pS (rest := [.ref u_19]) hC hR (c_Mo_wordEnd h_218 (by omega) rfl) cs_Mo_218 (by omega) (by omega) (by omega) rfl rfl (Nat.le_of_ble_eq_true rfl) d_Mo_check_145 ?_
                        have g_219 := findS_rng txt 32 q (txt.length : Int)
                        refine G_pS (rest := []) hC hR (c_Mo_blankFrom h_218 (by omega) rfl) cs_Mo_215 (by omega) (by omega) (by omega) rfl rfl (Nat.le_of_ble_eq_true rfl) d_Mo_check_148 ?_
                        have g_220 := nbS_rng txt _ (findS txt 32 q (txt.length : Int)) (Nat.lt_succ_self _)
                        refine G_istore (lv' := [(7, vI (nbS txt (findS txt 32 q (txt.length : Int)))), (5, vI (max all 1)), (0, .ref a), (1, .ref d), (2, vI dd), (3, vI kk), (4, .ref u_19), (6, vI turn)]) hC (by rw [hN]; decide) rfl d_Mo_check_151 ?_
                        refine G_goto hC 55 (by decide) d_Mo_check_153 ?_
                        refine G_lv [2, 3, 4, 5, 6, 1, 7, 0] rfl ?_
                        exact ih55 M_195 (max all 1) turn (nbS txt (findS txt 32 q (txt.length : Int))) rd _ _ _ _ _ _ (by omega) ((hfr55.up (T := [500]) (by simp)).tr' (T := [500]) fr_205 (fun _ z => z) (by simp)) h_203 (by omega) (bg_n hb7 (by omega)) htr2 hal2 hf2
                    · refine G_iload hC 7 rfl d_Mo_check_118 ?_
                      refine G_istore (lv' := [(6, vI q), (0, .ref a), (1, .ref d), (2, vI dd), (3, vI kk), (4, .ref u_19), (5, vI all), (7, vI q)]) hC (by rw [hN]; decide) rfl d_Mo_check_120 ?_
                      have hrd0 : rd = none := trn_neg htr (by omega)
                      have hf2 : rtL txt (nbS txt (findS txt 32 q txt.length)) te.2.2.2 = RT := by rw [rtL_term (by omega) hbq htm, if_pos (show te.1 = 6 by omega), hrd0, if_neg (by decide), rtL_next (by omega) hbq.1] at hf; exact hf
                      have htr2 : trnP txt q te.2.2.2 := trn_q (by omega) htm (by omega) htp
                      refine G_iload hC 6 rfl d_Mo_check_122 ?_
                      refine G_aload_n hC 1 rfl rfl d_Mo_check_124 ?_
                      refine G_get hC fl_Mo_138 h_203 rfl d_Mo_check_125 ?_
                      refine G_if_ne hC 135 (by omega) (by decide) d_Mo_check_128 (fun c_221 => ?_) (fun c_221 => ?_)
                      · refine G_iconst (i := 0) hC d_Mo_check_135 ?_
                        refine G_ior hC (zI_or (a := all) (b := 0) (c := max all 0) (by omega) (by omega) rfl) d_Mo_check_136 ?_
                        refine G_istore (lv' := [(5, vI (max all 0)), (6, vI q), (0, .ref a), (1, .ref d), (2, vI dd), (3, vI kk), (4, .ref u_19), (7, vI q)]) hC (by rw [hN]; decide) rfl d_Mo_check_137 ?_
                        have hal2 : alP txt (max all 0) := al_or0 (by omega) hal
                        have hnx := nx_rng (txt := txt) (k := q) (by omega) hbq
                        refine G_aload hC 6 rfl d_Mo_check_139 ?_
                        refine G_aload hC 6 rfl d_Mo_check_141 ?_
                        refine G_iload hC 7 rfl d_Mo_check_143 ?_
                        have h_222 := h_192.fr fr_205 (by simp only [List.mem_cons, List.not_mem_nil, or_false, not_or, not_false_eq_true]; try omega) (by simp only [List.mem_cons, List.not_mem_nil, or_false, not_or, not_false_eq_true]; try omega)
                        refine G_pS (rest := [.ref u_19]) hC hR (c_Mo_wordEnd h_222 (by omega) rfl) cs_Mo_218 (by omega) (by omega) (by omega) rfl rfl (Nat.le_of_ble_eq_true rfl) d_Mo_check_145 ?_
                        have g_223 := findS_rng txt 32 q (txt.length : Int)
                        refine G_pS (rest := []) hC hR (c_Mo_blankFrom h_222 (by omega) rfl) cs_Mo_215 (by omega) (by omega) (by omega) rfl rfl (Nat.le_of_ble_eq_true rfl) d_Mo_check_148 ?_
                        have g_224 := nbS_rng txt _ (findS txt 32 q (txt.length : Int)) (Nat.lt_succ_self _)
                        refine G_istore (lv' := [(7, vI (nbS txt (findS txt 32 q (txt.length : Int)))), (5, vI (max all 0)), (6, vI q), (0, .ref a), (1, .ref d), (2, vI dd), (3, vI kk), (4, .ref u_19)]) hC (by rw [hN]; decide) rfl d_Mo_check_151 ?_
                        refine G_goto hC 55 (by decide) d_Mo_check_153 ?_
                        refine G_lv [3, 4, 5, 6, 7, 1, 2, 0] rfl ?_
                        exact ih55 M_195 (max all 0) q (nbS txt (findS txt 32 q (txt.length : Int))) te.2.2.2 _ _ _ _ _ _ (by omega) ((hfr55.up (T := [500]) (by simp)).tr' (T := [500]) fr_205 (fun _ z => z) (by simp)) h_203 (by omega) (bg_n hb7 (by omega)) htr2 hal2 hf2
                      · refine G_iconst (i := 1) hC d_Mo_check_131 ?_
                        refine G_goto hC 136 (by decide) d_Mo_check_132 ?_
                        refine G_ior hC (zI_or (a := all) (b := 1) (c := max all 1) (by omega) (by omega) rfl) d_Mo_check_136 ?_
                        refine G_istore (lv' := [(5, vI (max all 1)), (6, vI q), (0, .ref a), (1, .ref d), (2, vI dd), (3, vI kk), (4, .ref u_19), (7, vI q)]) hC (by rw [hN]; decide) rfl d_Mo_check_137 ?_
                        have hal2 : alP txt (max all 1) := al_yes (by omega) hbq htm (by omega)
                        have hnx := nx_rng (txt := txt) (k := q) (by omega) hbq
                        refine G_aload hC 6 rfl d_Mo_check_139 ?_
                        refine G_aload hC 6 rfl d_Mo_check_141 ?_
                        refine G_iload hC 7 rfl d_Mo_check_143 ?_
                        have h_225 := h_192.fr fr_205 (by simp only [List.mem_cons, List.not_mem_nil, or_false, not_or, not_false_eq_true]; try omega) (by simp only [List.mem_cons, List.not_mem_nil, or_false, not_or, not_false_eq_true]; try omega)
                        refine G_pS (rest := [.ref u_19]) hC hR (c_Mo_wordEnd h_225 (by omega) rfl) cs_Mo_218 (by omega) (by omega) (by omega) rfl rfl (Nat.le_of_ble_eq_true rfl) d_Mo_check_145 ?_
                        have g_226 := findS_rng txt 32 q (txt.length : Int)
                        refine G_pS (rest := []) hC hR (c_Mo_blankFrom h_225 (by omega) rfl) cs_Mo_215 (by omega) (by omega) (by omega) rfl rfl (Nat.le_of_ble_eq_true rfl) d_Mo_check_148 ?_
                        have g_227 := nbS_rng txt _ (findS txt 32 q (txt.length : Int)) (Nat.lt_succ_self _)
                        refine G_istore (lv' := [(7, vI (nbS txt (findS txt 32 q (txt.length : Int)))), (5, vI (max all 1)), (6, vI q), (0, .ref a), (1, .ref d), (2, vI dd), (3, vI kk), (4, .ref u_19)]) hC (by rw [hN]; decide) rfl d_Mo_check_151 ?_
                        refine G_goto hC 55 (by decide) d_Mo_check_153 ?_
                        refine G_lv [3, 4, 5, 6, 7, 1, 2, 0] rfl ?_
                        exact ih55 M_195 (max all 1) q (nbS txt (findS txt 32 q (txt.length : Int))) te.2.2.2 _ _ _ _ _ _ (by omega) ((hfr55.up (T := [500]) (by simp)).tr' (T := [500]) fr_205 (fun _ z => z) (by simp)) h_203 (by omega) (bg_n hb7 (by omega)) htr2 hal2 hf2
                  · refine G_iload hC 6 rfl d_Mo_check_101 ?_
                    refine G_if_lt hC 109 (by omega) (by decide) d_Mo_check_103 (fun c_228 => ?_) (fun c_228 => ?_)
                    · refine G_aload_n hC 0 rfl rfl d_Mo_check_109 ?_
                      refine G_get hC fl_Mo_138 h_203 rfl d_Mo_check_110 ?_
                      refine G_bipush (j := 6) hC (by decide +kernel) d_Mo_check_113 ?_
                      refine G_icmp_ne hC 122 (by omega) (by decide) (by decide) d_Mo_check_115 (fun c_229 => ?_) (fun c_229 => ?_)
                      · have hf2 : rtL txt (nbS txt (findS txt 32 q txt.length)) rd = RT := by rw [rtL_term (by omega) hbq htm, if_neg (show ¬ te.1 = 6 by omega), rtL_next (by omega) hbq.1] at hf; exact hf
                        have htr2 := htr
                        refine G_iload hC 5 rfl d_Mo_check_122 ?_
                        refine G_aload_n hC 0 rfl rfl d_Mo_check_124 ?_
                        refine G_get hC fl_Mo_138 h_203 rfl d_Mo_check_125 ?_
                        refine G_if_ne hC 135 (by omega) (by decide) d_Mo_check_128 (fun c_230 => ?_) (fun c_230 => ?_)
                        · refine G_iconst (i := 0) hC d_Mo_check_135 ?_
                          refine G_ior hC (zI_or (a := all) (b := 0) (c := max all 0) (by omega) (by omega) rfl) d_Mo_check_136 ?_
                          refine G_istore (lv' := [(5, vI (max all 0)), (0, .ref a), (1, .ref d), (2, vI dd), (3, vI kk), (4, .ref u_19), (6, vI turn), (7, vI q)]) hC (by rw [hN]; decide) rfl d_Mo_check_137 ?_
                          have hal2 : alP txt (max all 0) := al_or0 (by omega) hal
                          have hnx := nx_rng (txt := txt) (k := q) (by omega) hbq
                          refine G_aload hC 5 rfl d_Mo_check_139 ?_
                          refine G_aload hC 5 rfl d_Mo_check_141 ?_
                          refine G_iload hC 7 rfl d_Mo_check_143 ?_
                          have h_231 := h_192.fr fr_205 (by simp only [List.mem_cons, List.not_mem_nil, or_false, not_or, not_false_eq_true]; try omega) (by simp only [List.mem_cons, List.not_mem_nil, or_false, not_or, not_false_eq_true]; try omega)
                          refine G_pS (rest := [.ref u_19]) hC hR (c_Mo_wordEnd h_231 (by omega) rfl) cs_Mo_218 (by omega) (by omega) (by omega) rfl rfl (Nat.le_of_ble_eq_true rfl) d_Mo_check_145 ?_
                          have g_232 := findS_rng txt 32 q (txt.length : Int)
                          refine G_pS (rest := []) hC hR (c_Mo_blankFrom h_231 (by omega) rfl) cs_Mo_215 (by omega) (by omega) (by omega) rfl rfl (Nat.le_of_ble_eq_true rfl) d_Mo_check_148 ?_
                          have g_233 := nbS_rng txt _ (findS txt 32 q (txt.length : Int)) (Nat.lt_succ_self _)
                          refine G_istore (lv' := [(7, vI (nbS txt (findS txt 32 q (txt.length : Int)))), (5, vI (max all 0)), (0, .ref a), (1, .ref d), (2, vI dd), (3, vI kk), (4, .ref u_19), (6, vI turn)]) hC (by rw [hN]; decide) rfl d_Mo_check_151 ?_
                          refine G_goto hC 55 (by decide) d_Mo_check_153 ?_
                          refine G_lv [2, 3, 4, 5, 6, 1, 7, 0] rfl ?_
                          exact ih55 M_195 (max all 0) turn (nbS txt (findS txt 32 q (txt.length : Int))) rd _ _ _ _ _ _ (by omega) ((hfr55.up (T := [500]) (by simp)).tr' (T := [500]) fr_205 (fun _ z => z) (by simp)) h_203 (by omega) (bg_n hb7 (by omega)) htr2 hal2 hf2
                        · refine G_iconst (i := 1) hC d_Mo_check_131 ?_
                          refine G_goto hC 136 (by decide) d_Mo_check_132 ?_
                          refine G_ior hC (zI_or (a := all) (b := 1) (c := max all 1) (by omega) (by omega) rfl) d_Mo_check_136 ?_
                          refine G_istore (lv' := [(5, vI (max all 1)), (0, .ref a), (1, .ref d), (2, vI dd), (3, vI kk), (4, .ref u_19), (6, vI turn), (7, vI q)]) hC (by rw [hN]; decide) rfl d_Mo_check_137 ?_
                          have hal2 : alP txt (max all 1) := al_yes (by omega) hbq htm (by omega)
                          have hnx := nx_rng (txt := txt) (k := q) (by omega) hbq
                          refine G_aload hC 5 rfl d_Mo_check_139 ?_
                          refine G_aload hC 5 rfl d_Mo_check_141 ?_
                          refine G_iload hC 7 rfl d_Mo_check_143 ?_
                          have h_234 := h_192.fr fr_205 (by simp only [List.mem_cons, List.not_mem_nil, or_false, not_or, not_false_eq_true]; try omega) (by simp only [List.mem_cons, List.not_mem_nil, or_false, not_or, not_false_eq_true]; try omega)
                          refine G_pS (rest := [.ref u_19]) hC hR (c_Mo_wordEnd h_234 (by omega) rfl) cs_Mo_218 (by omega) (by omega) (by omega) rfl rfl (Nat.le_of_ble_eq_true rfl) d_Mo_check_145 ?_
                          have g_235 := findS_rng txt 32 q (txt.length : Int)
                          refine G_pS (rest := []) hC hR (c_Mo_blankFrom h_234 (by omega) rfl) cs_Mo_215 (by omega) (by omega) (by omega) rfl rfl (Nat.le_of_ble_eq_true rfl) d_Mo_check_148 ?_
                          have g_236 := nbS_rng txt _ (findS txt 32 q (txt.length : Int)) (Nat.lt_succ_self _)
                          refine G_istore (lv' := [(7, vI (nbS txt (findS txt 32 q (txt.length : Int)))), (5, vI (max all 1)), (0, .ref a), (1, .ref d), (2, vI dd), (3, vI kk), (4, .ref u_19), (6, vI turn)]) hC (by rw [hN]; decide) rfl d_Mo_check_151 ?_
                          refine G_goto hC 55 (by decide) d_Mo_check_153 ?_
                          refine G_lv [2, 3, 4, 5, 6, 1, 7, 0] rfl ?_
                          exact ih55 M_195 (max all 1) turn (nbS txt (findS txt 32 q (txt.length : Int))) rd _ _ _ _ _ _ (by omega) ((hfr55.up (T := [500]) (by simp)).tr' (T := [500]) fr_205 (fun _ z => z) (by simp)) h_203 (by omega) (bg_n hb7 (by omega)) htr2 hal2 hf2
                      · refine G_iload hC 7 rfl d_Mo_check_118 ?_
                        refine G_istore (lv' := [(6, vI q), (0, .ref a), (1, .ref d), (2, vI dd), (3, vI kk), (4, .ref u_19), (5, vI all), (7, vI q)]) hC (by rw [hN]; decide) rfl d_Mo_check_120 ?_
                        have hrd0 : rd = none := trn_neg htr (by omega)
                        have hf2 : rtL txt (nbS txt (findS txt 32 q txt.length)) te.2.2.2 = RT := by rw [rtL_term (by omega) hbq htm, if_pos (show te.1 = 6 by omega), hrd0, if_neg (by decide), rtL_next (by omega) hbq.1] at hf; exact hf
                        have htr2 : trnP txt q te.2.2.2 := trn_q (by omega) htm (by omega) htp
                        refine G_iload hC 6 rfl d_Mo_check_122 ?_
                        refine G_aload_n hC 1 rfl rfl d_Mo_check_124 ?_
                        refine G_get hC fl_Mo_138 h_203 rfl d_Mo_check_125 ?_
                        refine G_if_ne hC 135 (by omega) (by decide) d_Mo_check_128 (fun c_237 => ?_) (fun c_237 => ?_)
                        · refine G_iconst (i := 0) hC d_Mo_check_135 ?_
                          refine G_ior hC (zI_or (a := all) (b := 0) (c := max all 0) (by omega) (by omega) rfl) d_Mo_check_136 ?_
                          refine G_istore (lv' := [(5, vI (max all 0)), (6, vI q), (0, .ref a), (1, .ref d), (2, vI dd), (3, vI kk), (4, .ref u_19), (7, vI q)]) hC (by rw [hN]; decide) rfl d_Mo_check_137 ?_
                          have hal2 : alP txt (max all 0) := al_or0 (by omega) hal
                          have hnx := nx_rng (txt := txt) (k := q) (by omega) hbq
                          refine G_aload hC 6 rfl d_Mo_check_139 ?_
                          refine G_aload hC 6 rfl d_Mo_check_141 ?_
                          refine G_iload hC 7 rfl d_Mo_check_143 ?_
                          have h_238 := h_192.fr fr_205 (by simp only [List.mem_cons, List.not_mem_nil, or_false, not_or, not_false_eq_true]; try omega) (by simp only [List.mem_cons, List.not_mem_nil, or_false, not_or, not_false_eq_true]; try omega)
                          refine G_pS (rest := [.ref u_19]) hC hR (c_Mo_wordEnd h_238 (by omega) rfl) cs_Mo_218 (by omega) (by omega) (by omega) rfl rfl (Nat.le_of_ble_eq_true rfl) d_Mo_check_145 ?_
                          have g_239 := findS_rng txt 32 q (txt.length : Int)
                          refine G_pS (rest := []) hC hR (c_Mo_blankFrom h_238 (by omega) rfl) cs_Mo_215 (by omega) (by omega) (by omega) rfl rfl (Nat.le_of_ble_eq_true rfl) d_Mo_check_148 ?_
                          have g_240 := nbS_rng txt _ (findS txt 32 q (txt.length : Int)) (Nat.lt_succ_self _)
                          refine G_istore (lv' := [(7, vI (nbS txt (findS txt 32 q (txt.length : Int)))), (5, vI (max all 0)), (6, vI q), (0, .ref a), (1, .ref d), (2, vI dd), (3, vI kk), (4, .ref u_19)]) hC (by rw [hN]; decide) rfl d_Mo_check_151 ?_
                          refine G_goto hC 55 (by decide) d_Mo_check_153 ?_
                          refine G_lv [3, 4, 5, 6, 7, 1, 2, 0] rfl ?_
                          exact ih55 M_195 (max all 0) q (nbS txt (findS txt 32 q (txt.length : Int))) te.2.2.2 _ _ _ _ _ _ (by omega) ((hfr55.up (T := [500]) (by simp)).tr' (T := [500]) fr_205 (fun _ z => z) (by simp)) h_203 (by omega) (bg_n hb7 (by omega)) htr2 hal2 hf2
                        · refine G_iconst (i := 1) hC d_Mo_check_131 ?_
                          refine G_goto hC 136 (by decide) d_Mo_check_132 ?_
                          refine G_ior hC (zI_or (a := all) (b := 1) (c := max all 1) (by omega) (by omega) rfl) d_Mo_check_136 ?_
                          refine G_istore (lv' := [(5, vI (max all 1)), (6, vI q), (0, .ref a), (1, .ref d), (2, vI dd), (3, vI kk), (4, .ref u_19), (7, vI q)]) hC (by rw [hN]; decide) rfl d_Mo_check_137 ?_
                          have hal2 : alP txt (max all 1) := al_yes (by omega) hbq htm (by omega)
                          have hnx := nx_rng (txt := txt) (k := q) (by omega) hbq
                          refine G_aload hC 6 rfl d_Mo_check_139 ?_
                          refine G_aload hC 6 rfl d_Mo_check_141 ?_
                          refine G_iload hC 7 rfl d_Mo_check_143 ?_
                          have h_241 := h_192.fr fr_205 (by simp only [List.mem_cons, List.not_mem_nil, or_false, not_or, not_false_eq_true]; try omega) (by simp only [List.mem_cons, List.not_mem_nil, or_false, not_or, not_false_eq_true]; try omega)
                          refine G_pS (rest := [.ref u_19]) hC hR (c_Mo_wordEnd h_241 (by omega) rfl) cs_Mo_218 (by omega) (by omega) (by omega) rfl rfl (Nat.le_of_ble_eq_true rfl) d_Mo_check_145 ?_
                          have g_242 := findS_rng txt 32 q (txt.length : Int)
                          refine G_pS (rest := []) hC hR (c_Mo_blankFrom h_241 (by omega) rfl) cs_Mo_215 (by omega) (by omega) (by omega) rfl rfl (Nat.le_of_ble_eq_true rfl) d_Mo_check_148 ?_
                          have g_243 := nbS_rng txt _ (findS txt 32 q (txt.length : Int)) (Nat.lt_succ_self _)
                          refine G_istore (lv' := [(7, vI (nbS txt (findS txt 32 q (txt.length : Int)))), (5, vI (max all 1)), (6, vI q), (0, .ref a), (1, .ref d), (2, vI dd), (3, vI kk), (4, .ref u_19)]) hC (by rw [hN]; decide) rfl d_Mo_check_151 ?_
                          refine G_goto hC 55 (by decide) d_Mo_check_153 ?_
                          refine G_lv [3, 4, 5, 6, 7, 1, 2, 0] rfl ?_
                          exact ih55 M_195 (max all 1) q (nbS txt (findS txt 32 q (txt.length : Int))) te.2.2.2 _ _ _ _ _ _ (by omega) ((hfr55.up (T := [500]) (by simp)).tr' (T := [500]) fr_205 (fun _ z => z) (by simp)) h_203 (by omega) (bg_n hb7 (by omega)) htr2 hal2 hf2
                    · refine G_bipush (j := 6) hC (by decide +kernel) d_Mo_check_106 ?_
                      have hP : R = (6, cn, vo) := by rw [rtL_term (by omega) hbq htm, if_pos (show te.1 = 6 by omega), if_pos (trn_some htr (by omega))] at hf; rw [← hf] at hr; exact hr.symm
                      subst hP
                      have h_244 := h_Tx_pc.fr hfr55 (by decide) (by decide)
                      have h_245 := h_244.fr fr_205 (by decide) (by decide)
                      have h_246 := h_TgA_ft.fr hfr55 (by intro u hu; simp only [List.mem_cons, List.not_mem_nil, or_false] at hu <;> omega)
                      have h_247 := h_246.fr fr_205 (by intro u hu; simp only [List.mem_cons, List.not_mem_nil, or_false] at hu <;> omega)
                      exact G_iretX hC hQ (by omega) (by omega) d_Mo_check_108 ⟨_, _, _, _, _, _, _, rfl, h_203, h_245, h_247, ((hfr55.up (T := ([500, 513, 514] ++ tgT lv)) (by intro u hu; simp only [List.mem_append, mem_tgT, List.mem_range, List.mem_cons, List.not_mem_nil, or_false, false_or] at hu ⊢ <;> omega)).tr' (T := ([500, 513, 514] ++ tgT lv)) fr_205 (fun _ z => z) (by intro u hu; simp only [List.mem_append, mem_tgT, List.mem_range, List.mem_cons, List.not_mem_nil, or_false, false_or] at hu ⊢ <;> omega))⟩
        refine G_lv [5, 6, 7, 4, 3, 2, 1, 0] rfl ?_
        exact L55 _ M 0 (-1) (nbS txt 6) none _ _ _ _ _ _ (Nat.lt_succ_self _) Fr.rf h_obj_a (by omega) (bg_0 hsp) (trn_0 _) (al_0 _) hst
      · exact (show False from by omega).elim
  · have c_12 := b2i_ne0.mp c_12
    refine G_iconst (i := 5) hC d_Mo_check_8 ?_
    have hP : R = (5, cn, vo) := by rw [if_pos c_12] at hr; exact hr.symm
    subst hP
    exact G_iretX hC hQ (by omega) (by omega) d_Mo_check_9 ⟨_, _, _, _, _, _, _, rfl, h_obj_a, h_Tx_pc, h_TgA_ft, Fr.rf⟩

theorem ref_all {l : Launch} {D : Dg} {b0 : Nat} {es : List Ent} {ls ds : List Int} {fm : Int32} {ft : Nat → Option Nat} : ∀ (n lv : Nat), 11 - lv = n → lv < 11 → RefOK l D b0 es ls ds fm ft lv := by
  intro n
  induction n with
  | zero => intro lv h1 h2; omega
  | succ n ih =>
    intro lv h1 h2
    unfold RefOK
    intro _ _ _ _ _ _ _ _ _ _ _ _ _ _ _ _ _ _ _ _ _ _ _ _ _ _ _ _ _ _ q0 q1 q2 q3 q4 q5 q6 q7 q8 q9 q10 q11 q12 q13 q14 q15
    exact c_Mo_checkStep q0 q1 q2 q3 q4 q5 q6 q7 (fun h3 => ih (lv + 1) (by omega) (by omega)) q8 q9 q10 q11 q12 q13 q14 q15
