set_option maxHeartbeats 4000000 in
set_option maxRecDepth 100000 in
theorem c_Mo_permission {l : Launch} {D : Dg} {b0 : Nat} {M : Mp} {a : Nat} {tp : Nat} {tm : Int} {en : Int} {ou : Nat} {sa : Nat} {aa : Nat} {na : Nat} {va : Nat} {lo : Nat} {dm : Nat} {fm : Int32} {st : Int} {tg : Nat} {cn : Int} {vo : Int} {pc : Nat} {k0 : Int} {s0 : Int} {f0 : Int} {o0 : Int} {n0 : Int} {w0 : Int32} {es : List Ent} {ls : List Int} {ds : List Int} {ps : List Int} {ft : Nat → Option Nat} {so : Option Snd} {R : Rs} (h_obj_a : M a = some (500, .inr (cMo, [.ref tp, vI tm, vI en, .ref ou, .ref sa, .ref aa, .ref na, .ref va, .ref lo, .ref dm, .int fm, vI st, .ref tg, vI cn, vI vo, .ref pc, vI k0, vI s0, vI f0, vI o0, vI n0, .int w0]))) (h_Md_sa : IsMd D M sa aa na va es) (h_Tx_lo : IsT D M lo 508 30 ls) (h_Tx_dm : IsT D M dm 510 60 ds) (h_Tx_pc : IsT D M pc 513 100 ps) (h_arR_tg : M tg = some (512, arR D 4 13 ft)) (h_TgA_ft : TgA D M ft 0) (hen : en = (es.length : Int)) (hst : (st = 0 ∧ so = none) ∨ (st = 1 ∧ so = some (ls, ds, fm) ∧ sndP (ls, ds, fm))) (hr : perR es so cn vo = R) : Ok l D b0 57 y_Mo_permission b_Mo_permission 1 (some .int) M [.ref a] 0 0 (fun r M' => ∃ k9 : Int, ∃ s9 : Int, ∃ f9 : Int, ∃ o9 : Int, ∃ n9 : Int, ∃ w9 : Int32, ∃ ps9 : List Int, r = some (vI R.1) ∧ M' a = some (500, .inr (cMo, [.ref tp, vI tm, vI en, .ref ou, .ref sa, .ref aa, .ref na, .ref va, .ref lo, .ref dm, .int fm, vI st, .ref tg, vI R.2.1, vI R.2.2, .ref pc, vI k9, vI s9, vI f9, vI o9, vI n9, .int w9])) ∧ IsT D M' pc 513 100 ps9 ∧ TgA D M' ft 0 ∧ Fr ([500, 513, 514] ++ tgT 0) M M') := by
  refine Ok_of rfl (Nat.le_of_ble_eq_true rfl) (fun E hC hQ hl hD hB hN hR => ?_)
  subst hl hD hB
  have hcv := chkS_cv es (ls, ds, fm) 11 ds 0 0 (by omega)
  unfold cvP at hcv
  show G E M 0 0 [(0, .ref a)] [] 0
  refine G_aload_n hC 0 rfl rfl d_Mo_permission_0 ?_
  refine G_get hC fl_Mo_108 h_obj_a rfl d_Mo_permission_1 ?_
  refine G_if_ne hC 9 (by omega) (by decide) d_Mo_permission_4 (fun c_1 => ?_) (fun c_1 => ?_)
  · obtain ⟨hs1, hs2, hsn⟩ : st = 1 ∧ so = some (ls, ds, fm) ∧ sndP (ls, ds, fm) := by rcases hst with z | z; (exfalso; omega); exact z
    have hds : ds.length ≤ 60 := hsn.2.2.2
    rw [hs2] at hr
    refine G_aload_n hC 0 rfl rfl d_Mo_permission_9 ?_
    refine G_iconst (i := 0) hC d_Mo_permission_10 ?_
    refine G_putX (fs' := [.ref tp, vI tm, vI en, .ref ou, .ref sa, .ref aa, .ref na, .ref va, .ref lo, .ref dm, .int fm, vI st, .ref tg, vI 0, vI vo, .ref pc, vI k0, vI s0, vI f0, vI o0, vI n0, .int w0]) hC fl_Mo_112 ft_Mo fw_Mo_13 h_obj_a rfl rfl (Nat.le_of_ble_eq_true rfl) rfl d_Mo_permission_11 (fun M_2 h_3 fr_4 => ?_)
    refine G_aload_n hC 0 rfl rfl d_Mo_permission_14 ?_
    refine G_iconst (i := 0) hC d_Mo_permission_15 ?_
    refine G_putX (fs' := [.ref tp, vI tm, vI en, .ref ou, .ref sa, .ref aa, .ref na, .ref va, .ref lo, .ref dm, .int fm, vI st, .ref tg, vI 0, vI 0, .ref pc, vI k0, vI s0, vI f0, vI o0, vI n0, .int w0]) hC fl_Mo_115 ft_Mo fw_Mo_14 h_3 rfl rfl (Nat.le_of_ble_eq_true rfl) rfl d_Mo_permission_16 (fun M_5 h_6 fr_7 => ?_)
    refine G_aload_n hC 0 rfl rfl d_Mo_permission_19 ?_
    refine G_aload_n hC 0 rfl rfl d_Mo_permission_20 ?_
    refine G_get hC fl_Mo_53 h_6 rfl d_Mo_permission_21 ?_
    refine G_iconst (i := 0) hC d_Mo_permission_24 ?_
    have h_8 := h_Md_sa.fr fr_4 (by intro u hu; simp only [List.mem_cons, List.not_mem_nil, or_false] at hu <;> omega)
    have h_9 := h_8.fr fr_7 (by intro u hu; simp only [List.mem_cons, List.not_mem_nil, or_false] at hu <;> omega)
    have h_10 := h_Tx_lo.fr fr_4 (by decide) (by decide)
    have h_11 := h_10.fr fr_7 (by decide) (by decide)
    have h_12 := h_Tx_dm.fr fr_4 (by decide) (by decide)
    have h_13 := h_12.fr fr_7 (by decide) (by decide)
    have h_14 := h_Tx_pc.fr fr_4 (by decide) (by decide)
    have h_15 := h_14.fr fr_7 (by decide) (by decide)
    have h_16 := fr_4.at h_arR_tg (by decide)
    have h_17 := fr_7.at h_16 (by decide)
    have h_18 := h_TgA_ft.fr fr_4 (by intro u hu; simp only [List.mem_cons, List.not_mem_nil, or_false] at hu <;> omega)
    have h_19 := h_18.fr fr_7 (by intro u hu; simp only [List.mem_cons, List.not_mem_nil, or_false] at hu <;> omega)
    refine G_xV (rest := []) hC hR (ref_all (l := eL E) (D := eD E) (b0 := eB E) 11 0 rfl (by omega) h_6 h_9 h_11 h_13 h_15 h_17 h_19 h_13 (by omega) hsn (by omega) (by omega) (by omega) (by omega) (by omega) rfl) cv_Mo_118 ⟨_, _, h_6⟩ (by omega) (by omega) (by omega) rfl rfl (Nat.le_of_ble_eq_true rfl) d_Mo_permission_25 (fun r_22 M_20 p_21 => ?_)
    obtain ⟨k9_23, s9_24, f9_25, o9_26, n9_27, w9_28, ps9_29, rfl, h_30, h_31, h_32, fr_33⟩ := p_21
    show G E M_20 (0 + 0) (0 + 0) [(0, .ref a)] [vI ((chkS es (ls, ds, fm) (11 - 0) ds 0 0).1)] 28
    have hP : R = chkS es (ls, ds, fm) 11 ds 0 0 := hr.symm
    subst hP
    exact G_iretX hC hQ (by omega) (by omega) d_Mo_permission_28 ⟨_, _, _, _, _, _, _, rfl, h_30, h_31, h_32, (((fr_4.up (T := ([500, 513, 514] ++ tgT 0)) (by intro u hu; simp only [List.mem_append, mem_tgT, List.mem_range, List.mem_cons, List.not_mem_nil, or_false, false_or] at hu ⊢ <;> omega)).tr' (T := ([500, 513, 514] ++ tgT 0)) fr_7 (fun _ z => z) (by intro u hu; simp only [List.mem_append, mem_tgT, List.mem_range, List.mem_cons, List.not_mem_nil, or_false, false_or] at hu ⊢ <;> omega)).tr' (T := ([500, 513, 514] ++ tgT 0)) fr_33 (fun _ z => z) (by intro u hu; simp only [List.mem_append, mem_tgT, List.mem_range, List.mem_cons, List.not_mem_nil, or_false, false_or] at hu ⊢ <;> omega))⟩
  · refine G_iconst (i := (-1)) hC d_Mo_permission_7 ?_
    have hs2 : so = none := by rcases hst with z | z; exact z.2; (exfalso; omega)
    have hP : R = (-1, cn, vo) := by rw [hs2] at hr; exact hr.symm
    subst hP
    exact G_iretX hC hQ (by omega) (by omega) d_Mo_permission_8 ⟨_, _, _, _, _, _, _, rfl, h_obj_a, h_Tx_pc, h_TgA_ft, Fr.rf⟩

set_option maxHeartbeats 4000000 in
set_option maxRecDepth 100000 in
theorem c_Mo_expand1 {l : Launch} {D : Dg} {b0 : Nat} {M : Mp} {a : Nat} {tp : Nat} {tm : Int} {en : Int} {ou : Nat} {sa : Nat} {aa : Nat} {na : Nat} {va : Nat} {lo : Nat} {dm : Nat} {fm : Int32} {st : Int} {tg : Nat} {cn : Int} {vo : Int} {pc : Nat} {k0 : Int} {s0 : Int} {f0 : Int} {o0 : Int} {n0 : Int} {w0 : Int32} {xs : List Int} {ls : List Int} {ds : List Int} {ps : List Int} {os : List Int} {so : Option Snd} {P : Option (List Int)} (h_obj_a : M a = some (500, .inr (cMo, [.ref tp, vI tm, vI en, .ref ou, .ref sa, .ref aa, .ref na, .ref va, .ref lo, .ref dm, .int fm, vI st, .ref tg, vI cn, vI vo, .ref pc, vI k0, vI s0, vI f0, vI o0, vI n0, .int w0]))) (h_row_tp : Row D M tp 501 800 xs) (h_Tx_lo : IsT D M lo 508 30 ls) (h_Tx_dm : IsT D M dm 510 60 ds) (h_Tx_pc : IsT D M pc 513 100 ps) (h_Tx_ou : IsT D M ou 502 20000 os) (htm : tm = (xs.length : Int)) (hst : (st = 0 ∧ so = none) ∨ (st = 1 ∧ so = some (ls, ds, fm) ∧ sndP (ls, ds, fm))) (hr : rexO xs so = P) : Ok l D b0 8 y_Mo_expand1 b_Mo_expand1 2 (some .int) M [.ref a] 0 0 (fun r M' => ∃ ps9 : List Int, r = some (vI (P.elim (-1) (fun l => (l.length : Int)))) ∧ M' a = some (500, .inr (cMo, [.ref tp, vI 0, vI en, .ref ou, .ref sa, .ref aa, .ref na, .ref va, .ref lo, .ref dm, .int fm, vI st, .ref tg, vI cn, vI vo, .ref pc, vI k0, vI s0, vI f0, vI o0, vI n0, .int w0])) ∧ IsT D M' ou 502 20000 (P.elim os id) ∧ IsT D M' pc 513 100 ps9 ∧ Fr [500, 502, 503, 513, 514] M M') := by
  refine Ok_of rfl (Nat.le_of_ble_eq_true rfl) (fun E hC hQ hl hD hB hN hR => ?_)
  subst hl hD hB
  have hr9 := h_row_tp.len
  show G E M 0 0 [(0, .ref a)] [] 0
  refine G_aload_n hC 0 rfl rfl d_Mo_expand1_0 ?_
  refine G_xV (rest := []) hC hR (c_Mo_used h_obj_a) cv_Mo_70 ⟨_, _, h_obj_a⟩ (by decide) (by omega) (by omega) rfl rfl (Nat.le_of_ble_eq_true rfl) d_Mo_expand1_1 (fun r_3 M_1 p_2 => ?_)
  obtain ⟨rfl, h_4, fr_5⟩ := p_2
  show G E M_1 (0 + 0) (0 + 0) [(0, .ref a)] [vI tm] 4
  refine G_istore_n (lv' := [(1, vI tm), (0, .ref a)]) hC rfl (by rw [hN]; decide) rfl d_Mo_expand1_4 ?_
  refine G_aload_n hC 1 rfl rfl d_Mo_expand1_5 ?_
  refine G_get hC fl_Mo_108 h_4 rfl d_Mo_expand1_6 ?_
  refine G_if_eq hC 25 (by omega) (by decide) d_Mo_expand1_9 (fun c_6 => ?_) (fun c_6 => ?_)
  · refine G_iconst (i := (-1)) hC d_Mo_expand1_25 ?_
    have hP : P = none := by rw [← hr, show so = none by rcases hst with z | z; exact z.2; (exfalso; omega)]; rfl
    subst hP
    have h_7 := h_Tx_ou.fr fr_5 (by decide) (by decide)
    have h_8 := h_Tx_pc.fr fr_5 (by decide) (by decide)
    exact G_iretX hC hQ (by omega) (by omega) d_Mo_expand1_26 ⟨_, rfl, h_4, h_7, h_8, (fr_5.up (T := [500, 502, 503, 513, 514]) (by simp))⟩
  · obtain ⟨hs1, hs2, hsn⟩ : st = 1 ∧ so = some (ls, ds, fm) ∧ sndP (ls, ds, fm) := by rcases hst with z | z; (exfalso; omega); exact z
    have hds : ds.length ≤ 60 := hsn.2.2.2
    refine G_aload_n hC 1 rfl rfl d_Mo_expand1_12 ?_
    refine G_get hC fl_Mo_23 h_4 rfl d_Mo_expand1_13 ?_
    refine G_iconst (i := 0) hC d_Mo_expand1_16 ?_
    refine G_iload_n hC 0 rfl rfl d_Mo_expand1_17 ?_
    refine G_iconst (i := 1) hC d_Mo_expand1_18 ?_
    have h_9 := h_row_tp.fr fr_5 (by decide)
    refine G_pS (rest := []) hC hR (c_Mo_isD (sl := true) h_9 (by omega) (Or.inl rfl) rfl) cs_Mo_157 (by decide) (by omega) (by omega) rfl rfl (Nat.le_of_ble_eq_true rfl) d_Mo_expand1_19 ?_
    refine G_if_ne hC 27 (by have := b2i_rng (targS xs 0 tm); omega) (by decide) d_Mo_expand1_22 (fun c_10 => ?_) (fun c_10 => ?_)
    · have c_10 := b2i_ne0.mp c_10
      refine G_aload_n hC 1 rfl rfl d_Mo_expand1_27 ?_
      refine G_aload_n hC 1 rfl rfl d_Mo_expand1_28 ?_
      refine G_get hC fl_Mo_23 h_4 rfl d_Mo_expand1_29 ?_
      refine G_iconst (i := 0) hC d_Mo_expand1_32 ?_
      refine G_iload_n hC 0 rfl rfl d_Mo_expand1_33 ?_
      refine G_aload_n hC 1 rfl rfl d_Mo_expand1_34 ?_
      refine G_get hC fl_Mo_53 h_4 rfl d_Mo_expand1_35 ?_
      refine G_aload_n hC 1 rfl rfl d_Mo_expand1_38 ?_
      refine G_get hC fl_Mo_32 h_4 rfl d_Mo_expand1_39 ?_
      have htg := targ_L c_10
      have h_11 := h_Tx_lo.fr fr_5 (by decide) (by decide)
      have h_12 := h_Tx_dm.fr fr_5 (by decide) (by decide)
      have h_13 := h_Tx_pc.fr fr_5 (by decide) (by decide)
      have h_14 := h_Tx_ou.fr fr_5 (by decide) (by decide)
      refine G_xV (rest := []) hC hR (c_Mo_expand2 h_4 h_9 h_11 h_12 h_12 h_13 h_14 (by first | exact ht | (unfold tgP; omega)) (by first | exact htd | (unfold tdP; omega)) (by first | exact htr | (unfold trP; omega)) (by omega) hsn (by omega) htg rfl) cv_Mo_228 ⟨_, _, h_4⟩ (by decide) (by omega) (by omega) rfl rfl (Nat.le_of_ble_eq_true rfl) d_Mo_expand1_42 (fun r_17 M_15 p_16 => ?_)
      obtain ⟨ps1_18, rfl, h_19, h_20, fr_21⟩ := p_16
      show G E M_15 (0 + 0 + 0) (0 + 0 + 0) [(1, vI tm), (0, .ref a)] [] 45
      have g_25 := h_19.len
      obtain ⟨r_22, h_23, h_24⟩ := id h_19
      refine G_aload_n hC 1 rfl rfl d_Mo_expand1_45 ?_
      have h_26 := fr_21.at h_4 (by simp only [List.mem_cons, List.not_mem_nil, or_false, not_or, not_false_eq_true]; try omega)
      refine G_get hC fl_Mo_32 h_26 rfl d_Mo_expand1_46 ?_
      refine G_get hC fl_Mo_86 h_23 rfl d_Mo_expand1_49 ?_
      have hP : P = some (((expL (ls, ds, fm) ds xs tm 0).take 20000)) := by rw [← hr, hs2]; unfold rexO; dsimp only; rw [if_pos (by rw [← htm]; exact c_10), htm]
      subst hP
      exact G_iretX hC hQ (by omega) (by omega) d_Mo_expand1_52 ⟨_, rfl, h_26, h_19, h_20, ((fr_5.up (T := [500, 502, 503, 513, 514]) (by simp)).tr' (T := [500, 502, 503, 513, 514]) fr_21 (fun _ z => z) (by simp))⟩
    · have c_10 := b2i_eq0.mp c_10
      refine G_iconst (i := (-1)) hC d_Mo_expand1_25 ?_
      have hP : P = none := by rw [← hr, hs2]; unfold rexO; dsimp only; rw [if_neg (by rw [← htm]; exact nt c_10)]
      subst hP
      have h_27 := h_Tx_ou.fr fr_5 (by decide) (by decide)
      have h_28 := h_Tx_pc.fr fr_5 (by decide) (by decide)
      exact G_iretX hC hQ (by omega) (by omega) d_Mo_expand1_26 ⟨_, rfl, h_4, h_27, h_28, (fr_5.up (T := [500, 502, 503, 513, 514]) (by simp))⟩
