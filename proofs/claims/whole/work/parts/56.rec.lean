def ChkOK (l : Launch) (D : Dg) (b0 : Nat) (es : List Ent) (sd : Snd) (f : Nat → Option Nat) (d : Nat) : Prop := ∀ {M : Mp} {a : Nat} {dd : Int} {di : Nat} {se : Nat} {ma : Nat} {lv : Nat} {tg : Nat} {cn : Int} {vo : Int} {bt : Bv} {L : Nat} {nm : Nat} {te : Nat} {rf : Int} {rt : Int} {k0 : Int} {s0 : Int} {n0 : Int} {w0 : Int32} {f0 : Int} {o0 : Int} {X : List Int} {R : Rs}, (M a = some (19, .inr (cCh, [.ref di, .ref se, .ref ma, .ref lv, .ref tg, vI cn, vI vo]))) → (IsDir D M di es) → (IsSe D M se (some sd)) → (IsMa D M ma se) → (M lv = some (20, arR D 3 11 f)) → (IsB D M tg 21 61 bt) → (LvA D M f (d + 1)) → (M L = some (100 + 4 * d, .inr (cLe, [.ref nm, .ref te, vI rf, vI rt]))) → (IsB D M nm (100 + 4 * d + 1) 61 (61, X)) → (M te = some (100 + 4 * d + 3, .inr (cTe, [vI k0, vI s0, vI n0, .int w0, vI f0, vI o0]))) → (f d = some L) → (bt.1 = 61) → (dd = (d : Int) ∧ d < 11) → (okC cn vo) → (X.length ≤ 61) → (chkS es sd (11 - d) X cn vo = R) → Ok l D b0 (12 + 4 * (11 - d)) y_Ch_check b_Ch_check 6 (some .int) M [.ref a, vI dd] 0 0 (fun r M' => ∃ bt9 : Bv, ∃ rf9 : Int, ∃ rt9 : Int, ∃ k9 : Int, ∃ s9 : Int, ∃ n9 : Int, ∃ w9 : Int32, ∃ f9 : Int, ∃ o9 : Int, r = some (vI R.1) ∧ M' a = some (19, .inr (cCh, [.ref di, .ref se, .ref ma, .ref lv, .ref tg, vI R.2.1, vI R.2.2])) ∧ IsB D M' tg 21 61 bt9 ∧ IsMa D M' ma se ∧ M' L = some (100 + 4 * d, .inr (cLe, [.ref nm, .ref te, vI rf9, vI rt9])) ∧ M' te = some (100 + 4 * d + 3, .inr (cTe, [vI k9, vI s9, vI n9, .int w9, vI f9, vI o9])) ∧ LvA D M' f (d + 1) ∧ (bt9.1 = 61) ∧ Fr ([18, 19, 21, 22, 100 + 4 * d, 100 + 4 * d + 3] ++ lvT (d + 1)) M M')

set_option maxHeartbeats 4000000 in
set_option maxRecDepth 100000 in
theorem c_Ch_checkInside {l : Launch} {D : Dg} {b0 : Nat} {M : Mp} {a : Nat} {o : Nat} {fi : Int} {ti : Int} {dd : Int} {di : Nat} {se : Nat} {ma : Nat} {lv : Nat} {tg : Nat} {cn : Int} {vo : Int} {es : List Ent} {f : Nat → Option Nat} {bt : Bv} {L : Nat} {nm : Nat} {te : Nat} {rf : Int} {rt : Int} {tt : Nat} {lt : Int} {b : Bv} {sd : Snd} {d : Nat} {X : List Int} {R : Rs} (h_obj_a : M a = some (19, .inr (cCh, [.ref di, .ref se, .ref ma, .ref lv, .ref tg, vI cn, vI vo]))) (h_Dir_di : IsDir D M di es) (h_Se_se : IsSe D M se (some sd)) (h_Ma_ma : IsMa D M ma se) (h_arR_lv : M lv = some (20, arR D 3 11 f)) (h_B_tg : IsB D M tg 21 61 bt) (h_LvA_f : LvA D M f (d + 1)) (h_obj_L : M L = some (100 + 4 * d, .inr (cLe, [.ref nm, .ref te, vI rf, vI rt]))) (h_B_nm : IsB D M nm (100 + 4 * d + 1) 61 (61, X)) (h_B_o : IsB D M o tt lt b) (IH : d < 10 → ChkOK l D b0 es sd f (d + 1)) (hfd : f d = some L) (hbt : bt.1 = 61) (hdd : dd = (d : Int) ∧ d < 11) (hok : okC cn vo) (hX : X.length ≤ 61) (htt : 200 ≤ tt) (hD : 0 ≤ fi ∧ fi ≤ ti ∧ ti ≤ b.2.length) (hr : insS (chkS es sd (10 - d)) (decide (0 < 10 - d)) sd X b.2 (fi, ti) cn vo = R) : Ok l D b0 (9 + 4 * (11 - d)) y_Ch_checkInside b_Ch_checkInside 7 (some .int) M [.ref a, .ref o, vI fi, vI ti, vI dd] 0 0 (fun r M' => ∃ bt9 : Bv, r = some (vI R.1) ∧ M' a = some (19, .inr (cCh, [.ref di, .ref se, .ref ma, .ref lv, .ref tg, vI R.2.1, vI R.2.2])) ∧ IsB D M' tg 21 61 bt9 ∧ IsMa D M' ma se ∧ LvA D M' f (d + 1) ∧ (bt9.1 = 61) ∧ Fr ([18, 19, 21, 22] ++ lvT (d + 1)) M M') := by
  refine Ok_of rfl (Nat.le_of_ble_eq_true rfl) (fun E hC hQ hl hD hB hN hR => ?_)
  subst hl hD hB
  have hB9 := h_B_o.len
  have hN9 := h_B_nm.len
  have hT9 := h_B_tg.len
  have hX8 : (((61 : Nat), X) : Bv).2.length ≤ 61 := hX
  rw [show 10 - d = 11 - (d + 1) by omega] at hr
  unfold insS at hr
  dsimp only at hr
  show G E M 0 0 [(0, .ref a), (1, .ref o), (2, vI fi), (3, vI ti), (4, vI dd)] [] 0
  refine G_aload_n hC 0 rfl rfl d_Ch_checkInside_0 ?_
  refine G_xV (rest := []) hC hR (c_Ch_countOne h_obj_a (by omega)) cv_Ch_151 ⟨_, _, h_obj_a⟩ (by omega) (by omega) (by omega) rfl rfl (Nat.le_of_ble_eq_true rfl) d_Ch_checkInside_1 (fun r_3 M_1 p_2 => ?_)
  obtain ⟨rfl, h_4, fr_5⟩ := p_2
  show G E M_1 (0 + 0) (0 + 0) [(0, .ref a), (1, .ref o), (2, vI fi), (3, vI ti), (4, vI dd)] [vI (b2i (decide (cn + 1 ≤ 10)))] 4
  refine G_if_eq hC 19 (by have := b2i_rng (decide (cn + 1 ≤ 10)); omega) (by decide) d_Ch_checkInside_4 (fun c_6 => ?_) (fun c_6 => ?_)
  · have c_6 := b2i_eq0.mp c_6
    have c_6 := of_decide_eq_false c_6
    refine G_bipush (j := 6) hC (by decide +kernel) d_Ch_checkInside_19 ?_
    have h_7 := h_B_tg.fr fr_5 (by decide) (by decide)
    have h_8 := h_Ma_ma.fr fr_5 (by decide) (by decide)
    have h_9 := h_LvA_f.fr fr_5 (by intro u hu; simp only [List.mem_cons, List.not_mem_nil, or_false] at hu <;> omega)
    have hP : R = (6, cn + 1, vo) := by rw [if_pos (show 10 < cn + 1 ∨ decide (0 < 11 - (d + 1)) = false from by first | exact Or.inl (by omega) | exact Or.inr (decide_eq_false (by omega)))] at hr; exact hr.symm
    exact G_iretX hC hQ (by omega) (by omega) d_Ch_checkInside_21 ⟨_, by rw [hP], by rw [hP]; exact h_4, h_7, h_8, h_9, hbt, (fr_5.up (T := ([18, 19, 21, 22] ++ lvT (d + 1))) (by intro u hu; simp only [List.mem_append, mem_lvT, List.mem_range, List.mem_cons, List.not_mem_nil, or_false, false_or] at hu ⊢ <;> omega))⟩
  · have c_6 := b2i_ne0.mp c_6
    have c_6 := of_decide_eq_true c_6
    refine G_iload hC 4 rfl d_Ch_checkInside_7 ?_
    refine G_iconst (i := 1) hC d_Ch_checkInside_9 ?_
    refine G_iadd hC d_Ch_checkInside_10 ?_
    refine G_aload_n hC 0 rfl rfl d_Ch_checkInside_11 ?_
    refine G_get hC fl_Ch_25 h_4 rfl d_Ch_checkInside_12 ?_
    have h_10 := fr_5.at h_arR_lv (by decide)
    refine G_alen (q := 3) hC h_10 rfl d_Ch_checkInside_15 ?_
    refine G_icmp_lt hC 22 (by omega) (by omega) (by decide) d_Ch_checkInside_16 (fun c_11 => ?_) (fun c_11 => ?_)
    · rw [if_neg (show ¬ (10 < cn + 1 ∨ decide (0 < 11 - (d + 1)) = false) from fun z => by rcases z with z | z; omega; (have z2 := of_decide_eq_false z; omega))] at hr
      have h_12 := h_LvA_f.fr fr_5 (by intro u hu; simp only [List.mem_cons, List.not_mem_nil, or_false] at hu <;> omega)
      obtain ⟨L1, X1, hL1, nm1, te1, rf1, rt1, k1, s1, n1, w1, f1, o1, hv1, hv2, hv3⟩ := id (h_12 (d + 1) (Nat.le_refl _) (by omega))
      have h_13 := LvA_up h_12 (show d + 1 ≤ d + 1 + 1 by omega)
      refine G_aload_n hC 0 rfl rfl d_Ch_checkInside_22 ?_
      refine G_get hC fl_Ch_25 h_4 rfl d_Ch_checkInside_23 ?_
      refine G_iload hC 4 rfl d_Ch_checkInside_26 ?_
      refine G_iconst (i := 1) hC d_Ch_checkInside_28 ?_
      refine G_iadd hC d_Ch_checkInside_29 ?_
      refine G_aald hC h_10 rfl (by omega) (by omega) (by rw [show (dd + 1 : Int).toNat = d + 1 by omega, hL1]) d_Ch_checkInside_30 ?_
      refine G_get hC fl_Ch_46 hv1 rfl d_Ch_checkInside_31 ?_
      refine G_astore (lv' := [(5, .ref nm1), (0, .ref a), (1, .ref o), (2, vI fi), (3, vI ti), (4, vI dd)]) hC (by rw [hN]; decide) rfl d_Ch_checkInside_34 ?_
      refine G_aload hC 0 rfl d_Ch_checkInside_36 ?_
      refine G_iconst (i := 0) hC d_Ch_checkInside_38 ?_
      refine G_xV (rest := []) hC hR (c_By_cut hv2 (by omega)) cv_Ch_49 hv2.obj (by omega) (by omega) (by omega) rfl rfl (Nat.le_of_ble_eq_true rfl) d_Ch_checkInside_39 (fun r_16 M_14 p_15 => ?_)
      obtain ⟨rfl, h_17, fr_18⟩ := p_15
      show G E M_14 (0 + 0 + 0) (0 + 0 + 0) [(5, .ref nm1), (0, .ref a), (1, .ref o), (2, vI fi), (3, vI ti), (4, vI dd)] [] 42
      have h_19 : IsB (eD E) M_14 nm1 (100 + 4 * (d + 1) + 1) 61 ((61 : Nat), ([] : List Int)) := by have e9 := cut0 ((61 : Nat), X1); rw [e9] at h_17; exact h_17
      refine G_aload_n hC 1 rfl rfl d_Ch_checkInside_42 ?_
      have h_20 := fr_18.at h_4 (by simp only [List.mem_cons, List.not_mem_nil, or_false, not_or, not_false_eq_true]; try omega)
      refine G_get hC fl_Ch_19 h_20 rfl d_Ch_checkInside_43 ?_
      refine G_aload_n hC 2 rfl rfl d_Ch_checkInside_46 ?_
      refine G_iload_n hC 3 rfl rfl d_Ch_checkInside_47 ?_
      refine G_iload_n hC 4 rfl rfl d_Ch_checkInside_48 ?_
      refine G_aload_n hC 1 rfl rfl d_Ch_checkInside_49 ?_
      refine G_get hC fl_Ch_25 h_20 rfl d_Ch_checkInside_50 ?_
      refine G_iload hC 5 rfl d_Ch_checkInside_53 ?_
      have h_21 := fr_18.at h_10 (by simp only [List.mem_cons, List.not_mem_nil, or_false, not_or, not_false_eq_true]; try omega)
      refine G_aald hC h_21 rfl (by omega) (by omega) (by rw [show (dd : Int).toNat = d by omega, hfd]) d_Ch_checkInside_55 ?_
      have h_22 := fr_5.at h_obj_L (by simp only [List.mem_cons, List.not_mem_nil, or_false, not_or, not_false_eq_true]; try omega)
      have h_23 := fr_18.at h_22 (by simp only [List.mem_cons, List.not_mem_nil, or_false, not_or, not_false_eq_true]; try omega)
      refine G_get hC fl_Ch_46 h_23 rfl d_Ch_checkInside_56 ?_
      refine G_aload hC 0 rfl d_Ch_checkInside_59 ?_
      have hpz : psi 61 (wrL 61 sd ((61 : Nat), X).2 b.2 ti fi ((61 : Nat), ([] : List Int))) = psi 61 ((61 : Nat), ([] : List Int)) := by show psi 61 (wrL 61 sd X b.2 ti fi ((61 : Nat), ([] : List Int))) = _; rw [tg_row]; rfl
      have h_24 := h_Ma_ma.fr fr_5 (by decide) (by decide)
      have h_25 := h_24.fr fr_18 (by simp only [List.mem_cons, List.not_mem_nil, or_false, not_or, not_false_eq_true]; try omega) (by simp only [List.mem_cons, List.not_mem_nil, or_false, not_or, not_false_eq_true]; try omega)
      have h_26 := h_Se_se.fr fr_5 (by intro u hu; simp only [List.mem_cons, List.not_mem_nil, or_false] at hu <;> omega)
      have h_27 := h_26.fr fr_18 (by intro u hu; simp only [List.mem_cons, List.not_mem_nil, or_false] at hu <;> omega)
      have h_28 := h_B_o.fr fr_5 (by simp only [List.mem_cons, List.not_mem_nil, or_false, not_or, not_false_eq_true]; try omega) (by simp only [List.mem_cons, List.not_mem_nil, or_false, not_or, not_false_eq_true]; try omega)
      have h_29 := h_28.fr fr_18 (by simp only [List.mem_cons, List.not_mem_nil, or_false, not_or, not_false_eq_true]; try omega) (by simp only [List.mem_cons, List.not_mem_nil, or_false, not_or, not_false_eq_true]; try omega)
      have h_30 := h_B_nm.fr fr_5 (by simp only [List.mem_cons, List.not_mem_nil, or_false, not_or, not_false_eq_true]; try omega) (by simp only [List.mem_cons, List.not_mem_nil, or_false, not_or, not_false_eq_true]; try omega)
      have h_31 := h_30.fr fr_18 (by simp only [List.mem_cons, List.not_mem_nil, or_false, not_or, not_false_eq_true]; try omega) (by simp only [List.mem_cons, List.not_mem_nil, or_false, not_or, not_false_eq_true]; try omega)
      refine G_xV (rest := []) hC hR (c_Ma_write h_25 h_27 h_29 h_31 h_19 (by omega) (by omega) (by omega) (by omega) (by omega) rfl) cv_Ch_154 h_25.obj (by omega) (by omega) (by omega) rfl rfl (Nat.le_of_ble_eq_true rfl) d_Ch_checkInside_61 (fun r_34 M_32 p_33 => ?_)
      obtain ⟨rfl, h_35, h_36, fr_37⟩ := p_33
      show G E M_32 (0 + 0 + 0 + (psi 61 (wrL 61 sd ((61 : Nat), X).2 b.2 ti fi ((61 : Nat), ([] : List Int))) - psi 61 ((61 : Nat), ([] : List Int)))) (0 + 0 + 0 + (psi 61 (wrL 61 sd ((61 : Nat), X).2 b.2 ti fi ((61 : Nat), ([] : List Int))) - psi 61 ((61 : Nat), ([] : List Int)))) [(5, .ref nm1), (0, .ref a), (1, .ref o), (2, vI fi), (3, vI ti), (4, vI dd)] [] 64
      have g_38 := wrL_gr (lim := 61) (s := sd) (chk := ((61 : Nat), X).2) (xs := b.2) (to := ti) _ fi ((61 : Nat), ([] : List Int)) (Nat.lt_succ_self _) ⟨h_19.len.1, h_19.len.2.1⟩
      refine G_aload_n hC 1 rfl rfl d_Ch_checkInside_64 ?_
      refine G_iload hC 5 rfl d_Ch_checkInside_65 ?_
      refine G_iconst (i := 1) hC d_Ch_checkInside_67 ?_
      refine G_iadd hC d_Ch_checkInside_68 ?_
      have h_39 : IsB (eD E) M_32 nm1 (100 + 4 * (d + 1) + 1) 61 (61, tgS sd X b.2 (fi, ti)) := by have e9 : wrL 61 sd X b.2 ti fi ((61 : Nat), ([] : List Int)) = (61, tgS sd X b.2 (fi, ti)) := tg_row sd X b.2 fi ti; rw [← e9]; exact h_35
      have hcv := chkS_cv es sd (11 - (d + 1)) (tgS sd X b.2 (fi, ti)) (cn + 1) vo (by omega)
      unfold cvP at hcv
      have h_40 := fr_37.at h_20 (by simp only [List.mem_cons, List.not_mem_nil, or_false, not_or, not_false_eq_true]; try omega)
      have h_41 := h_Dir_di.fr fr_5 (by intro u hu; simp only [List.mem_cons, List.not_mem_nil, or_false] at hu <;> omega)
      have h_42 := h_41.fr fr_18 (by intro u hu; simp only [List.mem_cons, List.not_mem_nil, or_false] at hu <;> omega)
      have h_43 := h_42.fr fr_37 (by intro u hu; simp only [List.mem_cons, List.not_mem_nil, or_false] at hu <;> omega)
      have h_44 := h_27.fr fr_37 (by intro u hu; simp only [List.mem_cons, List.not_mem_nil, or_false] at hu <;> omega)
      have h_45 := fr_37.at h_21 (by simp only [List.mem_cons, List.not_mem_nil, or_false, not_or, not_false_eq_true]; try omega)
      have h_46 := h_B_tg.fr fr_5 (by decide) (by decide)
      have h_47 := h_46.fr fr_18 (by simp only [List.mem_cons, List.not_mem_nil, or_false, not_or, not_false_eq_true]; try omega) (by simp only [List.mem_cons, List.not_mem_nil, or_false, not_or, not_false_eq_true]; try omega)
      have h_48 := h_47.fr fr_37 (by simp only [List.mem_cons, List.not_mem_nil, or_false, not_or, not_false_eq_true]; try omega) (by simp only [List.mem_cons, List.not_mem_nil, or_false, not_or, not_false_eq_true]; try omega)
      have h_49 := h_13.fr fr_18 (by intro u hu; simp only [List.mem_cons, List.not_mem_nil, or_false] at hu <;> omega)
      have h_50 := h_49.fr fr_37 (by intro u hu; simp only [List.mem_cons, List.not_mem_nil, or_false] at hu <;> omega)
      have h_51 := fr_18.at hv1 (by simp only [List.mem_cons, List.not_mem_nil, or_false, not_or, not_false_eq_true]; try omega)
      have h_52 := fr_37.at h_51 (by simp only [List.mem_cons, List.not_mem_nil, or_false, not_or, not_false_eq_true]; try omega)
      have h_53 := fr_18.at hv3 (by simp only [List.mem_cons, List.not_mem_nil, or_false, not_or, not_false_eq_true]; try omega)
      have h_54 := fr_37.at h_53 (by simp only [List.mem_cons, List.not_mem_nil, or_false, not_or, not_false_eq_true]; try omega)
      refine G_xV (rest := []) hC hR (IH (by omega) h_40 h_43 h_44 h_36 h_45 h_48 h_50 h_52 h_39 h_54 hL1 (by omega) (by omega) (by omega) (tg_len _ _ _ _) rfl) cv_Ch_160 ⟨_, _, h_40⟩ (by omega) (by omega) (by omega) rfl rfl (Nat.le_of_ble_eq_true rfl) d_Ch_checkInside_69 (fun r_57 M_55 p_56 => ?_)
      obtain ⟨bt9_58, rf9_59, rt9_60, k9_61, s9_62, n9_63, w9_64, f9_65, o9_66, rfl, h_67, h_68, h_69, h_70, h_71, h_72, h_73, fr_74⟩ := p_56
      show G E M_55 (0 + 0 + 0 + (psi 61 (wrL 61 sd ((61 : Nat), X).2 b.2 ti fi ((61 : Nat), ([] : List Int))) - psi 61 ((61 : Nat), ([] : List Int))) + 0) (0 + 0 + 0 + (psi 61 (wrL 61 sd ((61 : Nat), X).2 b.2 ti fi ((61 : Nat), ([] : List Int))) - psi 61 ((61 : Nat), ([] : List Int))) + 0) [(5, .ref nm1), (0, .ref a), (1, .ref o), (2, vI fi), (3, vI ti), (4, vI dd)] [vI ((chkS es sd (11 - (d + 1)) (tgS sd X b.2 (fi, ti)) (cn + 1) vo).1)] 72
      refine G_istore (lv' := [(6, vI ((chkS es sd (11 - (d + 1)) (tgS sd X b.2 (fi, ti)) (cn + 1) vo).1)), (5, .ref nm1), (0, .ref a), (1, .ref o), (2, vI fi), (3, vI ti), (4, vI dd)]) hC (by rw [hN]; decide) rfl d_Ch_checkInside_72 ?_
      refine G_iload hC 0 rfl d_Ch_checkInside_74 ?_
      refine G_if_ne hC 84 (by omega) (by decide) d_Ch_checkInside_76 (fun c_75 => ?_) (fun c_75 => ?_)
      · refine G_iload hC 0 rfl d_Ch_checkInside_84 ?_
        have h_76 := h_39.fr fr_74 (by simp only [List.mem_append, mem_lvT, List.mem_range, List.mem_cons, List.not_mem_nil, or_false, false_or]; omega) (by simp only [List.mem_append, mem_lvT, List.mem_range, List.mem_cons, List.not_mem_nil, or_false, false_or]; omega)
        have hlv9 := LvA_cons hL1 ⟨_, _, _, _, _, _, _, _, _, _, h_70, h_76, h_71⟩ h_72
        have hP : R = ((chkS es sd (11 - (d + 1)) (tgS sd X b.2 (fi, ti)) (cn + 1) vo).1, (chkS es sd (11 - (d + 1)) (tgS sd X b.2 (fi, ti)) (cn + 1) vo).2) := by rw [if_neg c_75] at hr; exact hr.symm
        exact G_iretX hC hQ (by omega) (by omega) d_Ch_checkInside_86 ⟨_, by rw [hP], by rw [hP]; exact h_67, h_68, h_69, hlv9, h_73, ((((fr_5.up (T := ([18, 19, 21, 22] ++ lvT (d + 1))) (by intro u hu; simp only [List.mem_append, mem_lvT, List.mem_range, List.mem_cons, List.not_mem_nil, or_false, false_or] at hu ⊢ <;> omega)).tr' (T := ([18, 19, 21, 22] ++ lvT (d + 1))) fr_18 (fun _ z => z) (by intro u hu; simp only [List.mem_append, mem_lvT, List.mem_range, List.mem_cons, List.not_mem_nil, or_false, false_or] at hu ⊢ <;> omega)).tr' (T := ([18, 19, 21, 22] ++ lvT (d + 1))) fr_37 (fun _ z => z) (by intro u hu; simp only [List.mem_append, mem_lvT, List.mem_range, List.mem_cons, List.not_mem_nil, or_false, false_or] at hu ⊢ <;> omega)).tr' (T := ([18, 19, 21, 22] ++ lvT (d + 1))) fr_74 (fun _ z => z) (by intro u hu; simp only [List.mem_append, mem_lvT, List.mem_range, List.mem_cons, List.not_mem_nil, or_false, false_or] at hu ⊢ <;> omega))⟩
      · refine G_bipush (j := 6) hC (by decide +kernel) d_Ch_checkInside_79 ?_
        refine G_goto hC 86 (by decide) d_Ch_checkInside_81 ?_
        have h_77 := h_39.fr fr_74 (by simp only [List.mem_append, mem_lvT, List.mem_range, List.mem_cons, List.not_mem_nil, or_false, false_or]; omega) (by simp only [List.mem_append, mem_lvT, List.mem_range, List.mem_cons, List.not_mem_nil, or_false, false_or]; omega)
        have hlv9 := LvA_cons hL1 ⟨_, _, _, _, _, _, _, _, _, _, h_70, h_77, h_71⟩ h_72
        have hP : R = (6, (chkS es sd (11 - (d + 1)) (tgS sd X b.2 (fi, ti)) (cn + 1) vo).2) := by rw [if_pos c_75] at hr; exact hr.symm
        exact G_iretX hC hQ (by omega) (by omega) d_Ch_checkInside_86 ⟨_, by rw [hP], by rw [hP]; exact h_67, h_68, h_69, hlv9, h_73, ((((fr_5.up (T := ([18, 19, 21, 22] ++ lvT (d + 1))) (by intro u hu; simp only [List.mem_append, mem_lvT, List.mem_range, List.mem_cons, List.not_mem_nil, or_false, false_or] at hu ⊢ <;> omega)).tr' (T := ([18, 19, 21, 22] ++ lvT (d + 1))) fr_18 (fun _ z => z) (by intro u hu; simp only [List.mem_append, mem_lvT, List.mem_range, List.mem_cons, List.not_mem_nil, or_false, false_or] at hu ⊢ <;> omega)).tr' (T := ([18, 19, 21, 22] ++ lvT (d + 1))) fr_37 (fun _ z => z) (by intro u hu; simp only [List.mem_append, mem_lvT, List.mem_range, List.mem_cons, List.not_mem_nil, or_false, false_or] at hu ⊢ <;> omega)).tr' (T := ([18, 19, 21, 22] ++ lvT (d + 1))) fr_74 (fun _ z => z) (by intro u hu; simp only [List.mem_append, mem_lvT, List.mem_range, List.mem_cons, List.not_mem_nil, or_false, false_or] at hu ⊢ <;> omega))⟩
    · refine G_bipush (j := 6) hC (by decide +kernel) d_Ch_checkInside_19 ?_
      have h_78 := h_B_tg.fr fr_5 (by decide) (by decide)
      have h_79 := h_Ma_ma.fr fr_5 (by decide) (by decide)
      have h_80 := h_LvA_f.fr fr_5 (by intro u hu; simp only [List.mem_cons, List.not_mem_nil, or_false] at hu <;> omega)
      have hP : R = (6, cn + 1, vo) := by rw [if_pos (show 10 < cn + 1 ∨ decide (0 < 11 - (d + 1)) = false from by first | exact Or.inl (by omega) | exact Or.inr (decide_eq_false (by omega)))] at hr; exact hr.symm
      exact G_iretX hC hQ (by omega) (by omega) d_Ch_checkInside_21 ⟨_, by rw [hP], by rw [hP]; exact h_4, h_78, h_79, h_80, hbt, (fr_5.up (T := ([18, 19, 21, 22] ++ lvT (d + 1))) (by intro u hu; simp only [List.mem_append, mem_lvT, List.mem_range, List.mem_cons, List.not_mem_nil, or_false, false_or] at hu ⊢ <;> omega))⟩

set_option maxHeartbeats 4000000 in
set_option maxRecDepth 100000 in
theorem c_Ch_match {l : Launch} {D : Dg} {b0 : Nat} {M : Mp} {a : Nat} {o : Nat} {dd : Int} {di : Nat} {se : Nat} {ma : Nat} {lv : Nat} {tg : Nat} {cn : Int} {vo : Int} {es : List Ent} {f : Nat → Option Nat} {bt : Bv} {L : Nat} {nm : Nat} {te : Nat} {rf : Int} {rt : Int} {k0 : Int} {s0 : Int} {n0 : Int} {w0 : Int32} {f0 : Int} {o0 : Int} {tt : Nat} {lt : Int} {b : Bv} {sd : Snd} {d : Nat} {X : List Int} {R : Rs} {tm : Tm} {start : Int} (h_obj_a : M a = some (19, .inr (cCh, [.ref di, .ref se, .ref ma, .ref lv, .ref tg, vI cn, vI vo]))) (h_Dir_di : IsDir D M di es) (h_Se_se : IsSe D M se (some sd)) (h_Ma_ma : IsMa D M ma se) (h_arR_lv : M lv = some (20, arR D 3 11 f)) (h_B_tg : IsB D M tg 21 61 bt) (h_LvA_f : LvA D M f (d + 1)) (h_obj_L : M L = some (100 + 4 * d, .inr (cLe, [.ref nm, .ref te, vI rf, vI rt]))) (h_B_nm : IsB D M nm (100 + 4 * d + 1) 61 (61, X)) (h_obj_te : M te = some (100 + 4 * d + 3, .inr (cTe, [vI k0, vI s0, vI n0, .int w0, vI f0, vI o0]))) (h_B_o : IsB D M o tt lt b) (IH : d < 10 → ChkOK l D b0 es sd f (d + 1)) (hfd : f d = some L) (hbt : bt.1 = 61) (hdd : dd = (d : Int) ∧ d < 11) (hok : okC cn vo) (hX : X.length ≤ 61) (htt : 200 ≤ tt) (hfl : fld tm k0 n0 w0 f0 o0) (htp : tmP b.2 start tm) (hst : 0 ≤ start) (hr : matS (chkS es sd (10 - d)) (decide (0 < 10 - d)) es sd X b.2 tm cn vo = R) : Ok l D b0 (10 + 4 * (11 - d)) y_Ch_match b_Ch_match 4 (some .int) M [.ref a, .ref o, vI dd] 0 0 (fun r M' => ∃ bt9 : Bv, r = some (vI R.1) ∧ M' a = some (19, .inr (cCh, [.ref di, .ref se, .ref ma, .ref lv, .ref tg, vI R.2.1, vI R.2.2])) ∧ IsB D M' tg 21 61 bt9 ∧ IsMa D M' ma se ∧ LvA D M' f (d + 1) ∧ (bt9.1 = 61) ∧ Fr ([18, 19, 21, 22] ++ lvT (d + 1)) M M') := by
  refine Ok_of rfl (Nat.le_of_ble_eq_true rfl) (fun E hC hQ hl hD hB hN hR => ?_)
  subst hl hD hB
  have hB9 := h_B_o.len
  have hX8 : (((61 : Nat), X) : Bv).2.length ≤ 61 := hX
  obtain ⟨hf1, hf2, hf3, hf4, hf5⟩ := id hfl
  obtain ⟨hp1, hp2, hp3, hp4⟩ := id htp
  unfold matS at hr
  dsimp only at hr
  show G E M 0 0 [(0, .ref a), (1, .ref o), (2, vI dd)] [] 0
  refine G_aload_n hC 0 rfl rfl d_Ch_match_0 ?_
  refine G_get hC fl_Ch_25 h_obj_a rfl d_Ch_match_1 ?_
  refine G_iload_n hC 2 rfl rfl d_Ch_match_4 ?_
  refine G_aald hC h_arR_lv rfl (by omega) (by omega) (by rw [show (dd : Int).toNat = d by omega, hfd]) d_Ch_match_5 ?_
  refine G_get hC fl_Ch_102 h_obj_L rfl d_Ch_match_6 ?_
  refine G_astore_n (lv' := [(3, .ref te), (0, .ref a), (1, .ref o), (2, vI dd)]) hC rfl (by rw [hN]; decide) rfl d_Ch_match_9 ?_
  refine G_aload_n hC 0 rfl rfl d_Ch_match_10 ?_
  refine G_pV (rest := []) hC hR (c_Te_kind h_obj_te) cv_Ch_121 ⟨_, _, h_obj_te⟩ (by omega) (by omega) (by omega) rfl rfl (Nat.le_of_ble_eq_true rfl) d_Ch_match_11 ?_
  by_cases c_1 : k0 = 0
  · refine G_tabIn 0 52 hC c_1 (by omega) rfl (by decide) d_Ch_match_14 ?_
    rw [if_pos (show tm.1 = 0 by omega)] at hr
    refine G_bipush (j := (-2)) hC (by decide +kernel) d_Ch_match_52 ?_
    have hP : R = ((-2), cn, vo) := hr.symm
    subst hP
    exact G_iretX hC hQ (by omega) (by omega) d_Ch_match_54 ⟨_, rfl, h_obj_a, h_B_tg, h_Ma_ma, h_LvA_f, hbt, Fr.rf⟩
  by_cases c_2 : k0 = 1
  · refine G_tabIn 1 83 hC c_2 (by omega) rfl (by decide) d_Ch_match_14 ?_
    obtain ⟨d9, hd9⟩ := hp4 (Or.inl (by omega))
    have hfo := hf4 d9 hd9
    have hdo := hp3 d9 hd9
    have hgd : tm.2.2.2.getD (0, 0) = (f0, o0) := by rw [hd9]; exact Prod.ext hfo.1.symm hfo.2.symm
    rw [if_neg (show ¬ tm.1 = 0 by omega), if_neg (show ¬ tm.1 = 4 by omega), if_pos (show tm.1 = 1 by omega), hgd] at hr
    have hcv := insS_cv (ck := chkS es sd (10 - d)) (more := decide (0 < 10 - d)) (sd := sd) (X := X) (txt := b.2) (d := (f0, o0)) (cn := cn) (vo := vo) (fun X cn vo ho => chkS_cv es sd _ X cn vo ho) hok
    unfold cvP at hcv
    refine G_aload_n hC 1 rfl rfl d_Ch_match_83 ?_
    refine G_aload_n hC 2 rfl rfl d_Ch_match_84 ?_
    refine G_aload_n hC 0 rfl rfl d_Ch_match_85 ?_
    refine G_pV (rest := [.ref o, .ref a]) hC hR (c_Te_from h_obj_te) cv_Ch_137 ⟨_, _, h_obj_te⟩ (by omega) (by omega) (by omega) rfl rfl (Nat.le_of_ble_eq_true rfl) d_Ch_match_86 ?_
    refine G_aload_n hC 0 rfl rfl d_Ch_match_89 ?_
    refine G_pV (rest := [vI f0, .ref o, .ref a]) hC hR (c_Te_to h_obj_te) cv_Ch_140 ⟨_, _, h_obj_te⟩ (by omega) (by omega) (by omega) rfl rfl (Nat.le_of_ble_eq_true rfl) d_Ch_match_90 ?_
    refine G_iload_n hC 3 rfl rfl d_Ch_match_93 ?_
    refine G_xV (rest := []) hC hR (c_Ch_checkInside h_obj_a h_Dir_di h_Se_se h_Ma_ma h_arR_lv h_B_tg h_LvA_f h_obj_L h_B_nm h_B_o IH hfd (by omega) (by omega) (by omega) hX (by omega) (by omega) rfl) cv_Ch_98 ⟨_, _, h_obj_a⟩ (by omega) (by omega) (by omega) rfl rfl (Nat.le_of_ble_eq_true rfl) d_Ch_match_94 (fun r_5 M_3 p_4 => ?_)
    obtain ⟨bt9_6, rfl, h_7, h_8, h_9, h_10, h_11, fr_12⟩ := p_4
    show G E M_3 (0 + 0) (0 + 0) [(3, .ref te), (0, .ref a), (1, .ref o), (2, vI dd)] [vI ((insS (chkS es sd (10 - d)) (decide (0 < 10 - d)) sd X b.2 (f0, o0) cn vo).1)] 97
    refine G_pS (rest := []) hC hR (c_Ch_asIncluded (by omega)) cs_Ch_143 (by omega) (by omega) (by omega) rfl rfl (Nat.le_of_ble_eq_true rfl) d_Ch_match_97 ?_
    have hP := hr.symm
    subst hP
    exact G_iretX hC hQ (by omega) (by omega) d_Ch_match_100 ⟨_, rfl, h_7, h_8, h_9, h_10, h_11, (fr_12.up (T := ([18, 19, 21, 22] ++ lvT (d + 1))) (by intro u hu; simp only [List.mem_append, mem_lvT, List.mem_range, List.mem_cons, List.not_mem_nil, or_false, false_or] at hu ⊢ <;> omega))⟩
  by_cases c_13 : k0 = 2
  · refine G_tabIn 2 101 hC c_13 (by omega) rfl (by decide) d_Ch_match_14 ?_
    rw [if_neg (show ¬ tm.1 = 0 by omega), if_neg (show ¬ tm.1 = 4 by omega), if_neg (show ¬ tm.1 = 1 by omega), if_pos (show tm.1 = 2 ∨ tm.1 = 3 ∨ tm.1 = 5 by omega)] at hr
    refine G_aload_n hC 1 rfl rfl d_Ch_match_101 ?_
    refine G_aload_n hC 2 rfl rfl d_Ch_match_102 ?_
    refine G_aload_n hC 0 rfl rfl d_Ch_match_103 ?_
    refine G_aload_n hC 1 rfl rfl d_Ch_match_104 ?_
    refine G_get hC fl_Ch_25 h_obj_a rfl d_Ch_match_105 ?_
    refine G_iload_n hC 3 rfl rfl d_Ch_match_108 ?_
    refine G_aald hC h_arR_lv rfl (by omega) (by omega) (by rw [show (dd : Int).toNat = d by omega, hfd]) d_Ch_match_109 ?_
    refine G_get hC fl_Ch_46 h_obj_L rfl d_Ch_match_110 ?_
    refine G_xV (rest := []) hC hR (c_Ch_lookUp h_obj_a h_Dir_di h_Se_se h_Ma_ma h_B_tg h_B_o h_obj_te h_B_nm hfl htp (by omega) (by omega) hX8 (by omega) (by omega) (by omega) rfl) cv_Ch_147 ⟨_, _, h_obj_a⟩ (by omega) (by omega) (by omega) rfl rfl (Nat.le_of_ble_eq_true rfl) d_Ch_match_113 (fun r_16 M_14 p_15 => ?_)
    obtain ⟨bt9_17, rfl, h_18, h_19, h_20, h_21, fr_22⟩ := p_15
    show G E M_14 (0 + 0) (0 + 0) [(3, .ref te), (0, .ref a), (1, .ref o), (2, vI dd)] [vI ((lookS es sd ((61 : Nat), X).2 b.2 tm cn vo).1)] 116
    have h_23 := h_LvA_f.fr fr_22 (by intro u hu; simp only [List.mem_cons, List.not_mem_nil, or_false] at hu <;> omega)
    have hP := hr.symm
    subst hP
    exact G_iretX hC hQ (by omega) (by omega) d_Ch_match_116 ⟨_, rfl, h_18, h_19, h_20, h_23, h_21, (fr_22.up (T := ([18, 19, 21, 22] ++ lvT (d + 1))) (by intro u hu; simp only [List.mem_append, mem_lvT, List.mem_range, List.mem_cons, List.not_mem_nil, or_false, false_or] at hu ⊢ <;> omega))⟩
  by_cases c_24 : k0 = 3
  · refine G_tabIn 3 101 hC c_24 (by omega) rfl (by decide) d_Ch_match_14 ?_
    rw [if_neg (show ¬ tm.1 = 0 by omega), if_neg (show ¬ tm.1 = 4 by omega), if_neg (show ¬ tm.1 = 1 by omega), if_pos (show tm.1 = 2 ∨ tm.1 = 3 ∨ tm.1 = 5 by omega)] at hr
    refine G_aload_n hC 1 rfl rfl d_Ch_match_101 ?_
    refine G_aload_n hC 2 rfl rfl d_Ch_match_102 ?_
    refine G_aload_n hC 0 rfl rfl d_Ch_match_103 ?_
    refine G_aload_n hC 1 rfl rfl d_Ch_match_104 ?_
    refine G_get hC fl_Ch_25 h_obj_a rfl d_Ch_match_105 ?_
    refine G_iload_n hC 3 rfl rfl d_Ch_match_108 ?_
    refine G_aald hC h_arR_lv rfl (by omega) (by omega) (by rw [show (dd : Int).toNat = d by omega, hfd]) d_Ch_match_109 ?_
    refine G_get hC fl_Ch_46 h_obj_L rfl d_Ch_match_110 ?_
    refine G_xV (rest := []) hC hR (c_Ch_lookUp h_obj_a h_Dir_di h_Se_se h_Ma_ma h_B_tg h_B_o h_obj_te h_B_nm hfl htp (by omega) (by omega) hX8 (by omega) (by omega) (by omega) rfl) cv_Ch_147 ⟨_, _, h_obj_a⟩ (by omega) (by omega) (by omega) rfl rfl (Nat.le_of_ble_eq_true rfl) d_Ch_match_113 (fun r_27 M_25 p_26 => ?_)
    obtain ⟨bt9_28, rfl, h_29, h_30, h_31, h_32, fr_33⟩ := p_26
    show G E M_25 (0 + 0) (0 + 0) [(3, .ref te), (0, .ref a), (1, .ref o), (2, vI dd)] [vI ((lookS es sd ((61 : Nat), X).2 b.2 tm cn vo).1)] 116
    have h_34 := h_LvA_f.fr fr_33 (by intro u hu; simp only [List.mem_cons, List.not_mem_nil, or_false] at hu <;> omega)
    have hP := hr.symm
    subst hP
    exact G_iretX hC hQ (by omega) (by omega) d_Ch_match_116 ⟨_, rfl, h_29, h_30, h_31, h_34, h_32, (fr_33.up (T := ([18, 19, 21, 22] ++ lvT (d + 1))) (by intro u hu; simp only [List.mem_append, mem_lvT, List.mem_range, List.mem_cons, List.not_mem_nil, or_false, false_or] at hu ⊢ <;> omega))⟩
  by_cases c_35 : k0 = 4
  · refine G_tabIn 4 55 hC c_35 (by omega) rfl (by decide) d_Ch_match_14 ?_
    rw [if_neg (show ¬ tm.1 = 0 by omega), if_pos (show tm.1 = 4 by omega)] at hr
    have hn4 := hf2 (by omega)
    have hw4 := hf3 (by omega)
    refine G_aload_n hC 0 rfl rfl d_Ch_match_55 ?_
    refine G_pV (rest := []) hC hR (c_Te_network h_obj_te) cv_Ch_124 ⟨_, _, h_obj_te⟩ (by omega) (by omega) (by omega) rfl rfl (Nat.le_of_ble_eq_true rfl) d_Ch_match_56 ?_
    refine G_aload_n hC 1 rfl rfl d_Ch_match_59 ?_
    refine G_get hC fl_Ch_15 h_obj_a rfl d_Ch_match_60 ?_
    refine G_pV (rest := [.int w0]) hC hR (c_Se_address h_Se_se) cv_Ch_127 h_Se_se.obj (by omega) (by omega) (by omega) rfl rfl (Nat.le_of_ble_eq_true rfl) d_Ch_match_63 ?_
    refine G_aload_n hC 0 rfl rfl d_Ch_match_66 ?_
    refine G_pV (rest := [.int sd.2.2, .int w0]) hC hR (c_Te_bits h_obj_te) cv_Ch_130 ⟨_, _, h_obj_te⟩ (by omega) (by omega) (by omega) rfl rfl (Nat.le_of_ble_eq_true rfl) d_Ch_match_67 ?_
    refine G_pS (rest := []) hC hR (c_Di_sameBits (by omega)) cs_Ch_133 (by omega) (by omega) (by omega) rfl rfl (Nat.le_of_ble_eq_true rfl) d_Ch_match_70 ?_
    refine G_if_eq hC 81 (by have := b2i_rng (sbS w0 sd.2.2 n0); omega) (by decide) d_Ch_match_73 (fun c_36 => ?_) (fun c_36 => ?_)
    · have c_36 := b2i_eq0.mp c_36
      refine G_iconst (i := (-1)) hC d_Ch_match_81 ?_
      rw [hw4, hn4] at c_36
      have hP : R = ((-1), cn, vo) := by rw [if_neg (by rw [c_36]; decide)] at hr; exact hr.symm
      subst hP
      exact G_iretX hC hQ (by omega) (by omega) d_Ch_match_82 ⟨_, rfl, h_obj_a, h_B_tg, h_Ma_ma, h_LvA_f, hbt, Fr.rf⟩
    · have c_36 := b2i_ne0.mp c_36
      refine G_bipush (j := (-2)) hC (by decide +kernel) d_Ch_match_76 ?_
      refine G_goto hC 82 (by decide) d_Ch_match_78 ?_
      rw [hw4, hn4] at c_36
      have hP : R = ((-2), cn, vo) := by rw [if_pos c_36] at hr; exact hr.symm
      subst hP
      exact G_iretX hC hQ (by omega) (by omega) d_Ch_match_82 ⟨_, rfl, h_obj_a, h_B_tg, h_Ma_ma, h_LvA_f, hbt, Fr.rf⟩
  by_cases c_37 : k0 = 5
  · refine G_tabIn 5 101 hC c_37 (by omega) rfl (by decide) d_Ch_match_14 ?_
    rw [if_neg (show ¬ tm.1 = 0 by omega), if_neg (show ¬ tm.1 = 4 by omega), if_neg (show ¬ tm.1 = 1 by omega), if_pos (show tm.1 = 2 ∨ tm.1 = 3 ∨ tm.1 = 5 by omega)] at hr
    refine G_aload_n hC 1 rfl rfl d_Ch_match_101 ?_
    refine G_aload_n hC 2 rfl rfl d_Ch_match_102 ?_
    refine G_aload_n hC 0 rfl rfl d_Ch_match_103 ?_
    refine G_aload_n hC 1 rfl rfl d_Ch_match_104 ?_
    refine G_get hC fl_Ch_25 h_obj_a rfl d_Ch_match_105 ?_
    refine G_iload_n hC 3 rfl rfl d_Ch_match_108 ?_
    refine G_aald hC h_arR_lv rfl (by omega) (by omega) (by rw [show (dd : Int).toNat = d by omega, hfd]) d_Ch_match_109 ?_
    refine G_get hC fl_Ch_46 h_obj_L rfl d_Ch_match_110 ?_
    refine G_xV (rest := []) hC hR (c_Ch_lookUp h_obj_a h_Dir_di h_Se_se h_Ma_ma h_B_tg h_B_o h_obj_te h_B_nm hfl htp (by omega) (by omega) hX8 (by omega) (by omega) (by omega) rfl) cv_Ch_147 ⟨_, _, h_obj_a⟩ (by omega) (by omega) (by omega) rfl rfl (Nat.le_of_ble_eq_true rfl) d_Ch_match_113 (fun r_40 M_38 p_39 => ?_)
    obtain ⟨bt9_41, rfl, h_42, h_43, h_44, h_45, fr_46⟩ := p_39
    show G E M_38 (0 + 0) (0 + 0) [(3, .ref te), (0, .ref a), (1, .ref o), (2, vI dd)] [vI ((lookS es sd ((61 : Nat), X).2 b.2 tm cn vo).1)] 116
    have h_47 := h_LvA_f.fr fr_46 (by intro u hu; simp only [List.mem_cons, List.not_mem_nil, or_false] at hu <;> omega)
    have hP := hr.symm
    subst hP
    exact G_iretX hC hQ (by omega) (by omega) d_Ch_match_116 ⟨_, rfl, h_42, h_43, h_44, h_47, h_45, (fr_46.up (T := ([18, 19, 21, 22] ++ lvT (d + 1))) (by intro u hu; simp only [List.mem_append, mem_lvT, List.mem_range, List.mem_cons, List.not_mem_nil, or_false, false_or] at hu ⊢ <;> omega))⟩
  refine G_tabOut 117 hC (by omega) (by omega) (by decide) d_Ch_match_14 ?_
  rw [if_neg (show ¬ tm.1 = 0 by omega), if_neg (show ¬ tm.1 = 4 by omega), if_neg (show ¬ tm.1 = 1 by omega), if_neg (show ¬ (tm.1 = 2 ∨ tm.1 = 3 ∨ tm.1 = 5) by omega)] at hr
  refine G_iconst (i := (-1)) hC d_Ch_match_117 ?_
  have hP : R = ((-1), cn, vo) := hr.symm
  subst hP
  exact G_iretX hC hQ (by omega) (by omega) d_Ch_match_118 ⟨_, rfl, h_obj_a, h_B_tg, h_Ma_ma, h_LvA_f, hbt, Fr.rf⟩

set_option maxHeartbeats 4000000 in
set_option maxRecDepth 100000 in
theorem c_Ch_firstMatch {l : Launch} {D : Dg} {b0 : Nat} {M : Mp} {a : Nat} {o : Nat} {dd : Int} {di : Nat} {se : Nat} {ma : Nat} {lv : Nat} {tg : Nat} {cn : Int} {vo : Int} {es : List Ent} {f : Nat → Option Nat} {bt : Bv} {L : Nat} {nm : Nat} {te : Nat} {rf : Int} {rt : Int} {k0 : Int} {s0 : Int} {n0 : Int} {w0 : Int32} {f0 : Int} {o0 : Int} {tt : Nat} {lt : Int} {b : Bv} {sd : Snd} {d : Nat} {X : List Int} {R : Rs} (h_obj_a : M a = some (19, .inr (cCh, [.ref di, .ref se, .ref ma, .ref lv, .ref tg, vI cn, vI vo]))) (h_Dir_di : IsDir D M di es) (h_Se_se : IsSe D M se (some sd)) (h_Ma_ma : IsMa D M ma se) (h_arR_lv : M lv = some (20, arR D 3 11 f)) (h_B_tg : IsB D M tg 21 61 bt) (h_LvA_f : LvA D M f (d + 1)) (h_obj_L : M L = some (100 + 4 * d, .inr (cLe, [.ref nm, .ref te, vI rf, vI rt]))) (h_B_nm : IsB D M nm (100 + 4 * d + 1) 61 (61, X)) (h_obj_te : M te = some (100 + 4 * d + 3, .inr (cTe, [vI k0, vI s0, vI n0, .int w0, vI f0, vI o0]))) (h_B_o : IsB D M o tt lt b) (IH : d < 10 → ChkOK l D b0 es sd f (d + 1)) (hfd : f d = some L) (hbt : bt.1 = 61) (hdd : dd = (d : Int) ∧ d < 11) (hok : okC cn vo) (hX : X.length ≤ 61) (htt : 200 ≤ tt) (hr : fmL (matS (chkS es sd (10 - d)) (decide (0 < 10 - d)) es sd X b.2) b.2 7 cn vo = R) : Ok l D b0 (11 + 4 * (11 - d)) y_Ch_firstMatch b_Ch_firstMatch 6 (some .int) M [.ref a, .ref o, vI dd] 0 0 (fun r M' => ∃ bt9 : Bv, ∃ k9 : Int, ∃ s9 : Int, ∃ n9 : Int, ∃ w9 : Int32, ∃ f9 : Int, ∃ o9 : Int, r = some (vI R.1) ∧ M' a = some (19, .inr (cCh, [.ref di, .ref se, .ref ma, .ref lv, .ref tg, vI R.2.1, vI R.2.2])) ∧ IsB D M' tg 21 61 bt9 ∧ IsMa D M' ma se ∧ M' te = some (100 + 4 * d + 3, .inr (cTe, [vI k9, vI s9, vI n9, .int w9, vI f9, vI o9])) ∧ LvA D M' f (d + 1) ∧ (bt9.1 = 61) ∧ Fr ([18, 19, 21, 22, 100 + 4 * d + 3] ++ lvT (d + 1)) M M') := by
  refine Ok_of rfl (Nat.le_of_ble_eq_true rfl) (fun E hC hQ hl hD hB hN hR => ?_)
  subst hl hD hB
  have hB9 := h_B_o.len
  show G E M 0 0 [(0, .ref a), (1, .ref o), (2, vI dd)] [] 0
  refine G_aload_n hC 0 rfl rfl d_Ch_firstMatch_0 ?_
  refine G_get hC fl_Ch_25 h_obj_a rfl d_Ch_firstMatch_1 ?_
  refine G_iload_n hC 2 rfl rfl d_Ch_firstMatch_4 ?_
  refine G_aald hC h_arR_lv rfl (by omega) (by omega) (by rw [show (dd : Int).toNat = d by omega, hfd]) d_Ch_firstMatch_5 ?_
  refine G_get hC fl_Ch_102 h_obj_L rfl d_Ch_firstMatch_6 ?_
  refine G_astore_n (lv' := [(3, .ref te), (0, .ref a), (1, .ref o), (2, vI dd)]) hC rfl (by rw [hN]; decide) rfl d_Ch_firstMatch_9 ?_
  refine G_bipush (j := 7) hC (by decide +kernel) d_Ch_firstMatch_10 ?_
  refine G_istore (lv' := [(4, vI 7), (3, .ref te), (0, .ref a), (1, .ref o), (2, vI dd)]) hC (by rw [hN]; decide) rfl d_Ch_firstMatch_12 ?_
  have L14 : ∀ (N : Nat) (M1 : Mp) (q : Int) (cn1 : Int) (vo1 : Int) (bt1 : Bv) (k1 : Int) (s1 : Int) (n1 : Int) (w1 : Int32) (f1 : Int) (o1 : Int), ((b.2.length : Int) - q).toNat < N → (Fr ([18, 19, 21, 22, 100 + 4 * d + 3] ++ lvT (d + 1)) M M1) → (M1 a = some (19, .inr (cCh, [.ref di, .ref se, .ref ma, .ref lv, .ref tg, vI cn1, vI vo1]))) → (M1 te = some (100 + 4 * d + 3, .inr (cTe, [vI k1, vI s1, vI n1, .int w1, vI f1, vI o1]))) → (IsB (eD E) M1 tg 21 61 bt1) → (IsMa (eD E) M1 ma se) → (LvA (eD E) M1 f (d + 1)) → (7 ≤ q ∧ (q ≤ b.2.length ∨ q = 7)) → (okC cn1 vo1) → (bt1.1 = 61) → (fmL (matS (chkS es sd (10 - d)) (decide (0 < 10 - d)) es sd X b.2) b.2 q cn1 vo1 = R) → G E M1 0 0 [(0, .ref a), (1, .ref o), (2, vI dd), (3, .ref te), (4, vI q)] [] 14 := by
    intro N
    induction N with
    | zero => intro M1 q cn1 vo1 bt1 k1 s1 n1 w1 f1 o1 hN14 hfr1 ha1 ht1 hg1 hm1 hl1 hk hok1 hbt1 hf; exact absurd hN14 (Nat.not_lt_zero _)
    | succ N ih14 =>
      intro M1 q cn1 vo1 bt1 k1 s1 n1 w1 f1 o1 hN14 hfr1 ha1 ht1 hg1 hm1 hl1 hk hok1 hbt1 hf
      refine G_iload hC 4 rfl d_Ch_firstMatch_14 ?_
      refine G_aload_n hC 1 rfl rfl d_Ch_firstMatch_16 ?_
      have h_1 := h_B_o.fr hfr1 (by simp only [List.mem_append, mem_lvT, List.mem_range, List.mem_cons, List.not_mem_nil, or_false, false_or]; omega) (by simp only [List.mem_append, mem_lvT, List.mem_range, List.mem_cons, List.not_mem_nil, or_false, false_or]; omega)
      refine G_pV (rest := [vI q]) hC hR (c_By_size h_1) cv_Ch_58 h_1.obj (by omega) (by omega) (by omega) rfl rfl (Nat.le_of_ble_eq_true rfl) d_Ch_firstMatch_17 ?_
      have g_2 := h_1.len
      refine G_icmp_ge hC 82 (by omega) (by omega) (by decide) d_Ch_firstMatch_20 (fun c_3 => ?_) (fun c_3 => ?_)
      · refine G_iconst (i := (-1)) hC d_Ch_firstMatch_82 ?_
        have hP : R = (-1, cn1, vo1) := by rw [fmL_end (by omega)] at hf; exact hf.symm
        subst hP
        exact G_iretX hC hQ (by omega) (by omega) d_Ch_firstMatch_83 ⟨_, _, _, _, _, _, _, rfl, ha1, hg1, hm1, ht1, hl1, hbt1, (hfr1.up (T := ([18, 19, 21, 22, 100 + 4 * d + 3] ++ lvT (d + 1))) (by intro u hu; simp only [List.mem_append, mem_lvT, List.mem_range, List.mem_cons, List.not_mem_nil, or_false, false_or] at hu ⊢ <;> omega))⟩
      · refine G_aload_n hC 1 rfl rfl d_Ch_firstMatch_23 ?_
        refine G_iload hC 4 rfl d_Ch_firstMatch_24 ?_
        refine G_pS (rest := []) hC hR (c_Te_startsAt h_1 (by omega)) cs_Ch_106 (by omega) (by omega) (by omega) rfl rfl (Nat.le_of_ble_eq_true rfl) d_Ch_firstMatch_26 ?_
        refine G_if_eq hC 76 (by have := b2i_rng (decide (¬ atS b.2 q = 32 ∧ atS b.2 (q - 1) = 32)); omega) (by decide) d_Ch_firstMatch_29 (fun c_4 => ?_) (fun c_4 => ?_)
        · have c_4 := b2i_eq0.mp c_4
          have c_4 := of_decide_eq_false c_4
          have hf2 := (fmL_skip (by omega) c_4).symm.trans hf
          refine G_iinc (lv' := [(4, vI (q + 1)), (0, .ref a), (1, .ref o), (2, vI dd), (3, .ref te)]) hC 4 rfl (by rw [hN]; decide) rfl d_Ch_firstMatch_76 ?_
          refine G_goto hC 14 (by decide) d_Ch_firstMatch_79 ?_
          refine G_lv [1, 2, 3, 4, 0] rfl ?_
          exact ih14 M1 (q + 1) _ _ _ _ _ _ _ _ _ (by omega) (hfr1.up (T := ([18, 19, 21, 22, 100 + 4 * d + 3] ++ lvT (d + 1))) (by intro u hu; simp only [List.mem_append, mem_lvT, List.mem_range, List.mem_cons, List.not_mem_nil, or_false, false_or] at hu ⊢ <;> omega)) ha1 ht1 hg1 hm1 hl1 (by omega) hok1 hbt1 hf2
        · have c_4 := b2i_ne0.mp c_4
          have c_4 := of_decide_eq_true c_4
          refine G_aload_n hC 3 rfl rfl d_Ch_firstMatch_32 ?_
          refine G_aload_n hC 1 rfl rfl d_Ch_firstMatch_33 ?_
          refine G_iload hC 4 rfl d_Ch_firstMatch_34 ?_
          refine G_xV (rest := []) hC hR (c_Te_read ht1 h_1 (by omega) (by omega) rfl) cv_Ch_112 ⟨_, _, ht1⟩ (by omega) (by omega) (by omega) rfl rfl (Nat.le_of_ble_eq_true rfl) d_Ch_firstMatch_36 (fun r_7 M_5 p_6 => ?_)
          obtain ⟨k1_8, n1_9, w1_10, f1_11, o1_12, rfl, h_13, h_14, fr_15⟩ := p_6
          show G E M_5 (0 + 0) (0 + 0) [(0, .ref a), (1, .ref o), (2, vI dd), (3, .ref te), (4, vI q)] [vI (b2i (readS b.2 q).isSome)] 39
          refine G_if_ne hC 45 (by have := b2i_rng ((readS b.2 q).isSome); omega) (by decide) d_Ch_firstMatch_39 (fun c_16 => ?_) (fun c_16 => ?_)
          · have c_16 := b2i_ne0.mp c_16
            obtain ⟨tm, htm⟩ := isS_t c_16
            have hfl := h_14 tm htm
            have htp := readS_P htm
            have hbeg := c_4
            have hcv := matS_cv (ck := chkS es sd (10 - d)) (more := decide (0 < 10 - d)) (es := es) (sd := sd) (X := X) (txt := b.2) (tm := tm) (cn := cn1) (vo := vo1) (fun X cn vo ho => chkS_cv es sd _ X cn vo ho) hok1
            unfold cvP at hcv
            have hsr := sgnS_rng b.2 q
            refine G_aload_n hC 0 rfl rfl d_Ch_firstMatch_45 ?_
            refine G_aload_n hC 1 rfl rfl d_Ch_firstMatch_46 ?_
            refine G_iload_n hC 2 rfl rfl d_Ch_firstMatch_47 ?_
            have h_17 := fr_15.at ha1 (by simp only [List.mem_cons, List.not_mem_nil, or_false, not_or, not_false_eq_true]; try omega)
            have h_18 := h_Dir_di.fr hfr1 (by intro u hu; simp only [List.mem_append, mem_lvT, List.mem_range, List.mem_cons, List.not_mem_nil, or_false, false_or] at hu; omega)
            have h_19 := h_18.fr fr_15 (by intro u hu; simp only [List.mem_cons, List.not_mem_nil, or_false] at hu <;> omega)
            have h_20 := h_Se_se.fr hfr1 (by intro u hu; simp only [List.mem_append, mem_lvT, List.mem_range, List.mem_cons, List.not_mem_nil, or_false, false_or] at hu; omega)
            have h_21 := h_20.fr fr_15 (by intro u hu; simp only [List.mem_cons, List.not_mem_nil, or_false] at hu <;> omega)
            have h_22 := hm1.fr fr_15 (by simp only [List.mem_cons, List.not_mem_nil, or_false, not_or, not_false_eq_true]; try omega) (by simp only [List.mem_cons, List.not_mem_nil, or_false, not_or, not_false_eq_true]; try omega)
            have h_23 := hfr1.at h_arR_lv (by simp only [List.mem_append, mem_lvT, List.mem_range, List.mem_cons, List.not_mem_nil, or_false, false_or]; omega)
            have h_24 := fr_15.at h_23 (by simp only [List.mem_cons, List.not_mem_nil, or_false, not_or, not_false_eq_true]; try omega)
            have h_25 := hg1.fr fr_15 (by simp only [List.mem_cons, List.not_mem_nil, or_false, not_or, not_false_eq_true]; try omega) (by simp only [List.mem_cons, List.not_mem_nil, or_false, not_or, not_false_eq_true]; try omega)
            have h_26 := hl1.fr fr_15 (by intro u hu; simp only [List.mem_cons, List.not_mem_nil, or_false] at hu <;> omega)
            have h_27 := hfr1.at h_obj_L (by simp only [List.mem_append, mem_lvT, List.mem_range, List.mem_cons, List.not_mem_nil, or_false, false_or]; omega)
            have h_28 := fr_15.at h_27 (by simp only [List.mem_cons, List.not_mem_nil, or_false, not_or, not_false_eq_true]; try omega)
            have h_29 := h_B_nm.fr hfr1 (by simp only [List.mem_append, mem_lvT, List.mem_range, List.mem_cons, List.not_mem_nil, or_false, false_or]; omega) (by simp only [List.mem_append, mem_lvT, List.mem_range, List.mem_cons, List.not_mem_nil, or_false, false_or]; omega)
            have h_30 := h_29.fr fr_15 (by simp only [List.mem_cons, List.not_mem_nil, or_false, not_or, not_false_eq_true]; try omega) (by simp only [List.mem_cons, List.not_mem_nil, or_false, not_or, not_false_eq_true]; try omega)
            have h_31 := h_1.fr fr_15 (by simp only [List.mem_cons, List.not_mem_nil, or_false, not_or, not_false_eq_true]; try omega) (by simp only [List.mem_cons, List.not_mem_nil, or_false, not_or, not_false_eq_true]; try omega)
            refine G_xV (rest := []) hC hR (c_Ch_match h_17 h_19 h_21 h_22 h_24 h_25 h_26 h_28 h_30 h_13 h_31 IH hfd (by omega) (by omega) (by omega) hX (by omega) hfl htp (by omega) rfl) cv_Ch_115 ⟨_, _, h_17⟩ (by omega) (by omega) (by omega) rfl rfl (Nat.le_of_ble_eq_true rfl) d_Ch_firstMatch_48 (fun r_34 M_32 p_33 => ?_)
            obtain ⟨bt9_35, rfl, h_36, h_37, h_38, h_39, h_40, fr_41⟩ := p_33
            show G E M_32 (0 + 0 + 0) (0 + 0 + 0) [(0, .ref a), (1, .ref o), (2, vI dd), (3, .ref te), (4, vI q)] [vI ((matS (chkS es sd (10 - d)) (decide (0 < 10 - d)) es sd X b.2 tm cn1 vo1).1)] 51
            refine G_istore (lv' := [(5, vI ((matS (chkS es sd (10 - d)) (decide (0 < 10 - d)) es sd X b.2 tm cn1 vo1).1)), (0, .ref a), (1, .ref o), (2, vI dd), (3, .ref te), (4, vI q)]) hC (by rw [hN]; decide) rfl d_Ch_firstMatch_51 ?_
            refine G_iload hC 0 rfl d_Ch_firstMatch_53 ?_
            refine G_iconst (i := (-1)) hC d_Ch_firstMatch_55 ?_
            refine G_icmp_eq hC 76 (by omega) (by decide) (by decide) d_Ch_firstMatch_56 (fun c_42 => ?_) (fun c_42 => ?_)
            · have hf2 := (fmL_miss (by omega) hbeg htm c_42).symm.trans hf
              have hok2 : okC (matS (chkS es sd (10 - d)) (decide (0 < 10 - d)) es sd X b.2 tm cn1 vo1).2.1 (matS (chkS es sd (10 - d)) (decide (0 < 10 - d)) es sd X b.2 tm cn1 vo1).2.2 := by omega
              refine G_iinc (lv' := [(4, vI (q + 1)), (5, vI ((matS (chkS es sd (10 - d)) (decide (0 < 10 - d)) es sd X b.2 tm cn1 vo1).1)), (0, .ref a), (1, .ref o), (2, vI dd), (3, .ref te)]) hC 5 rfl (by rw [hN]; decide) rfl d_Ch_firstMatch_76 ?_
              refine G_goto hC 14 (by decide) d_Ch_firstMatch_79 ?_
              refine G_lv [2, 3, 4, 5, 0] rfl ?_
              have h_43 := fr_41.at h_13 (by simp only [List.mem_append, mem_lvT, List.mem_range, List.mem_cons, List.not_mem_nil, or_false, false_or]; omega)
              exact ih14 M_32 (q + 1) _ _ _ _ _ _ _ _ _ (by omega) (((hfr1.up (T := ([18, 19, 21, 22, 100 + 4 * d + 3] ++ lvT (d + 1))) (by intro u hu; simp only [List.mem_append, mem_lvT, List.mem_range, List.mem_cons, List.not_mem_nil, or_false, false_or] at hu ⊢ <;> omega)).tr' (T := ([18, 19, 21, 22, 100 + 4 * d + 3] ++ lvT (d + 1))) fr_15 (fun _ z => z) (by intro u hu; simp only [List.mem_append, mem_lvT, List.mem_range, List.mem_cons, List.not_mem_nil, or_false, false_or] at hu ⊢ <;> omega)).tr' (T := ([18, 19, 21, 22, 100 + 4 * d + 3] ++ lvT (d + 1))) fr_41 (fun _ z => z) (by intro u hu; simp only [List.mem_append, mem_lvT, List.mem_range, List.mem_cons, List.not_mem_nil, or_false, false_or] at hu ⊢ <;> omega)) h_36 h_43 h_37 h_38 h_39 (by omega) hok2 h_40 hf2
            · refine G_iload hC 0 rfl d_Ch_firstMatch_59 ?_
              refine G_bipush (j := (-2)) hC (by decide +kernel) d_Ch_firstMatch_61 ?_
              refine G_icmp_ne hC 73 (by omega) (by decide) (by decide) d_Ch_firstMatch_63 (fun c_44 => ?_) (fun c_44 => ?_)
              · refine G_iload hC 0 rfl d_Ch_firstMatch_73 ?_
                have h_45 := fr_41.at h_13 (by simp only [List.mem_append, mem_lvT, List.mem_range, List.mem_cons, List.not_mem_nil, or_false, false_or]; omega)
                have hP : R = ((matS (chkS es sd (10 - d)) (decide (0 < 10 - d)) es sd X b.2 tm cn1 vo1).1, (matS (chkS es sd (10 - d)) (decide (0 < 10 - d)) es sd X b.2 tm cn1 vo1).2) := by rw [fmL_hit (by omega) hbeg htm c_42, if_neg c_44] at hf; exact hf.symm
                subst hP
                exact G_iretX hC hQ (by omega) (by omega) d_Ch_firstMatch_75 ⟨_, _, _, _, _, _, _, rfl, h_36, h_37, h_38, h_45, h_39, h_40, (((hfr1.up (T := ([18, 19, 21, 22, 100 + 4 * d + 3] ++ lvT (d + 1))) (by intro u hu; simp only [List.mem_append, mem_lvT, List.mem_range, List.mem_cons, List.not_mem_nil, or_false, false_or] at hu ⊢ <;> omega)).tr' (T := ([18, 19, 21, 22, 100 + 4 * d + 3] ++ lvT (d + 1))) fr_15 (fun _ z => z) (by intro u hu; simp only [List.mem_append, mem_lvT, List.mem_range, List.mem_cons, List.not_mem_nil, or_false, false_or] at hu ⊢ <;> omega)).tr' (T := ([18, 19, 21, 22, 100 + 4 * d + 3] ++ lvT (d + 1))) fr_41 (fun _ z => z) (by intro u hu; simp only [List.mem_append, mem_lvT, List.mem_range, List.mem_cons, List.not_mem_nil, or_false, false_or] at hu ⊢ <;> omega))⟩
              · refine G_aload_n hC 4 rfl rfl d_Ch_firstMatch_66 ?_
                have h_46 := fr_41.at h_13 (by simp only [List.mem_append, mem_lvT, List.mem_range, List.mem_cons, List.not_mem_nil, or_false, false_or]; omega)
                refine G_pV (rest := []) hC hR (c_Te_verdict h_46 (by omega)) cv_Ch_118 ⟨_, _, h_46⟩ (by omega) (by omega) (by omega) rfl rfl (Nat.le_of_ble_eq_true rfl) d_Ch_firstMatch_67 ?_
                refine G_goto hC 75 (by decide) d_Ch_firstMatch_70 ?_
                have hP : R = (verS (sgnS b.2 q), (matS (chkS es sd (10 - d)) (decide (0 < 10 - d)) es sd X b.2 tm cn1 vo1).2) := by rw [fmL_hit (by omega) hbeg htm c_42, if_pos c_44] at hf; exact hf.symm
                subst hP
                exact G_iretX hC hQ (by omega) (by omega) d_Ch_firstMatch_75 ⟨_, _, _, _, _, _, _, rfl, h_36, h_37, h_38, h_46, h_39, h_40, (((hfr1.up (T := ([18, 19, 21, 22, 100 + 4 * d + 3] ++ lvT (d + 1))) (by intro u hu; simp only [List.mem_append, mem_lvT, List.mem_range, List.mem_cons, List.not_mem_nil, or_false, false_or] at hu ⊢ <;> omega)).tr' (T := ([18, 19, 21, 22, 100 + 4 * d + 3] ++ lvT (d + 1))) fr_15 (fun _ z => z) (by intro u hu; simp only [List.mem_append, mem_lvT, List.mem_range, List.mem_cons, List.not_mem_nil, or_false, false_or] at hu ⊢ <;> omega)).tr' (T := ([18, 19, 21, 22, 100 + 4 * d + 3] ++ lvT (d + 1))) fr_41 (fun _ z => z) (by intro u hu; simp only [List.mem_append, mem_lvT, List.mem_range, List.mem_cons, List.not_mem_nil, or_false, false_or] at hu ⊢ <;> omega))⟩
          · have c_16 := b2i_eq0.mp c_16
            refine G_goto hC 76 (by decide) d_Ch_firstMatch_42 ?_
            have hf2 := (fmL_none (by omega) (isS_f c_16)).symm.trans hf
            refine G_iinc (lv' := [(4, vI (q + 1)), (0, .ref a), (1, .ref o), (2, vI dd), (3, .ref te)]) hC 4 rfl (by rw [hN]; decide) rfl d_Ch_firstMatch_76 ?_
            refine G_goto hC 14 (by decide) d_Ch_firstMatch_79 ?_
            refine G_lv [1, 2, 3, 4, 0] rfl ?_
            have h_47 := fr_15.at ha1 (by simp only [List.mem_cons, List.not_mem_nil, or_false, not_or, not_false_eq_true]; try omega)
            have h_48 := hg1.fr fr_15 (by simp only [List.mem_cons, List.not_mem_nil, or_false, not_or, not_false_eq_true]; try omega) (by simp only [List.mem_cons, List.not_mem_nil, or_false, not_or, not_false_eq_true]; try omega)
            have h_49 := hm1.fr fr_15 (by simp only [List.mem_cons, List.not_mem_nil, or_false, not_or, not_false_eq_true]; try omega) (by simp only [List.mem_cons, List.not_mem_nil, or_false, not_or, not_false_eq_true]; try omega)
            have h_50 := hl1.fr fr_15 (by intro u hu; simp only [List.mem_cons, List.not_mem_nil, or_false] at hu <;> omega)
            exact ih14 M_5 (q + 1) _ _ _ _ _ _ _ _ _ (by omega) ((hfr1.up (T := ([18, 19, 21, 22, 100 + 4 * d + 3] ++ lvT (d + 1))) (by intro u hu; simp only [List.mem_append, mem_lvT, List.mem_range, List.mem_cons, List.not_mem_nil, or_false, false_or] at hu ⊢ <;> omega)).tr' (T := ([18, 19, 21, 22, 100 + 4 * d + 3] ++ lvT (d + 1))) fr_15 (fun _ z => z) (by intro u hu; simp only [List.mem_append, mem_lvT, List.mem_range, List.mem_cons, List.not_mem_nil, or_false, false_or] at hu ⊢ <;> omega)) h_47 h_13 h_48 h_49 h_50 (by omega) hok1 hbt1 hf2
  refine G_lv [2, 3, 4, 1, 0] rfl ?_
  exact L14 _ M 7 _ _ _ _ _ _ _ _ _ (Nat.lt_succ_self _) Fr.rf h_obj_a h_obj_te h_B_tg h_Ma_ma h_LvA_f (by omega) hok hbt hr
