def ChkOK (l : Launch) (D : Dg) (b0 : Nat) (es : List Ent) (sd : Snd) (f : Nat → Option Nat) (d : Nat) : Prop := ∀ {M : Mp} {a : Nat} {dd : Int} {di : Nat} {se : Nat} {ma : Nat} {lv : Nat} {tg : Nat} {cn : Int} {vo : Int} {bt : Bv} {L : Nat} {nm : Nat} {te : Nat} {rf : Int} {rt : Int} {k0 : Int} {s0 : Int} {n0 : Int} {w0 : Int32} {f0 : Int} {o0 : Int} {X : List Int} {R : Rs}, (M a = some (19, .inr (cCh, [.ref di, .ref se, .ref ma, .ref lv, .ref tg, vI cn, vI vo]))) → (IsDir D M di es) → (IsSe D M se (some sd)) → (IsMa D M ma se) → (M lv = some (20, arR D 3 11 f)) → (IsB D M tg 21 61 bt) → (LvA D M f (d + 1)) → (M L = some (100 + 4 * d, .inr (cLe, [.ref nm, .ref te, vI rf, vI rt]))) → (IsB D M nm (100 + 4 * d + 1) 61 (61, X)) → (M te = some (100 + 4 * d + 3, .inr (cTe, [vI k0, vI s0, vI n0, .int w0, vI f0, vI o0]))) → (f d = some L) → (bt.1 = 61) → (dd = (d : Int) ∧ d < 11) → (okC cn vo) → (X.length ≤ 61) → (chkS es sd (11 - d) X cn vo = R) → Ok l D b0 (12 + 4 * (11 - d)) y_Ch_check b_Ch_check 6 (some .int) M [.ref a, vI dd] 0 0 (fun r M' => ∃ bt9 : Bv, ∃ rf9 : Int, ∃ rt9 : Int, ∃ k9 : Int, ∃ s9 : Int, ∃ n9 : Int, ∃ w9 : Int32, ∃ f9 : Int, ∃ o9 : Int, r = some (vI R.1) ∧ M' a = some (19, .inr (cCh, [.ref di, .ref se, .ref ma, .ref lv, .ref tg, vI R.2.1, vI R.2.2])) ∧ IsB D M' tg 21 61 bt9 ∧ IsMa D M' ma se ∧ M' L = some (100 + 4 * d, .inr (cLe, [.ref nm, .ref te, vI rf9, vI rt9])) ∧ M' te = some (100 + 4 * d + 3, .inr (cTe, [vI k9, vI s9, vI n9, .int w9, vI f9, vI o9])) ∧ LvA D M' f (d + 1) ∧ (bt9.1 = 61) ∧ Fr ([18, 19, 21, 22, 100 + 4 * d, 100 + 4 * d + 3] ++ lvT (d + 1)) M M')

set_option maxHeartbeats 4000000 in
set_option maxRecDepth 100000 in
theorem c_Ch_checkInside {l : Launch} {D : Dg} {b0 : Nat} {M : Mp} {a : Nat} {o : Nat} {fi : Int} {ti : Int} {dd : Int} {di : Nat} {se : Nat} {ma : Nat} {lv : Nat} {tg : Nat} {cn : Int} {vo : Int} {es : List Ent} {f : Nat → Option Nat} {bt : Bv} {L : Nat} {nm : Nat} {te : Nat} {rf : Int} {rt : Int} {tt : Nat} {lt : Int} {b : Bv} {sd : Snd} {d : Nat} {X : List Int} {R : Rs} (h_obj_a : M a = some (19, .inr (cCh, [.ref di, .ref se, .ref ma, .ref lv, .ref tg, vI cn, vI vo]))) (h_Dir_di : IsDir D M di es) (h_Se_se : IsSe D M se (some sd)) (h_Ma_ma : IsMa D M ma se) (h_arR_lv : M lv = some (20, arR D 3 11 f)) (h_B_tg : IsB D M tg 21 61 bt) (h_LvA_f : LvA D M f (d + 1)) (h_obj_L : M L = some (100 + 4 * d, .inr (cLe, [.ref nm, .ref te, vI rf, vI rt]))) (h_B_nm : IsB D M nm (100 + 4 * d + 1) 61 (61, X)) (h_B_o : IsB D M o tt lt b) (IH : d < 10 → ChkOK l D b0 es sd f (d + 1)) (hfd : f d = some L) (hbt : bt.1 = 61) (hdd : dd = (d : Int) ∧ d < 11) (hok : okC cn vo) (hX : X.length ≤ 61) (htt : 200 ≤ tt) (hD : 0 ≤ fi ∧ fi ≤ ti ∧ ti ≤ b.2.length) (hr : insS (chkS es sd (10 - d)) (decide (0 < 10 - d)) sd X b.2 (fi, ti) cn vo = R) : Ok l D b0 (9 + 4 * (11 - d)) y_Ch_checkInside b_Ch_checkInside 7 (some .int) M [.ref a, .ref o, vI fi, vI ti, vI dd] 0 0 (fun r M' => ∃ bt9 : Bv, r = some (vI R.1) ∧ M' a = some (19, .inr (cCh, [.ref di, .ref se, .ref ma, .ref lv, .ref tg, vI R.2.1, vI R.2.2])) ∧ IsB D M' tg 21 61 bt9 ∧ IsMa D M' ma se ∧ LvA D M' f (d + 1) ∧ (bt9.1 = 61) ∧ Fr ([18, 19, 21, 22] ++ lvT (d + 1)) M M') := by
  refine Ok_of rfl (Nat.le_of_ble_eq_true rfl) (fun E hC hQ hl hD hB hN hR => ?_)
  subst hl hD hB
  have hB9 := h_B_o.len
  have hN9 := h_B_nm.len
  have hT9 := h_B_tg.len
  have hX8 : (((61 : Nat), X) : Bv).2.length ≤ 61 := hX
  rw [show 10 - d = 11 - (d + 1) by omega] at hr
  unfold insS at hr
  dsimp only at hr
  show G E M 0 0 [(0, .ref a), (1, .ref o), (2, vI fi), (3, vI ti), (4, vI dd)] [] 0
  refine G_aload_n hC 0 rfl rfl d_Ch_checkInside_0 ?_
  refine G_xV (rest := []) hC hR (c_Ch_countOne h_obj_a (by omega)) cv_Ch_151 ⟨_, _, h_obj_a⟩ (by omega) (by omega) (by omega) rfl rfl (Nat.le_of_ble_eq_true rfl) d_Ch_checkInside_1 (fun r_3 M_1 p_2 => ?_)
  obtain ⟨rfl, h_4, fr_5⟩ := p_2
  show G E M_1 (0 + 0) (0 + 0) [(0, .ref a), (1, .ref o), (2, vI fi), (3, vI ti), (4, vI dd)] [vI (b2i (decide (cn + 1 ≤ 10)))] 4
  refine G_if_eq hC 19 (by have := b2i_rng (decide (cn + 1 ≤ 10)); omega) (by decide) d_Ch_checkInside_4 (fun c_6 => ?_) (fun c_6 => ?_)
  · have c_6 := b2i_eq0.mp c_6
    have c_6 := of_decide_eq_false c_6
    refine G_bipush (j := 6) hC (by decide +kernel) d_Ch_checkInside_19 ?_
    have h_7 := h_B_tg.fr fr_5 (by decide) (by decide)
    have h_8 := h_Ma_ma.fr fr_5 (by decide) (by decide)
    have h_9 := h_LvA_f.fr fr_5 (by intro u hu; simp only [List.mem_cons, List.not_mem_nil, or_false] at hu <;> omega)
    have hP : R = (6, cn + 1, vo) := by rw [if_pos (show 10 < cn + 1 ∨ decide (0 < 11 - (d + 1)) = false from by first | exact Or.inl (by omega) | exact Or.inr (decide_eq_false (by omega)))] at hr; exact hr.symm
    exact G_iretX hC hQ (by omega) (by omega) d_Ch_checkInside_21 ⟨_, by rw [hP], by rw [hP]; exact h_4, h_7, h_8, h_9, hbt, (fr_5.up (T := ([18, 19, 21, 22] ++ lvT (d + 1))) (by intro u hu; simp only [List.mem_append, mem_lvT, List.mem_cons, List.not_mem_nil, or_false] at hu ⊢; omega))⟩
  · have c_6 := b2i_ne0.mp c_6
    have c_6 := of_decide_eq_true c_6
    refine G_iload hC 4 rfl d_Ch_checkInside_7 ?_
    refine G_iconst (i := 1) hC d_Ch_checkInside_9 ?_
    refine G_iadd hC d_Ch_checkInside_10 ?_
    refine G_aload_n hC 0 rfl rfl d_Ch_checkInside_11 ?_
    refine G_get hC fl_Ch_25 h_4 rfl d_Ch_checkInside_12 ?_
    have h_10 := fr_5.at h_arR_lv (by decide)
    refine G_alen (q := 3) hC h_10 rfl d_Ch_checkInside_15 ?_
    refine G_icmp_lt hC 22 (by omega) (by omega) (by decide) d_Ch_checkInside_16 (fun c_11 => ?_) (fun c_11 => ?_)
    · rw [if_neg (show ¬ (10 < cn + 1 ∨ decide (0 < 11 - (d + 1)) = false) from fun z => by rcases z with z | z; omega; (have z2 := of_decide_eq_false z; omega))] at hr
      have h_12 := h_LvA_f.fr fr_5 (by intro u hu; simp only [List.mem_cons, List.not_mem_nil, or_false] at hu <;> omega)
      obtain ⟨L1, X1, hL1, nm1, te1, rf1, rt1, k1, s1, n1, w1, f1, o1, hv1, hv2, hv3⟩ := id (h_12 (d + 1) (Nat.le_refl _) (by omega))
      have h_13 := LvA_up h_12 (show d + 1 ≤ d + 1 + 1 by omega)
      refine G_aload_n hC 0 rfl rfl d_Ch_checkInside_22 ?_
      refine G_get hC fl_Ch_25 h_4 rfl d_Ch_checkInside_23 ?_
      refine G_iload hC 4 rfl d_Ch_checkInside_26 ?_
      refine G_iconst (i := 1) hC d_Ch_checkInside_28 ?_
      refine G_iadd hC d_Ch_checkInside_29 ?_
      refine G_aald hC h_10 rfl (by omega) (by omega) (by rw [show (dd + 1 : Int).toNat = d + 1 by omega, hL1]) d_Ch_checkInside_30 ?_
      refine G_get hC fl_Ch_46 hv1 rfl d_Ch_checkInside_31 ?_
      refine G_astore (lv' := [(5, .ref nm1), (0, .ref a), (1, .ref o), (2, vI fi), (3, vI ti), (4, vI dd)]) hC (by rw [hN]; decide) rfl d_Ch_checkInside_34 ?_
      refine G_aload hC 0 rfl d_Ch_checkInside_36 ?_
      refine G_iconst (i := 0) hC d_Ch_checkInside_38 ?_
      refine G_xV (rest := []) hC hR (c_By_cut hv2 (by omega)) cv_Ch_49 hv2.obj (by omega) (by omega) (by omega) rfl rfl (Nat.le_of_ble_eq_true rfl) d_Ch_checkInside_39 (fun r_16 M_14 p_15 => ?_)
      obtain ⟨rfl, h_17, fr_18⟩ := p_15
      show G E M_14 (0 + 0 + 0) (0 + 0 + 0) [(5, .ref nm1), (0, .ref a), (1, .ref o), (2, vI fi), (3, vI ti), (4, vI dd)] [] 42
      have h_19 : IsB (eD E) M_14 nm1 (100 + 4 * (d + 1) + 1) 61 ((61 : Nat), ([] : List Int)) := by have e9 := cut0 ((61 : Nat), X1); rw [e9] at h_17; exact h_17
      refine G_aload_n hC 1 rfl rfl d_Ch_checkInside_42 ?_
      have h_20 := fr_18.at h_4 (by simp only [List.mem_cons, List.not_mem_nil, or_false, not_or, not_false_eq_true]; try omega)
      refine G_get hC fl_Ch_19 h_20 rfl d_Ch_checkInside_43 ?_
      refine G_aload_n hC 2 rfl rfl d_Ch_checkInside_46 ?_
      refine G_iload_n hC 3 rfl rfl d_Ch_checkInside_47 ?_
      refine G_iload_n hC 4 rfl rfl d_Ch_checkInside_48 ?_
      refine G_aload_n hC 1 rfl rfl d_Ch_checkInside_49 ?_
      refine G_get hC fl_Ch_25 h_20 rfl d_Ch_checkInside_50 ?_
      refine G_iload hC 5 rfl d_Ch_checkInside_53 ?_
      have h_21 := fr_18.at h_10 (by simp only [List.mem_cons, List.not_mem_nil, or_false, not_or, not_false_eq_true]; try omega)
      refine G_aald hC h_21 rfl (by omega) (by omega) (by rw [show (dd : Int).toNat = d by omega, hfd]) d_Ch_checkInside_55 ?_
      have h_22 := fr_5.at h_obj_L (by simp only [List.mem_cons, List.not_mem_nil, or_false, not_or, not_false_eq_true]; try omega)
      have h_23 := fr_18.at h_22 (by simp only [List.mem_cons, List.not_mem_nil, or_false, not_or, not_false_eq_true]; try omega)
      refine G_get hC fl_Ch_46 h_23 rfl d_Ch_checkInside_56 ?_
      refine G_aload hC 0 rfl d_Ch_checkInside_59 ?_
      have hpz : psi 61 (wrL 61 sd ((61 : Nat), X).2 b.2 ti fi ((61 : Nat), ([] : List Int))) = psi 61 ((61 : Nat), ([] : List Int)) := by show psi 61 (wrL 61 sd X b.2 ti fi ((61 : Nat), ([] : List Int))) = _; rw [tg_row]; rfl
      have h_24 := h_Ma_ma.fr fr_5 (by decide) (by decide)
      have h_25 := h_24.fr fr_18 (by simp only [List.mem_cons, List.not_mem_nil, or_false, not_or, not_false_eq_true]; try omega) (by simp only [List.mem_cons, List.not_mem_nil, or_false, not_or, not_false_eq_true]; try omega)
      have h_26 := h_Se_se.fr fr_5 (by intro u hu; simp only [List.mem_cons, List.not_mem_nil, or_false] at hu <;> omega)
      have h_27 := h_26.fr fr_18 (by intro u hu; simp only [List.mem_cons, List.not_mem_nil, or_false] at hu <;> omega)
      have h_28 := h_B_o.fr fr_5 (by simp only [List.mem_cons, List.not_mem_nil, or_false, not_or, not_false_eq_true]; try omega) (by simp only [List.mem_cons, List.not_mem_nil, or_false, not_or, not_false_eq_true]; try omega)
      have h_29 := h_28.fr fr_18 (by simp only [List.mem_cons, List.not_mem_nil, or_false, not_or, not_false_eq_true]; try omega) (by simp only [List.mem_cons, List.not_mem_nil, or_false, not_or, not_false_eq_true]; try omega)
      have h_30 := h_B_nm.fr fr_5 (by simp only [List.mem_cons, List.not_mem_nil, or_false, not_or, not_false_eq_true]; try omega) (by simp only [List.mem_cons, List.not_mem_nil, or_false, not_or, not_false_eq_true]; try omega)
      have h_31 := h_30.fr fr_18 (by simp only [List.mem_cons, List.not_mem_nil, or_false, not_or, not_false_eq_true]; try omega) (by simp only [List.mem_cons, List.not_mem_nil, or_false, not_or, not_false_eq_true]; try omega)
      refine G_xV (rest := []) hC hR (c_Ma_write h_25 h_27 h_29 h_31 h_19 (by omega) (by omega) (by omega) (by omega) (by omega) rfl) cv_Ch_154 h_25.obj (by omega) (by omega) (by omega) rfl rfl (Nat.le_of_ble_eq_true rfl) d_Ch_checkInside_61 (fun r_34 M_32 p_33 => ?_)
      obtain ⟨rfl, h_35, h_36, fr_37⟩ := p_33
      show G E M_32 (0 + 0 + 0 + (psi 61 (wrL 61 sd ((61 : Nat), X).2 b.2 ti fi ((61 : Nat), ([] : List Int))) - psi 61 ((61 : Nat), ([] : List Int)))) (0 + 0 + 0 + (psi 61 (wrL 61 sd ((61 : Nat), X).2 b.2 ti fi ((61 : Nat), ([] : List Int))) - psi 61 ((61 : Nat), ([] : List Int)))) [(5, .ref nm1), (0, .ref a), (1, .ref o), (2, vI fi), (3, vI ti), (4, vI dd)] [] 64
      have g_38 := wrL_gr (lim := 61) (s := sd) (chk := ((61 : Nat), X).2) (xs := b.2) (to := ti) _ fi ((61 : Nat), ([] : List Int)) (Nat.lt_succ_self _) ⟨h_19.len.1, h_19.len.2.1⟩
      refine G_aload_n hC 1 rfl rfl d_Ch_checkInside_64 ?_
      refine G_iload hC 5 rfl d_Ch_checkInside_65 ?_
      refine G_iconst (i := 1) hC d_Ch_checkInside_67 ?_
      refine G_iadd hC d_Ch_checkInside_68 ?_
      have h_39 : IsB (eD E) M_32 nm1 (100 + 4 * (d + 1) + 1) 61 (61, tgS sd X b.2 (fi, ti)) := by have e9 : wrL 61 sd X b.2 ti fi ((61 : Nat), ([] : List Int)) = (61, tgS sd X b.2 (fi, ti)) := tg_row sd X b.2 fi ti; rw [← e9]; exact h_35
      have hcv := chkS_cv es sd (11 - (d + 1)) (tgS sd X b.2 (fi, ti)) (cn + 1) vo (by omega)
      unfold cvP at hcv
      have h_40 := fr_37.at h_20 (by simp only [List.mem_cons, List.not_mem_nil, or_false, not_or, not_false_eq_true]; try omega)
      have h_41 := h_Dir_di.fr fr_5 (by intro u hu; simp only [List.mem_cons, List.not_mem_nil, or_false] at hu <;> omega)
      have h_42 := h_41.fr fr_18 (by intro u hu; simp only [List.mem_cons, List.not_mem_nil, or_false] at hu <;> omega)
      have h_43 := h_42.fr fr_37 (by intro u hu; simp only [List.mem_cons, List.not_mem_nil, or_false] at hu <;> omega)
      have h_44 := h_27.fr fr_37 (by intro u hu; simp only [List.mem_cons, List.not_mem_nil, or_false] at hu <;> omega)
      have h_45 := fr_37.at h_21 (by simp only [List.mem_cons, List.not_mem_nil, or_false, not_or, not_false_eq_true]; try omega)
      have h_46 := h_B_tg.fr fr_5 (by decide) (by decide)
      have h_47 := h_46.fr fr_18 (by simp only [List.mem_cons, List.not_mem_nil, or_false, not_or, not_false_eq_true]; try omega) (by simp only [List.mem_cons, List.not_mem_nil, or_false, not_or, not_false_eq_true]; try omega)
      have h_48 := h_47.fr fr_37 (by simp only [List.mem_cons, List.not_mem_nil, or_false, not_or, not_false_eq_true]; try omega) (by simp only [List.mem_cons, List.not_mem_nil, or_false, not_or, not_false_eq_true]; try omega)
      have h_49 := h_13.fr fr_18 (by intro u hu; simp only [List.mem_cons, List.not_mem_nil, or_false] at hu <;> omega)
      have h_50 := h_49.fr fr_37 (by intro u hu; simp only [List.mem_cons, List.not_mem_nil, or_false] at hu <;> omega)
      have h_51 := fr_18.at hv1 (by simp only [List.mem_cons, List.not_mem_nil, or_false, not_or, not_false_eq_true]; try omega)
      have h_52 := fr_37.at h_51 (by simp only [List.mem_cons, List.not_mem_nil, or_false, not_or, not_false_eq_true]; try omega)
      have h_53 := fr_18.at hv3 (by simp only [List.mem_cons, List.not_mem_nil, or_false, not_or, not_false_eq_true]; try omega)
      have h_54 := fr_37.at h_53 (by simp only [List.mem_cons, List.not_mem_nil, or_false, not_or, not_false_eq_true]; try omega)
      refine G_xV (rest := []) hC hR (IH (by omega) h_40 h_43 h_44 h_36 h_45 h_48 h_50 h_52 h_39 h_54 hL1 (by omega) (by omega) (by omega) (tg_len _ _ _ _) rfl) cv_Ch_160 ⟨_, _, h_40⟩ (by omega) (by omega) (by omega) rfl rfl (Nat.le_of_ble_eq_true rfl) d_Ch_checkInside_69 (fun r_57 M_55 p_56 => ?_)
      obtain ⟨bt9_58, rf9_59, rt9_60, k9_61, s9_62, n9_63, w9_64, f9_65, o9_66, rfl, h_67, h_68, h_69, h_70, h_71, h_72, h_73, fr_74⟩ := p_56
      show G E M_55 (0 + 0 + 0 + (psi 61 (wrL 61 sd ((61 : Nat), X).2 b.2 ti fi ((61 : Nat), ([] : List Int))) - psi 61 ((61 : Nat), ([] : List Int))) + 0) (0 + 0 + 0 + (psi 61 (wrL 61 sd ((61 : Nat), X).2 b.2 ti fi ((61 : Nat), ([] : List Int))) - psi 61 ((61 : Nat), ([] : List Int))) + 0) [(5, .ref nm1), (0, .ref a), (1, .ref o), (2, vI fi), (3, vI ti), (4, vI dd)] [vI ((chkS es sd (11 - (d + 1)) (tgS sd X b.2 (fi, ti)) (cn + 1) vo).1)] 72
      refine G_istore (lv' := [(6, vI ((chkS es sd (11 - (d + 1)) (tgS sd X b.2 (fi, ti)) (cn + 1) vo).1)), (5, .ref nm1), (0, .ref a), (1, .ref o), (2, vI fi), (3, vI ti), (4, vI dd)]) hC (by rw [hN]; decide) rfl d_Ch_checkInside_72 ?_
      refine G_iload hC 0 rfl d_Ch_checkInside_74 ?_
      refine G_if_ne hC 84 (by omega) (by decide) d_Ch_checkInside_76 (fun c_75 => ?_) (fun c_75 => ?_)
      · refine G_iload hC 0 rfl d_Ch_checkInside_84 ?_
        have h_76 := h_39.fr fr_74 (by simp only [List.mem_append, mem_lvT, List.mem_cons, List.not_mem_nil, or_false]; omega) (by simp only [List.mem_append, mem_lvT, List.mem_cons, List.not_mem_nil, or_false]; omega)
        have hlv9 := LvA_cons hL1 ⟨_, _, _, _, _, _, _, _, _, _, h_70, h_76, h_71⟩ h_72
        have hP : R = ((chkS es sd (11 - (d + 1)) (tgS sd X b.2 (fi, ti)) (cn + 1) vo).1, (chkS es sd (11 - (d + 1)) (tgS sd X b.2 (fi, ti)) (cn + 1) vo).2) := by rw [if_neg c_75] at hr; exact hr.symm
        exact G_iretX hC hQ (by omega) (by omega) d_Ch_checkInside_86 ⟨_, by rw [hP], by rw [hP]; exact h_67, h_68, h_69, hlv9, h_73, ((((fr_5.up (T := ([18, 19, 21, 22] ++ lvT (d + 1))) (by intro u hu; simp only [List.mem_append, mem_lvT, List.mem_cons, List.not_mem_nil, or_false] at hu ⊢; omega)).tr' (T := ([18, 19, 21, 22] ++ lvT (d + 1))) fr_18 (fun _ z => z) (by intro u hu; simp only [List.mem_append, mem_lvT, List.mem_cons, List.not_mem_nil, or_false] at hu ⊢; omega)).tr' (T := ([18, 19, 21, 22] ++ lvT (d + 1))) fr_37 (fun _ z => z) (by intro u hu; simp only [List.mem_append, mem_lvT, List.mem_cons, List.not_mem_nil, or_false] at hu ⊢; omega)).tr' (T := ([18, 19, 21, 22] ++ lvT (d + 1))) fr_74 (fun _ z => z) (by intro u hu; simp only [List.mem_append, mem_lvT, List.mem_cons, List.not_mem_nil, or_false] at hu ⊢; omega))⟩
      · refine G_bipush (j := 6) hC (by decide +kernel) d_Ch_checkInside_79 ?_
        refine G_goto hC 86 (by decide) d_Ch_checkInside_81 ?_
        have h_77 := h_39.fr fr_74 (by simp only [List.mem_append, mem_lvT, List.mem_cons, List.not_mem_nil, or_false]; omega) (by simp only [List.mem_append, mem_lvT, List.mem_cons, List.not_mem_nil, or_false]; omega)
        have hlv9 := LvA_cons hL1 ⟨_, _, _, _, _, _, _, _, _, _, h_70, h_77, h_71⟩ h_72
        have hP : R = (6, (chkS es sd (11 - (d + 1)) (tgS sd X b.2 (fi, ti)) (cn + 1) vo).2) := by rw [if_pos c_75] at hr; exact hr.symm
        exact G_iretX hC hQ (by omega) (by omega) d_Ch_checkInside_86 ⟨_, by rw [hP], by rw [hP]; exact h_67, h_68, h_69, hlv9, h_73, ((((fr_5.up (T := ([18, 19, 21, 22] ++ lvT (d + 1))) (by intro u hu; simp only [List.mem_append, mem_lvT, List.mem_cons, List.not_mem_nil, or_false] at hu ⊢; omega)).tr' (T := ([18, 19, 21, 22] ++ lvT (d + 1))) fr_18 (fun _ z => z) (by intro u hu; simp only [List.mem_append, mem_lvT, List.mem_cons, List.not_mem_nil, or_false] at hu ⊢; omega)).tr' (T := ([18, 19, 21, 22] ++ lvT (d + 1))) fr_37 (fun _ z => z) (by intro u hu; simp only [List.mem_append, mem_lvT, List.mem_cons, List.not_mem_nil, or_false] at hu ⊢; omega)).tr' (T := ([18, 19, 21, 22] ++ lvT (d + 1))) fr_74 (fun _ z => z) (by intro u hu; simp only [List.mem_append, mem_lvT, List.mem_cons, List.not_mem_nil, or_false] at hu ⊢; omega))⟩
    · refine G_bipush (j := 6) hC (by decide +kernel) d_Ch_checkInside_19 ?_
      have h_78 := h_B_tg.fr fr_5 (by decide) (by decide)
      have h_79 := h_Ma_ma.fr fr_5 (by decide) (by decide)
      have h_80 := h_LvA_f.fr fr_5 (by intro u hu; simp only [List.mem_cons, List.not_mem_nil, or_false] at hu <;> omega)
      have hP : R = (6, cn + 1, vo) := by rw [if_pos (show 10 < cn + 1 ∨ decide (0 < 11 - (d + 1)) = false from by first | exact Or.inl (by omega) | exact Or.inr (decide_eq_false (by omega)))] at hr; exact hr.symm
      exact G_iretX hC hQ (by omega) (by omega) d_Ch_checkInside_21 ⟨_, by rw [hP], by rw [hP]; exact h_4, h_78, h_79, h_80, hbt, (fr_5.up (T := ([18, 19, 21, 22] ++ lvT (d + 1))) (by intro u hu; simp only [List.mem_append, mem_lvT, List.mem_cons, List.not_mem_nil, or_false] at hu ⊢; omega))⟩
