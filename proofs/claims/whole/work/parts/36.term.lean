set_option maxHeartbeats 4000000 in
set_option maxRecDepth 100000 in
theorem c_Te_kind {l : Launch} {D : Dg} {b0 : Nat} {M : Mp} {a : Nat} {t : Nat} {k0 : Int} {s0 : Int} {n0 : Int} {w0 : Int32} {f0 : Int} {o0 : Int} (h_obj_a : M a = some (t, .inr (cTe, [vI k0, vI s0, vI n0, .int w0, vI f0, vI o0]))) : OkP l D b0 1 y_Te_kind b_Te_kind 1 (some .int) M [.ref a] (vI k0) := by
  refine Ok_of rfl (Nat.le_of_ble_eq_true rfl) (fun E hC hQ hl hD hB hN hR => ?_)
  subst hl hD hB
  show G E M 0 0 [(0, .ref a)] [] 0
  refine G_aload_n hC 0 rfl rfl d_Te_kind_0 ?_
  refine G_get hC fl_Te_9 h_obj_a rfl d_Te_kind_1 ?_
  exact G_iretP hC hQ d_Te_kind_4 rfl

set_option maxHeartbeats 4000000 in
set_option maxRecDepth 100000 in
theorem c_Te_bits {l : Launch} {D : Dg} {b0 : Nat} {M : Mp} {a : Nat} {t : Nat} {k0 : Int} {s0 : Int} {n0 : Int} {w0 : Int32} {f0 : Int} {o0 : Int} (h_obj_a : M a = some (t, .inr (cTe, [vI k0, vI s0, vI n0, .int w0, vI f0, vI o0]))) : OkP l D b0 1 y_Te_bits b_Te_bits 1 (some .int) M [.ref a] (vI n0) := by
  refine Ok_of rfl (Nat.le_of_ble_eq_true rfl) (fun E hC hQ hl hD hB hN hR => ?_)
  subst hl hD hB
  show G E M 0 0 [(0, .ref a)] [] 0
  refine G_aload_n hC 0 rfl rfl d_Te_bits_0 ?_
  refine G_get hC fl_Te_15 h_obj_a rfl d_Te_bits_1 ?_
  exact G_iretP hC hQ d_Te_bits_4 rfl

set_option maxHeartbeats 4000000 in
set_option maxRecDepth 100000 in
theorem c_Te_from {l : Launch} {D : Dg} {b0 : Nat} {M : Mp} {a : Nat} {t : Nat} {k0 : Int} {s0 : Int} {n0 : Int} {w0 : Int32} {f0 : Int} {o0 : Int} (h_obj_a : M a = some (t, .inr (cTe, [vI k0, vI s0, vI n0, .int w0, vI f0, vI o0]))) : OkP l D b0 1 y_Te_from b_Te_from 1 (some .int) M [.ref a] (vI f0) := by
  refine Ok_of rfl (Nat.le_of_ble_eq_true rfl) (fun E hC hQ hl hD hB hN hR => ?_)
  subst hl hD hB
  show G E M 0 0 [(0, .ref a)] [] 0
  refine G_aload_n hC 0 rfl rfl d_Te_from_0 ?_
  refine G_get hC fl_Te_21 h_obj_a rfl d_Te_from_1 ?_
  exact G_iretP hC hQ d_Te_from_4 rfl

set_option maxHeartbeats 4000000 in
set_option maxRecDepth 100000 in
theorem c_Te_to {l : Launch} {D : Dg} {b0 : Nat} {M : Mp} {a : Nat} {t : Nat} {k0 : Int} {s0 : Int} {n0 : Int} {w0 : Int32} {f0 : Int} {o0 : Int} (h_obj_a : M a = some (t, .inr (cTe, [vI k0, vI s0, vI n0, .int w0, vI f0, vI o0]))) : OkP l D b0 1 y_Te_to b_Te_to 1 (some .int) M [.ref a] (vI o0) := by
  refine Ok_of rfl (Nat.le_of_ble_eq_true rfl) (fun E hC hQ hl hD hB hN hR => ?_)
  subst hl hD hB
  show G E M 0 0 [(0, .ref a)] [] 0
  refine G_aload_n hC 0 rfl rfl d_Te_to_0 ?_
  refine G_get hC fl_Te_24 h_obj_a rfl d_Te_to_1 ?_
  exact G_iretP hC hQ d_Te_to_4 rfl

set_option maxHeartbeats 4000000 in
set_option maxRecDepth 100000 in
theorem c_Te_network {l : Launch} {D : Dg} {b0 : Nat} {M : Mp} {a : Nat} {t : Nat} {k0 : Int} {s0 : Int} {n0 : Int} {w0 : Int32} {f0 : Int} {o0 : Int} (h_obj_a : M a = some (t, .inr (cTe, [vI k0, vI s0, vI n0, .int w0, vI f0, vI o0]))) : OkP l D b0 1 y_Te_network b_Te_network 1 (some .int) M [.ref a] (.int w0) := by
  refine Ok_of rfl (Nat.le_of_ble_eq_true rfl) (fun E hC hQ hl hD hB hN hR => ?_)
  subst hl hD hB
  show G E M 0 0 [(0, .ref a)] [] 0
  refine G_aload_n hC 0 rfl rfl d_Te_network_0 ?_
  refine G_get hC fl_Te_18 h_obj_a rfl d_Te_network_1 ?_
  exact G_xretP hC hQ d_Te_network_4

set_option maxHeartbeats 4000000 in
set_option maxRecDepth 100000 in
theorem c_Te_verdict {l : Launch} {D : Dg} {b0 : Nat} {M : Mp} {a : Nat} {t : Nat} {k0 : Int} {s0 : Int} {n0 : Int} {w0 : Int32} {f0 : Int} {o0 : Int} (h_obj_a : M a = some (t, .inr (cTe, [vI k0, vI s0, vI n0, .int w0, vI f0, vI o0]))) (hs : -2147483648 ≤ s0 ∧ s0 ≤ 2147483647) : OkP l D b0 1 y_Te_verdict b_Te_verdict 1 (some .int) M [.ref a] (vI (verS s0)) := by
  refine Ok_of rfl (Nat.le_of_ble_eq_true rfl) (fun E hC hQ hl hD hB hN hR => ?_)
  subst hl hD hB
  show G E M 0 0 [(0, .ref a)] [] 0
  refine G_aload_n hC 0 rfl rfl d_Te_verdict_0 ?_
  refine G_get hC fl_Te_27 h_obj_a rfl d_Te_verdict_1 ?_
  by_cases c_1 : s0 = 45
  · refine G_look 40 hC (by omega) rfl (by rw [c_1]; try rfl) (by decide) d_Te_verdict_4 ?_
    refine G_iconst (i := 3) hC d_Te_verdict_40 ?_
    exact G_iretP hC hQ d_Te_verdict_41 (by unfold verS; (repeat' split); all_goals omega)
  by_cases c_2 : s0 = 63
  · refine G_look 44 hC (by omega) rfl (by rw [c_2]; try rfl) (by decide) d_Te_verdict_4 ?_
    refine G_iconst (i := 1) hC d_Te_verdict_44 ?_
    exact G_iretP hC hQ d_Te_verdict_45 (by unfold verS; (repeat' split); all_goals omega)
  by_cases c_3 : s0 = 126
  · refine G_look 42 hC (by omega) rfl (by rw [c_3]; try rfl) (by decide) d_Te_verdict_4 ?_
    refine G_iconst (i := 4) hC d_Te_verdict_42 ?_
    exact G_iretP hC hQ d_Te_verdict_43 (by unfold verS; (repeat' split); all_goals omega)
  refine G_look (off := 42) 46 hC (by omega) rfl (by simp only [Op.lookupswitch.offset]; rw [if_neg (by omega), if_neg (by omega), if_neg (by omega)]) (by decide) d_Te_verdict_4 ?_
  refine G_iconst (i := 2) hC d_Te_verdict_46 ?_
  exact G_iretP hC hQ d_Te_verdict_47 (by unfold verS; (repeat' split); all_goals omega)

set_option maxHeartbeats 4000000 in
set_option maxRecDepth 100000 in
theorem c_Te_startsAt {l : Launch} {D : Dg} {b0 : Nat} {M : Mp} {o : Nat} {q : Int} {tt : Nat} {lim : Int} {b : Bv} (h_B_o : IsB D M o tt lim b) (hq : -100000 ≤ q ∧ q ≤ 100000) : OkP l D b0 2 y_Te_startsAt b_Te_startsAt 2 (some .boolean) M [.ref o, vI q] (vI (b2i (decide (¬ atS b.2 q = 32 ∧ atS b.2 (q - 1) = 32)))) := by
  refine Ok_of rfl (Nat.le_of_ble_eq_true rfl) (fun E hC hQ hl hD hB hN hR => ?_)
  subst hl hD hB
  show G E M 0 0 [(0, .ref o), (1, vI q)] [] 0
  refine G_aload_n hC 0 rfl rfl d_Te_startsAt_0 ?_
  refine G_iload_n hC 1 rfl rfl d_Te_startsAt_1 ?_
  refine G_pV (rest := []) hC hR (c_By_at h_B_o (by omega)) cv_Te_30 h_B_o.obj (by decide) (by omega) (by omega) rfl rfl (Nat.le_of_ble_eq_true rfl) d_Te_startsAt_2 ?_
  have g_1 := h_B_o.at_rng q
  refine G_bipush (j := 32) hC (by decide +kernel) d_Te_startsAt_5 ?_
  refine G_icmp_eq hC 26 (by omega) (by decide) (by decide) d_Te_startsAt_7 (fun c_2 => ?_) (fun c_2 => ?_)
  · refine G_iconst (i := 0) hC d_Te_startsAt_26 ?_
    exact G_zretP hC hQ d_Te_startsAt_27 (b2i_f (decide_eq_false (by omega)))
  · refine G_aload_n hC 0 rfl rfl d_Te_startsAt_10 ?_
    refine G_iload_n hC 1 rfl rfl d_Te_startsAt_11 ?_
    refine G_iconst (i := 1) hC d_Te_startsAt_12 ?_
    refine G_isub hC d_Te_startsAt_13 ?_
    refine G_pV (rest := []) hC hR (c_By_at h_B_o (by omega)) cv_Te_30 h_B_o.obj (by decide) (by omega) (by omega) rfl rfl (Nat.le_of_ble_eq_true rfl) d_Te_startsAt_14 ?_
    have g_3 := h_B_o.at_rng (q - 1)
    refine G_bipush (j := 32) hC (by decide +kernel) d_Te_startsAt_17 ?_
    refine G_icmp_ne hC 26 (by omega) (by decide) (by decide) d_Te_startsAt_19 (fun c_4 => ?_) (fun c_4 => ?_)
    · refine G_iconst (i := 0) hC d_Te_startsAt_26 ?_
      exact G_zretP hC hQ d_Te_startsAt_27 (b2i_f (decide_eq_false (by omega)))
    · refine G_iconst (i := 1) hC d_Te_startsAt_22 ?_
      refine G_goto hC 27 (by decide) d_Te_startsAt_23 ?_
      exact G_zretP hC hQ d_Te_startsAt_27 (b2i_t (decide_eq_true (by omega)))

set_option maxHeartbeats 4000000 in
set_option maxRecDepth 100000 in
theorem c_Te_readAll {l : Launch} {D : Dg} {b0 : Nat} {M : Mp} {a : Nat} {o : Nat} {q : Int} {stop : Int} {t : Nat} {k0 : Int} {s0 : Int} {n0 : Int} {w0 : Int32} {f0 : Int} {o0 : Int} {tt : Nat} {lim : Int} {b : Bv} (h_obj_a : M a = some (t, .inr (cTe, [vI k0, vI s0, vI n0, .int w0, vI f0, vI o0]))) (h_B_o : IsB D M o tt lim b) (hq : -100000 ≤ q ∧ q ≤ 100000) (hst : -100000 ≤ stop ∧ stop ≤ 100000) (htt : tt ≠ t ∧ tt + 1 ≠ t) : Ok l D b0 6 y_Te_readAll b_Te_readAll 4 (some .boolean) M [.ref a, .ref o, vI q, vI stop] 0 0 (fun r M' => r = some (vI (b2i (decide (stop - q = 3 ∧ hasS b.2 (wrd 1) q stop = true)))) ∧ M' a = some (t, .inr (cTe, [vI 0, vI s0, vI n0, .int w0, vI f0, vI o0])) ∧ Fr [t] M M') := by
  refine Ok_of rfl (Nat.le_of_ble_eq_true rfl) (fun E hC hQ hl hD hB hN hR => ?_)
  subst hl hD hB
  have hB9 := h_B_o.len
  show G E M 0 0 [(0, .ref a), (1, .ref o), (2, vI q), (3, vI stop)] [] 0
  refine G_aload_n hC 0 rfl rfl d_Te_readAll_0 ?_
  refine G_iconst (i := 0) hC d_Te_readAll_1 ?_
  refine G_putX (fs' := [vI 0, vI s0, vI n0, .int w0, vI f0, vI o0]) hC fl_Te_9 ft_Te fw_Te_0 h_obj_a rfl rfl (Nat.le_of_ble_eq_true rfl) rfl d_Te_readAll_2 (fun M_1 h_2 fr_3 => ?_)
  refine G_iload_n hC 3 rfl rfl d_Te_readAll_5 ?_
  refine G_iload_n hC 2 rfl rfl d_Te_readAll_6 ?_
  refine G_isub hC d_Te_readAll_7 ?_
  refine G_iconst (i := 3) hC d_Te_readAll_8 ?_
  refine G_icmp_ne hC 27 (by omega) (by decide) (by decide) d_Te_readAll_9 (fun c_4 => ?_) (fun c_4 => ?_)
  · refine G_iconst (i := 0) hC d_Te_readAll_27 ?_
    exact G_zretX _ hC hQ (by omega) (by omega) d_Te_readAll_28 (b2i_f (decide_eq_false (fun z => by have z1 := z.1; have z2 := z.2; first | omega | (rw [z2] at c_4; cases c_4)))) ⟨rfl, h_2, (fr_3.up (T := [t]) (by simp))⟩
  · refine G_aload_n hC 1 rfl rfl d_Te_readAll_12 ?_
    refine G_ldcS (tx := "all") (i := 1) hC (by decide) d_Te_readAll_13 ?_
    refine G_iload_n hC 2 rfl rfl d_Te_readAll_15 ?_
    refine G_iload_n hC 3 rfl rfl d_Te_readAll_16 ?_
    have h_5 := h_B_o.fr fr_3 (by simp only [List.mem_cons, List.not_mem_nil, or_false, not_or, not_false_eq_true]; try omega) (by simp only [List.mem_cons, List.not_mem_nil, or_false, not_or, not_false_eq_true]; try omega)
    refine G_pV (rest := []) hC hR (c_By_has h_5 (by decide) (by omega) (by omega)) cv_Te_50 h_5.obj (by decide) (by omega) (by omega) rfl rfl (Nat.le_of_ble_eq_true rfl) d_Te_readAll_17 ?_
    refine G_if_eq hC 27 (by have := b2i_rng (hasS b.2 (wrd 1) q stop); omega) (by decide) d_Te_readAll_20 (fun c_6 => ?_) (fun c_6 => ?_)
    · have c_6 := b2i_eq0.mp c_6
      refine G_iconst (i := 0) hC d_Te_readAll_27 ?_
      exact G_zretX _ hC hQ (by omega) (by omega) d_Te_readAll_28 (b2i_f (decide_eq_false (fun z => by have z1 := z.1; have z2 := z.2; first | omega | (rw [z2] at c_6; cases c_6)))) ⟨rfl, h_2, (fr_3.up (T := [t]) (by simp))⟩
    · have c_6 := b2i_ne0.mp c_6
      refine G_iconst (i := 1) hC d_Te_readAll_23 ?_
      refine G_goto hC 28 (by decide) d_Te_readAll_24 ?_
      exact G_zretX _ hC hQ (by omega) (by omega) d_Te_readAll_28 (b2i_t (decide_eq_true ⟨c_4, c_6⟩)) ⟨rfl, h_2, (fr_3.up (T := [t]) (by simp))⟩

set_option maxHeartbeats 4000000 in
set_option maxRecDepth 100000 in
theorem c_Te_readTarget {l : Launch} {D : Dg} {b0 : Nat} {M : Mp} {a : Nat} {rd : Int} {o : Nat} {q : Int} {stop : Int} {t : Nat} {k0 : Int} {s0 : Int} {n0 : Int} {w0 : Int32} {f0 : Int} {o0 : Int} {tt : Nat} {lim : Int} {b : Bv} (h_obj_a : M a = some (t, .inr (cTe, [vI k0, vI s0, vI n0, .int w0, vI f0, vI o0]))) (h_B_o : IsB D M o tt lim b) (hq : -100000 ≤ q ∧ q ≤ 100000) (hst : -100000 ≤ stop ∧ stop ≤ 100000) (htt : tt ≠ t ∧ tt + 1 ≠ t) : Ok l D b0 6 y_Te_readTarget b_Te_readTarget 5 (some .boolean) M [.ref a, vI rd, .ref o, vI q, vI stop] 0 0 (fun r M' => r = some (vI (b2i (targS b.2 q stop))) ∧ M' a = some (t, .inr (cTe, [vI rd, vI s0, vI n0, .int w0, vI q, vI stop])) ∧ Fr [t] M M') := by
  refine Ok_of rfl (Nat.le_of_ble_eq_true rfl) (fun E hC hQ hl hD hB hN hR => ?_)
  subst hl hD hB
  have hB9 := h_B_o.len
  show G E M 0 0 [(0, .ref a), (1, vI rd), (2, .ref o), (3, vI q), (4, vI stop)] [] 0
  refine G_aload_n hC 0 rfl rfl d_Te_readTarget_0 ?_
  refine G_iload_n hC 1 rfl rfl d_Te_readTarget_1 ?_
  refine G_putX (fs' := [vI rd, vI s0, vI n0, .int w0, vI f0, vI o0]) hC fl_Te_9 ft_Te fw_Te_0 h_obj_a rfl rfl (Nat.le_of_ble_eq_true rfl) rfl d_Te_readTarget_2 (fun M_1 h_2 fr_3 => ?_)
  refine G_aload_n hC 0 rfl rfl d_Te_readTarget_5 ?_
  refine G_iload_n hC 3 rfl rfl d_Te_readTarget_6 ?_
  refine G_putX (fs' := [vI rd, vI s0, vI n0, .int w0, vI q, vI o0]) hC fl_Te_21 ft_Te fw_Te_4 h_2 rfl rfl (Nat.le_of_ble_eq_true rfl) rfl d_Te_readTarget_7 (fun M_4 h_5 fr_6 => ?_)
  refine G_aload_n hC 0 rfl rfl d_Te_readTarget_10 ?_
  refine G_iload hC 4 rfl d_Te_readTarget_11 ?_
  refine G_putX (fs' := [vI rd, vI s0, vI n0, .int w0, vI q, vI stop]) hC fl_Te_24 ft_Te fw_Te_5 h_5 rfl rfl (Nat.le_of_ble_eq_true rfl) rfl d_Te_readTarget_13 (fun M_7 h_8 fr_9 => ?_)
  refine G_aload_n hC 2 rfl rfl d_Te_readTarget_16 ?_
  refine G_iload_n hC 3 rfl rfl d_Te_readTarget_17 ?_
  refine G_iload hC 4 rfl d_Te_readTarget_18 ?_
  have h_10 := h_B_o.fr fr_3 (by simp only [List.mem_cons, List.not_mem_nil, or_false, not_or, not_false_eq_true]; try omega) (by simp only [List.mem_cons, List.not_mem_nil, or_false, not_or, not_false_eq_true]; try omega)
  have h_11 := h_10.fr fr_6 (by simp only [List.mem_cons, List.not_mem_nil, or_false, not_or, not_false_eq_true]; try omega) (by simp only [List.mem_cons, List.not_mem_nil, or_false, not_or, not_false_eq_true]; try omega)
  have h_12 := h_11.fr fr_9 (by simp only [List.mem_cons, List.not_mem_nil, or_false, not_or, not_false_eq_true]; try omega) (by simp only [List.mem_cons, List.not_mem_nil, or_false, not_or, not_false_eq_true]; try omega)
  refine G_pS (rest := []) hC hR (c_Ma_isTarget h_12 (by omega) (by omega) rfl) cs_Te_84 (by decide) (by omega) (by omega) rfl rfl (Nat.le_of_ble_eq_true rfl) d_Te_readTarget_20 ?_
  exact G_zretX _ hC hQ (by omega) (by omega) d_Te_readTarget_23 rfl ⟨rfl, h_8, (((fr_3.up (T := [t]) (by simp)).tr' (T := [t]) fr_6 (fun _ z => z) (by simp)).tr' (T := [t]) fr_9 (fun _ z => z) (by simp))⟩

set_option maxHeartbeats 4000000 in
set_option maxRecDepth 100000 in
theorem c_Te_readBits {l : Launch} {D : Dg} {b0 : Nat} {M : Mp} {a : Nat} {o : Nat} {q : Int} {stop : Int} {t : Nat} {k0 : Int} {s0 : Int} {n0 : Int} {w0 : Int32} {f0 : Int} {o0 : Int} {tt : Nat} {lim : Int} {b : Bv} {P : Option Int} (h_obj_a : M a = some (t, .inr (cTe, [vI k0, vI s0, vI n0, .int w0, vI f0, vI o0]))) (h_B_o : IsB D M o tt lim b) (hq : -100000 ≤ q ∧ q ≤ 100000) (hst : -100000 ≤ stop ∧ stop ≤ 100000) (htt : tt ≠ t ∧ tt + 1 ≠ t) (hr : bitsS b.2 q stop = P) : Ok l D b0 2 y_Te_readBits b_Te_readBits 5 (some .boolean) M [.ref a, .ref o, vI q, vI stop] 0 0 (fun r M' => ∃ n1 : Int, r = some (vI (b2i P.isSome)) ∧ M' a = some (t, .inr (cTe, [vI k0, vI s0, vI n1, .int w0, vI f0, vI o0])) ∧ (∀ v, P = some v → n1 = v) ∧ Fr [t] M M') := by
  refine Ok_of rfl (Nat.le_of_ble_eq_true rfl) (fun E hC hQ hl hD hB hN hR => ?_)
  subst hl hD hB
  have hB9 := h_B_o.len
  unfold bitsS at hr
  show G E M 0 0 [(0, .ref a), (1, .ref o), (2, vI q), (3, vI stop)] [] 0
  refine G_iload_n hC 3 rfl rfl d_Te_readBits_0 ?_
  refine G_iload_n hC 2 rfl rfl d_Te_readBits_1 ?_
  refine G_icmp_le hC 12 (by omega) (by omega) (by decide) d_Te_readBits_2 (fun c_1 => ?_) (fun c_1 => ?_)
  · refine G_iconst (i := 0) hC d_Te_readBits_12 ?_
    exact G_zretX _ hC hQ (by omega) (by omega) d_Te_readBits_13 (b2i_f (by rw [if_pos (by omega)] at hr; rw [← hr]; rfl)) ⟨_, rfl, h_obj_a, (fun v hv => by rw [if_pos (by omega), hv] at hr; cases hr), Fr.rf⟩
  · refine G_iload_n hC 3 rfl rfl d_Te_readBits_5 ?_
    refine G_iload_n hC 2 rfl rfl d_Te_readBits_6 ?_
    refine G_isub hC d_Te_readBits_7 ?_
    refine G_iconst (i := 2) hC d_Te_readBits_8 ?_
    refine G_icmp_le hC 14 (by omega) (by decide) (by decide) d_Te_readBits_9 (fun c_2 => ?_) (fun c_2 => ?_)
    · refine G_aload_n hC 0 rfl rfl d_Te_readBits_14 ?_
      refine G_iconst (i := 0) hC d_Te_readBits_15 ?_
      refine G_putX (fs' := [vI k0, vI s0, vI 0, .int w0, vI f0, vI o0]) hC fl_Te_15 ft_Te fw_Te_2 h_obj_a rfl rfl (Nat.le_of_ble_eq_true rfl) rfl d_Te_readBits_16 (fun M_3 h_4 fr_5 => ?_)
      refine G_iload_n hC 2 rfl rfl d_Te_readBits_19 ?_
      refine G_istore (lv' := [(4, vI q), (0, .ref a), (1, .ref o), (2, vI q), (3, vI stop)]) hC (by rw [hN]; decide) rfl d_Te_readBits_20 ?_
      have L22 : ∀ (N : Nat) (M1 : Mp) (k : Int) (v : Int), (stop - k).toNat < N → (Fr [t] M_3 M1) → (M1 a = some (t, .inr (cTe, [vI k0, vI s0, vI v, .int w0, vI f0, vI o0]))) → (0 ≤ v ∧ (k = q ∧ v = 0 ∨ k = q + 1 ∧ v ≤ 9 ∨ k = q + 2 ∧ v ≤ 99) ∧ k ≤ stop) → (bitsL b.2 stop k v = P) → G E M1 0 0 [(0, .ref a), (1, .ref o), (2, vI q), (3, vI stop), (4, vI k)] [] 22 := by
        intro N
        induction N with
        | zero => intro M1 k v hN22 hfr ho hk hf; exact absurd hN22 (Nat.not_lt_zero _)
        | succ N ih22 =>
          intro M1 k v hN22 hfr ho hk hf
          refine G_iload hC 4 rfl d_Te_readBits_22 ?_
          refine G_iload_n hC 3 rfl rfl d_Te_readBits_24 ?_
          refine G_icmp_ge hC 69 (by omega) (by omega) (by decide) d_Te_readBits_25 (fun c_6 => ?_) (fun c_6 => ?_)
          · refine G_aload_n hC 0 rfl rfl d_Te_readBits_69 ?_
            refine G_get hC fl_Te_15 ho rfl d_Te_readBits_70 ?_
            refine G_bipush (j := 32) hC (by decide +kernel) d_Te_readBits_73 ?_
            refine G_icmp_gt hC 82 (by omega) (by decide) (by decide) d_Te_readBits_75 (fun c_7 => ?_) (fun c_7 => ?_)
            · refine G_iconst (i := 0) hC d_Te_readBits_82 ?_
              exact G_zretX _ hC hQ (by omega) (by omega) d_Te_readBits_83 (b2i_f (by rw [bitsL] at hf; (repeat' split at hf); all_goals first | (exfalso; omega) | (rw [← hf]; rfl))) ⟨_, rfl, ho, (fun v9 hv => by rw [hv, bitsL] at hf; (repeat' split at hf); all_goals first | (exfalso; omega) | cases hf), ((fr_5.up (T := [t]) (by simp)).tr' (T := [t]) hfr (fun _ z => z) (by simp))⟩
            · refine G_iconst (i := 1) hC d_Te_readBits_78 ?_
              refine G_goto hC 83 (by decide) d_Te_readBits_79 ?_
              exact G_zretX _ hC hQ (by omega) (by omega) d_Te_readBits_83 (b2i_t (by rw [bitsL] at hf; (repeat' split at hf); all_goals first | (exfalso; omega) | (rw [← hf]; rfl))) ⟨_, rfl, ho, (fun v9 hv => by rw [hv, bitsL] at hf; (repeat' split at hf); all_goals first | (exfalso; omega) | exact (Option.some.inj hf) | cases hf), ((fr_5.up (T := [t]) (by simp)).tr' (T := [t]) hfr (fun _ z => z) (by simp))⟩
          · refine G_aload_n hC 1 rfl rfl d_Te_readBits_28 ?_
            refine G_iload hC 4 rfl d_Te_readBits_29 ?_
            have h_8 := h_B_o.fr fr_5 (by simp only [List.mem_cons, List.not_mem_nil, or_false, not_or, not_false_eq_true]; try omega) (by simp only [List.mem_cons, List.not_mem_nil, or_false, not_or, not_false_eq_true]; try omega)
            have h_9 := h_8.fr hfr (by simp only [List.mem_cons, List.not_mem_nil, or_false, not_or, not_false_eq_true]; try omega) (by simp only [List.mem_cons, List.not_mem_nil, or_false, not_or, not_false_eq_true]; try omega)
            refine G_pV (rest := []) hC hR (c_By_at h_9 (by omega)) cv_Te_30 h_9.obj (by decide) (by omega) (by omega) rfl rfl (Nat.le_of_ble_eq_true rfl) d_Te_readBits_31 ?_
            have g_10 := h_9.at_rng k
            refine G_pS (rest := []) hC hR (c_Si_isDigit (by omega)) cs_Te_95 (by decide) (by omega) (by omega) rfl rfl (Nat.le_of_ble_eq_true rfl) d_Te_readBits_34 ?_
            refine G_if_ne hC 42 (by have := b2i_rng (decide (digP (atS b.2 k))); omega) (by decide) d_Te_readBits_37 (fun c_11 => ?_) (fun c_11 => ?_)
            · have c_11 := b2i_ne0.mp c_11
              have c_11 := of_decide_eq_true c_11
              refine G_aload_n hC 0 rfl rfl d_Te_readBits_42 ?_
              refine G_aload_n hC 0 rfl rfl d_Te_readBits_43 ?_
              refine G_get hC fl_Te_15 ho rfl d_Te_readBits_44 ?_
              refine G_bipush (j := 10) hC (by decide +kernel) d_Te_readBits_47 ?_
              refine G_imul hC d_Te_readBits_49 ?_
              refine G_aload_n hC 1 rfl rfl d_Te_readBits_50 ?_
              refine G_iload hC 4 rfl d_Te_readBits_51 ?_
              refine G_pV (rest := [vI (v * 10), .ref a]) hC hR (c_By_at h_9 (by omega)) cv_Te_30 h_9.obj (by decide) (by omega) (by omega) rfl rfl (Nat.le_of_ble_eq_true rfl) d_Te_readBits_53 ?_
              have g_12 := h_9.at_rng k
              refine G_iadd hC d_Te_readBits_56 ?_
              refine G_bipush (j := 48) hC (by decide +kernel) d_Te_readBits_57 ?_
              refine G_isub hC d_Te_readBits_59 ?_
              refine G_putX (fs' := [vI k0, vI s0, vI (((v * 10) + (atS b.2 k)) - 48), .int w0, vI f0, vI o0]) hC fl_Te_15 ft_Te fw_Te_2 ho rfl rfl (Nat.le_of_ble_eq_true rfl) rfl d_Te_readBits_60 (fun M_13 h_14 fr_15 => ?_)
              refine G_iinc (lv' := [(4, vI (k + 1)), (0, .ref a), (1, .ref o), (2, vI q), (3, vI stop)]) hC 4 rfl (by rw [hN]; decide) rfl d_Te_readBits_63 ?_
              refine G_goto hC 22 (by decide) d_Te_readBits_66 ?_
              refine G_lv [1, 2, 3, 4, 0] rfl ?_
              exact ih22 M_13 (k + 1) _ (by omega) ((hfr.up (T := [t]) (by simp)).tr' (T := [t]) fr_15 (fun _ z => z) (by simp)) h_14 (by omega) (by rw [bitsL] at hf; (repeat' split at hf); all_goals first | exact hf | (exfalso; omega))
            · have c_11 := b2i_eq0.mp c_11
              have c_11 := of_decide_eq_false c_11
              refine G_iconst (i := 0) hC d_Te_readBits_40 ?_
              exact G_zretX _ hC hQ (by omega) (by omega) d_Te_readBits_41 (b2i_f (by rw [bitsL] at hf; (repeat' split at hf); all_goals first | (exfalso; omega) | (rw [← hf]; rfl))) ⟨_, rfl, ho, (fun v9 hv => by rw [hv, bitsL] at hf; (repeat' split at hf); all_goals first | (exfalso; omega) | cases hf), ((fr_5.up (T := [t]) (by simp)).tr' (T := [t]) hfr (fun _ z => z) (by simp))⟩
      refine G_lv [1, 2, 3, 4, 0] rfl ?_
      exact L22 _ M_3 q _ (Nat.lt_succ_self _) Fr.rf h_4 (by omega) (by rw [if_neg (by omega)] at hr; exact hr)
    · refine G_iconst (i := 0) hC d_Te_readBits_12 ?_
      exact G_zretX _ hC hQ (by omega) (by omega) d_Te_readBits_13 (b2i_f (by rw [if_pos (by omega)] at hr; rw [← hr]; rfl)) ⟨_, rfl, h_obj_a, (fun v hv => by rw [if_pos (by omega), hv] at hr; cases hr), Fr.rf⟩

set_option maxHeartbeats 4000000 in
set_option maxRecDepth 100000 in
theorem c_Te_readFour {l : Launch} {D : Dg} {b0 : Nat} {M : Mp} {a : Nat} {o : Nat} {q : Int} {stop : Int} {t : Nat} {k0 : Int} {s0 : Int} {n0 : Int} {w0 : Int32} {f0 : Int} {o0 : Int} {tt : Nat} {lim : Int} {b : Bv} {P : Option Int32} (h_obj_a : M a = some (t, .inr (cTe, [vI k0, vI s0, vI n0, .int w0, vI f0, vI o0]))) (h_B_o : IsB D M o tt lim b) (hq : -100000 ≤ q ∧ q ≤ 100000) (hst : -100000 ≤ stop ∧ stop ≤ 100000) (htt : tt ≠ t ∧ tt + 1 ≠ t) (hr : quadL b.2 stop q 0 0 0 0 = P) : Ok l D b0 2 y_Te_readFour b_Te_readFour 9 (some .boolean) M [.ref a, .ref o, vI q, vI stop] 0 0 (fun r M' => ∃ w1 : Int32, r = some (vI (b2i P.isSome)) ∧ M' a = some (t, .inr (cTe, [vI k0, vI s0, vI n0, .int w1, vI f0, vI o0])) ∧ (∀ v, P = some v → w1 = v) ∧ Fr [t] M M') := by
  refine Ok_of rfl (Nat.le_of_ble_eq_true rfl) (fun E hC hQ hl hD hB hN hR => ?_)
  subst hl hD hB
  have hB9 := h_B_o.len
  show G E M 0 0 [(0, .ref a), (1, .ref o), (2, vI q), (3, vI stop)] [] 0
  refine G_iconst (i := 0) hC d_Te_readFour_0 ?_
  refine G_istore (lv' := [(4, vI 0), (0, .ref a), (1, .ref o), (2, vI q), (3, vI stop)]) hC (by rw [hN]; decide) rfl d_Te_readFour_1 ?_
  refine G_iconst (i := 0) hC d_Te_readFour_3 ?_
  refine G_istore (lv' := [(5, vI 0), (4, vI 0), (0, .ref a), (1, .ref o), (2, vI q), (3, vI stop)]) hC (by rw [hN]; decide) rfl d_Te_readFour_4 ?_
  refine G_iconst (i := 0) hC d_Te_readFour_6 ?_
  refine G_istore (lv' := [(6, vI 0), (5, vI 0), (4, vI 0), (0, .ref a), (1, .ref o), (2, vI q), (3, vI stop)]) hC (by rw [hN]; decide) rfl d_Te_readFour_7 ?_
  refine G_aload_n hC 3 rfl rfl d_Te_readFour_9 ?_
  refine G_iconst (i := 0) hC d_Te_readFour_10 ?_
  refine G_putX (fs' := [vI k0, vI s0, vI n0, vI 0, vI f0, vI o0]) hC fl_Te_18 ft_Te fw_Te_3 h_obj_a rfl rfl (Nat.le_of_ble_eq_true rfl) rfl d_Te_readFour_11 (fun M_1 h_2 fr_3 => ?_)
  refine G_iload_n hC 5 rfl rfl d_Te_readFour_14 ?_
  refine G_istore (lv' := [(7, vI q), (6, vI 0), (5, vI 0), (4, vI 0), (0, .ref a), (1, .ref o), (2, vI q), (3, vI stop)]) hC (by rw [hN]; decide) rfl d_Te_readFour_15 ?_
  have L17 : ∀ (N : Nat) (M1 : Mp) (dots : Int) (digits : Int) (number : Int) (k : Int) (net : Int32), (stop - k).toNat < N → (Fr [t] M_1 M1) → (M1 a = some (t, .inr (cTe, [vI k0, vI s0, vI n0, .int net, vI f0, vI o0]))) → (q ≤ k ∧ (k ≤ stop ∨ k = q) ∧ 0 ≤ dots ∧ dots ≤ 3 ∧ 0 ≤ digits ∧ digits ≤ 3 ∧ 0 ≤ number ∧ number ≤ 255) → (quadL b.2 stop k dots digits number net = P) → G E M1 0 0 [(0, .ref a), (1, .ref o), (2, vI q), (3, vI stop), (4, vI dots), (5, vI digits), (6, vI number), (7, vI k)] [] 17 := by
    intro N
    induction N with
    | zero => intro M1 dots digits number k net hN17 hfr ho hk hf; exact absurd hN17 (Nat.not_lt_zero _)
    | succ N ih17 =>
      intro M1 dots digits number k net hN17 hfr ho hk hf
      refine G_iload hC 7 rfl d_Te_readFour_17 ?_
      refine G_iload_n hC 3 rfl rfl d_Te_readFour_19 ?_
      refine G_icmp_ge hC 126 (by omega) (by omega) (by decide) d_Te_readFour_20 (fun c_4 => ?_) (fun c_4 => ?_)
      · refine G_aload_n hC 0 rfl rfl d_Te_readFour_126 ?_
        refine G_aload_n hC 0 rfl rfl d_Te_readFour_127 ?_
        refine G_get hC fl_Te_18 ho rfl d_Te_readFour_128 ?_
        refine G_bipush (j := 8) hC (by decide +kernel) d_Te_readFour_131 ?_
        refine G_ishl hC rfl d_Te_readFour_133 ?_
        refine G_iload hC 6 rfl d_Te_readFour_134 ?_
        refine G_ior hC rfl d_Te_readFour_136 ?_
        refine G_putX (fs' := [vI k0, vI s0, vI n0, .int ((net <<< (zI 8 &&& 31)) ||| (zI number)), vI f0, vI o0]) hC fl_Te_18 ft_Te fw_Te_3 ho rfl rfl (Nat.le_of_ble_eq_true rfl) rfl d_Te_readFour_137 (fun M_5 h_6 fr_7 => ?_)
        refine G_iload hC 4 rfl d_Te_readFour_140 ?_
        refine G_iconst (i := 3) hC d_Te_readFour_142 ?_
        refine G_icmp_ne hC 155 (by omega) (by decide) (by decide) d_Te_readFour_143 (fun c_8 => ?_) (fun c_8 => ?_)
        · refine G_iconst (i := 0) hC d_Te_readFour_155 ?_
          exact G_zretX _ hC hQ (by omega) (by omega) d_Te_readFour_156 (b2i_f (by rw [quadL] at hf; (repeat' split at hf); all_goals first | (exfalso; omega) | (rw [← hf]; rfl))) ⟨_, rfl, h_6, (fun v9 hv => by rw [hv, quadL] at hf; (repeat' split at hf); all_goals first | (exfalso; omega) | exact (Option.some.inj hf) | cases hf), (((fr_3.up (T := [t]) (by simp)).tr' (T := [t]) hfr (fun _ z => z) (by simp)).tr' (T := [t]) fr_7 (fun _ z => z) (by simp))⟩
        · refine G_iload hC 5 rfl d_Te_readFour_146 ?_
          refine G_if_le hC 155 (by omega) (by decide) d_Te_readFour_148 (fun c_9 => ?_) (fun c_9 => ?_)
          · refine G_iconst (i := 0) hC d_Te_readFour_155 ?_
            exact G_zretX _ hC hQ (by omega) (by omega) d_Te_readFour_156 (b2i_f (by rw [quadL] at hf; (repeat' split at hf); all_goals first | (exfalso; omega) | (rw [← hf]; rfl))) ⟨_, rfl, h_6, (fun v9 hv => by rw [hv, quadL] at hf; (repeat' split at hf); all_goals first | (exfalso; omega) | exact (Option.some.inj hf) | cases hf), (((fr_3.up (T := [t]) (by simp)).tr' (T := [t]) hfr (fun _ z => z) (by simp)).tr' (T := [t]) fr_7 (fun _ z => z) (by simp))⟩
          · refine G_iconst (i := 1) hC d_Te_readFour_151 ?_
            refine G_goto hC 156 (by decide) d_Te_readFour_152 ?_
            exact G_zretX _ hC hQ (by omega) (by omega) d_Te_readFour_156 (b2i_t (by rw [quadL] at hf; (repeat' split at hf); all_goals first | (exfalso; omega) | (rw [← hf]; rfl))) ⟨_, rfl, h_6, (fun v9 hv => by rw [hv, quadL] at hf; (repeat' split at hf); all_goals first | (exfalso; omega) | exact (Option.some.inj hf) | cases hf), (((fr_3.up (T := [t]) (by simp)).tr' (T := [t]) hfr (fun _ z => z) (by simp)).tr' (T := [t]) fr_7 (fun _ z => z) (by simp))⟩
      · refine G_aload_n hC 1 rfl rfl d_Te_readFour_23 ?_
        refine G_iload hC 7 rfl d_Te_readFour_24 ?_
        have h_10 := h_B_o.fr fr_3 (by simp only [List.mem_cons, List.not_mem_nil, or_false, not_or, not_false_eq_true]; try omega) (by simp only [List.mem_cons, List.not_mem_nil, or_false, not_or, not_false_eq_true]; try omega)
        have h_11 := h_10.fr hfr (by simp only [List.mem_cons, List.not_mem_nil, or_false, not_or, not_false_eq_true]; try omega) (by simp only [List.mem_cons, List.not_mem_nil, or_false, not_or, not_false_eq_true]; try omega)
        refine G_pV (rest := []) hC hR (c_By_at h_11 (by omega)) cv_Te_30 h_11.obj (by decide) (by omega) (by omega) rfl rfl (Nat.le_of_ble_eq_true rfl) d_Te_readFour_26 ?_
        have g_12 := h_11.at_rng k
        refine G_istore (lv' := [(8, vI (atS b.2 k)), (0, .ref a), (1, .ref o), (2, vI q), (3, vI stop), (4, vI dots), (5, vI digits), (6, vI number), (7, vI k)]) hC (by rw [hN]; decide) rfl d_Te_readFour_29 ?_
        refine G_iload hC 0 rfl d_Te_readFour_31 ?_
        refine G_pS (rest := []) hC hR (c_Si_isDigit (by omega)) cs_Te_95 (by decide) (by omega) (by omega) rfl rfl (Nat.le_of_ble_eq_true rfl) d_Te_readFour_33 ?_
        refine G_if_eq hC 64 (by have := b2i_rng (decide (digP (atS b.2 k))); omega) (by decide) d_Te_readFour_36 (fun c_13 => ?_) (fun c_13 => ?_)
        · have c_13 := b2i_eq0.mp c_13
          have c_13 := of_decide_eq_false c_13
          refine G_iload hC 0 rfl d_Te_readFour_64 ?_
          refine G_bipush (j := 46) hC (by decide +kernel) d_Te_readFour_66 ?_
          refine G_icmp_ne hC 108 (by omega) (by decide) (by decide) d_Te_readFour_68 (fun c_14 => ?_) (fun c_14 => ?_)
          · refine G_iconst (i := 0) hC d_Te_readFour_108 ?_
            exact G_zretX _ hC hQ (by omega) (by omega) d_Te_readFour_109 (b2i_f (by rw [quadL] at hf; (repeat' split at hf); all_goals first | (exfalso; omega) | (rw [← hf]; rfl))) ⟨_, rfl, ho, (fun v9 hv => by rw [hv, quadL] at hf; (repeat' split at hf); all_goals first | (exfalso; omega) | exact (Option.some.inj hf) | cases hf), ((fr_3.up (T := [t]) (by simp)).tr' (T := [t]) hfr (fun _ z => z) (by simp))⟩
          · refine G_iload hC 6 rfl d_Te_readFour_71 ?_
            refine G_if_le hC 108 (by omega) (by decide) d_Te_readFour_73 (fun c_15 => ?_) (fun c_15 => ?_)
            · refine G_iconst (i := 0) hC d_Te_readFour_108 ?_
              exact G_zretX _ hC hQ (by omega) (by omega) d_Te_readFour_109 (b2i_f (by rw [quadL] at hf; (repeat' split at hf); all_goals first | (exfalso; omega) | (rw [← hf]; rfl))) ⟨_, rfl, ho, (fun v9 hv => by rw [hv, quadL] at hf; (repeat' split at hf); all_goals first | (exfalso; omega) | exact (Option.some.inj hf) | cases hf), ((fr_3.up (T := [t]) (by simp)).tr' (T := [t]) hfr (fun _ z => z) (by simp))⟩
            · refine G_iload hC 5 rfl d_Te_readFour_76 ?_
              refine G_iconst (i := 3) hC d_Te_readFour_78 ?_
              refine G_icmp_ge hC 108 (by omega) (by decide) (by decide) d_Te_readFour_79 (fun c_16 => ?_) (fun c_16 => ?_)
              · refine G_iconst (i := 0) hC d_Te_readFour_108 ?_
                exact G_zretX _ hC hQ (by omega) (by omega) d_Te_readFour_109 (b2i_f (by rw [quadL] at hf; (repeat' split at hf); all_goals first | (exfalso; omega) | (rw [← hf]; rfl))) ⟨_, rfl, ho, (fun v9 hv => by rw [hv, quadL] at hf; (repeat' split at hf); all_goals first | (exfalso; omega) | exact (Option.some.inj hf) | cases hf), ((fr_3.up (T := [t]) (by simp)).tr' (T := [t]) hfr (fun _ z => z) (by simp))⟩
              · refine G_aload_n hC 1 rfl rfl d_Te_readFour_82 ?_
                refine G_aload_n hC 1 rfl rfl d_Te_readFour_83 ?_
                refine G_get hC fl_Te_18 ho rfl d_Te_readFour_84 ?_
                refine G_bipush (j := 8) hC (by decide +kernel) d_Te_readFour_87 ?_
                refine G_ishl hC rfl d_Te_readFour_89 ?_
                refine G_iload hC 7 rfl d_Te_readFour_90 ?_
                refine G_ior hC rfl d_Te_readFour_92 ?_
                refine G_putX (fs' := [vI k0, vI s0, vI n0, .int ((net <<< (zI 8 &&& 31)) ||| (zI number)), vI f0, vI o0]) hC fl_Te_18 ft_Te fw_Te_3 ho rfl rfl (Nat.le_of_ble_eq_true rfl) rfl d_Te_readFour_93 (fun M_17 h_18 fr_19 => ?_)
                refine G_iinc (lv' := [(4, vI (dots + 1)), (8, vI (atS b.2 k)), (0, .ref a), (1, .ref o), (2, vI q), (3, vI stop), (5, vI digits), (6, vI number), (7, vI k)]) hC 5 rfl (by rw [hN]; decide) rfl d_Te_readFour_96 ?_
                refine G_iconst (i := 0) hC d_Te_readFour_99 ?_
                refine G_istore (lv' := [(5, vI 0), (4, vI (dots + 1)), (8, vI (atS b.2 k)), (0, .ref a), (1, .ref o), (2, vI q), (3, vI stop), (6, vI number), (7, vI k)]) hC (by rw [hN]; decide) rfl d_Te_readFour_100 ?_
                refine G_iconst (i := 0) hC d_Te_readFour_102 ?_
                refine G_istore (lv' := [(6, vI 0), (5, vI 0), (4, vI (dots + 1)), (8, vI (atS b.2 k)), (0, .ref a), (1, .ref o), (2, vI q), (3, vI stop), (7, vI k)]) hC (by rw [hN]; decide) rfl d_Te_readFour_103 ?_
                refine G_goto hC 110 (by decide) d_Te_readFour_105 ?_
                refine G_iload hC 0 rfl d_Te_readFour_110 ?_
                refine G_sipush (j := 255) hC (by decide +kernel) d_Te_readFour_112 ?_
                refine G_icmp_le hC 120 (by decide) (by decide) (by decide) d_Te_readFour_115 (fun c_20 => ?_) (fun c_20 => ?_)
                · refine G_iinc (lv' := [(7, vI (k + 1)), (6, vI 0), (5, vI 0), (4, vI (dots + 1)), (8, vI (atS b.2 k)), (0, .ref a), (1, .ref o), (2, vI q), (3, vI stop)]) hC 8 rfl (by rw [hN]; decide) rfl d_Te_readFour_120 ?_
                  refine G_goto hC 17 (by decide) d_Te_readFour_123 ?_
                  refine G_lv [5, 6, 7, 8, 3, 2, 1, 0] rfl ?_
                  exact ih17 M_17 (dots + 1) 0 0 (k + 1) _ (by omega) ((hfr.up (T := [t]) (by simp)).tr' (T := [t]) fr_19 (fun _ z => z) (by simp)) h_18 (by omega) (by rw [quadL] at hf; (repeat' split at hf); all_goals first | exact hf | (exfalso; omega))
                · refine G_iconst (i := 0) hC d_Te_readFour_118 ?_
                  exact G_zretX _ hC hQ (by omega) (by omega) d_Te_readFour_119 (b2i_f (by rw [quadL] at hf; (repeat' split at hf); all_goals first | (exfalso; omega) | (rw [← hf]; rfl))) ⟨_, rfl, h_18, (fun v9 hv => by rw [hv, quadL] at hf; (repeat' split at hf); all_goals first | (exfalso; omega) | exact (Option.some.inj hf) | cases hf), (((fr_3.up (T := [t]) (by simp)).tr' (T := [t]) hfr (fun _ z => z) (by simp)).tr' (T := [t]) fr_19 (fun _ z => z) (by simp))⟩
        · have c_13 := b2i_ne0.mp c_13
          have c_13 := of_decide_eq_true c_13
          refine G_iload hC 6 rfl d_Te_readFour_39 ?_
          refine G_iconst (i := 3) hC d_Te_readFour_41 ?_
          refine G_icmp_ge hC 64 (by omega) (by decide) (by decide) d_Te_readFour_42 (fun c_21 => ?_) (fun c_21 => ?_)
          · refine G_iload hC 0 rfl d_Te_readFour_64 ?_
            refine G_bipush (j := 46) hC (by decide +kernel) d_Te_readFour_66 ?_
            refine G_icmp_ne hC 108 (by omega) (by decide) (by decide) d_Te_readFour_68 (fun c_22 => ?_) (fun c_22 => ?_)
            · refine G_iconst (i := 0) hC d_Te_readFour_108 ?_
              exact G_zretX _ hC hQ (by omega) (by omega) d_Te_readFour_109 (b2i_f (by rw [quadL] at hf; (repeat' split at hf); all_goals first | (exfalso; omega) | (rw [← hf]; rfl))) ⟨_, rfl, ho, (fun v9 hv => by rw [hv, quadL] at hf; (repeat' split at hf); all_goals first | (exfalso; omega) | exact (Option.some.inj hf) | cases hf), ((fr_3.up (T := [t]) (by simp)).tr' (T := [t]) hfr (fun _ z => z) (by simp))⟩
            · refine G_iload hC 6 rfl d_Te_readFour_71 ?_
              refine G_if_le hC 108 (by omega) (by decide) d_Te_readFour_73 (fun c_23 => ?_) (fun c_23 => ?_)
              · refine G_iconst (i := 0) hC d_Te_readFour_108 ?_
                exact G_zretX _ hC hQ (by omega) (by omega) d_Te_readFour_109 (b2i_f (by rw [quadL] at hf; (repeat' split at hf); all_goals first | (exfalso; omega) | (rw [← hf]; rfl))) ⟨_, rfl, ho, (fun v9 hv => by rw [hv, quadL] at hf; (repeat' split at hf); all_goals first | (exfalso; omega) | exact (Option.some.inj hf) | cases hf), ((fr_3.up (T := [t]) (by simp)).tr' (T := [t]) hfr (fun _ z => z) (by simp))⟩
              · refine G_iload hC 5 rfl d_Te_readFour_76 ?_
                refine G_iconst (i := 3) hC d_Te_readFour_78 ?_
                refine G_icmp_ge hC 108 (by omega) (by decide) (by decide) d_Te_readFour_79 (fun c_24 => ?_) (fun c_24 => ?_)
                · refine G_iconst (i := 0) hC d_Te_readFour_108 ?_
                  exact G_zretX _ hC hQ (by omega) (by omega) d_Te_readFour_109 (b2i_f (by rw [quadL] at hf; (repeat' split at hf); all_goals first | (exfalso; omega) | (rw [← hf]; rfl))) ⟨_, rfl, ho, (fun v9 hv => by rw [hv, quadL] at hf; (repeat' split at hf); all_goals first | (exfalso; omega) | exact (Option.some.inj hf) | cases hf), ((fr_3.up (T := [t]) (by simp)).tr' (T := [t]) hfr (fun _ z => z) (by simp))⟩
                · refine G_aload_n hC 1 rfl rfl d_Te_readFour_82 ?_
                  refine G_aload_n hC 1 rfl rfl d_Te_readFour_83 ?_
                  refine G_get hC fl_Te_18 ho rfl d_Te_readFour_84 ?_
                  refine G_bipush (j := 8) hC (by decide +kernel) d_Te_readFour_87 ?_
                  refine G_ishl hC rfl d_Te_readFour_89 ?_
                  refine G_iload hC 7 rfl d_Te_readFour_90 ?_
                  refine G_ior hC rfl d_Te_readFour_92 ?_
                  refine G_putX (fs' := [vI k0, vI s0, vI n0, .int ((net <<< (zI 8 &&& 31)) ||| (zI number)), vI f0, vI o0]) hC fl_Te_18 ft_Te fw_Te_3 ho rfl rfl (Nat.le_of_ble_eq_true rfl) rfl d_Te_readFour_93 (fun M_25 h_26 fr_27 => ?_)
                  refine G_iinc (lv' := [(4, vI (dots + 1)), (8, vI (atS b.2 k)), (0, .ref a), (1, .ref o), (2, vI q), (3, vI stop), (5, vI digits), (6, vI number), (7, vI k)]) hC 5 rfl (by rw [hN]; decide) rfl d_Te_readFour_96 ?_
                  refine G_iconst (i := 0) hC d_Te_readFour_99 ?_
                  refine G_istore (lv' := [(5, vI 0), (4, vI (dots + 1)), (8, vI (atS b.2 k)), (0, .ref a), (1, .ref o), (2, vI q), (3, vI stop), (6, vI number), (7, vI k)]) hC (by rw [hN]; decide) rfl d_Te_readFour_100 ?_
                  refine G_iconst (i := 0) hC d_Te_readFour_102 ?_
                  refine G_istore (lv' := [(6, vI 0), (5, vI 0), (4, vI (dots + 1)), (8, vI (atS b.2 k)), (0, .ref a), (1, .ref o), (2, vI q), (3, vI stop), (7, vI k)]) hC (by rw [hN]; decide) rfl d_Te_readFour_103 ?_
                  refine G_goto hC 110 (by decide) d_Te_readFour_105 ?_
                  refine G_iload hC 0 rfl d_Te_readFour_110 ?_
                  refine G_sipush (j := 255) hC (by decide +kernel) d_Te_readFour_112 ?_
                  refine G_icmp_le hC 120 (by decide) (by decide) (by decide) d_Te_readFour_115 (fun c_28 => ?_) (fun c_28 => ?_)
                  · refine G_iinc (lv' := [(7, vI (k + 1)), (6, vI 0), (5, vI 0), (4, vI (dots + 1)), (8, vI (atS b.2 k)), (0, .ref a), (1, .ref o), (2, vI q), (3, vI stop)]) hC 8 rfl (by rw [hN]; decide) rfl d_Te_readFour_120 ?_
                    refine G_goto hC 17 (by decide) d_Te_readFour_123 ?_
                    refine G_lv [5, 6, 7, 8, 3, 2, 1, 0] rfl ?_
                    exact ih17 M_25 (dots + 1) 0 0 (k + 1) _ (by omega) ((hfr.up (T := [t]) (by simp)).tr' (T := [t]) fr_27 (fun _ z => z) (by simp)) h_26 (by omega) (by rw [quadL] at hf; (repeat' split at hf); all_goals first | exact hf | (exfalso; omega))
                  · refine G_iconst (i := 0) hC d_Te_readFour_118 ?_
                    exact G_zretX _ hC hQ (by omega) (by omega) d_Te_readFour_119 (b2i_f (by rw [quadL] at hf; (repeat' split at hf); all_goals first | (exfalso; omega) | (rw [← hf]; rfl))) ⟨_, rfl, h_26, (fun v9 hv => by rw [hv, quadL] at hf; (repeat' split at hf); all_goals first | (exfalso; omega) | exact (Option.some.inj hf) | cases hf), (((fr_3.up (T := [t]) (by simp)).tr' (T := [t]) hfr (fun _ z => z) (by simp)).tr' (T := [t]) fr_27 (fun _ z => z) (by simp))⟩
          · refine G_iinc (lv' := [(5, vI (digits + 1)), (8, vI (atS b.2 k)), (0, .ref a), (1, .ref o), (2, vI q), (3, vI stop), (4, vI dots), (6, vI number), (7, vI k)]) hC 6 rfl (by rw [hN]; decide) rfl d_Te_readFour_45 ?_
            refine G_iload hC 7 rfl d_Te_readFour_48 ?_
            refine G_bipush (j := 10) hC (by decide +kernel) d_Te_readFour_50 ?_
            refine G_imul hC d_Te_readFour_52 ?_
            refine G_iload hC 1 rfl d_Te_readFour_53 ?_
            refine G_iadd hC d_Te_readFour_55 ?_
            refine G_bipush (j := 48) hC (by decide +kernel) d_Te_readFour_56 ?_
            refine G_isub hC d_Te_readFour_58 ?_
            refine G_istore (lv' := [(6, vI (((number * 10) + (atS b.2 k)) - 48)), (5, vI (digits + 1)), (8, vI (atS b.2 k)), (0, .ref a), (1, .ref o), (2, vI q), (3, vI stop), (4, vI dots), (7, vI k)]) hC (by rw [hN]; decide) rfl d_Te_readFour_59 ?_
            refine G_goto hC 110 (by decide) d_Te_readFour_61 ?_
            refine G_iload hC 0 rfl d_Te_readFour_110 ?_
            refine G_sipush (j := 255) hC (by decide +kernel) d_Te_readFour_112 ?_
            refine G_icmp_le hC 120 (by omega) (by decide) (by decide) d_Te_readFour_115 (fun c_29 => ?_) (fun c_29 => ?_)
            · refine G_iinc (lv' := [(7, vI (k + 1)), (6, vI (((number * 10) + (atS b.2 k)) - 48)), (5, vI (digits + 1)), (8, vI (atS b.2 k)), (0, .ref a), (1, .ref o), (2, vI q), (3, vI stop), (4, vI dots)]) hC 8 rfl (by rw [hN]; decide) rfl d_Te_readFour_120 ?_
              refine G_goto hC 17 (by decide) d_Te_readFour_123 ?_
              refine G_lv [4, 5, 6, 7, 8, 2, 1, 0] rfl ?_
              exact ih17 M1 dots (digits + 1) (((number * 10) + (atS b.2 k)) - 48) (k + 1) _ (by omega) (hfr.up (T := [t]) (by simp)) ho (by omega) (by rw [quadL] at hf; (repeat' split at hf); all_goals first | exact hf | (exfalso; omega))
            · refine G_iconst (i := 0) hC d_Te_readFour_118 ?_
              exact G_zretX _ hC hQ (by omega) (by omega) d_Te_readFour_119 (b2i_f (by rw [quadL] at hf; (repeat' split at hf); all_goals first | (exfalso; omega) | (rw [← hf]; rfl))) ⟨_, rfl, ho, (fun v9 hv => by rw [hv, quadL] at hf; (repeat' split at hf); all_goals first | (exfalso; omega) | exact (Option.some.inj hf) | cases hf), ((fr_3.up (T := [t]) (by simp)).tr' (T := [t]) hfr (fun _ z => z) (by simp))⟩
  refine G_lv [4, 5, 6, 7, 3, 2, 1, 0] rfl ?_
  exact L17 _ M_1 0 0 0 q _ (Nat.lt_succ_self _) Fr.rf h_2 (by omega) hr

set_option maxHeartbeats 4000000 in
set_option maxRecDepth 100000 in
theorem c_Te_readNetwork {l : Launch} {D : Dg} {b0 : Nat} {M : Mp} {a : Nat} {o : Nat} {q : Int} {stop : Int} {t : Nat} {k0 : Int} {s0 : Int} {n0 : Int} {w0 : Int32} {f0 : Int} {o0 : Int} {tt : Nat} {lim : Int} {b : Bv} {P : Option Tm} (h_obj_a : M a = some (t, .inr (cTe, [vI k0, vI s0, vI n0, .int w0, vI f0, vI o0]))) (h_B_o : IsB D M o tt lim b) (hq : -100000 ≤ q ∧ q ≤ 100000) (hst : -100000 ≤ stop ∧ stop ≤ 100000) (htt : tt ≠ t ∧ tt + 1 ≠ t) (hn0 : n0 = 32) (hr : ip4S b.2 q stop = P) : Ok l D b0 3 y_Te_readNetwork b_Te_readNetwork 5 (some .boolean) M [.ref a, .ref o, vI q, vI stop] 0 0 (fun r M' => ∃ n1 : Int, ∃ w1 : Int32, r = some (vI (b2i P.isSome)) ∧ M' a = some (t, .inr (cTe, [vI 4, vI s0, vI n1, .int w1, vI f0, vI o0])) ∧ (∀ tm, P = some tm → fld tm 4 n1 w1 f0 o0) ∧ Fr [t] M M') := by
  refine Ok_of rfl (Nat.le_of_ble_eq_true rfl) (fun E hC hQ hl hD hB hN hR => ?_)
  subst hl hD hB
  have hB9 := h_B_o.len
  show G E M 0 0 [(0, .ref a), (1, .ref o), (2, vI q), (3, vI stop)] [] 0
  refine G_aload_n hC 0 rfl rfl d_Te_readNetwork_0 ?_
  refine G_iconst (i := 4) hC d_Te_readNetwork_1 ?_
  refine G_putX (fs' := [vI 4, vI s0, vI n0, .int w0, vI f0, vI o0]) hC fl_Te_9 ft_Te fw_Te_0 h_obj_a rfl rfl (Nat.le_of_ble_eq_true rfl) rfl d_Te_readNetwork_2 (fun M_1 h_2 fr_3 => ?_)
  refine G_aload_n hC 1 rfl rfl d_Te_readNetwork_5 ?_
  refine G_bipush (j := 47) hC (by decide +kernel) d_Te_readNetwork_6 ?_
  refine G_iload_n hC 2 rfl rfl d_Te_readNetwork_8 ?_
  refine G_iload_n hC 3 rfl rfl d_Te_readNetwork_9 ?_
  have h_4 := h_B_o.fr fr_3 (by simp only [List.mem_cons, List.not_mem_nil, or_false, not_or, not_false_eq_true]; try omega) (by simp only [List.mem_cons, List.not_mem_nil, or_false, not_or, not_false_eq_true]; try omega)
  refine G_pV (rest := []) hC hR (c_By_find h_4 (by omega) (by omega) (by omega) rfl) cv_Te_40 h_4.obj (by decide) (by omega) (by omega) rfl rfl (Nat.le_of_ble_eq_true rfl) d_Te_readNetwork_10 ?_
  have g_5 := findS_rng b.2 47 q stop
  refine G_istore (lv' := [(4, vI (findS b.2 47 q stop)), (0, .ref a), (1, .ref o), (2, vI q), (3, vI stop)]) hC (by rw [hN]; decide) rfl d_Te_readNetwork_13 ?_
  refine G_aload_n hC 1 rfl rfl d_Te_readNetwork_15 ?_
  refine G_aload_n hC 2 rfl rfl d_Te_readNetwork_16 ?_
  refine G_iload_n hC 3 rfl rfl d_Te_readNetwork_17 ?_
  refine G_iload hC 0 rfl d_Te_readNetwork_18 ?_
  refine G_xV (rest := []) hC hR (c_Te_readFour h_2 h_4 (by omega) (by omega) (by omega) rfl) cv_Te_92 ⟨_, _, h_2⟩ (by decide) (by omega) (by omega) rfl rfl (Nat.le_of_ble_eq_true rfl) d_Te_readNetwork_20 (fun r_8 M_6 p_7 => ?_)
  obtain ⟨w1_9, rfl, h_10, h_11, fr_12⟩ := p_7
  show G E M_6 (0 + 0) (0 + 0) [(4, vI (findS b.2 47 q stop)), (0, .ref a), (1, .ref o), (2, vI q), (3, vI stop)] [vI (b2i (quadL b.2 (findS b.2 47 q stop) q 0 0 0 0).isSome)] 23
  refine G_if_eq hC 49 (by have := b2i_rng ((quadL b.2 (findS b.2 47 q stop) q 0 0 0 0).isSome); omega) (by decide) d_Te_readNetwork_23 (fun c_13 => ?_) (fun c_13 => ?_)
  · have c_13 := b2i_eq0.mp c_13
    refine G_iconst (i := 0) hC d_Te_readNetwork_49 ?_
    have hP : P = none := by rw [← hr, ip4_f1 (isS_f c_13)]
    exact G_zretX _ hC hQ (by omega) (by omega) d_Te_readNetwork_50 (b2i_f (by rw [hP]; rfl)) ⟨_, _, rfl, h_10, (fun tm htm => by rw [hP] at htm; cases htm), ((fr_3.up (T := [t]) (by simp)).tr' (T := [t]) fr_12 (fun _ z => z) (by simp))⟩
  · have c_13 := b2i_ne0.mp c_13
    refine G_iload hC 0 rfl d_Te_readNetwork_26 ?_
    refine G_iload_n hC 4 rfl rfl d_Te_readNetwork_28 ?_
    refine G_icmp_eq hC 45 (by omega) (by omega) (by decide) d_Te_readNetwork_29 (fun c_14 => ?_) (fun c_14 => ?_)
    · refine G_iconst (i := 1) hC d_Te_readNetwork_45 ?_
      refine G_goto hC 50 (by decide) d_Te_readNetwork_46 ?_
      obtain ⟨v1, hv1⟩ := isS_t c_13
      have hP : P = some (4, 32, v1, none) := by rw [← hr, ip4_s1 hv1 c_14]
      exact G_zretX _ hC hQ (by omega) (by omega) d_Te_readNetwork_50 (b2i_t (by rw [hP]; rfl)) ⟨_, _, rfl, h_10, (fun tm htm => by rw [hP] at htm; cases htm; exact ⟨rfl, fun _ => hn0, fun _ => h_11 _ hv1, (fun d hd => by cases hd), (fun _ z => absurd z (by show ¬ ((4 : Int) = 2 ∨ (4 : Int) = 3); decide))⟩), ((fr_3.up (T := [t]) (by simp)).tr' (T := [t]) fr_12 (fun _ z => z) (by simp))⟩
    · refine G_aload_n hC 1 rfl rfl d_Te_readNetwork_32 ?_
      refine G_aload_n hC 2 rfl rfl d_Te_readNetwork_33 ?_
      refine G_iload hC 0 rfl d_Te_readNetwork_34 ?_
      refine G_iconst (i := 1) hC d_Te_readNetwork_36 ?_
      refine G_iadd hC d_Te_readNetwork_37 ?_
      refine G_iload_n hC 4 rfl rfl d_Te_readNetwork_38 ?_
      have h_15 := h_4.fr fr_12 (by simp only [List.mem_cons, List.not_mem_nil, or_false, not_or, not_false_eq_true]; try omega) (by simp only [List.mem_cons, List.not_mem_nil, or_false, not_or, not_false_eq_true]; try omega)
      refine G_xV (rest := []) hC hR (c_Te_readBits h_10 h_15 (by omega) (by omega) (by omega) rfl) cv_Te_89 ⟨_, _, h_10⟩ (by decide) (by omega) (by omega) rfl rfl (Nat.le_of_ble_eq_true rfl) d_Te_readNetwork_39 (fun r_18 M_16 p_17 => ?_)
      obtain ⟨n1_19, rfl, h_20, h_21, fr_22⟩ := p_17
      show G E M_16 (0 + 0 + 0) (0 + 0 + 0) [(4, vI (findS b.2 47 q stop)), (0, .ref a), (1, .ref o), (2, vI q), (3, vI stop)] [vI (b2i (bitsS b.2 ((findS b.2 47 q stop) + 1) stop).isSome)] 42
      refine G_if_eq hC 49 (by have := b2i_rng ((bitsS b.2 ((findS b.2 47 q stop) + 1) stop).isSome); omega) (by decide) d_Te_readNetwork_42 (fun c_23 => ?_) (fun c_23 => ?_)
      · have c_23 := b2i_eq0.mp c_23
        refine G_iconst (i := 0) hC d_Te_readNetwork_49 ?_
        have hP : P = none := by rw [← hr, ip4_f2 c_14 (isS_f c_23)]
        exact G_zretX _ hC hQ (by omega) (by omega) d_Te_readNetwork_50 (b2i_f (by rw [hP]; rfl)) ⟨_, _, rfl, h_20, (fun tm htm => by rw [hP] at htm; cases htm), (((fr_3.up (T := [t]) (by simp)).tr' (T := [t]) fr_12 (fun _ z => z) (by simp)).tr' (T := [t]) fr_22 (fun _ z => z) (by simp))⟩
      · have c_23 := b2i_ne0.mp c_23
        refine G_iconst (i := 1) hC d_Te_readNetwork_45 ?_
        refine G_goto hC 50 (by decide) d_Te_readNetwork_46 ?_
        obtain ⟨v1, hv1⟩ := isS_t c_13
        obtain ⟨v2, hv2⟩ := isS_t c_23
        have hP : P = some (4, v2, v1, none) := by rw [← hr, ip4_s2 hv1 c_14 hv2]
        exact G_zretX _ hC hQ (by omega) (by omega) d_Te_readNetwork_50 (b2i_t (by rw [hP]; rfl)) ⟨_, _, rfl, h_20, (fun tm htm => by rw [hP] at htm; cases htm; exact ⟨rfl, fun _ => h_21 _ hv2, fun _ => h_11 _ hv1, (fun d hd => by cases hd), (fun _ z => absurd z (by show ¬ ((4 : Int) = 2 ∨ (4 : Int) = 3); decide))⟩), (((fr_3.up (T := [t]) (by simp)).tr' (T := [t]) fr_12 (fun _ z => z) (by simp)).tr' (T := [t]) fr_22 (fun _ z => z) (by simp))⟩

set_option maxHeartbeats 4000000 in
set_option maxRecDepth 100000 in
theorem c_Te_readHost {l : Launch} {D : Dg} {b0 : Nat} {M : Mp} {a : Nat} {rd : Int} {o : Nat} {q : Int} {stop : Int} {t : Nat} {k0 : Int} {s0 : Int} {n0 : Int} {w0 : Int32} {f0 : Int} {o0 : Int} {tt : Nat} {lim : Int} {b : Bv} {P : Option Tm} (h_obj_a : M a = some (t, .inr (cTe, [vI k0, vI s0, vI n0, .int w0, vI f0, vI o0]))) (h_B_o : IsB D M o tt lim b) (hq : -100000 ≤ q ∧ q ≤ 100000) (hst : -100000 ≤ stop ∧ stop ≤ 100000) (htt : tt ≠ t ∧ tt + 1 ≠ t) (hn0 : n0 = 32) (hfo : f0 = o0) (hrd : rd = 2 ∨ rd = 3) (hr : hostS b.2 rd q stop = P) : Ok l D b0 6 y_Te_readHost b_Te_readHost 6 (some .boolean) M [.ref a, vI rd, .ref o, vI q, vI stop] 0 0 (fun r M' => ∃ n1 : Int, ∃ f1 : Int, ∃ o1 : Int, r = some (vI (b2i P.isSome)) ∧ M' a = some (t, .inr (cTe, [vI rd, vI s0, vI n1, .int w0, vI f1, vI o1])) ∧ (∀ tm, P = some tm → fld tm rd n1 w0 f1 o1) ∧ Fr [t] M M') := by
  refine Ok_of rfl (Nat.le_of_ble_eq_true rfl) (fun E hC hQ hl hD hB hN hR => ?_)
  subst hl hD hB
  have hB9 := h_B_o.len
  show G E M 0 0 [(0, .ref a), (1, vI rd), (2, .ref o), (3, vI q), (4, vI stop)] [] 0
  refine G_aload_n hC 0 rfl rfl d_Te_readHost_0 ?_
  refine G_iload_n hC 1 rfl rfl d_Te_readHost_1 ?_
  refine G_putX (fs' := [vI rd, vI s0, vI n0, .int w0, vI f0, vI o0]) hC fl_Te_9 ft_Te fw_Te_0 h_obj_a rfl rfl (Nat.le_of_ble_eq_true rfl) rfl d_Te_readHost_2 (fun M_1 h_2 fr_3 => ?_)
  refine G_aload_n hC 2 rfl rfl d_Te_readHost_5 ?_
  refine G_bipush (j := 47) hC (by decide +kernel) d_Te_readHost_6 ?_
  refine G_iload_n hC 3 rfl rfl d_Te_readHost_8 ?_
  refine G_iload hC 4 rfl d_Te_readHost_9 ?_
  have h_4 := h_B_o.fr fr_3 (by simp only [List.mem_cons, List.not_mem_nil, or_false, not_or, not_false_eq_true]; try omega) (by simp only [List.mem_cons, List.not_mem_nil, or_false, not_or, not_false_eq_true]; try omega)
  refine G_pV (rest := []) hC hR (c_By_find h_4 (by omega) (by omega) (by omega) rfl) cv_Te_40 h_4.obj (by decide) (by omega) (by omega) rfl rfl (Nat.le_of_ble_eq_true rfl) d_Te_readHost_11 ?_
  have g_5 := findS_rng b.2 47 q stop
  refine G_istore (lv' := [(5, vI (findS b.2 47 q stop)), (0, .ref a), (1, vI rd), (2, .ref o), (3, vI q), (4, vI stop)]) hC (by rw [hN]; decide) rfl d_Te_readHost_14 ?_
  refine G_iload_n hC 4 rfl rfl d_Te_readHost_16 ?_
  refine G_iload hC 0 rfl d_Te_readHost_17 ?_
  refine G_icmp_ge hC 62 (by omega) (by omega) (by decide) d_Te_readHost_19 (fun c_6 => ?_) (fun c_6 => ?_)
  · refine G_iload hC 0 rfl d_Te_readHost_62 ?_
    refine G_iload hC 5 rfl d_Te_readHost_64 ?_
    refine G_icmp_eq hC 83 (by omega) (by omega) (by decide) d_Te_readHost_66 (fun c_7 => ?_) (fun c_7 => ?_)
    · refine G_iconst (i := 1) hC d_Te_readHost_83 ?_
      refine G_goto hC 88 (by decide) d_Te_readHost_84 ?_
      have hP : P = some (rd, 32, 0, none) := by rw [← hr, host_s1 (fun z => absurd z (by omega)) c_7, if_neg (show ¬ q < findS b.2 47 q stop by omega)]
      exact G_zretX _ hC hQ (by omega) (by omega) d_Te_readHost_88 (b2i_t (by rw [hP]; rfl)) ⟨_, _, _, rfl, h_2, (fun tm htm => by rw [hP] at htm; cases htm; exact ⟨rfl, fun _ => hn0, fun z => absurd z (by show ¬ rd = 4; omega), (fun d hd => by cases hd), (fun _ _ => hfo)⟩), (fr_3.up (T := [t]) (by simp))⟩
    · refine G_aload_n hC 1 rfl rfl d_Te_readHost_69 ?_
      refine G_aload_n hC 3 rfl rfl d_Te_readHost_70 ?_
      refine G_iload hC 0 rfl d_Te_readHost_71 ?_
      refine G_iconst (i := 1) hC d_Te_readHost_73 ?_
      refine G_iadd hC d_Te_readHost_74 ?_
      refine G_iload hC 5 rfl d_Te_readHost_75 ?_
      refine G_xV (rest := []) hC hR (c_Te_readBits h_2 h_4 (by omega) (by omega) (by omega) rfl) cv_Te_89 ⟨_, _, h_2⟩ (by decide) (by omega) (by omega) rfl rfl (Nat.le_of_ble_eq_true rfl) d_Te_readHost_77 (fun r_10 M_8 p_9 => ?_)
      obtain ⟨n1_11, rfl, h_12, h_13, fr_14⟩ := p_9
      show G E M_8 (0 + 0) (0 + 0) [(5, vI (findS b.2 47 q stop)), (0, .ref a), (1, vI rd), (2, .ref o), (3, vI q), (4, vI stop)] [vI (b2i (bitsS b.2 ((findS b.2 47 q stop) + 1) stop).isSome)] 80
      refine G_if_eq hC 87 (by have := b2i_rng ((bitsS b.2 ((findS b.2 47 q stop) + 1) stop).isSome); omega) (by decide) d_Te_readHost_80 (fun c_15 => ?_) (fun c_15 => ?_)
      · have c_15 := b2i_eq0.mp c_15
        refine G_iconst (i := 0) hC d_Te_readHost_87 ?_
        have hP : P = none := by rw [← hr, host_f2 c_7 (isS_f c_15)]
        exact G_zretX _ hC hQ (by omega) (by omega) d_Te_readHost_88 (b2i_f (by rw [hP]; rfl)) ⟨_, _, _, rfl, h_12, (fun tm htm => by rw [hP] at htm; cases htm), ((fr_3.up (T := [t]) (by simp)).tr' (T := [t]) fr_14 (fun _ z => z) (by simp))⟩
      · have c_15 := b2i_ne0.mp c_15
        refine G_iconst (i := 1) hC d_Te_readHost_83 ?_
        refine G_goto hC 88 (by decide) d_Te_readHost_84 ?_
        obtain ⟨v2, hv2⟩ := isS_t c_15
        have hP : P = some (rd, v2, 0, none) := by rw [← hr, host_s2 (fun z => absurd z (by omega)) c_7 hv2, if_neg (show ¬ q < findS b.2 47 q stop by omega)]
        exact G_zretX _ hC hQ (by omega) (by omega) d_Te_readHost_88 (b2i_t (by rw [hP]; rfl)) ⟨_, _, _, rfl, h_12, (fun tm htm => by rw [hP] at htm; cases htm; exact ⟨rfl, fun _ => h_13 _ hv2, fun z => absurd z (by show ¬ rd = 4; omega), (fun d hd => by cases hd), (fun _ _ => hfo)⟩), ((fr_3.up (T := [t]) (by simp)).tr' (T := [t]) fr_14 (fun _ z => z) (by simp))⟩
  · refine G_aload_n hC 1 rfl rfl d_Te_readHost_22 ?_
    refine G_iload_n hC 4 rfl rfl d_Te_readHost_23 ?_
    refine G_iconst (i := 1) hC d_Te_readHost_24 ?_
    refine G_iadd hC d_Te_readHost_25 ?_
    refine G_putX (fs' := [vI rd, vI s0, vI n0, .int w0, vI (q + 1), vI o0]) hC fl_Te_21 ft_Te fw_Te_4 h_2 rfl rfl (Nat.le_of_ble_eq_true rfl) rfl d_Te_readHost_26 (fun M_16 h_17 fr_18 => ?_)
    refine G_aload_n hC 1 rfl rfl d_Te_readHost_29 ?_
    refine G_iload hC 0 rfl d_Te_readHost_30 ?_
    refine G_putX (fs' := [vI rd, vI s0, vI n0, .int w0, vI (q + 1), vI (findS b.2 47 q stop)]) hC fl_Te_24 ft_Te fw_Te_5 h_17 rfl rfl (Nat.le_of_ble_eq_true rfl) rfl d_Te_readHost_32 (fun M_19 h_20 fr_21 => ?_)
    refine G_aload_n hC 3 rfl rfl d_Te_readHost_35 ?_
    refine G_iload_n hC 4 rfl rfl d_Te_readHost_36 ?_
    have h_22 := h_4.fr fr_18 (by simp only [List.mem_cons, List.not_mem_nil, or_false, not_or, not_false_eq_true]; try omega) (by simp only [List.mem_cons, List.not_mem_nil, or_false, not_or, not_false_eq_true]; try omega)
    have h_23 := h_22.fr fr_21 (by simp only [List.mem_cons, List.not_mem_nil, or_false, not_or, not_false_eq_true]; try omega) (by simp only [List.mem_cons, List.not_mem_nil, or_false, not_or, not_false_eq_true]; try omega)
    refine G_pV (rest := []) hC hR (c_By_at h_23 (by omega)) cv_Te_30 h_23.obj (by decide) (by omega) (by omega) rfl rfl (Nat.le_of_ble_eq_true rfl) d_Te_readHost_37 ?_
    have g_24 := h_23.at_rng q
    refine G_bipush (j := 58) hC (by decide +kernel) d_Te_readHost_40 ?_
    refine G_icmp_ne hC 60 (by omega) (by decide) (by decide) d_Te_readHost_42 (fun c_25 => ?_) (fun c_25 => ?_)
    · refine G_iconst (i := 0) hC d_Te_readHost_60 ?_
      have hP : P = none := by rw [← hr, host_f1 (by omega) (fun z => by first | exact absurd z.1 c_25 | (have z2 := z.2; rw [z2] at c_25; cases c_25))]
      exact G_zretX _ hC hQ (by omega) (by omega) d_Te_readHost_61 (b2i_f (by rw [hP]; rfl)) ⟨_, _, _, rfl, h_20, (fun tm htm => by rw [hP] at htm; cases htm), (((fr_3.up (T := [t]) (by simp)).tr' (T := [t]) fr_18 (fun _ z => z) (by simp)).tr' (T := [t]) fr_21 (fun _ z => z) (by simp))⟩
    · refine G_aload_n hC 3 rfl rfl d_Te_readHost_45 ?_
      refine G_aload_n hC 1 rfl rfl d_Te_readHost_46 ?_
      refine G_get hC fl_Te_21 h_20 rfl d_Te_readHost_47 ?_
      refine G_aload_n hC 1 rfl rfl d_Te_readHost_50 ?_
      refine G_get hC fl_Te_24 h_20 rfl d_Te_readHost_51 ?_
      refine G_pS (rest := []) hC hR (c_Ma_isTarget h_23 (by omega) (by omega) rfl) cs_Te_84 (by decide) (by omega) (by omega) rfl rfl (Nat.le_of_ble_eq_true rfl) d_Te_readHost_54 ?_
      refine G_if_ne hC 62 (by have := b2i_rng (targS b.2 (q + 1) (findS b.2 47 q stop)); omega) (by decide) d_Te_readHost_57 (fun c_26 => ?_) (fun c_26 => ?_)
      · have c_26 := b2i_ne0.mp c_26
        refine G_iload hC 0 rfl d_Te_readHost_62 ?_
        refine G_iload hC 5 rfl d_Te_readHost_64 ?_
        refine G_icmp_eq hC 83 (by omega) (by omega) (by decide) d_Te_readHost_66 (fun c_27 => ?_) (fun c_27 => ?_)
        · refine G_iconst (i := 1) hC d_Te_readHost_83 ?_
          refine G_goto hC 88 (by decide) d_Te_readHost_84 ?_
          have hP : P = some (rd, 32, 0, some (q + 1, findS b.2 47 q stop)) := by rw [← hr, host_s1 (fun _ => ⟨c_25, c_26⟩) c_27, if_pos (show q < findS b.2 47 q stop by omega)]
          exact G_zretX _ hC hQ (by omega) (by omega) d_Te_readHost_88 (b2i_t (by rw [hP]; rfl)) ⟨_, _, _, rfl, h_20, (fun tm htm => by rw [hP] at htm; cases htm; exact ⟨rfl, fun _ => hn0, fun z => absurd z (by show ¬ rd = 4; omega), (fun d hd => by cases hd; exact ⟨rfl, rfl⟩), (fun z => by cases z)⟩), (((fr_3.up (T := [t]) (by simp)).tr' (T := [t]) fr_18 (fun _ z => z) (by simp)).tr' (T := [t]) fr_21 (fun _ z => z) (by simp))⟩
        · refine G_aload_n hC 1 rfl rfl d_Te_readHost_69 ?_
          refine G_aload_n hC 3 rfl rfl d_Te_readHost_70 ?_
          refine G_iload hC 0 rfl d_Te_readHost_71 ?_
          refine G_iconst (i := 1) hC d_Te_readHost_73 ?_
          refine G_iadd hC d_Te_readHost_74 ?_
          refine G_iload hC 5 rfl d_Te_readHost_75 ?_
          refine G_xV (rest := []) hC hR (c_Te_readBits h_20 h_23 (by omega) (by omega) (by omega) rfl) cv_Te_89 ⟨_, _, h_20⟩ (by decide) (by omega) (by omega) rfl rfl (Nat.le_of_ble_eq_true rfl) d_Te_readHost_77 (fun r_30 M_28 p_29 => ?_)
          obtain ⟨n1_31, rfl, h_32, h_33, fr_34⟩ := p_29
          show G E M_28 (0 + 0) (0 + 0) [(5, vI (findS b.2 47 q stop)), (0, .ref a), (1, vI rd), (2, .ref o), (3, vI q), (4, vI stop)] [vI (b2i (bitsS b.2 ((findS b.2 47 q stop) + 1) stop).isSome)] 80
          refine G_if_eq hC 87 (by have := b2i_rng ((bitsS b.2 ((findS b.2 47 q stop) + 1) stop).isSome); omega) (by decide) d_Te_readHost_80 (fun c_35 => ?_) (fun c_35 => ?_)
          · have c_35 := b2i_eq0.mp c_35
            refine G_iconst (i := 0) hC d_Te_readHost_87 ?_
            have hP : P = none := by rw [← hr, host_f2 c_27 (isS_f c_35)]
            exact G_zretX _ hC hQ (by omega) (by omega) d_Te_readHost_88 (b2i_f (by rw [hP]; rfl)) ⟨_, _, _, rfl, h_32, (fun tm htm => by rw [hP] at htm; cases htm), ((((fr_3.up (T := [t]) (by simp)).tr' (T := [t]) fr_18 (fun _ z => z) (by simp)).tr' (T := [t]) fr_21 (fun _ z => z) (by simp)).tr' (T := [t]) fr_34 (fun _ z => z) (by simp))⟩
          · have c_35 := b2i_ne0.mp c_35
            refine G_iconst (i := 1) hC d_Te_readHost_83 ?_
            refine G_goto hC 88 (by decide) d_Te_readHost_84 ?_
            obtain ⟨v2, hv2⟩ := isS_t c_35
            have hP : P = some (rd, v2, 0, some (q + 1, findS b.2 47 q stop)) := by rw [← hr, host_s2 (fun _ => ⟨c_25, c_26⟩) c_27 hv2, if_pos (show q < findS b.2 47 q stop by omega)]
            exact G_zretX _ hC hQ (by omega) (by omega) d_Te_readHost_88 (b2i_t (by rw [hP]; rfl)) ⟨_, _, _, rfl, h_32, (fun tm htm => by rw [hP] at htm; cases htm; exact ⟨rfl, fun _ => h_33 _ hv2, fun z => absurd z (by show ¬ rd = 4; omega), (fun d hd => by cases hd; exact ⟨rfl, rfl⟩), (fun z => by cases z)⟩), ((((fr_3.up (T := [t]) (by simp)).tr' (T := [t]) fr_18 (fun _ z => z) (by simp)).tr' (T := [t]) fr_21 (fun _ z => z) (by simp)).tr' (T := [t]) fr_34 (fun _ z => z) (by simp))⟩
      · have c_26 := b2i_eq0.mp c_26
        refine G_iconst (i := 0) hC d_Te_readHost_60 ?_
        have hP : P = none := by rw [← hr, host_f1 (by omega) (fun z => by first | exact absurd z.1 c_26 | (have z2 := z.2; rw [z2] at c_26; cases c_26))]
        exact G_zretX _ hC hQ (by omega) (by omega) d_Te_readHost_61 (b2i_f (by rw [hP]; rfl)) ⟨_, _, _, rfl, h_20, (fun tm htm => by rw [hP] at htm; cases htm), (((fr_3.up (T := [t]) (by simp)).tr' (T := [t]) fr_18 (fun _ z => z) (by simp)).tr' (T := [t]) fr_21 (fun _ z => z) (by simp))⟩

set_option maxHeartbeats 4000000 in
set_option maxRecDepth 100000 in
theorem c_Te_readOther {l : Launch} {D : Dg} {b0 : Nat} {M : Mp} {a : Nat} {o : Nat} {q : Int} {stop : Int} {t : Nat} {k0 : Int} {s0 : Int} {n0 : Int} {w0 : Int32} {f0 : Int} {o0 : Int} {tt : Nat} {lim : Int} {b : Bv} (h_obj_a : M a = some (t, .inr (cTe, [vI k0, vI s0, vI n0, .int w0, vI f0, vI o0]))) (h_B_o : IsB D M o tt lim b) (hq : -100000 ≤ q ∧ q ≤ 100000) (hst : -100000 ≤ stop ∧ stop ≤ 100000) (htt : tt ≠ t ∧ tt + 1 ≠ t) : Ok l D b0 6 y_Te_readOther b_Te_readOther 5 (some .boolean) M [.ref a, .ref o, vI q, vI stop] 0 0 (fun r M' => r = some (vI (b2i (altO b.2 q stop).isSome)) ∧ M' a = some (t, .inr (cTe, [vI 7, vI s0, vI n0, .int w0, vI f0, vI o0])) ∧ Fr [t] M M') := by
  refine Ok_of rfl (Nat.le_of_ble_eq_true rfl) (fun E hC hQ hl hD hB hN hR => ?_)
  subst hl hD hB
  have hB9 := h_B_o.len
  show G E M 0 0 [(0, .ref a), (1, .ref o), (2, vI q), (3, vI stop)] [] 0
  refine G_aload_n hC 0 rfl rfl d_Te_readOther_0 ?_
  refine G_bipush (j := 7) hC (by decide +kernel) d_Te_readOther_1 ?_
  refine G_putX (fs' := [vI 7, vI s0, vI n0, .int w0, vI f0, vI o0]) hC fl_Te_9 ft_Te fw_Te_0 h_obj_a rfl rfl (Nat.le_of_ble_eq_true rfl) rfl d_Te_readOther_3 (fun M_1 h_2 fr_3 => ?_)
  refine G_aload_n hC 1 rfl rfl d_Te_readOther_6 ?_
  refine G_bipush (j := 61) hC (by decide +kernel) d_Te_readOther_7 ?_
  refine G_iload_n hC 2 rfl rfl d_Te_readOther_9 ?_
  refine G_iload_n hC 3 rfl rfl d_Te_readOther_10 ?_
  have h_4 := h_B_o.fr fr_3 (by simp only [List.mem_cons, List.not_mem_nil, or_false, not_or, not_false_eq_true]; try omega) (by simp only [List.mem_cons, List.not_mem_nil, or_false, not_or, not_false_eq_true]; try omega)
  refine G_pV (rest := []) hC hR (c_By_find h_4 (by omega) (by omega) (by omega) rfl) cv_Te_40 h_4.obj (by decide) (by omega) (by omega) rfl rfl (Nat.le_of_ble_eq_true rfl) d_Te_readOther_11 ?_
  have g_5 := findS_rng b.2 61 q stop
  refine G_istore (lv' := [(4, vI (findS b.2 61 q stop)), (0, .ref a), (1, .ref o), (2, vI q), (3, vI stop)]) hC (by rw [hN]; decide) rfl d_Te_readOther_14 ?_
  refine G_iload hC 0 rfl d_Te_readOther_16 ?_
  refine G_iload_n hC 4 rfl rfl d_Te_readOther_18 ?_
  refine G_icmp_ge hC 47 (by omega) (by omega) (by decide) d_Te_readOther_19 (fun c_6 => ?_) (fun c_6 => ?_)
  · refine G_iconst (i := 0) hC d_Te_readOther_47 ?_
    exact G_zretX _ hC hQ (by omega) (by omega) d_Te_readOther_48 (b2i_f (by unfold altO otherS; rw [if_neg (fun z => by obtain ⟨z1, z2⟩ := z; obtain ⟨z3, z4⟩ := Bool.and_eq_true_iff.mp z1; have z5 := of_decide_eq_true z3; first | omega | (rw [z4] at c_6; cases c_6) | (rw [z2] at c_6; cases c_6))]; rfl)) ⟨rfl, h_2, (fr_3.up (T := [t]) (by simp))⟩
  · refine G_aload_n hC 2 rfl rfl d_Te_readOther_22 ?_
    refine G_iload_n hC 3 rfl rfl d_Te_readOther_23 ?_
    refine G_iload hC 0 rfl d_Te_readOther_24 ?_
    refine G_pS (rest := []) hC hR (c_Si_isWord h_4 (by omega) (by omega) rfl) cs_Te_79 (by decide) (by omega) (by omega) rfl rfl (Nat.le_of_ble_eq_true rfl) d_Te_readOther_26 ?_
    refine G_if_eq hC 47 (by have := b2i_rng (wordS b.2 q (findS b.2 61 q stop)); omega) (by decide) d_Te_readOther_29 (fun c_7 => ?_) (fun c_7 => ?_)
    · have c_7 := b2i_eq0.mp c_7
      refine G_iconst (i := 0) hC d_Te_readOther_47 ?_
      exact G_zretX _ hC hQ (by omega) (by omega) d_Te_readOther_48 (b2i_f (by unfold altO otherS; rw [if_neg (fun z => by obtain ⟨z1, z2⟩ := z; obtain ⟨z3, z4⟩ := Bool.and_eq_true_iff.mp z1; have z5 := of_decide_eq_true z3; first | omega | (rw [z4] at c_7; cases c_7) | (rw [z2] at c_7; cases c_7))]; rfl)) ⟨rfl, h_2, (fr_3.up (T := [t]) (by simp))⟩
    · have c_7 := b2i_ne0.mp c_7
      refine G_aload_n hC 2 rfl rfl d_Te_readOther_32 ?_
      refine G_ldcS (tx := "redirect=") (i := 7) hC (by decide) d_Te_readOther_33 ?_
      refine G_iload_n hC 3 rfl rfl d_Te_readOther_35 ?_
      refine G_iload_n hC 4 rfl rfl d_Te_readOther_36 ?_
      refine G_pV (rest := []) hC hR (c_By_has h_4 (by decide) (by omega) (by omega)) cv_Te_50 h_4.obj (by decide) (by omega) (by omega) rfl rfl (Nat.le_of_ble_eq_true rfl) d_Te_readOther_37 ?_
      refine G_if_ne hC 47 (by have := b2i_rng (hasS b.2 (wrd 7) q stop); omega) (by decide) d_Te_readOther_40 (fun c_8 => ?_) (fun c_8 => ?_)
      · have c_8 := b2i_ne0.mp c_8
        refine G_iconst (i := 0) hC d_Te_readOther_47 ?_
        exact G_zretX _ hC hQ (by omega) (by omega) d_Te_readOther_48 (b2i_f (by unfold altO otherS; rw [if_neg (fun z => by obtain ⟨z1, z2⟩ := z; obtain ⟨z3, z4⟩ := Bool.and_eq_true_iff.mp z1; have z5 := of_decide_eq_true z3; first | omega | (rw [z4] at c_8; cases c_8) | (rw [z2] at c_8; cases c_8))]; rfl)) ⟨rfl, h_2, (fr_3.up (T := [t]) (by simp))⟩
      · have c_8 := b2i_eq0.mp c_8
        refine G_iconst (i := 1) hC d_Te_readOther_43 ?_
        refine G_goto hC 48 (by decide) d_Te_readOther_44 ?_
        exact G_zretX _ hC hQ (by omega) (by omega) d_Te_readOther_48 (b2i_t (by unfold altO otherS; rw [if_pos ⟨by rw [decide_eq_true (by omega), c_7]; rfl, c_8⟩]; rfl)) ⟨rfl, h_2, (fr_3.up (T := [t]) (by simp))⟩

set_option maxHeartbeats 4000000 in
set_option maxRecDepth 100000 in
theorem c_Te_read {l : Launch} {D : Dg} {b0 : Nat} {M : Mp} {a : Nat} {o : Nat} {start : Int} {t : Nat} {k0 : Int} {s0 : Int} {n0 : Int} {w0 : Int32} {f0 : Int} {o0 : Int} {tt : Nat} {lim : Int} {b : Bv} {P : Option Tm} (h_obj_a : M a = some (t, .inr (cTe, [vI k0, vI s0, vI n0, .int w0, vI f0, vI o0]))) (h_B_o : IsB D M o tt lim b) (hq : 0 ≤ start ∧ start < b.2.length) (htt : tt ≠ t ∧ tt + 1 ≠ t) (hr : readS b.2 start = P) : Ok l D b0 7 y_Te_read b_Te_read 7 (some .boolean) M [.ref a, .ref o, vI start] 0 0 (fun r M' => ∃ k1 : Int, ∃ n1 : Int, ∃ w1 : Int32, ∃ f1 : Int, ∃ o1 : Int, r = some (vI (b2i P.isSome)) ∧ M' a = some (t, .inr (cTe, [vI k1, vI (sgnS b.2 start), vI n1, .int w1, vI f1, vI o1])) ∧ (∀ tm, P = some tm → fld tm k1 n1 w1 f1 o1) ∧ Fr [t] M M') := by
  refine Ok_of rfl (Nat.le_of_ble_eq_true rfl) (fun E hC hQ hl hD hB hN hR => ?_)
  subst hl hD hB
  have hB9 := h_B_o.len
  unfold readS at hr
  show G E M 0 0 [(0, .ref a), (1, .ref o), (2, vI start)] [] 0
  refine G_aload_n hC 1 rfl rfl d_Te_read_0 ?_
  refine G_bipush (j := 32) hC (by decide +kernel) d_Te_read_1 ?_
  refine G_iload_n hC 2 rfl rfl d_Te_read_3 ?_
  refine G_aload_n hC 1 rfl rfl d_Te_read_4 ?_
  refine G_pV (rest := [vI start, vI 32, .ref o]) hC hR (c_By_size h_B_o) cv_Te_36 h_B_o.obj (by decide) (by omega) (by omega) rfl rfl (Nat.le_of_ble_eq_true rfl) d_Te_read_5 ?_
  have g_1 := h_B_o.len
  refine G_pV (rest := []) hC hR (c_By_find h_B_o (by omega) (by omega) (by omega) rfl) cv_Te_40 h_B_o.obj (by decide) (by omega) (by omega) rfl rfl (Nat.le_of_ble_eq_true rfl) d_Te_read_8 ?_
  have g_2 := findS_rng b.2 32 start (b.2.length : Int)
  refine G_istore_n (lv' := [(3, vI (findS b.2 32 start (b.2.length : Int))), (0, .ref a), (1, .ref o), (2, vI start)]) hC rfl (by rw [hN]; decide) rfl d_Te_read_11 ?_
  generalize hst9 : findS b.2 32 start (b.2.length : Int) = stop at *
  refine G_aload_n hC 2 rfl rfl d_Te_read_12 ?_
  refine G_iload_n hC 3 rfl rfl d_Te_read_13 ?_
  refine G_pV (rest := []) hC hR (c_By_at h_B_o (by omega)) cv_Te_30 h_B_o.obj (by decide) (by omega) (by omega) rfl rfl (Nat.le_of_ble_eq_true rfl) d_Te_read_14 ?_
  have g_3 := h_B_o.at_rng start
  refine G_istore (lv' := [(4, vI (atS b.2 start)), (3, vI stop), (0, .ref a), (1, .ref o), (2, vI start)]) hC (by rw [hN]; decide) rfl d_Te_read_17 ?_
  have J54 : ∀ (sgv : Int), (sgv = b2i (decide (sgP (atS b.2 start)))) → G E M 0 0 [(0, .ref a), (1, .ref o), (2, vI start), (3, vI stop), (4, vI (atS b.2 start)), (5, vI sgv)] [] 54 := by
    intro sgv hsg
    rcases Decidable.em (sgP (atS b.2 start)) with hs | hs
    · obtain rfl : sgv = 1 := by rw [hsg, decide_eq_true hs]; rfl
      rw [if_pos hs, decide_eq_true hs] at hr
      refine G_iload hC 5 rfl d_Te_read_54 ?_
      refine G_if_eq hC 65 (by decide) (by decide) d_Te_read_56 (fun c_4 => ?_) (fun c_4 => ?_)
      · exact (show False from by omega).elim
      · refine G_iload_n hC 2 rfl rfl d_Te_read_59 ?_
        refine G_iconst (i := 1) hC d_Te_read_60 ?_
        refine G_iadd hC d_Te_read_61 ?_
        refine G_goto hC 66 (by decide) d_Te_read_62 ?_
        refine G_istore (lv' := [(6, vI (start + 1)), (0, .ref a), (1, .ref o), (2, vI start), (3, vI stop), (4, vI (atS b.2 start)), (5, vI 1)]) hC (by rw [hN]; decide) rfl d_Te_read_66 ?_
        refine G_aload_n hC 1 rfl rfl d_Te_read_68 ?_
        refine G_iload hC 6 rfl d_Te_read_69 ?_
        refine G_if_eq hC 79 (by decide) (by decide) d_Te_read_71 (fun c_5 => ?_) (fun c_5 => ?_)
        · exact (show False from by omega).elim
        · refine G_iload hC 5 rfl d_Te_read_74 ?_
          refine G_goto hC 81 (by decide) d_Te_read_76 ?_
          refine G_putX (fs' := [vI k0, vI (atS b.2 start), vI n0, .int w0, vI f0, vI o0]) hC fl_Te_27 ft_Te fw_Te_1 h_obj_a rfl rfl (Nat.le_of_ble_eq_true rfl) rfl d_Te_read_81 (fun M_6 h_7 fr_8 => ?_)
          refine G_aload_n hC 1 rfl rfl d_Te_read_84 ?_
          refine G_bipush (j := 32) hC (by decide +kernel) d_Te_read_85 ?_
          refine G_putX (fs' := [vI k0, vI (atS b.2 start), vI 32, .int w0, vI f0, vI o0]) hC fl_Te_15 ft_Te fw_Te_2 h_7 rfl rfl (Nat.le_of_ble_eq_true rfl) rfl d_Te_read_87 (fun M_9 h_10 fr_11 => ?_)
          refine G_aload_n hC 1 rfl rfl d_Te_read_90 ?_
          refine G_iload_n hC 4 rfl rfl d_Te_read_91 ?_
          refine G_putX (fs' := [vI k0, vI (atS b.2 start), vI 32, .int w0, vI stop, vI o0]) hC fl_Te_21 ft_Te fw_Te_4 h_10 rfl rfl (Nat.le_of_ble_eq_true rfl) rfl d_Te_read_92 (fun M_12 h_13 fr_14 => ?_)
          refine G_aload_n hC 1 rfl rfl d_Te_read_95 ?_
          refine G_iload_n hC 4 rfl rfl d_Te_read_96 ?_
          refine G_putX (fs' := [vI k0, vI (atS b.2 start), vI 32, .int w0, vI stop, vI stop]) hC fl_Te_24 ft_Te fw_Te_5 h_13 rfl rfl (Nat.le_of_ble_eq_true rfl) rfl d_Te_read_97 (fun M_15 h_16 fr_17 => ?_)
          have J275 : ∀ (M275 : Mp) (k1 : Int) (n1 : Int) (w1 : Int32) (f1 : Int) (o1 : Int), (Fr [t] M_15 M275) → (M275 a = some (t, .inr (cTe, [vI k1, vI (atS b.2 start), vI n1, .int w1, vI f1, vI o1]))) → (rs7 b.2 (start + 1) stop true = P) → G E M275 0 0 [(0, .ref a), (1, .ref o), (2, vI start), (3, vI stop), (4, vI (atS b.2 start)), (5, vI 1), (6, vI (start + 1))] [] 275 := by
            intro M275 k1 n1 w1 f1 o1 hfr275 ho275 hrs275
            refine G_iload hC 5 rfl d_Te_read_275 ?_
            refine G_if_ne hC 295 (by decide) (by decide) d_Te_read_277 (fun c_18 => ?_) (fun c_18 => ?_)
            · refine G_iconst (i := 0) hC d_Te_read_295 ?_
              have hP : P = none := hrs275.symm
              exact G_zretX _ hC hQ (by omega) (by omega) d_Te_read_296 (b2i_f (by rw [hP]; rfl)) ⟨_, _, _, _, _, rfl, (by unfold sgnS; rw [if_pos hs]; exact ho275), (fun tm htm => by rw [hP] at htm; cases htm), (((((fr_8.up (T := [t]) (by simp)).tr' (T := [t]) fr_11 (fun _ z => z) (by simp)).tr' (T := [t]) fr_14 (fun _ z => z) (by simp)).tr' (T := [t]) fr_17 (fun _ z => z) (by simp)).tr' (T := [t]) hfr275 (fun _ z => z) (by simp))⟩
            · exact (show False from by omega).elim
          have J242 : ∀ (M242 : Mp) (k1 : Int) (n1 : Int) (w1 : Int32) (f1 : Int) (o1 : Int), (Fr [t] M_15 M242) → (M242 a = some (t, .inr (cTe, [vI k1, vI (atS b.2 start), vI n1, .int w1, vI f1, vI o1]))) → (rs6 b.2 (start + 1) stop true = P) → G E M242 0 0 [(0, .ref a), (1, .ref o), (2, vI start), (3, vI stop), (4, vI (atS b.2 start)), (5, vI 1), (6, vI (start + 1))] [] 242 := by
            intro M242 k1 n1 w1 f1 o1 hfr242 ho242 hrs242
            refine G_iload hC 5 rfl d_Te_read_242 ?_
            refine G_if_ne hC 275 (by decide) (by decide) d_Te_read_244 (fun c_19 => ?_) (fun c_19 => ?_)
            · exact J275 M242 _ _ _ _ _ (hfr242.up (T := [t]) (by simp)) ho242 (or_no hrs242 rfl)
            · exact (show False from by omega).elim
          have J215 : ∀ (M215 : Mp) (k1 : Int) (n1 : Int) (w1 : Int32) (f1 : Int) (o1 : Int), (Fr [t] M_15 M215) → (M215 a = some (t, .inr (cTe, [vI k1, vI (atS b.2 start), vI n1, .int w1, vI f1, vI o1]))) → (rs5 b.2 (start + 1) stop true = P) → G E M215 0 0 [(0, .ref a), (1, .ref o), (2, vI start), (3, vI stop), (4, vI (atS b.2 start)), (5, vI 1), (6, vI (start + 1))] [] 215 := by
            intro M215 k1 n1 w1 f1 o1 hfr215 ho215 hrs215
            refine G_aload_n hC 1 rfl rfl d_Te_read_215 ?_
            refine G_ldcS (tx := "exists:") (i := 6) hC (by decide) d_Te_read_216 ?_
            refine G_iload hC 6 rfl d_Te_read_218 ?_
            refine G_iload_n hC 3 rfl rfl d_Te_read_220 ?_
            have h_20 := h_B_o.fr fr_8 (by simp only [List.mem_cons, List.not_mem_nil, or_false, not_or, not_false_eq_true]; try omega) (by simp only [List.mem_cons, List.not_mem_nil, or_false, not_or, not_false_eq_true]; try omega)
            have h_21 := h_20.fr fr_11 (by simp only [List.mem_cons, List.not_mem_nil, or_false, not_or, not_false_eq_true]; try omega) (by simp only [List.mem_cons, List.not_mem_nil, or_false, not_or, not_false_eq_true]; try omega)
            have h_22 := h_21.fr fr_14 (by simp only [List.mem_cons, List.not_mem_nil, or_false, not_or, not_false_eq_true]; try omega) (by simp only [List.mem_cons, List.not_mem_nil, or_false, not_or, not_false_eq_true]; try omega)
            have h_23 := h_22.fr fr_17 (by simp only [List.mem_cons, List.not_mem_nil, or_false, not_or, not_false_eq_true]; try omega) (by simp only [List.mem_cons, List.not_mem_nil, or_false, not_or, not_false_eq_true]; try omega)
            have h_24 := h_23.fr hfr215 (by simp only [List.mem_cons, List.not_mem_nil, or_false, not_or, not_false_eq_true]; try omega) (by simp only [List.mem_cons, List.not_mem_nil, or_false, not_or, not_false_eq_true]; try omega)
            refine G_pV (rest := []) hC hR (c_By_has h_24 (by decide) (by omega) (by omega)) cv_Te_50 h_24.obj (by decide) (by omega) (by omega) rfl rfl (Nat.le_of_ble_eq_true rfl) d_Te_read_221 ?_
            refine G_if_eq hC 242 (by have := b2i_rng (hasS b.2 (wrd 6) (start + 1) stop); omega) (by decide) d_Te_read_224 (fun c_25 => ?_) (fun c_25 => ?_)
            · have c_25 := b2i_eq0.mp c_25
              exact J242 M215 _ _ _ _ _ (hfr215.up (T := [t]) (by simp)) ho215 (or_no hrs215 (altT_f (Or.inl c_25)))
            · have c_25 := b2i_ne0.mp c_25
              refine G_aload_n hC 0 rfl rfl d_Te_read_227 ?_
              refine G_iconst (i := 5) hC d_Te_read_228 ?_
              refine G_aload_n hC 1 rfl rfl d_Te_read_229 ?_
              refine G_iload hC 6 rfl d_Te_read_230 ?_
              refine G_bipush (j := 7) hC (by decide +kernel) d_Te_read_232 ?_
              refine G_iadd hC d_Te_read_234 ?_
              refine G_iload_n hC 3 rfl rfl d_Te_read_235 ?_
              refine G_xV (rest := []) hC hR (c_Te_readTarget ho215 h_24 (by omega) (by omega) (by omega)) cv_Te_54 ⟨_, _, ho215⟩ (by decide) (by omega) (by omega) rfl rfl (Nat.le_of_ble_eq_true rfl) d_Te_read_236 (fun r_28 M_26 p_27 => ?_)
              obtain ⟨rfl, h_29, fr_30⟩ := p_27
              show G E M_26 (0 + 0) (0 + 0) [(0, .ref a), (1, .ref o), (2, vI start), (3, vI stop), (4, vI (atS b.2 start)), (5, vI 1), (6, vI (start + 1))] [vI (b2i (targS b.2 ((start + 1) + 7) stop))] 239
              refine G_if_ne hC 291 (by have := b2i_rng (targS b.2 ((start + 1) + 7) stop); omega) (by decide) d_Te_read_239 (fun c_31 => ?_) (fun c_31 => ?_)
              · have c_31 := b2i_ne0.mp c_31
                refine G_iconst (i := 1) hC d_Te_read_291 ?_
                refine G_goto hC 296 (by decide) d_Te_read_292 ?_
                have hP := or_yes hrs215 (altT_t c_25 c_31)
                exact G_zretX _ hC hQ (by omega) (by omega) d_Te_read_296 (b2i_t (by rw [hP]; rfl)) ⟨_, _, _, _, _, rfl, (by unfold sgnS; rw [if_pos hs]; exact h_29), (fun tm htm => by rw [hP] at htm; exact (by cases htm; exact ⟨rfl, (fun z => by simp at z), (fun z => by simp at z), (fun d hd => by cases hd; exact ⟨rfl, rfl⟩), (fun z => by cases z)⟩)), ((((((fr_8.up (T := [t]) (by simp)).tr' (T := [t]) fr_11 (fun _ z => z) (by simp)).tr' (T := [t]) fr_14 (fun _ z => z) (by simp)).tr' (T := [t]) fr_17 (fun _ z => z) (by simp)).tr' (T := [t]) hfr215 (fun _ z => z) (by simp)).tr' (T := [t]) fr_30 (fun _ z => z) (by simp))⟩
              · have c_31 := b2i_eq0.mp c_31
                exact J242 M_26 _ _ _ _ _ ((hfr215.up (T := [t]) (by simp)).tr' (T := [t]) fr_30 (fun _ z => z) (by simp)) h_29 (or_no hrs215 (altT_f (Or.inr c_31)))
          have J190 : ∀ (M190 : Mp) (k1 : Int) (n1 : Int) (w1 : Int32) (f1 : Int) (o1 : Int), (Fr [t] M_15 M190) → (M190 a = some (t, .inr (cTe, [vI k1, vI (atS b.2 start), vI n1, .int w1, vI f1, vI o1]))) → (rs4 b.2 (start + 1) stop true = P) → ((n1 = 32) ∨ atS b.2 (start + 1) = 97 ∨ atS b.2 (start + 1) = 109) → G E M190 0 0 [(0, .ref a), (1, .ref o), (2, vI start), (3, vI stop), (4, vI (atS b.2 start)), (5, vI 1), (6, vI (start + 1))] [] 190 := by
            intro M190 k1 n1 w1 f1 o1 hfr190 ho190 hrs190 hcn190
            refine G_aload_n hC 1 rfl rfl d_Te_read_190 ?_
            refine G_ldcS (tx := "ip4:") (i := 5) hC (by decide) d_Te_read_191 ?_
            refine G_iload hC 6 rfl d_Te_read_193 ?_
            refine G_iload_n hC 3 rfl rfl d_Te_read_195 ?_
            have h_32 := h_B_o.fr fr_8 (by simp only [List.mem_cons, List.not_mem_nil, or_false, not_or, not_false_eq_true]; try omega) (by simp only [List.mem_cons, List.not_mem_nil, or_false, not_or, not_false_eq_true]; try omega)
            have h_33 := h_32.fr fr_11 (by simp only [List.mem_cons, List.not_mem_nil, or_false, not_or, not_false_eq_true]; try omega) (by simp only [List.mem_cons, List.not_mem_nil, or_false, not_or, not_false_eq_true]; try omega)
            have h_34 := h_33.fr fr_14 (by simp only [List.mem_cons, List.not_mem_nil, or_false, not_or, not_false_eq_true]; try omega) (by simp only [List.mem_cons, List.not_mem_nil, or_false, not_or, not_false_eq_true]; try omega)
            have h_35 := h_34.fr fr_17 (by simp only [List.mem_cons, List.not_mem_nil, or_false, not_or, not_false_eq_true]; try omega) (by simp only [List.mem_cons, List.not_mem_nil, or_false, not_or, not_false_eq_true]; try omega)
            have h_36 := h_35.fr hfr190 (by simp only [List.mem_cons, List.not_mem_nil, or_false, not_or, not_false_eq_true]; try omega) (by simp only [List.mem_cons, List.not_mem_nil, or_false, not_or, not_false_eq_true]; try omega)
            refine G_pV (rest := []) hC hR (c_By_has h_36 (by decide) (by omega) (by omega)) cv_Te_50 h_36.obj (by decide) (by omega) (by omega) rfl rfl (Nat.le_of_ble_eq_true rfl) d_Te_read_196 ?_
            refine G_if_eq hC 215 (by have := b2i_rng (hasS b.2 (wrd 5) (start + 1) stop); omega) (by decide) d_Te_read_199 (fun c_37 => ?_) (fun c_37 => ?_)
            · have c_37 := b2i_eq0.mp c_37
              exact J215 M190 _ _ _ _ _ (hfr190.up (T := [t]) (by simp)) ho190 (or_no hrs190 (altI_f (Or.inl c_37)))
            · have c_37 := b2i_ne0.mp c_37
              refine G_aload_n hC 0 rfl rfl d_Te_read_202 ?_
              refine G_aload_n hC 1 rfl rfl d_Te_read_203 ?_
              refine G_iload hC 6 rfl d_Te_read_204 ?_
              refine G_iconst (i := 4) hC d_Te_read_206 ?_
              refine G_iadd hC d_Te_read_207 ?_
              refine G_iload_n hC 3 rfl rfl d_Te_read_208 ?_
              have hz209 := has_first (c := 105) c_37 ⟨by decide, by decide⟩
              refine G_xV (rest := []) hC hR (c_Te_readNetwork ho190 h_36 (by omega) (by omega) (by omega) (by omega) rfl) cv_Te_67 ⟨_, _, ho190⟩ (by decide) (by omega) (by omega) rfl rfl (Nat.le_of_ble_eq_true rfl) d_Te_read_209 (fun r_40 M_38 p_39 => ?_)
              obtain ⟨n1_41, w1_42, rfl, h_43, h_44, fr_45⟩ := p_39
              show G E M_38 (0 + 0) (0 + 0) [(0, .ref a), (1, .ref o), (2, vI start), (3, vI stop), (4, vI (atS b.2 start)), (5, vI 1), (6, vI (start + 1))] [vI (b2i (ip4S b.2 ((start + 1) + 4) stop).isSome)] 212
              refine G_if_ne hC 291 (by have := b2i_rng ((ip4S b.2 ((start + 1) + 4) stop).isSome); omega) (by decide) d_Te_read_212 (fun c_46 => ?_) (fun c_46 => ?_)
              · have c_46 := b2i_ne0.mp c_46
                refine G_iconst (i := 1) hC d_Te_read_291 ?_
                refine G_goto hC 296 (by decide) d_Te_read_292 ?_
                obtain ⟨v1, hv1⟩ := isS_t c_46
                have hP := or_yes hrs190 (altI_t c_37 hv1)
                exact G_zretX _ hC hQ (by omega) (by omega) d_Te_read_296 (b2i_t (by rw [hP]; rfl)) ⟨_, _, _, _, _, rfl, (by unfold sgnS; rw [if_pos hs]; exact h_43), (fun tm htm => by rw [hP] at htm; exact (by cases htm; exact h_44 _ hv1)), ((((((fr_8.up (T := [t]) (by simp)).tr' (T := [t]) fr_11 (fun _ z => z) (by simp)).tr' (T := [t]) fr_14 (fun _ z => z) (by simp)).tr' (T := [t]) fr_17 (fun _ z => z) (by simp)).tr' (T := [t]) hfr190 (fun _ z => z) (by simp)).tr' (T := [t]) fr_45 (fun _ z => z) (by simp))⟩
              · have c_46 := b2i_eq0.mp c_46
                exact J215 M_38 _ _ _ _ _ ((hfr190.up (T := [t]) (by simp)).tr' (T := [t]) fr_45 (fun _ z => z) (by simp)) h_43 (or_no hrs190 (altI_f (Or.inr (isS_f c_46))))
          have J164 : ∀ (M164 : Mp) (k1 : Int) (n1 : Int) (w1 : Int32) (f1 : Int) (o1 : Int), (Fr [t] M_15 M164) → (M164 a = some (t, .inr (cTe, [vI k1, vI (atS b.2 start), vI n1, .int w1, vI f1, vI o1]))) → (rs3 b.2 (start + 1) stop true = P) → ((f1 = o1) ∨ atS b.2 (start + 1) = 105 ∨ atS b.2 (start + 1) = 97) → ((n1 = 32) ∨ atS b.2 (start + 1) = 97) → G E M164 0 0 [(0, .ref a), (1, .ref o), (2, vI start), (3, vI stop), (4, vI (atS b.2 start)), (5, vI 1), (6, vI (start + 1))] [] 164 := by
            intro M164 k1 n1 w1 f1 o1 hfr164 ho164 hrs164 hcf164 hcn164
            refine G_aload_n hC 1 rfl rfl d_Te_read_164 ?_
            refine G_ldcS (tx := "mx") (i := 4) hC (by decide) d_Te_read_165 ?_
            refine G_iload hC 6 rfl d_Te_read_167 ?_
            refine G_iload_n hC 3 rfl rfl d_Te_read_169 ?_
            have h_47 := h_B_o.fr fr_8 (by simp only [List.mem_cons, List.not_mem_nil, or_false, not_or, not_false_eq_true]; try omega) (by simp only [List.mem_cons, List.not_mem_nil, or_false, not_or, not_false_eq_true]; try omega)
            have h_48 := h_47.fr fr_11 (by simp only [List.mem_cons, List.not_mem_nil, or_false, not_or, not_false_eq_true]; try omega) (by simp only [List.mem_cons, List.not_mem_nil, or_false, not_or, not_false_eq_true]; try omega)
            have h_49 := h_48.fr fr_14 (by simp only [List.mem_cons, List.not_mem_nil, or_false, not_or, not_false_eq_true]; try omega) (by simp only [List.mem_cons, List.not_mem_nil, or_false, not_or, not_false_eq_true]; try omega)
            have h_50 := h_49.fr fr_17 (by simp only [List.mem_cons, List.not_mem_nil, or_false, not_or, not_false_eq_true]; try omega) (by simp only [List.mem_cons, List.not_mem_nil, or_false, not_or, not_false_eq_true]; try omega)
            have h_51 := h_50.fr hfr164 (by simp only [List.mem_cons, List.not_mem_nil, or_false, not_or, not_false_eq_true]; try omega) (by simp only [List.mem_cons, List.not_mem_nil, or_false, not_or, not_false_eq_true]; try omega)
            refine G_pV (rest := []) hC hR (c_By_has h_51 (by decide) (by omega) (by omega)) cv_Te_50 h_51.obj (by decide) (by omega) (by omega) rfl rfl (Nat.le_of_ble_eq_true rfl) d_Te_read_170 ?_
            refine G_if_eq hC 190 (by have := b2i_rng (hasS b.2 (wrd 4) (start + 1) stop); omega) (by decide) d_Te_read_173 (fun c_52 => ?_) (fun c_52 => ?_)
            · have c_52 := b2i_eq0.mp c_52
              exact J190 M164 _ _ _ _ _ (hfr164.up (T := [t]) (by simp)) ho164 (or_no hrs164 (altH_f (Or.inl c_52))) (by omega)
            · have c_52 := b2i_ne0.mp c_52
              refine G_aload_n hC 0 rfl rfl d_Te_read_176 ?_
              refine G_iconst (i := 3) hC d_Te_read_177 ?_
              refine G_aload_n hC 1 rfl rfl d_Te_read_178 ?_
              refine G_iload hC 6 rfl d_Te_read_179 ?_
              refine G_iconst (i := 2) hC d_Te_read_181 ?_
              refine G_iadd hC d_Te_read_182 ?_
              refine G_iload_n hC 3 rfl rfl d_Te_read_183 ?_
              have hz184 := has_first (c := 109) c_52 ⟨by decide, by decide⟩
              refine G_xV (rest := []) hC hR (c_Te_readHost ho164 h_51 (by omega) (by omega) (by omega) (by omega) (by omega) (by omega) rfl) cv_Te_60 ⟨_, _, ho164⟩ (by decide) (by omega) (by omega) rfl rfl (Nat.le_of_ble_eq_true rfl) d_Te_read_184 (fun r_55 M_53 p_54 => ?_)
              obtain ⟨n1_56, f1_57, o1_58, rfl, h_59, h_60, fr_61⟩ := p_54
              show G E M_53 (0 + 0) (0 + 0) [(0, .ref a), (1, .ref o), (2, vI start), (3, vI stop), (4, vI (atS b.2 start)), (5, vI 1), (6, vI (start + 1))] [vI (b2i (hostS b.2 3 ((start + 1) + 2) stop).isSome)] 187
              refine G_if_ne hC 291 (by have := b2i_rng ((hostS b.2 3 ((start + 1) + 2) stop).isSome); omega) (by decide) d_Te_read_187 (fun c_62 => ?_) (fun c_62 => ?_)
              · have c_62 := b2i_ne0.mp c_62
                refine G_iconst (i := 1) hC d_Te_read_291 ?_
                refine G_goto hC 296 (by decide) d_Te_read_292 ?_
                obtain ⟨v1, hv1⟩ := isS_t c_62
                have hP := or_yes hrs164 (altH_t c_52 hv1)
                exact G_zretX _ hC hQ (by omega) (by omega) d_Te_read_296 (b2i_t (by rw [hP]; rfl)) ⟨_, _, _, _, _, rfl, (by unfold sgnS; rw [if_pos hs]; exact h_59), (fun tm htm => by rw [hP] at htm; exact (by cases htm; exact h_60 _ hv1)), ((((((fr_8.up (T := [t]) (by simp)).tr' (T := [t]) fr_11 (fun _ z => z) (by simp)).tr' (T := [t]) fr_14 (fun _ z => z) (by simp)).tr' (T := [t]) fr_17 (fun _ z => z) (by simp)).tr' (T := [t]) hfr164 (fun _ z => z) (by simp)).tr' (T := [t]) fr_61 (fun _ z => z) (by simp))⟩
              · have c_62 := b2i_eq0.mp c_62
                exact J190 M_53 _ _ _ _ _ ((hfr164.up (T := [t]) (by simp)).tr' (T := [t]) fr_61 (fun _ z => z) (by simp)) h_59 (or_no hrs164 (altH_f (Or.inr (isS_f c_62)))) (by first | omega | (have z9 := has_first (c := 109) c_52 ⟨by decide, by decide⟩; omega))
          have J138 : ∀ (M138 : Mp) (k1 : Int) (n1 : Int) (w1 : Int32) (f1 : Int) (o1 : Int), (Fr [t] M_15 M138) → (M138 a = some (t, .inr (cTe, [vI k1, vI (atS b.2 start), vI n1, .int w1, vI f1, vI o1]))) → (rs2 b.2 (start + 1) stop true = P) → ((f1 = o1) ∨ atS b.2 (start + 1) = 105) → ((n1 = 32)) → G E M138 0 0 [(0, .ref a), (1, .ref o), (2, vI start), (3, vI stop), (4, vI (atS b.2 start)), (5, vI 1), (6, vI (start + 1))] [] 138 := by
            intro M138 k1 n1 w1 f1 o1 hfr138 ho138 hrs138 hcf138 hcn138
            refine G_aload_n hC 1 rfl rfl d_Te_read_138 ?_
            refine G_ldcS (tx := "a") (i := 3) hC (by decide) d_Te_read_139 ?_
            refine G_iload hC 6 rfl d_Te_read_141 ?_
            refine G_iload_n hC 3 rfl rfl d_Te_read_143 ?_
            have h_63 := h_B_o.fr fr_8 (by simp only [List.mem_cons, List.not_mem_nil, or_false, not_or, not_false_eq_true]; try omega) (by simp only [List.mem_cons, List.not_mem_nil, or_false, not_or, not_false_eq_true]; try omega)
            have h_64 := h_63.fr fr_11 (by simp only [List.mem_cons, List.not_mem_nil, or_false, not_or, not_false_eq_true]; try omega) (by simp only [List.mem_cons, List.not_mem_nil, or_false, not_or, not_false_eq_true]; try omega)
            have h_65 := h_64.fr fr_14 (by simp only [List.mem_cons, List.not_mem_nil, or_false, not_or, not_false_eq_true]; try omega) (by simp only [List.mem_cons, List.not_mem_nil, or_false, not_or, not_false_eq_true]; try omega)
            have h_66 := h_65.fr fr_17 (by simp only [List.mem_cons, List.not_mem_nil, or_false, not_or, not_false_eq_true]; try omega) (by simp only [List.mem_cons, List.not_mem_nil, or_false, not_or, not_false_eq_true]; try omega)
            have h_67 := h_66.fr hfr138 (by simp only [List.mem_cons, List.not_mem_nil, or_false, not_or, not_false_eq_true]; try omega) (by simp only [List.mem_cons, List.not_mem_nil, or_false, not_or, not_false_eq_true]; try omega)
            refine G_pV (rest := []) hC hR (c_By_has h_67 (by decide) (by omega) (by omega)) cv_Te_50 h_67.obj (by decide) (by omega) (by omega) rfl rfl (Nat.le_of_ble_eq_true rfl) d_Te_read_144 ?_
            refine G_if_eq hC 164 (by have := b2i_rng (hasS b.2 (wrd 3) (start + 1) stop); omega) (by decide) d_Te_read_147 (fun c_68 => ?_) (fun c_68 => ?_)
            · have c_68 := b2i_eq0.mp c_68
              exact J164 M138 _ _ _ _ _ (hfr138.up (T := [t]) (by simp)) ho138 (or_no hrs138 (altH_f (Or.inl c_68))) (by omega) (by omega)
            · have c_68 := b2i_ne0.mp c_68
              refine G_aload_n hC 0 rfl rfl d_Te_read_150 ?_
              refine G_iconst (i := 2) hC d_Te_read_151 ?_
              refine G_aload_n hC 1 rfl rfl d_Te_read_152 ?_
              refine G_iload hC 6 rfl d_Te_read_153 ?_
              refine G_iconst (i := 1) hC d_Te_read_155 ?_
              refine G_iadd hC d_Te_read_156 ?_
              refine G_iload_n hC 3 rfl rfl d_Te_read_157 ?_
              have hz158 := has_first (c := 97) c_68 ⟨by decide, by decide⟩
              refine G_xV (rest := []) hC hR (c_Te_readHost ho138 h_67 (by omega) (by omega) (by omega) (by omega) (by omega) (by omega) rfl) cv_Te_60 ⟨_, _, ho138⟩ (by decide) (by omega) (by omega) rfl rfl (Nat.le_of_ble_eq_true rfl) d_Te_read_158 (fun r_71 M_69 p_70 => ?_)
              obtain ⟨n1_72, f1_73, o1_74, rfl, h_75, h_76, fr_77⟩ := p_70
              show G E M_69 (0 + 0) (0 + 0) [(0, .ref a), (1, .ref o), (2, vI start), (3, vI stop), (4, vI (atS b.2 start)), (5, vI 1), (6, vI (start + 1))] [vI (b2i (hostS b.2 2 ((start + 1) + 1) stop).isSome)] 161
              refine G_if_ne hC 291 (by have := b2i_rng ((hostS b.2 2 ((start + 1) + 1) stop).isSome); omega) (by decide) d_Te_read_161 (fun c_78 => ?_) (fun c_78 => ?_)
              · have c_78 := b2i_ne0.mp c_78
                refine G_iconst (i := 1) hC d_Te_read_291 ?_
                refine G_goto hC 296 (by decide) d_Te_read_292 ?_
                obtain ⟨v1, hv1⟩ := isS_t c_78
                have hP := or_yes hrs138 (altH_t c_68 hv1)
                exact G_zretX _ hC hQ (by omega) (by omega) d_Te_read_296 (b2i_t (by rw [hP]; rfl)) ⟨_, _, _, _, _, rfl, (by unfold sgnS; rw [if_pos hs]; exact h_75), (fun tm htm => by rw [hP] at htm; exact (by cases htm; exact h_76 _ hv1)), ((((((fr_8.up (T := [t]) (by simp)).tr' (T := [t]) fr_11 (fun _ z => z) (by simp)).tr' (T := [t]) fr_14 (fun _ z => z) (by simp)).tr' (T := [t]) fr_17 (fun _ z => z) (by simp)).tr' (T := [t]) hfr138 (fun _ z => z) (by simp)).tr' (T := [t]) fr_77 (fun _ z => z) (by simp))⟩
              · have c_78 := b2i_eq0.mp c_78
                exact J164 M_69 _ _ _ _ _ ((hfr138.up (T := [t]) (by simp)).tr' (T := [t]) fr_77 (fun _ z => z) (by simp)) h_75 (or_no hrs138 (altH_f (Or.inr (isS_f c_78)))) (by first | omega | (have z9 := has_first (c := 97) c_68 ⟨by decide, by decide⟩; omega)) (by first | omega | (have z9 := has_first (c := 97) c_68 ⟨by decide, by decide⟩; omega))
          refine G_aload_n hC 1 rfl rfl d_Te_read_100 ?_
          refine G_aload_n hC 2 rfl rfl d_Te_read_101 ?_
          refine G_iload hC 0 rfl d_Te_read_102 ?_
          refine G_iload_n hC 4 rfl rfl d_Te_read_104 ?_
          have h_79 := h_B_o.fr fr_8 (by simp only [List.mem_cons, List.not_mem_nil, or_false, not_or, not_false_eq_true]; try omega) (by simp only [List.mem_cons, List.not_mem_nil, or_false, not_or, not_false_eq_true]; try omega)
          have h_80 := h_79.fr fr_11 (by simp only [List.mem_cons, List.not_mem_nil, or_false, not_or, not_false_eq_true]; try omega) (by simp only [List.mem_cons, List.not_mem_nil, or_false, not_or, not_false_eq_true]; try omega)
          have h_81 := h_80.fr fr_14 (by simp only [List.mem_cons, List.not_mem_nil, or_false, not_or, not_false_eq_true]; try omega) (by simp only [List.mem_cons, List.not_mem_nil, or_false, not_or, not_false_eq_true]; try omega)
          have h_82 := h_81.fr fr_17 (by simp only [List.mem_cons, List.not_mem_nil, or_false, not_or, not_false_eq_true]; try omega) (by simp only [List.mem_cons, List.not_mem_nil, or_false, not_or, not_false_eq_true]; try omega)
          refine G_xV (rest := []) hC hR (c_Te_readAll h_16 h_82 (by omega) (by omega) (by omega)) cv_Te_44 ⟨_, _, h_16⟩ (by decide) (by omega) (by omega) rfl rfl (Nat.le_of_ble_eq_true rfl) d_Te_read_105 (fun r_85 M_83 p_84 => ?_)
          obtain ⟨rfl, h_86, fr_87⟩ := p_84
          show G E M_83 (0 + 0) (0 + 0) [(6, vI (start + 1)), (0, .ref a), (1, .ref o), (2, vI start), (3, vI stop), (4, vI (atS b.2 start)), (5, vI 1)] [vI (b2i (decide (stop - (start + 1) = 3 ∧ hasS b.2 (wrd 1) (start + 1) stop = true)))] 108
          refine G_if_ne hC 291 (by have := b2i_rng (decide (stop - (start + 1) = 3 ∧ hasS b.2 (wrd 1) (start + 1) stop = true)); omega) (by decide) d_Te_read_108 (fun c_88 => ?_) (fun c_88 => ?_)
          · have c_88 := b2i_ne0.mp c_88
            have c_88 := of_decide_eq_true c_88
            refine G_iconst (i := 1) hC d_Te_read_291 ?_
            refine G_goto hC 296 (by decide) d_Te_read_292 ?_
            have hP := or_yes hr (show altAll b.2 (start + 1) stop = some (0, 32, 0, none) from if_pos c_88)
            exact G_zretX _ hC hQ (by omega) (by omega) d_Te_read_296 (b2i_t (by rw [hP]; rfl)) ⟨_, _, _, _, _, rfl, (by unfold sgnS; rw [if_pos hs]; exact h_86), (fun tm htm => by rw [hP] at htm; exact (by cases htm; exact ⟨rfl, (fun z => by simp at z), (fun z => by simp at z), (fun d hd => by cases hd), (fun _ z => by simp at z)⟩)), (((((fr_8.up (T := [t]) (by simp)).tr' (T := [t]) fr_11 (fun _ z => z) (by simp)).tr' (T := [t]) fr_14 (fun _ z => z) (by simp)).tr' (T := [t]) fr_17 (fun _ z => z) (by simp)).tr' (T := [t]) fr_87 (fun _ z => z) (by simp))⟩
          · have c_88 := b2i_eq0.mp c_88
            have c_88 := of_decide_eq_false c_88
            have hrs111 := or_no hr (show altAll b.2 (start + 1) stop = none from if_neg c_88)
            refine G_aload_n hC 2 rfl rfl d_Te_read_111 ?_
            refine G_ldcS (tx := "include:") (i := 2) hC (by decide) d_Te_read_112 ?_
            refine G_iload hC 0 rfl d_Te_read_114 ?_
            refine G_iload_n hC 4 rfl rfl d_Te_read_116 ?_
            have h_89 := h_82.fr fr_87 (by simp only [List.mem_cons, List.not_mem_nil, or_false, not_or, not_false_eq_true]; try omega) (by simp only [List.mem_cons, List.not_mem_nil, or_false, not_or, not_false_eq_true]; try omega)
            refine G_pV (rest := []) hC hR (c_By_has h_89 (by decide) (by omega) (by omega)) cv_Te_50 h_89.obj (by decide) (by omega) (by omega) rfl rfl (Nat.le_of_ble_eq_true rfl) d_Te_read_117 ?_
            refine G_if_eq hC 138 (by have := b2i_rng (hasS b.2 (wrd 2) (start + 1) stop); omega) (by decide) d_Te_read_120 (fun c_90 => ?_) (fun c_90 => ?_)
            · have c_90 := b2i_eq0.mp c_90
              refine G_lv [1, 2, 3, 4, 5, 6, 0] rfl ?_
              exact J138 M_83 _ _ _ _ _ (fr_87.up (T := [t]) (by simp)) h_86 (or_no hrs111 (altT_f (Or.inl c_90))) (by first | omega | (have z9 := has_first (c := 105) c_88 ⟨by decide, by decide⟩; omega)) (by first | omega | (have z9 := has_first (c := 105) c_88 ⟨by decide, by decide⟩; omega))
            · have c_90 := b2i_ne0.mp c_90
              refine G_aload_n hC 1 rfl rfl d_Te_read_123 ?_
              refine G_iconst (i := 1) hC d_Te_read_124 ?_
              refine G_aload_n hC 2 rfl rfl d_Te_read_125 ?_
              refine G_iload hC 0 rfl d_Te_read_126 ?_
              refine G_bipush (j := 8) hC (by decide +kernel) d_Te_read_128 ?_
              refine G_iadd hC d_Te_read_130 ?_
              refine G_iload_n hC 4 rfl rfl d_Te_read_131 ?_
              refine G_xV (rest := []) hC hR (c_Te_readTarget h_86 h_89 (by omega) (by omega) (by omega)) cv_Te_54 ⟨_, _, h_86⟩ (by decide) (by omega) (by omega) rfl rfl (Nat.le_of_ble_eq_true rfl) d_Te_read_132 (fun r_93 M_91 p_92 => ?_)
              obtain ⟨rfl, h_94, fr_95⟩ := p_92
              show G E M_91 (0 + 0 + 0) (0 + 0 + 0) [(6, vI (start + 1)), (0, .ref a), (1, .ref o), (2, vI start), (3, vI stop), (4, vI (atS b.2 start)), (5, vI 1)] [vI (b2i (targS b.2 ((start + 1) + 8) stop))] 135
              refine G_if_ne hC 291 (by have := b2i_rng (targS b.2 ((start + 1) + 8) stop); omega) (by decide) d_Te_read_135 (fun c_96 => ?_) (fun c_96 => ?_)
              · have c_96 := b2i_ne0.mp c_96
                refine G_iconst (i := 1) hC d_Te_read_291 ?_
                refine G_goto hC 296 (by decide) d_Te_read_292 ?_
                have hP := or_yes hrs111 (altT_t c_90 c_96)
                exact G_zretX _ hC hQ (by omega) (by omega) d_Te_read_296 (b2i_t (by rw [hP]; rfl)) ⟨_, _, _, _, _, rfl, (by unfold sgnS; rw [if_pos hs]; exact h_94), (fun tm htm => by rw [hP] at htm; exact (by cases htm; exact ⟨rfl, (fun z => by simp at z), (fun z => by simp at z), (fun d hd => by cases hd; exact ⟨rfl, rfl⟩), (fun z => by cases z)⟩)), ((((((fr_8.up (T := [t]) (by simp)).tr' (T := [t]) fr_11 (fun _ z => z) (by simp)).tr' (T := [t]) fr_14 (fun _ z => z) (by simp)).tr' (T := [t]) fr_17 (fun _ z => z) (by simp)).tr' (T := [t]) fr_87 (fun _ z => z) (by simp)).tr' (T := [t]) fr_95 (fun _ z => z) (by simp))⟩
              · have c_96 := b2i_eq0.mp c_96
                refine G_lv [1, 2, 3, 4, 5, 6, 0] rfl ?_
                exact J138 M_91 _ _ _ _ _ ((fr_87.up (T := [t]) (by simp)).tr' (T := [t]) fr_95 (fun _ z => z) (by simp)) h_94 (or_no hrs111 (altT_f (Or.inr c_96))) (by first | omega | (have z9 := has_first (c := 105) c_90 ⟨by decide, by decide⟩; omega)) (by first | omega | (have z9 := has_first (c := 105) c_90 ⟨by decide, by decide⟩; omega))
    · obtain rfl : sgv = 0 := by rw [hsg, decide_eq_false hs]; rfl
      rw [if_neg hs, decide_eq_false hs] at hr
      refine G_iload hC 5 rfl d_Te_read_54 ?_
      refine G_if_eq hC 65 (by decide) (by decide) d_Te_read_56 (fun c_97 => ?_) (fun c_97 => ?_)
      · refine G_iload_n hC 2 rfl rfl d_Te_read_65 ?_
        refine G_istore (lv' := [(6, vI start), (0, .ref a), (1, .ref o), (2, vI start), (3, vI stop), (4, vI (atS b.2 start)), (5, vI 0)]) hC (by rw [hN]; decide) rfl d_Te_read_66 ?_
        refine G_aload_n hC 1 rfl rfl d_Te_read_68 ?_
        refine G_iload hC 6 rfl d_Te_read_69 ?_
        refine G_if_eq hC 79 (by decide) (by decide) d_Te_read_71 (fun c_98 => ?_) (fun c_98 => ?_)
        · refine G_bipush (j := 43) hC (by decide +kernel) d_Te_read_79 ?_
          refine G_putX (fs' := [vI k0, vI 43, vI n0, .int w0, vI f0, vI o0]) hC fl_Te_27 ft_Te fw_Te_1 h_obj_a rfl rfl (Nat.le_of_ble_eq_true rfl) rfl d_Te_read_81 (fun M_99 h_100 fr_101 => ?_)
          refine G_aload_n hC 1 rfl rfl d_Te_read_84 ?_
          refine G_bipush (j := 32) hC (by decide +kernel) d_Te_read_85 ?_
          refine G_putX (fs' := [vI k0, vI 43, vI 32, .int w0, vI f0, vI o0]) hC fl_Te_15 ft_Te fw_Te_2 h_100 rfl rfl (Nat.le_of_ble_eq_true rfl) rfl d_Te_read_87 (fun M_102 h_103 fr_104 => ?_)
          refine G_aload_n hC 1 rfl rfl d_Te_read_90 ?_
          refine G_iload_n hC 4 rfl rfl d_Te_read_91 ?_
          refine G_putX (fs' := [vI k0, vI 43, vI 32, .int w0, vI stop, vI o0]) hC fl_Te_21 ft_Te fw_Te_4 h_103 rfl rfl (Nat.le_of_ble_eq_true rfl) rfl d_Te_read_92 (fun M_105 h_106 fr_107 => ?_)
          refine G_aload_n hC 1 rfl rfl d_Te_read_95 ?_
          refine G_iload_n hC 4 rfl rfl d_Te_read_96 ?_
          refine G_putX (fs' := [vI k0, vI 43, vI 32, .int w0, vI stop, vI stop]) hC fl_Te_24 ft_Te fw_Te_5 h_106 rfl rfl (Nat.le_of_ble_eq_true rfl) rfl d_Te_read_97 (fun M_108 h_109 fr_110 => ?_)
          have J275 : ∀ (M275 : Mp) (k1 : Int) (n1 : Int) (w1 : Int32) (f1 : Int) (o1 : Int), (Fr [t] M_108 M275) → (M275 a = some (t, .inr (cTe, [vI k1, vI 43, vI n1, .int w1, vI f1, vI o1]))) → (rs7 b.2 (start) stop false = P) → G E M275 0 0 [(0, .ref a), (1, .ref o), (2, vI start), (3, vI stop), (4, vI (atS b.2 start)), (5, vI 0), (6, vI start)] [] 275 := by
            intro M275 k1 n1 w1 f1 o1 hfr275 ho275 hrs275
            refine G_iload hC 5 rfl d_Te_read_275 ?_
            refine G_if_ne hC 295 (by decide) (by decide) d_Te_read_277 (fun c_111 => ?_) (fun c_111 => ?_)
            · exact (show False from by omega).elim
            · refine G_aload_n hC 0 rfl rfl d_Te_read_280 ?_
              refine G_aload_n hC 1 rfl rfl d_Te_read_281 ?_
              refine G_iload hC 6 rfl d_Te_read_282 ?_
              refine G_iload_n hC 3 rfl rfl d_Te_read_284 ?_
              have h_112 := h_B_o.fr fr_101 (by simp only [List.mem_cons, List.not_mem_nil, or_false, not_or, not_false_eq_true]; try omega) (by simp only [List.mem_cons, List.not_mem_nil, or_false, not_or, not_false_eq_true]; try omega)
              have h_113 := h_112.fr fr_104 (by simp only [List.mem_cons, List.not_mem_nil, or_false, not_or, not_false_eq_true]; try omega) (by simp only [List.mem_cons, List.not_mem_nil, or_false, not_or, not_false_eq_true]; try omega)
              have h_114 := h_113.fr fr_107 (by simp only [List.mem_cons, List.not_mem_nil, or_false, not_or, not_false_eq_true]; try omega) (by simp only [List.mem_cons, List.not_mem_nil, or_false, not_or, not_false_eq_true]; try omega)
              have h_115 := h_114.fr fr_110 (by simp only [List.mem_cons, List.not_mem_nil, or_false, not_or, not_false_eq_true]; try omega) (by simp only [List.mem_cons, List.not_mem_nil, or_false, not_or, not_false_eq_true]; try omega)
              have h_116 := h_115.fr hfr275 (by simp only [List.mem_cons, List.not_mem_nil, or_false, not_or, not_false_eq_true]; try omega) (by simp only [List.mem_cons, List.not_mem_nil, or_false, not_or, not_false_eq_true]; try omega)
              refine G_xV (rest := []) hC hR (c_Te_readOther ho275 h_116 (by omega) (by omega) (by omega)) cv_Te_74 ⟨_, _, ho275⟩ (by decide) (by omega) (by omega) rfl rfl (Nat.le_of_ble_eq_true rfl) d_Te_read_285 (fun r_119 M_117 p_118 => ?_)
              obtain ⟨rfl, h_120, fr_121⟩ := p_118
              show G E M_117 (0 + 0) (0 + 0) [(0, .ref a), (1, .ref o), (2, vI start), (3, vI stop), (4, vI (atS b.2 start)), (5, vI 0), (6, vI start)] [vI (b2i (altO b.2 start stop).isSome)] 288
              refine G_if_eq hC 295 (by have := b2i_rng ((altO b.2 start stop).isSome); omega) (by decide) d_Te_read_288 (fun c_122 => ?_) (fun c_122 => ?_)
              · have c_122 := b2i_eq0.mp c_122
                refine G_iconst (i := 0) hC d_Te_read_295 ?_
                have hP : P = none := (show altO b.2 (start) stop = P from hrs275).symm.trans (isS_f c_122)
                exact G_zretX _ hC hQ (by omega) (by omega) d_Te_read_296 (b2i_f (by rw [hP]; rfl)) ⟨_, _, _, _, _, rfl, (by unfold sgnS; rw [if_neg hs]; exact h_120), (fun tm htm => by rw [hP] at htm; cases htm), ((((((fr_101.up (T := [t]) (by simp)).tr' (T := [t]) fr_104 (fun _ z => z) (by simp)).tr' (T := [t]) fr_107 (fun _ z => z) (by simp)).tr' (T := [t]) fr_110 (fun _ z => z) (by simp)).tr' (T := [t]) hfr275 (fun _ z => z) (by simp)).tr' (T := [t]) fr_121 (fun _ z => z) (by simp))⟩
              · have c_122 := b2i_ne0.mp c_122
                refine G_iconst (i := 1) hC d_Te_read_291 ?_
                refine G_goto hC 296 (by decide) d_Te_read_292 ?_
                obtain ⟨v1, hv1⟩ := isS_t c_122
                have hP := (show altO b.2 (start) stop = P from hrs275).symm.trans hv1
                exact G_zretX _ hC hQ (by omega) (by omega) d_Te_read_296 (b2i_t (by rw [hP]; rfl)) ⟨_, _, _, _, _, rfl, (by unfold sgnS; rw [if_neg hs]; exact h_120), (fun tm htm => by rw [hP] at htm; exact (by have e9 := altO_is hv1; subst e9; cases htm; exact ⟨rfl, (fun z => by simp at z), (fun z => by simp at z), (fun d hd => by cases hd), (fun _ z => by simp at z)⟩)), ((((((fr_101.up (T := [t]) (by simp)).tr' (T := [t]) fr_104 (fun _ z => z) (by simp)).tr' (T := [t]) fr_107 (fun _ z => z) (by simp)).tr' (T := [t]) fr_110 (fun _ z => z) (by simp)).tr' (T := [t]) hfr275 (fun _ z => z) (by simp)).tr' (T := [t]) fr_121 (fun _ z => z) (by simp))⟩
          have J242 : ∀ (M242 : Mp) (k1 : Int) (n1 : Int) (w1 : Int32) (f1 : Int) (o1 : Int), (Fr [t] M_108 M242) → (M242 a = some (t, .inr (cTe, [vI k1, vI 43, vI n1, .int w1, vI f1, vI o1]))) → (rs6 b.2 (start) stop false = P) → G E M242 0 0 [(0, .ref a), (1, .ref o), (2, vI start), (3, vI stop), (4, vI (atS b.2 start)), (5, vI 0), (6, vI start)] [] 242 := by
            intro M242 k1 n1 w1 f1 o1 hfr242 ho242 hrs242
            refine G_iload hC 5 rfl d_Te_read_242 ?_
            refine G_if_ne hC 275 (by decide) (by decide) d_Te_read_244 (fun c_123 => ?_) (fun c_123 => ?_)
            · exact (show False from by omega).elim
            · refine G_aload_n hC 1 rfl rfl d_Te_read_247 ?_
              refine G_ldcS (tx := "redirect=") (i := 7) hC (by decide) d_Te_read_248 ?_
              refine G_iload hC 6 rfl d_Te_read_250 ?_
              refine G_iload_n hC 3 rfl rfl d_Te_read_252 ?_
              have h_124 := h_B_o.fr fr_101 (by simp only [List.mem_cons, List.not_mem_nil, or_false, not_or, not_false_eq_true]; try omega) (by simp only [List.mem_cons, List.not_mem_nil, or_false, not_or, not_false_eq_true]; try omega)
              have h_125 := h_124.fr fr_104 (by simp only [List.mem_cons, List.not_mem_nil, or_false, not_or, not_false_eq_true]; try omega) (by simp only [List.mem_cons, List.not_mem_nil, or_false, not_or, not_false_eq_true]; try omega)
              have h_126 := h_125.fr fr_107 (by simp only [List.mem_cons, List.not_mem_nil, or_false, not_or, not_false_eq_true]; try omega) (by simp only [List.mem_cons, List.not_mem_nil, or_false, not_or, not_false_eq_true]; try omega)
              have h_127 := h_126.fr fr_110 (by simp only [List.mem_cons, List.not_mem_nil, or_false, not_or, not_false_eq_true]; try omega) (by simp only [List.mem_cons, List.not_mem_nil, or_false, not_or, not_false_eq_true]; try omega)
              have h_128 := h_127.fr hfr242 (by simp only [List.mem_cons, List.not_mem_nil, or_false, not_or, not_false_eq_true]; try omega) (by simp only [List.mem_cons, List.not_mem_nil, or_false, not_or, not_false_eq_true]; try omega)
              refine G_pV (rest := []) hC hR (c_By_has h_128 (by decide) (by omega) (by omega)) cv_Te_50 h_128.obj (by decide) (by omega) (by omega) rfl rfl (Nat.le_of_ble_eq_true rfl) d_Te_read_253 ?_
              refine G_if_eq hC 275 (by have := b2i_rng (hasS b.2 (wrd 7) start stop); omega) (by decide) d_Te_read_256 (fun c_129 => ?_) (fun c_129 => ?_)
              · have c_129 := b2i_eq0.mp c_129
                exact J275 M242 _ _ _ _ _ (hfr242.up (T := [t]) (by simp)) ho242 (or_no hrs242 (altT_f (Or.inl c_129)))
              · have c_129 := b2i_ne0.mp c_129
                refine G_aload_n hC 0 rfl rfl d_Te_read_259 ?_
                refine G_bipush (j := 6) hC (by decide +kernel) d_Te_read_260 ?_
                refine G_aload_n hC 1 rfl rfl d_Te_read_262 ?_
                refine G_iload hC 6 rfl d_Te_read_263 ?_
                refine G_bipush (j := 9) hC (by decide +kernel) d_Te_read_265 ?_
                refine G_iadd hC d_Te_read_267 ?_
                refine G_iload_n hC 3 rfl rfl d_Te_read_268 ?_
                refine G_xV (rest := []) hC hR (c_Te_readTarget ho242 h_128 (by omega) (by omega) (by omega)) cv_Te_54 ⟨_, _, ho242⟩ (by decide) (by omega) (by omega) rfl rfl (Nat.le_of_ble_eq_true rfl) d_Te_read_269 (fun r_132 M_130 p_131 => ?_)
                obtain ⟨rfl, h_133, fr_134⟩ := p_131
                show G E M_130 (0 + 0) (0 + 0) [(0, .ref a), (1, .ref o), (2, vI start), (3, vI stop), (4, vI (atS b.2 start)), (5, vI 0), (6, vI start)] [vI (b2i (targS b.2 (start + 9) stop))] 272
                refine G_if_ne hC 291 (by have := b2i_rng (targS b.2 (start + 9) stop); omega) (by decide) d_Te_read_272 (fun c_135 => ?_) (fun c_135 => ?_)
                · have c_135 := b2i_ne0.mp c_135
                  refine G_iconst (i := 1) hC d_Te_read_291 ?_
                  refine G_goto hC 296 (by decide) d_Te_read_292 ?_
                  have hP := or_yes hrs242 (altT_t c_129 c_135)
                  exact G_zretX _ hC hQ (by omega) (by omega) d_Te_read_296 (b2i_t (by rw [hP]; rfl)) ⟨_, _, _, _, _, rfl, (by unfold sgnS; rw [if_neg hs]; exact h_133), (fun tm htm => by rw [hP] at htm; exact (by cases htm; exact ⟨rfl, (fun z => by simp at z), (fun z => by simp at z), (fun d hd => by cases hd; exact ⟨rfl, rfl⟩), (fun z => by cases z)⟩)), ((((((fr_101.up (T := [t]) (by simp)).tr' (T := [t]) fr_104 (fun _ z => z) (by simp)).tr' (T := [t]) fr_107 (fun _ z => z) (by simp)).tr' (T := [t]) fr_110 (fun _ z => z) (by simp)).tr' (T := [t]) hfr242 (fun _ z => z) (by simp)).tr' (T := [t]) fr_134 (fun _ z => z) (by simp))⟩
                · have c_135 := b2i_eq0.mp c_135
                  exact J275 M_130 _ _ _ _ _ ((hfr242.up (T := [t]) (by simp)).tr' (T := [t]) fr_134 (fun _ z => z) (by simp)) h_133 (or_no hrs242 (altT_f (Or.inr c_135)))
          have J215 : ∀ (M215 : Mp) (k1 : Int) (n1 : Int) (w1 : Int32) (f1 : Int) (o1 : Int), (Fr [t] M_108 M215) → (M215 a = some (t, .inr (cTe, [vI k1, vI 43, vI n1, .int w1, vI f1, vI o1]))) → (rs5 b.2 (start) stop false = P) → G E M215 0 0 [(0, .ref a), (1, .ref o), (2, vI start), (3, vI stop), (4, vI (atS b.2 start)), (5, vI 0), (6, vI start)] [] 215 := by
            intro M215 k1 n1 w1 f1 o1 hfr215 ho215 hrs215
            refine G_aload_n hC 1 rfl rfl d_Te_read_215 ?_
            refine G_ldcS (tx := "exists:") (i := 6) hC (by decide) d_Te_read_216 ?_
            refine G_iload hC 6 rfl d_Te_read_218 ?_
            refine G_iload_n hC 3 rfl rfl d_Te_read_220 ?_
            have h_136 := h_B_o.fr fr_101 (by simp only [List.mem_cons, List.not_mem_nil, or_false, not_or, not_false_eq_true]; try omega) (by simp only [List.mem_cons, List.not_mem_nil, or_false, not_or, not_false_eq_true]; try omega)
            have h_137 := h_136.fr fr_104 (by simp only [List.mem_cons, List.not_mem_nil, or_false, not_or, not_false_eq_true]; try omega) (by simp only [List.mem_cons, List.not_mem_nil, or_false, not_or, not_false_eq_true]; try omega)
            have h_138 := h_137.fr fr_107 (by simp only [List.mem_cons, List.not_mem_nil, or_false, not_or, not_false_eq_true]; try omega) (by simp only [List.mem_cons, List.not_mem_nil, or_false, not_or, not_false_eq_true]; try omega)
            have h_139 := h_138.fr fr_110 (by simp only [List.mem_cons, List.not_mem_nil, or_false, not_or, not_false_eq_true]; try omega) (by simp only [List.mem_cons, List.not_mem_nil, or_false, not_or, not_false_eq_true]; try omega)
            have h_140 := h_139.fr hfr215 (by simp only [List.mem_cons, List.not_mem_nil, or_false, not_or, not_false_eq_true]; try omega) (by simp only [List.mem_cons, List.not_mem_nil, or_false, not_or, not_false_eq_true]; try omega)
            refine G_pV (rest := []) hC hR (c_By_has h_140 (by decide) (by omega) (by omega)) cv_Te_50 h_140.obj (by decide) (by omega) (by omega) rfl rfl (Nat.le_of_ble_eq_true rfl) d_Te_read_221 ?_
            refine G_if_eq hC 242 (by have := b2i_rng (hasS b.2 (wrd 6) start stop); omega) (by decide) d_Te_read_224 (fun c_141 => ?_) (fun c_141 => ?_)
            · have c_141 := b2i_eq0.mp c_141
              exact J242 M215 _ _ _ _ _ (hfr215.up (T := [t]) (by simp)) ho215 (or_no hrs215 (altT_f (Or.inl c_141)))
            · have c_141 := b2i_ne0.mp c_141
              refine G_aload_n hC 0 rfl rfl d_Te_read_227 ?_
              refine G_iconst (i := 5) hC d_Te_read_228 ?_
              refine G_aload_n hC 1 rfl rfl d_Te_read_229 ?_
              refine G_iload hC 6 rfl d_Te_read_230 ?_
              refine G_bipush (j := 7) hC (by decide +kernel) d_Te_read_232 ?_
              refine G_iadd hC d_Te_read_234 ?_
              refine G_iload_n hC 3 rfl rfl d_Te_read_235 ?_
              refine G_xV (rest := []) hC hR (c_Te_readTarget ho215 h_140 (by omega) (by omega) (by omega)) cv_Te_54 ⟨_, _, ho215⟩ (by decide) (by omega) (by omega) rfl rfl (Nat.le_of_ble_eq_true rfl) d_Te_read_236 (fun r_144 M_142 p_143 => ?_)
              obtain ⟨rfl, h_145, fr_146⟩ := p_143
              show G E M_142 (0 + 0) (0 + 0) [(0, .ref a), (1, .ref o), (2, vI start), (3, vI stop), (4, vI (atS b.2 start)), (5, vI 0), (6, vI start)] [vI (b2i (targS b.2 (start + 7) stop))] 239
              refine G_if_ne hC 291 (by have := b2i_rng (targS b.2 (start + 7) stop); omega) (by decide) d_Te_read_239 (fun c_147 => ?_) (fun c_147 => ?_)
              · have c_147 := b2i_ne0.mp c_147
                refine G_iconst (i := 1) hC d_Te_read_291 ?_
                refine G_goto hC 296 (by decide) d_Te_read_292 ?_
                have hP := or_yes hrs215 (altT_t c_141 c_147)
                exact G_zretX _ hC hQ (by omega) (by omega) d_Te_read_296 (b2i_t (by rw [hP]; rfl)) ⟨_, _, _, _, _, rfl, (by unfold sgnS; rw [if_neg hs]; exact h_145), (fun tm htm => by rw [hP] at htm; exact (by cases htm; exact ⟨rfl, (fun z => by simp at z), (fun z => by simp at z), (fun d hd => by cases hd; exact ⟨rfl, rfl⟩), (fun z => by cases z)⟩)), ((((((fr_101.up (T := [t]) (by simp)).tr' (T := [t]) fr_104 (fun _ z => z) (by simp)).tr' (T := [t]) fr_107 (fun _ z => z) (by simp)).tr' (T := [t]) fr_110 (fun _ z => z) (by simp)).tr' (T := [t]) hfr215 (fun _ z => z) (by simp)).tr' (T := [t]) fr_146 (fun _ z => z) (by simp))⟩
              · have c_147 := b2i_eq0.mp c_147
                exact J242 M_142 _ _ _ _ _ ((hfr215.up (T := [t]) (by simp)).tr' (T := [t]) fr_146 (fun _ z => z) (by simp)) h_145 (or_no hrs215 (altT_f (Or.inr c_147)))
          have J190 : ∀ (M190 : Mp) (k1 : Int) (n1 : Int) (w1 : Int32) (f1 : Int) (o1 : Int), (Fr [t] M_108 M190) → (M190 a = some (t, .inr (cTe, [vI k1, vI 43, vI n1, .int w1, vI f1, vI o1]))) → (rs4 b.2 (start) stop false = P) → ((n1 = 32) ∨ atS b.2 (start) = 97 ∨ atS b.2 (start) = 109) → G E M190 0 0 [(0, .ref a), (1, .ref o), (2, vI start), (3, vI stop), (4, vI (atS b.2 start)), (5, vI 0), (6, vI start)] [] 190 := by
            intro M190 k1 n1 w1 f1 o1 hfr190 ho190 hrs190 hcn190
            refine G_aload_n hC 1 rfl rfl d_Te_read_190 ?_
            refine G_ldcS (tx := "ip4:") (i := 5) hC (by decide) d_Te_read_191 ?_
            refine G_iload hC 6 rfl d_Te_read_193 ?_
            refine G_iload_n hC 3 rfl rfl d_Te_read_195 ?_
            have h_148 := h_B_o.fr fr_101 (by simp only [List.mem_cons, List.not_mem_nil, or_false, not_or, not_false_eq_true]; try omega) (by simp only [List.mem_cons, List.not_mem_nil, or_false, not_or, not_false_eq_true]; try omega)
            have h_149 := h_148.fr fr_104 (by simp only [List.mem_cons, List.not_mem_nil, or_false, not_or, not_false_eq_true]; try omega) (by simp only [List.mem_cons, List.not_mem_nil, or_false, not_or, not_false_eq_true]; try omega)
            have h_150 := h_149.fr fr_107 (by simp only [List.mem_cons, List.not_mem_nil, or_false, not_or, not_false_eq_true]; try omega) (by simp only [List.mem_cons, List.not_mem_nil, or_false, not_or, not_false_eq_true]; try omega)
            have h_151 := h_150.fr fr_110 (by simp only [List.mem_cons, List.not_mem_nil, or_false, not_or, not_false_eq_true]; try omega) (by simp only [List.mem_cons, List.not_mem_nil, or_false, not_or, not_false_eq_true]; try omega)
            have h_152 := h_151.fr hfr190 (by simp only [List.mem_cons, List.not_mem_nil, or_false, not_or, not_false_eq_true]; try omega) (by simp only [List.mem_cons, List.not_mem_nil, or_false, not_or, not_false_eq_true]; try omega)
            refine G_pV (rest := []) hC hR (c_By_has h_152 (by decide) (by omega) (by omega)) cv_Te_50 h_152.obj (by decide) (by omega) (by omega) rfl rfl (Nat.le_of_ble_eq_true rfl) d_Te_read_196 ?_
            refine G_if_eq hC 215 (by have := b2i_rng (hasS b.2 (wrd 5) start stop); omega) (by decide) d_Te_read_199 (fun c_153 => ?_) (fun c_153 => ?_)
            · have c_153 := b2i_eq0.mp c_153
              exact J215 M190 _ _ _ _ _ (hfr190.up (T := [t]) (by simp)) ho190 (or_no hrs190 (altI_f (Or.inl c_153)))
            · have c_153 := b2i_ne0.mp c_153
              refine G_aload_n hC 0 rfl rfl d_Te_read_202 ?_
              refine G_aload_n hC 1 rfl rfl d_Te_read_203 ?_
              refine G_iload hC 6 rfl d_Te_read_204 ?_
              refine G_iconst (i := 4) hC d_Te_read_206 ?_
              refine G_iadd hC d_Te_read_207 ?_
              refine G_iload_n hC 3 rfl rfl d_Te_read_208 ?_
              have hz209 := has_first (c := 105) c_153 ⟨by decide, by decide⟩
              refine G_xV (rest := []) hC hR (c_Te_readNetwork ho190 h_152 (by omega) (by omega) (by omega) (by omega) rfl) cv_Te_67 ⟨_, _, ho190⟩ (by decide) (by omega) (by omega) rfl rfl (Nat.le_of_ble_eq_true rfl) d_Te_read_209 (fun r_156 M_154 p_155 => ?_)
              obtain ⟨n1_157, w1_158, rfl, h_159, h_160, fr_161⟩ := p_155
              show G E M_154 (0 + 0) (0 + 0) [(0, .ref a), (1, .ref o), (2, vI start), (3, vI stop), (4, vI (atS b.2 start)), (5, vI 0), (6, vI start)] [vI (b2i (ip4S b.2 (start + 4) stop).isSome)] 212
              refine G_if_ne hC 291 (by have := b2i_rng ((ip4S b.2 (start + 4) stop).isSome); omega) (by decide) d_Te_read_212 (fun c_162 => ?_) (fun c_162 => ?_)
              · have c_162 := b2i_ne0.mp c_162
                refine G_iconst (i := 1) hC d_Te_read_291 ?_
                refine G_goto hC 296 (by decide) d_Te_read_292 ?_
                obtain ⟨v1, hv1⟩ := isS_t c_162
                have hP := or_yes hrs190 (altI_t c_153 hv1)
                exact G_zretX _ hC hQ (by omega) (by omega) d_Te_read_296 (b2i_t (by rw [hP]; rfl)) ⟨_, _, _, _, _, rfl, (by unfold sgnS; rw [if_neg hs]; exact h_159), (fun tm htm => by rw [hP] at htm; exact (by cases htm; exact h_160 _ hv1)), ((((((fr_101.up (T := [t]) (by simp)).tr' (T := [t]) fr_104 (fun _ z => z) (by simp)).tr' (T := [t]) fr_107 (fun _ z => z) (by simp)).tr' (T := [t]) fr_110 (fun _ z => z) (by simp)).tr' (T := [t]) hfr190 (fun _ z => z) (by simp)).tr' (T := [t]) fr_161 (fun _ z => z) (by simp))⟩
              · have c_162 := b2i_eq0.mp c_162
                exact J215 M_154 _ _ _ _ _ ((hfr190.up (T := [t]) (by simp)).tr' (T := [t]) fr_161 (fun _ z => z) (by simp)) h_159 (or_no hrs190 (altI_f (Or.inr (isS_f c_162))))
          have J164 : ∀ (M164 : Mp) (k1 : Int) (n1 : Int) (w1 : Int32) (f1 : Int) (o1 : Int), (Fr [t] M_108 M164) → (M164 a = some (t, .inr (cTe, [vI k1, vI 43, vI n1, .int w1, vI f1, vI o1]))) → (rs3 b.2 (start) stop false = P) → ((f1 = o1) ∨ atS b.2 (start) = 105 ∨ atS b.2 (start) = 97) → ((n1 = 32) ∨ atS b.2 (start) = 97) → G E M164 0 0 [(0, .ref a), (1, .ref o), (2, vI start), (3, vI stop), (4, vI (atS b.2 start)), (5, vI 0), (6, vI start)] [] 164 := by
            intro M164 k1 n1 w1 f1 o1 hfr164 ho164 hrs164 hcf164 hcn164
            refine G_aload_n hC 1 rfl rfl d_Te_read_164 ?_
            refine G_ldcS (tx := "mx") (i := 4) hC (by decide) d_Te_read_165 ?_
            refine G_iload hC 6 rfl d_Te_read_167 ?_
            refine G_iload_n hC 3 rfl rfl d_Te_read_169 ?_
            have h_163 := h_B_o.fr fr_101 (by simp only [List.mem_cons, List.not_mem_nil, or_false, not_or, not_false_eq_true]; try omega) (by simp only [List.mem_cons, List.not_mem_nil, or_false, not_or, not_false_eq_true]; try omega)
            have h_164 := h_163.fr fr_104 (by simp only [List.mem_cons, List.not_mem_nil, or_false, not_or, not_false_eq_true]; try omega) (by simp only [List.mem_cons, List.not_mem_nil, or_false, not_or, not_false_eq_true]; try omega)
            have h_165 := h_164.fr fr_107 (by simp only [List.mem_cons, List.not_mem_nil, or_false, not_or, not_false_eq_true]; try omega) (by simp only [List.mem_cons, List.not_mem_nil, or_false, not_or, not_false_eq_true]; try omega)
            have h_166 := h_165.fr fr_110 (by simp only [List.mem_cons, List.not_mem_nil, or_false, not_or, not_false_eq_true]; try omega) (by simp only [List.mem_cons, List.not_mem_nil, or_false, not_or, not_false_eq_true]; try omega)
            have h_167 := h_166.fr hfr164 (by simp only [List.mem_cons, List.not_mem_nil, or_false, not_or, not_false_eq_true]; try omega) (by simp only [List.mem_cons, List.not_mem_nil, or_false, not_or, not_false_eq_true]; try omega)
            refine G_pV (rest := []) hC hR (c_By_has h_167 (by decide) (by omega) (by omega)) cv_Te_50 h_167.obj (by decide) (by omega) (by omega) rfl rfl (Nat.le_of_ble_eq_true rfl) d_Te_read_170 ?_
            refine G_if_eq hC 190 (by have := b2i_rng (hasS b.2 (wrd 4) start stop); omega) (by decide) d_Te_read_173 (fun c_168 => ?_) (fun c_168 => ?_)
            · have c_168 := b2i_eq0.mp c_168
              exact J190 M164 _ _ _ _ _ (hfr164.up (T := [t]) (by simp)) ho164 (or_no hrs164 (altH_f (Or.inl c_168))) (by omega)
            · have c_168 := b2i_ne0.mp c_168
              refine G_aload_n hC 0 rfl rfl d_Te_read_176 ?_
              refine G_iconst (i := 3) hC d_Te_read_177 ?_
              refine G_aload_n hC 1 rfl rfl d_Te_read_178 ?_
              refine G_iload hC 6 rfl d_Te_read_179 ?_
              refine G_iconst (i := 2) hC d_Te_read_181 ?_
              refine G_iadd hC d_Te_read_182 ?_
              refine G_iload_n hC 3 rfl rfl d_Te_read_183 ?_
              have hz184 := has_first (c := 109) c_168 ⟨by decide, by decide⟩
              refine G_xV (rest := []) hC hR (c_Te_readHost ho164 h_167 (by omega) (by omega) (by omega) (by omega) (by omega) (by omega) rfl) cv_Te_60 ⟨_, _, ho164⟩ (by decide) (by omega) (by omega) rfl rfl (Nat.le_of_ble_eq_true rfl) d_Te_read_184 (fun r_171 M_169 p_170 => ?_)
              obtain ⟨n1_172, f1_173, o1_174, rfl, h_175, h_176, fr_177⟩ := p_170
              show G E M_169 (0 + 0) (0 + 0) [(0, .ref a), (1, .ref o), (2, vI start), (3, vI stop), (4, vI (atS b.2 start)), (5, vI 0), (6, vI start)] [vI (b2i (hostS b.2 3 (start + 2) stop).isSome)] 187
              refine G_if_ne hC 291 (by have := b2i_rng ((hostS b.2 3 (start + 2) stop).isSome); omega) (by decide) d_Te_read_187 (fun c_178 => ?_) (fun c_178 => ?_)
              · have c_178 := b2i_ne0.mp c_178
                refine G_iconst (i := 1) hC d_Te_read_291 ?_
                refine G_goto hC 296 (by decide) d_Te_read_292 ?_
                obtain ⟨v1, hv1⟩ := isS_t c_178
                have hP := or_yes hrs164 (altH_t c_168 hv1)
                exact G_zretX _ hC hQ (by omega) (by omega) d_Te_read_296 (b2i_t (by rw [hP]; rfl)) ⟨_, _, _, _, _, rfl, (by unfold sgnS; rw [if_neg hs]; exact h_175), (fun tm htm => by rw [hP] at htm; exact (by cases htm; exact h_176 _ hv1)), ((((((fr_101.up (T := [t]) (by simp)).tr' (T := [t]) fr_104 (fun _ z => z) (by simp)).tr' (T := [t]) fr_107 (fun _ z => z) (by simp)).tr' (T := [t]) fr_110 (fun _ z => z) (by simp)).tr' (T := [t]) hfr164 (fun _ z => z) (by simp)).tr' (T := [t]) fr_177 (fun _ z => z) (by simp))⟩
              · have c_178 := b2i_eq0.mp c_178
                exact J190 M_169 _ _ _ _ _ ((hfr164.up (T := [t]) (by simp)).tr' (T := [t]) fr_177 (fun _ z => z) (by simp)) h_175 (or_no hrs164 (altH_f (Or.inr (isS_f c_178)))) (by first | omega | (have z9 := has_first (c := 109) c_168 ⟨by decide, by decide⟩; omega))
          have J138 : ∀ (M138 : Mp) (k1 : Int) (n1 : Int) (w1 : Int32) (f1 : Int) (o1 : Int), (Fr [t] M_108 M138) → (M138 a = some (t, .inr (cTe, [vI k1, vI 43, vI n1, .int w1, vI f1, vI o1]))) → (rs2 b.2 (start) stop false = P) → ((f1 = o1) ∨ atS b.2 (start) = 105) → ((n1 = 32)) → G E M138 0 0 [(0, .ref a), (1, .ref o), (2, vI start), (3, vI stop), (4, vI (atS b.2 start)), (5, vI 0), (6, vI start)] [] 138 := by
            intro M138 k1 n1 w1 f1 o1 hfr138 ho138 hrs138 hcf138 hcn138
            refine G_aload_n hC 1 rfl rfl d_Te_read_138 ?_
            refine G_ldcS (tx := "a") (i := 3) hC (by decide) d_Te_read_139 ?_
            refine G_iload hC 6 rfl d_Te_read_141 ?_
            refine G_iload_n hC 3 rfl rfl d_Te_read_143 ?_
            have h_179 := h_B_o.fr fr_101 (by simp only [List.mem_cons, List.not_mem_nil, or_false, not_or, not_false_eq_true]; try omega) (by simp only [List.mem_cons, List.not_mem_nil, or_false, not_or, not_false_eq_true]; try omega)
            have h_180 := h_179.fr fr_104 (by simp only [List.mem_cons, List.not_mem_nil, or_false, not_or, not_false_eq_true]; try omega) (by simp only [List.mem_cons, List.not_mem_nil, or_false, not_or, not_false_eq_true]; try omega)
            have h_181 := h_180.fr fr_107 (by simp only [List.mem_cons, List.not_mem_nil, or_false, not_or, not_false_eq_true]; try omega) (by simp only [List.mem_cons, List.not_mem_nil, or_false, not_or, not_false_eq_true]; try omega)
            have h_182 := h_181.fr fr_110 (by simp only [List.mem_cons, List.not_mem_nil, or_false, not_or, not_false_eq_true]; try omega) (by simp only [List.mem_cons, List.not_mem_nil, or_false, not_or, not_false_eq_true]; try omega)
            have h_183 := h_182.fr hfr138 (by simp only [List.mem_cons, List.not_mem_nil, or_false, not_or, not_false_eq_true]; try omega) (by simp only [List.mem_cons, List.not_mem_nil, or_false, not_or, not_false_eq_true]; try omega)
            refine G_pV (rest := []) hC hR (c_By_has h_183 (by decide) (by omega) (by omega)) cv_Te_50 h_183.obj (by decide) (by omega) (by omega) rfl rfl (Nat.le_of_ble_eq_true rfl) d_Te_read_144 ?_
            refine G_if_eq hC 164 (by have := b2i_rng (hasS b.2 (wrd 3) start stop); omega) (by decide) d_Te_read_147 (fun c_184 => ?_) (fun c_184 => ?_)
            · have c_184 := b2i_eq0.mp c_184
              exact J164 M138 _ _ _ _ _ (hfr138.up (T := [t]) (by simp)) ho138 (or_no hrs138 (altH_f (Or.inl c_184))) (by omega) (by omega)
            · have c_184 := b2i_ne0.mp c_184
              refine G_aload_n hC 0 rfl rfl d_Te_read_150 ?_
              refine G_iconst (i := 2) hC d_Te_read_151 ?_
              refine G_aload_n hC 1 rfl rfl d_Te_read_152 ?_
              refine G_iload hC 6 rfl d_Te_read_153 ?_
              refine G_iconst (i := 1) hC d_Te_read_155 ?_
              refine G_iadd hC d_Te_read_156 ?_
              refine G_iload_n hC 3 rfl rfl d_Te_read_157 ?_
              have hz158 := has_first (c := 97) c_184 ⟨by decide, by decide⟩
              refine G_xV (rest := []) hC hR (c_Te_readHost ho138 h_183 (by omega) (by omega) (by omega) (by omega) (by omega) (by omega) rfl) cv_Te_60 ⟨_, _, ho138⟩ (by decide) (by omega) (by omega) rfl rfl (Nat.le_of_ble_eq_true rfl) d_Te_read_158 (fun r_187 M_185 p_186 => ?_)
              obtain ⟨n1_188, f1_189, o1_190, rfl, h_191, h_192, fr_193⟩ := p_186
              show G E M_185 (0 + 0) (0 + 0) [(0, .ref a), (1, .ref o), (2, vI start), (3, vI stop), (4, vI (atS b.2 start)), (5, vI 0), (6, vI start)] [vI (b2i (hostS b.2 2 (start + 1) stop).isSome)] 161
              refine G_if_ne hC 291 (by have := b2i_rng ((hostS b.2 2 (start + 1) stop).isSome); omega) (by decide) d_Te_read_161 (fun c_194 => ?_) (fun c_194 => ?_)
              · have c_194 := b2i_ne0.mp c_194
                refine G_iconst (i := 1) hC d_Te_read_291 ?_
                refine G_goto hC 296 (by decide) d_Te_read_292 ?_
                obtain ⟨v1, hv1⟩ := isS_t c_194
                have hP := or_yes hrs138 (altH_t c_184 hv1)
                exact G_zretX _ hC hQ (by omega) (by omega) d_Te_read_296 (b2i_t (by rw [hP]; rfl)) ⟨_, _, _, _, _, rfl, (by unfold sgnS; rw [if_neg hs]; exact h_191), (fun tm htm => by rw [hP] at htm; exact (by cases htm; exact h_192 _ hv1)), ((((((fr_101.up (T := [t]) (by simp)).tr' (T := [t]) fr_104 (fun _ z => z) (by simp)).tr' (T := [t]) fr_107 (fun _ z => z) (by simp)).tr' (T := [t]) fr_110 (fun _ z => z) (by simp)).tr' (T := [t]) hfr138 (fun _ z => z) (by simp)).tr' (T := [t]) fr_193 (fun _ z => z) (by simp))⟩
              · have c_194 := b2i_eq0.mp c_194
                exact J164 M_185 _ _ _ _ _ ((hfr138.up (T := [t]) (by simp)).tr' (T := [t]) fr_193 (fun _ z => z) (by simp)) h_191 (or_no hrs138 (altH_f (Or.inr (isS_f c_194)))) (by first | omega | (have z9 := has_first (c := 97) c_184 ⟨by decide, by decide⟩; omega)) (by first | omega | (have z9 := has_first (c := 97) c_184 ⟨by decide, by decide⟩; omega))
          refine G_aload_n hC 1 rfl rfl d_Te_read_100 ?_
          refine G_aload_n hC 2 rfl rfl d_Te_read_101 ?_
          refine G_iload hC 0 rfl d_Te_read_102 ?_
          refine G_iload_n hC 4 rfl rfl d_Te_read_104 ?_
          have h_195 := h_B_o.fr fr_101 (by simp only [List.mem_cons, List.not_mem_nil, or_false, not_or, not_false_eq_true]; try omega) (by simp only [List.mem_cons, List.not_mem_nil, or_false, not_or, not_false_eq_true]; try omega)
          have h_196 := h_195.fr fr_104 (by simp only [List.mem_cons, List.not_mem_nil, or_false, not_or, not_false_eq_true]; try omega) (by simp only [List.mem_cons, List.not_mem_nil, or_false, not_or, not_false_eq_true]; try omega)
          have h_197 := h_196.fr fr_107 (by simp only [List.mem_cons, List.not_mem_nil, or_false, not_or, not_false_eq_true]; try omega) (by simp only [List.mem_cons, List.not_mem_nil, or_false, not_or, not_false_eq_true]; try omega)
          have h_198 := h_197.fr fr_110 (by simp only [List.mem_cons, List.not_mem_nil, or_false, not_or, not_false_eq_true]; try omega) (by simp only [List.mem_cons, List.not_mem_nil, or_false, not_or, not_false_eq_true]; try omega)
          refine G_xV (rest := []) hC hR (c_Te_readAll h_109 h_198 (by omega) (by omega) (by omega)) cv_Te_44 ⟨_, _, h_109⟩ (by decide) (by omega) (by omega) rfl rfl (Nat.le_of_ble_eq_true rfl) d_Te_read_105 (fun r_201 M_199 p_200 => ?_)
          obtain ⟨rfl, h_202, fr_203⟩ := p_200
          show G E M_199 (0 + 0) (0 + 0) [(6, vI start), (0, .ref a), (1, .ref o), (2, vI start), (3, vI stop), (4, vI (atS b.2 start)), (5, vI 0)] [vI (b2i (decide (stop - start = 3 ∧ hasS b.2 (wrd 1) start stop = true)))] 108
          refine G_if_ne hC 291 (by have := b2i_rng (decide (stop - start = 3 ∧ hasS b.2 (wrd 1) start stop = true)); omega) (by decide) d_Te_read_108 (fun c_204 => ?_) (fun c_204 => ?_)
          · have c_204 := b2i_ne0.mp c_204
            have c_204 := of_decide_eq_true c_204
            refine G_iconst (i := 1) hC d_Te_read_291 ?_
            refine G_goto hC 296 (by decide) d_Te_read_292 ?_
            have hP := or_yes hr (show altAll b.2 (start) stop = some (0, 32, 0, none) from if_pos c_204)
            exact G_zretX _ hC hQ (by omega) (by omega) d_Te_read_296 (b2i_t (by rw [hP]; rfl)) ⟨_, _, _, _, _, rfl, (by unfold sgnS; rw [if_neg hs]; exact h_202), (fun tm htm => by rw [hP] at htm; exact (by cases htm; exact ⟨rfl, (fun z => by simp at z), (fun z => by simp at z), (fun d hd => by cases hd), (fun _ z => by simp at z)⟩)), (((((fr_101.up (T := [t]) (by simp)).tr' (T := [t]) fr_104 (fun _ z => z) (by simp)).tr' (T := [t]) fr_107 (fun _ z => z) (by simp)).tr' (T := [t]) fr_110 (fun _ z => z) (by simp)).tr' (T := [t]) fr_203 (fun _ z => z) (by simp))⟩
          · have c_204 := b2i_eq0.mp c_204
            have c_204 := of_decide_eq_false c_204
            have hrs111 := or_no hr (show altAll b.2 (start) stop = none from if_neg c_204)
            refine G_aload_n hC 2 rfl rfl d_Te_read_111 ?_
            refine G_ldcS (tx := "include:") (i := 2) hC (by decide) d_Te_read_112 ?_
            refine G_iload hC 0 rfl d_Te_read_114 ?_
            refine G_iload_n hC 4 rfl rfl d_Te_read_116 ?_
            have h_205 := h_198.fr fr_203 (by simp only [List.mem_cons, List.not_mem_nil, or_false, not_or, not_false_eq_true]; try omega) (by simp only [List.mem_cons, List.not_mem_nil, or_false, not_or, not_false_eq_true]; try omega)
            refine G_pV (rest := []) hC hR (c_By_has h_205 (by decide) (by omega) (by omega)) cv_Te_50 h_205.obj (by decide) (by omega) (by omega) rfl rfl (Nat.le_of_ble_eq_true rfl) d_Te_read_117 ?_
            refine G_if_eq hC 138 (by have := b2i_rng (hasS b.2 (wrd 2) start stop); omega) (by decide) d_Te_read_120 (fun c_206 => ?_) (fun c_206 => ?_)
            · have c_206 := b2i_eq0.mp c_206
              refine G_lv [1, 2, 3, 4, 5, 6, 0] rfl ?_
              exact J138 M_199 _ _ _ _ _ (fr_203.up (T := [t]) (by simp)) h_202 (or_no hrs111 (altT_f (Or.inl c_206))) (by first | omega | (have z9 := has_first (c := 105) c_204 ⟨by decide, by decide⟩; omega)) (by first | omega | (have z9 := has_first (c := 105) c_204 ⟨by decide, by decide⟩; omega))
            · have c_206 := b2i_ne0.mp c_206
              refine G_aload_n hC 1 rfl rfl d_Te_read_123 ?_
              refine G_iconst (i := 1) hC d_Te_read_124 ?_
              refine G_aload_n hC 2 rfl rfl d_Te_read_125 ?_
              refine G_iload hC 0 rfl d_Te_read_126 ?_
              refine G_bipush (j := 8) hC (by decide +kernel) d_Te_read_128 ?_
              refine G_iadd hC d_Te_read_130 ?_
              refine G_iload_n hC 4 rfl rfl d_Te_read_131 ?_
              refine G_xV (rest := []) hC hR (c_Te_readTarget h_202 h_205 (by omega) (by omega) (by omega)) cv_Te_54 ⟨_, _, h_202⟩ (by decide) (by omega) (by omega) rfl rfl (Nat.le_of_ble_eq_true rfl) d_Te_read_132 (fun r_209 M_207 p_208 => ?_)
              obtain ⟨rfl, h_210, fr_211⟩ := p_208
              show G E M_207 (0 + 0 + 0) (0 + 0 + 0) [(6, vI start), (0, .ref a), (1, .ref o), (2, vI start), (3, vI stop), (4, vI (atS b.2 start)), (5, vI 0)] [vI (b2i (targS b.2 (start + 8) stop))] 135
              refine G_if_ne hC 291 (by have := b2i_rng (targS b.2 (start + 8) stop); omega) (by decide) d_Te_read_135 (fun c_212 => ?_) (fun c_212 => ?_)
              · have c_212 := b2i_ne0.mp c_212
                refine G_iconst (i := 1) hC d_Te_read_291 ?_
                refine G_goto hC 296 (by decide) d_Te_read_292 ?_
                have hP := or_yes hrs111 (altT_t c_206 c_212)
                exact G_zretX _ hC hQ (by omega) (by omega) d_Te_read_296 (b2i_t (by rw [hP]; rfl)) ⟨_, _, _, _, _, rfl, (by unfold sgnS; rw [if_neg hs]; exact h_210), (fun tm htm => by rw [hP] at htm; exact (by cases htm; exact ⟨rfl, (fun z => by simp at z), (fun z => by simp at z), (fun d hd => by cases hd; exact ⟨rfl, rfl⟩), (fun z => by cases z)⟩)), ((((((fr_101.up (T := [t]) (by simp)).tr' (T := [t]) fr_104 (fun _ z => z) (by simp)).tr' (T := [t]) fr_107 (fun _ z => z) (by simp)).tr' (T := [t]) fr_110 (fun _ z => z) (by simp)).tr' (T := [t]) fr_203 (fun _ z => z) (by simp)).tr' (T := [t]) fr_211 (fun _ z => z) (by simp))⟩
              · have c_212 := b2i_eq0.mp c_212
                refine G_lv [1, 2, 3, 4, 5, 6, 0] rfl ?_
                exact J138 M_207 _ _ _ _ _ ((fr_203.up (T := [t]) (by simp)).tr' (T := [t]) fr_211 (fun _ z => z) (by simp)) h_210 (or_no hrs111 (altT_f (Or.inr c_212))) (by first | omega | (have z9 := has_first (c := 105) c_206 ⟨by decide, by decide⟩; omega)) (by first | omega | (have z9 := has_first (c := 105) c_206 ⟨by decide, by decide⟩; omega))
        · exact (show False from by omega).elim
      · exact (show False from by omega).elim
  refine G_iload hC 0 rfl d_Te_read_19 ?_
  refine G_bipush (j := 43) hC (by decide +kernel) d_Te_read_21 ?_
  refine G_icmp_eq hC 47 (by omega) (by decide) (by decide) d_Te_read_23 (fun c_213 => ?_) (fun c_213 => ?_)
  · refine G_iconst (i := 1) hC d_Te_read_47 ?_
    refine G_goto hC 52 (by decide) d_Te_read_48 ?_
    refine G_istore (lv' := [(5, vI 1), (4, vI (atS b.2 start)), (3, vI stop), (0, .ref a), (1, .ref o), (2, vI start)]) hC (by rw [hN]; decide) rfl d_Te_read_52 ?_
    refine G_lv [3, 4, 5, 2, 1, 0] rfl ?_
    exact J54 1 (b2i_t (decide_eq_true (by omega)))
  · refine G_iload hC 0 rfl d_Te_read_26 ?_
    refine G_bipush (j := 63) hC (by decide +kernel) d_Te_read_28 ?_
    refine G_icmp_eq hC 47 (by omega) (by decide) (by decide) d_Te_read_30 (fun c_214 => ?_) (fun c_214 => ?_)
    · refine G_iconst (i := 1) hC d_Te_read_47 ?_
      refine G_goto hC 52 (by decide) d_Te_read_48 ?_
      refine G_istore (lv' := [(5, vI 1), (4, vI (atS b.2 start)), (3, vI stop), (0, .ref a), (1, .ref o), (2, vI start)]) hC (by rw [hN]; decide) rfl d_Te_read_52 ?_
      refine G_lv [3, 4, 5, 2, 1, 0] rfl ?_
      exact J54 1 (b2i_t (decide_eq_true (by omega)))
    · refine G_iload hC 0 rfl d_Te_read_33 ?_
      refine G_bipush (j := 126) hC (by decide +kernel) d_Te_read_35 ?_
      refine G_icmp_eq hC 47 (by omega) (by decide) (by decide) d_Te_read_37 (fun c_215 => ?_) (fun c_215 => ?_)
      · refine G_iconst (i := 1) hC d_Te_read_47 ?_
        refine G_goto hC 52 (by decide) d_Te_read_48 ?_
        refine G_istore (lv' := [(5, vI 1), (4, vI (atS b.2 start)), (3, vI stop), (0, .ref a), (1, .ref o), (2, vI start)]) hC (by rw [hN]; decide) rfl d_Te_read_52 ?_
        refine G_lv [3, 4, 5, 2, 1, 0] rfl ?_
        exact J54 1 (b2i_t (decide_eq_true (by omega)))
      · refine G_iload hC 0 rfl d_Te_read_40 ?_
        refine G_bipush (j := 45) hC (by decide +kernel) d_Te_read_42 ?_
        refine G_icmp_ne hC 51 (by omega) (by decide) (by decide) d_Te_read_44 (fun c_216 => ?_) (fun c_216 => ?_)
        · refine G_iconst (i := 0) hC d_Te_read_51 ?_
          refine G_istore (lv' := [(5, vI 0), (4, vI (atS b.2 start)), (3, vI stop), (0, .ref a), (1, .ref o), (2, vI start)]) hC (by rw [hN]; decide) rfl d_Te_read_52 ?_
          refine G_lv [3, 4, 5, 2, 1, 0] rfl ?_
          exact J54 0 (b2i_f (decide_eq_false (by omega)))
        · refine G_iconst (i := 1) hC d_Te_read_47 ?_
          refine G_goto hC 52 (by decide) d_Te_read_48 ?_
          refine G_istore (lv' := [(5, vI 1), (4, vI (atS b.2 start)), (3, vI stop), (0, .ref a), (1, .ref o), (2, vI start)]) hC (by rw [hN]; decide) rfl d_Te_read_52 ?_
          refine G_lv [3, 4, 5, 2, 1, 0] rfl ?_
          exact J54 1 (b2i_t (decide_eq_true (by omega)))
