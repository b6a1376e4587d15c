set_option maxHeartbeats 4000000 in
set_option maxRecDepth 100000 in
theorem c_Te_kind {l : Launch} {D : Dg} {b0 : Nat} {M : Mp} {a : Nat} {t : Nat} {k0 : Int} {s0 : Int} {n0 : Int} {w0 : Int32} {f0 : Int} {o0 : Int} (h_obj_a : M a = some (t, .inr (cTe, [vI k0, vI s0, vI n0, .int w0, vI f0, vI o0]))) : OkP l D b0 1 y_Te_kind b_Te_kind 1 (some .int) M [.ref a] (vI k0) := by
  refine Ok_of rfl (Nat.le_of_ble_eq_true rfl) (fun E hC hQ hl hD hB hN hR => ?_)
  subst hl hD hB
  show G E M 0 0 [(0, .ref a)] [] 0
  refine G_aload_n hC 0 rfl rfl d_Te_kind_0 ?_
  refine G_get hC fl_Te_9 h_obj_a rfl d_Te_kind_1 ?_
  exact G_iretP hC hQ d_Te_kind_4 rfl

set_option maxHeartbeats 4000000 in
set_option maxRecDepth 100000 in
theorem c_Te_bits {l : Launch} {D : Dg} {b0 : Nat} {M : Mp} {a : Nat} {t : Nat} {k0 : Int} {s0 : Int} {n0 : Int} {w0 : Int32} {f0 : Int} {o0 : Int} (h_obj_a : M a = some (t, .inr (cTe, [vI k0, vI s0, vI n0, .int w0, vI f0, vI o0]))) : OkP l D b0 1 y_Te_bits b_Te_bits 1 (some .int) M [.ref a] (vI n0) := by
  refine Ok_of rfl (Nat.le_of_ble_eq_true rfl) (fun E hC hQ hl hD hB hN hR => ?_)
  subst hl hD hB
  show G E M 0 0 [(0, .ref a)] [] 0
  refine G_aload_n hC 0 rfl rfl d_Te_bits_0 ?_
  refine G_get hC fl_Te_15 h_obj_a rfl d_Te_bits_1 ?_
  exact G_iretP hC hQ d_Te_bits_4 rfl

set_option maxHeartbeats 4000000 in
set_option maxRecDepth 100000 in
theorem c_Te_from {l : Launch} {D : Dg} {b0 : Nat} {M : Mp} {a : Nat} {t : Nat} {k0 : Int} {s0 : Int} {n0 : Int} {w0 : Int32} {f0 : Int} {o0 : Int} (h_obj_a : M a = some (t, .inr (cTe, [vI k0, vI s0, vI n0, .int w0, vI f0, vI o0]))) : OkP l D b0 1 y_Te_from b_Te_from 1 (some .int) M [.ref a] (vI f0) := by
  refine Ok_of rfl (Nat.le_of_ble_eq_true rfl) (fun E hC hQ hl hD hB hN hR => ?_)
  subst hl hD hB
  show G E M 0 0 [(0, .ref a)] [] 0
  refine G_aload_n hC 0 rfl rfl d_Te_from_0 ?_
  refine G_get hC fl_Te_21 h_obj_a rfl d_Te_from_1 ?_
  exact G_iretP hC hQ d_Te_from_4 rfl

set_option maxHeartbeats 4000000 in
set_option maxRecDepth 100000 in
theorem c_Te_to {l : Launch} {D : Dg} {b0 : Nat} {M : Mp} {a : Nat} {t : Nat} {k0 : Int} {s0 : Int} {n0 : Int} {w0 : Int32} {f0 : Int} {o0 : Int} (h_obj_a : M a = some (t, .inr (cTe, [vI k0, vI s0, vI n0, .int w0, vI f0, vI o0]))) : OkP l D b0 1 y_Te_to b_Te_to 1 (some .int) M [.ref a] (vI o0) := by
  refine Ok_of rfl (Nat.le_of_ble_eq_true rfl) (fun E hC hQ hl hD hB hN hR => ?_)
  subst hl hD hB
  show G E M 0 0 [(0, .ref a)] [] 0
  refine G_aload_n hC 0 rfl rfl d_Te_to_0 ?_
  refine G_get hC fl_Te_24 h_obj_a rfl d_Te_to_1 ?_
  exact G_iretP hC hQ d_Te_to_4 rfl

set_option maxHeartbeats 4000000 in
set_option maxRecDepth 100000 in
theorem c_Te_network {l : Launch} {D : Dg} {b0 : Nat} {M : Mp} {a : Nat} {t : Nat} {k0 : Int} {s0 : Int} {n0 : Int} {w0 : Int32} {f0 : Int} {o0 : Int} (h_obj_a : M a = some (t, .inr (cTe, [vI k0, vI s0, vI n0, .int w0, vI f0, vI o0]))) : OkP l D b0 1 y_Te_network b_Te_network 1 (some .int) M [.ref a] (.int w0) := by
  refine Ok_of rfl (Nat.le_of_ble_eq_true rfl) (fun E hC hQ hl hD hB hN hR => ?_)
  subst hl hD hB
  show G E M 0 0 [(0, .ref a)] [] 0
  refine G_aload_n hC 0 rfl rfl d_Te_network_0 ?_
  refine G_get hC fl_Te_18 h_obj_a rfl d_Te_network_1 ?_
  exact G_xretP hC hQ d_Te_network_4

set_option maxHeartbeats 4000000 in
set_option maxRecDepth 100000 in
theorem c_Te_verdict {l : Launch} {D : Dg} {b0 : Nat} {M : Mp} {a : Nat} {t : Nat} {k0 : Int} {s0 : Int} {n0 : Int} {w0 : Int32} {f0 : Int} {o0 : Int} (h_obj_a : M a = some (t, .inr (cTe, [vI k0, vI s0, vI n0, .int w0, vI f0, vI o0]))) (hs : -2147483648 ≤ s0 ∧ s0 ≤ 2147483647) : OkP l D b0 1 y_Te_verdict b_Te_verdict 1 (some .int) M [.ref a] (vI (verS s0)) := by
  refine Ok_of rfl (Nat.le_of_ble_eq_true rfl) (fun E hC hQ hl hD hB hN hR => ?_)
  subst hl hD hB
  show G E M 0 0 [(0, .ref a)] [] 0
  refine G_aload_n hC 0 rfl rfl d_Te_verdict_0 ?_
  refine G_get hC fl_Te_27 h_obj_a rfl d_Te_verdict_1 ?_
  by_cases c_1 : s0 = 45
  · refine G_look 40 hC (by omega) rfl (by rw [c_1]; try rfl) (by decide) d_Te_verdict_4 ?_
    refine G_iconst (i := 3) hC d_Te_verdict_40 ?_
    exact G_iretP hC hQ d_Te_verdict_41 (by unfold verS; (repeat' split); all_goals omega)
  by_cases c_2 : s0 = 63
  · refine G_look 44 hC (by omega) rfl (by rw [c_2]; try rfl) (by decide) d_Te_verdict_4 ?_
    refine G_iconst (i := 1) hC d_Te_verdict_44 ?_
    exact G_iretP hC hQ d_Te_verdict_45 (by unfold verS; (repeat' split); all_goals omega)
  by_cases c_3 : s0 = 126
  · refine G_look 42 hC (by omega) rfl (by rw [c_3]; try rfl) (by decide) d_Te_verdict_4 ?_
    refine G_iconst (i := 4) hC d_Te_verdict_42 ?_
    exact G_iretP hC hQ d_Te_verdict_43 (by unfold verS; (repeat' split); all_goals omega)
  refine G_look (off := 42) 46 hC (by omega) rfl (by simp only [Op.lookupswitch.offset]; rw [if_neg (by omega), if_neg (by omega), if_neg (by omega)]) (by decide) d_Te_verdict_4 ?_
  refine G_iconst (i := 2) hC d_Te_verdict_46 ?_
  exact G_iretP hC hQ d_Te_verdict_47 (by unfold verS; (repeat' split); all_goals omega)

set_option maxHeartbeats 4000000 in
set_option maxRecDepth 100000 in
theorem c_Te_startsAt {l : Launch} {D : Dg} {b0 : Nat} {M : Mp} {o : Nat} {q : Int} {tt : Nat} {lim : Int} {b : Bv} (h_B_o : IsB D M o tt lim b) (hq : -100000 ≤ q ∧ q ≤ 100000) : OkP l D b0 2 y_Te_startsAt b_Te_startsAt 2 (some .boolean) M [.ref o, vI q] (vI (b2i (decide (¬ atS b.2 q = 32 ∧ atS b.2 (q - 1) = 32)))) := by
  refine Ok_of rfl (Nat.le_of_ble_eq_true rfl) (fun E hC hQ hl hD hB hN hR => ?_)
  subst hl hD hB
  show G E M 0 0 [(0, .ref o), (1, vI q)] [] 0
  refine G_aload_n hC 0 rfl rfl d_Te_startsAt_0 ?_
  refine G_iload_n hC 1 rfl rfl d_Te_startsAt_1 ?_
  refine G_pV (rest := []) hC hR (c_By_at h_B_o (by omega)) cv_Te_30 h_B_o.obj (by decide) (by omega) (by omega) rfl rfl (Nat.le_of_ble_eq_true rfl) d_Te_startsAt_2 ?_
  have g_1 := h_B_o.at_rng q
  refine G_bipush (j := 32) hC (by decide +kernel) d_Te_startsAt_5 ?_
  refine G_icmp_eq hC 26 (by omega) (by decide) (by decide) d_Te_startsAt_7 (fun c_2 => ?_) (fun c_2 => ?_)
  · refine G_iconst (i := 0) hC d_Te_startsAt_26 ?_
    exact G_zretP hC hQ d_Te_startsAt_27 (b2i_f (decide_eq_false (by omega)))
  · refine G_aload_n hC 0 rfl rfl d_Te_startsAt_10 ?_
    refine G_iload_n hC 1 rfl rfl d_Te_startsAt_11 ?_
    refine G_iconst (i := 1) hC d_Te_startsAt_12 ?_
    refine G_isub hC d_Te_startsAt_13 ?_
    refine G_pV (rest := []) hC hR (c_By_at h_B_o (by omega)) cv_Te_30 h_B_o.obj (by decide) (by omega) (by omega) rfl rfl (Nat.le_of_ble_eq_true rfl) d_Te_startsAt_14 ?_
    have g_3 := h_B_o.at_rng (q - 1)
    refine G_bipush (j := 32) hC (by decide +kernel) d_Te_startsAt_17 ?_
    refine G_icmp_ne hC 26 (by omega) (by decide) (by decide) d_Te_startsAt_19 (fun c_4 => ?_) (fun c_4 => ?_)
    · refine G_iconst (i := 0) hC d_Te_startsAt_26 ?_
      exact G_zretP hC hQ d_Te_startsAt_27 (b2i_f (decide_eq_false (by omega)))
    · refine G_iconst (i := 1) hC d_Te_startsAt_22 ?_
      refine G_goto hC 27 (by decide) d_Te_startsAt_23 ?_
      exact G_zretP hC hQ d_Te_startsAt_27 (b2i_t (decide_eq_true (by omega)))

set_option maxHeartbeats 4000000 in
set_option maxRecDepth 100000 in
theorem c_Te_readAll {l : Launch} {D : Dg} {b0 : Nat} {M : Mp} {a : Nat} {o : Nat} {q : Int} {stop : Int} {t : Nat} {k0 : Int} {s0 : Int} {n0 : Int} {w0 : Int32} {f0 : Int} {o0 : Int} {tt : Nat} {lim : Int} {b : Bv} (h_obj_a : M a = some (t, .inr (cTe, [vI k0, vI s0, vI n0, .int w0, vI f0, vI o0]))) (h_B_o : IsB D M o tt lim b) (hq : -100000 ≤ q ∧ q ≤ 100000) (hst : -100000 ≤ stop ∧ stop ≤ 100000) (htt : tt ≠ t ∧ tt + 1 ≠ t) : Ok l D b0 6 y_Te_readAll b_Te_readAll 4 (some .boolean) M [.ref a, .ref o, vI q, vI stop] 0 0 (fun r M' => r = some (vI (b2i (decide (stop - q = 3 ∧ hasS b.2 (wrd 1) q stop = true)))) ∧ M' a = some (t, .inr (cTe, [vI 0, vI s0, vI n0, .int w0, vI f0, vI o0])) ∧ Fr [t] M M') := by
  refine Ok_of rfl (Nat.le_of_ble_eq_true rfl) (fun E hC hQ hl hD hB hN hR => ?_)
  subst hl hD hB
  have hB9 := h_B_o.len
  show G E M 0 0 [(0, .ref a), (1, .ref o), (2, vI q), (3, vI stop)] [] 0
  refine G_aload_n hC 0 rfl rfl d_Te_readAll_0 ?_
  refine G_iconst (i := 0) hC d_Te_readAll_1 ?_
  refine G_putX (fs' := [vI 0, vI s0, vI n0, .int w0, vI f0, vI o0]) hC fl_Te_9 ft_Te fw_Te_0 h_obj_a rfl rfl (Nat.le_of_ble_eq_true rfl) rfl d_Te_readAll_2 (fun M_1 h_2 fr_3 => ?_)
  refine G_iload_n hC 3 rfl rfl d_Te_readAll_5 ?_
  refine G_iload_n hC 2 rfl rfl d_Te_readAll_6 ?_
  refine G_isub hC d_Te_readAll_7 ?_
  refine G_iconst (i := 3) hC d_Te_readAll_8 ?_
  refine G_icmp_ne hC 27 (by omega) (by decide) (by decide) d_Te_readAll_9 (fun c_4 => ?_) (fun c_4 => ?_)
  · refine G_iconst (i := 0) hC d_Te_readAll_27 ?_
    exact G_zretX _ hC hQ (by omega) (by omega) d_Te_readAll_28 (b2i_f (decide_eq_false (fun z => by have z1 := z.1; have z2 := z.2; first | omega | (rw [z2] at c_4; cases c_4)))) ⟨rfl, h_2, (fr_3.up (T := [t]) (by simp))⟩
  · refine G_aload_n hC 1 rfl rfl d_Te_readAll_12 ?_
    refine G_ldcS (tx := "all") (i := 1) hC (by decide) d_Te_readAll_13 ?_
    refine G_iload_n hC 2 rfl rfl d_Te_readAll_15 ?_
    refine G_iload_n hC 3 rfl rfl d_Te_readAll_16 ?_
    have h_5 := h_B_o.fr fr_3 (by simp only [List.mem_cons, List.not_mem_nil, or_false, not_or, not_false_eq_true]; try omega) (by simp only [List.mem_cons, List.not_mem_nil, or_false, not_or, not_false_eq_true]; try omega)
    refine G_pV (rest := []) hC hR (c_By_has h_5 (by decide) (by omega) (by omega)) cv_Te_50 h_5.obj (by decide) (by omega) (by omega) rfl rfl (Nat.le_of_ble_eq_true rfl) d_Te_readAll_17 ?_
    refine G_if_eq hC 27 (by have := b2i_rng (hasS b.2 (wrd 1) q stop); omega) (by decide) d_Te_readAll_20 (fun c_6 => ?_) (fun c_6 => ?_)
    · have c_6 := b2i_eq0.mp c_6
      refine G_iconst (i := 0) hC d_Te_readAll_27 ?_
      exact G_zretX _ hC hQ (by omega) (by omega) d_Te_readAll_28 (b2i_f (decide_eq_false (fun z => by have z1 := z.1; have z2 := z.2; first | omega | (rw [z2] at c_6; cases c_6)))) ⟨rfl, h_2, (fr_3.up (T := [t]) (by simp))⟩
    · have c_6 := b2i_ne0.mp c_6
      refine G_iconst (i := 1) hC d_Te_readAll_23 ?_
      refine G_goto hC 28 (by decide) d_Te_readAll_24 ?_
      exact G_zretX _ hC hQ (by omega) (by omega) d_Te_readAll_28 (b2i_t (decide_eq_true ⟨c_4, c_6⟩)) ⟨rfl, h_2, (fr_3.up (T := [t]) (by simp))⟩

set_option maxHeartbeats 4000000 in
set_option maxRecDepth 100000 in
theorem c_Te_readTarget {l : Launch} {D : Dg} {b0 : Nat} {M : Mp} {a : Nat} {rd : Int} {o : Nat} {q : Int} {stop : Int} {t : Nat} {k0 : Int} {s0 : Int} {n0 : Int} {w0 : Int32} {f0 : Int} {o0 : Int} {tt : Nat} {lim : Int} {b : Bv} (h_obj_a : M a = some (t, .inr (cTe, [vI k0, vI s0, vI n0, .int w0, vI f0, vI o0]))) (h_B_o : IsB D M o tt lim b) (hq : -100000 ≤ q ∧ q ≤ 100000) (hst : -100000 ≤ stop ∧ stop ≤ 100000) (htt : tt ≠ t ∧ tt + 1 ≠ t) : Ok l D b0 6 y_Te_readTarget b_Te_readTarget 5 (some .boolean) M [.ref a, vI rd, .ref o, vI q, vI stop] 0 0 (fun r M' => r = some (vI (b2i (targS b.2 q stop))) ∧ M' a = some (t, .inr (cTe, [vI rd, vI s0, vI n0, .int w0, vI q, vI stop])) ∧ Fr [t] M M') := by
  refine Ok_of rfl (Nat.le_of_ble_eq_true rfl) (fun E hC hQ hl hD hB hN hR => ?_)
  subst hl hD hB
  have hB9 := h_B_o.len
  show G E M 0 0 [(0, .ref a), (1, vI rd), (2, .ref o), (3, vI q), (4, vI stop)] [] 0
  refine G_aload_n hC 0 rfl rfl d_Te_readTarget_0 ?_
  refine G_iload_n hC 1 rfl rfl d_Te_readTarget_1 ?_
  refine G_putX (fs' := [vI rd, vI s0, vI n0, .int w0, vI f0, vI o0]) hC fl_Te_9 ft_Te fw_Te_0 h_obj_a rfl rfl (Nat.le_of_ble_eq_true rfl) rfl d_Te_readTarget_2 (fun M_1 h_2 fr_3 => ?_)
  refine G_aload_n hC 0 rfl rfl d_Te_readTarget_5 ?_
  refine G_iload_n hC 3 rfl rfl d_Te_readTarget_6 ?_
  refine G_putX (fs' := [vI rd, vI s0, vI n0, .int w0, vI q, vI o0]) hC fl_Te_21 ft_Te fw_Te_4 h_2 rfl rfl (Nat.le_of_ble_eq_true rfl) rfl d_Te_readTarget_7 (fun M_4 h_5 fr_6 => ?_)
  refine G_aload_n hC 0 rfl rfl d_Te_readTarget_10 ?_
  refine G_iload hC 4 rfl d_Te_readTarget_11 ?_
  refine G_putX (fs' := [vI rd, vI s0, vI n0, .int w0, vI q, vI stop]) hC fl_Te_24 ft_Te fw_Te_5 h_5 rfl rfl (Nat.le_of_ble_eq_true rfl) rfl d_Te_readTarget_13 (fun M_7 h_8 fr_9 => ?_)
  refine G_aload_n hC 2 rfl rfl d_Te_readTarget_16 ?_
  refine G_iload_n hC 3 rfl rfl d_Te_readTarget_17 ?_
  refine G_iload hC 4 rfl d_Te_readTarget_18 ?_
  have h_10 := h_B_o.fr fr_3 (by simp only [List.mem_cons, List.not_mem_nil, or_false, not_or, not_false_eq_true]; try omega) (by simp only [List.mem_cons, List.not_mem_nil, or_false, not_or, not_false_eq_true]; try omega)
  have h_11 := h_10.fr fr_6 (by simp only [List.mem_cons, List.not_mem_nil, or_false, not_or, not_false_eq_true]; try omega) (by simp only [List.mem_cons, List.not_mem_nil, or_false, not_or, not_false_eq_true]; try omega)
  have h_12 := h_11.fr fr_9 (by simp only [List.mem_cons, List.not_mem_nil, or_false, not_or, not_false_eq_true]; try omega) (by simp only [List.mem_cons, List.not_mem_nil, or_false, not_or, not_false_eq_true]; try omega)
  refine G_pS (rest := []) hC hR (c_Ma_isTarget h_12 (by omega) (by omega) rfl) cs_Te_84 (by decide) (by omega) (by omega) rfl rfl (Nat.le_of_ble_eq_true rfl) d_Te_readTarget_20 ?_
  exact G_zretX _ hC hQ (by omega) (by omega) d_Te_readTarget_23 rfl ⟨rfl, h_8, (((fr_3.up (T := [t]) (by simp)).tr' (T := [t]) fr_6 (fun _ z => z) (by simp)).tr' (T := [t]) fr_9 (fun _ z => z) (by simp))⟩

set_option maxHeartbeats 4000000 in
set_option maxRecDepth 100000 in
theorem c_Te_readBits {l : Launch} {D : Dg} {b0 : Nat} {M : Mp} {a : Nat} {o : Nat} {q : Int} {stop : Int} {t : Nat} {k0 : Int} {s0 : Int} {n0 : Int} {w0 : Int32} {f0 : Int} {o0 : Int} {tt : Nat} {lim : Int} {b : Bv} {P : Option Int} (h_obj_a : M a = some (t, .inr (cTe, [vI k0, vI s0, vI n0, .int w0, vI f0, vI o0]))) (h_B_o : IsB D M o tt lim b) (hq : -100000 ≤ q ∧ q ≤ 100000) (hst : -100000 ≤ stop ∧ stop ≤ 100000) (htt : tt ≠ t ∧ tt + 1 ≠ t) (hr : bitsS b.2 q stop = P) : Ok l D b0 2 y_Te_readBits b_Te_readBits 5 (some .boolean) M [.ref a, .ref o, vI q, vI stop] 0 0 (fun r M' => ∃ n1 : Int, r = some (vI (b2i P.isSome)) ∧ M' a = some (t, .inr (cTe, [vI k0, vI s0, vI n1, .int w0, vI f0, vI o0])) ∧ (∀ v, P = some v → n1 = v) ∧ Fr [t] M M') := by
  refine Ok_of rfl (Nat.le_of_ble_eq_true rfl) (fun E hC hQ hl hD hB hN hR => ?_)
  subst hl hD hB
  have hB9 := h_B_o.len
  unfold bitsS at hr
  show G E M 0 0 [(0, .ref a), (1, .ref o), (2, vI q), (3, vI stop)] [] 0
  refine G_iload_n hC 3 rfl rfl d_Te_readBits_0 ?_
  refine G_iload_n hC 2 rfl rfl d_Te_readBits_1 ?_
  refine G_icmp_le hC 12 (by omega) (by omega) (by decide) d_Te_readBits_2 (fun c_1 => ?_) (fun c_1 => ?_)
  · refine G_iconst (i := 0) hC d_Te_readBits_12 ?_
    exact G_zretX _ hC hQ (by omega) (by omega) d_Te_readBits_13 (b2i_f (by rw [if_pos (by omega)] at hr; rw [← hr]; rfl)) ⟨_, rfl, h_obj_a, (fun v hv => by rw [if_pos (by omega), hv] at hr; cases hr), Fr.rf⟩
  · refine G_iload_n hC 3 rfl rfl d_Te_readBits_5 ?_
    refine G_iload_n hC 2 rfl rfl d_Te_readBits_6 ?_
    refine G_isub hC d_Te_readBits_7 ?_
    refine G_iconst (i := 2) hC d_Te_readBits_8 ?_
    refine G_icmp_le hC 14 (by omega) (by decide) (by decide) d_Te_readBits_9 (fun c_2 => ?_) (fun c_2 => ?_)
    · refine G_aload_n hC 0 rfl rfl d_Te_readBits_14 ?_
      refine G_iconst (i := 0) hC d_Te_readBits_15 ?_
      refine G_putX (fs' := [vI k0, vI s0, vI 0, .int w0, vI f0, vI o0]) hC fl_Te_15 ft_Te fw_Te_2 h_obj_a rfl rfl (Nat.le_of_ble_eq_true rfl) rfl d_Te_readBits_16 (fun M_3 h_4 fr_5 => ?_)
      refine G_iload_n hC 2 rfl rfl d_Te_readBits_19 ?_
      refine G_istore (lv' := [(4, vI q), (0, .ref a), (1, .ref o), (2, vI q), (3, vI stop)]) hC (by rw [hN]; decide) rfl d_Te_readBits_20 ?_
      have L22 : ∀ (N : Nat) (M1 : Mp) (k : Int) (v : Int), (stop - k).toNat < N → (Fr [t] M_3 M1) → (M1 a = some (t, .inr (cTe, [vI k0, vI s0, vI v, .int w0, vI f0, vI o0]))) → (0 ≤ v ∧ (k = q ∧ v = 0 ∨ k = q + 1 ∧ v ≤ 9 ∨ k = q + 2 ∧ v ≤ 99) ∧ k ≤ stop) → (bitsL b.2 stop k v = P) → G E M1 0 0 [(0, .ref a), (1, .ref o), (2, vI q), (3, vI stop), (4, vI k)] [] 22 := by
        intro N
        induction N with
        | zero => intro M1 k v hN22 hfr ho hk hf; exact absurd hN22 (Nat.not_lt_zero _)
        | succ N ih22 =>
          intro M1 k v hN22 hfr ho hk hf
          refine G_iload hC 4 rfl d_Te_readBits_22 ?_
          refine G_iload_n hC 3 rfl rfl d_Te_readBits_24 ?_
          refine G_icmp_ge hC 69 (by omega) (by omega) (by decide) d_Te_readBits_25 (fun c_6 => ?_) (fun c_6 => ?_)
          · refine G_aload_n hC 0 rfl rfl d_Te_readBits_69 ?_
            refine G_get hC fl_Te_15 ho rfl d_Te_readBits_70 ?_
            refine G_bipush (j := 32) hC (by decide +kernel) d_Te_readBits_73 ?_
            refine G_icmp_gt hC 82 (by omega) (by decide) (by decide) d_Te_readBits_75 (fun c_7 => ?_) (fun c_7 => ?_)
            · refine G_iconst (i := 0) hC d_Te_readBits_82 ?_
              exact G_zretX _ hC hQ (by omega) (by omega) d_Te_readBits_83 (b2i_f (by rw [bitsL] at hf; (repeat' split at hf); all_goals first | (exfalso; omega) | (rw [← hf]; rfl))) ⟨_, rfl, ho, (fun v9 hv => by rw [hv, bitsL] at hf; (repeat' split at hf); all_goals first | (exfalso; omega) | cases hf), ((fr_5.up (T := [t]) (by simp)).tr' (T := [t]) hfr (fun _ z => z) (by simp))⟩
            · refine G_iconst (i := 1) hC d_Te_readBits_78 ?_
              refine G_goto hC 83 (by decide) d_Te_readBits_79 ?_
              exact G_zretX _ hC hQ (by omega) (by omega) d_Te_readBits_83 (b2i_t (by rw [bitsL] at hf; (repeat' split at hf); all_goals first | (exfalso; omega) | (rw [← hf]; rfl))) ⟨_, rfl, ho, (fun v9 hv => by rw [hv, bitsL] at hf; (repeat' split at hf); all_goals first | (exfalso; omega) | exact (Option.some.inj hf) | cases hf), ((fr_5.up (T := [t]) (by simp)).tr' (T := [t]) hfr (fun _ z => z) (by simp))⟩
          · refine G_aload_n hC 1 rfl rfl d_Te_readBits_28 ?_
            refine G_iload hC 4 rfl d_Te_readBits_29 ?_
            have h_8 := h_B_o.fr fr_5 (by simp only [List.mem_cons, List.not_mem_nil, or_false, not_or, not_false_eq_true]; try omega) (by simp only [List.mem_cons, List.not_mem_nil, or_false, not_or, not_false_eq_true]; try omega)
            have h_9 := h_8.fr hfr (by simp only [List.mem_cons, List.not_mem_nil, or_false, not_or, not_false_eq_true]; try omega) (by simp only [List.mem_cons, List.not_mem_nil, or_false, not_or, not_false_eq_true]; try omega)
            refine G_pV (rest := []) hC hR (c_By_at h_9 (by omega)) cv_Te_30 h_9.obj (by decide) (by omega) (by omega) rfl rfl (Nat.le_of_ble_eq_true rfl) d_Te_readBits_31 ?_
            have g_10 := h_9.at_rng k
            refine G_pS (rest := []) hC hR (c_Si_isDigit (by omega)) cs_Te_95 (by decide) (by omega) (by omega) rfl rfl (Nat.le_of_ble_eq_true rfl) d_Te_readBits_34 ?_
            refine G_if_ne hC 42 (by have := b2i_rng (decide (digP (atS b.2 k))); omega) (by decide) d_Te_readBits_37 (fun c_11 => ?_) (fun c_11 => ?_)
            · have c_11 := b2i_ne0.mp c_11
              have c_11 := of_decide_eq_true c_11
              refine G_aload_n hC 0 rfl rfl d_Te_readBits_42 ?_
              refine G_aload_n hC 0 rfl rfl d_Te_readBits_43 ?_
              refine G_get hC fl_Te_15 ho rfl d_Te_readBits_44 ?_
              refine G_bipush (j := 10) hC (by decide +kernel) d_Te_readBits_47 ?_
              refine G_imul hC d_Te_readBits_49 ?_
              refine G_aload_n hC 1 rfl rfl d_Te_readBits_50 ?_
              refine G_iload hC 4 rfl d_Te_readBits_51 ?_
              refine G_pV (rest := [vI (v * 10), .ref a]) hC hR (c_By_at h_9 (by omega)) cv_Te_30 h_9.obj (by decide) (by omega) (by omega) rfl rfl (Nat.le_of_ble_eq_true rfl) d_Te_readBits_53 ?_
              have g_12 := h_9.at_rng k
              refine G_iadd hC d_Te_readBits_56 ?_
              refine G_bipush (j := 48) hC (by decide +kernel) d_Te_readBits_57 ?_
              refine G_isub hC d_Te_readBits_59 ?_
              refine G_putX (fs' := [vI k0, vI s0, vI (((v * 10) + (atS b.2 k)) - 48), .int w0, vI f0, vI o0]) hC fl_Te_15 ft_Te fw_Te_2 ho rfl rfl (Nat.le_of_ble_eq_true rfl) rfl d_Te_readBits_60 (fun M_13 h_14 fr_15 => ?_)
              refine G_iinc (lv' := [(4, vI (k + 1)), (0, .ref a), (1, .ref o), (2, vI q), (3, vI stop)]) hC 4 rfl (by rw [hN]; decide) rfl d_Te_readBits_63 ?_
              refine G_goto hC 22 (by decide) d_Te_readBits_66 ?_
              refine G_lv [1, 2, 3, 4, 0] rfl ?_
              exact ih22 M_13 (k + 1) _ (by omega) ((hfr.up (T := [t]) (by simp)).tr' (T := [t]) fr_15 (fun _ z => z) (by simp)) h_14 (by omega) (by rw [bitsL] at hf; (repeat' split at hf); all_goals first | exact hf | (exfalso; omega))
            · have c_11 := b2i_eq0.mp c_11
              have c_11 := of_decide_eq_false c_11
              refine G_iconst (i := 0) hC d_Te_readBits_40 ?_
              exact G_zretX _ hC hQ (by omega) (by omega) d_Te_readBits_41 (b2i_f (by rw [bitsL] at hf; (repeat' split at hf); all_goals first | (exfalso; omega) | (rw [← hf]; rfl))) ⟨_, rfl, ho, (fun v9 hv => by rw [hv, bitsL] at hf; (repeat' split at hf); all_goals first | (exfalso; omega) | cases hf), ((fr_5.up (T := [t]) (by simp)).tr' (T := [t]) hfr (fun _ z => z) (by simp))⟩
      refine G_lv [1, 2, 3, 4, 0] rfl ?_
      exact L22 _ M_3 q _ (Nat.lt_succ_self _) Fr.rf h_4 (by omega) (by rw [if_neg (by omega)] at hr; exact hr)
    · refine G_iconst (i := 0) hC d_Te_readBits_12 ?_
      exact G_zretX _ hC hQ (by omega) (by omega) d_Te_readBits_13 (b2i_f (by rw [if_pos (by omega)] at hr; rw [← hr]; rfl)) ⟨_, rfl, h_obj_a, (fun v hv => by rw [if_pos (by omega), hv] at hr; cases hr), Fr.rf⟩

set_option maxHeartbeats 4000000 in
set_option maxRecDepth 100000 in
theorem c_Te_readFour {l : Launch} {D : Dg} {b0 : Nat} {M : Mp} {a : Nat} {o : Nat} {q : Int} {stop : Int} {t : Nat} {k0 : Int} {s0 : Int} {n0 : Int} {w0 : Int32} {f0 : Int} {o0 : Int} {tt : Nat} {lim : Int} {b : Bv} {P : Option Int32} (h_obj_a : M a = some (t, .inr (cTe, [vI k0, vI s0, vI n0, .int w0, vI f0, vI o0]))) (h_B_o : IsB D M o tt lim b) (hq : -100000 ≤ q ∧ q ≤ 100000) (hst : -100000 ≤ stop ∧ stop ≤ 100000) (htt : tt ≠ t ∧ tt + 1 ≠ t) (hr : quadL b.2 stop q 0 0 0 0 = P) : Ok l D b0 2 y_Te_readFour b_Te_readFour 9 (some .boolean) M [.ref a, .ref o, vI q, vI stop] 0 0 (fun r M' => ∃ w1 : Int32, r = some (vI (b2i P.isSome)) ∧ M' a = some (t, .inr (cTe, [vI k0, vI s0, vI n0, .int w1, vI f0, vI o0])) ∧ (∀ v, P = some v → w1 = v) ∧ Fr [t] M M') := by
  refine Ok_of rfl (Nat.le_of_ble_eq_true rfl) (fun E hC hQ hl hD hB hN hR => ?_)
  subst hl hD hB
  have hB9 := h_B_o.len
  show G E M 0 0 [(0, .ref a), (1, .ref o), (2, vI q), (3, vI stop)] [] 0
  refine G_iconst (i := 0) hC d_Te_readFour_0 ?_
  refine G_istore (lv' := [(4, vI 0), (0, .ref a), (1, .ref o), (2, vI q), (3, vI stop)]) hC (by rw [hN]; decide) rfl d_Te_readFour_1 ?_
  refine G_iconst (i := 0) hC d_Te_readFour_3 ?_
  refine G_istore (lv' := [(5, vI 0), (4, vI 0), (0, .ref a), (1, .ref o), (2, vI q), (3, vI stop)]) hC (by rw [hN]; decide) rfl d_Te_readFour_4 ?_
  refine G_iconst (i := 0) hC d_Te_readFour_6 ?_
  refine G_istore (lv' := [(6, vI 0), (5, vI 0), (4, vI 0), (0, .ref a), (1, .ref o), (2, vI q), (3, vI stop)]) hC (by rw [hN]; decide) rfl d_Te_readFour_7 ?_
  refine G_aload_n hC 3 rfl rfl d_Te_readFour_9 ?_
  refine G_iconst (i := 0) hC d_Te_readFour_10 ?_
  refine G_putX (fs' := [vI k0, vI s0, vI n0, vI 0, vI f0, vI o0]) hC fl_Te_18 ft_Te fw_Te_3 h_obj_a rfl rfl (Nat.le_of_ble_eq_true rfl) rfl d_Te_readFour_11 (fun M_1 h_2 fr_3 => ?_)
  refine G_iload_n hC 5 rfl rfl d_Te_readFour_14 ?_
  refine G_istore (lv' := [(7, vI q), (6, vI 0), (5, vI 0), (4, vI 0), (0, .ref a), (1, .ref o), (2, vI q), (3, vI stop)]) hC (by rw [hN]; decide) rfl d_Te_readFour_15 ?_
  have L17 : ∀ (N : Nat) (M1 : Mp) (dots : Int) (digits : Int) (number : Int) (k : Int) (net : Int32), (stop - k).toNat < N → (Fr [t] M_1 M1) → (M1 a = some (t, .inr (cTe, [vI k0, vI s0, vI n0, .int net, vI f0, vI o0]))) → (q ≤ k ∧ (k ≤ stop ∨ k = q) ∧ 0 ≤ dots ∧ dots ≤ 3 ∧ 0 ≤ digits ∧ digits ≤ 3 ∧ 0 ≤ number ∧ number ≤ 255) → (quadL b.2 stop k dots digits number net = P) → G E M1 0 0 [(0, .ref a), (1, .ref o), (2, vI q), (3, vI stop), (4, vI dots), (5, vI digits), (6, vI number), (7, vI k)] [] 17 := by
    intro N
    induction N with
    | zero => intro M1 dots digits number k net hN17 hfr ho hk hf; exact absurd hN17 (Nat.not_lt_zero _)
    | succ N ih17 =>
      intro M1 dots digits number k net hN17 hfr ho hk hf
      refine G_iload hC 7 rfl d_Te_readFour_17 ?_
      refine G_iload_n hC 3 rfl rfl d_Te_readFour_19 ?_
      refine G_icmp_ge hC 126 (by omega) (by omega) (by decide) d_Te_readFour_20 (fun c_4 => ?_) (fun c_4 => ?_)
      · refine G_aload_n hC 0 rfl rfl d_Te_readFour_126 ?_
        refine G_aload_n hC 0 rfl rfl d_Te_readFour_127 ?_
        refine G_get hC fl_Te_18 ho rfl d_Te_readFour_128 ?_
        refine G_bipush (j := 8) hC (by decide +kernel) d_Te_readFour_131 ?_
        refine G_ishl hC rfl d_Te_readFour_133 ?_
        refine G_iload hC 6 rfl d_Te_readFour_134 ?_
        refine G_ior hC rfl d_Te_readFour_136 ?_
        refine G_putX (fs' := [vI k0, vI s0, vI n0, .int ((net <<< (zI 8 &&& 31)) ||| (zI number)), vI f0, vI o0]) hC fl_Te_18 ft_Te fw_Te_3 ho rfl rfl (Nat.le_of_ble_eq_true rfl) rfl d_Te_readFour_137 (fun M_5 h_6 fr_7 => ?_)
        refine G_iload hC 4 rfl d_Te_readFour_140 ?_
        refine G_iconst (i := 3) hC d_Te_readFour_142 ?_
        refine G_icmp_ne hC 155 (by omega) (by decide) (by decide) d_Te_readFour_143 (fun c_8 => ?_) (fun c_8 => ?_)
        · refine G_iconst (i := 0) hC d_Te_readFour_155 ?_
          exact G_zretX _ hC hQ (by omega) (by omega) d_Te_readFour_156 (b2i_f (by rw [quadL] at hf; (repeat' split at hf); all_goals first | (exfalso; omega) | (rw [← hf]; rfl))) ⟨_, rfl, h_6, (fun v9 hv => by rw [hv, quadL] at hf; (repeat' split at hf); all_goals first | (exfalso; omega) | exact (Option.some.inj hf) | cases hf), (((fr_3.up (T := [t]) (by simp)).tr' (T := [t]) hfr (fun _ z => z) (by simp)).tr' (T := [t]) fr_7 (fun _ z => z) (by simp))⟩
        · refine G_iload hC 5 rfl d_Te_readFour_146 ?_
          refine G_if_le hC 155 (by omega) (by decide) d_Te_readFour_148 (fun c_9 => ?_) (fun c_9 => ?_)
          · refine G_iconst (i := 0) hC d_Te_readFour_155 ?_
            exact G_zretX _ hC hQ (by omega) (by omega) d_Te_readFour_156 (b2i_f (by rw [quadL] at hf; (repeat' split at hf); all_goals first | (exfalso; omega) | (rw [← hf]; rfl))) ⟨_, rfl, h_6, (fun v9 hv => by rw [hv, quadL] at hf; (repeat' split at hf); all_goals first | (exfalso; omega) | exact (Option.some.inj hf) | cases hf), (((fr_3.up (T := [t]) (by simp)).tr' (T := [t]) hfr (fun _ z => z) (by simp)).tr' (T := [t]) fr_7 (fun _ z => z) (by simp))⟩
          · refine G_iconst (i := 1) hC d_Te_readFour_151 ?_
            refine G_goto hC 156 (by decide) d_Te_readFour_152 ?_
            exact G_zretX _ hC hQ (by omega) (by omega) d_Te_readFour_156 (b2i_t (by rw [quadL] at hf; (repeat' split at hf); all_goals first | (exfalso; omega) | (rw [← hf]; rfl))) ⟨_, rfl, h_6, (fun v9 hv => by rw [hv, quadL] at hf; (repeat' split at hf); all_goals first | (exfalso; omega) | exact (Option.some.inj hf) | cases hf), (((fr_3.up (T := [t]) (by simp)).tr' (T := [t]) hfr (fun _ z => z) (by simp)).tr' (T := [t]) fr_7 (fun _ z => z) (by simp))⟩
      · refine G_aload_n hC 1 rfl rfl d_Te_readFour_23 ?_
        refine G_iload hC 7 rfl d_Te_readFour_24 ?_
        have h_10 := h_B_o.fr fr_3 (by simp only [List.mem_cons, List.not_mem_nil, or_false, not_or, not_false_eq_true]; try omega) (by simp only [List.mem_cons, List.not_mem_nil, or_false, not_or, not_false_eq_true]; try omega)
        have h_11 := h_10.fr hfr (by simp only [List.mem_cons, List.not_mem_nil, or_false, not_or, not_false_eq_true]; try omega) (by simp only [List.mem_cons, List.not_mem_nil, or_false, not_or, not_false_eq_true]; try omega)
        refine G_pV (rest := []) hC hR (c_By_at h_11 (by omega)) cv_Te_30 h_11.obj (by decide) (by omega) (by omega) rfl rfl (Nat.le_of_ble_eq_true rfl) d_Te_readFour_26 ?_
        have g_12 := h_11.at_rng k
        refine G_istore (lv' := [(8, vI (atS b.2 k)), (0, .ref a), (1, .ref o), (2, vI q), (3, vI stop), (4, vI dots), (5, vI digits), (6, vI number), (7, vI k)]) hC (by rw [hN]; decide) rfl d_Te_readFour_29 ?_
        refine G_iload hC 0 rfl d_Te_readFour_31 ?_
        refine G_pS (rest := []) hC hR (c_Si_isDigit (by omega)) cs_Te_95 (by decide) (by omega) (by omega) rfl rfl (Nat.le_of_ble_eq_true rfl) d_Te_readFour_33 ?_
        refine G_if_eq hC 64 (by have := b2i_rng (decide (digP (atS b.2 k))); omega) (by decide) d_Te_readFour_36 (fun c_13 => ?_) (fun c_13 => ?_)
        · have c_13 := b2i_eq0.mp c_13
          have c_13 := of_decide_eq_false c_13
          refine G_iload hC 0 rfl d_Te_readFour_64 ?_
          refine G_bipush (j := 46) hC (by decide +kernel) d_Te_readFour_66 ?_
          refine G_icmp_ne hC 108 (by omega) (by decide) (by decide) d_Te_readFour_68 (fun c_14 => ?_) (fun c_14 => ?_)
          · refine G_iconst (i := 0) hC d_Te_readFour_108 ?_
            exact G_zretX _ hC hQ (by omega) (by omega) d_Te_readFour_109 (b2i_f (by rw [quadL] at hf; (repeat' split at hf); all_goals first | (exfalso; omega) | (rw [← hf]; rfl))) ⟨_, rfl, ho, (fun v9 hv => by rw [hv, quadL] at hf; (repeat' split at hf); all_goals first | (exfalso; omega) | exact (Option.some.inj hf) | cases hf), ((fr_3.up (T := [t]) (by simp)).tr' (T := [t]) hfr (fun _ z => z) (by simp))⟩
          · refine G_iload hC 6 rfl d_Te_readFour_71 ?_
            refine G_if_le hC 108 (by omega) (by decide) d_Te_readFour_73 (fun c_15 => ?_) (fun c_15 => ?_)
            · refine G_iconst (i := 0) hC d_Te_readFour_108 ?_
              exact G_zretX _ hC hQ (by omega) (by omega) d_Te_readFour_109 (b2i_f (by rw [quadL] at hf; (repeat' split at hf); all_goals first | (exfalso; omega) | (rw [← hf]; rfl))) ⟨_, rfl, ho, (fun v9 hv => by rw [hv, quadL] at hf; (repeat' split at hf); all_goals first | (exfalso; omega) | exact (Option.some.inj hf) | cases hf), ((fr_3.up (T := [t]) (by simp)).tr' (T := [t]) hfr (fun _ z => z) (by simp))⟩
            · refine G_iload hC 5 rfl d_Te_readFour_76 ?_
              refine G_iconst (i := 3) hC d_Te_readFour_78 ?_
              refine G_icmp_ge hC 108 (by omega) (by decide) (by decide) d_Te_readFour_79 (fun c_16 => ?_) (fun c_16 => ?_)
              · refine G_iconst (i := 0) hC d_Te_readFour_108 ?_
                exact G_zretX _ hC hQ (by omega) (by omega) d_Te_readFour_109 (b2i_f (by rw [quadL] at hf; (repeat' split at hf); all_goals first | (exfalso; omega) | (rw [← hf]; rfl))) ⟨_, rfl, ho, (fun v9 hv => by rw [hv, quadL] at hf; (repeat' split at hf); all_goals first | (exfalso; omega) | exact (Option.some.inj hf) | cases hf), ((fr_3.up (T := [t]) (by simp)).tr' (T := [t]) hfr (fun _ z => z) (by simp))⟩
              · refine G_aload_n hC 1 rfl rfl d_Te_readFour_82 ?_
                refine G_aload_n hC 1 rfl rfl d_Te_readFour_83 ?_
                refine G_get hC fl_Te_18 ho rfl d_Te_readFour_84 ?_
                refine G_bipush (j := 8) hC (by decide +kernel) d_Te_readFour_87 ?_
                refine G_ishl hC rfl d_Te_readFour_89 ?_
                refine G_iload hC 7 rfl d_Te_readFour_90 ?_
                refine G_ior hC rfl d_Te_readFour_92 ?_
                refine G_putX (fs' := [vI k0, vI s0, vI n0, .int ((net <<< (zI 8 &&& 31)) ||| (zI number)), vI f0, vI o0]) hC fl_Te_18 ft_Te fw_Te_3 ho rfl rfl (Nat.le_of_ble_eq_true rfl) rfl d_Te_readFour_93 (fun M_17 h_18 fr_19 => ?_)
                refine G_iinc (lv' := [(4, vI (dots + 1)), (8, vI (atS b.2 k)), (0, .ref a), (1, .ref o), (2, vI q), (3, vI stop), (5, vI digits), (6, vI number), (7, vI k)]) hC 5 rfl (by rw [hN]; decide) rfl d_Te_readFour_96 ?_
                refine G_iconst (i := 0) hC d_Te_readFour_99 ?_
                refine G_istore (lv' := [(5, vI 0), (4, vI (dots + 1)), (8, vI (atS b.2 k)), (0, .ref a), (1, .ref o), (2, vI q), (3, vI stop), (6, vI number), (7, vI k)]) hC (by rw [hN]; decide) rfl d_Te_readFour_100 ?_
                refine G_iconst (i := 0) hC d_Te_readFour_102 ?_
                refine G_istore (lv' := [(6, vI 0), (5, vI 0), (4, vI (dots + 1)), (8, vI (atS b.2 k)), (0, .ref a), (1, .ref o), (2, vI q), (3, vI stop), (7, vI k)]) hC (by rw [hN]; decide) rfl d_Te_readFour_103 ?_
                refine G_goto hC 110 (by decide) d_Te_readFour_105 ?_
                refine G_iload hC 0 rfl d_Te_readFour_110 ?_
                refine G_sipush (j := 255) hC (by decide +kernel) d_Te_readFour_112 ?_
                refine G_icmp_le hC 120 (by decide) (by decide) (by decide) d_Te_readFour_115 (fun c_20 => ?_) (fun c_20 => ?_)
                · refine G_iinc (lv' := [(7, vI (k + 1)), (6, vI 0), (5, vI 0), (4, vI (dots + 1)), (8, vI (atS b.2 k)), (0, .ref a), (1, .ref o), (2, vI q), (3, vI stop)]) hC 8 rfl (by rw [hN]; decide) rfl d_Te_readFour_120 ?_
                  refine G_goto hC 17 (by decide) d_Te_readFour_123 ?_
                  refine G_lv [5, 6, 7, 8, 3, 2, 1, 0] rfl ?_
                  exact ih17 M_17 (dots + 1) 0 0 (k + 1) _ (by omega) ((hfr.up (T := [t]) (by simp)).tr' (T := [t]) fr_19 (fun _ z => z) (by simp)) h_18 (by omega) (by rw [quadL] at hf; (repeat' split at hf); all_goals first | exact hf | (exfalso; omega))
                · refine G_iconst (i := 0) hC d_Te_readFour_118 ?_
                  exact G_zretX _ hC hQ (by omega) (by omega) d_Te_readFour_119 (b2i_f (by rw [quadL] at hf; (repeat' split at hf); all_goals first | (exfalso; omega) | (rw [← hf]; rfl))) ⟨_, rfl, h_18, (fun v9 hv => by rw [hv, quadL] at hf; (repeat' split at hf); all_goals first | (exfalso; omega) | exact (Option.some.inj hf) | cases hf), (((fr_3.up (T := [t]) (by simp)).tr' (T := [t]) hfr (fun _ z => z) (by simp)).tr' (T := [t]) fr_19 (fun _ z => z) (by simp))⟩
        · have c_13 := b2i_ne0.mp c_13
          have c_13 := of_decide_eq_true c_13
          refine G_iload hC 6 rfl d_Te_readFour_39 ?_
          refine G_iconst (i := 3) hC d_Te_readFour_41 ?_
          refine G_icmp_ge hC 64 (by omega) (by decide) (by decide) d_Te_readFour_42 (fun c_21 => ?_) (fun c_21 => ?_)
          · refine G_iload hC 0 rfl d_Te_readFour_64 ?_
            refine G_bipush (j := 46) hC (by decide +kernel) d_Te_readFour_66 ?_
            refine G_icmp_ne hC 108 (by omega) (by decide) (by decide) d_Te_readFour_68 (fun c_22 => ?_) (fun c_22 => ?_)
            · refine G_iconst (i := 0) hC d_Te_readFour_108 ?_
              exact G_zretX _ hC hQ (by omega) (by omega) d_Te_readFour_109 (b2i_f (by rw [quadL] at hf; (repeat' split at hf); all_goals first | (exfalso; omega) | (rw [← hf]; rfl))) ⟨_, rfl, ho, (fun v9 hv => by rw [hv, quadL] at hf; (repeat' split at hf); all_goals first | (exfalso; omega) | exact (Option.some.inj hf) | cases hf), ((fr_3.up (T := [t]) (by simp)).tr' (T := [t]) hfr (fun _ z => z) (by simp))⟩
            · refine G_iload hC 6 rfl d_Te_readFour_71 ?_
              refine G_if_le hC 108 (by omega) (by decide) d_Te_readFour_73 (fun c_23 => ?_) (fun c_23 => ?_)
              · refine G_iconst (i := 0) hC d_Te_readFour_108 ?_
                exact G_zretX _ hC hQ (by omega) (by omega) d_Te_readFour_109 (b2i_f (by rw [quadL] at hf; (repeat' split at hf); all_goals first | (exfalso; omega) | (rw [← hf]; rfl))) ⟨_, rfl, ho, (fun v9 hv => by rw [hv, quadL] at hf; (repeat' split at hf); all_goals first | (exfalso; omega) | exact (Option.some.inj hf) | cases hf), ((fr_3.up (T := [t]) (by simp)).tr' (T := [t]) hfr (fun _ z => z) (by simp))⟩
              · refine G_iload hC 5 rfl d_Te_readFour_76 ?_
                refine G_iconst (i := 3) hC d_Te_readFour_78 ?_
                refine G_icmp_ge hC 108 (by omega) (by decide) (by decide) d_Te_readFour_79 (fun c_24 => ?_) (fun c_24 => ?_)
                · refine G_iconst (i := 0) hC d_Te_readFour_108 ?_
                  exact G_zretX _ hC hQ (by omega) (by omega) d_Te_readFour_109 (b2i_f (by rw [quadL] at hf; (repeat' split at hf); all_goals first | (exfalso; omega) | (rw [← hf]; rfl))) ⟨_, rfl, ho, (fun v9 hv => by rw [hv, quadL] at hf; (repeat' split at hf); all_goals first | (exfalso; omega) | exact (Option.some.inj hf) | cases hf), ((fr_3.up (T := [t]) (by simp)).tr' (T := [t]) hfr (fun _ z => z) (by simp))⟩
                · refine G_aload_n hC 1 rfl rfl d_Te_readFour_82 ?_
                  refine G_aload_n hC 1 rfl rfl d_Te_readFour_83 ?_
                  refine G_get hC fl_Te_18 ho rfl d_Te_readFour_84 ?_
                  refine G_bipush (j := 8) hC (by decide +kernel) d_Te_readFour_87 ?_
                  refine G_ishl hC rfl d_Te_readFour_89 ?_
                  refine G_iload hC 7 rfl d_Te_readFour_90 ?_
                  refine G_ior hC rfl d_Te_readFour_92 ?_
                  refine G_putX (fs' := [vI k0, vI s0, vI n0, .int ((net <<< (zI 8 &&& 31)) ||| (zI number)), vI f0, vI o0]) hC fl_Te_18 ft_Te fw_Te_3 ho rfl rfl (Nat.le_of_ble_eq_true rfl) rfl d_Te_readFour_93 (fun M_25 h_26 fr_27 => ?_)
                  refine G_iinc (lv' := [(4, vI (dots + 1)), (8, vI (atS b.2 k)), (0, .ref a), (1, .ref o), (2, vI q), (3, vI stop), (5, vI digits), (6, vI number), (7, vI k)]) hC 5 rfl (by rw [hN]; decide) rfl d_Te_readFour_96 ?_
                  refine G_iconst (i := 0) hC d_Te_readFour_99 ?_
                  refine G_istore (lv' := [(5, vI 0), (4, vI (dots + 1)), (8, vI (atS b.2 k)), (0, .ref a), (1, .ref o), (2, vI q), (3, vI stop), (6, vI number), (7, vI k)]) hC (by rw [hN]; decide) rfl d_Te_readFour_100 ?_
                  refine G_iconst (i := 0) hC d_Te_readFour_102 ?_
                  refine G_istore (lv' := [(6, vI 0), (5, vI 0), (4, vI (dots + 1)), (8, vI (atS b.2 k)), (0, .ref a), (1, .ref o), (2, vI q), (3, vI stop), (7, vI k)]) hC (by rw [hN]; decide) rfl d_Te_readFour_103 ?_
                  refine G_goto hC 110 (by decide) d_Te_readFour_105 ?_
                  refine G_iload hC 0 rfl d_Te_readFour_110 ?_
                  refine G_sipush (j := 255) hC (by decide +kernel) d_Te_readFour_112 ?_
                  refine G_icmp_le hC 120 (by decide) (by decide) (by decide) d_Te_readFour_115 (fun c_28 => ?_) (fun c_28 => ?_)
                  · refine G_iinc (lv' := [(7, vI (k + 1)), (6, vI 0), (5, vI 0), (4, vI (dots + 1)), (8, vI (atS b.2 k)), (0, .ref a), (1, .ref o), (2, vI q), (3, vI stop)]) hC 8 rfl (by rw [hN]; decide) rfl d_Te_readFour_120 ?_
                    refine G_goto hC 17 (by decide) d_Te_readFour_123 ?_
                    refine G_lv [5, 6, 7, 8, 3, 2, 1, 0] rfl ?_
                    exact ih17 M_25 (dots + 1) 0 0 (k + 1) _ (by omega) ((hfr.up (T := [t]) (by simp)).tr' (T := [t]) fr_27 (fun _ z => z) (by simp)) h_26 (by omega) (by rw [quadL] at hf; (repeat' split at hf); all_goals first | exact hf | (exfalso; omega))
                  · refine G_iconst (i := 0) hC d_Te_readFour_118 ?_
                    exact G_zretX _ hC hQ (by omega) (by omega) d_Te_readFour_119 (b2i_f (by rw [quadL] at hf; (repeat' split at hf); all_goals first | (exfalso; omega) | (rw [← hf]; rfl))) ⟨_, rfl, h_26, (fun v9 hv => by rw [hv, quadL] at hf; (repeat' split at hf); all_goals first | (exfalso; omega) | exact (Option.some.inj hf) | cases hf), (((fr_3.up (T := [t]) (by simp)).tr' (T := [t]) hfr (fun _ z => z) (by simp)).tr' (T := [t]) fr_27 (fun _ z => z) (by simp))⟩
          · refine G_iinc (lv' := [(5, vI (digits + 1)), (8, vI (atS b.2 k)), (0, .ref a), (1, .ref o), (2, vI q), (3, vI stop), (4, vI dots), (6, vI number), (7, vI k)]) hC 6 rfl (by rw [hN]; decide) rfl d_Te_readFour_45 ?_
            refine G_iload hC 7 rfl d_Te_readFour_48 ?_
            refine G_bipush (j := 10) hC (by decide +kernel) d_Te_readFour_50 ?_
            refine G_imul hC d_Te_readFour_52 ?_
            refine G_iload hC 1 rfl d_Te_readFour_53 ?_
            refine G_iadd hC d_Te_readFour_55 ?_
            refine G_bipush (j := 48) hC (by decide +kernel) d_Te_readFour_56 ?_
            refine G_isub hC d_Te_readFour_58 ?_
            refine G_istore (lv' := [(6, vI (((number * 10) + (atS b.2 k)) - 48)), (5, vI (digits + 1)), (8, vI (atS b.2 k)), (0, .ref a), (1, .ref o), (2, vI q), (3, vI stop), (4, vI dots), (7, vI k)]) hC (by rw [hN]; decide) rfl d_Te_readFour_59 ?_
            refine G_goto hC 110 (by decide) d_Te_readFour_61 ?_
            refine G_iload hC 0 rfl d_Te_readFour_110 ?_
            refine G_sipush (j := 255) hC (by decide +kernel) d_Te_readFour_112 ?_
            refine G_icmp_le hC 120 (by omega) (by decide) (by decide) d_Te_readFour_115 (fun c_29 => ?_) (fun c_29 => ?_)
            · refine G_iinc (lv' := [(7, vI (k + 1)), (6, vI (((number * 10) + (atS b.2 k)) - 48)), (5, vI (digits + 1)), (8, vI (atS b.2 k)), (0, .ref a), (1, .ref o), (2, vI q), (3, vI stop), (4, vI dots)]) hC 8 rfl (by rw [hN]; decide) rfl d_Te_readFour_120 ?_
              refine G_goto hC 17 (by decide) d_Te_readFour_123 ?_
              refine G_lv [4, 5, 6, 7, 8, 2, 1, 0] rfl ?_
              exact ih17 M1 dots (digits + 1) (((number * 10) + (atS b.2 k)) - 48) (k + 1) _ (by omega) (hfr.up (T := [t]) (by simp)) ho (by omega) (by rw [quadL] at hf; (repeat' split at hf); all_goals first | exact hf | (exfalso; omega))
            · refine G_iconst (i := 0) hC d_Te_readFour_118 ?_
              exact G_zretX _ hC hQ (by omega) (by omega) d_Te_readFour_119 (b2i_f (by rw [quadL] at hf; (repeat' split at hf); all_goals first | (exfalso; omega) | (rw [← hf]; rfl))) ⟨_, rfl, ho, (fun v9 hv => by rw [hv, quadL] at hf; (repeat' split at hf); all_goals first | (exfalso; omega) | exact (Option.some.inj hf) | cases hf), ((fr_3.up (T := [t]) (by simp)).tr' (T := [t]) hfr (fun _ z => z) (by simp))⟩
  refine G_lv [4, 5, 6, 7, 3, 2, 1, 0] rfl ?_
  exact L17 _ M_1 0 0 0 q _ (Nat.lt_succ_self _) Fr.rf h_2 (by omega) hr
