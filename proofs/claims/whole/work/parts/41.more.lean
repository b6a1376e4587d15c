set_option maxHeartbeats 4000000 in
set_option maxRecDepth 100000 in
theorem c_By_addNumber {l : Launch} {D : Dg} {b0 : Nat} {M : Mp} {a : Nat} {v : Int} {t : Nat} {lim : Int} {b : Bv} (h_B_a : IsB D M a t lim b) (hv : 0 ≤ v ∧ v ≤ 255) : Ok l D b0 4 y_By_addNumber b_By_addNumber 2 none M [.ref a, vI v] (psi lim (addNB lim b v) - psi lim b) (psi lim (addNB lim b v) - psi lim b) (fun r M' => r = none ∧ IsB D M' a t lim (addNB lim b v) ∧ Fr [t, t + 1] M M') := by
  rcases (show 100 ≤ v ∨ (10 ≤ v ∧ v < 100) ∨ v < 10 by omega) with hv1 | hv1 | hv1
  · refine Ok_of rfl (Nat.le_of_ble_eq_true rfl) (fun E hC hQ hl hD hB hN hR => ?_)
    subst hl hD hB
    have hB9 := h_B_a.len
    have hE : addNB lim b v = addB lim (addB lim (addB lim b (48 + v / 100)) (48 + v / 10 % 10)) (48 + v % 10) := by unfold addNB; rw [if_pos (show 10 ≤ v by omega), if_pos (show 100 ≤ v by omega)]
    have hp1 := psi_addB (lim := lim) (b := b) (48 + v / 100) ⟨by omega, by omega⟩
    have hp2 := psi_addB (48 + v / 10 % 10) hp1.2
    have hp3 := psi_addB (48 + v % 10) hp2.2
    rw [hE] at hQ hR
    show G E M 0 0 [(0, .ref a), (1, vI v)] [] 0
    refine G_iload_n hC 1 rfl rfl d_By_addNumber_0 ?_
    refine G_bipush (j := 100) hC (by decide +kernel) d_By_addNumber_1 ?_
    refine G_icmp_lt hC 17 (by omega) (by decide) (by decide) d_By_addNumber_3 (fun c_1 => ?_) (fun c_1 => ?_)
    · exact (show False from by omega).elim
    · refine G_aload_n hC 0 rfl rfl d_By_addNumber_6 ?_
      refine G_bipush (j := 48) hC (by decide +kernel) d_By_addNumber_7 ?_
      refine G_iload_n hC 1 rfl rfl d_By_addNumber_9 ?_
      refine G_bipush (j := 100) hC (by decide +kernel) d_By_addNumber_10 ?_
      refine G_idiv hC (by omega) (by omega) d_By_addNumber_12 ?_
      refine G_iadd hC d_By_addNumber_13 ?_
      refine G_xV (rest := []) hC hR (c_By_add h_B_a (by omega)) cv_By_32 h_B_a.obj (by decide) (by omega) (by omega) rfl rfl (Nat.le_of_ble_eq_true rfl) d_By_addNumber_14 (fun r_4 M_2 p_3 => ?_)
      obtain ⟨rfl, h_5, fr_6⟩ := p_3
      show G E M_2 (0 + (psi lim (addB lim b (48 + (v / 100))) - psi lim b)) (0 + (psi lim (addB lim b (48 + (v / 100))) - psi lim b)) [(0, .ref a), (1, vI v)] [] 17
      have g_7 := psi_addB (lim := lim) (b := b) (48 + (v / 100)) ⟨h_B_a.len.1, h_B_a.len.2.1⟩
      refine G_iload_n hC 1 rfl rfl d_By_addNumber_17 ?_
      refine G_bipush (j := 10) hC (by decide +kernel) d_By_addNumber_18 ?_
      refine G_icmp_lt hC 37 (by omega) (by decide) (by decide) d_By_addNumber_20 (fun c_8 => ?_) (fun c_8 => ?_)
      · exact (show False from by omega).elim
      · refine G_aload_n hC 0 rfl rfl d_By_addNumber_23 ?_
        refine G_bipush (j := 48) hC (by decide +kernel) d_By_addNumber_24 ?_
        refine G_iload_n hC 1 rfl rfl d_By_addNumber_26 ?_
        refine G_bipush (j := 10) hC (by decide +kernel) d_By_addNumber_27 ?_
        refine G_idiv hC (by omega) (by omega) d_By_addNumber_29 ?_
        refine G_bipush (j := 10) hC (by decide +kernel) d_By_addNumber_30 ?_
        refine G_irem hC (by omega) (by omega) d_By_addNumber_32 ?_
        refine G_iadd hC d_By_addNumber_33 ?_
        refine G_xV (rest := []) hC hR (c_By_add h_5 (by omega)) cv_By_32 h_5.obj (by decide) (by omega) (by omega) rfl rfl (Nat.le_of_ble_eq_true rfl) d_By_addNumber_34 (fun r_11 M_9 p_10 => ?_)
        obtain ⟨rfl, h_12, fr_13⟩ := p_10
        show G E M_9 (0 + (psi lim (addB lim b (48 + (v / 100))) - psi lim b) + (psi lim (addB lim (addB lim b (48 + (v / 100))) (48 + ((v / 10) % 10))) - psi lim (addB lim b (48 + (v / 100))))) (0 + (psi lim (addB lim b (48 + (v / 100))) - psi lim b) + (psi lim (addB lim (addB lim b (48 + (v / 100))) (48 + ((v / 10) % 10))) - psi lim (addB lim b (48 + (v / 100))))) [(0, .ref a), (1, vI v)] [] 37
        have g_14 := psi_addB (lim := lim) (b := (addB lim b (48 + (v / 100)))) (48 + ((v / 10) % 10)) ⟨h_5.len.1, h_5.len.2.1⟩
        refine G_aload_n hC 0 rfl rfl d_By_addNumber_37 ?_
        refine G_bipush (j := 48) hC (by decide +kernel) d_By_addNumber_38 ?_
        refine G_iload_n hC 1 rfl rfl d_By_addNumber_40 ?_
        refine G_bipush (j := 10) hC (by decide +kernel) d_By_addNumber_41 ?_
        refine G_irem hC (by omega) (by omega) d_By_addNumber_43 ?_
        refine G_iadd hC d_By_addNumber_44 ?_
        refine G_xV (rest := []) hC hR (c_By_add h_12 (by omega)) cv_By_32 h_12.obj (by decide) (by omega) (by omega) rfl rfl (Nat.le_of_ble_eq_true rfl) d_By_addNumber_45 (fun r_17 M_15 p_16 => ?_)
        obtain ⟨rfl, h_18, fr_19⟩ := p_16
        show G E M_15 (0 + (psi lim (addB lim b (48 + (v / 100))) - psi lim b) + (psi lim (addB lim (addB lim b (48 + (v / 100))) (48 + ((v / 10) % 10))) - psi lim (addB lim b (48 + (v / 100)))) + (psi lim (addB lim (addB lim (addB lim b (48 + (v / 100))) (48 + ((v / 10) % 10))) (48 + (v % 10))) - psi lim (addB lim (addB lim b (48 + (v / 100))) (48 + ((v / 10) % 10))))) (0 + (psi lim (addB lim b (48 + (v / 100))) - psi lim b) + (psi lim (addB lim (addB lim b (48 + (v / 100))) (48 + ((v / 10) % 10))) - psi lim (addB lim b (48 + (v / 100)))) + (psi lim (addB lim (addB lim (addB lim b (48 + (v / 100))) (48 + ((v / 10) % 10))) (48 + (v % 10))) - psi lim (addB lim (addB lim b (48 + (v / 100))) (48 + ((v / 10) % 10))))) [(0, .ref a), (1, vI v)] [] 48
        have g_20 := psi_addB (lim := lim) (b := (addB lim (addB lim b (48 + (v / 100))) (48 + ((v / 10) % 10)))) (48 + (v % 10)) ⟨h_12.len.1, h_12.len.2.1⟩
        exact G_return hC hQ (by omega) (by omega) d_By_addNumber_48 ⟨rfl, h_18, (((fr_6.up (T := [t, t + 1]) (by simp)).tr' (T := [t, t + 1]) fr_13 (fun _ z => z) (by simp)).tr' (T := [t, t + 1]) fr_19 (fun _ z => z) (by simp))⟩
  · refine Ok_of rfl (Nat.le_of_ble_eq_true rfl) (fun E hC hQ hl hD hB hN hR => ?_)
    subst hl hD hB
    have hB9 := h_B_a.len
    have hE : addNB lim b v = addB lim (addB lim b (48 + v / 10 % 10)) (48 + v % 10) := by unfold addNB; rw [if_pos (show 10 ≤ v by omega), if_neg (show ¬ 100 ≤ v by omega)]
    have hp1 := psi_addB (lim := lim) (b := b) (48 + v / 10 % 10) ⟨by omega, by omega⟩
    have hp2 := psi_addB (48 + v % 10) hp1.2
    rw [hE] at hQ hR
    show G E M 0 0 [(0, .ref a), (1, vI v)] [] 0
    refine G_iload_n hC 1 rfl rfl d_By_addNumber_0 ?_
    refine G_bipush (j := 100) hC (by decide +kernel) d_By_addNumber_1 ?_
    refine G_icmp_lt hC 17 (by omega) (by decide) (by decide) d_By_addNumber_3 (fun c_21 => ?_) (fun c_21 => ?_)
    · refine G_iload_n hC 1 rfl rfl d_By_addNumber_17 ?_
      refine G_bipush (j := 10) hC (by decide +kernel) d_By_addNumber_18 ?_
      refine G_icmp_lt hC 37 (by omega) (by decide) (by decide) d_By_addNumber_20 (fun c_22 => ?_) (fun c_22 => ?_)
      · exact (show False from by omega).elim
      · refine G_aload_n hC 0 rfl rfl d_By_addNumber_23 ?_
        refine G_bipush (j := 48) hC (by decide +kernel) d_By_addNumber_24 ?_
        refine G_iload_n hC 1 rfl rfl d_By_addNumber_26 ?_
        refine G_bipush (j := 10) hC (by decide +kernel) d_By_addNumber_27 ?_
        refine G_idiv hC (by omega) (by omega) d_By_addNumber_29 ?_
        refine G_bipush (j := 10) hC (by decide +kernel) d_By_addNumber_30 ?_
        refine G_irem hC (by omega) (by omega) d_By_addNumber_32 ?_
        refine G_iadd hC d_By_addNumber_33 ?_
        refine G_xV (rest := []) hC hR (c_By_add h_B_a (by omega)) cv_By_32 h_B_a.obj (by decide) (by omega) (by omega) rfl rfl (Nat.le_of_ble_eq_true rfl) d_By_addNumber_34 (fun r_25 M_23 p_24 => ?_)
        obtain ⟨rfl, h_26, fr_27⟩ := p_24
        show G E M_23 (0 + (psi lim (addB lim b (48 + ((v / 10) % 10))) - psi lim b)) (0 + (psi lim (addB lim b (48 + ((v / 10) % 10))) - psi lim b)) [(0, .ref a), (1, vI v)] [] 37
        have g_28 := psi_addB (lim := lim) (b := b) (48 + ((v / 10) % 10)) ⟨h_B_a.len.1, h_B_a.len.2.1⟩
        refine G_aload_n hC 0 rfl rfl d_By_addNumber_37 ?_
        refine G_bipush (j := 48) hC (by decide +kernel) d_By_addNumber_38 ?_
        refine G_iload_n hC 1 rfl rfl d_By_addNumber_40 ?_
        refine G_bipush (j := 10) hC (by decide +kernel) d_By_addNumber_41 ?_
        refine G_irem hC (by omega) (by omega) d_By_addNumber_43 ?_
        refine G_iadd hC d_By_addNumber_44 ?_
        refine G_xV (rest := []) hC hR (c_By_add h_26 (by omega)) cv_By_32 h_26.obj (by decide) (by omega) (by omega) rfl rfl (Nat.le_of_ble_eq_true rfl) d_By_addNumber_45 (fun r_31 M_29 p_30 => ?_)
        obtain ⟨rfl, h_32, fr_33⟩ := p_30
        show G E M_29 (0 + (psi lim (addB lim b (48 + ((v / 10) % 10))) - psi lim b) + (psi lim (addB lim (addB lim b (48 + ((v / 10) % 10))) (48 + (v % 10))) - psi lim (addB lim b (48 + ((v / 10) % 10))))) (0 + (psi lim (addB lim b (48 + ((v / 10) % 10))) - psi lim b) + (psi lim (addB lim (addB lim b (48 + ((v / 10) % 10))) (48 + (v % 10))) - psi lim (addB lim b (48 + ((v / 10) % 10))))) [(0, .ref a), (1, vI v)] [] 48
        have g_34 := psi_addB (lim := lim) (b := (addB lim b (48 + ((v / 10) % 10)))) (48 + (v % 10)) ⟨h_26.len.1, h_26.len.2.1⟩
        exact G_return hC hQ (by omega) (by omega) d_By_addNumber_48 ⟨rfl, h_32, ((fr_27.up (T := [t, t + 1]) (by simp)).tr' (T := [t, t + 1]) fr_33 (fun _ z => z) (by simp))⟩
    · exact (show False from by omega).elim
  · refine Ok_of rfl (Nat.le_of_ble_eq_true rfl) (fun E hC hQ hl hD hB hN hR => ?_)
    subst hl hD hB
    have hB9 := h_B_a.len
    have hE : addNB lim b v = addB lim b (48 + v % 10) := by unfold addNB; rw [if_neg (show ¬ 10 ≤ v by omega), if_neg (show ¬ 100 ≤ v by omega)]
    have hp1 := psi_addB (lim := lim) (b := b) (48 + v % 10) ⟨by omega, by omega⟩
    rw [hE] at hQ hR
    show G E M 0 0 [(0, .ref a), (1, vI v)] [] 0
    refine G_iload_n hC 1 rfl rfl d_By_addNumber_0 ?_
    refine G_bipush (j := 100) hC (by decide +kernel) d_By_addNumber_1 ?_
    refine G_icmp_lt hC 17 (by omega) (by decide) (by decide) d_By_addNumber_3 (fun c_35 => ?_) (fun c_35 => ?_)
    · refine G_iload_n hC 1 rfl rfl d_By_addNumber_17 ?_
      refine G_bipush (j := 10) hC (by decide +kernel) d_By_addNumber_18 ?_
      refine G_icmp_lt hC 37 (by omega) (by decide) (by decide) d_By_addNumber_20 (fun c_36 => ?_) (fun c_36 => ?_)
      · refine G_aload_n hC 0 rfl rfl d_By_addNumber_37 ?_
        refine G_bipush (j := 48) hC (by decide +kernel) d_By_addNumber_38 ?_
        refine G_iload_n hC 1 rfl rfl d_By_addNumber_40 ?_
        refine G_bipush (j := 10) hC (by decide +kernel) d_By_addNumber_41 ?_
        refine G_irem hC (by omega) (by omega) d_By_addNumber_43 ?_
        refine G_iadd hC d_By_addNumber_44 ?_
        refine G_xV (rest := []) hC hR (c_By_add h_B_a (by omega)) cv_By_32 h_B_a.obj (by decide) (by omega) (by omega) rfl rfl (Nat.le_of_ble_eq_true rfl) d_By_addNumber_45 (fun r_39 M_37 p_38 => ?_)
        obtain ⟨rfl, h_40, fr_41⟩ := p_38
        show G E M_37 (0 + (psi lim (addB lim b (48 + (v % 10))) - psi lim b)) (0 + (psi lim (addB lim b (48 + (v % 10))) - psi lim b)) [(0, .ref a), (1, vI v)] [] 48
        have g_42 := psi_addB (lim := lim) (b := b) (48 + (v % 10)) ⟨h_B_a.len.1, h_B_a.len.2.1⟩
        exact G_return hC hQ (by omega) (by omega) d_By_addNumber_48 ⟨rfl, h_40, (fr_41.up (T := [t, t + 1]) (by simp))⟩
      · exact (show False from by omega).elim
    · exact (show False from by omega).elim

set_option maxHeartbeats 4000000 in
set_option maxRecDepth 100000 in
theorem c_Se_writeDotted {l : Launch} {D : Dg} {b0 : Nat} {M : Mp} {a : Nat} {m : Nat} {l0 : Nat} {d0 : Nat} {e : Nat} {ad : Int32} {be : Bv} (h_obj_a : M a = some (8, .inr (cSe, [.ref m, .ref l0, .ref d0, .ref e, .int ad]))) (h_B_e : IsB D M e 15 15 be) (hbe : (be.1 : Int) = 15) : Ok l D b0 5 y_Se_writeDotted b_Se_writeDotted 2 none M [.ref a] 0 0 (fun r M' => r = none ∧ IsB D M' e 15 15 (be.1, dotS ad.toInt) ∧ Fr [15, 16] M M') := by
  refine Ok_of rfl (Nat.le_of_ble_eq_true rfl) (fun E hC hQ hl hD hB hN hR => ?_)
  subst hl hD hB
  have hB9 := h_B_e.len
  have hp0 : psi 15 (be.1, ([] : List Int)) = psi 15 be := rfl
  have hp1 := psi_addNB 15 (be.1, ([] : List Int)) (ad.toInt % 4294967296 / 16777216 % 256) ⟨Nat.zero_le _, by omega⟩
  have hp2 := psi_addB 46 hp1.2
  have hp3 := psi_addNB 15 _ (ad.toInt % 4294967296 / 65536 % 256) hp2.2
  have hp4 := psi_addB 46 hp3.2
  have hp5 := psi_addNB 15 _ (ad.toInt % 4294967296 / 256 % 256) hp4.2
  have hp6 := psi_addB 46 hp5.2
  have hp7 := psi_addNB 15 _ (ad.toInt % 256) hp6.2
  have hE : addNB 15 (addB 15 (addNB 15 (addB 15 (addNB 15 (addB 15 (addNB 15 (be.1, ([] : List Int)) (ad.toInt % 4294967296 / 16777216 % 256)) 46) (ad.toInt % 4294967296 / 65536 % 256)) 46) (ad.toInt % 4294967296 / 256 % 256)) 46) (ad.toInt % 256) = (be.1, dotS ad.toInt) := dotS_row (by omega) ad.toInt
  have hp8 : psi 15 (addNB 15 (addB 15 (addNB 15 (addB 15 (addNB 15 (addB 15 (addNB 15 (be.1, ([] : List Int)) (ad.toInt % 4294967296 / 16777216 % 256)) 46) (ad.toInt % 4294967296 / 65536 % 256)) 46) (ad.toInt % 4294967296 / 256 % 256)) 46) (ad.toInt % 256)) = psi 15 be := by rw [hE]; rfl
  show G E M 0 0 [(0, .ref a)] [] 0
  refine G_aload_n hC 0 rfl rfl d_Se_writeDotted_0 ?_
  refine G_get hC fl_Se_26 h_obj_a rfl d_Se_writeDotted_1 ?_
  refine G_iconst (i := 0) hC d_Se_writeDotted_4 ?_
  refine G_xV (rest := []) hC hR (c_By_cut h_B_e (by omega)) cv_Se_57 h_B_e.obj (by decide) (by omega) (by omega) rfl rfl (Nat.le_of_ble_eq_true rfl) d_Se_writeDotted_5 (fun r_3 M_1 p_2 => ?_)
  obtain ⟨rfl, h_4, fr_5⟩ := p_2
  show G E M_1 (0 + 0) (0 + 0) [(0, .ref a)] [] 8
  refine G_bipush (j := 24) hC (by decide +kernel) d_Se_writeDotted_8 ?_
  refine G_istore_n (lv' := [(1, vI 24), (0, .ref a)]) hC rfl (by rw [hN]; decide) rfl d_Se_writeDotted_10 ?_
  refine G_iload_n hC 0 rfl rfl d_Se_writeDotted_11 ?_
  refine G_if_lt hC 51 (by decide) (by decide) d_Se_writeDotted_12 (fun c_6 => ?_) (fun c_6 => ?_)
  · exact (show False from by omega).elim
  · refine G_aload_n hC 1 rfl rfl d_Se_writeDotted_15 ?_
    have h_7 := fr_5.at h_obj_a (by simp only [List.mem_cons, List.not_mem_nil, or_false, not_or, not_false_eq_true]; try omega)
    refine G_get hC fl_Se_26 h_7 rfl d_Se_writeDotted_16 ?_
    refine G_aload_n hC 1 rfl rfl d_Se_writeDotted_19 ?_
    refine G_get hC fl_Se_29 h_7 rfl d_Se_writeDotted_20 ?_
    refine G_X2I ?_
    have g_8 := zI_rng ad
    refine G_iload_n hC 0 rfl rfl d_Se_writeDotted_23 ?_
    refine G_iushr hC (zI_ushr24 _) d_Se_writeDotted_24 ?_
    refine G_sipush (j := 255) hC (by decide +kernel) d_Se_writeDotted_25 ?_
    refine G_iand255 hC (by omega) d_Se_writeDotted_28 ?_
    have h_9 : IsB (eD E) M_1 e 15 15 (be.1, ([] : List Int)) := by rw [← cut0 be]; exact h_4
    refine G_xV (rest := []) hC hR (c_By_addNumber h_9 (by omega)) cv_Se_64 h_9.obj (by decide) (by omega) (by omega) rfl rfl (Nat.le_of_ble_eq_true rfl) d_Se_writeDotted_29 (fun r_12 M_10 p_11 => ?_)
    obtain ⟨rfl, h_13, fr_14⟩ := p_11
    show G E M_10 (0 + 0 + (psi 15 (addNB 15 (be.1, ([] : List Int)) ((ad.toInt % 4294967296 / 16777216) % 256)) - psi 15 (be.1, ([] : List Int)))) (0 + 0 + (psi 15 (addNB 15 (be.1, ([] : List Int)) ((ad.toInt % 4294967296 / 16777216) % 256)) - psi 15 (be.1, ([] : List Int)))) [(1, vI 24), (0, .ref a)] [] 32
    have g_15 := psi_addNB 15 (be.1, ([] : List Int)) ((ad.toInt % 4294967296 / 16777216) % 256) ⟨h_9.len.1, h_9.len.2.1⟩
    refine G_iload_n hC 0 rfl rfl d_Se_writeDotted_32 ?_
    refine G_if_le hC 45 (by decide) (by decide) d_Se_writeDotted_33 (fun c_16 => ?_) (fun c_16 => ?_)
    · exact (show False from by omega).elim
    · refine G_aload_n hC 1 rfl rfl d_Se_writeDotted_36 ?_
      have h_17 := fr_14.at h_7 (by simp only [List.mem_cons, List.not_mem_nil, or_false, not_or, not_false_eq_true]; try omega)
      refine G_get hC fl_Se_26 h_17 rfl d_Se_writeDotted_37 ?_
      refine G_bipush (j := 46) hC (by decide +kernel) d_Se_writeDotted_40 ?_
      refine G_xV (rest := []) hC hR (c_By_add h_13 (by omega)) cv_Se_67 h_13.obj (by decide) (by omega) (by omega) rfl rfl (Nat.le_of_ble_eq_true rfl) d_Se_writeDotted_42 (fun r_20 M_18 p_19 => ?_)
      obtain ⟨rfl, h_21, fr_22⟩ := p_19
      show G E M_18 (0 + 0 + (psi 15 (addNB 15 (be.1, ([] : List Int)) ((ad.toInt % 4294967296 / 16777216) % 256)) - psi 15 (be.1, ([] : List Int))) + (psi 15 (addB 15 (addNB 15 (be.1, ([] : List Int)) ((ad.toInt % 4294967296 / 16777216) % 256)) 46) - psi 15 (addNB 15 (be.1, ([] : List Int)) ((ad.toInt % 4294967296 / 16777216) % 256)))) (0 + 0 + (psi 15 (addNB 15 (be.1, ([] : List Int)) ((ad.toInt % 4294967296 / 16777216) % 256)) - psi 15 (be.1, ([] : List Int))) + (psi 15 (addB 15 (addNB 15 (be.1, ([] : List Int)) ((ad.toInt % 4294967296 / 16777216) % 256)) 46) - psi 15 (addNB 15 (be.1, ([] : List Int)) ((ad.toInt % 4294967296 / 16777216) % 256)))) [(1, vI 24), (0, .ref a)] [] 45
      have g_23 := psi_addB (lim := 15) (b := (addNB 15 (be.1, ([] : List Int)) ((ad.toInt % 4294967296 / 16777216) % 256))) 46 ⟨h_13.len.1, h_13.len.2.1⟩
      refine G_iinc (lv' := [(1, vI (24 + (-8))), (0, .ref a)]) hC 0 rfl (by rw [hN]; decide) rfl d_Se_writeDotted_45 ?_
      show G E M_18 (0 + 0 + (psi 15 (addNB 15 (be.1, ([] : List Int)) ((ad.toInt % 4294967296 / 16777216) % 256)) - psi 15 (be.1, ([] : List Int))) + (psi 15 (addB 15 (addNB 15 (be.1, ([] : List Int)) ((ad.toInt % 4294967296 / 16777216) % 256)) 46) - psi 15 (addNB 15 (be.1, ([] : List Int)) ((ad.toInt % 4294967296 / 16777216) % 256)))) (0 + 0 + (psi 15 (addNB 15 (be.1, ([] : List Int)) ((ad.toInt % 4294967296 / 16777216) % 256)) - psi 15 (be.1, ([] : List Int))) + (psi 15 (addB 15 (addNB 15 (be.1, ([] : List Int)) ((ad.toInt % 4294967296 / 16777216) % 256)) 46) - psi 15 (addNB 15 (be.1, ([] : List Int)) ((ad.toInt % 4294967296 / 16777216) % 256)))) [(1, vI 16), (0, .ref a)] [] 48
      refine G_goto hC 11 (by decide) d_Se_writeDotted_48 ?_
      refine G_iload_n hC 0 rfl rfl d_Se_writeDotted_11 ?_
      refine G_if_lt hC 51 (by decide) (by decide) d_Se_writeDotted_12 (fun c_24 => ?_) (fun c_24 => ?_)
      · exact (show False from by omega).elim
      · refine G_aload_n hC 1 rfl rfl d_Se_writeDotted_15 ?_
        have h_25 := fr_22.at h_17 (by simp only [List.mem_cons, List.not_mem_nil, or_false, not_or, not_false_eq_true]; try omega)
        refine G_get hC fl_Se_26 h_25 rfl d_Se_writeDotted_16 ?_
        refine G_aload_n hC 1 rfl rfl d_Se_writeDotted_19 ?_
        refine G_get hC fl_Se_29 h_25 rfl d_Se_writeDotted_20 ?_
        refine G_X2I ?_
        have g_26 := zI_rng ad
        refine G_iload_n hC 0 rfl rfl d_Se_writeDotted_23 ?_
        refine G_iushr hC (zI_ushr16 _) d_Se_writeDotted_24 ?_
        refine G_sipush (j := 255) hC (by decide +kernel) d_Se_writeDotted_25 ?_
        refine G_iand255 hC (by omega) d_Se_writeDotted_28 ?_
        refine G_xV (rest := []) hC hR (c_By_addNumber h_21 (by omega)) cv_Se_64 h_21.obj (by decide) (by omega) (by omega) rfl rfl (Nat.le_of_ble_eq_true rfl) d_Se_writeDotted_29 (fun r_29 M_27 p_28 => ?_)
        obtain ⟨rfl, h_30, fr_31⟩ := p_28
        show G E M_27 (0 + 0 + (psi 15 (addNB 15 (be.1, ([] : List Int)) ((ad.toInt % 4294967296 / 16777216) % 256)) - psi 15 (be.1, ([] : List Int))) + (psi 15 (addB 15 (addNB 15 (be.1, ([] : List Int)) ((ad.toInt % 4294967296 / 16777216) % 256)) 46) - psi 15 (addNB 15 (be.1, ([] : List Int)) ((ad.toInt % 4294967296 / 16777216) % 256))) + (psi 15 (addNB 15 (addB 15 (addNB 15 (be.1, ([] : List Int)) ((ad.toInt % 4294967296 / 16777216) % 256)) 46) ((ad.toInt % 4294967296 / 65536) % 256)) - psi 15 (addB 15 (addNB 15 (be.1, ([] : List Int)) ((ad.toInt % 4294967296 / 16777216) % 256)) 46))) (0 + 0 + (psi 15 (addNB 15 (be.1, ([] : List Int)) ((ad.toInt % 4294967296 / 16777216) % 256)) - psi 15 (be.1, ([] : List Int))) + (psi 15 (addB 15 (addNB 15 (be.1, ([] : List Int)) ((ad.toInt % 4294967296 / 16777216) % 256)) 46) - psi 15 (addNB 15 (be.1, ([] : List Int)) ((ad.toInt % 4294967296 / 16777216) % 256))) + (psi 15 (addNB 15 (addB 15 (addNB 15 (be.1, ([] : List Int)) ((ad.toInt % 4294967296 / 16777216) % 256)) 46) ((ad.toInt % 4294967296 / 65536) % 256)) - psi 15 (addB 15 (addNB 15 (be.1, ([] : List Int)) ((ad.toInt % 4294967296 / 16777216) % 256)) 46))) [(1, vI 16), (0, .ref a)] [] 32
        have g_32 := psi_addNB 15 (addB 15 (addNB 15 (be.1, ([] : List Int)) ((ad.toInt % 4294967296 / 16777216) % 256)) 46) ((ad.toInt % 4294967296 / 65536) % 256) ⟨h_21.len.1, h_21.len.2.1⟩
        refine G_iload_n hC 0 rfl rfl d_Se_writeDotted_32 ?_
        refine G_if_le hC 45 (by decide) (by decide) d_Se_writeDotted_33 (fun c_33 => ?_) (fun c_33 => ?_)
        · exact (show False from by omega).elim
        · refine G_aload_n hC 1 rfl rfl d_Se_writeDotted_36 ?_
          have h_34 := fr_31.at h_25 (by simp only [List.mem_cons, List.not_mem_nil, or_false, not_or, not_false_eq_true]; try omega)
          refine G_get hC fl_Se_26 h_34 rfl d_Se_writeDotted_37 ?_
          refine G_bipush (j := 46) hC (by decide +kernel) d_Se_writeDotted_40 ?_
          refine G_xV (rest := []) hC hR (c_By_add h_30 (by omega)) cv_Se_67 h_30.obj (by decide) (by omega) (by omega) rfl rfl (Nat.le_of_ble_eq_true rfl) d_Se_writeDotted_42 (fun r_37 M_35 p_36 => ?_)
          obtain ⟨rfl, h_38, fr_39⟩ := p_36
          show G E M_35 (0 + 0 + (psi 15 (addNB 15 (be.1, ([] : List Int)) ((ad.toInt % 4294967296 / 16777216) % 256)) - psi 15 (be.1, ([] : List Int))) + (psi 15 (addB 15 (addNB 15 (be.1, ([] : List Int)) ((ad.toInt % 4294967296 / 16777216) % 256)) 46) - psi 15 (addNB 15 (be.1, ([] : List Int)) ((ad.toInt % 4294967296 / 16777216) % 256))) + (psi 15 (addNB 15 (addB 15 (addNB 15 (be.1, ([] : List Int)) ((ad.toInt % 4294967296 / 16777216) % 256)) 46) ((ad.toInt % 4294967296 / 65536) % 256)) - psi 15 (addB 15 (addNB 15 (be.1, ([] : List Int)) ((ad.toInt % 4294967296 / 16777216) % 256)) 46)) + (psi 15 (addB 15 (addNB 15 (addB 15 (addNB 15 (be.1, ([] : List Int)) ((ad.toInt % 4294967296 / 16777216) % 256)) 46) ((ad.toInt % 4294967296 / 65536) % 256)) 46) - psi 15 (addNB 15 (addB 15 (addNB 15 (be.1, ([] : List Int)) ((ad.toInt % 4294967296 / 16777216) % 256)) 46) ((ad.toInt % 4294967296 / 65536) % 256)))) (0 + 0 + (psi 15 (addNB 15 (be.1, ([] : List Int)) ((ad.toInt % 4294967296 / 16777216) % 256)) - psi 15 (be.1, ([] : List Int))) + (psi 15 (addB 15 (addNB 15 (be.1, ([] : List Int)) ((ad.toInt % 4294967296 / 16777216) % 256)) 46) - psi 15 (addNB 15 (be.1, ([] : List Int)) ((ad.toInt % 4294967296 / 16777216) % 256))) + (psi 15 (addNB 15 (addB 15 (addNB 15 (be.1, ([] : List Int)) ((ad.toInt % 4294967296 / 16777216) % 256)) 46) ((ad.toInt % 4294967296 / 65536) % 256)) - psi 15 (addB 15 (addNB 15 (be.1, ([] : List Int)) ((ad.toInt % 4294967296 / 16777216) % 256)) 46)) + (psi 15 (addB 15 (addNB 15 (addB 15 (addNB 15 (be.1, ([] : List Int)) ((ad.toInt % 4294967296 / 16777216) % 256)) 46) ((ad.toInt % 4294967296 / 65536) % 256)) 46) - psi 15 (addNB 15 (addB 15 (addNB 15 (be.1, ([] : List Int)) ((ad.toInt % 4294967296 / 16777216) % 256)) 46) ((ad.toInt % 4294967296 / 65536) % 256)))) [(1, vI 16), (0, .ref a)] [] 45
          have g_40 := psi_addB (lim := 15) (b := (addNB 15 (addB 15 (addNB 15 (be.1, ([] : List Int)) ((ad.toInt % 4294967296 / 16777216) % 256)) 46) ((ad.toInt % 4294967296 / 65536) % 256))) 46 ⟨h_30.len.1, h_30.len.2.1⟩
          refine G_iinc (lv' := [(1, vI (16 + (-8))), (0, .ref a)]) hC 0 rfl (by rw [hN]; decide) rfl d_Se_writeDotted_45 ?_
          show G E M_35 (0 + 0 + (psi 15 (addNB 15 (be.1, ([] : List Int)) ((ad.toInt % 4294967296 / 16777216) % 256)) - psi 15 (be.1, ([] : List Int))) + (psi 15 (addB 15 (addNB 15 (be.1, ([] : List Int)) ((ad.toInt % 4294967296 / 16777216) % 256)) 46) - psi 15 (addNB 15 (be.1, ([] : List Int)) ((ad.toInt % 4294967296 / 16777216) % 256))) + (psi 15 (addNB 15 (addB 15 (addNB 15 (be.1, ([] : List Int)) ((ad.toInt % 4294967296 / 16777216) % 256)) 46) ((ad.toInt % 4294967296 / 65536) % 256)) - psi 15 (addB 15 (addNB 15 (be.1, ([] : List Int)) ((ad.toInt % 4294967296 / 16777216) % 256)) 46)) + (psi 15 (addB 15 (addNB 15 (addB 15 (addNB 15 (be.1, ([] : List Int)) ((ad.toInt % 4294967296 / 16777216) % 256)) 46) ((ad.toInt % 4294967296 / 65536) % 256)) 46) - psi 15 (addNB 15 (addB 15 (addNB 15 (be.1, ([] : List Int)) ((ad.toInt % 4294967296 / 16777216) % 256)) 46) ((ad.toInt % 4294967296 / 65536) % 256)))) (0 + 0 + (psi 15 (addNB 15 (be.1, ([] : List Int)) ((ad.toInt % 4294967296 / 16777216) % 256)) - psi 15 (be.1, ([] : List Int))) + (psi 15 (addB 15 (addNB 15 (be.1, ([] : List Int)) ((ad.toInt % 4294967296 / 16777216) % 256)) 46) - psi 15 (addNB 15 (be.1, ([] : List Int)) ((ad.toInt % 4294967296 / 16777216) % 256))) + (psi 15 (addNB 15 (addB 15 (addNB 15 (be.1, ([] : List Int)) ((ad.toInt % 4294967296 / 16777216) % 256)) 46) ((ad.toInt % 4294967296 / 65536) % 256)) - psi 15 (addB 15 (addNB 15 (be.1, ([] : List Int)) ((ad.toInt % 4294967296 / 16777216) % 256)) 46)) + (psi 15 (addB 15 (addNB 15 (addB 15 (addNB 15 (be.1, ([] : List Int)) ((ad.toInt % 4294967296 / 16777216) % 256)) 46) ((ad.toInt % 4294967296 / 65536) % 256)) 46) - psi 15 (addNB 15 (addB 15 (addNB 15 (be.1, ([] : List Int)) ((ad.toInt % 4294967296 / 16777216) % 256)) 46) ((ad.toInt % 4294967296 / 65536) % 256)))) [(1, vI 8), (0, .ref a)] [] 48
          refine G_goto hC 11 (by decide) d_Se_writeDotted_48 ?_
          refine G_iload_n hC 0 rfl rfl d_Se_writeDotted_11 ?_
          refine G_if_lt hC 51 (by decide) (by decide) d_Se_writeDotted_12 (fun c_41 => ?_) (fun c_41 => ?_)
          · exact (show False from by omega).elim
          · refine G_aload_n hC 1 rfl rfl d_Se_writeDotted_15 ?_
            have h_42 := fr_39.at h_34 (by simp only [List.mem_cons, List.not_mem_nil, or_false, not_or, not_false_eq_true]; try omega)
            refine G_get hC fl_Se_26 h_42 rfl d_Se_writeDotted_16 ?_
            refine G_aload_n hC 1 rfl rfl d_Se_writeDotted_19 ?_
            refine G_get hC fl_Se_29 h_42 rfl d_Se_writeDotted_20 ?_
            refine G_X2I ?_
            have g_43 := zI_rng ad
            refine G_iload_n hC 0 rfl rfl d_Se_writeDotted_23 ?_
            refine G_iushr hC (zI_ushr8 _) d_Se_writeDotted_24 ?_
            refine G_sipush (j := 255) hC (by decide +kernel) d_Se_writeDotted_25 ?_
            refine G_iand255 hC (by omega) d_Se_writeDotted_28 ?_
            refine G_xV (rest := []) hC hR (c_By_addNumber h_38 (by omega)) cv_Se_64 h_38.obj (by decide) (by omega) (by omega) rfl rfl (Nat.le_of_ble_eq_true rfl) d_Se_writeDotted_29 (fun r_46 M_44 p_45 => ?_)
            obtain ⟨rfl, h_47, fr_48⟩ := p_45
            show G E M_44 (0 + 0 + (psi 15 (addNB 15 (be.1, ([] : List Int)) ((ad.toInt % 4294967296 / 16777216) % 256)) - psi 15 (be.1, ([] : List Int))) + (psi 15 (addB 15 (addNB 15 (be.1, ([] : List Int)) ((ad.toInt % 4294967296 / 16777216) % 256)) 46) - psi 15 (addNB 15 (be.1, ([] : List Int)) ((ad.toInt % 4294967296 / 16777216) % 256))) + (psi 15 (addNB 15 (addB 15 (addNB 15 (be.1, ([] : List Int)) ((ad.toInt % 4294967296 / 16777216) % 256)) 46) ((ad.toInt % 4294967296 / 65536) % 256)) - psi 15 (addB 15 (addNB 15 (be.1, ([] : List Int)) ((ad.toInt % 4294967296 / 16777216) % 256)) 46)) + (psi 15 (addB 15 (addNB 15 (addB 15 (addNB 15 (be.1, ([] : List Int)) ((ad.toInt % 4294967296 / 16777216) % 256)) 46) ((ad.toInt % 4294967296 / 65536) % 256)) 46) - psi 15 (addNB 15 (addB 15 (addNB 15 (be.1, ([] : List Int)) ((ad.toInt % 4294967296 / 16777216) % 256)) 46) ((ad.toInt % 4294967296 / 65536) % 256))) + (psi 15 (addNB 15 (addB 15 (addNB 15 (addB 15 (addNB 15 (be.1, ([] : List Int)) ((ad.toInt % 4294967296 / 16777216) % 256)) 46) ((ad.toInt % 4294967296 / 65536) % 256)) 46) ((ad.toInt % 4294967296 / 256) % 256)) - psi 15 (addB 15 (addNB 15 (addB 15 (addNB 15 (be.1, ([] : List Int)) ((ad.toInt % 4294967296 / 16777216) % 256)) 46) ((ad.toInt % 4294967296 / 65536) % 256)) 46))) (0 + 0 + (psi 15 (addNB 15 (be.1, ([] : List Int)) ((ad.toInt % 4294967296 / 16777216) % 256)) - psi 15 (be.1, ([] : List Int))) + (psi 15 (addB 15 (addNB 15 (be.1, ([] : List Int)) ((ad.toInt % 4294967296 / 16777216) % 256)) 46) - psi 15 (addNB 15 (be.1, ([] : List Int)) ((ad.toInt % 4294967296 / 16777216) % 256))) + (psi 15 (addNB 15 (addB 15 (addNB 15 (be.1, ([] : List Int)) ((ad.toInt % 4294967296 / 16777216) % 256)) 46) ((ad.toInt % 4294967296 / 65536) % 256)) - psi 15 (addB 15 (addNB 15 (be.1, ([] : List Int)) ((ad.toInt % 4294967296 / 16777216) % 256)) 46)) + (psi 15 (addB 15 (addNB 15 (addB 15 (addNB 15 (be.1, ([] : List Int)) ((ad.toInt % 4294967296 / 16777216) % 256)) 46) ((ad.toInt % 4294967296 / 65536) % 256)) 46) - psi 15 (addNB 15 (addB 15 (addNB 15 (be.1, ([] : List Int)) ((ad.toInt % 4294967296 / 16777216) % 256)) 46) ((ad.toInt % 4294967296 / 65536) % 256))) + (psi 15 (addNB 15 (addB 15 (addNB 15 (addB 15 (addNB 15 (be.1, ([] : List Int)) ((ad.toInt % 4294967296 / 16777216) % 256)) 46) ((ad.toInt % 4294967296 / 65536) % 256)) 46) ((ad.toInt % 4294967296 / 256) % 256)) - psi 15 (addB 15 (addNB 15 (addB 15 (addNB 15 (be.1, ([] : List Int)) ((ad.toInt % 4294967296 / 16777216) % 256)) 46) ((ad.toInt % 4294967296 / 65536) % 256)) 46))) [(1, vI 8), (0, .ref a)] [] 32
            have g_49 := psi_addNB 15 (addB 15 (addNB 15 (addB 15 (addNB 15 (be.1, ([] : List Int)) ((ad.toInt % 4294967296 / 16777216) % 256)) 46) ((ad.toInt % 4294967296 / 65536) % 256)) 46) ((ad.toInt % 4294967296 / 256) % 256) ⟨h_38.len.1, h_38.len.2.1⟩
            refine G_iload_n hC 0 rfl rfl d_Se_writeDotted_32 ?_
            refine G_if_le hC 45 (by decide) (by decide) d_Se_writeDotted_33 (fun c_50 => ?_) (fun c_50 => ?_)
            · exact (show False from by omega).elim
            · refine G_aload_n hC 1 rfl rfl d_Se_writeDotted_36 ?_
              have h_51 := fr_48.at h_42 (by simp only [List.mem_cons, List.not_mem_nil, or_false, not_or, not_false_eq_true]; try omega)
              refine G_get hC fl_Se_26 h_51 rfl d_Se_writeDotted_37 ?_
              refine G_bipush (j := 46) hC (by decide +kernel) d_Se_writeDotted_40 ?_
              refine G_xV (rest := []) hC hR (c_By_add h_47 (by omega)) cv_Se_67 h_47.obj (by decide) (by omega) (by omega) rfl rfl (Nat.le_of_ble_eq_true rfl) d_Se_writeDotted_42 (fun r_54 M_52 p_53 => ?_)
              obtain ⟨rfl, h_55, fr_56⟩ := p_53
              show G E M_52 (0 + 0 + (psi 15 (addNB 15 (be.1, ([] : List Int)) ((ad.toInt % 4294967296 / 16777216) % 256)) - psi 15 (be.1, ([] : List Int))) + (psi 15 (addB 15 (addNB 15 (be.1, ([] : List Int)) ((ad.toInt % 4294967296 / 16777216) % 256)) 46) - psi 15 (addNB 15 (be.1, ([] : List Int)) ((ad.toInt % 4294967296 / 16777216) % 256))) + (psi 15 (addNB 15 (addB 15 (addNB 15 (be.1, ([] : List Int)) ((ad.toInt % 4294967296 / 16777216) % 256)) 46) ((ad.toInt % 4294967296 / 65536) % 256)) - psi 15 (addB 15 (addNB 15 (be.1, ([] : List Int)) ((ad.toInt % 4294967296 / 16777216) % 256)) 46)) + (psi 15 (addB 15 (addNB 15 (addB 15 (addNB 15 (be.1, ([] : List Int)) ((ad.toInt % 4294967296 / 16777216) % 256)) 46) ((ad.toInt % 4294967296 / 65536) % 256)) 46) - psi 15 (addNB 15 (addB 15 (addNB 15 (be.1, ([] : List Int)) ((ad.toInt % 4294967296 / 16777216) % 256)) 46) ((ad.toInt % 4294967296 / 65536) % 256))) + (psi 15 (addNB 15 (addB 15 (addNB 15 (addB 15 (addNB 15 (be.1, ([] : List Int)) ((ad.toInt % 4294967296 / 16777216) % 256)) 46) ((ad.toInt % 4294967296 / 65536) % 256)) 46) ((ad.toInt % 4294967296 / 256) % 256)) - psi 15 (addB 15 (addNB 15 (addB 15 (addNB 15 (be.1, ([] : List Int)) ((ad.toInt % 4294967296 / 16777216) % 256)) 46) ((ad.toInt % 4294967296 / 65536) % 256)) 46)) + (psi 15 (addB 15 (addNB 15 (addB 15 (addNB 15 (addB 15 (addNB 15 (be.1, ([] : List Int)) ((ad.toInt % 4294967296 / 16777216) % 256)) 46) ((ad.toInt % 4294967296 / 65536) % 256)) 46) ((ad.toInt % 4294967296 / 256) % 256)) 46) - psi 15 (addNB 15 (addB 15 (addNB 15 (addB 15 (addNB 15 (be.1, ([] : List Int)) ((ad.toInt % 4294967296 / 16777216) % 256)) 46) ((ad.toInt % 4294967296 / 65536) % 256)) 46) ((ad.toInt % 4294967296 / 256) % 256)))) (0 + 0 + (psi 15 (addNB 15 (be.1, ([] : List Int)) ((ad.toInt % 4294967296 / 16777216) % 256)) - psi 15 (be.1, ([] : List Int))) + (psi 15 (addB 15 (addNB 15 (be.1, ([] : List Int)) ((ad.toInt % 4294967296 / 16777216) % 256)) 46) - psi 15 (addNB 15 (be.1, ([] : List Int)) ((ad.toInt % 4294967296 / 16777216) % 256))) + (psi 15 (addNB 15 (addB 15 (addNB 15 (be.1, ([] : List Int)) ((ad.toInt % 4294967296 / 16777216) % 256)) 46) ((ad.toInt % 4294967296 / 65536) % 256)) - psi 15 (addB 15 (addNB 15 (be.1, ([] : List Int)) ((ad.toInt % 4294967296 / 16777216) % 256)) 46)) + (psi 15 (addB 15 (addNB 15 (addB 15 (addNB 15 (be.1, ([] : List Int)) ((ad.toInt % 4294967296 / 16777216) % 256)) 46) ((ad.toInt % 4294967296 / 65536) % 256)) 46) - psi 15 (addNB 15 (addB 15 (addNB 15 (be.1, ([] : List Int)) ((ad.toInt % 4294967296 / 16777216) % 256)) 46) ((ad.toInt % 4294967296 / 65536) % 256))) + (psi 15 (addNB 15 (addB 15 (addNB 15 (addB 15 (addNB 15 (be.1, ([] : List Int)) ((ad.toInt % 4294967296 / 16777216) % 256)) 46) ((ad.toInt % 4294967296 / 65536) % 256)) 46) ((ad.toInt % 4294967296 / 256) % 256)) - psi 15 (addB 15 (addNB 15 (addB 15 (addNB 15 (be.1, ([] : List Int)) ((ad.toInt % 4294967296 / 16777216) % 256)) 46) ((ad.toInt % 4294967296 / 65536) % 256)) 46)) + (psi 15 (addB 15 (addNB 15 (addB 15 (addNB 15 (addB 15 (addNB 15 (be.1, ([] : List Int)) ((ad.toInt % 4294967296 / 16777216) % 256)) 46) ((ad.toInt % 4294967296 / 65536) % 256)) 46) ((ad.toInt % 4294967296 / 256) % 256)) 46) - psi 15 (addNB 15 (addB 15 (addNB 15 (addB 15 (addNB 15 (be.1, ([] : List Int)) ((ad.toInt % 4294967296 / 16777216) % 256)) 46) ((ad.toInt % 4294967296 / 65536) % 256)) 46) ((ad.toInt % 4294967296 / 256) % 256)))) [(1, vI 8), (0, .ref a)] [] 45
              have g_57 := psi_addB (lim := 15) (b := (addNB 15 (addB 15 (addNB 15 (addB 15 (addNB 15 (be.1, ([] : List Int)) ((ad.toInt % 4294967296 / 16777216) % 256)) 46) ((ad.toInt % 4294967296 / 65536) % 256)) 46) ((ad.toInt % 4294967296 / 256) % 256))) 46 ⟨h_47.len.1, h_47.len.2.1⟩
              refine G_iinc (lv' := [(1, vI (8 + (-8))), (0, .ref a)]) hC 0 rfl (by rw [hN]; decide) rfl d_Se_writeDotted_45 ?_
              show G E M_52 (0 + 0 + (psi 15 (addNB 15 (be.1, ([] : List Int)) ((ad.toInt % 4294967296 / 16777216) % 256)) - psi 15 (be.1, ([] : List Int))) + (psi 15 (addB 15 (addNB 15 (be.1, ([] : List Int)) ((ad.toInt % 4294967296 / 16777216) % 256)) 46) - psi 15 (addNB 15 (be.1, ([] : List Int)) ((ad.toInt % 4294967296 / 16777216) % 256))) + (psi 15 (addNB 15 (addB 15 (addNB 15 (be.1, ([] : List Int)) ((ad.toInt % 4294967296 / 16777216) % 256)) 46) ((ad.toInt % 4294967296 / 65536) % 256)) - psi 15 (addB 15 (addNB 15 (be.1, ([] : List Int)) ((ad.toInt % 4294967296 / 16777216) % 256)) 46)) + (psi 15 (addB 15 (addNB 15 (addB 15 (addNB 15 (be.1, ([] : List Int)) ((ad.toInt % 4294967296 / 16777216) % 256)) 46) ((ad.toInt % 4294967296 / 65536) % 256)) 46) - psi 15 (addNB 15 (addB 15 (addNB 15 (be.1, ([] : List Int)) ((ad.toInt % 4294967296 / 16777216) % 256)) 46) ((ad.toInt % 4294967296 / 65536) % 256))) + (psi 15 (addNB 15 (addB 15 (addNB 15 (addB 15 (addNB 15 (be.1, ([] : List Int)) ((ad.toInt % 4294967296 / 16777216) % 256)) 46) ((ad.toInt % 4294967296 / 65536) % 256)) 46) ((ad.toInt % 4294967296 / 256) % 256)) - psi 15 (addB 15 (addNB 15 (addB 15 (addNB 15 (be.1, ([] : List Int)) ((ad.toInt % 4294967296 / 16777216) % 256)) 46) ((ad.toInt % 4294967296 / 65536) % 256)) 46)) + (psi 15 (addB 15 (addNB 15 (addB 15 (addNB 15 (addB 15 (addNB 15 (be.1, ([] : List Int)) ((ad.toInt % 4294967296 / 16777216) % 256)) 46) ((ad.toInt % 4294967296 / 65536) % 256)) 46) ((ad.toInt % 4294967296 / 256) % 256)) 46) - psi 15 (addNB 15 (addB 15 (addNB 15 (addB 15 (addNB 15 (be.1, ([] : List Int)) ((ad.toInt % 4294967296 / 16777216) % 256)) 46) ((ad.toInt % 4294967296 / 65536) % 256)) 46) ((ad.toInt % 4294967296 / 256) % 256)))) (0 + 0 + (psi 15 (addNB 15 (be.1, ([] : List Int)) ((ad.toInt % 4294967296 / 16777216) % 256)) - psi 15 (be.1, ([] : List Int))) + (psi 15 (addB 15 (addNB 15 (be.1, ([] : List Int)) ((ad.toInt % 4294967296 / 16777216) % 256)) 46) - psi 15 (addNB 15 (be.1, ([] : List Int)) ((ad.toInt % 4294967296 / 16777216) % 256))) + (psi 15 (addNB 15 (addB 15 (addNB 15 (be.1, ([] : List Int)) ((ad.toInt % 4294967296 / 16777216) % 256)) 46) ((ad.toInt % 4294967296 / 65536) % 256)) - psi 15 (addB 15 (addNB 15 (be.1, ([] : List Int)) ((ad.toInt % 4294967296 / 16777216) % 256)) 46)) + (psi 15 (addB 15 (addNB 15 (addB 15 (addNB 15 (be.1, ([] : List Int)) ((ad.toInt % 4294967296 / 16777216) % 256)) 46) ((ad.toInt % 4294967296 / 65536) % 256)) 46) - psi 15 (addNB 15 (addB 15 (addNB 15 (be.1, ([] : List Int)) ((ad.toInt % 4294967296 / 16777216) % 256)) 46) ((ad.toInt % 4294967296 / 65536) % 256))) + (psi 15 (addNB 15 (addB 15 (addNB 15 (addB 15 (addNB 15 (be.1, ([] : List Int)) ((ad.toInt % 4294967296 / 16777216) % 256)) 46) ((ad.toInt % 4294967296 / 65536) % 256)) 46) ((ad.toInt % 4294967296 / 256) % 256)) - psi 15 (addB 15 (addNB 15 (addB 15 (addNB 15 (be.1, ([] : List Int)) ((ad.toInt % 4294967296 / 16777216) % 256)) 46) ((ad.toInt % 4294967296 / 65536) % 256)) 46)) + (psi 15 (addB 15 (addNB 15 (addB 15 (addNB 15 (addB 15 (addNB 15 (be.1, ([] : List Int)) ((ad.toInt % 4294967296 / 16777216) % 256)) 46) ((ad.toInt % 4294967296 / 65536) % 256)) 46) ((ad.toInt % 4294967296 / 256) % 256)) 46) - psi 15 (addNB 15 (addB 15 (addNB 15 (addB 15 (addNB 15 (be.1, ([] : List Int)) ((ad.toInt % 4294967296 / 16777216) % 256)) 46) ((ad.toInt % 4294967296 / 65536) % 256)) 46) ((ad.toInt % 4294967296 / 256) % 256)))) [(1, vI 0), (0, .ref a)] [] 48
              refine G_goto hC 11 (by decide) d_Se_writeDotted_48 ?_
              refine G_iload_n hC 0 rfl rfl d_Se_writeDotted_11 ?_
              refine G_if_lt hC 51 (by decide) (by decide) d_Se_writeDotted_12 (fun c_58 => ?_) (fun c_58 => ?_)
              · exact (show False from by omega).elim
              · refine G_aload_n hC 1 rfl rfl d_Se_writeDotted_15 ?_
                have h_59 := fr_56.at h_51 (by simp only [List.mem_cons, List.not_mem_nil, or_false, not_or, not_false_eq_true]; try omega)
                refine G_get hC fl_Se_26 h_59 rfl d_Se_writeDotted_16 ?_
                refine G_aload_n hC 1 rfl rfl d_Se_writeDotted_19 ?_
                refine G_get hC fl_Se_29 h_59 rfl d_Se_writeDotted_20 ?_
                refine G_X2I ?_
                have g_60 := zI_rng ad
                refine G_iload_n hC 0 rfl rfl d_Se_writeDotted_23 ?_
                refine G_iushr hC (zI_ushr0 _) d_Se_writeDotted_24 ?_
                refine G_sipush (j := 255) hC (by decide +kernel) d_Se_writeDotted_25 ?_
                refine G_iand255 hC (by omega) d_Se_writeDotted_28 ?_
                refine G_xV (rest := []) hC hR (c_By_addNumber h_55 (by omega)) cv_Se_64 h_55.obj (by decide) (by omega) (by omega) rfl rfl (Nat.le_of_ble_eq_true rfl) d_Se_writeDotted_29 (fun r_63 M_61 p_62 => ?_)
                obtain ⟨rfl, h_64, fr_65⟩ := p_62
                show G E M_61 (0 + 0 + (psi 15 (addNB 15 (be.1, ([] : List Int)) ((ad.toInt % 4294967296 / 16777216) % 256)) - psi 15 (be.1, ([] : List Int))) + (psi 15 (addB 15 (addNB 15 (be.1, ([] : List Int)) ((ad.toInt % 4294967296 / 16777216) % 256)) 46) - psi 15 (addNB 15 (be.1, ([] : List Int)) ((ad.toInt % 4294967296 / 16777216) % 256))) + (psi 15 (addNB 15 (addB 15 (addNB 15 (be.1, ([] : List Int)) ((ad.toInt % 4294967296 / 16777216) % 256)) 46) ((ad.toInt % 4294967296 / 65536) % 256)) - psi 15 (addB 15 (addNB 15 (be.1, ([] : List Int)) ((ad.toInt % 4294967296 / 16777216) % 256)) 46)) + (psi 15 (addB 15 (addNB 15 (addB 15 (addNB 15 (be.1, ([] : List Int)) ((ad.toInt % 4294967296 / 16777216) % 256)) 46) ((ad.toInt % 4294967296 / 65536) % 256)) 46) - psi 15 (addNB 15 (addB 15 (addNB 15 (be.1, ([] : List Int)) ((ad.toInt % 4294967296 / 16777216) % 256)) 46) ((ad.toInt % 4294967296 / 65536) % 256))) + (psi 15 (addNB 15 (addB 15 (addNB 15 (addB 15 (addNB 15 (be.1, ([] : List Int)) ((ad.toInt % 4294967296 / 16777216) % 256)) 46) ((ad.toInt % 4294967296 / 65536) % 256)) 46) ((ad.toInt % 4294967296 / 256) % 256)) - psi 15 (addB 15 (addNB 15 (addB 15 (addNB 15 (be.1, ([] : List Int)) ((ad.toInt % 4294967296 / 16777216) % 256)) 46) ((ad.toInt % 4294967296 / 65536) % 256)) 46)) + (psi 15 (addB 15 (addNB 15 (addB 15 (addNB 15 (addB 15 (addNB 15 (be.1, ([] : List Int)) ((ad.toInt % 4294967296 / 16777216) % 256)) 46) ((ad.toInt % 4294967296 / 65536) % 256)) 46) ((ad.toInt % 4294967296 / 256) % 256)) 46) - psi 15 (addNB 15 (addB 15 (addNB 15 (addB 15 (addNB 15 (be.1, ([] : List Int)) ((ad.toInt % 4294967296 / 16777216) % 256)) 46) ((ad.toInt % 4294967296 / 65536) % 256)) 46) ((ad.toInt % 4294967296 / 256) % 256))) + (psi 15 (addNB 15 (addB 15 (addNB 15 (addB 15 (addNB 15 (addB 15 (addNB 15 (be.1, ([] : List Int)) ((ad.toInt % 4294967296 / 16777216) % 256)) 46) ((ad.toInt % 4294967296 / 65536) % 256)) 46) ((ad.toInt % 4294967296 / 256) % 256)) 46) (ad.toInt % 256)) - psi 15 (addB 15 (addNB 15 (addB 15 (addNB 15 (addB 15 (addNB 15 (be.1, ([] : List Int)) ((ad.toInt % 4294967296 / 16777216) % 256)) 46) ((ad.toInt % 4294967296 / 65536) % 256)) 46) ((ad.toInt % 4294967296 / 256) % 256)) 46))) (0 + 0 + (psi 15 (addNB 15 (be.1, ([] : List Int)) ((ad.toInt % 4294967296 / 16777216) % 256)) - psi 15 (be.1, ([] : List Int))) + (psi 15 (addB 15 (addNB 15 (be.1, ([] : List Int)) ((ad.toInt % 4294967296 / 16777216) % 256)) 46) - psi 15 (addNB 15 (be.1, ([] : List Int)) ((ad.toInt % 4294967296 / 16777216) % 256))) + (psi 15 (addNB 15 (addB 15 (addNB 15 (be.1, ([] : List Int)) ((ad.toInt % 4294967296 / 16777216) % 256)) 46) ((ad.toInt % 4294967296 / 65536) % 256)) - psi 15 (addB 15 (addNB 15 (be.1, ([] : List Int)) ((ad.toInt % 4294967296 / 16777216) % 256)) 46)) + (psi 15 (addB 15 (addNB 15 (addB 15 (addNB 15 (be.1, ([] : List Int)) ((ad.toInt % 4294967296 / 16777216) % 256)) 46) ((ad.toInt % 4294967296 / 65536) % 256)) 46) - psi 15 (addNB 15 (addB 15 (addNB 15 (be.1, ([] : List Int)) ((ad.toInt % 4294967296 / 16777216) % 256)) 46) ((ad.toInt % 4294967296 / 65536) % 256))) + (psi 15 (addNB 15 (addB 15 (addNB 15 (addB 15 (addNB 15 (be.1, ([] : List Int)) ((ad.toInt % 4294967296 / 16777216) % 256)) 46) ((ad.toInt % 4294967296 / 65536) % 256)) 46) ((ad.toInt % 4294967296 / 256) % 256)) - psi 15 (addB 15 (addNB 15 (addB 15 (addNB 15 (be.1, ([] : List Int)) ((ad.toInt % 4294967296 / 16777216) % 256)) 46) ((ad.toInt % 4294967296 / 65536) % 256)) 46)) + (psi 15 (addB 15 (addNB 15 (addB 15 (addNB 15 (addB 15 (addNB 15 (be.1, ([] : List Int)) ((ad.toInt % 4294967296 / 16777216) % 256)) 46) ((ad.toInt % 4294967296 / 65536) % 256)) 46) ((ad.toInt % 4294967296 / 256) % 256)) 46) - psi 15 (addNB 15 (addB 15 (addNB 15 (addB 15 (addNB 15 (be.1, ([] : List Int)) ((ad.toInt % 4294967296 / 16777216) % 256)) 46) ((ad.toInt % 4294967296 / 65536) % 256)) 46) ((ad.toInt % 4294967296 / 256) % 256))) + (psi 15 (addNB 15 (addB 15 (addNB 15 (addB 15 (addNB 15 (addB 15 (addNB 15 (be.1, ([] : List Int)) ((ad.toInt % 4294967296 / 16777216) % 256)) 46) ((ad.toInt % 4294967296 / 65536) % 256)) 46) ((ad.toInt % 4294967296 / 256) % 256)) 46) (ad.toInt % 256)) - psi 15 (addB 15 (addNB 15 (addB 15 (addNB 15 (addB 15 (addNB 15 (be.1, ([] : List Int)) ((ad.toInt % 4294967296 / 16777216) % 256)) 46) ((ad.toInt % 4294967296 / 65536) % 256)) 46) ((ad.toInt % 4294967296 / 256) % 256)) 46))) [(1, vI 0), (0, .ref a)] [] 32
                have g_66 := psi_addNB 15 (addB 15 (addNB 15 (addB 15 (addNB 15 (addB 15 (addNB 15 (be.1, ([] : List Int)) ((ad.toInt % 4294967296 / 16777216) % 256)) 46) ((ad.toInt % 4294967296 / 65536) % 256)) 46) ((ad.toInt % 4294967296 / 256) % 256)) 46) (ad.toInt % 256) ⟨h_55.len.1, h_55.len.2.1⟩
                refine G_iload_n hC 0 rfl rfl d_Se_writeDotted_32 ?_
                refine G_if_le hC 45 (by decide) (by decide) d_Se_writeDotted_33 (fun c_67 => ?_) (fun c_67 => ?_)
                · refine G_iinc (lv' := [(1, vI (0 + (-8))), (0, .ref a)]) hC 0 rfl (by rw [hN]; decide) rfl d_Se_writeDotted_45 ?_
                  show G E M_61 (0 + 0 + (psi 15 (addNB 15 (be.1, ([] : List Int)) ((ad.toInt % 4294967296 / 16777216) % 256)) - psi 15 (be.1, ([] : List Int))) + (psi 15 (addB 15 (addNB 15 (be.1, ([] : List Int)) ((ad.toInt % 4294967296 / 16777216) % 256)) 46) - psi 15 (addNB 15 (be.1, ([] : List Int)) ((ad.toInt % 4294967296 / 16777216) % 256))) + (psi 15 (addNB 15 (addB 15 (addNB 15 (be.1, ([] : List Int)) ((ad.toInt % 4294967296 / 16777216) % 256)) 46) ((ad.toInt % 4294967296 / 65536) % 256)) - psi 15 (addB 15 (addNB 15 (be.1, ([] : List Int)) ((ad.toInt % 4294967296 / 16777216) % 256)) 46)) + (psi 15 (addB 15 (addNB 15 (addB 15 (addNB 15 (be.1, ([] : List Int)) ((ad.toInt % 4294967296 / 16777216) % 256)) 46) ((ad.toInt % 4294967296 / 65536) % 256)) 46) - psi 15 (addNB 15 (addB 15 (addNB 15 (be.1, ([] : List Int)) ((ad.toInt % 4294967296 / 16777216) % 256)) 46) ((ad.toInt % 4294967296 / 65536) % 256))) + (psi 15 (addNB 15 (addB 15 (addNB 15 (addB 15 (addNB 15 (be.1, ([] : List Int)) ((ad.toInt % 4294967296 / 16777216) % 256)) 46) ((ad.toInt % 4294967296 / 65536) % 256)) 46) ((ad.toInt % 4294967296 / 256) % 256)) - psi 15 (addB 15 (addNB 15 (addB 15 (addNB 15 (be.1, ([] : List Int)) ((ad.toInt % 4294967296 / 16777216) % 256)) 46) ((ad.toInt % 4294967296 / 65536) % 256)) 46)) + (psi 15 (addB 15 (addNB 15 (addB 15 (addNB 15 (addB 15 (addNB 15 (be.1, ([] : List Int)) ((ad.toInt % 4294967296 / 16777216) % 256)) 46) ((ad.toInt % 4294967296 / 65536) % 256)) 46) ((ad.toInt % 4294967296 / 256) % 256)) 46) - psi 15 (addNB 15 (addB 15 (addNB 15 (addB 15 (addNB 15 (be.1, ([] : List Int)) ((ad.toInt % 4294967296 / 16777216) % 256)) 46) ((ad.toInt % 4294967296 / 65536) % 256)) 46) ((ad.toInt % 4294967296 / 256) % 256))) + (psi 15 (addNB 15 (addB 15 (addNB 15 (addB 15 (addNB 15 (addB 15 (addNB 15 (be.1, ([] : List Int)) ((ad.toInt % 4294967296 / 16777216) % 256)) 46) ((ad.toInt % 4294967296 / 65536) % 256)) 46) ((ad.toInt % 4294967296 / 256) % 256)) 46) (ad.toInt % 256)) - psi 15 (addB 15 (addNB 15 (addB 15 (addNB 15 (addB 15 (addNB 15 (be.1, ([] : List Int)) ((ad.toInt % 4294967296 / 16777216) % 256)) 46) ((ad.toInt % 4294967296 / 65536) % 256)) 46) ((ad.toInt % 4294967296 / 256) % 256)) 46))) (0 + 0 + (psi 15 (addNB 15 (be.1, ([] : List Int)) ((ad.toInt % 4294967296 / 16777216) % 256)) - psi 15 (be.1, ([] : List Int))) + (psi 15 (addB 15 (addNB 15 (be.1, ([] : List Int)) ((ad.toInt % 4294967296 / 16777216) % 256)) 46) - psi 15 (addNB 15 (be.1, ([] : List Int)) ((ad.toInt % 4294967296 / 16777216) % 256))) + (psi 15 (addNB 15 (addB 15 (addNB 15 (be.1, ([] : List Int)) ((ad.toInt % 4294967296 / 16777216) % 256)) 46) ((ad.toInt % 4294967296 / 65536) % 256)) - psi 15 (addB 15 (addNB 15 (be.1, ([] : List Int)) ((ad.toInt % 4294967296 / 16777216) % 256)) 46)) + (psi 15 (addB 15 (addNB 15 (addB 15 (addNB 15 (be.1, ([] : List Int)) ((ad.toInt % 4294967296 / 16777216) % 256)) 46) ((ad.toInt % 4294967296 / 65536) % 256)) 46) - psi 15 (addNB 15 (addB 15 (addNB 15 (be.1, ([] : List Int)) ((ad.toInt % 4294967296 / 16777216) % 256)) 46) ((ad.toInt % 4294967296 / 65536) % 256))) + (psi 15 (addNB 15 (addB 15 (addNB 15 (addB 15 (addNB 15 (be.1, ([] : List Int)) ((ad.toInt % 4294967296 / 16777216) % 256)) 46) ((ad.toInt % 4294967296 / 65536) % 256)) 46) ((ad.toInt % 4294967296 / 256) % 256)) - psi 15 (addB 15 (addNB 15 (addB 15 (addNB 15 (be.1, ([] : List Int)) ((ad.toInt % 4294967296 / 16777216) % 256)) 46) ((ad.toInt % 4294967296 / 65536) % 256)) 46)) + (psi 15 (addB 15 (addNB 15 (addB 15 (addNB 15 (addB 15 (addNB 15 (be.1, ([] : List Int)) ((ad.toInt % 4294967296 / 16777216) % 256)) 46) ((ad.toInt % 4294967296 / 65536) % 256)) 46) ((ad.toInt % 4294967296 / 256) % 256)) 46) - psi 15 (addNB 15 (addB 15 (addNB 15 (addB 15 (addNB 15 (be.1, ([] : List Int)) ((ad.toInt % 4294967296 / 16777216) % 256)) 46) ((ad.toInt % 4294967296 / 65536) % 256)) 46) ((ad.toInt % 4294967296 / 256) % 256))) + (psi 15 (addNB 15 (addB 15 (addNB 15 (addB 15 (addNB 15 (addB 15 (addNB 15 (be.1, ([] : List Int)) ((ad.toInt % 4294967296 / 16777216) % 256)) 46) ((ad.toInt % 4294967296 / 65536) % 256)) 46) ((ad.toInt % 4294967296 / 256) % 256)) 46) (ad.toInt % 256)) - psi 15 (addB 15 (addNB 15 (addB 15 (addNB 15 (addB 15 (addNB 15 (be.1, ([] : List Int)) ((ad.toInt % 4294967296 / 16777216) % 256)) 46) ((ad.toInt % 4294967296 / 65536) % 256)) 46) ((ad.toInt % 4294967296 / 256) % 256)) 46))) [(1, vI (-8)), (0, .ref a)] [] 48
                  refine G_goto hC 11 (by decide) d_Se_writeDotted_48 ?_
                  refine G_iload_n hC 0 rfl rfl d_Se_writeDotted_11 ?_
                  refine G_if_lt hC 51 (by decide) (by decide) d_Se_writeDotted_12 (fun c_68 => ?_) (fun c_68 => ?_)
                  · exact G_return hC hQ (by omega) (by omega) d_Se_writeDotted_51 ⟨rfl, by rw [← hE]; exact h_64, ((((((((fr_5.up (T := [15, 16]) (by simp)).tr' (T := [15, 16]) fr_14 (fun _ z => z) (by simp)).tr' (T := [15, 16]) fr_22 (fun _ z => z) (by simp)).tr' (T := [15, 16]) fr_31 (fun _ z => z) (by simp)).tr' (T := [15, 16]) fr_39 (fun _ z => z) (by simp)).tr' (T := [15, 16]) fr_48 (fun _ z => z) (by simp)).tr' (T := [15, 16]) fr_56 (fun _ z => z) (by simp)).tr' (T := [15, 16]) fr_65 (fun _ z => z) (by simp))⟩
                  · exact (show False from by omega).elim
                · exact (show False from by omega).elim

set_option maxHeartbeats 4000000 in
set_option maxRecDepth 100000 in
theorem c_Di_init {l : Launch} {D : Dg} {b0 : Nat} {M : Mp} {a : Nat} (h_obj_a : M a = some (6, .inr (cDi, [.null, vI 0]))) : Ok l D b0 2 y_Di_init b_Di_init 1 none M [.ref a] 1 40 (fun r M' => r = none ∧ IsDir D M' a ([]) ∧ Fr [6, 7] M M') := by
  refine Ok_of rfl (Nat.le_of_ble_eq_true rfl) (fun E hC hQ hl hD hB hN hR => ?_)
  subst hl hD hB
  show G E M 0 0 [(0, .ref a)] [] 0
  refine G_aload_n hC 0 rfl rfl d_Di_init_0 ?_
  refine G_objI hC hR lm_Di_3 (Nat.le_of_ble_eq_true rfl) (Nat.le_of_ble_eq_true rfl) d_Di_init_1 ?_
  refine G_aload_n hC 0 rfl rfl d_Di_init_4 ?_
  refine G_bipush (j := 40) hC (by decide +kernel) d_Di_init_5 ?_
  refine G_anewX (q0 := 2) 7 hC hR kl_Di_9 (by decide) rfl (by omega) (by omega) (by omega) d_Di_init_7 (fun q_1 M_2 h_3 fr_4 => ?_)
  have h_5 := fr_4.at h_obj_a (by decide)
  refine G_putFX (fs' := [.ref q_1, vI 0]) hC fl_Di_11 ft_Di ff_Di_0 rfl h_5 rfl rfl (Nat.le_of_ble_eq_true rfl) rfl d_Di_init_10 (fun M_6 h_7 fr_8 => ?_)
  refine G_aload_n hC 0 rfl rfl d_Di_init_13 ?_
  refine G_iconst (i := 0) hC d_Di_init_14 ?_
  refine G_putX (fs' := [.ref q_1, vI 0]) hC fl_Di_17 ft_Di fw_Di_1 h_7 rfl rfl (Nat.le_of_ble_eq_true rfl) rfl d_Di_init_15 (fun M_9 h_10 fr_11 => ?_)
  have h_12 := fr_8.at h_3 (by decide)
  have h_13 := fr_11.at h_12 (by decide)
  exact G_return hC hQ (by omega) (by omega) d_Di_init_18 ⟨rfl, ⟨q_1, _, h_10, h_13, by simp, fun j x hj => by simp at hj⟩, (((fr_4.up (T := [6, 7]) (by simp)).tr' (T := [6, 7]) fr_8 (fun _ z => z) (by simp)).tr' (T := [6, 7]) fr_11 (fun _ z => z) (by simp))⟩

set_option maxHeartbeats 4000000 in
set_option maxRecDepth 100000 in
theorem c_Ma_init {l : Launch} {D : Dg} {b0 : Nat} {M : Mp} {a : Nat} {se : Nat} (h_obj_a : M a = some (17, .inr (cMa, [.null, .null]))) : Ok l D b0 2 y_Ma_init b_Ma_init 2 none M [.ref a, .ref se] 1 93 (fun r M' => r = none ∧ IsMa D M' a se ∧ Fr [17, 18] M M') := by
  refine Ok_of rfl (Nat.le_of_ble_eq_true rfl) (fun E hC hQ hl hD hB hN hR => ?_)
  subst hl hD hB
  show G E M 0 0 [(0, .ref a), (1, .ref se)] [] 0
  refine G_aload_n hC 0 rfl rfl d_Ma_init_0 ?_
  refine G_objI hC hR lm_Ma_3 (Nat.le_of_ble_eq_true rfl) (Nat.le_of_ble_eq_true rfl) d_Ma_init_1 ?_
  refine G_aload_n hC 0 rfl rfl d_Ma_init_4 ?_
  refine G_aload_n hC 1 rfl rfl d_Ma_init_5 ?_
  refine G_putFX (fs' := [.ref se, .null]) hC fl_Ma_9 ft_Ma ff_Ma_0 rfl h_obj_a rfl rfl (Nat.le_of_ble_eq_true rfl) rfl d_Ma_init_6 (fun M_1 h_2 fr_3 => ?_)
  refine G_aload_n hC 0 rfl rfl d_Ma_init_9 ?_
  refine G_bipush (j := 93) hC (by decide +kernel) d_Ma_init_10 ?_
  refine G_newIX 18 hC hR w_acI (by omega) (by omega) (by omega) d_Ma_init_12 (fun q_4 M_5 h_6 fr_7 => ?_)
  have h_8 := fr_7.at h_2 (by decide)
  refine G_putFX (fs' := [.ref se, .ref q_4]) hC fl_Ma_15 ft_Ma ff_Ma_1 rfl h_8 rfl rfl (Nat.le_of_ble_eq_true rfl) rfl d_Ma_init_14 (fun M_9 h_10 fr_11 => ?_)
  have h_12 := fr_11.at h_6 (by decide)
  exact G_return hC hQ (by omega) (by omega) d_Ma_init_17 ⟨rfl, ⟨q_4, _, h_10, h_12⟩, (((fr_3.up (T := [17, 18]) (by simp)).tr' (T := [17, 18]) fr_7 (fun _ z => z) (by simp)).tr' (T := [17, 18]) fr_11 (fun _ z => z) (by simp))⟩

set_option maxHeartbeats 4000000 in
set_option maxRecDepth 100000 in
theorem c_Se_take {l : Launch} {D : Dg} {b0 : Nat} {M : Mp} {a : Nat} {ad : Int32} {o : Nat} {so : Option Snd} {lim : Int} {b : Bv} (h_Se_a : IsSe D M a so) (h_B_o : IsB D M o 2 lim b) (hlen : b.2.length ≤ 800) : Ok l D b0 6 y_Se_take b_Se_take 5 (some .boolean) M [.ref a, .int ad, .ref o] 600 600 (fun r M' => r = some (vI (b2i (sndS b.2 ad).isSome)) ∧ IsSe D M' a ((sndS b.2 ad).or so) ∧ Fr [8, 9, 10, 11, 12, 13, 14, 15, 16] M M') := by
  refine Ok_of rfl (Nat.le_of_ble_eq_true rfl) (fun E hC hQ hl hD hB hN hR => ?_)
  subst hl hD hB
  obtain ⟨m_1, l_2, d_3, e_4, bm_5, bl_6, bd_7, be_8, ad_9, h_10, h_11, h_12, h_13, h_14, h_15, h_16, h_17⟩ := id h_Se_a
  have hO9 := h_B_o.len
  have hm9 := h_11.len
  have hl9 := h_12.len
  have hd9 := h_13.len
  have he9 := h_14.len
  have hqm := psi_max (lim := 91) (b := bm_5) (by omega)
  have hql := psi_max (lim := 30) (b := bl_6) (by omega)
  have hqd := psi_max (lim := 60) (b := bd_7) (by omega)
  have hqe := psi_max (lim := 15) (b := be_8) (by omega)
  have hfr9 := findS_rng b.2 64 0 (b.2.length : Int)
  show G E M 0 0 [(0, .ref a), (1, .int ad), (2, .ref o)] [] 0
  refine G_aload_n hC 2 rfl rfl d_Se_take_0 ?_
  refine G_pV (rest := []) hC hR (c_By_size h_B_o) cv_Se_33 h_B_o.obj (by decide) (by omega) (by omega) rfl rfl (Nat.le_of_ble_eq_true rfl) d_Se_take_1 ?_
  have g_18 := h_B_o.len
  refine G_istore_n (lv' := [(3, vI (b.2.length : Int)), (0, .ref a), (1, .int ad), (2, .ref o)]) hC rfl (by rw [hN]; decide) rfl d_Se_take_4 ?_
  refine G_aload_n hC 3 rfl rfl d_Se_take_5 ?_
  refine G_bipush (j := 64) hC (by decide +kernel) d_Se_take_6 ?_
  refine G_iconst (i := 0) hC d_Se_take_8 ?_
  refine G_iload_n hC 0 rfl rfl d_Se_take_9 ?_
  refine G_pV (rest := []) hC hR (c_By_find h_B_o (by omega) (by omega) (by omega) rfl) cv_Se_37 h_B_o.obj (by decide) (by omega) (by omega) rfl rfl (Nat.le_of_ble_eq_true rfl) d_Se_take_10 ?_
  have g_19 := findS_rng b.2 64 0 (b.2.length : Int)
  refine G_istore (lv' := [(4, vI (findS b.2 64 0 (b.2.length : Int))), (3, vI (b.2.length : Int)), (0, .ref a), (1, .int ad), (2, .ref o)]) hC (by rw [hN]; decide) rfl d_Se_take_13 ?_
  refine G_aload_n hC 4 rfl rfl d_Se_take_15 ?_
  refine G_iconst (i := 0) hC d_Se_take_16 ?_
  refine G_iload hC 0 rfl d_Se_take_17 ?_
  refine G_pS (rest := []) hC hR (c_Si_isLocal h_B_o (by omega) (by omega) rfl) cs_Se_41 (by decide) (by omega) (by omega) rfl rfl (Nat.le_of_ble_eq_true rfl) d_Se_take_19 ?_
  refine G_if_eq hC 37 (by have := b2i_rng (locaS b.2 0 (findS b.2 64 0 (b.2.length : Int))); omega) (by decide) d_Se_take_22 (fun c_20 => ?_) (fun c_20 => ?_)
  · have c_20 := b2i_eq0.mp c_20
    refine G_iconst (i := 0) hC d_Se_take_37 ?_
    have hS : sndS b.2 ad = none := if_neg (fun z => by first | (have z1 := z.1; rw [z1] at c_20; cases c_20) | (have z2 := z.2; rw [z2] at c_20; cases c_20))
    exact G_zretX _ hC hQ (by omega) (by omega) d_Se_take_38 (b2i_f (by rw [hS]; rfl)) ⟨rfl, by rw [hS]; exact h_Se_a, Fr.rf⟩
  · have c_20 := b2i_ne0.mp c_20
    refine G_aload_n hC 4 rfl rfl d_Se_take_25 ?_
    refine G_iload hC 0 rfl d_Se_take_26 ?_
    refine G_iconst (i := 1) hC d_Se_take_28 ?_
    refine G_iadd hC d_Se_take_29 ?_
    refine G_iload_n hC 1 rfl rfl d_Se_take_30 ?_
    refine G_pS (rest := []) hC hR (c_Si_isName h_B_o (by omega) (by omega) rfl) cs_Se_47 (by decide) (by omega) (by omega) rfl rfl (Nat.le_of_ble_eq_true rfl) d_Se_take_31 ?_
    refine G_if_ne hC 39 (by have := b2i_rng (nameS b.2 ((findS b.2 64 0 (b.2.length : Int)) + 1) (b.2.length : Int)); omega) (by decide) d_Se_take_34 (fun c_21 => ?_) (fun c_21 => ?_)
    · have c_21 := b2i_ne0.mp c_21
      refine G_aload_n hC 2 rfl rfl d_Se_take_39 ?_
      refine G_iload_n hC 3 rfl rfl d_Se_take_40 ?_
      refine G_putX (fs' := [.ref m_1, .ref l_2, .ref d_3, .ref e_4, .int ad]) hC fl_Se_29 ft_Se fw_Se_4 h_10 rfl rfl (Nat.le_of_ble_eq_true rfl) rfl d_Se_take_41 (fun M_22 h_23 fr_24 => ?_)
      refine G_aload_n hC 2 rfl rfl d_Se_take_44 ?_
      refine G_get hC fl_Se_14 h_23 rfl d_Se_take_45 ?_
      refine G_aload_n hC 4 rfl rfl d_Se_take_48 ?_
      refine G_iconst (i := 0) hC d_Se_take_49 ?_
      refine G_iload_n hC 1 rfl rfl d_Se_take_50 ?_
      have hwm := psi_max (lim := 91) (b := addPB 91 (bm_5.1, []) b.2 0 (b.2.length : Int)) (psi_addPB (lim := 91) (b := (bm_5.1, [])) b.2 0 (b.2.length : Int) ⟨Nat.zero_le _, by omega⟩).2.2
      have h_25 := h_11.fr fr_24 (by decide) (by decide)
      have h_26 := h_B_o.fr fr_24 (by decide) (by decide)
      refine G_xS (rest := []) hC hR (c_Se_refill h_25 h_26 (by omega) (by omega) (by decide)) cs_Se_50 (by decide) (by omega) (by omega) rfl rfl (Nat.le_of_ble_eq_true rfl) d_Se_take_51 (fun r_29 M_27 p_28 => ?_)
      obtain ⟨rfl, h_30, fr_31⟩ := p_28
      show G E M_27 (0 + (psi 91 (addPB 91 (bm_5.1, []) b.2 0 (b.2.length : Int)) - psi 91 bm_5)) (0 + (psi 91 (addPB 91 (bm_5.1, []) b.2 0 (b.2.length : Int)) - psi 91 bm_5)) [(4, vI (findS b.2 64 0 (b.2.length : Int))), (3, vI (b.2.length : Int)), (0, .ref a), (1, .int ad), (2, .ref o)] [] 54
      have g_32 := psi_addPB (lim := 91) (b := (bm_5.1, [])) b.2 0 (b.2.length : Int) ⟨Nat.zero_le _, h_25.len.2.1⟩
      refine G_aload_n hC 2 rfl rfl d_Se_take_54 ?_
      have h_33 := fr_31.at h_23 (by simp only [List.mem_cons, List.not_mem_nil, or_false, not_or, not_false_eq_true]; try omega)
      refine G_get hC fl_Se_20 h_33 rfl d_Se_take_55 ?_
      refine G_aload_n hC 4 rfl rfl d_Se_take_58 ?_
      refine G_iconst (i := 0) hC d_Se_take_59 ?_
      refine G_iload hC 0 rfl d_Se_take_60 ?_
      have hwl := psi_max (lim := 30) (b := addPB 30 (bl_6.1, []) b.2 0 (findS b.2 64 0 (b.2.length : Int))) (psi_addPB (lim := 30) (b := (bl_6.1, [])) b.2 0 (findS b.2 64 0 (b.2.length : Int)) ⟨Nat.zero_le _, by omega⟩).2.2
      have h_34 := h_12.fr fr_24 (by decide) (by decide)
      have h_35 := h_34.fr fr_31 (by simp only [List.mem_cons, List.not_mem_nil, or_false, not_or, not_false_eq_true]; try omega) (by simp only [List.mem_cons, List.not_mem_nil, or_false, not_or, not_false_eq_true]; try omega)
      have h_36 := h_26.fr fr_31 (by simp only [List.mem_cons, List.not_mem_nil, or_false, not_or, not_false_eq_true]; try omega) (by simp only [List.mem_cons, List.not_mem_nil, or_false, not_or, not_false_eq_true]; try omega)
      refine G_xS (rest := []) hC hR (c_Se_refill h_35 h_36 (by omega) (by omega) (by decide)) cs_Se_50 (by decide) (by omega) (by omega) rfl rfl (Nat.le_of_ble_eq_true rfl) d_Se_take_62 (fun r_39 M_37 p_38 => ?_)
      obtain ⟨rfl, h_40, fr_41⟩ := p_38
      show G E M_37 (0 + (psi 91 (addPB 91 (bm_5.1, []) b.2 0 (b.2.length : Int)) - psi 91 bm_5) + (psi 30 (addPB 30 (bl_6.1, []) b.2 0 (findS b.2 64 0 (b.2.length : Int))) - psi 30 bl_6)) (0 + (psi 91 (addPB 91 (bm_5.1, []) b.2 0 (b.2.length : Int)) - psi 91 bm_5) + (psi 30 (addPB 30 (bl_6.1, []) b.2 0 (findS b.2 64 0 (b.2.length : Int))) - psi 30 bl_6)) [(4, vI (findS b.2 64 0 (b.2.length : Int))), (3, vI (b.2.length : Int)), (0, .ref a), (1, .int ad), (2, .ref o)] [] 65
      have g_42 := psi_addPB (lim := 30) (b := (bl_6.1, [])) b.2 0 (findS b.2 64 0 (b.2.length : Int)) ⟨Nat.zero_le _, h_35.len.2.1⟩
      refine G_aload_n hC 2 rfl rfl d_Se_take_65 ?_
      have h_43 := fr_41.at h_33 (by simp only [List.mem_cons, List.not_mem_nil, or_false, not_or, not_false_eq_true]; try omega)
      refine G_get hC fl_Se_23 h_43 rfl d_Se_take_66 ?_
      refine G_aload_n hC 4 rfl rfl d_Se_take_69 ?_
      refine G_iload hC 0 rfl d_Se_take_70 ?_
      refine G_iconst (i := 1) hC d_Se_take_72 ?_
      refine G_iadd hC d_Se_take_73 ?_
      refine G_iload_n hC 1 rfl rfl d_Se_take_74 ?_
      have hwd := psi_max (lim := 60) (b := addPB 60 (bd_7.1, []) b.2 ((findS b.2 64 0 (b.2.length : Int)) + 1) (b.2.length : Int)) (psi_addPB (lim := 60) (b := (bd_7.1, [])) b.2 ((findS b.2 64 0 (b.2.length : Int)) + 1) (b.2.length : Int) ⟨Nat.zero_le _, by omega⟩).2.2
      have h_44 := h_13.fr fr_24 (by decide) (by decide)
      have h_45 := h_44.fr fr_31 (by simp only [List.mem_cons, List.not_mem_nil, or_false, not_or, not_false_eq_true]; try omega) (by simp only [List.mem_cons, List.not_mem_nil, or_false, not_or, not_false_eq_true]; try omega)
      have h_46 := h_45.fr fr_41 (by simp only [List.mem_cons, List.not_mem_nil, or_false, not_or, not_false_eq_true]; try omega) (by simp only [List.mem_cons, List.not_mem_nil, or_false, not_or, not_false_eq_true]; try omega)
      have h_47 := h_36.fr fr_41 (by simp only [List.mem_cons, List.not_mem_nil, or_false, not_or, not_false_eq_true]; try omega) (by simp only [List.mem_cons, List.not_mem_nil, or_false, not_or, not_false_eq_true]; try omega)
      refine G_xS (rest := []) hC hR (c_Se_refill h_46 h_47 (by omega) (by omega) (by decide)) cs_Se_50 (by decide) (by omega) (by omega) rfl rfl (Nat.le_of_ble_eq_true rfl) d_Se_take_75 (fun r_50 M_48 p_49 => ?_)
      obtain ⟨rfl, h_51, fr_52⟩ := p_49
      show G E M_48 (0 + (psi 91 (addPB 91 (bm_5.1, []) b.2 0 (b.2.length : Int)) - psi 91 bm_5) + (psi 30 (addPB 30 (bl_6.1, []) b.2 0 (findS b.2 64 0 (b.2.length : Int))) - psi 30 bl_6) + (psi 60 (addPB 60 (bd_7.1, []) b.2 ((findS b.2 64 0 (b.2.length : Int)) + 1) (b.2.length : Int)) - psi 60 bd_7)) (0 + (psi 91 (addPB 91 (bm_5.1, []) b.2 0 (b.2.length : Int)) - psi 91 bm_5) + (psi 30 (addPB 30 (bl_6.1, []) b.2 0 (findS b.2 64 0 (b.2.length : Int))) - psi 30 bl_6) + (psi 60 (addPB 60 (bd_7.1, []) b.2 ((findS b.2 64 0 (b.2.length : Int)) + 1) (b.2.length : Int)) - psi 60 bd_7)) [(4, vI (findS b.2 64 0 (b.2.length : Int))), (3, vI (b.2.length : Int)), (0, .ref a), (1, .int ad), (2, .ref o)] [] 78
      have g_53 := psi_addPB (lim := 60) (b := (bd_7.1, [])) b.2 ((findS b.2 64 0 (b.2.length : Int)) + 1) (b.2.length : Int) ⟨Nat.zero_le _, h_46.len.2.1⟩
      refine G_aload_n hC 2 rfl rfl d_Se_take_78 ?_
      have h_54 := fr_52.at h_43 (by simp only [List.mem_cons, List.not_mem_nil, or_false, not_or, not_false_eq_true]; try omega)
      have h_55 := h_14.fr fr_24 (by decide) (by decide)
      have h_56 := h_55.fr fr_31 (by simp only [List.mem_cons, List.not_mem_nil, or_false, not_or, not_false_eq_true]; try omega) (by simp only [List.mem_cons, List.not_mem_nil, or_false, not_or, not_false_eq_true]; try omega)
      have h_57 := h_56.fr fr_41 (by simp only [List.mem_cons, List.not_mem_nil, or_false, not_or, not_false_eq_true]; try omega) (by simp only [List.mem_cons, List.not_mem_nil, or_false, not_or, not_false_eq_true]; try omega)
      have h_58 := h_57.fr fr_52 (by simp only [List.mem_cons, List.not_mem_nil, or_false, not_or, not_false_eq_true]; try omega) (by simp only [List.mem_cons, List.not_mem_nil, or_false, not_or, not_false_eq_true]; try omega)
      refine G_xV (rest := []) hC hR (c_Se_writeDotted h_54 h_58 (by omega)) cv_Se_54 ⟨_, _, h_54⟩ (by decide) (by omega) (by omega) rfl rfl (Nat.le_of_ble_eq_true rfl) d_Se_take_79 (fun r_61 M_59 p_60 => ?_)
      obtain ⟨rfl, h_62, fr_63⟩ := p_60
      show G E M_59 (0 + (psi 91 (addPB 91 (bm_5.1, []) b.2 0 (b.2.length : Int)) - psi 91 bm_5) + (psi 30 (addPB 30 (bl_6.1, []) b.2 0 (findS b.2 64 0 (b.2.length : Int))) - psi 30 bl_6) + (psi 60 (addPB 60 (bd_7.1, []) b.2 ((findS b.2 64 0 (b.2.length : Int)) + 1) (b.2.length : Int)) - psi 60 bd_7) + 0) (0 + (psi 91 (addPB 91 (bm_5.1, []) b.2 0 (b.2.length : Int)) - psi 91 bm_5) + (psi 30 (addPB 30 (bl_6.1, []) b.2 0 (findS b.2 64 0 (b.2.length : Int))) - psi 30 bl_6) + (psi 60 (addPB 60 (bd_7.1, []) b.2 ((findS b.2 64 0 (b.2.length : Int)) + 1) (b.2.length : Int)) - psi 60 bd_7) + 0) [(4, vI (findS b.2 64 0 (b.2.length : Int))), (3, vI (b.2.length : Int)), (0, .ref a), (1, .int ad), (2, .ref o)] [] 82
      refine G_iconst (i := 1) hC d_Se_take_82 ?_
      have h_64 := fr_63.at h_54 (by decide)
      have hS : sndS b.2 ad = some (b.2.take (findS b.2 64 0 (b.2.length : Int)).toNat, b.2.drop (findS b.2 64 0 (b.2.length : Int) + 1).toNat, ad) := if_pos ⟨c_20, c_21⟩
      have hn1 := nameL_ne c_21
      have hn2 := locaS_ne c_20
      have h_65 := h_30.fr fr_41 (by simp only [List.mem_cons, List.not_mem_nil, or_false, not_or, not_false_eq_true]; try omega) (by simp only [List.mem_cons, List.not_mem_nil, or_false, not_or, not_false_eq_true]; try omega)
      have h_66 := h_65.fr fr_52 (by simp only [List.mem_cons, List.not_mem_nil, or_false, not_or, not_false_eq_true]; try omega) (by simp only [List.mem_cons, List.not_mem_nil, or_false, not_or, not_false_eq_true]; try omega)
      have h_67 := h_66.fr fr_63 (by decide) (by decide)
      have h_68 := h_40.fr fr_52 (by simp only [List.mem_cons, List.not_mem_nil, or_false, not_or, not_false_eq_true]; try omega) (by simp only [List.mem_cons, List.not_mem_nil, or_false, not_or, not_false_eq_true]; try omega)
      have h_69 := h_68.fr fr_63 (by decide) (by decide)
      have h_70 := h_51.fr fr_63 (by decide) (by decide)
      have hrows := sndS_rows ad bm_5.1 bl_6.1 bd_7.1 h_B_o.rng c_20 c_21
      exact G_zretX _ hC hQ (by omega) (by omega) d_Se_take_83 (b2i_t (by rw [hS]; rfl)) ⟨rfl, by rw [hS]; exact ⟨_, _, _, _, _, _, _, _, _, h_64, h_67, h_69, h_70, h_62, h_15, (fun z => by cases z), (fun s9 z => by cases z; exact ⟨hrows.1, hrows.2.1, hrows.2.2.1, hrows.2.2.2, rfl, rfl⟩)⟩, (((((fr_24.up (T := [8, 9, 10, 11, 12, 13, 14, 15, 16]) (by simp)).tr' (T := [8, 9, 10, 11, 12, 13, 14, 15, 16]) fr_31 (fun _ z => z) (by simp)).tr' (T := [8, 9, 10, 11, 12, 13, 14, 15, 16]) fr_41 (fun _ z => z) (by simp)).tr' (T := [8, 9, 10, 11, 12, 13, 14, 15, 16]) fr_52 (fun _ z => z) (by simp)).tr' (T := [8, 9, 10, 11, 12, 13, 14, 15, 16]) fr_63 (fun _ z => z) (by simp))⟩
    · have c_21 := b2i_eq0.mp c_21
      refine G_iconst (i := 0) hC d_Se_take_37 ?_
      have hS : sndS b.2 ad = none := if_neg (fun z => by first | (have z1 := z.1; rw [z1] at c_21; cases c_21) | (have z2 := z.2; rw [z2] at c_21; cases c_21))
      exact G_zretX _ hC hQ (by omega) (by omega) d_Se_take_38 (b2i_f (by rw [hS]; rfl)) ⟨rfl, by rw [hS]; exact h_Se_a, Fr.rf⟩
