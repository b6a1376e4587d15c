set_option maxHeartbeats 4000000 in
set_option maxRecDepth 100000 in
theorem c_Ch_counted {l : Launch} {D : Dg} {b0 : Nat} {M : Mp} {a : Nat} {di : Nat} {se : Nat} {ma : Nat} {lv : Nat} {tg : Nat} {cn : Int} {vo : Int} (h_obj_a : M a = some (19, .inr (cCh, [.ref di, .ref se, .ref ma, .ref lv, .ref tg, vI cn, vI vo]))) : OkP l D b0 1 y_Ch_counted b_Ch_counted 1 (some .int) M [.ref a] (vI cn) := by
  refine Ok_of rfl (Nat.le_of_ble_eq_true rfl) (fun E hC hQ hl hD hB hN hR => ?_)
  subst hl hD hB
  show G E M 0 0 [(0, .ref a)] [] 0
  refine G_aload_n hC 0 rfl rfl d_Ch_counted_0 ?_
  refine G_get hC fl_Ch_39 h_obj_a rfl d_Ch_counted_1 ?_
  exact G_iretP hC hQ d_Ch_counted_4 rfl

set_option maxHeartbeats 4000000 in
set_option maxRecDepth 100000 in
theorem c_Ch_voids {l : Launch} {D : Dg} {b0 : Nat} {M : Mp} {a : Nat} {di : Nat} {se : Nat} {ma : Nat} {lv : Nat} {tg : Nat} {cn : Int} {vo : Int} (h_obj_a : M a = some (19, .inr (cCh, [.ref di, .ref se, .ref ma, .ref lv, .ref tg, vI cn, vI vo]))) : OkP l D b0 1 y_Ch_voids b_Ch_voids 1 (some .int) M [.ref a] (vI vo) := by
  refine Ok_of rfl (Nat.le_of_ble_eq_true rfl) (fun E hC hQ hl hD hB hN hR => ?_)
  subst hl hD hB
  show G E M 0 0 [(0, .ref a)] [] 0
  refine G_aload_n hC 0 rfl rfl d_Ch_voids_0 ?_
  refine G_get hC fl_Ch_43 h_obj_a rfl d_Ch_voids_1 ?_
  exact G_iretP hC hQ d_Ch_voids_4 rfl

set_option maxHeartbeats 4000000 in
set_option maxRecDepth 100000 in
theorem c_Ch_asIncluded {l : Launch} {D : Dg} {b0 : Nat} {M : Mp} {r : Int} (hr : -2147483648 ≤ r ∧ r ≤ 2147483647) : OkP l D b0 1 y_Ch_asIncluded b_Ch_asIncluded 1 (some .int) M [vI r] (vI (incS r)) := by
  refine Ok_of rfl (Nat.le_of_ble_eq_true rfl) (fun E hC hQ hl hD hB hN hR => ?_)
  subst hl hD hB
  show G E M 0 0 [(0, vI r)] [] 0
  refine G_iload_n hC 0 rfl rfl d_Ch_asIncluded_0 ?_
  refine G_iconst (i := 5) hC d_Ch_asIncluded_1 ?_
  refine G_icmp_eq hC 11 (by omega) (by decide) (by decide) d_Ch_asIncluded_2 (fun c_1 => ?_) (fun c_1 => ?_)
  · refine G_iload_n hC 0 rfl rfl d_Ch_asIncluded_11 ?_
    exact G_iretP hC hQ d_Ch_asIncluded_12 (by unfold incS; (repeat' split); all_goals omega)
  · refine G_iload_n hC 0 rfl rfl d_Ch_asIncluded_5 ?_
    refine G_bipush (j := 6) hC (by decide +kernel) d_Ch_asIncluded_6 ?_
    refine G_icmp_ne hC 13 (by omega) (by decide) (by decide) d_Ch_asIncluded_8 (fun c_2 => ?_) (fun c_2 => ?_)
    · refine G_iload_n hC 0 rfl rfl d_Ch_asIncluded_13 ?_
      refine G_iconst (i := 2) hC d_Ch_asIncluded_14 ?_
      refine G_icmp_ne hC 23 (by omega) (by decide) (by decide) d_Ch_asIncluded_15 (fun c_3 => ?_) (fun c_3 => ?_)
      · refine G_iconst (i := (-1)) hC d_Ch_asIncluded_23 ?_
        exact G_iretP hC hQ d_Ch_asIncluded_24 (by unfold incS; (repeat' split); all_goals omega)
      · refine G_bipush (j := (-2)) hC (by decide +kernel) d_Ch_asIncluded_18 ?_
        refine G_goto hC 24 (by decide) d_Ch_asIncluded_20 ?_
        exact G_iretP hC hQ d_Ch_asIncluded_24 (by unfold incS; (repeat' split); all_goals omega)
    · refine G_iload_n hC 0 rfl rfl d_Ch_asIncluded_11 ?_
      exact G_iretP hC hQ d_Ch_asIncluded_12 (by unfold incS; (repeat' split); all_goals omega)

set_option maxHeartbeats 4000000 in
set_option maxRecDepth 100000 in
theorem c_Ch_countOne {l : Launch} {D : Dg} {b0 : Nat} {M : Mp} {a : Nat} {di : Nat} {se : Nat} {ma : Nat} {lv : Nat} {tg : Nat} {cn : Int} {vo : Int} (h_obj_a : M a = some (19, .inr (cCh, [.ref di, .ref se, .ref ma, .ref lv, .ref tg, vI cn, vI vo]))) (hcn : 0 ≤ cn ∧ cn ≤ 1000) : Ok l D b0 1 y_Ch_countOne b_Ch_countOne 1 (some .boolean) M [.ref a] 0 0 (fun r M' => r = some (vI (b2i (decide (cn + 1 ≤ 10)))) ∧ M' a = some (19, .inr (cCh, [.ref di, .ref se, .ref ma, .ref lv, .ref tg, vI (cn + 1), vI vo])) ∧ Fr [19] M M') := by
  refine Ok_of rfl (Nat.le_of_ble_eq_true rfl) (fun E hC hQ hl hD hB hN hR => ?_)
  subst hl hD hB
  show G E M 0 0 [(0, .ref a)] [] 0
  refine G_aload_n hC 0 rfl rfl d_Ch_countOne_0 ?_
  refine G_dup hC rfl d_Ch_countOne_1 ?_
  refine G_get hC fl_Ch_39 h_obj_a rfl d_Ch_countOne_2 ?_
  refine G_iconst (i := 1) hC d_Ch_countOne_5 ?_
  refine G_iadd hC d_Ch_countOne_6 ?_
  refine G_putX (fs' := [.ref di, .ref se, .ref ma, .ref lv, .ref tg, vI (cn + 1), vI vo]) hC fl_Ch_39 ft_Ch fw_Ch_5 h_obj_a rfl rfl (Nat.le_of_ble_eq_true rfl) rfl d_Ch_countOne_7 (fun M_1 h_2 fr_3 => ?_)
  refine G_aload_n hC 0 rfl rfl d_Ch_countOne_10 ?_
  refine G_get hC fl_Ch_39 h_2 rfl d_Ch_countOne_11 ?_
  refine G_bipush (j := 10) hC (by decide +kernel) d_Ch_countOne_14 ?_
  refine G_icmp_gt hC 23 (by omega) (by decide) (by decide) d_Ch_countOne_16 (fun c_4 => ?_) (fun c_4 => ?_)
  · refine G_iconst (i := 0) hC d_Ch_countOne_23 ?_
    exact G_zretX _ hC hQ (by omega) (by omega) d_Ch_countOne_24 (b2i_f (decide_eq_false (by omega))) ⟨rfl, h_2, (fr_3.up (T := [19]) (by simp))⟩
  · refine G_iconst (i := 1) hC d_Ch_countOne_19 ?_
    refine G_goto hC 24 (by decide) d_Ch_countOne_20 ?_
    exact G_zretX _ hC hQ (by omega) (by omega) d_Ch_countOne_24 (b2i_t (decide_eq_true (by omega))) ⟨rfl, h_2, (fr_3.up (T := [19]) (by simp))⟩

set_option maxHeartbeats 4000000 in
set_option maxRecDepth 100000 in
theorem c_Di_exchangeAt0 {l : Launch} {D : Dg} {b0 : Nat} {M : Mp} {a : Nat} {k : Int} {o : Nat} {es : List Ent} {t : Nat} {lim : Int} {b : Bv} {x : Ent} {lst : List Ent} (h_Dir_a : IsDir D M a es) (h_B_o : IsB D M o t lim b) (hk : 0 ≤ k ∧ k < es.length) (hd : es.drop k.toNat = x :: lst) (hno : isD 2 b.2 x = false) : OkP l D b0 2 y_Di_exchangeAt b_Di_exchangeAt 3 (some (.object "SendPolicy$Bytes")) M [.ref a, vI k, .ref o] (.null) := by
  refine Ok_of rfl (Nat.le_of_ble_eq_true rfl) (fun E hC hQ hl hD hB hN hR => ?_)
  subst hl hD hB
  have hD9 := h_Dir_a.len
  obtain ⟨ar_1, f_2, h_3, h_4, h_5, h_6⟩ := id h_Dir_a
  show G E M 0 0 [(0, .ref a), (1, vI k), (2, .ref o)] [] 0
  refine G_iload_n hC 1 rfl rfl d_Di_exchangeAt_0 ?_
  refine G_if_lt hC 41 (by omega) (by decide) d_Di_exchangeAt_1 (fun c_7 => ?_) (fun c_7 => ?_)
  · exact (show False from by omega).elim
  · refine G_iload_n hC 1 rfl rfl d_Di_exchangeAt_4 ?_
    refine G_aload_n hC 0 rfl rfl d_Di_exchangeAt_5 ?_
    refine G_get hC fl_Di_17 h_3 rfl d_Di_exchangeAt_6 ?_
    refine G_icmp_ge hC 41 (by omega) (by omega) (by decide) d_Di_exchangeAt_9 (fun c_8 => ?_) (fun c_8 => ?_)
    · exact (show False from by omega).elim
    · refine G_aload_n hC 0 rfl rfl d_Di_exchangeAt_12 ?_
      refine G_get hC fl_Di_11 h_3 rfl d_Di_exchangeAt_13 ?_
      refine G_iload_n hC 1 rfl rfl d_Di_exchangeAt_16 ?_
      obtain ⟨x_9, hx_10, hx_11⟩ := get_of (es := es) (k := k) (by omega)
      obtain ⟨e_12, he_13, he_14⟩ := h_6 _ x_9 hx_10
      obtain ⟨nm_15, vl_16, li_17, li_18, bn_19, bv_20, h_21, h_22, h_23, h_24, h_25, h_26, h_27⟩ := id he_14
      refine G_aald hC h_4 rfl (by omega) (by omega) (by rw [he_13]) d_Di_exchangeAt_17 ?_
      refine G_get hC fl_Di_60 h_21 rfl d_Di_exchangeAt_18 ?_
      refine G_iconst (i := 2) hC d_Di_exchangeAt_21 ?_
      refine G_icmp_ne hC 41 (by omega) (by decide) (by decide) d_Di_exchangeAt_22 (fun c_28 => ?_) (fun c_28 => ?_)
      · refine G_null hC d_Di_exchangeAt_41 ?_
        exact G_aretN hC hQ d_Di_exchangeAt_42
      · refine G_aload_n hC 0 rfl rfl d_Di_exchangeAt_25 ?_
        refine G_get hC fl_Di_11 h_3 rfl d_Di_exchangeAt_26 ?_
        refine G_iload_n hC 1 rfl rfl d_Di_exchangeAt_29 ?_
        refine G_aald hC h_4 rfl (by omega) (by omega) (by rw [he_13]) d_Di_exchangeAt_30 ?_
        refine G_get hC fl_Di_43 h_21 rfl d_Di_exchangeAt_31 ?_
        refine G_aload_n hC 2 rfl rfl d_Di_exchangeAt_34 ?_
        refine G_pV (rest := []) hC hR (c_By_same h_22 h_B_o) cv_Di_63 h_22.obj (by decide) (by omega) (by omega) rfl rfl (Nat.le_of_ble_eq_true rfl) d_Di_exchangeAt_35 ?_
        refine G_if_ne hC 43 (by have := b2i_rng (decide (bn_19.2 = b.2)); omega) (by decide) d_Di_exchangeAt_38 (fun c_29 => ?_) (fun c_29 => ?_)
        · have c_29 := b2i_ne0.mp c_29
          have c_29 := of_decide_eq_true c_29
          have hx9 : x_9 = x := (List.cons.inj (hx_11.symm.trans hd)).1
          exact absurd (show x.1 = 2 ∧ x.2.2.1 = b.2 from ⟨by rw [← hx9]; exact c_28, by rw [← hx9, ← h_24]; exact c_29⟩) (of_decide_eq_false hno)
        · have c_29 := b2i_eq0.mp c_29
          have c_29 := of_decide_eq_false c_29
          refine G_null hC d_Di_exchangeAt_41 ?_
          exact G_aretN hC hQ d_Di_exchangeAt_42

set_option maxHeartbeats 4000000 in
set_option maxRecDepth 100000 in
theorem c_Di_exchangeAt1 {l : Launch} {D : Dg} {b0 : Nat} {M : Mp} {a : Nat} {k : Int} {o : Nat} {es : List Ent} {t : Nat} {lim : Int} {b : Bv} {x : Ent} {lst : List Ent} (h_Dir_a : IsDir D M a es) (h_B_o : IsB D M o t lim b) (hk : 0 ≤ k ∧ k < es.length) (hd : es.drop k.toNat = x :: lst) (hyes : isD 2 b.2 x = true) : Ok l D b0 2 y_Di_exchangeAt b_Di_exchangeAt 3 (some (.object "SendPolicy$Bytes")) M [.ref a, vI k, .ref o] 0 0 (fun r M' => ∃ q : Nat, ∃ tq : Nat, ∃ lq : Int, ∃ bq : Bv, r = some (.ref q) ∧ IsB D M' q tq lq bq ∧ (bq.2 = x.2.2.2 ∧ 200 ≤ tq ∧ tq ≤ 398) ∧ M = M') := by
  refine Ok_of rfl (Nat.le_of_ble_eq_true rfl) (fun E hC hQ hl hD hB hN hR => ?_)
  subst hl hD hB
  have hD9 := h_Dir_a.len
  obtain ⟨ar_1, f_2, h_3, h_4, h_5, h_6⟩ := id h_Dir_a
  show G E M 0 0 [(0, .ref a), (1, vI k), (2, .ref o)] [] 0
  refine G_iload_n hC 1 rfl rfl d_Di_exchangeAt_0 ?_
  refine G_if_lt hC 41 (by omega) (by decide) d_Di_exchangeAt_1 (fun c_7 => ?_) (fun c_7 => ?_)
  · exact (show False from by omega).elim
  · refine G_iload_n hC 1 rfl rfl d_Di_exchangeAt_4 ?_
    refine G_aload_n hC 0 rfl rfl d_Di_exchangeAt_5 ?_
    refine G_get hC fl_Di_17 h_3 rfl d_Di_exchangeAt_6 ?_
    refine G_icmp_ge hC 41 (by omega) (by omega) (by decide) d_Di_exchangeAt_9 (fun c_8 => ?_) (fun c_8 => ?_)
    · exact (show False from by omega).elim
    · refine G_aload_n hC 0 rfl rfl d_Di_exchangeAt_12 ?_
      refine G_get hC fl_Di_11 h_3 rfl d_Di_exchangeAt_13 ?_
      refine G_iload_n hC 1 rfl rfl d_Di_exchangeAt_16 ?_
      obtain ⟨x_9, hx_10, hx_11⟩ := get_of (es := es) (k := k) (by omega)
      obtain ⟨e_12, he_13, he_14⟩ := h_6 _ x_9 hx_10
      obtain ⟨nm_15, vl_16, li_17, li_18, bn_19, bv_20, h_21, h_22, h_23, h_24, h_25, h_26, h_27⟩ := id he_14
      refine G_aald hC h_4 rfl (by omega) (by omega) (by rw [he_13]) d_Di_exchangeAt_17 ?_
      refine G_get hC fl_Di_60 h_21 rfl d_Di_exchangeAt_18 ?_
      refine G_iconst (i := 2) hC d_Di_exchangeAt_21 ?_
      refine G_icmp_ne hC 41 (by omega) (by decide) (by decide) d_Di_exchangeAt_22 (fun c_28 => ?_) (fun c_28 => ?_)
      · have hx9 : x_9 = x := (List.cons.inj (hx_11.symm.trans hd)).1
        exact absurd (by rw [hx9]; exact (of_decide_eq_true hyes).1) c_28
      · refine G_aload_n hC 0 rfl rfl d_Di_exchangeAt_25 ?_
        refine G_get hC fl_Di_11 h_3 rfl d_Di_exchangeAt_26 ?_
        refine G_iload_n hC 1 rfl rfl d_Di_exchangeAt_29 ?_
        refine G_aald hC h_4 rfl (by omega) (by omega) (by rw [he_13]) d_Di_exchangeAt_30 ?_
        refine G_get hC fl_Di_43 h_21 rfl d_Di_exchangeAt_31 ?_
        refine G_aload_n hC 2 rfl rfl d_Di_exchangeAt_34 ?_
        refine G_pV (rest := []) hC hR (c_By_same h_22 h_B_o) cv_Di_63 h_22.obj (by decide) (by omega) (by omega) rfl rfl (Nat.le_of_ble_eq_true rfl) d_Di_exchangeAt_35 ?_
        refine G_if_ne hC 43 (by have := b2i_rng (decide (bn_19.2 = b.2)); omega) (by decide) d_Di_exchangeAt_38 (fun c_29 => ?_) (fun c_29 => ?_)
        · have c_29 := b2i_ne0.mp c_29
          have c_29 := of_decide_eq_true c_29
          refine G_aload_n hC 0 rfl rfl d_Di_exchangeAt_43 ?_
          refine G_get hC fl_Di_11 h_3 rfl d_Di_exchangeAt_44 ?_
          refine G_iload_n hC 1 rfl rfl d_Di_exchangeAt_47 ?_
          refine G_aald hC h_4 rfl (by omega) (by omega) (by rw [he_13]) d_Di_exchangeAt_48 ?_
          refine G_get hC fl_Di_51 h_21 rfl d_Di_exchangeAt_49 ?_
          have hx9 : x_9 = x := (List.cons.inj (hx_11.symm.trans hd)).1
          exact G_areturn hC hQ (Or.inl ⟨_, rfl⟩) (Or.inr ⟨_, rfl⟩) (by omega) (by omega) d_Di_exchangeAt_52 ⟨vl_16, _, _, _, rfl, h_23, ⟨by rw [h_25, hx9], by omega⟩, rfl⟩
        · have c_29 := b2i_eq0.mp c_29
          have c_29 := of_decide_eq_false c_29
          have hx9 : x_9 = x := (List.cons.inj (hx_11.symm.trans hd)).1
          exact absurd (by rw [h_24, hx9]; exact (of_decide_eq_true hyes).2) c_29

set_option maxHeartbeats 4000000 in
set_option maxRecDepth 100000 in
theorem c_Ch_tryExchanges {l : Launch} {D : Dg} {b0 : Nat} {M : Mp} {a : Nat} {n : Int} {di : Nat} {se : Nat} {ma : Nat} {lv : Nat} {tg : Nat} {cn : Int} {vo : Int} {es : List Ent} {bt : Bv} {sd : Snd} {z : Int} (h_obj_a : M a = some (19, .inr (cCh, [.ref di, .ref se, .ref ma, .ref lv, .ref tg, vI cn, vI vo]))) (h_Dir_di : IsDir D M di es) (h_Se_se : IsSe D M se (some sd)) (h_B_tg : IsB D M tg 21 61 bt) (hn : -100000 ≤ n ∧ n ≤ 100000) (hr : excL es bt.2 sd.2.2 n es = z) : OkP l D b0 3 y_Ch_tryExchanges b_Ch_tryExchanges 4 (some .int) M [.ref a, vI n] (vI z) := by
  refine Ok_of rfl (Nat.le_of_ble_eq_true rfl) (fun E hC hQ hl hD hB hN hR => ?_)
  subst hl hD hB
  have hD9 := h_Dir_di.len
  show G E M 0 0 [(0, .ref a), (1, vI n)] [] 0
  refine G_iconst (i := 0) hC d_Ch_tryExchanges_0 ?_
  refine G_istore_n (lv' := [(2, vI 0), (0, .ref a), (1, vI n)]) hC rfl (by rw [hN]; decide) rfl d_Ch_tryExchanges_1 ?_
  have L2 : ∀ (N : Nat) (k : Int), ((es.length : Int) - k).toNat < N → (0 ≤ k ∧ k ≤ es.length) → (excL es bt.2 sd.2.2 n (es.drop k.toNat) = z) → G E M 0 0 [(0, .ref a), (1, vI n), (2, vI k)] [] 2 := by
    intro N
    induction N with
    | zero => intro k hN2 hk hf; exact absurd hN2 (Nat.not_lt_zero _)
    | succ N ih2 =>
      intro k hN2 hk hf
      refine G_iload_n hC 2 rfl rfl d_Ch_tryExchanges_2 ?_
      refine G_aload_n hC 0 rfl rfl d_Ch_tryExchanges_3 ?_
      refine G_get hC fl_Ch_9 h_obj_a rfl d_Ch_tryExchanges_4 ?_
      refine G_pV (rest := [vI k]) hC hR (c_Di_size h_Dir_di) cv_Ch_170 h_Dir_di.obj (by decide) (by omega) (by omega) rfl rfl (Nat.le_of_ble_eq_true rfl) d_Ch_tryExchanges_7 ?_
      have g_1 := h_Dir_di.len
      refine G_icmp_ge hC 75 (by omega) (by omega) (by decide) d_Ch_tryExchanges_10 (fun c_2 => ?_) (fun c_2 => ?_)
      · refine G_iconst (i := (-1)) hC d_Ch_tryExchanges_75 ?_
        exact G_iretP hC hQ d_Ch_tryExchanges_76 (by rw [List.drop_eq_nil_of_le (by omega)] at hf; exact hf)
      · refine G_aload_n hC 0 rfl rfl d_Ch_tryExchanges_13 ?_
        refine G_get hC fl_Ch_9 h_obj_a rfl d_Ch_tryExchanges_14 ?_
        refine G_iload_n hC 2 rfl rfl d_Ch_tryExchanges_17 ?_
        refine G_aload_n hC 0 rfl rfl d_Ch_tryExchanges_18 ?_
        refine G_get hC fl_Ch_35 h_obj_a rfl d_Ch_tryExchanges_19 ?_
        obtain ⟨x, hx1, hx2⟩ := get_of (es := es) (k := k) (by omega)
        rw [hx2, excL] at hf
        rcases Bool.eq_false_or_eq_true (isD 2 bt.2 x) with his | his
        · rw [if_pos his] at hf
          refine G_xV (rest := []) hC hR (c_Di_exchangeAt1 h_Dir_di h_B_tg (by omega) hx2 his) cv_Ch_171 h_Dir_di.obj (by decide) (by omega) (by omega) rfl rfl (Nat.le_of_ble_eq_true rfl) d_Ch_tryExchanges_22 (fun r_5 M_3 p_4 => ?_)
          obtain ⟨q_6, tq_7, lq_8, bq_9, rfl, h_10, h_11, rfl⟩ := p_4
          show G E M (0 + 0) (0 + 0) [(0, .ref a), (1, vI n), (2, vI k)] [.ref q_6] 25
          refine G_astore_n (lv' := [(3, .ref q_6), (0, .ref a), (1, vI n), (2, vI k)]) hC rfl (by rw [hN]; decide) rfl d_Ch_tryExchanges_25 ?_
          refine G_aload_n hC 0 rfl rfl d_Ch_tryExchanges_26 ?_
          refine G_ifnonnull hC 33 (by decide) d_Ch_tryExchanges_27 ?_
          refine G_aload_n hC 1 rfl rfl d_Ch_tryExchanges_33 ?_
          refine G_get hC fl_Ch_9 h_obj_a rfl d_Ch_tryExchanges_34 ?_
          refine G_iconst (i := 3) hC d_Ch_tryExchanges_37 ?_
          refine G_aload_n hC 0 rfl rfl d_Ch_tryExchanges_38 ?_
          refine G_pV (rest := []) hC hR (c_Di_has h_Dir_di h_10 (by omega) rfl) cv_Ch_66 h_Dir_di.obj (by decide) (by omega) (by omega) rfl rfl (Nat.le_of_ble_eq_true rfl) d_Ch_tryExchanges_39 ?_
          refine G_if_eq hC 47 (by have := b2i_rng (hasD es 3 bq_9.2); omega) (by decide) d_Ch_tryExchanges_42 (fun c_12 => ?_) (fun c_12 => ?_)
          · have c_12 := b2i_eq0.mp c_12
            have e9 := h_11.1
            rw [e9] at c_12
            rw [if_neg (by rw [c_12]; decide)] at hf
            refine G_aload_n hC 1 rfl rfl d_Ch_tryExchanges_47 ?_
            refine G_get hC fl_Ch_9 h_obj_a rfl d_Ch_tryExchanges_48 ?_
            refine G_aload_n hC 0 rfl rfl d_Ch_tryExchanges_51 ?_
            refine G_aload_n hC 1 rfl rfl d_Ch_tryExchanges_52 ?_
            refine G_get hC fl_Ch_15 h_obj_a rfl d_Ch_tryExchanges_53 ?_
            refine G_pV (rest := [.ref q_6, .ref di]) hC hR (c_Se_address h_Se_se) cv_Ch_127 h_Se_se.obj (by decide) (by omega) (by omega) rfl rfl (Nat.le_of_ble_eq_true rfl) d_Ch_tryExchanges_56 ?_
            refine G_iload_n hC 2 rfl rfl d_Ch_tryExchanges_59 ?_
            refine G_pV (rest := []) hC hR (c_Di_reaches h_Dir_di h_10 (by omega) rfl) cv_Ch_166 h_Dir_di.obj (by decide) (by omega) (by omega) rfl rfl (Nat.le_of_ble_eq_true rfl) d_Ch_tryExchanges_60 ?_
            refine G_if_eq hC 69 (by have := b2i_rng (reaD es bq_9.2 sd.2.2 n); omega) (by decide) d_Ch_tryExchanges_63 (fun c_13 => ?_) (fun c_13 => ?_)
            · have c_13 := b2i_eq0.mp c_13
              rw [e9] at c_13
              rw [if_neg (by rw [c_13]; decide)] at hf
              refine G_iinc (lv' := [(2, vI (k + 1)), (3, .ref q_6), (0, .ref a), (1, vI n)]) hC 3 rfl (by rw [hN]; decide) rfl d_Ch_tryExchanges_69 ?_
              refine G_goto hC 2 (by decide) d_Ch_tryExchanges_72 ?_
              refine G_lv [2, 3, 0] rfl ?_
              exact ih2 (k + 1) (by omega) (by omega) hf
            · have c_13 := b2i_ne0.mp c_13
              refine G_bipush (j := (-2)) hC (by decide +kernel) d_Ch_tryExchanges_66 ?_
              exact G_iretP hC hQ d_Ch_tryExchanges_68 (by rw [e9] at c_13; rw [if_pos c_13] at hf; exact hf)
          · have c_12 := b2i_ne0.mp c_12
            refine G_iconst (i := 5) hC d_Ch_tryExchanges_45 ?_
            exact G_iretP hC hQ d_Ch_tryExchanges_46 (by rw [h_11.1] at c_12; rw [if_pos c_12] at hf; exact hf)
        · rw [if_neg (by rw [his]; decide)] at hf
          refine G_pV (rest := []) hC hR (c_Di_exchangeAt0 h_Dir_di h_B_tg (by omega) hx2 his) cv_Ch_171 h_Dir_di.obj (by decide) (by omega) (by omega) rfl rfl (Nat.le_of_ble_eq_true rfl) d_Ch_tryExchanges_22 ?_
          refine G_astore_nN (lv' := [(3, .null), (0, .ref a), (1, vI n), (2, vI k)]) hC rfl (by rw [hN]; decide) rfl d_Ch_tryExchanges_25 ?_
          refine G_aload_nN hC 0 rfl rfl d_Ch_tryExchanges_26 ?_
          refine G_ifnonnullN hC d_Ch_tryExchanges_27 ?_
          refine G_goto hC 69 (by decide) d_Ch_tryExchanges_30 ?_
          refine G_iinc (lv' := [(2, vI (k + 1)), (3, .null), (0, .ref a), (1, vI n)]) hC 3 rfl (by rw [hN]; decide) rfl d_Ch_tryExchanges_69 ?_
          refine G_goto hC 2 (by decide) d_Ch_tryExchanges_72 ?_
          refine G_lv [2, 3, 0] rfl ?_
          exact ih2 (k + 1) (by omega) (by omega) hf
  refine G_lv [1, 2, 0] rfl ?_
  exact L2 _ 0 (Nat.lt_succ_self _) (by omega) hr

set_option maxHeartbeats 4000000 in
set_option maxRecDepth 100000 in
theorem c_Ch_lookUp {l : Launch} {D : Dg} {b0 : Nat} {M : Mp} {a : Nat} {o : Nat} {te : Nat} {ck : Nat} {di : Nat} {se : Nat} {ma : Nat} {lv : Nat} {tg : Nat} {cn : Int} {vo : Int} {es : List Ent} {bt : Bv} {tt : Nat} {lt : Int} {b : Bv} {t3 : Nat} {k0 : Int} {s0 : Int} {n0 : Int} {w0 : Int32} {f0 : Int} {o0 : Int} {tc : Nat} {lc : Int} {bc : Bv} {sd : Snd} {tm : Tm} {start : Int} {R : Rs} (h_obj_a : M a = some (19, .inr (cCh, [.ref di, .ref se, .ref ma, .ref lv, .ref tg, vI cn, vI vo]))) (h_Dir_di : IsDir D M di es) (h_Se_se : IsSe D M se (some sd)) (h_Ma_ma : IsMa D M ma se) (h_B_tg : IsB D M tg 21 61 bt) (h_B_o : IsB D M o tt lt b) (h_obj_te : M te = some (t3, .inr (cTe, [vI k0, vI s0, vI n0, .int w0, vI f0, vI o0]))) (h_B_ck : IsB D M ck tc lc bc) (hfl : fld tm k0 n0 w0 f0 o0) (htp : tmP b.2 start tm) (hst : 0 ≤ start) (hkk : tm.1 = 2 ∨ tm.1 = 3 ∨ tm.1 = 5) (hX : bc.2.length ≤ 61) (hbt : bt.1 = 61) (hcn : 0 ≤ cn ∧ cn ≤ 900 ∧ 0 ≤ vo ∧ vo ≤ 900) (htt : (tt + 1 < 17 ∨ 22 < tt) ∧ 99 < t3 ∧ 22 < tc) (hr : lookS es sd bc.2 b.2 tm cn vo = R) : Ok l D b0 8 y_Ch_lookUp b_Ch_lookUp 5 (some .int) M [.ref a, .ref o, .ref te, .ref ck] 0 0 (fun r M' => ∃ bt9 : Bv, r = some (vI R.1) ∧ M' a = some (19, .inr (cCh, [.ref di, .ref se, .ref ma, .ref lv, .ref tg, vI R.2.1, vI R.2.2])) ∧ IsB D M' tg 21 61 bt9 ∧ IsMa D M' ma se ∧ (bt9.1 = 61) ∧ Fr [18, 19, 21, 22] M M') := by
  rcases hD : tm.2.2.2 with _ | d
  · refine Ok_of rfl (Nat.le_of_ble_eq_true rfl) (fun E hC hQ hl hD hB hN hR => ?_)
    subst hl hD hB
    have hB9 := h_B_o.len
    have hC9 := h_B_ck.len
    have hT9 := h_B_tg.len
    have hdl := h_Dir_di.len
    obtain ⟨hf1, hf2, hf3, hf4, hf5⟩ := id hfl
    obtain ⟨hp1, hp2, hp3, hp4⟩ := id htp
    have hn5 : ¬ tm.1 = 5 := fun z => by obtain ⟨d9, hd9⟩ := hp4 (Or.inr (Or.inl z)); rw [hD] at hd9; cases hd9
    have hfo := hf5 hD (by omega)
    unfold lookS at hr
    rw [hD] at hr
    dsimp only at hr
    show G E M 0 0 [(0, .ref a), (1, .ref o), (2, .ref te), (3, .ref ck)] [] 0
    refine G_aload_n hC 0 rfl rfl d_Ch_lookUp_0 ?_
    refine G_xV (rest := []) hC hR (c_Ch_countOne h_obj_a (by omega)) cv_Ch_151 ⟨_, _, h_obj_a⟩ (by decide) (by omega) (by omega) rfl rfl (Nat.le_of_ble_eq_true rfl) d_Ch_lookUp_1 (fun r_3 M_1 p_2 => ?_)
    obtain ⟨rfl, h_4, fr_5⟩ := p_2
    show G E M_1 (0 + 0) (0 + 0) [(0, .ref a), (1, .ref o), (2, .ref te), (3, .ref ck)] [vI (b2i (decide (cn + 1 ≤ 10)))] 4
    refine G_if_ne hC 10 (by have := b2i_rng (decide (cn + 1 ≤ 10)); omega) (by decide) d_Ch_lookUp_4 (fun c_6 => ?_) (fun c_6 => ?_)
    · have c_6 := b2i_ne0.mp c_6
      have c_6 := of_decide_eq_true c_6
      refine G_aload_n hC 0 rfl rfl d_Ch_lookUp_10 ?_
      refine G_get hC fl_Ch_35 h_4 rfl d_Ch_lookUp_11 ?_
      refine G_iconst (i := 0) hC d_Ch_lookUp_14 ?_
      have h_7 := h_B_tg.fr fr_5 (by decide) (by decide)
      refine G_xV (rest := []) hC hR (c_By_cut h_7 (by omega)) cv_Ch_49 h_7.obj (by decide) (by omega) (by omega) rfl rfl (Nat.le_of_ble_eq_true rfl) d_Ch_lookUp_15 (fun r_10 M_8 p_9 => ?_)
      obtain ⟨rfl, h_11, fr_12⟩ := p_9
      show G E M_8 (0 + 0 + 0) (0 + 0 + 0) [(0, .ref a), (1, .ref o), (2, .ref te), (3, .ref ck)] [] 18
      have h_13 : IsB (eD E) M_8 tg 21 61 (61, []) := by have e9 := cut0 bt; rw [hbt] at e9; rw [← e9]; exact h_11
      rw [if_neg (show ¬ 10 < cn + 1 by omega)] at hr
      refine G_aload_n hC 2 rfl rfl d_Ch_lookUp_18 ?_
      have h_14 := fr_5.at h_obj_te (by simp only [List.mem_cons, List.not_mem_nil, or_false, not_or, not_false_eq_true]; try omega)
      have h_15 := fr_12.at h_14 (by simp only [List.mem_cons, List.not_mem_nil, or_false, not_or, not_false_eq_true]; try omega)
      refine G_pV (rest := []) hC hR (c_Te_from h_15) cv_Ch_137 ⟨_, _, h_15⟩ (by decide) (by omega) (by omega) rfl rfl (Nat.le_of_ble_eq_true rfl) d_Ch_lookUp_19 ?_
      refine G_aload_n hC 2 rfl rfl d_Ch_lookUp_22 ?_
      refine G_pV (rest := [vI f0]) hC hR (c_Te_to h_15) cv_Ch_140 ⟨_, _, h_15⟩ (by decide) (by omega) (by omega) rfl rfl (Nat.le_of_ble_eq_true rfl) d_Ch_lookUp_23 ?_
      refine G_icmp_ge_eq hC 53 hfo (by decide) d_Ch_lookUp_26 ?_
      refine G_aload_n hC 0 rfl rfl d_Ch_lookUp_53 ?_
      have h_16 := fr_12.at h_4 (by simp only [List.mem_cons, List.not_mem_nil, or_false, not_or, not_false_eq_true]; try omega)
      refine G_get hC fl_Ch_35 h_16 rfl d_Ch_lookUp_54 ?_
      refine G_aload_n hC 3 rfl rfl d_Ch_lookUp_57 ?_
      refine G_iconst (i := 0) hC d_Ch_lookUp_58 ?_
      refine G_aload_n hC 3 rfl rfl d_Ch_lookUp_59 ?_
      have h_17 := h_B_ck.fr fr_5 (by simp only [List.mem_cons, List.not_mem_nil, or_false, not_or, not_false_eq_true]; try omega) (by simp only [List.mem_cons, List.not_mem_nil, or_false, not_or, not_false_eq_true]; try omega)
      have h_18 := h_17.fr fr_12 (by simp only [List.mem_cons, List.not_mem_nil, or_false, not_or, not_false_eq_true]; try omega) (by simp only [List.mem_cons, List.not_mem_nil, or_false, not_or, not_false_eq_true]; try omega)
      refine G_pV (rest := [vI 0, .ref ck, .ref tg]) hC hR (c_By_size h_18) cv_Ch_58 h_18.obj (by decide) (by omega) (by omega) rfl rfl (Nat.le_of_ble_eq_true rfl) d_Ch_lookUp_60 ?_
      have g_19 := h_18.len
      have htg : addPB 61 ((61 : Nat), ([] : List Int)) bc.2 0 (bc.2.length : Int) = (61, bc.2) := part_row hX
      have hpz : psi 61 (addPB 61 ((61 : Nat), ([] : List Int)) bc.2 0 (bc.2.length : Int)) = psi 61 ((61 : Nat), ([] : List Int)) := by rw [htg]; rfl
      refine G_xV (rest := []) hC hR (c_By_addPart h_13 h_18 (by omega) (by omega) (by omega)) cv_Ch_62 h_13.obj (by decide) (by omega) (by omega) rfl rfl (Nat.le_of_ble_eq_true rfl) d_Ch_lookUp_63 (fun r_22 M_20 p_21 => ?_)
      obtain ⟨rfl, h_23, fr_24⟩ := p_21
      show G E M_20 (0 + 0 + 0 + (psi 61 (addPB 61 ((61 : Nat), ([] : List Int)) bc.2 0 (bc.2.length : Int)) - psi 61 ((61 : Nat), ([] : List Int)))) (0 + 0 + 0 + (psi 61 (addPB 61 ((61 : Nat), ([] : List Int)) bc.2 0 (bc.2.length : Int)) - psi 61 ((61 : Nat), ([] : List Int)))) [(0, .ref a), (1, .ref o), (2, .ref te), (3, .ref ck)] [] 66
      have g_25 := psi_addPB (lim := 61) (b := ((61 : Nat), ([] : List Int))) bc.2 0 (bc.2.length : Int) ⟨h_13.len.1, h_13.len.2.1⟩
      have h_26 : IsB (eD E) M_20 tg 21 61 (61, bc.2) := by rw [← htg]; exact h_23
      have hRes : ∀ (x : Nat × List Int), x = x := fun _ => rfl
      refine G_aload_n hC 0 rfl rfl d_Ch_lookUp_66 ?_
      have h_27 := fr_24.at h_16 (by simp only [List.mem_cons, List.not_mem_nil, or_false, not_or, not_false_eq_true]; try omega)
      refine G_get hC fl_Ch_9 h_27 rfl d_Ch_lookUp_67 ?_
      refine G_iconst (i := 3) hC d_Ch_lookUp_70 ?_
      refine G_aload_n hC 0 rfl rfl d_Ch_lookUp_71 ?_
      refine G_get hC fl_Ch_35 h_27 rfl d_Ch_lookUp_72 ?_
      have h_28 := h_Dir_di.fr fr_5 (by intro u hu; simp only [List.mem_cons, List.not_mem_nil, or_false] at hu <;> omega)
      have h_29 := h_28.fr fr_12 (by intro u hu; simp only [List.mem_cons, List.not_mem_nil, or_false] at hu <;> omega)
      have h_30 := h_29.fr fr_24 (by intro u hu; simp only [List.mem_cons, List.not_mem_nil, or_false] at hu <;> omega)
      refine G_pV (rest := []) hC hR (c_Di_has h_30 h_26 (by omega) rfl) cv_Ch_66 h_30.obj (by decide) (by omega) (by omega) rfl rfl (Nat.le_of_ble_eq_true rfl) d_Ch_lookUp_75 ?_
      refine G_if_eq hC 83 (by have := b2i_rng (hasD es 3 ((61 : Nat), bc.2).2); omega) (by decide) d_Ch_lookUp_78 (fun c_31 => ?_) (fun c_31 => ?_)
      · have c_31 := b2i_eq0.mp c_31
        rw [if_neg (show ¬ hasD es 3 (bc.2) = true from fun z => by have z2 := c_31.symm.trans z; cases z2)] at hr
        refine G_aload_n hC 0 rfl rfl d_Ch_lookUp_83 ?_
        refine G_get hC fl_Ch_9 h_27 rfl d_Ch_lookUp_84 ?_
        refine G_aload_n hC 2 rfl rfl d_Ch_lookUp_87 ?_
        have h_32 := fr_24.at h_15 (by simp only [List.mem_cons, List.not_mem_nil, or_false, not_or, not_false_eq_true]; try omega)
        refine G_pV (rest := [.ref di]) hC hR (c_Te_kind h_32) cv_Ch_121 ⟨_, _, h_32⟩ (by decide) (by omega) (by omega) rfl rfl (Nat.le_of_ble_eq_true rfl) d_Ch_lookUp_88 ?_
        refine G_iconst (i := 3) hC d_Ch_lookUp_91 ?_
        refine G_icmp_ne hC 99 (by omega) (by decide) (by decide) d_Ch_lookUp_92 (fun c_33 => ?_) (fun c_33 => ?_)
        · rw [if_neg (show ¬ tm.1 = 3 by omega), if_neg (show ¬ tm.1 = 3 by omega)] at hr
          refine G_iconst (i := 1) hC d_Ch_lookUp_99 ?_
          refine G_aload_n hC 0 rfl rfl d_Ch_lookUp_100 ?_
          refine G_get hC fl_Ch_35 h_27 rfl d_Ch_lookUp_101 ?_
          refine G_pV (rest := []) hC hR (c_Di_has h_30 h_26 (by omega) rfl) cv_Ch_66 h_30.obj (by decide) (by omega) (by omega) rfl rfl (Nat.le_of_ble_eq_true rfl) d_Ch_lookUp_104 ?_
          refine G_if_ne hC 135 (by have := b2i_rng (hasD es 1 ((61 : Nat), bc.2).2); omega) (by decide) d_Ch_lookUp_107 (fun c_34 => ?_) (fun c_34 => ?_)
          · have c_34 := b2i_ne0.mp c_34
            rw [if_neg (show ¬ hasD es 1 (bc.2) = false from fun z => by have z2 := c_34.symm.trans z; cases z2)] at hr
            refine G_aload_n hC 2 rfl rfl d_Ch_lookUp_135 ?_
            refine G_pV (rest := []) hC hR (c_Te_kind h_32) cv_Ch_121 ⟨_, _, h_32⟩ (by decide) (by omega) (by omega) rfl rfl (Nat.le_of_ble_eq_true rfl) d_Ch_lookUp_136 ?_
            refine G_iconst (i := 3) hC d_Ch_lookUp_139 ?_
            refine G_icmp_ne hC 152 (by omega) (by decide) (by decide) d_Ch_lookUp_140 (fun c_35 => ?_) (fun c_35 => ?_)
            · refine G_aload_n hC 2 rfl rfl d_Ch_lookUp_152 ?_
              refine G_pV (rest := []) hC hR (c_Te_kind h_32) cv_Ch_121 ⟨_, _, h_32⟩ (by decide) (by omega) (by omega) rfl rfl (Nat.le_of_ble_eq_true rfl) d_Ch_lookUp_153 ?_
              refine G_iconst (i := 5) hC d_Ch_lookUp_156 ?_
              refine G_icmp_eq hC 185 (by omega) (by decide) (by decide) d_Ch_lookUp_157 (fun c_36 => ?_) (fun c_36 => ?_)
              · refine G_iconst (i := 1) hC d_Ch_lookUp_185 ?_
                refine G_goto hC 190 (by decide) d_Ch_lookUp_186 ?_
                refine G_istore (lv' := [(4, vI 1), (0, .ref a), (1, .ref o), (2, .ref te), (3, .ref ck)]) hC (by rw [hN]; decide) rfl d_Ch_lookUp_190 ?_
                refine G_iload hC 0 rfl d_Ch_lookUp_192 ?_
                refine G_if_eq hC 202 (by decide) (by decide) d_Ch_lookUp_194 (fun c_37 => ?_) (fun c_37 => ?_)
                · exact (show False from by omega).elim
                · refine G_bipush (j := (-2)) hC (by decide +kernel) d_Ch_lookUp_197 ?_
                  refine G_goto hC 203 (by decide) d_Ch_lookUp_199 ?_
                  have h_38 := h_Ma_ma.fr fr_5 (by decide) (by decide)
                  have h_39 := h_38.fr fr_12 (by simp only [List.mem_cons, List.not_mem_nil, or_false, not_or, not_false_eq_true]; try omega) (by simp only [List.mem_cons, List.not_mem_nil, or_false, not_or, not_false_eq_true]; try omega)
                  have h_40 := h_39.fr fr_24 (by simp only [List.mem_cons, List.not_mem_nil, or_false, not_or, not_false_eq_true]; try omega) (by simp only [List.mem_cons, List.not_mem_nil, or_false, not_or, not_false_eq_true]; try omega)
                  have hP : R = ((-2), cn + 1, vo) := by rw [if_pos (show tm.1 = 5 ∨ reaD es (bc.2) sd.2.2 tm.2.1 = true from (Or.inl (by omega)))] at hr; exact hr.symm
                  exact G_iretX hC hQ (by omega) (by omega) d_Ch_lookUp_203 ⟨_, by rw [hP], by rw [hP]; exact h_27, h_26, h_40, rfl, (((fr_5.up (T := [18, 19, 21, 22]) (by simp)).tr' (T := [18, 19, 21, 22]) fr_12 (fun _ z => z) (by simp)).tr' (T := [18, 19, 21, 22]) fr_24 (fun _ z => z) (by simp))⟩
              · refine G_aload_n hC 0 rfl rfl d_Ch_lookUp_160 ?_
                refine G_get hC fl_Ch_9 h_27 rfl d_Ch_lookUp_161 ?_
                refine G_aload_n hC 0 rfl rfl d_Ch_lookUp_164 ?_
                refine G_get hC fl_Ch_35 h_27 rfl d_Ch_lookUp_165 ?_
                refine G_aload_n hC 0 rfl rfl d_Ch_lookUp_168 ?_
                refine G_get hC fl_Ch_15 h_27 rfl d_Ch_lookUp_169 ?_
                have h_41 := h_Se_se.fr fr_5 (by intro u hu; simp only [List.mem_cons, List.not_mem_nil, or_false] at hu <;> omega)
                have h_42 := h_41.fr fr_12 (by intro u hu; simp only [List.mem_cons, List.not_mem_nil, or_false] at hu <;> omega)
                have h_43 := h_42.fr fr_24 (by intro u hu; simp only [List.mem_cons, List.not_mem_nil, or_false] at hu <;> omega)
                refine G_pV (rest := [.ref tg, .ref di]) hC hR (c_Se_address h_43) cv_Ch_127 h_43.obj (by decide) (by omega) (by omega) rfl rfl (Nat.le_of_ble_eq_true rfl) d_Ch_lookUp_172 ?_
                refine G_aload_n hC 2 rfl rfl d_Ch_lookUp_175 ?_
                refine G_pV (rest := [.int sd.2.2, .ref tg, .ref di]) hC hR (c_Te_bits h_32) cv_Ch_130 ⟨_, _, h_32⟩ (by decide) (by omega) (by omega) rfl rfl (Nat.le_of_ble_eq_true rfl) d_Ch_lookUp_176 ?_
                refine G_top (b := tm.2.1) (hf2 (by omega)) ?_
                refine G_pV (rest := []) hC hR (c_Di_reaches h_30 h_26 (by omega) rfl) cv_Ch_166 h_30.obj (by decide) (by omega) (by omega) rfl rfl (Nat.le_of_ble_eq_true rfl) d_Ch_lookUp_179 ?_
                refine G_if_eq hC 189 (by have := b2i_rng (reaD es ((61 : Nat), bc.2).2 sd.2.2 tm.2.1); omega) (by decide) d_Ch_lookUp_182 (fun c_44 => ?_) (fun c_44 => ?_)
                · have c_44 := b2i_eq0.mp c_44
                  refine G_iconst (i := 0) hC d_Ch_lookUp_189 ?_
                  refine G_istore (lv' := [(4, vI 0), (0, .ref a), (1, .ref o), (2, .ref te), (3, .ref ck)]) hC (by rw [hN]; decide) rfl d_Ch_lookUp_190 ?_
                  refine G_iload hC 0 rfl d_Ch_lookUp_192 ?_
                  refine G_if_eq hC 202 (by decide) (by decide) d_Ch_lookUp_194 (fun c_45 => ?_) (fun c_45 => ?_)
                  · refine G_iconst (i := (-1)) hC d_Ch_lookUp_202 ?_
                    have h_46 := h_Ma_ma.fr fr_5 (by decide) (by decide)
                    have h_47 := h_46.fr fr_12 (by simp only [List.mem_cons, List.not_mem_nil, or_false, not_or, not_false_eq_true]; try omega) (by simp only [List.mem_cons, List.not_mem_nil, or_false, not_or, not_false_eq_true]; try omega)
                    have h_48 := h_47.fr fr_24 (by simp only [List.mem_cons, List.not_mem_nil, or_false, not_or, not_false_eq_true]; try omega) (by simp only [List.mem_cons, List.not_mem_nil, or_false, not_or, not_false_eq_true]; try omega)
                    have hP : R = ((-1), cn + 1, vo) := by rw [if_neg (show ¬ (tm.1 = 5 ∨ reaD es (bc.2) sd.2.2 tm.2.1 = true) from fun z => by rcases z with z | z; omega; (have z2 := c_44.symm.trans z; cases z2))] at hr; exact hr.symm
                    exact G_iretX hC hQ (by omega) (by omega) d_Ch_lookUp_203 ⟨_, by rw [hP], by rw [hP]; exact h_27, h_26, h_48, rfl, (((fr_5.up (T := [18, 19, 21, 22]) (by simp)).tr' (T := [18, 19, 21, 22]) fr_12 (fun _ z => z) (by simp)).tr' (T := [18, 19, 21, 22]) fr_24 (fun _ z => z) (by simp))⟩
                  · exact (show False from by omega).elim
                · have c_44 := b2i_ne0.mp c_44
                  refine G_iconst (i := 1) hC d_Ch_lookUp_185 ?_
                  refine G_goto hC 190 (by decide) d_Ch_lookUp_186 ?_
                  refine G_istore (lv' := [(4, vI 1), (0, .ref a), (1, .ref o), (2, .ref te), (3, .ref ck)]) hC (by rw [hN]; decide) rfl d_Ch_lookUp_190 ?_
                  refine G_iload hC 0 rfl d_Ch_lookUp_192 ?_
                  refine G_if_eq hC 202 (by decide) (by decide) d_Ch_lookUp_194 (fun c_49 => ?_) (fun c_49 => ?_)
                  · exact (show False from by omega).elim
                  · refine G_bipush (j := (-2)) hC (by decide +kernel) d_Ch_lookUp_197 ?_
                    refine G_goto hC 203 (by decide) d_Ch_lookUp_199 ?_
                    have h_50 := h_Ma_ma.fr fr_5 (by decide) (by decide)
                    have h_51 := h_50.fr fr_12 (by simp only [List.mem_cons, List.not_mem_nil, or_false, not_or, not_false_eq_true]; try omega) (by simp only [List.mem_cons, List.not_mem_nil, or_false, not_or, not_false_eq_true]; try omega)
                    have h_52 := h_51.fr fr_24 (by simp only [List.mem_cons, List.not_mem_nil, or_false, not_or, not_false_eq_true]; try omega) (by simp only [List.mem_cons, List.not_mem_nil, or_false, not_or, not_false_eq_true]; try omega)
                    have hP : R = ((-2), cn + 1, vo) := by rw [if_pos (show tm.1 = 5 ∨ reaD es (bc.2) sd.2.2 tm.2.1 = true from (Or.inr c_44))] at hr; exact hr.symm
                    exact G_iretX hC hQ (by omega) (by omega) d_Ch_lookUp_203 ⟨_, by rw [hP], by rw [hP]; exact h_27, h_26, h_52, rfl, (((fr_5.up (T := [18, 19, 21, 22]) (by simp)).tr' (T := [18, 19, 21, 22]) fr_12 (fun _ z => z) (by simp)).tr' (T := [18, 19, 21, 22]) fr_24 (fun _ z => z) (by simp))⟩
            · exact (show False from by omega).elim
          · have c_34 := b2i_eq0.mp c_34
            rw [if_pos (show hasD es 1 (bc.2) = false from c_34)] at hr
            refine G_aload_n hC 0 rfl rfl d_Ch_lookUp_110 ?_
            refine G_dup hC rfl d_Ch_lookUp_111 ?_
            refine G_get hC fl_Ch_43 h_27 rfl d_Ch_lookUp_112 ?_
            refine G_iconst (i := 1) hC d_Ch_lookUp_115 ?_
            refine G_iadd hC d_Ch_lookUp_116 ?_
            refine G_putX (fs' := [.ref di, .ref se, .ref ma, .ref lv, .ref tg, vI (cn + 1), vI (vo + 1)]) hC fl_Ch_43 ft_Ch fw_Ch_6 h_27 rfl rfl (Nat.le_of_ble_eq_true rfl) rfl d_Ch_lookUp_117 (fun M_53 h_54 fr_55 => ?_)
            refine G_aload_n hC 0 rfl rfl d_Ch_lookUp_120 ?_
            refine G_get hC fl_Ch_43 h_54 rfl d_Ch_lookUp_121 ?_
            refine G_iconst (i := 2) hC d_Ch_lookUp_124 ?_
            refine G_icmp_le hC 133 (by omega) (by decide) (by decide) d_Ch_lookUp_125 (fun c_56 => ?_) (fun c_56 => ?_)
            · refine G_iconst (i := (-1)) hC d_Ch_lookUp_133 ?_
              have h_57 := h_26.fr fr_55 (by decide) (by decide)
              have h_58 := h_Ma_ma.fr fr_5 (by decide) (by decide)
              have h_59 := h_58.fr fr_12 (by simp only [List.mem_cons, List.not_mem_nil, or_false, not_or, not_false_eq_true]; try omega) (by simp only [List.mem_cons, List.not_mem_nil, or_false, not_or, not_false_eq_true]; try omega)
              have h_60 := h_59.fr fr_24 (by simp only [List.mem_cons, List.not_mem_nil, or_false, not_or, not_false_eq_true]; try omega) (by simp only [List.mem_cons, List.not_mem_nil, or_false, not_or, not_false_eq_true]; try omega)
              have h_61 := h_60.fr fr_55 (by decide) (by decide)
              have hP : R = ((-1), cn + 1, vo + 1) := by rw [if_neg (show ¬ 2 < vo + 1 by omega)] at hr; exact hr.symm
              exact G_iretX hC hQ (by omega) (by omega) d_Ch_lookUp_134 ⟨_, by rw [hP], by rw [hP]; exact h_54, h_57, h_61, rfl, ((((fr_5.up (T := [18, 19, 21, 22]) (by simp)).tr' (T := [18, 19, 21, 22]) fr_12 (fun _ z => z) (by simp)).tr' (T := [18, 19, 21, 22]) fr_24 (fun _ z => z) (by simp)).tr' (T := [18, 19, 21, 22]) fr_55 (fun _ z => z) (by simp))⟩
            · refine G_bipush (j := 6) hC (by decide +kernel) d_Ch_lookUp_128 ?_
              refine G_goto hC 134 (by decide) d_Ch_lookUp_130 ?_
              have h_62 := h_26.fr fr_55 (by decide) (by decide)
              have h_63 := h_Ma_ma.fr fr_5 (by decide) (by decide)
              have h_64 := h_63.fr fr_12 (by simp only [List.mem_cons, List.not_mem_nil, or_false, not_or, not_false_eq_true]; try omega) (by simp only [List.mem_cons, List.not_mem_nil, or_false, not_or, not_false_eq_true]; try omega)
              have h_65 := h_64.fr fr_24 (by simp only [List.mem_cons, List.not_mem_nil, or_false, not_or, not_false_eq_true]; try omega) (by simp only [List.mem_cons, List.not_mem_nil, or_false, not_or, not_false_eq_true]; try omega)
              have h_66 := h_65.fr fr_55 (by decide) (by decide)
              have hP : R = (6, cn + 1, vo + 1) := by rw [if_pos (show 2 < vo + 1 by omega)] at hr; exact hr.symm
              exact G_iretX hC hQ (by omega) (by omega) d_Ch_lookUp_134 ⟨_, by rw [hP], by rw [hP]; exact h_54, h_62, h_66, rfl, ((((fr_5.up (T := [18, 19, 21, 22]) (by simp)).tr' (T := [18, 19, 21, 22]) fr_12 (fun _ z => z) (by simp)).tr' (T := [18, 19, 21, 22]) fr_24 (fun _ z => z) (by simp)).tr' (T := [18, 19, 21, 22]) fr_55 (fun _ z => z) (by simp))⟩
        · rw [if_pos (show tm.1 = 3 by omega), if_pos (show tm.1 = 3 by omega)] at hr
          refine G_iconst (i := 2) hC d_Ch_lookUp_95 ?_
          refine G_goto hC 100 (by decide) d_Ch_lookUp_96 ?_
          refine G_aload_n hC 0 rfl rfl d_Ch_lookUp_100 ?_
          refine G_get hC fl_Ch_35 h_27 rfl d_Ch_lookUp_101 ?_
          refine G_pV (rest := []) hC hR (c_Di_has h_30 h_26 (by omega) rfl) cv_Ch_66 h_30.obj (by decide) (by omega) (by omega) rfl rfl (Nat.le_of_ble_eq_true rfl) d_Ch_lookUp_104 ?_
          refine G_if_ne hC 135 (by have := b2i_rng (hasD es 2 ((61 : Nat), bc.2).2); omega) (by decide) d_Ch_lookUp_107 (fun c_67 => ?_) (fun c_67 => ?_)
          · have c_67 := b2i_ne0.mp c_67
            rw [if_neg (show ¬ hasD es 2 (bc.2) = false from fun z => by have z2 := c_67.symm.trans z; cases z2)] at hr
            refine G_aload_n hC 2 rfl rfl d_Ch_lookUp_135 ?_
            refine G_pV (rest := []) hC hR (c_Te_kind h_32) cv_Ch_121 ⟨_, _, h_32⟩ (by decide) (by omega) (by omega) rfl rfl (Nat.le_of_ble_eq_true rfl) d_Ch_lookUp_136 ?_
            refine G_iconst (i := 3) hC d_Ch_lookUp_139 ?_
            refine G_icmp_ne hC 152 (by omega) (by decide) (by decide) d_Ch_lookUp_140 (fun c_68 => ?_) (fun c_68 => ?_)
            · exact (show False from by omega).elim
            · refine G_aload_n hC 0 rfl rfl d_Ch_lookUp_143 ?_
              refine G_aload_n hC 2 rfl rfl d_Ch_lookUp_144 ?_
              refine G_pV (rest := [.ref a]) hC hR (c_Te_bits h_32) cv_Ch_130 ⟨_, _, h_32⟩ (by decide) (by omega) (by omega) rfl rfl (Nat.le_of_ble_eq_true rfl) d_Ch_lookUp_145 ?_
              refine G_top (b := tm.2.1) (hf2 (by omega)) ?_
              have h_69 := h_Se_se.fr fr_5 (by intro u hu; simp only [List.mem_cons, List.not_mem_nil, or_false] at hu <;> omega)
              have h_70 := h_69.fr fr_12 (by intro u hu; simp only [List.mem_cons, List.not_mem_nil, or_false] at hu <;> omega)
              have h_71 := h_70.fr fr_24 (by intro u hu; simp only [List.mem_cons, List.not_mem_nil, or_false] at hu <;> omega)
              refine G_pV (rest := []) hC hR (c_Ch_tryExchanges h_27 h_30 h_71 h_26 (by omega) rfl) cv_Ch_163 ⟨_, _, h_27⟩ (by decide) (by omega) (by omega) rfl rfl (Nat.le_of_ble_eq_true rfl) d_Ch_lookUp_148 ?_
              have h_72 := h_Ma_ma.fr fr_5 (by decide) (by decide)
              have h_73 := h_72.fr fr_12 (by simp only [List.mem_cons, List.not_mem_nil, or_false, not_or, not_false_eq_true]; try omega) (by simp only [List.mem_cons, List.not_mem_nil, or_false, not_or, not_false_eq_true]; try omega)
              have h_74 := h_73.fr fr_24 (by simp only [List.mem_cons, List.not_mem_nil, or_false, not_or, not_false_eq_true]; try omega) (by simp only [List.mem_cons, List.not_mem_nil, or_false, not_or, not_false_eq_true]; try omega)
              have hP : R = (excL es ((61 : Nat), bc.2).2 sd.2.2 tm.2.1 es, cn + 1, vo) := hr.symm
              exact G_iretX hC hQ (by omega) (by omega) d_Ch_lookUp_151 ⟨_, by rw [hP], by rw [hP]; exact h_27, h_26, h_74, rfl, (((fr_5.up (T := [18, 19, 21, 22]) (by simp)).tr' (T := [18, 19, 21, 22]) fr_12 (fun _ z => z) (by simp)).tr' (T := [18, 19, 21, 22]) fr_24 (fun _ z => z) (by simp))⟩
          · have c_67 := b2i_eq0.mp c_67
            rw [if_pos (show hasD es 2 (bc.2) = false from c_67)] at hr
            refine G_aload_n hC 0 rfl rfl d_Ch_lookUp_110 ?_
            refine G_dup hC rfl d_Ch_lookUp_111 ?_
            refine G_get hC fl_Ch_43 h_27 rfl d_Ch_lookUp_112 ?_
            refine G_iconst (i := 1) hC d_Ch_lookUp_115 ?_
            refine G_iadd hC d_Ch_lookUp_116 ?_
            refine G_putX (fs' := [.ref di, .ref se, .ref ma, .ref lv, .ref tg, vI (cn + 1), vI (vo + 1)]) hC fl_Ch_43 ft_Ch fw_Ch_6 h_27 rfl rfl (Nat.le_of_ble_eq_true rfl) rfl d_Ch_lookUp_117 (fun M_75 h_76 fr_77 => ?_)
            refine G_aload_n hC 0 rfl rfl d_Ch_lookUp_120 ?_
            refine G_get hC fl_Ch_43 h_76 rfl d_Ch_lookUp_121 ?_
            refine G_iconst (i := 2) hC d_Ch_lookUp_124 ?_
            refine G_icmp_le hC 133 (by omega) (by decide) (by decide) d_Ch_lookUp_125 (fun c_78 => ?_) (fun c_78 => ?_)
            · refine G_iconst (i := (-1)) hC d_Ch_lookUp_133 ?_
              have h_79 := h_26.fr fr_77 (by decide) (by decide)
              have h_80 := h_Ma_ma.fr fr_5 (by decide) (by decide)
              have h_81 := h_80.fr fr_12 (by simp only [List.mem_cons, List.not_mem_nil, or_false, not_or, not_false_eq_true]; try omega) (by simp only [List.mem_cons, List.not_mem_nil, or_false, not_or, not_false_eq_true]; try omega)
              have h_82 := h_81.fr fr_24 (by simp only [List.mem_cons, List.not_mem_nil, or_false, not_or, not_false_eq_true]; try omega) (by simp only [List.mem_cons, List.not_mem_nil, or_false, not_or, not_false_eq_true]; try omega)
              have h_83 := h_82.fr fr_77 (by decide) (by decide)
              have hP : R = ((-1), cn + 1, vo + 1) := by rw [if_neg (show ¬ 2 < vo + 1 by omega)] at hr; exact hr.symm
              exact G_iretX hC hQ (by omega) (by omega) d_Ch_lookUp_134 ⟨_, by rw [hP], by rw [hP]; exact h_76, h_79, h_83, rfl, ((((fr_5.up (T := [18, 19, 21, 22]) (by simp)).tr' (T := [18, 19, 21, 22]) fr_12 (fun _ z => z) (by simp)).tr' (T := [18, 19, 21, 22]) fr_24 (fun _ z => z) (by simp)).tr' (T := [18, 19, 21, 22]) fr_77 (fun _ z => z) (by simp))⟩
            · refine G_bipush (j := 6) hC (by decide +kernel) d_Ch_lookUp_128 ?_
              refine G_goto hC 134 (by decide) d_Ch_lookUp_130 ?_
              have h_84 := h_26.fr fr_77 (by decide) (by decide)
              have h_85 := h_Ma_ma.fr fr_5 (by decide) (by decide)
              have h_86 := h_85.fr fr_12 (by simp only [List.mem_cons, List.not_mem_nil, or_false, not_or, not_false_eq_true]; try omega) (by simp only [List.mem_cons, List.not_mem_nil, or_false, not_or, not_false_eq_true]; try omega)
              have h_87 := h_86.fr fr_24 (by simp only [List.mem_cons, List.not_mem_nil, or_false, not_or, not_false_eq_true]; try omega) (by simp only [List.mem_cons, List.not_mem_nil, or_false, not_or, not_false_eq_true]; try omega)
              have h_88 := h_87.fr fr_77 (by decide) (by decide)
              have hP : R = (6, cn + 1, vo + 1) := by rw [if_pos (show 2 < vo + 1 by omega)] at hr; exact hr.symm
              exact G_iretX hC hQ (by omega) (by omega) d_Ch_lookUp_134 ⟨_, by rw [hP], by rw [hP]; exact h_76, h_84, h_88, rfl, ((((fr_5.up (T := [18, 19, 21, 22]) (by simp)).tr' (T := [18, 19, 21, 22]) fr_12 (fun _ z => z) (by simp)).tr' (T := [18, 19, 21, 22]) fr_24 (fun _ z => z) (by simp)).tr' (T := [18, 19, 21, 22]) fr_77 (fun _ z => z) (by simp))⟩
      · have c_31 := b2i_ne0.mp c_31
        refine G_iconst (i := 5) hC d_Ch_lookUp_81 ?_
        have h_89 := h_Ma_ma.fr fr_5 (by decide) (by decide)
        have h_90 := h_89.fr fr_12 (by simp only [List.mem_cons, List.not_mem_nil, or_false, not_or, not_false_eq_true]; try omega) (by simp only [List.mem_cons, List.not_mem_nil, or_false, not_or, not_false_eq_true]; try omega)
        have h_91 := h_90.fr fr_24 (by simp only [List.mem_cons, List.not_mem_nil, or_false, not_or, not_false_eq_true]; try omega) (by simp only [List.mem_cons, List.not_mem_nil, or_false, not_or, not_false_eq_true]; try omega)
        have hP : R = (5, cn + 1, vo) := by rw [if_pos c_31] at hr; exact hr.symm
        exact G_iretX hC hQ (by omega) (by omega) d_Ch_lookUp_82 ⟨_, by rw [hP], by rw [hP]; exact h_27, h_26, h_91, rfl, (((fr_5.up (T := [18, 19, 21, 22]) (by simp)).tr' (T := [18, 19, 21, 22]) fr_12 (fun _ z => z) (by simp)).tr' (T := [18, 19, 21, 22]) fr_24 (fun _ z => z) (by simp))⟩
    · have c_6 := b2i_eq0.mp c_6
      have c_6 := of_decide_eq_false c_6
      refine G_bipush (j := 6) hC (by decide +kernel) d_Ch_lookUp_7 ?_
      have h_92 := h_B_tg.fr fr_5 (by decide) (by decide)
      have h_93 := h_Ma_ma.fr fr_5 (by decide) (by decide)
      have hP : R = (6, cn + 1, vo) := by rw [if_pos (show 10 < cn + 1 by omega)] at hr; exact hr.symm
      exact G_iretX hC hQ (by omega) (by omega) d_Ch_lookUp_9 ⟨_, by rw [hP], by rw [hP]; exact h_4, h_92, h_93, hbt, (fr_5.up (T := [18, 19, 21, 22]) (by simp))⟩
  · refine Ok_of rfl (Nat.le_of_ble_eq_true rfl) (fun E hC hQ hl hD hB hN hR => ?_)
    subst hl hD hB
    have hB9 := h_B_o.len
    have hC9 := h_B_ck.len
    have hT9 := h_B_tg.len
    have hdl := h_Dir_di.len
    obtain ⟨hf1, hf2, hf3, hf4, hf5⟩ := id hfl
    obtain ⟨hp1, hp2, hp3, hp4⟩ := id htp
    have hfo := hf4 d hD
    have hdo := hp3 d hD
    unfold lookS at hr
    rw [hD] at hr
    dsimp only at hr
    show G E M 0 0 [(0, .ref a), (1, .ref o), (2, .ref te), (3, .ref ck)] [] 0
    refine G_aload_n hC 0 rfl rfl d_Ch_lookUp_0 ?_
    refine G_xV (rest := []) hC hR (c_Ch_countOne h_obj_a (by omega)) cv_Ch_151 ⟨_, _, h_obj_a⟩ (by decide) (by omega) (by omega) rfl rfl (Nat.le_of_ble_eq_true rfl) d_Ch_lookUp_1 (fun r_96 M_94 p_95 => ?_)
    obtain ⟨rfl, h_97, fr_98⟩ := p_95
    show G E M_94 (0 + 0) (0 + 0) [(0, .ref a), (1, .ref o), (2, .ref te), (3, .ref ck)] [vI (b2i (decide (cn + 1 ≤ 10)))] 4
    refine G_if_ne hC 10 (by have := b2i_rng (decide (cn + 1 ≤ 10)); omega) (by decide) d_Ch_lookUp_4 (fun c_99 => ?_) (fun c_99 => ?_)
    · have c_99 := b2i_ne0.mp c_99
      have c_99 := of_decide_eq_true c_99
      refine G_aload_n hC 0 rfl rfl d_Ch_lookUp_10 ?_
      refine G_get hC fl_Ch_35 h_97 rfl d_Ch_lookUp_11 ?_
      refine G_iconst (i := 0) hC d_Ch_lookUp_14 ?_
      have h_100 := h_B_tg.fr fr_98 (by decide) (by decide)
      refine G_xV (rest := []) hC hR (c_By_cut h_100 (by omega)) cv_Ch_49 h_100.obj (by decide) (by omega) (by omega) rfl rfl (Nat.le_of_ble_eq_true rfl) d_Ch_lookUp_15 (fun r_103 M_101 p_102 => ?_)
      obtain ⟨rfl, h_104, fr_105⟩ := p_102
      show G E M_101 (0 + 0 + 0) (0 + 0 + 0) [(0, .ref a), (1, .ref o), (2, .ref te), (3, .ref ck)] [] 18
      have h_106 : IsB (eD E) M_101 tg 21 61 (61, []) := by have e9 := cut0 bt; rw [hbt] at e9; rw [← e9]; exact h_104
      rw [if_neg (show ¬ 10 < cn + 1 by omega)] at hr
      refine G_aload_n hC 2 rfl rfl d_Ch_lookUp_18 ?_
      have h_107 := fr_98.at h_obj_te (by simp only [List.mem_cons, List.not_mem_nil, or_false, not_or, not_false_eq_true]; try omega)
      have h_108 := fr_105.at h_107 (by simp only [List.mem_cons, List.not_mem_nil, or_false, not_or, not_false_eq_true]; try omega)
      refine G_pV (rest := []) hC hR (c_Te_from h_108) cv_Ch_137 ⟨_, _, h_108⟩ (by decide) (by omega) (by omega) rfl rfl (Nat.le_of_ble_eq_true rfl) d_Ch_lookUp_19 ?_
      refine G_aload_n hC 2 rfl rfl d_Ch_lookUp_22 ?_
      refine G_pV (rest := [vI f0]) hC hR (c_Te_to h_108) cv_Ch_140 ⟨_, _, h_108⟩ (by decide) (by omega) (by omega) rfl rfl (Nat.le_of_ble_eq_true rfl) d_Ch_lookUp_23 ?_
      refine G_icmp_ge hC 53 (by omega) (by omega) (by decide) d_Ch_lookUp_26 (fun c_109 => ?_) (fun c_109 => ?_)
      · exact (show False from by omega).elim
      · refine G_aload_n hC 0 rfl rfl d_Ch_lookUp_29 ?_
        have h_110 := fr_105.at h_97 (by simp only [List.mem_cons, List.not_mem_nil, or_false, not_or, not_false_eq_true]; try omega)
        refine G_get hC fl_Ch_19 h_110 rfl d_Ch_lookUp_30 ?_
        refine G_aload_n hC 1 rfl rfl d_Ch_lookUp_33 ?_
        refine G_aload_n hC 2 rfl rfl d_Ch_lookUp_34 ?_
        refine G_pV (rest := [.ref o, .ref ma]) hC hR (c_Te_from h_108) cv_Ch_137 ⟨_, _, h_108⟩ (by decide) (by omega) (by omega) rfl rfl (Nat.le_of_ble_eq_true rfl) d_Ch_lookUp_35 ?_
        refine G_aload_n hC 2 rfl rfl d_Ch_lookUp_38 ?_
        refine G_pV (rest := [vI f0, .ref o, .ref ma]) hC hR (c_Te_to h_108) cv_Ch_140 ⟨_, _, h_108⟩ (by decide) (by omega) (by omega) rfl rfl (Nat.le_of_ble_eq_true rfl) d_Ch_lookUp_39 ?_
        refine G_aload_n hC 3 rfl rfl d_Ch_lookUp_42 ?_
        refine G_aload_n hC 0 rfl rfl d_Ch_lookUp_43 ?_
        refine G_get hC fl_Ch_35 h_110 rfl d_Ch_lookUp_44 ?_
        have htg : wrL 61 sd bc.2 b.2 (o0) (f0) ((61 : Nat), ([] : List Int)) = (61, tgS sd bc.2 b.2 d) := by rw [show d = (f0, o0) from Prod.ext (by omega) (by omega)]; exact tg_row sd bc.2 b.2 _ _
        have hpz : psi 61 (wrL 61 sd bc.2 b.2 (o0) (f0) ((61 : Nat), ([] : List Int))) = psi 61 ((61 : Nat), ([] : List Int)) := by rw [htg]; rfl
        have h_111 := h_Ma_ma.fr fr_98 (by decide) (by decide)
        have h_112 := h_111.fr fr_105 (by simp only [List.mem_cons, List.not_mem_nil, or_false, not_or, not_false_eq_true]; try omega) (by simp only [List.mem_cons, List.not_mem_nil, or_false, not_or, not_false_eq_true]; try omega)
        have h_113 := h_Se_se.fr fr_98 (by intro u hu; simp only [List.mem_cons, List.not_mem_nil, or_false] at hu <;> omega)
        have h_114 := h_113.fr fr_105 (by intro u hu; simp only [List.mem_cons, List.not_mem_nil, or_false] at hu <;> omega)
        have h_115 := h_B_o.fr fr_98 (by simp only [List.mem_cons, List.not_mem_nil, or_false, not_or, not_false_eq_true]; try omega) (by simp only [List.mem_cons, List.not_mem_nil, or_false, not_or, not_false_eq_true]; try omega)
        have h_116 := h_115.fr fr_105 (by simp only [List.mem_cons, List.not_mem_nil, or_false, not_or, not_false_eq_true]; try omega) (by simp only [List.mem_cons, List.not_mem_nil, or_false, not_or, not_false_eq_true]; try omega)
        have h_117 := h_B_ck.fr fr_98 (by simp only [List.mem_cons, List.not_mem_nil, or_false, not_or, not_false_eq_true]; try omega) (by simp only [List.mem_cons, List.not_mem_nil, or_false, not_or, not_false_eq_true]; try omega)
        have h_118 := h_117.fr fr_105 (by simp only [List.mem_cons, List.not_mem_nil, or_false, not_or, not_false_eq_true]; try omega) (by simp only [List.mem_cons, List.not_mem_nil, or_false, not_or, not_false_eq_true]; try omega)
        refine G_xV (rest := []) hC hR (c_Ma_write h_112 h_114 h_116 h_118 h_106 (by omega) (by omega) (by omega) (by omega) (by omega) rfl) cv_Ch_154 h_112.obj (by decide) (by omega) (by omega) rfl rfl (Nat.le_of_ble_eq_true rfl) d_Ch_lookUp_47 (fun r_121 M_119 p_120 => ?_)
        obtain ⟨rfl, h_122, h_123, fr_124⟩ := p_120
        show G E M_119 (0 + 0 + 0 + (psi 61 (wrL 61 sd bc.2 b.2 o0 f0 ((61 : Nat), ([] : List Int))) - psi 61 ((61 : Nat), ([] : List Int)))) (0 + 0 + 0 + (psi 61 (wrL 61 sd bc.2 b.2 o0 f0 ((61 : Nat), ([] : List Int))) - psi 61 ((61 : Nat), ([] : List Int)))) [(0, .ref a), (1, .ref o), (2, .ref te), (3, .ref ck)] [] 50
        have g_125 := wrL_gr (lim := 61) (s := sd) (chk := bc.2) (xs := b.2) (to := o0) _ f0 ((61 : Nat), ([] : List Int)) (Nat.lt_succ_self _) ⟨h_106.len.1, h_106.len.2.1⟩
        refine G_goto hC 66 (by decide) d_Ch_lookUp_50 ?_
        have h_126 : IsB (eD E) M_119 tg 21 61 (61, tgS sd bc.2 b.2 d) := by rw [← htg]; exact h_122
        have hRes : ∀ (x : Nat × List Int), x = x := fun _ => rfl
        refine G_aload_n hC 0 rfl rfl d_Ch_lookUp_66 ?_
        have h_127 := fr_124.at h_110 (by simp only [List.mem_cons, List.not_mem_nil, or_false, not_or, not_false_eq_true]; try omega)
        refine G_get hC fl_Ch_9 h_127 rfl d_Ch_lookUp_67 ?_
        refine G_iconst (i := 3) hC d_Ch_lookUp_70 ?_
        refine G_aload_n hC 0 rfl rfl d_Ch_lookUp_71 ?_
        refine G_get hC fl_Ch_35 h_127 rfl d_Ch_lookUp_72 ?_
        have h_128 := h_Dir_di.fr fr_98 (by intro u hu; simp only [List.mem_cons, List.not_mem_nil, or_false] at hu <;> omega)
        have h_129 := h_128.fr fr_105 (by intro u hu; simp only [List.mem_cons, List.not_mem_nil, or_false] at hu <;> omega)
        have h_130 := h_129.fr fr_124 (by intro u hu; simp only [List.mem_cons, List.not_mem_nil, or_false] at hu <;> omega)
        refine G_pV (rest := []) hC hR (c_Di_has h_130 h_126 (by omega) rfl) cv_Ch_66 h_130.obj (by decide) (by omega) (by omega) rfl rfl (Nat.le_of_ble_eq_true rfl) d_Ch_lookUp_75 ?_
        refine G_if_eq hC 83 (by have := b2i_rng (hasD es 3 ((61 : Nat), tgS sd bc.2 b.2 d).2); omega) (by decide) d_Ch_lookUp_78 (fun c_131 => ?_) (fun c_131 => ?_)
        · have c_131 := b2i_eq0.mp c_131
          rw [if_neg (show ¬ hasD es 3 (tgS sd bc.2 b.2 d) = true from fun z => by have z2 := c_131.symm.trans z; cases z2)] at hr
          refine G_aload_n hC 0 rfl rfl d_Ch_lookUp_83 ?_
          refine G_get hC fl_Ch_9 h_127 rfl d_Ch_lookUp_84 ?_
          refine G_aload_n hC 2 rfl rfl d_Ch_lookUp_87 ?_
          have h_132 := fr_124.at h_108 (by simp only [List.mem_cons, List.not_mem_nil, or_false, not_or, not_false_eq_true]; try omega)
          refine G_pV (rest := [.ref di]) hC hR (c_Te_kind h_132) cv_Ch_121 ⟨_, _, h_132⟩ (by decide) (by omega) (by omega) rfl rfl (Nat.le_of_ble_eq_true rfl) d_Ch_lookUp_88 ?_
          refine G_iconst (i := 3) hC d_Ch_lookUp_91 ?_
          refine G_icmp_ne hC 99 (by omega) (by decide) (by decide) d_Ch_lookUp_92 (fun c_133 => ?_) (fun c_133 => ?_)
          · rw [if_neg (show ¬ tm.1 = 3 by omega), if_neg (show ¬ tm.1 = 3 by omega)] at hr
            refine G_iconst (i := 1) hC d_Ch_lookUp_99 ?_
            refine G_aload_n hC 0 rfl rfl d_Ch_lookUp_100 ?_
            refine G_get hC fl_Ch_35 h_127 rfl d_Ch_lookUp_101 ?_
            refine G_pV (rest := []) hC hR (c_Di_has h_130 h_126 (by omega) rfl) cv_Ch_66 h_130.obj (by decide) (by omega) (by omega) rfl rfl (Nat.le_of_ble_eq_true rfl) d_Ch_lookUp_104 ?_
            refine G_if_ne hC 135 (by have := b2i_rng (hasD es 1 ((61 : Nat), tgS sd bc.2 b.2 d).2); omega) (by decide) d_Ch_lookUp_107 (fun c_134 => ?_) (fun c_134 => ?_)
            · have c_134 := b2i_ne0.mp c_134
              rw [if_neg (show ¬ hasD es 1 (tgS sd bc.2 b.2 d) = false from fun z => by have z2 := c_134.symm.trans z; cases z2)] at hr
              refine G_aload_n hC 2 rfl rfl d_Ch_lookUp_135 ?_
              refine G_pV (rest := []) hC hR (c_Te_kind h_132) cv_Ch_121 ⟨_, _, h_132⟩ (by decide) (by omega) (by omega) rfl rfl (Nat.le_of_ble_eq_true rfl) d_Ch_lookUp_136 ?_
              refine G_iconst (i := 3) hC d_Ch_lookUp_139 ?_
              refine G_icmp_ne hC 152 (by omega) (by decide) (by decide) d_Ch_lookUp_140 (fun c_135 => ?_) (fun c_135 => ?_)
              · refine G_aload_n hC 2 rfl rfl d_Ch_lookUp_152 ?_
                refine G_pV (rest := []) hC hR (c_Te_kind h_132) cv_Ch_121 ⟨_, _, h_132⟩ (by decide) (by omega) (by omega) rfl rfl (Nat.le_of_ble_eq_true rfl) d_Ch_lookUp_153 ?_
                refine G_iconst (i := 5) hC d_Ch_lookUp_156 ?_
                refine G_icmp_eq hC 185 (by omega) (by decide) (by decide) d_Ch_lookUp_157 (fun c_136 => ?_) (fun c_136 => ?_)
                · refine G_iconst (i := 1) hC d_Ch_lookUp_185 ?_
                  refine G_goto hC 190 (by decide) d_Ch_lookUp_186 ?_
                  refine G_istore (lv' := [(4, vI 1), (0, .ref a), (1, .ref o), (2, .ref te), (3, .ref ck)]) hC (by rw [hN]; decide) rfl d_Ch_lookUp_190 ?_
                  refine G_iload hC 0 rfl d_Ch_lookUp_192 ?_
                  refine G_if_eq hC 202 (by decide) (by decide) d_Ch_lookUp_194 (fun c_137 => ?_) (fun c_137 => ?_)
                  · exact (show False from by omega).elim
                  · refine G_bipush (j := (-2)) hC (by decide +kernel) d_Ch_lookUp_197 ?_
                    refine G_goto hC 203 (by decide) d_Ch_lookUp_199 ?_
                    have hP : R = ((-2), cn + 1, vo) := by rw [if_pos (show tm.1 = 5 ∨ reaD es (tgS sd bc.2 b.2 d) sd.2.2 tm.2.1 = true from (Or.inl (by omega)))] at hr; exact hr.symm
                    exact G_iretX hC hQ (by omega) (by omega) d_Ch_lookUp_203 ⟨_, by rw [hP], by rw [hP]; exact h_127, h_126, h_123, rfl, (((fr_98.up (T := [18, 19, 21, 22]) (by simp)).tr' (T := [18, 19, 21, 22]) fr_105 (fun _ z => z) (by simp)).tr' (T := [18, 19, 21, 22]) fr_124 (fun _ z => z) (by simp))⟩
                · refine G_aload_n hC 0 rfl rfl d_Ch_lookUp_160 ?_
                  refine G_get hC fl_Ch_9 h_127 rfl d_Ch_lookUp_161 ?_
                  refine G_aload_n hC 0 rfl rfl d_Ch_lookUp_164 ?_
                  refine G_get hC fl_Ch_35 h_127 rfl d_Ch_lookUp_165 ?_
                  refine G_aload_n hC 0 rfl rfl d_Ch_lookUp_168 ?_
                  refine G_get hC fl_Ch_15 h_127 rfl d_Ch_lookUp_169 ?_
                  have h_138 := h_114.fr fr_124 (by intro u hu; simp only [List.mem_cons, List.not_mem_nil, or_false] at hu <;> omega)
                  refine G_pV (rest := [.ref tg, .ref di]) hC hR (c_Se_address h_138) cv_Ch_127 h_138.obj (by decide) (by omega) (by omega) rfl rfl (Nat.le_of_ble_eq_true rfl) d_Ch_lookUp_172 ?_
                  refine G_aload_n hC 2 rfl rfl d_Ch_lookUp_175 ?_
                  refine G_pV (rest := [.int sd.2.2, .ref tg, .ref di]) hC hR (c_Te_bits h_132) cv_Ch_130 ⟨_, _, h_132⟩ (by decide) (by omega) (by omega) rfl rfl (Nat.le_of_ble_eq_true rfl) d_Ch_lookUp_176 ?_
                  refine G_top (b := tm.2.1) (hf2 (by omega)) ?_
                  refine G_pV (rest := []) hC hR (c_Di_reaches h_130 h_126 (by omega) rfl) cv_Ch_166 h_130.obj (by decide) (by omega) (by omega) rfl rfl (Nat.le_of_ble_eq_true rfl) d_Ch_lookUp_179 ?_
                  refine G_if_eq hC 189 (by have := b2i_rng (reaD es ((61 : Nat), tgS sd bc.2 b.2 d).2 sd.2.2 tm.2.1); omega) (by decide) d_Ch_lookUp_182 (fun c_139 => ?_) (fun c_139 => ?_)
                  · have c_139 := b2i_eq0.mp c_139
                    refine G_iconst (i := 0) hC d_Ch_lookUp_189 ?_
                    refine G_istore (lv' := [(4, vI 0), (0, .ref a), (1, .ref o), (2, .ref te), (3, .ref ck)]) hC (by rw [hN]; decide) rfl d_Ch_lookUp_190 ?_
                    refine G_iload hC 0 rfl d_Ch_lookUp_192 ?_
                    refine G_if_eq hC 202 (by decide) (by decide) d_Ch_lookUp_194 (fun c_140 => ?_) (fun c_140 => ?_)
                    · refine G_iconst (i := (-1)) hC d_Ch_lookUp_202 ?_
                      have hP : R = ((-1), cn + 1, vo) := by rw [if_neg (show ¬ (tm.1 = 5 ∨ reaD es (tgS sd bc.2 b.2 d) sd.2.2 tm.2.1 = true) from fun z => by rcases z with z | z; omega; (have z2 := c_139.symm.trans z; cases z2))] at hr; exact hr.symm
                      exact G_iretX hC hQ (by omega) (by omega) d_Ch_lookUp_203 ⟨_, by rw [hP], by rw [hP]; exact h_127, h_126, h_123, rfl, (((fr_98.up (T := [18, 19, 21, 22]) (by simp)).tr' (T := [18, 19, 21, 22]) fr_105 (fun _ z => z) (by simp)).tr' (T := [18, 19, 21, 22]) fr_124 (fun _ z => z) (by simp))⟩
                    · exact (show False from by omega).elim
                  · have c_139 := b2i_ne0.mp c_139
                    refine G_iconst (i := 1) hC d_Ch_lookUp_185 ?_
                    refine G_goto hC 190 (by decide) d_Ch_lookUp_186 ?_
                    refine G_istore (lv' := [(4, vI 1), (0, .ref a), (1, .ref o), (2, .ref te), (3, .ref ck)]) hC (by rw [hN]; decide) rfl d_Ch_lookUp_190 ?_
                    refine G_iload hC 0 rfl d_Ch_lookUp_192 ?_
                    refine G_if_eq hC 202 (by decide) (by decide) d_Ch_lookUp_194 (fun c_141 => ?_) (fun c_141 => ?_)
                    · exact (show False from by omega).elim
                    · refine G_bipush (j := (-2)) hC (by decide +kernel) d_Ch_lookUp_197 ?_
                      refine G_goto hC 203 (by decide) d_Ch_lookUp_199 ?_
                      have hP : R = ((-2), cn + 1, vo) := by rw [if_pos (show tm.1 = 5 ∨ reaD es (tgS sd bc.2 b.2 d) sd.2.2 tm.2.1 = true from (Or.inr c_139))] at hr; exact hr.symm
                      exact G_iretX hC hQ (by omega) (by omega) d_Ch_lookUp_203 ⟨_, by rw [hP], by rw [hP]; exact h_127, h_126, h_123, rfl, (((fr_98.up (T := [18, 19, 21, 22]) (by simp)).tr' (T := [18, 19, 21, 22]) fr_105 (fun _ z => z) (by simp)).tr' (T := [18, 19, 21, 22]) fr_124 (fun _ z => z) (by simp))⟩
              · exact (show False from by omega).elim
            · have c_134 := b2i_eq0.mp c_134
              rw [if_pos (show hasD es 1 (tgS sd bc.2 b.2 d) = false from c_134)] at hr
              refine G_aload_n hC 0 rfl rfl d_Ch_lookUp_110 ?_
              refine G_dup hC rfl d_Ch_lookUp_111 ?_
              refine G_get hC fl_Ch_43 h_127 rfl d_Ch_lookUp_112 ?_
              refine G_iconst (i := 1) hC d_Ch_lookUp_115 ?_
              refine G_iadd hC d_Ch_lookUp_116 ?_
              refine G_putX (fs' := [.ref di, .ref se, .ref ma, .ref lv, .ref tg, vI (cn + 1), vI (vo + 1)]) hC fl_Ch_43 ft_Ch fw_Ch_6 h_127 rfl rfl (Nat.le_of_ble_eq_true rfl) rfl d_Ch_lookUp_117 (fun M_142 h_143 fr_144 => ?_)
              refine G_aload_n hC 0 rfl rfl d_Ch_lookUp_120 ?_
              refine G_get hC fl_Ch_43 h_143 rfl d_Ch_lookUp_121 ?_
              refine G_iconst (i := 2) hC d_Ch_lookUp_124 ?_
              refine G_icmp_le hC 133 (by omega) (by decide) (by decide) d_Ch_lookUp_125 (fun c_145 => ?_) (fun c_145 => ?_)
              · refine G_iconst (i := (-1)) hC d_Ch_lookUp_133 ?_
                have h_146 := h_126.fr fr_144 (by decide) (by decide)
                have h_147 := h_123.fr fr_144 (by decide) (by decide)
                have hP : R = ((-1), cn + 1, vo + 1) := by rw [if_neg (show ¬ 2 < vo + 1 by omega)] at hr; exact hr.symm
                exact G_iretX hC hQ (by omega) (by omega) d_Ch_lookUp_134 ⟨_, by rw [hP], by rw [hP]; exact h_143, h_146, h_147, rfl, ((((fr_98.up (T := [18, 19, 21, 22]) (by simp)).tr' (T := [18, 19, 21, 22]) fr_105 (fun _ z => z) (by simp)).tr' (T := [18, 19, 21, 22]) fr_124 (fun _ z => z) (by simp)).tr' (T := [18, 19, 21, 22]) fr_144 (fun _ z => z) (by simp))⟩
              · refine G_bipush (j := 6) hC (by decide +kernel) d_Ch_lookUp_128 ?_
                refine G_goto hC 134 (by decide) d_Ch_lookUp_130 ?_
                have h_148 := h_126.fr fr_144 (by decide) (by decide)
                have h_149 := h_123.fr fr_144 (by decide) (by decide)
                have hP : R = (6, cn + 1, vo + 1) := by rw [if_pos (show 2 < vo + 1 by omega)] at hr; exact hr.symm
                exact G_iretX hC hQ (by omega) (by omega) d_Ch_lookUp_134 ⟨_, by rw [hP], by rw [hP]; exact h_143, h_148, h_149, rfl, ((((fr_98.up (T := [18, 19, 21, 22]) (by simp)).tr' (T := [18, 19, 21, 22]) fr_105 (fun _ z => z) (by simp)).tr' (T := [18, 19, 21, 22]) fr_124 (fun _ z => z) (by simp)).tr' (T := [18, 19, 21, 22]) fr_144 (fun _ z => z) (by simp))⟩
          · rw [if_pos (show tm.1 = 3 by omega), if_pos (show tm.1 = 3 by omega)] at hr
            refine G_iconst (i := 2) hC d_Ch_lookUp_95 ?_
            refine G_goto hC 100 (by decide) d_Ch_lookUp_96 ?_
            refine G_aload_n hC 0 rfl rfl d_Ch_lookUp_100 ?_
            refine G_get hC fl_Ch_35 h_127 rfl d_Ch_lookUp_101 ?_
            refine G_pV (rest := []) hC hR (c_Di_has h_130 h_126 (by omega) rfl) cv_Ch_66 h_130.obj (by decide) (by omega) (by omega) rfl rfl (Nat.le_of_ble_eq_true rfl) d_Ch_lookUp_104 ?_
            refine G_if_ne hC 135 (by have := b2i_rng (hasD es 2 ((61 : Nat), tgS sd bc.2 b.2 d).2); omega) (by decide) d_Ch_lookUp_107 (fun c_150 => ?_) (fun c_150 => ?_)
            · have c_150 := b2i_ne0.mp c_150
              rw [if_neg (show ¬ hasD es 2 (tgS sd bc.2 b.2 d) = false from fun z => by have z2 := c_150.symm.trans z; cases z2)] at hr
              refine G_aload_n hC 2 rfl rfl d_Ch_lookUp_135 ?_
              refine G_pV (rest := []) hC hR (c_Te_kind h_132) cv_Ch_121 ⟨_, _, h_132⟩ (by decide) (by omega) (by omega) rfl rfl (Nat.le_of_ble_eq_true rfl) d_Ch_lookUp_136 ?_
              refine G_iconst (i := 3) hC d_Ch_lookUp_139 ?_
              refine G_icmp_ne hC 152 (by omega) (by decide) (by decide) d_Ch_lookUp_140 (fun c_151 => ?_) (fun c_151 => ?_)
              · exact (show False from by omega).elim
              · refine G_aload_n hC 0 rfl rfl d_Ch_lookUp_143 ?_
                refine G_aload_n hC 2 rfl rfl d_Ch_lookUp_144 ?_
                refine G_pV (rest := [.ref a]) hC hR (c_Te_bits h_132) cv_Ch_130 ⟨_, _, h_132⟩ (by decide) (by omega) (by omega) rfl rfl (Nat.le_of_ble_eq_true rfl) d_Ch_lookUp_145 ?_
                refine G_top (b := tm.2.1) (hf2 (by omega)) ?_
                have h_152 := h_114.fr fr_124 (by intro u hu; simp only [List.mem_cons, List.not_mem_nil, or_false] at hu <;> omega)
                refine G_pV (rest := []) hC hR (c_Ch_tryExchanges h_127 h_130 h_152 h_126 (by omega) rfl) cv_Ch_163 ⟨_, _, h_127⟩ (by decide) (by omega) (by omega) rfl rfl (Nat.le_of_ble_eq_true rfl) d_Ch_lookUp_148 ?_
                have hP : R = (excL es ((61 : Nat), tgS sd bc.2 b.2 d).2 sd.2.2 tm.2.1 es, cn + 1, vo) := hr.symm
                exact G_iretX hC hQ (by omega) (by omega) d_Ch_lookUp_151 ⟨_, by rw [hP], by rw [hP]; exact h_127, h_126, h_123, rfl, (((fr_98.up (T := [18, 19, 21, 22]) (by simp)).tr' (T := [18, 19, 21, 22]) fr_105 (fun _ z => z) (by simp)).tr' (T := [18, 19, 21, 22]) fr_124 (fun _ z => z) (by simp))⟩
            · have c_150 := b2i_eq0.mp c_150
              rw [if_pos (show hasD es 2 (tgS sd bc.2 b.2 d) = false from c_150)] at hr
              refine G_aload_n hC 0 rfl rfl d_Ch_lookUp_110 ?_
              refine G_dup hC rfl d_Ch_lookUp_111 ?_
              refine G_get hC fl_Ch_43 h_127 rfl d_Ch_lookUp_112 ?_
              refine G_iconst (i := 1) hC d_Ch_lookUp_115 ?_
              refine G_iadd hC d_Ch_lookUp_116 ?_
              refine G_putX (fs' := [.ref di, .ref se, .ref ma, .ref lv, .ref tg, vI (cn + 1), vI (vo + 1)]) hC fl_Ch_43 ft_Ch fw_Ch_6 h_127 rfl rfl (Nat.le_of_ble_eq_true rfl) rfl d_Ch_lookUp_117 (fun M_153 h_154 fr_155 => ?_)
              refine G_aload_n hC 0 rfl rfl d_Ch_lookUp_120 ?_
              refine G_get hC fl_Ch_43 h_154 rfl d_Ch_lookUp_121 ?_
              refine G_iconst (i := 2) hC d_Ch_lookUp_124 ?_
              refine G_icmp_le hC 133 (by omega) (by decide) (by decide) d_Ch_lookUp_125 (fun c_156 => ?_) (fun c_156 => ?_)
              · refine G_iconst (i := (-1)) hC d_Ch_lookUp_133 ?_
                have h_157 := h_126.fr fr_155 (by decide) (by decide)
                have h_158 := h_123.fr fr_155 (by decide) (by decide)
                have hP : R = ((-1), cn + 1, vo + 1) := by rw [if_neg (show ¬ 2 < vo + 1 by omega)] at hr; exact hr.symm
                exact G_iretX hC hQ (by omega) (by omega) d_Ch_lookUp_134 ⟨_, by rw [hP], by rw [hP]; exact h_154, h_157, h_158, rfl, ((((fr_98.up (T := [18, 19, 21, 22]) (by simp)).tr' (T := [18, 19, 21, 22]) fr_105 (fun _ z => z) (by simp)).tr' (T := [18, 19, 21, 22]) fr_124 (fun _ z => z) (by simp)).tr' (T := [18, 19, 21, 22]) fr_155 (fun _ z => z) (by simp))⟩
              · refine G_bipush (j := 6) hC (by decide +kernel) d_Ch_lookUp_128 ?_
                refine G_goto hC 134 (by decide) d_Ch_lookUp_130 ?_
                have h_159 := h_126.fr fr_155 (by decide) (by decide)
                have h_160 := h_123.fr fr_155 (by decide) (by decide)
                have hP : R = (6, cn + 1, vo + 1) := by rw [if_pos (show 2 < vo + 1 by omega)] at hr; exact hr.symm
                exact G_iretX hC hQ (by omega) (by omega) d_Ch_lookUp_134 ⟨_, by rw [hP], by rw [hP]; exact h_154, h_159, h_160, rfl, ((((fr_98.up (T := [18, 19, 21, 22]) (by simp)).tr' (T := [18, 19, 21, 22]) fr_105 (fun _ z => z) (by simp)).tr' (T := [18, 19, 21, 22]) fr_124 (fun _ z => z) (by simp)).tr' (T := [18, 19, 21, 22]) fr_155 (fun _ z => z) (by simp))⟩
        · have c_131 := b2i_ne0.mp c_131
          refine G_iconst (i := 5) hC d_Ch_lookUp_81 ?_
          have hP : R = (5, cn + 1, vo) := by rw [if_pos c_131] at hr; exact hr.symm
          exact G_iretX hC hQ (by omega) (by omega) d_Ch_lookUp_82 ⟨_, by rw [hP], by rw [hP]; exact h_127, h_126, h_123, rfl, (((fr_98.up (T := [18, 19, 21, 22]) (by simp)).tr' (T := [18, 19, 21, 22]) fr_105 (fun _ z => z) (by simp)).tr' (T := [18, 19, 21, 22]) fr_124 (fun _ z => z) (by simp))⟩
    · have c_99 := b2i_eq0.mp c_99
      have c_99 := of_decide_eq_false c_99
      refine G_bipush (j := 6) hC (by decide +kernel) d_Ch_lookUp_7 ?_
      have h_161 := h_B_tg.fr fr_98 (by decide) (by decide)
      have h_162 := h_Ma_ma.fr fr_98 (by decide) (by decide)
      have hP : R = (6, cn + 1, vo) := by rw [if_pos (show 10 < cn + 1 by omega)] at hr; exact hr.symm
      exact G_iretX hC hQ (by omega) (by omega) d_Ch_lookUp_9 ⟨_, by rw [hP], by rw [hP]; exact h_97, h_161, h_162, hbt, (fr_98.up (T := [18, 19, 21, 22]) (by simp))⟩
