set_option maxHeartbeats 4000000 in
set_option maxRecDepth 100000 in
theorem c_Str_coder {l : Launch} {D : Dg} {b0 : Nat} {M : Mp} {i : Nat} (hi : i < nTX) : OkP l D b0 1 y_Str_coder b_Str_coder 1 (some .byte) M [.ref (D.2.2.1 i)] (vI 0) := by
  refine Ok_of rfl (Nat.le_of_ble_eq_true rfl) (fun E hC hQ hl hD hB hN hR => ?_)
  subst hl hD hB
  show G E M 0 0 [(0, .ref ((eD E).2.2.1 i))] [] 0
  refine G_getCS hC ls_Str_38 d_Str_coder_0 ?_
  refine G_if_eq hC 13 (by decide) (by decide) d_Str_coder_3 (fun c_1 => ?_) (fun c_1 => ?_)
  · exact absurd c_1 (by decide)
  · refine G_aload_n hC 0 rfl rfl d_Str_coder_6 ?_
    refine G_getTC hC hi ls_Str_15 d_Str_coder_7 ?_
    refine G_goto hC 14 (by decide) d_Str_coder_10 ?_
    exact G_nretP hC hQ d_Str_coder_14 (by decide +kernel) rfl

set_option maxHeartbeats 4000000 in
set_option maxRecDepth 100000 in
theorem c_Str_isLatin1 {l : Launch} {D : Dg} {b0 : Nat} {M : Mp} {i : Nat} (hi : i < nTX) : OkP l D b0 1 y_Str_isLatin1 b_Str_isLatin1 1 (some .boolean) M [.ref (D.2.2.1 i)] (vI (b2i true)) := by
  refine Ok_of rfl (Nat.le_of_ble_eq_true rfl) (fun E hC hQ hl hD hB hN hR => ?_)
  subst hl hD hB
  show G E M 0 0 [(0, .ref ((eD E).2.2.1 i))] [] 0
  refine G_getCS hC ls_Str_38 d_Str_isLatin1_0 ?_
  refine G_if_eq hC 17 (by decide) (by decide) d_Str_isLatin1_3 (fun c_1 => ?_) (fun c_1 => ?_)
  · exact absurd c_1 (by decide)
  · refine G_aload_n hC 0 rfl rfl d_Str_isLatin1_6 ?_
    refine G_getTC hC hi ls_Str_15 d_Str_isLatin1_7 ?_
    refine G_if_ne hC 17 (by decide) (by decide) d_Str_isLatin1_10 (fun c_2 => ?_) (fun c_2 => ?_)
    · exact absurd c_2 (by decide)
    · refine G_iconst (i := 1) hC d_Str_isLatin1_13 ?_
      refine G_goto hC 18 (by decide) d_Str_isLatin1_14 ?_
      exact G_zretP hC hQ d_Str_isLatin1_18 rfl

set_option maxHeartbeats 4000000 in
set_option maxRecDepth 100000 in
theorem c_Str_length {l : Launch} {D : Dg} {b0 : Nat} {M : Mp} {i : Nat} (hi : i < nTX) : OkP l D b0 2 y_Str_length b_Str_length 1 (some .int) M [.ref (D.2.2.1 i)] (vI ((wrd i).length : Int)) := by
  refine Ok_of rfl (Nat.le_of_ble_eq_true rfl) (fun E hC hQ hl hD hB hN hR => ?_)
  subst hl hD hB
  show G E M 0 0 [(0, .ref ((eD E).2.2.1 i))] [] 0
  refine G_aload_n hC 0 rfl rfl d_Str_length_0 ?_
  refine G_getTV hC hi ls_Str_9 d_Str_length_1 ?_
  refine G_tlen hC hi d_Str_length_4 ?_
  refine G_aload_n hC 0 rfl rfl d_Str_length_5 ?_
  refine G_pT (rest := [vI ((wrd i).length : Int)]) hC hR (c_Str_coder hi) ct_Str_335 hi (by decide) (by omega) (by omega) rfl rfl (Nat.le_of_ble_eq_true rfl) d_Str_length_6 ?_
  refine G_ishr0 hC d_Str_length_9 ?_
  exact G_iretP hC hQ d_Str_length_10 rfl

set_option maxHeartbeats 4000000 in
set_option maxRecDepth 100000 in
theorem c_Pre_checkIndex {l : Launch} {D : Dg} {b0 : Nat} {M : Mp} {j : Int} {n : Int} {v : Value} (hj : 0 ≤ j ∧ j < n ∧ n ≤ 100000) (hv : v = .null ∨ ∃ a, v = .ref a) : OkP l D b0 1 y_Pre_checkIndex b_Pre_checkIndex 3 (some .int) M [vI j, vI n, v] (vI j) := by
  rcases hv with rfl | ⟨a9, rfl⟩
  · refine Ok_of rfl (Nat.le_of_ble_eq_true rfl) (fun E hC hQ hl hD hB hN hR => ?_)
    subst hl hD hB
    show G E M 0 0 [(0, vI j), (1, vI n), (2, _)] [] 0
    refine G_iload_n hC 0 rfl rfl d_Pre_checkIndex_0 ?_
    refine G_if_lt hC 9 (by omega) (by decide) d_Pre_checkIndex_1 (fun c_1 => ?_) (fun c_1 => ?_)
    · exact (show False from by omega).elim
    · refine G_iload_n hC 0 rfl rfl d_Pre_checkIndex_4 ?_
      refine G_iload_n hC 1 rfl rfl d_Pre_checkIndex_5 ?_
      refine G_icmp_lt hC 16 (by omega) (by omega) (by decide) d_Pre_checkIndex_6 (fun c_2 => ?_) (fun c_2 => ?_)
      · refine G_iload_n hC 0 rfl rfl d_Pre_checkIndex_16 ?_
        exact G_iretP hC hQ d_Pre_checkIndex_17 rfl
      · exact (show False from by omega).elim
  · refine Ok_of rfl (Nat.le_of_ble_eq_true rfl) (fun E hC hQ hl hD hB hN hR => ?_)
    subst hl hD hB
    show G E M 0 0 [(0, vI j), (1, vI n), (2, _)] [] 0
    refine G_iload_n hC 0 rfl rfl d_Pre_checkIndex_0 ?_
    refine G_if_lt hC 9 (by omega) (by decide) d_Pre_checkIndex_1 (fun c_3 => ?_) (fun c_3 => ?_)
    · exact (show False from by omega).elim
    · refine G_iload_n hC 0 rfl rfl d_Pre_checkIndex_4 ?_
      refine G_iload_n hC 1 rfl rfl d_Pre_checkIndex_5 ?_
      refine G_icmp_lt hC 16 (by omega) (by omega) (by decide) d_Pre_checkIndex_6 (fun c_4 => ?_) (fun c_4 => ?_)
      · refine G_iload_n hC 0 rfl rfl d_Pre_checkIndex_16 ?_
        exact G_iretP hC hQ d_Pre_checkIndex_17 rfl
      · exact (show False from by omega).elim

set_option maxHeartbeats 4000000 in
set_option maxRecDepth 100000 in
theorem c_Str_checkIndex {l : Launch} {D : Dg} {b0 : Nat} {M : Mp} {j : Int} {n : Int} (hj : 0 ≤ j ∧ j < n ∧ n ≤ 100000) : OkV l D b0 2 y_Str_checkIndex b_Str_checkIndex 2 none M [vI j, vI n] := by
  refine Ok_of rfl (Nat.le_of_ble_eq_true rfl) (fun E hC hQ hl hD hB hN hR => ?_)
  subst hl hD hB
  show G E M 0 0 [(0, vI j), (1, vI n)] [] 0
  refine G_iload_n hC 0 rfl rfl d_Str_checkIndex_0 ?_
  refine G_iload_n hC 1 rfl rfl d_Str_checkIndex_1 ?_
  refine G_getSF hC ls_Str_1053 d_Str_checkIndex_2 (fun v_1 hv_2 => ?_)
  refine G_pS (rest := []) hC hR (c_Pre_checkIndex (by omega) hv_2) cs_Str_1059 (by decide) (by omega) (by omega) rfl rfl (Nat.le_of_ble_eq_true rfl) d_Str_checkIndex_5 ?_
  refine G_pop hC rfl d_Str_checkIndex_8 ?_
  exact G_vretP hC hQ d_Str_checkIndex_9

set_option maxHeartbeats 4000000 in
set_option maxRecDepth 100000 in
theorem c_SL_charAt {l : Launch} {D : Dg} {b0 : Nat} {M : Mp} {i : Nat} {j : Int} (hi : i < nTX) (hj : 0 ≤ j ∧ j < (wrd i).length) : OkP l D b0 3 y_SL_charAt b_SL_charAt 2 (some .char) M [.ref (D.2.2.2 i), vI j] (vI ((wrd i).getD j.toNat 0)) := by
  refine Ok_of rfl (Nat.le_of_ble_eq_true rfl) (fun E hC hQ hl hD hB hN hR => ?_)
  subst hl hD hB
  have h9 := wrd_all i hi
  have h8 := h9.2.2 j.toNat (by omega)
  show G E M 0 0 [(0, .ref ((eD E).2.2.2 i)), (1, vI j)] [] 0
  refine G_iload_n hC 1 rfl rfl d_SL_charAt_0 ?_
  refine G_aload_n hC 0 rfl rfl d_SL_charAt_1 ?_
  refine G_tlen hC hi d_SL_charAt_2 ?_
  refine G_vS (rest := []) hC hR (c_Str_checkIndex (by omega)) cs_SL_9 (by decide) (by omega) (by omega) rfl rfl (Nat.le_of_ble_eq_true rfl) d_SL_charAt_3 ?_
  refine G_aload_n hC 0 rfl rfl d_SL_charAt_6 ?_
  refine G_iload_n hC 1 rfl rfl d_SL_charAt_7 ?_
  refine G_tbald hC hi (by omega) d_SL_charAt_8 ?_
  refine G_sipush (j := 255) hC (by decide +kernel) d_SL_charAt_9 ?_
  refine G_iand255 hC (by omega) d_SL_charAt_12 ?_
  refine G_top (b := (wrd i).getD j.toNat 0) (by omega) ?_
  refine G_i2cR hC (by omega) d_SL_charAt_13 ?_
  exact G_nretP hC hQ d_SL_charAt_14 (nar_c (by omega)) rfl

set_option maxHeartbeats 4000000 in
set_option maxRecDepth 100000 in
theorem c_Str_charAt {l : Launch} {D : Dg} {b0 : Nat} {M : Mp} {i : Nat} {j : Int} (hi : i < nTX) (hj : 0 ≤ j ∧ j < (wrd i).length) : OkP l D b0 4 y_Str_charAt b_Str_charAt 2 (some .char) M [.ref (D.2.2.1 i), vI j] (vI ((wrd i).getD j.toNat 0)) := by
  refine Ok_of rfl (Nat.le_of_ble_eq_true rfl) (fun E hC hQ hl hD hB hN hR => ?_)
  subst hl hD hB
  have h9 := wrd_all i hi
  have h8 := h9.2.2 j.toNat (by omega)
  show G E M 0 0 [(0, .ref ((eD E).2.2.1 i)), (1, vI j)] [] 0
  refine G_aload_n hC 0 rfl rfl d_Str_charAt_0 ?_
  refine G_pT (rest := []) hC hR (c_Str_isLatin1 hi) ct_Str_492 hi (by decide) (by omega) (by omega) rfl rfl (Nat.le_of_ble_eq_true rfl) d_Str_charAt_1 ?_
  refine G_if_eq hC 16 (by have := b2i_rng true; omega) (by decide) d_Str_charAt_4 (fun c_1 => ?_) (fun c_1 => ?_)
  · have c_1 := b2i_eq0.mp c_1
    exact absurd c_1 (by decide)
  · have c_1 := b2i_ne0.mp c_1
    refine G_aload_n hC 0 rfl rfl d_Str_charAt_7 ?_
    refine G_getTV hC hi ls_Str_9 d_Str_charAt_8 ?_
    refine G_iload_n hC 1 rfl rfl d_Str_charAt_11 ?_
    refine G_pS (rest := []) hC hR (c_SL_charAt hi (by omega)) cs_Str_495 (by decide) (by omega) (by omega) rfl rfl (Nat.le_of_ble_eq_true rfl) d_Str_charAt_12 ?_
    exact G_nretP hC hQ d_Str_charAt_15 (nar_c (by omega)) rfl

set_option maxHeartbeats 4000000 in
set_option maxRecDepth 100000 in
theorem c_By_has {l : Launch} {D : Dg} {b0 : Nat} {M : Mp} {a : Nat} {i : Nat} {fr : Int} {to : Int} {t : Nat} {lim : Int} {b : Bv} (h_B_a : IsB D M a t lim b) (hi : i < nTX) (hfr : -100000 ≤ fr ∧ fr ≤ 100000) (hto : -100000 ≤ to ∧ to ≤ 100000) : OkP l D b0 5 y_By_has b_By_has 5 (some .boolean) M [.ref a, .ref (D.2.2.1 i), vI fr, vI to] (vI (b2i (hasS b.2 (wrd i) fr to))) := by
  refine Ok_of rfl (Nat.le_of_ble_eq_true rfl) (fun E hC hQ hl hD hB hN hR => ?_)
  subst hl hD hB
  have hB9 := h_B_a.len
  have hw9 := wrd_all i hi
  show G E M 0 0 [(0, .ref a), (1, .ref ((eD E).2.2.1 i)), (2, vI fr), (3, vI to)] [] 0
  refine G_iload_n hC 3 rfl rfl d_By_has_0 ?_
  refine G_iload_n hC 2 rfl rfl d_By_has_1 ?_
  refine G_isub hC d_By_has_2 ?_
  refine G_aload_n hC 1 rfl rfl d_By_has_3 ?_
  refine G_pT (rest := [vI (to - fr)]) hC hR (c_Str_length hi) ct_By_46 hi (by decide) (by omega) (by omega) rfl rfl (Nat.le_of_ble_eq_true rfl) d_By_has_4 ?_
  have g_1 := wrd_all i hi
  refine G_icmp_ge hC 12 (by omega) (by omega) (by decide) d_By_has_7 (fun c_2 => ?_) (fun c_2 => ?_)
  · refine G_iconst (i := 0) hC d_By_has_12 ?_
    refine G_istore (lv' := [(4, vI 0), (0, .ref a), (1, .ref ((eD E).2.2.1 i)), (2, vI fr), (3, vI to)]) hC (by rw [hN]; decide) rfl d_By_has_13 ?_
    have L15 : ∀ (N : Nat) (k : Int), (((wrd i).length : Int) - k).toNat < N → (0 ≤ k ∧ k ≤ ((wrd i).length : Int)) → (∀ j : Nat, (j : Int) < k → atS b.2 (fr + j) = (wrd i).getD j 0) → G E M 0 0 [(0, .ref a), (1, .ref ((eD E).2.2.1 i)), (2, vI fr), (3, vI to), (4, vI k)] [] 15 := by
      intro N
      induction N with
      | zero => intro k hN15 hk hv; exact absurd hN15 (Nat.not_lt_zero _)
      | succ N ih15 =>
        intro k hN15 hk hv
        have hw8 := hw9.2.2 k.toNat
        refine G_iload hC 4 rfl d_By_has_15 ?_
        refine G_aload_n hC 1 rfl rfl d_By_has_17 ?_
        refine G_pT (rest := [vI k]) hC hR (c_Str_length hi) ct_By_46 hi (by decide) (by omega) (by omega) rfl rfl (Nat.le_of_ble_eq_true rfl) d_By_has_18 ?_
        have g_3 := wrd_all i hi
        refine G_icmp_ge hC 49 (by omega) (by omega) (by decide) d_By_has_21 (fun c_4 => ?_) (fun c_4 => ?_)
        · refine G_iconst (i := 1) hC d_By_has_49 ?_
          exact G_zretP hC hQ d_By_has_50 (b2i_t (decide_eq_true ⟨by omega, fun j hj => hv j (by omega)⟩))
        · refine G_aload_n hC 0 rfl rfl d_By_has_24 ?_
          refine G_iload_n hC 2 rfl rfl d_By_has_25 ?_
          refine G_iload hC 4 rfl d_By_has_26 ?_
          refine G_iadd hC d_By_has_28 ?_
          refine G_pV (rest := []) hC hR (c_By_at h_B_a (by omega)) cv_By_42 h_B_a.obj (by decide) (by omega) (by omega) rfl rfl (Nat.le_of_ble_eq_true rfl) d_By_has_29 ?_
          have g_5 := h_B_a.at_rng (fr + k)
          refine G_aload_n hC 1 rfl rfl d_By_has_32 ?_
          refine G_iload hC 4 rfl d_By_has_33 ?_
          refine G_pT (rest := [vI (atS b.2 (fr + k))]) hC hR (c_Str_charAt hi (by omega)) ct_By_52 hi (by decide) (by omega) (by omega) rfl rfl (Nat.le_of_ble_eq_true rfl) d_By_has_35 ?_
          refine G_icmp_eq hC 43 (by omega) (by omega) (by decide) d_By_has_38 (fun c_6 => ?_) (fun c_6 => ?_)
          · refine G_iinc (lv' := [(4, vI (k + 1)), (0, .ref a), (1, .ref ((eD E).2.2.1 i)), (2, vI fr), (3, vI to)]) hC 4 rfl (by rw [hN]; decide) rfl d_By_has_43 ?_
            refine G_goto hC 15 (by decide) d_By_has_46 ?_
            refine G_lv [1, 2, 3, 4, 0] rfl ?_
            exact ih15 (k + 1) (by omega) (by omega) (fun j hj => by
                by_cases hjk : (j : Int) < k
                · exact hv j hjk
                · have hj9 : (j : Int) = k := by omega
                  have hj8 : k.toNat = j := by omega
                  have hj7 := c_6
                  rw [hj8, ← hj9] at hj7
                  exact hj7)
          · refine G_iconst (i := 0) hC d_By_has_41 ?_
            exact G_zretP hC hQ d_By_has_42 (b2i_f (decide_eq_false (fun z => c_6 (by have z9 := z.2 k.toNat (by omega); rw [show ((k.toNat : Nat) : Int) = k by omega] at z9; exact z9))))
    refine G_lv [1, 2, 3, 4, 0] rfl ?_
    exact L15 _ 0 (Nat.lt_succ_self _) (by omega) (fun j hj => absurd hj (by omega))
  · refine G_iconst (i := 0) hC d_By_has_10 ?_
    exact G_zretP hC hQ d_By_has_11 (b2i_f (decide_eq_false (fun z => by have := z.1; omega)))
