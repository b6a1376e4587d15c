set_option maxHeartbeats 4000000 in
set_option maxRecDepth 100000 in
theorem c_Mo_in {l : Launch} {D : Dg} {b0 : Nat} {M : Mp} {v : Int} {lo : Int} {up : Int} (hv : -9000000000 ≤ v ∧ v ≤ 9000000000) (hlo : -9000000000 ≤ lo ∧ lo ≤ 9000000000) (hup : -9000000000 ≤ up ∧ up ≤ 9000000000) : OkP l D b0 1 y_Mo_in b_Mo_in 6 (some .boolean) M [vL v, vL lo, vL up] (vI (b2i (decide (lo ≤ v ∧ v ≤ up)))) := by
  refine Ok_of rfl (Nat.le_of_ble_eq_true rfl) (fun E hC hQ hl hD hB hN hR => ?_)
  subst hl hD hB
  show G E M 0 0 [(0, vL v), (2, vL lo), (4, vL up)] [] 0
  refine G_lload_n hC 0 rfl rfl d_Mo_in_0 ?_
  refine G_lload_n hC 1 rfl rfl d_Mo_in_1 ?_
  refine G_lcmpR hC (by omega) (by omega) d_Mo_in_2 ?_
  refine G_if_lt hC 17 (cmpS_rng _ _) (by decide) d_Mo_in_3 (fun c_1 => ?_) (fun c_1 => ?_)
  · simp only [cmpS_lt0, cmpS_ge0, cmpS_gt0, cmpS_le0] at c_1
    refine G_iconst (i := 0) hC d_Mo_in_17 ?_
    exact G_zretP hC hQ d_Mo_in_18 (b2i_f (decide_eq_false (by omega)))
  · simp only [cmpS_lt0, cmpS_ge0, cmpS_gt0, cmpS_le0] at c_1
    refine G_lload_n hC 0 rfl rfl d_Mo_in_6 ?_
    refine G_lload hC 2 rfl d_Mo_in_7 ?_
    refine G_lcmpR hC (by omega) (by omega) d_Mo_in_9 ?_
    refine G_if_gt hC 17 (cmpS_rng _ _) (by decide) d_Mo_in_10 (fun c_2 => ?_) (fun c_2 => ?_)
    · simp only [cmpS_lt0, cmpS_ge0, cmpS_gt0, cmpS_le0] at c_2
      refine G_iconst (i := 0) hC d_Mo_in_17 ?_
      exact G_zretP hC hQ d_Mo_in_18 (b2i_f (decide_eq_false (by omega)))
    · simp only [cmpS_lt0, cmpS_ge0, cmpS_gt0, cmpS_le0] at c_2
      refine G_iconst (i := 1) hC d_Mo_in_13 ?_
      refine G_goto hC 18 (by decide) d_Mo_in_14 ?_
      exact G_zretP hC hQ d_Mo_in_18 (b2i_t (decide_eq_true (by omega)))

set_option maxHeartbeats 4000000 in
set_option maxRecDepth 100000 in
theorem c_Mo_isSmall {l : Launch} {D : Dg} {b0 : Nat} {M : Mp} {c : Int} (hc : -2147483648 ≤ c ∧ c ≤ 2147483647) : OkP l D b0 1 y_Mo_isSmall b_Mo_isSmall 1 (some .boolean) M [vI c] (vI (b2i (decide (letP c)))) := by
  refine Ok_of rfl (Nat.le_of_ble_eq_true rfl) (fun E hC hQ hl hD hB hN hR => ?_)
  subst hl hD hB
  show G E M 0 0 [(0, vI c)] [] 0
  refine G_iload_n hC 0 rfl rfl d_Mo_isSmall_0 ?_
  refine G_bipush (j := 97) hC (by decide +kernel) d_Mo_isSmall_1 ?_
  refine G_icmp_lt hC 16 (by omega) (by decide) (by decide) d_Mo_isSmall_3 (fun c_1 => ?_) (fun c_1 => ?_)
  · refine G_iconst (i := 0) hC d_Mo_isSmall_16 ?_
    exact G_zretP hC hQ d_Mo_isSmall_17 (b2i_f (decide_eq_false (by omega)))
  · refine G_iload_n hC 0 rfl rfl d_Mo_isSmall_6 ?_
    refine G_bipush (j := 122) hC (by decide +kernel) d_Mo_isSmall_7 ?_
    refine G_icmp_gt hC 16 (by omega) (by decide) (by decide) d_Mo_isSmall_9 (fun c_2 => ?_) (fun c_2 => ?_)
    · refine G_iconst (i := 0) hC d_Mo_isSmall_16 ?_
      exact G_zretP hC hQ d_Mo_isSmall_17 (b2i_f (decide_eq_false (by omega)))
    · refine G_iconst (i := 1) hC d_Mo_isSmall_12 ?_
      refine G_goto hC 17 (by decide) d_Mo_isSmall_13 ?_
      exact G_zretP hC hQ d_Mo_isSmall_17 (b2i_t (decide_eq_true (by omega)))

set_option maxHeartbeats 4000000 in
set_option maxRecDepth 100000 in
theorem c_Mo_isDigit {l : Launch} {D : Dg} {b0 : Nat} {M : Mp} {c : Int} (hc : -2147483648 ≤ c ∧ c ≤ 2147483647) : OkP l D b0 1 y_Mo_isDigit b_Mo_isDigit 1 (some .boolean) M [vI c] (vI (b2i (decide (digP c)))) := by
  refine Ok_of rfl (Nat.le_of_ble_eq_true rfl) (fun E hC hQ hl hD hB hN hR => ?_)
  subst hl hD hB
  show G E M 0 0 [(0, vI c)] [] 0
  refine G_iload_n hC 0 rfl rfl d_Mo_isDigit_0 ?_
  refine G_bipush (j := 48) hC (by decide +kernel) d_Mo_isDigit_1 ?_
  refine G_icmp_lt hC 16 (by omega) (by decide) (by decide) d_Mo_isDigit_3 (fun c_1 => ?_) (fun c_1 => ?_)
  · refine G_iconst (i := 0) hC d_Mo_isDigit_16 ?_
    exact G_zretP hC hQ d_Mo_isDigit_17 (b2i_f (decide_eq_false (by omega)))
  · refine G_iload_n hC 0 rfl rfl d_Mo_isDigit_6 ?_
    refine G_bipush (j := 57) hC (by decide +kernel) d_Mo_isDigit_7 ?_
    refine G_icmp_gt hC 16 (by omega) (by decide) (by decide) d_Mo_isDigit_9 (fun c_2 => ?_) (fun c_2 => ?_)
    · refine G_iconst (i := 0) hC d_Mo_isDigit_16 ?_
      exact G_zretP hC hQ d_Mo_isDigit_17 (b2i_f (decide_eq_false (by omega)))
    · refine G_iconst (i := 1) hC d_Mo_isDigit_12 ?_
      refine G_goto hC 17 (by decide) d_Mo_isDigit_13 ?_
      exact G_zretP hC hQ d_Mo_isDigit_17 (b2i_t (decide_eq_true (by omega)))

set_option maxHeartbeats 4000000 in
set_option maxRecDepth 100000 in
theorem c_Tx_isName {l : Launch} {D : Dg} {b0 : Nat} {M : Mp} {p : Nat} {fr : Int} {to : Int} {t : Nat} {len : Nat} {xs : List Int} {B : Bool} (h_row_p : Row D M p t len xs) (hfr : 0 ≤ fr ∧ fr ≤ 20001) (hto : -1 ≤ to ∧ to ≤ xs.length) (hr : nameS xs fr to = B) : OkP l D b0 2 y_Tx_isName b_Tx_isName 6 (some .boolean) M [.ref p, vI fr, vI to] (vI (b2i B)) := by
  refine Ok_of rfl (Nat.le_of_ble_eq_true rfl) (fun E hC hQ hl hD hB hN hR => ?_)
  subst hl hD hB
  have hr9 := h_row_p.len
  unfold nameS at hr
  show G E M 0 0 [(0, .ref p), (1, vI fr), (2, vI to)] [] 0
  refine G_iload_n hC 2 rfl rfl d_Tx_isName_0 ?_
  refine G_iload_n hC 1 rfl rfl d_Tx_isName_1 ?_
  refine G_isub hC d_Tx_isName_2 ?_
  refine G_i2lR hC (by omega) d_Tx_isName_3 ?_
  refine G_lconst (v := zL 1) hC (by decide +kernel) d_Tx_isName_4 ?_
  refine G_ldc2R (a := 60) hC lc_Tx_33 d_Tx_isName_5 ?_
  refine G_pSN (rest := []) hC hR (c_Mo_in (by omega) (by omega) (by omega)) cn_Tx_35 (by decide) (by omega) (by omega) rfl rfl (Nat.le_of_ble_eq_true rfl) d_Tx_isName_8 ?_
  refine G_if_ne hC 16 (by have := b2i_rng (decide (1 ≤ (to - fr) ∧ (to - fr) ≤ 60)); omega) (by decide) d_Tx_isName_11 (fun c_1 => ?_) (fun c_1 => ?_)
  · have c_1 := b2i_ne0.mp c_1
    have c_1 := of_decide_eq_true c_1
    refine G_iconst (i := 0) hC d_Tx_isName_16 ?_
    refine G_istore_n (lv' := [(3, vI 0), (0, .ref p), (1, vI fr), (2, vI to)]) hC rfl (by rw [hN]; decide) rfl d_Tx_isName_17 ?_
    refine G_iload_n hC 2 rfl rfl d_Tx_isName_18 ?_
    refine G_istore (lv' := [(4, vI fr), (3, vI 0), (0, .ref p), (1, vI fr), (2, vI to)]) hC (by rw [hN]; decide) rfl d_Tx_isName_19 ?_
    have L21 : ∀ (N : Nat) (part : Int) (k : Int), (to - k).toNat < N → (fr ≤ k ∧ k ≤ to) → (0 ≤ part ∧ part ≤ 20) → (nameL xs to k part = B) → G E M 0 0 [(0, .ref p), (1, vI fr), (2, vI to), (3, vI part), (4, vI k)] [] 21 := by
      intro N
      induction N with
      | zero => intro part k hN21 hk hp hf; exact absurd hN21 (Nat.not_lt_zero _)
      | succ N ih21 =>
        intro part k hN21 hk hp hf
        refine G_iload hC 4 rfl d_Tx_isName_21 ?_
        refine G_iload_n hC 2 rfl rfl d_Tx_isName_23 ?_
        refine G_icmp_ge hC 98 (by omega) (by omega) (by decide) d_Tx_isName_24 (fun c_2 => ?_) (fun c_2 => ?_)
        · refine G_iload_n hC 3 rfl rfl d_Tx_isName_98 ?_
          refine G_if_le hC 106 (by omega) (by decide) d_Tx_isName_99 (fun c_3 => ?_) (fun c_3 => ?_)
          · refine G_iconst (i := 0) hC d_Tx_isName_106 ?_
            exact G_zretP hC hQ d_Tx_isName_107 (b2i_f (by rw [nameL] at hf; (repeat' split at hf); all_goals first | exact hf.symm | (exfalso; omega) | (rw [← hf]; exact decide_eq_false (by omega))))
          · refine G_iconst (i := 1) hC d_Tx_isName_102 ?_
            refine G_goto hC 107 (by decide) d_Tx_isName_103 ?_
            exact G_zretP hC hQ d_Tx_isName_107 (b2i_t (by rw [nameL] at hf; (repeat' split at hf); all_goals first | exact hf.symm | (exfalso; omega) | (rw [← hf]; exact decide_eq_true (by omega))))
        · refine G_aload_n hC 0 rfl rfl d_Tx_isName_27 ?_
          refine G_iload hC 4 rfl d_Tx_isName_28 ?_
          refine G_baldR hC h_row_p (by omega) d_Tx_isName_30 ?_
          have g_4 := h_row_p.rng k
          have g_5 := atS_gx (xs := xs) (i := k) (by omega)
          refine G_istore (lv' := [(5, vI (gx xs k)), (0, .ref p), (1, vI fr), (2, vI to), (3, vI part), (4, vI k)]) hC (by rw [hN]; decide) rfl d_Tx_isName_31 ?_
          refine G_iload hC 0 rfl d_Tx_isName_33 ?_
          refine G_bipush (j := 46) hC (by decide +kernel) d_Tx_isName_35 ?_
          refine G_icmp_ne hC 51 (by omega) (by decide) (by decide) d_Tx_isName_37 (fun c_6 => ?_) (fun c_6 => ?_)
          · refine G_iload hC 0 rfl d_Tx_isName_51 ?_
            refine G_pSN (rest := []) hC hR (c_Mo_isSmall (by omega)) cn_Tx_39 (by decide) (by omega) (by omega) rfl rfl (Nat.le_of_ble_eq_true rfl) d_Tx_isName_53 ?_
            refine G_if_ne hC 81 (by have := b2i_rng (decide (letP (gx xs k))); omega) (by decide) d_Tx_isName_56 (fun c_7 => ?_) (fun c_7 => ?_)
            · have c_7 := b2i_ne0.mp c_7
              have c_7 := of_decide_eq_true c_7
              refine G_iload_n hC 4 rfl rfl d_Tx_isName_81 ?_
              refine G_bipush (j := 20) hC (by decide +kernel) d_Tx_isName_82 ?_
              refine G_icmp_ne hC 89 (by omega) (by decide) (by decide) d_Tx_isName_84 (fun c_8 => ?_) (fun c_8 => ?_)
              · refine G_iinc (lv' := [(3, vI (part + 1)), (5, vI (gx xs k)), (0, .ref p), (1, vI fr), (2, vI to), (4, vI k)]) hC 4 rfl (by rw [hN]; decide) rfl d_Tx_isName_89 ?_
                refine G_iinc (lv' := [(4, vI (k + 1)), (3, vI (part + 1)), (5, vI (gx xs k)), (0, .ref p), (1, vI fr), (2, vI to)]) hC 5 rfl (by rw [hN]; decide) rfl d_Tx_isName_92 ?_
                refine G_goto hC 21 (by decide) d_Tx_isName_95 ?_
                refine G_lv [3, 4, 5, 1, 0] rfl ?_
                exact ih21 (part + 1) (k + 1) (by omega) (by omega) (by omega) (by rw [nameL] at hf; (repeat' split at hf); all_goals first | exact hf | (exfalso; omega) | omega)
              · refine G_iconst (i := 0) hC d_Tx_isName_87 ?_
                exact G_zretP hC hQ d_Tx_isName_88 (b2i_f (by rw [nameL] at hf; (repeat' split at hf); all_goals first | exact hf.symm | (exfalso; omega) | (rw [← hf]; exact decide_eq_false (by omega))))
            · have c_7 := b2i_eq0.mp c_7
              have c_7 := of_decide_eq_false c_7
              refine G_iload hC 0 rfl d_Tx_isName_59 ?_
              refine G_pSN (rest := []) hC hR (c_Mo_isDigit (by omega)) cn_Tx_43 (by decide) (by omega) (by omega) rfl rfl (Nat.le_of_ble_eq_true rfl) d_Tx_isName_61 ?_
              refine G_if_ne hC 81 (by have := b2i_rng (decide (digP (gx xs k))); omega) (by decide) d_Tx_isName_64 (fun c_9 => ?_) (fun c_9 => ?_)
              · have c_9 := b2i_ne0.mp c_9
                have c_9 := of_decide_eq_true c_9
                refine G_iload_n hC 4 rfl rfl d_Tx_isName_81 ?_
                refine G_bipush (j := 20) hC (by decide +kernel) d_Tx_isName_82 ?_
                refine G_icmp_ne hC 89 (by omega) (by decide) (by decide) d_Tx_isName_84 (fun c_10 => ?_) (fun c_10 => ?_)
                · refine G_iinc (lv' := [(3, vI (part + 1)), (5, vI (gx xs k)), (0, .ref p), (1, vI fr), (2, vI to), (4, vI k)]) hC 4 rfl (by rw [hN]; decide) rfl d_Tx_isName_89 ?_
                  refine G_iinc (lv' := [(4, vI (k + 1)), (3, vI (part + 1)), (5, vI (gx xs k)), (0, .ref p), (1, vI fr), (2, vI to)]) hC 5 rfl (by rw [hN]; decide) rfl d_Tx_isName_92 ?_
                  refine G_goto hC 21 (by decide) d_Tx_isName_95 ?_
                  refine G_lv [3, 4, 5, 1, 0] rfl ?_
                  exact ih21 (part + 1) (k + 1) (by omega) (by omega) (by omega) (by rw [nameL] at hf; (repeat' split at hf); all_goals first | exact hf | (exfalso; omega) | omega)
                · refine G_iconst (i := 0) hC d_Tx_isName_87 ?_
                  exact G_zretP hC hQ d_Tx_isName_88 (b2i_f (by rw [nameL] at hf; (repeat' split at hf); all_goals first | exact hf.symm | (exfalso; omega) | (rw [← hf]; exact decide_eq_false (by omega))))
              · have c_9 := b2i_eq0.mp c_9
                have c_9 := of_decide_eq_false c_9
                refine G_iload hC 0 rfl d_Tx_isName_67 ?_
                refine G_bipush (j := 45) hC (by decide +kernel) d_Tx_isName_69 ?_
                refine G_icmp_eq hC 81 (by omega) (by decide) (by decide) d_Tx_isName_71 (fun c_11 => ?_) (fun c_11 => ?_)
                · refine G_iload_n hC 4 rfl rfl d_Tx_isName_81 ?_
                  refine G_bipush (j := 20) hC (by decide +kernel) d_Tx_isName_82 ?_
                  refine G_icmp_ne hC 89 (by omega) (by decide) (by decide) d_Tx_isName_84 (fun c_12 => ?_) (fun c_12 => ?_)
                  · refine G_iinc (lv' := [(3, vI (part + 1)), (5, vI (gx xs k)), (0, .ref p), (1, vI fr), (2, vI to), (4, vI k)]) hC 4 rfl (by rw [hN]; decide) rfl d_Tx_isName_89 ?_
                    refine G_iinc (lv' := [(4, vI (k + 1)), (3, vI (part + 1)), (5, vI (gx xs k)), (0, .ref p), (1, vI fr), (2, vI to)]) hC 5 rfl (by rw [hN]; decide) rfl d_Tx_isName_92 ?_
                    refine G_goto hC 21 (by decide) d_Tx_isName_95 ?_
                    refine G_lv [3, 4, 5, 1, 0] rfl ?_
                    exact ih21 (part + 1) (k + 1) (by omega) (by omega) (by omega) (by rw [nameL] at hf; (repeat' split at hf); all_goals first | exact hf | (exfalso; omega) | omega)
                  · refine G_iconst (i := 0) hC d_Tx_isName_87 ?_
                    exact G_zretP hC hQ d_Tx_isName_88 (b2i_f (by rw [nameL] at hf; (repeat' split at hf); all_goals first | exact hf.symm | (exfalso; omega) | (rw [← hf]; exact decide_eq_false (by omega))))
                · refine G_iload hC 0 rfl d_Tx_isName_74 ?_
                  refine G_bipush (j := 95) hC (by decide +kernel) d_Tx_isName_76 ?_
                  refine G_icmp_ne hC 87 (by omega) (by decide) (by decide) d_Tx_isName_78 (fun c_13 => ?_) (fun c_13 => ?_)
                  · refine G_iconst (i := 0) hC d_Tx_isName_87 ?_
                    exact G_zretP hC hQ d_Tx_isName_88 (b2i_f (by rw [nameL] at hf; (repeat' split at hf); all_goals first | exact hf.symm | (exfalso; omega) | (rw [← hf]; exact decide_eq_false (by omega))))
                  · refine G_iload_n hC 4 rfl rfl d_Tx_isName_81 ?_
                    refine G_bipush (j := 20) hC (by decide +kernel) d_Tx_isName_82 ?_
                    refine G_icmp_ne hC 89 (by omega) (by decide) (by decide) d_Tx_isName_84 (fun c_14 => ?_) (fun c_14 => ?_)
                    · refine G_iinc (lv' := [(3, vI (part + 1)), (5, vI (gx xs k)), (0, .ref p), (1, vI fr), (2, vI to), (4, vI k)]) hC 4 rfl (by rw [hN]; decide) rfl d_Tx_isName_89 ?_
                      refine G_iinc (lv' := [(4, vI (k + 1)), (3, vI (part + 1)), (5, vI (gx xs k)), (0, .ref p), (1, vI fr), (2, vI to)]) hC 5 rfl (by rw [hN]; decide) rfl d_Tx_isName_92 ?_
                      refine G_goto hC 21 (by decide) d_Tx_isName_95 ?_
                      refine G_lv [3, 4, 5, 1, 0] rfl ?_
                      exact ih21 (part + 1) (k + 1) (by omega) (by omega) (by omega) (by rw [nameL] at hf; (repeat' split at hf); all_goals first | exact hf | (exfalso; omega) | omega)
                    · refine G_iconst (i := 0) hC d_Tx_isName_87 ?_
                      exact G_zretP hC hQ d_Tx_isName_88 (b2i_f (by rw [nameL] at hf; (repeat' split at hf); all_goals first | exact hf.symm | (exfalso; omega) | (rw [← hf]; exact decide_eq_false (by omega))))
          · refine G_iload_n hC 4 rfl rfl d_Tx_isName_40 ?_
            refine G_if_ne hC 46 (by omega) (by decide) d_Tx_isName_41 (fun c_15 => ?_) (fun c_15 => ?_)
            · refine G_iconst (i := 0) hC d_Tx_isName_46 ?_
              refine G_istore_n (lv' := [(3, vI 0), (5, vI (gx xs k)), (0, .ref p), (1, vI fr), (2, vI to), (4, vI k)]) hC rfl (by rw [hN]; decide) rfl d_Tx_isName_47 ?_
              refine G_goto hC 92 (by decide) d_Tx_isName_48 ?_
              refine G_iinc (lv' := [(4, vI (k + 1)), (3, vI 0), (5, vI (gx xs k)), (0, .ref p), (1, vI fr), (2, vI to)]) hC 5 rfl (by rw [hN]; decide) rfl d_Tx_isName_92 ?_
              refine G_goto hC 21 (by decide) d_Tx_isName_95 ?_
              refine G_lv [3, 4, 5, 1, 0] rfl ?_
              exact ih21 0 (k + 1) (by omega) (by omega) (by omega) (by rw [nameL] at hf; (repeat' split at hf); all_goals first | exact hf | (exfalso; omega) | omega)
            · refine G_iconst (i := 0) hC d_Tx_isName_44 ?_
              exact G_zretP hC hQ d_Tx_isName_45 (b2i_f (by rw [nameL] at hf; (repeat' split at hf); all_goals first | exact hf.symm | (exfalso; omega) | (rw [← hf]; exact decide_eq_false (by omega))))
    refine G_lv [2, 3, 4, 1, 0] rfl ?_
    exact L21 _ 0 fr (Nat.lt_succ_self _) (by omega) (by omega) (by rw [if_neg (by omega)] at hr; exact hr)
  · have c_1 := b2i_eq0.mp c_1
    have c_1 := of_decide_eq_false c_1
    refine G_iconst (i := 0) hC d_Tx_isName_14 ?_
    exact G_zretP hC hQ d_Tx_isName_15 (b2i_f (by rw [nameL] at hr; (repeat' split at hr); all_goals first | exact hr.symm | (exfalso; omega) | (rw [← hr]; exact decide_eq_false (by omega))))

set_option maxHeartbeats 4000000 in
set_option maxRecDepth 100000 in
theorem c_Tx_init {l : Launch} {D : Dg} {b0 : Nat} {M : Mp} {a : Nat} {room : Int} {t : Nat} (h_obj_a : M a = some (t, .inr (cTx, [.null, vI 0]))) (hroom : 0 ≤ room ∧ room ≤ 20000) : Ok l D b0 2 y_Tx_init b_Tx_init 2 none M [.ref a, vI room] 1 room.toNat (fun r M' => r = none ∧ IsT D M' a t room.toNat ([]) ∧ Fr [t] M M') := by
  refine Ok_of rfl (Nat.le_of_ble_eq_true rfl) (fun E hC hQ hl hD hB hN hR => ?_)
  subst hl hD hB
  show G E M 0 0 [(0, .ref a), (1, vI room)] [] 0
  refine G_aload_n hC 0 rfl rfl d_Tx_init_0 ?_
  refine G_objI hC hR lm_Tx_3 (Nat.le_of_ble_eq_true rfl) (Nat.le_of_ble_eq_true rfl) d_Tx_init_1 ?_
  refine G_aload_n hC 0 rfl rfl d_Tx_init_4 ?_
  refine G_iload_n hC 1 rfl rfl d_Tx_init_5 ?_
  refine G_newBX (t + 1) hC hR w_acB (by omega) (by omega) (by omega) d_Tx_init_6 (fun q_1 M_2 h_3 h_4 fr_5 => ?_)
  have h_6 := fr_5.at h_obj_a (by simp only [List.mem_cons, List.not_mem_nil, or_false, not_or, not_false_eq_true]; try omega)
  refine G_putFX (fs' := [.ref q_1, vI 0]) hC fl_Tx_9 ft_Tx ff_Tx_0 rfl h_6 rfl rfl (Nat.le_of_ble_eq_true rfl) rfl d_Tx_init_8 (fun M_7 h_8 fr_9 => ?_)
  have h_10 := h_4.fr fr_9 (by simp only [List.mem_cons, List.not_mem_nil, or_false, not_or, not_false_eq_true]; try omega)
  exact G_return hC hQ (by omega) (by omega) d_Tx_init_11 ⟨rfl, ⟨q_1, h_8, h_10⟩, ((fr_5.up (T := [t]) (by simp)).tr' (T := [t]) fr_9 (fun _ z => z) (by simp))⟩

set_option maxHeartbeats 4000000 in
set_option maxRecDepth 100000 in
theorem c_Tx_add1 {l : Launch} {D : Dg} {b0 : Nat} {M : Mp} {a : Nat} {c : Int} {t : Nat} {len : Nat} {xs : List Int} (h_Tx_a : IsT D M a t len xs) (hc : -2147483648 ≤ c ∧ c ≤ 2147483647) (hl : xs.length < len) : Ok l D b0 1 y_Tx_add1 b_Tx_add1 2 none M [.ref a, vI c] 0 0 (fun r M' => r = none ∧ IsT D M' a t len (xs ++ [sgb c]) ∧ Fr [t, t + 1] M M') := by
  refine Ok_of rfl (Nat.le_of_ble_eq_true rfl) (fun E hC hQ hl hD hB hN hR => ?_)
  subst hl hD hB
  have g_4 := h_Tx_a.len
  obtain ⟨r_1, h_2, h_3⟩ := id h_Tx_a
  show G E M 0 0 [(0, .ref a), (1, vI c)] [] 0
  refine G_aload_n hC 0 rfl rfl d_Tx_add1_0 ?_
  refine G_get hC fl_Tx_9 h_2 rfl d_Tx_add1_1 ?_
  refine G_aload_n hC 0 rfl rfl d_Tx_add1_4 ?_
  refine G_get hC fl_Tx_15 h_2 rfl d_Tx_add1_5 ?_
  refine G_iload_n hC 1 rfl rfl d_Tx_add1_8 ?_
  refine G_i2bR hC (by omega) d_Tx_add1_9 ?_
  have g_5 := sgb_rng c
  refine G_bastR hC h_3 (by omega) (by omega) (by omega) d_Tx_add1_10 (fun M_6 h_7 fr_8 => ?_)
  refine G_aload_n hC 0 rfl rfl d_Tx_add1_11 ?_
  refine G_dup hC rfl d_Tx_add1_12 ?_
  have h_9 := fr_8.at h_2 (by simp only [List.mem_cons, List.not_mem_nil, or_false, not_or, not_false_eq_true]; try omega)
  refine G_get hC fl_Tx_15 h_9 rfl d_Tx_add1_13 ?_
  refine G_iconst (i := 1) hC d_Tx_add1_16 ?_
  refine G_iadd hC d_Tx_add1_17 ?_
  refine G_putX (fs' := [.ref r_1, vI ((xs.length : Int) + 1)]) hC fl_Tx_15 ft_Tx fw_Tx_1 h_9 rfl rfl (Nat.le_of_ble_eq_true rfl) rfl d_Tx_add1_18 (fun M_10 h_11 fr_12 => ?_)
  have h_13 := h_7.fr fr_12 (by simp only [List.mem_cons, List.not_mem_nil, or_false, not_or, not_false_eq_true]; try omega)
  have e9 : (((xs ++ [sgb c]).length : Nat) : Int) = (xs.length : Int) + 1 := by simp
  exact G_return hC hQ (by omega) (by omega) d_Tx_add1_21 ⟨rfl, ⟨r_1, by rw [e9]; exact h_11, h_13⟩, ((fr_8.up (T := [t, t + 1]) (by simp)).tr' (T := [t, t + 1]) fr_12 (fun _ z => z) (by simp))⟩

set_option maxHeartbeats 4000000 in
set_option maxRecDepth 100000 in
theorem c_Tx_add2 {l : Launch} {D : Dg} {b0 : Nat} {M : Mp} {a : Nat} {p : Nat} {fr : Int} {to : Int} {t : Nat} {len : Nat} {xs : List Int} {t2 : Nat} {len2 : Nat} {ys : List Int} (h_Tx_a : IsT D M a t len xs) (h_row_p : Row D M p t2 len2 ys) (hfr : 0 ≤ fr ∧ fr ≤ to ∧ to ≤ ys.length) (hl : (xs.length : Int) + (to - fr) ≤ len) (htt : t2 ≠ t ∧ t2 ≠ t + 1) : Ok l D b0 2 y_Tx_add2 b_Tx_add2 4 none M [.ref a, .ref p, vI fr, vI to] 0 0 (fun r M' => r = none ∧ IsT D M' a t len (xs ++ (ys.drop (fr : Int).toNat).take (to - fr).toNat) ∧ Fr [t, t + 1] M M') := by
  refine Ok_of rfl (Nat.le_of_ble_eq_true rfl) (fun E hC hQ hl hD hB hN hR => ?_)
  subst hl hD hB
  have g_4 := h_Tx_a.len
  obtain ⟨r_1, h_2, h_3⟩ := id h_Tx_a
  have hr9 := h_row_p.len
  show G E M 0 0 [(0, .ref a), (1, .ref p), (2, vI fr), (3, vI to)] [] 0
  refine G_aload_n hC 1 rfl rfl d_Tx_add2_0 ?_
  refine G_iload_n hC 2 rfl rfl d_Tx_add2_1 ?_
  refine G_aload_n hC 0 rfl rfl d_Tx_add2_2 ?_
  refine G_get hC fl_Tx_9 h_2 rfl d_Tx_add2_3 ?_
  refine G_aload_n hC 0 rfl rfl d_Tx_add2_6 ?_
  refine G_get hC fl_Tx_15 h_2 rfl d_Tx_add2_7 ?_
  refine G_iload_n hC 3 rfl rfl d_Tx_add2_10 ?_
  refine G_iload_n hC 2 rfl rfl d_Tx_add2_11 ?_
  refine G_isub hC d_Tx_add2_12 ?_
  refine G_copyBA hC hR lm_Tx_19 w_acN w_acS w_syI h_row_p h_3 (by omega) (by omega) (by omega) (Nat.le_of_ble_eq_true rfl) (Nat.le_of_ble_eq_true rfl) d_Tx_add2_13 (fun M_5 h_6 fr_7 => ?_)
  refine G_aload_n hC 0 rfl rfl d_Tx_add2_16 ?_
  refine G_dup hC rfl d_Tx_add2_17 ?_
  have h_8 := fr_7.at h_2 (by simp only [List.mem_cons, List.not_mem_nil, or_false, not_or, not_false_eq_true]; try omega)
  refine G_get hC fl_Tx_15 h_8 rfl d_Tx_add2_18 ?_
  refine G_iload_n hC 3 rfl rfl d_Tx_add2_21 ?_
  refine G_iload_n hC 2 rfl rfl d_Tx_add2_22 ?_
  refine G_isub hC d_Tx_add2_23 ?_
  refine G_iadd hC d_Tx_add2_24 ?_
  refine G_putX (fs' := [.ref r_1, vI ((xs.length : Int) + (to - fr))]) hC fl_Tx_15 ft_Tx fw_Tx_1 h_8 rfl rfl (Nat.le_of_ble_eq_true rfl) rfl d_Tx_add2_25 (fun M_9 h_10 fr_11 => ?_)
  have h_12 := h_6.fr fr_11 (by simp only [List.mem_cons, List.not_mem_nil, or_false, not_or, not_false_eq_true]; try omega)
  have e9 : (((xs ++ (ys.drop fr.toNat).take (to - fr).toNat).length : Nat) : Int) = (xs.length : Int) + (to - fr) := by rw [List.length_append, List.length_take, List.length_drop]; omega
  exact G_return hC hQ (by omega) (by omega) d_Tx_add2_28 ⟨rfl, ⟨r_1, by rw [e9]; exact h_10, h_12⟩, ((fr_7.up (T := [t, t + 1]) (by simp)).tr' (T := [t, t + 1]) fr_11 (fun _ z => z) (by simp))⟩

set_option maxHeartbeats 4000000 in
set_option maxRecDepth 100000 in
theorem c_Tx_set {l : Launch} {D : Dg} {b0 : Nat} {M : Mp} {a : Nat} {p : Nat} {fr : Int} {to : Int} {t : Nat} {len : Nat} {xs : List Int} {t2 : Nat} {len2 : Nat} {ys : List Int} (h_Tx_a : IsT D M a t len xs) (h_row_p : Row D M p t2 len2 ys) (hfr : 0 ≤ fr ∧ fr ≤ to ∧ to ≤ ys.length) (hl : to - fr ≤ len) (htt : t2 ≠ t ∧ t2 ≠ t + 1) : Ok l D b0 3 y_Tx_set b_Tx_set 4 none M [.ref a, .ref p, vI fr, vI to] 0 0 (fun r M' => r = none ∧ IsT D M' a t len ([] ++ (ys.drop (fr : Int).toNat).take (to - fr).toNat) ∧ Fr [t, t + 1] M M') := by
  refine Ok_of rfl (Nat.le_of_ble_eq_true rfl) (fun E hC hQ hl hD hB hN hR => ?_)
  subst hl hD hB
  have g_4 := h_Tx_a.len
  obtain ⟨r_1, h_2, h_3⟩ := id h_Tx_a
  have hr9 := h_row_p.len
  show G E M 0 0 [(0, .ref a), (1, .ref p), (2, vI fr), (3, vI to)] [] 0
  refine G_aload_n hC 0 rfl rfl d_Tx_set_0 ?_
  refine G_iconst (i := 0) hC d_Tx_set_1 ?_
  refine G_putX (fs' := [.ref r_1, vI 0]) hC fl_Tx_15 ft_Tx fw_Tx_1 h_2 rfl rfl (Nat.le_of_ble_eq_true rfl) rfl d_Tx_set_2 (fun M_5 h_6 fr_7 => ?_)
  refine G_aload_n hC 0 rfl rfl d_Tx_set_5 ?_
  refine G_aload_n hC 1 rfl rfl d_Tx_set_6 ?_
  refine G_iload_n hC 2 rfl rfl d_Tx_set_7 ?_
  refine G_iload_n hC 3 rfl rfl d_Tx_set_8 ?_
  have h_8 := h_3.fr fr_7 (by simp only [List.mem_cons, List.not_mem_nil, or_false, not_or, not_false_eq_true]; try omega)
  have h_9 : IsT (eD E) M_5 a t len ([] : List Int) := ⟨r_1, h_6, h_8.take 0⟩
  have h_10 := h_row_p.fr fr_7 (by simp only [List.mem_cons, List.not_mem_nil, or_false, not_or, not_false_eq_true]; try omega)
  refine G_xV (rest := []) hC hR (c_Tx_add2 h_9 h_10 (by omega) (by simp only [List.length_nil]; omega) htt) cv_Tx_25 ⟨_, _, h_6⟩ (by decide) (by omega) (by omega) rfl rfl (Nat.le_of_ble_eq_true rfl) d_Tx_set_9 (fun r_13 M_11 p_12 => ?_)
  obtain ⟨rfl, h_14, fr_15⟩ := p_12
  show G E M_11 (0 + 0) (0 + 0) [(0, .ref a), (1, .ref p), (2, vI fr), (3, vI to)] [] 12
  exact G_return hC hQ (by omega) (by omega) d_Tx_set_12 ⟨rfl, h_14, ((fr_7.up (T := [t, t + 1]) (by simp)).tr' (T := [t, t + 1]) fr_15 (fun _ z => z) (by simp))⟩

set_option maxHeartbeats 4000000 in
set_option maxRecDepth 100000 in
theorem c_Tx_is1 {l : Launch} {D : Dg} {b0 : Nat} {M : Mp} {a : Nat} {p : Nat} {fr : Int} {to : Int} {t : Nat} {len : Nat} {xs : List Int} {t2 : Nat} {len2 : Nat} {ys : List Int} (h_Tx_a : IsT D M a t len xs) (h_row_p : Row D M p t2 len2 ys) (hfr : fr = 0 ∧ to = ys.length) : OkP l D b0 1 y_Tx_is1 b_Tx_is1 5 (some .boolean) M [.ref a, .ref p, vI fr, vI to] (vI (b2i (decide (xs = ys)))) := by
  refine Ok_of rfl (Nat.le_of_ble_eq_true rfl) (fun E hC hQ hl hD hB hN hR => ?_)
  subst hl hD hB
  have g_4 := h_Tx_a.len
  obtain ⟨r_1, h_2, h_3⟩ := id h_Tx_a
  have hr9 := h_row_p.len
  show G E M 0 0 [(0, .ref a), (1, .ref p), (2, vI fr), (3, vI to)] [] 0
  refine G_iload_n hC 3 rfl rfl d_Tx_is1_0 ?_
  refine G_iload_n hC 2 rfl rfl d_Tx_is1_1 ?_
  refine G_isub hC d_Tx_is1_2 ?_
  refine G_aload_n hC 0 rfl rfl d_Tx_is1_3 ?_
  refine G_get hC fl_Tx_15 h_2 rfl d_Tx_is1_4 ?_
  refine G_icmp_eq hC 12 (by omega) (by omega) (by decide) d_Tx_is1_7 (fun c_5 => ?_) (fun c_5 => ?_)
  · refine G_iconst (i := 0) hC d_Tx_is1_12 ?_
    refine G_istore (lv' := [(4, vI 0), (0, .ref a), (1, .ref p), (2, vI fr), (3, vI to)]) hC (by rw [hN]; decide) rfl d_Tx_is1_13 ?_
    have L15 : ∀ (N : Nat) (k : Int), ((xs.length : Int) - k).toNat < N → (0 ≤ k ∧ k ≤ xs.length) → (∀ j : Nat, (j : Int) < k → xs.getD j 0 = ys.getD j 0) → G E M 0 0 [(0, .ref a), (1, .ref p), (2, vI fr), (3, vI to), (4, vI k)] [] 15 := by
      intro N
      induction N with
      | zero => intro k hN15 hk hv; exact absurd hN15 (Nat.not_lt_zero _)
      | succ N ih15 =>
        intro k hN15 hk hv
        refine G_iload hC 4 rfl d_Tx_is1_15 ?_
        refine G_aload_n hC 0 rfl rfl d_Tx_is1_17 ?_
        refine G_get hC fl_Tx_15 h_2 rfl d_Tx_is1_18 ?_
        refine G_icmp_ge hC 48 (by omega) (by omega) (by decide) d_Tx_is1_21 (fun c_6 => ?_) (fun c_6 => ?_)
        · refine G_iconst (i := 1) hC d_Tx_is1_48 ?_
          exact G_zretP hC hQ d_Tx_is1_49 (b2i_t (decide_eq_true (ext_getD (by omega) (fun j hj => hv j (by omega)))))
        · refine G_aload_n hC 0 rfl rfl d_Tx_is1_24 ?_
          refine G_get hC fl_Tx_9 h_2 rfl d_Tx_is1_25 ?_
          refine G_iload hC 4 rfl d_Tx_is1_28 ?_
          refine G_baldR hC h_3 (by omega) d_Tx_is1_30 ?_
          have g_7 := h_3.rng k
          have g_8 := atS_gx (xs := xs) (i := k) (by omega)
          refine G_aload_n hC 1 rfl rfl d_Tx_is1_31 ?_
          refine G_iload_n hC 2 rfl rfl d_Tx_is1_32 ?_
          refine G_iload hC 4 rfl d_Tx_is1_33 ?_
          refine G_iadd hC d_Tx_is1_35 ?_
          refine G_baldR hC h_row_p (by omega) d_Tx_is1_36 ?_
          have g_9 := h_row_p.rng (fr + k)
          have g_10 := atS_gx (xs := ys) (i := fr + k) (by omega)
          refine G_icmp_eq hC 42 (by omega) (by omega) (by decide) d_Tx_is1_37 (fun c_11 => ?_) (fun c_11 => ?_)
          · refine G_iinc (lv' := [(4, vI (k + 1)), (0, .ref a), (1, .ref p), (2, vI fr), (3, vI to)]) hC 4 rfl (by rw [hN]; decide) rfl d_Tx_is1_42 ?_
            refine G_goto hC 15 (by decide) d_Tx_is1_45 ?_
            refine G_lv [1, 2, 3, 4, 0] rfl ?_
            exact ih15 (k + 1) (by omega) (by omega) (fun j hj => by
                by_cases hjk : (j : Int) < k
                · exact hv j hjk
                · have hj9 : j = k.toNat := by omega
                  have hj8 : (fr + k).toNat = k.toNat := by omega
                  have hj7 := c_11
                  unfold gx at hj7
                  rw [hj8] at hj7
                  subst hj9
                  exact hj7)
          · refine G_iconst (i := 0) hC d_Tx_is1_40 ?_
            exact G_zretP hC hQ d_Tx_is1_41 (b2i_f (decide_eq_false (fun e => c_11 (by unfold gx; rw [e, show (fr + k).toNat = k.toNat by omega]))))
    refine G_lv [1, 2, 3, 4, 0] rfl ?_
    exact L15 _ 0 (Nat.lt_succ_self _) (by omega) (fun j hj => absurd hj (by omega))
  · refine G_iconst (i := 0) hC d_Tx_is1_10 ?_
    exact G_zretP hC hQ d_Tx_is1_11 (b2i_f (decide_eq_false (fun e => c_5 (by rw [e]; omega))))

set_option maxHeartbeats 4000000 in
set_option maxRecDepth 100000 in
theorem c_Tx_is2 {l : Launch} {D : Dg} {b0 : Nat} {M : Mp} {a : Nat} {o : Nat} {t : Nat} {len : Nat} {xs : List Int} {t2 : Nat} {len2 : Nat} {ys : List Int} (h_Tx_a : IsT D M a t len xs) (h_Tx_o : IsT D M o t2 len2 ys) : OkP l D b0 2 y_Tx_is2 b_Tx_is2 2 (some .boolean) M [.ref a, .ref o] (vI (b2i (decide (xs = ys)))) := by
  refine Ok_of rfl (Nat.le_of_ble_eq_true rfl) (fun E hC hQ hl hD hB hN hR => ?_)
  subst hl hD hB
  have g_4 := h_Tx_o.len
  obtain ⟨r_1, h_2, h_3⟩ := id h_Tx_o
  show G E M 0 0 [(0, .ref a), (1, .ref o)] [] 0
  refine G_aload_n hC 0 rfl rfl d_Tx_is2_0 ?_
  refine G_aload_n hC 1 rfl rfl d_Tx_is2_1 ?_
  refine G_get hC fl_Tx_9 h_2 rfl d_Tx_is2_2 ?_
  refine G_iconst (i := 0) hC d_Tx_is2_5 ?_
  refine G_aload_n hC 1 rfl rfl d_Tx_is2_6 ?_
  refine G_get hC fl_Tx_15 h_2 rfl d_Tx_is2_7 ?_
  refine G_pV (rest := []) hC hR (c_Tx_is1 h_Tx_a h_3 (by omega)) cv_Tx_29 h_Tx_a.obj (by decide) (by omega) (by omega) rfl rfl (Nat.le_of_ble_eq_true rfl) d_Tx_is2_10 ?_
  exact G_zretP hC hQ d_Tx_is2_13 rfl
