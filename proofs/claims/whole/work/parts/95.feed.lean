set_option maxHeartbeats 4000000 in
set_option maxRecDepth 100000 in
theorem c_Mo_feed {l : Launch} {D : Dg} {b0 : Nat} {M : Mp} {a : Nat} {x1 : Int} {x2 : Int} {x3 : Int} {x4 : Int} {x5 : Int} {tp : Nat} {tm : Int} {en : Int} {ou : Nat} {sa : Nat} {aa : Nat} {na : Nat} {va : Nat} {lo : Nat} {dm : Nat} {fm : Int32} {st : Int} {tg : Nat} {cn : Int} {vo : Int} {pc : Nat} {k0 : Int} {s0 : Int} {f0 : Int} {o0 : Int} {n0 : Int} {w0 : Int32} {xs : List Int} (h_obj_a : M a = some (500, .inr (cMo, [.ref tp, vI tm, vI en, .ref ou, .ref sa, .ref aa, .ref na, .ref va, .ref lo, .ref dm, .int fm, vI st, .ref tg, vI cn, vI vo, .ref pc, vI k0, vI s0, vI f0, vI o0, vI n0, .int w0]))) (h_row_tp : Row D M tp 501 800 xs) (htm : tm = (xs.length : Int)) (hx1 : -2147483648 ≤ x1 ∧ x1 ≤ 2147483647) (hx2 : -2147483648 ≤ x2 ∧ x2 ≤ 2147483647) (hx3 : -2147483648 ≤ x3 ∧ x3 ≤ 2147483647) (hx4 : -2147483648 ≤ x4 ∧ x4 ≤ 2147483647) (hx5 : -2147483648 ≤ x5 ∧ x5 ≤ 2147483647) : Ok l D b0 2 y_Mo_feed b_Mo_feed 8 (some .int) M [.ref a, vI x1, vI x2, vI x3, vI x4, vI x5] 1 5 (fun r M' => r = some (vI (if 800 < (xs.length : Int) + 20 then -3 else (xs.length : Int) + 20)) ∧ M' a = some (500, .inr (cMo, [.ref tp, vI (if 800 < (xs.length : Int) + 20 then tm else tm + 20), vI en, .ref ou, .ref sa, .ref aa, .ref na, .ref va, .ref lo, .ref dm, .int fm, vI st, .ref tg, vI cn, vI vo, .ref pc, vI k0, vI s0, vI f0, vI o0, vI n0, .int w0])) ∧ Row D M' tp 501 800 (if 800 < (xs.length : Int) + 20 then xs else fdL xs x1 x2 x3 x4 x5) ∧ Fr [500, 501, 590] M M') := by
  refine Ok_of rfl (Nat.le_of_ble_eq_true rfl) (fun E hC hQ hl hD hB hN hR => ?_)
  subst hl hD hB
  have hr9 := h_row_tp.len
  show G E M 0 0 [(0, .ref a), (1, vI x1), (2, vI x2), (3, vI x3), (4, vI x4), (5, vI x5)] [] 0
  refine G_aload_n hC 0 rfl rfl d_Mo_feed_0 ?_
  refine G_get hC fl_Mo_62 h_obj_a rfl d_Mo_feed_1 ?_
  refine G_bipush (j := 20) hC (by decide +kernel) d_Mo_feed_4 ?_
  refine G_iadd hC d_Mo_feed_6 ?_
  refine G_sipush (j := 800) hC (by decide +kernel) d_Mo_feed_7 ?_
  refine G_icmp_le hC 16 (by omega) (by decide) (by decide) d_Mo_feed_10 (fun c_1 => ?_) (fun c_1 => ?_)
  · refine G_iconst (i := 5) hC d_Mo_feed_16 ?_
    refine G_newIX 590 hC hR w_acI (by omega) (by omega) (by omega) d_Mo_feed_17 (fun q_2 M_3 h_4 fr_5 => ?_)
    refine G_dup hC rfl d_Mo_feed_19 ?_
    refine G_iconst (i := 0) hC d_Mo_feed_20 ?_
    refine G_iload_n hC 1 rfl rfl d_Mo_feed_21 ?_
    refine G_iastX hC h_4 (by omega) (by omega) d_Mo_feed_22 (fun M_6 h_7 fr_8 => ?_)
    refine G_dup hC rfl d_Mo_feed_23 ?_
    refine G_iconst (i := 1) hC d_Mo_feed_24 ?_
    refine G_iload_n hC 2 rfl rfl d_Mo_feed_25 ?_
    refine G_iastX hC h_7 (by omega) (by omega) d_Mo_feed_26 (fun M_9 h_10 fr_11 => ?_)
    refine G_dup hC rfl d_Mo_feed_27 ?_
    refine G_iconst (i := 2) hC d_Mo_feed_28 ?_
    refine G_iload_n hC 3 rfl rfl d_Mo_feed_29 ?_
    refine G_iastX hC h_10 (by omega) (by omega) d_Mo_feed_30 (fun M_12 h_13 fr_14 => ?_)
    refine G_dup hC rfl d_Mo_feed_31 ?_
    refine G_iconst (i := 3) hC d_Mo_feed_32 ?_
    refine G_iload hC 4 rfl d_Mo_feed_33 ?_
    refine G_iastX hC h_13 (by omega) (by omega) d_Mo_feed_35 (fun M_15 h_16 fr_17 => ?_)
    refine G_dup hC rfl d_Mo_feed_36 ?_
    refine G_iconst (i := 4) hC d_Mo_feed_37 ?_
    refine G_iload hC 5 rfl d_Mo_feed_38 ?_
    refine G_iastX hC h_16 (by omega) (by omega) d_Mo_feed_40 (fun M_18 h_19 fr_20 => ?_)
    refine G_astore (lv' := [(6, .ref q_2), (0, .ref a), (1, vI x1), (2, vI x2), (3, vI x3), (4, vI x4), (5, vI x5)]) hC (by rw [hN]; decide) rfl d_Mo_feed_41 ?_
    obtain ⟨g5, hg5⟩ : ∃ g : Nat → Int, updZ (updZ (updZ (updZ (updZ (fun _ => 0) (0 : Int).toNat x1) (1 : Int).toNat x2) (2 : Int).toNat x3) (3 : Int).toNat x4) (4 : Int).toNat x5 = g := ⟨_, rfl⟩
    rw [hg5] at h_19
    have hg50 : g5 0 = x1 := by rw [← hg5]; rfl
    have hg51 : g5 1 = x2 := by rw [← hg5]; rfl
    have hg52 : g5 2 = x3 := by rw [← hg5]; rfl
    have hg53 : g5 3 = x4 := by rw [← hg5]; rfl
    have hg54 : g5 4 = x5 := by rw [← hg5]; rfl
    have hlst : xs ++ fdR g5 0 = fdL xs x1 x2 x3 x4 x5 := by rw [fdR_0, hg50, hg51, hg52, hg53, hg54]; rfl
    have hg6 : ∀ j : Nat, j < 5 → -2147483648 ≤ g5 j ∧ g5 j ≤ 2147483647 := fun j hj => by
      rcases (show j = 0 ∨ j = 1 ∨ j = 2 ∨ j = 3 ∨ j = 4 by omega) with rfl | rfl | rfl | rfl | rfl <;> omega
    refine G_iconst (i := 0) hC d_Mo_feed_43 ?_
    refine G_istore (lv' := [(7, vI 0), (6, .ref q_2), (0, .ref a), (1, vI x1), (2, vI x2), (3, vI x3), (4, vI x4), (5, vI x5)]) hC (by rw [hN]; decide) rfl d_Mo_feed_44 ?_
    have L46 : ∀ (N : Nat) (M1 : Mp) (k : Int) (cur : List Int), (20 - k).toNat < N → (Fr [501] M_18 M1) → (Row (eD E) M1 tp 501 800 cur) → (0 ≤ k ∧ k ≤ 20) → ((cur.length : Int) = xs.length + k) → (cur ++ fdR g5 k = fdL xs x1 x2 x3 x4 x5) → G E M1 (0 + 1) (0 + (5 : Int).toNat) [(0, .ref a), (1, vI x1), (2, vI x2), (3, vI x3), (4, vI x4), (5, vI x5), (6, .ref q_2), (7, vI k)] [] 46 := by
      intro N
      induction N with
      | zero => intro M1 k cur hN46 hfr hrow hk hl hf; exact absurd hN46 (Nat.not_lt_zero _)
      | succ N ih46 =>
        intro M1 k cur hN46 hfr hrow hk hl hf
        refine G_iload hC 7 rfl d_Mo_feed_46 ?_
        refine G_bipush (j := 20) hC (by decide +kernel) d_Mo_feed_48 ?_
        refine G_icmp_ge hC 90 (by omega) (by decide) (by decide) d_Mo_feed_50 (fun c_21 => ?_) (fun c_21 => ?_)
        · refine G_aload_n hC 0 rfl rfl d_Mo_feed_90 ?_
          refine G_dup hC rfl d_Mo_feed_91 ?_
          have h_22 := fr_5.at h_obj_a (by decide)
          have h_23 := fr_8.at h_22 (by decide)
          have h_24 := fr_11.at h_23 (by decide)
          have h_25 := fr_14.at h_24 (by decide)
          have h_26 := fr_17.at h_25 (by decide)
          have h_27 := fr_20.at h_26 (by decide)
          have h_28 := hfr.at h_27 (by decide)
          refine G_get hC fl_Mo_62 h_28 rfl d_Mo_feed_92 ?_
          refine G_bipush (j := 20) hC (by decide +kernel) d_Mo_feed_95 ?_
          refine G_iadd hC d_Mo_feed_97 ?_
          refine G_putX (fs' := [.ref tp, vI (tm + 20), vI en, .ref ou, .ref sa, .ref aa, .ref na, .ref va, .ref lo, .ref dm, .int fm, vI st, .ref tg, vI cn, vI vo, .ref pc, vI k0, vI s0, vI f0, vI o0, vI n0, .int w0]) hC fl_Mo_62 ft_Mo fw_Mo_1 h_28 rfl rfl (Nat.le_of_ble_eq_true rfl) rfl d_Mo_feed_98 (fun M_29 h_30 fr_31 => ?_)
          refine G_aload_n hC 0 rfl rfl d_Mo_feed_101 ?_
          refine G_get hC fl_Mo_62 h_30 rfl d_Mo_feed_102 ?_
          have h_32 := hrow.fr fr_31 (by decide)
          have hz9 : ¬ 800 < (xs.length : Int) + 20 := by omega
          have hcur := fd_end (by omega) hf
          exact G_iretX hC hQ (by omega) (by omega) d_Mo_feed_105 ⟨by rw [if_neg hz9, htm], by rw [if_neg hz9]; exact h_30, by rw [if_neg hz9, ← hcur]; exact h_32, ((((((((fr_5.up (T := [500, 501, 590]) (by simp)).tr' (T := [500, 501, 590]) fr_8 (fun _ z => z) (by simp)).tr' (T := [500, 501, 590]) fr_11 (fun _ z => z) (by simp)).tr' (T := [500, 501, 590]) fr_14 (fun _ z => z) (by simp)).tr' (T := [500, 501, 590]) fr_17 (fun _ z => z) (by simp)).tr' (T := [500, 501, 590]) fr_20 (fun _ z => z) (by simp)).tr' (T := [500, 501, 590]) hfr (fun _ z => z) (by simp)).tr' (T := [500, 501, 590]) fr_31 (fun _ z => z) (by simp))⟩
        · refine G_aload_n hC 0 rfl rfl d_Mo_feed_53 ?_
          have h_33 := fr_5.at h_obj_a (by decide)
          have h_34 := fr_8.at h_33 (by decide)
          have h_35 := fr_11.at h_34 (by decide)
          have h_36 := fr_14.at h_35 (by decide)
          have h_37 := fr_17.at h_36 (by decide)
          have h_38 := fr_20.at h_37 (by decide)
          have h_39 := hfr.at h_38 (by decide)
          refine G_get hC fl_Mo_23 h_39 rfl d_Mo_feed_54 ?_
          refine G_aload_n hC 0 rfl rfl d_Mo_feed_57 ?_
          refine G_get hC fl_Mo_62 h_39 rfl d_Mo_feed_58 ?_
          refine G_iload hC 7 rfl d_Mo_feed_61 ?_
          refine G_iadd hC d_Mo_feed_63 ?_
          refine G_aload hC 6 rfl d_Mo_feed_64 ?_
          refine G_iload hC 7 rfl d_Mo_feed_66 ?_
          refine G_iconst (i := 4) hC d_Mo_feed_68 ?_
          refine G_idiv hC (by omega) (by omega) d_Mo_feed_69 ?_
          have hgk := hg6 (k / 4).toNat (by omega)
          have h_40 := hfr.at h_19 (by decide)
          refine G_iald hC h_40 (by omega) (by omega) d_Mo_feed_70 ?_
          refine G_bipush (j := 24) hC (by decide +kernel) d_Mo_feed_71 ?_
          refine G_bipush (j := 8) hC (by decide +kernel) d_Mo_feed_73 ?_
          refine G_iload hC 7 rfl d_Mo_feed_75 ?_
          refine G_iconst (i := 4) hC d_Mo_feed_77 ?_
          refine G_irem hC (by omega) (by omega) d_Mo_feed_78 ?_
          refine G_imul hC d_Mo_feed_79 ?_
          refine G_isub hC d_Mo_feed_80 ?_
          refine G_ishr hC (zI_shr (a := g5 (k / 4 : Int).toNat) (k := 24 - (8 * (k % 4))) (by omega) (by omega)) d_Mo_feed_81 ?_
          have g_41 := shS_rng (g5 (k / 4 : Int).toNat) (24 - (8 * (k % 4))) (by omega)
          refine G_i2bR hC (by omega) d_Mo_feed_82 ?_
          have g_42 := sgb_rng (shS (g5 (k / 4 : Int).toNat) (24 - (8 * (k % 4))))
          refine G_bastR hC hrow (by omega) (by omega) (by omega) d_Mo_feed_83 (fun M_43 h_44 fr_45 => ?_)
          refine G_iinc (lv' := [(7, vI (k + 1)), (0, .ref a), (1, vI x1), (2, vI x2), (3, vI x3), (4, vI x4), (5, vI x5), (6, .ref q_2)]) hC 7 rfl (by rw [hN]; decide) rfl d_Mo_feed_84 ?_
          refine G_goto hC 46 (by decide) d_Mo_feed_87 ?_
          refine G_lv [1, 2, 3, 4, 5, 6, 7, 0] rfl ?_
          exact ih46 M_43 (k + 1) _ (by omega) ((hfr.up (T := [501]) (by simp)).tr' (T := [501]) fr_45 (fun _ z => z) (by simp)) h_44 (by omega) (by rw [List.length_append, List.length_singleton]; omega) (fd_step (by omega) hf)
    refine G_lv [2, 3, 4, 5, 6, 7, 1, 0] rfl ?_
    have h_46 := h_row_tp.fr fr_5 (by decide)
    have h_47 := h_46.fr fr_8 (by decide)
    have h_48 := h_47.fr fr_11 (by decide)
    have h_49 := h_48.fr fr_14 (by decide)
    have h_50 := h_49.fr fr_17 (by decide)
    have h_51 := h_50.fr fr_20 (by decide)
    exact L46 _ M_18 0 _ (Nat.lt_succ_self _) Fr.rf h_51 (by omega) (by omega) hlst
  · refine G_bipush (j := (-3)) hC (by decide +kernel) d_Mo_feed_13 ?_
    have hz9 : 800 < (xs.length : Int) + 20 := by omega
    exact G_iretX hC hQ (by omega) (by omega) d_Mo_feed_15 ⟨by rw [if_pos hz9], by rw [if_pos hz9]; exact h_obj_a, by rw [if_pos hz9]; exact h_row_tp, Fr.rf⟩
