set_option maxHeartbeats 4000000 in
set_option maxRecDepth 100000 in
theorem c_Mo_part {l : Launch} {D : Dg} {b0 : Nat} {M : Mp} {a : Nat} {k : Int} {o : Nat} {tp : Nat} {tm : Int} {en : Int} {ou : Nat} {sa : Nat} {aa : Nat} {na : Nat} {va : Nat} {lo : Nat} {dm : Nat} {fm : Int32} {st : Int} {tg : Nat} {cn : Int} {vo : Int} {pc : Nat} {k0 : Int} {s0 : Int} {f0 : Int} {o0 : Int} {n0 : Int} {w0 : Int32} {ps : List Int} {t : Nat} {len : Nat} {xs : List Int} {W : List Int} (h_obj_a : M a = some (500, .inr (cMo, [.ref tp, vI tm, vI en, .ref ou, .ref sa, .ref aa, .ref na, .ref va, .ref lo, .ref dm, .int fm, vI st, .ref tg, vI cn, vI vo, .ref pc, vI k0, vI s0, vI f0, vI o0, vI n0, .int w0]))) (h_Tx_pc : IsT D M pc 513 100 ps) (h_Tx_o : IsT D M o t len xs) (hk : 0 ≤ k ∧ k < (stL ps 0).length) (ht : tgP t) (hr : (xs ++ partS ps k).take len = W) : Ok l D b0 4 y_Mo_part b_Mo_part 5 none M [.ref a, vI k, .ref o] 0 0 (fun r M' => r = none ∧ IsT D M' o t len W ∧ Fr [t, t + 1] M M') := by
  refine Ok_of rfl (Nat.le_of_ble_eq_true rfl) (fun E hC hQ hl hD hB hN hR => ?_)
  subst hl hD hB
  have hr9 := h_Tx_pc.len
  have hr8 := h_Tx_o.len
  have hst9 := stL_top ps
  have g_4 := h_Tx_pc.len
  obtain ⟨r_1, h_2, h_3⟩ := id h_Tx_pc
  show G E M 0 0 [(0, .ref a), (1, vI k), (2, .ref o)] [] 0
  refine G_iconst (i := 0) hC d_Mo_part_0 ?_
  refine G_istore_n (lv' := [(3, vI 0), (0, .ref a), (1, vI k), (2, .ref o)]) hC rfl (by rw [hN]; decide) rfl d_Mo_part_1 ?_
  refine G_iconst (i := 0) hC d_Mo_part_2 ?_
  refine G_istore (lv' := [(4, vI 0), (3, vI 0), (0, .ref a), (1, vI k), (2, .ref o)]) hC (by rw [hN]; decide) rfl d_Mo_part_3 ?_
  have L5 : ∀ (N : Nat) (i : Int) (n : Int), ((ps.length : Int) - i).toNat < N → (0 ≤ i ∧ i ≤ ps.length ∧ 0 ≤ n ∧ n ≤ k) → ((stL ps 0).drop n.toNat = stL ps i) → (n = k → i = stG ps n) → G E M 0 0 [(0, .ref a), (1, vI k), (2, .ref o), (3, vI i), (4, vI n)] [] 5 := by
    intro N
    induction N with
    | zero => intro i n hN5 hi hB hG; exact absurd hN5 (Nat.not_lt_zero _)
    | succ N ih5 =>
      intro i n hN5 hi hB hG
      refine G_iload hC 4 rfl d_Mo_part_5 ?_
      refine G_iload_n hC 1 rfl rfl d_Mo_part_7 ?_
      refine G_icmp_ge hC 34 (by omega) (by omega) (by decide) d_Mo_part_8 (fun c_5 => ?_) (fun c_5 => ?_)
      · have hnk : n = k := by omega
        have hGn : i = stG ps k := by rw [← hnk]; exact hG hnk
        rw [hnk] at hB
        obtain ⟨r9, hd⟩ := st_head hB (by omega)
        have hg9 := stG_rng ps (k + 1)
        have hg8 := stG_inc (xs := ps) (p := k) (by omega)
        rw [partS_sli (by omega), ← hGn] at hr
        obtain ⟨e, he⟩ : ∃ e, stG ps (k + 1) - 1 = e := ⟨_, rfl⟩
        rw [he] at hd hr
        have L34 : ∀ (N : Nat) (M1 : Mp) (j : Int) (cur : List Int), (e - j).toNat < N → (Fr [t, t + 1] M M1) → (IsT (eD E) M1 o t len cur) → (0 ≤ j ∧ j ≤ e) → (stL ps j = (e + 1) :: r9) → ((cur ++ sliS ps j e).take len = W) → G E M1 0 0 [(0, .ref a), (1, vI k), (2, .ref o), (3, vI j), (4, vI n)] [] 34 := by
          intro N
          induction N with
          | zero => intro M1 j cur hN34 hfr ho1 hj hd hf; exact absurd hN34 (Nat.not_lt_zero _)
          | succ N ih34 =>
            intro M1 j cur hN34 hfr ho1 hj hd hf
            have hcl := ho1.len
            refine G_iload_n hC 3 rfl rfl d_Mo_part_34 ?_
            refine G_aload_n hC 0 rfl rfl d_Mo_part_35 ?_
            have h_6 := hfr.at h_obj_a (tgN ht 500 (by decide))
            refine G_get hC fl_Mo_59 h_6 rfl d_Mo_part_36 ?_
            have h_7 := hfr.at h_2 (tgN ht 513 (by decide))
            refine G_get hC fl_Mo_86 h_7 rfl d_Mo_part_39 ?_
            refine G_icmp_ge hC 78 (by omega) (by omega) (by decide) d_Mo_part_42 (fun c_8 => ?_) (fun c_8 => ?_)
            · have hje : j = e := hd_yes hd (by omega) (by omega)
              rw [hje, sli_nil] at hf
              have hW := put_done (by omega) hf
              exact G_return hC hQ (by omega) (by omega) d_Mo_part_78 ⟨rfl, by rw [← hW]; exact ho1, (hfr.up (T := [t, t + 1]) (by simp))⟩
            · refine G_aload_n hC 0 rfl rfl d_Mo_part_45 ?_
              refine G_get hC fl_Mo_59 h_6 rfl d_Mo_part_46 ?_
              refine G_get hC fl_Mo_192 h_7 rfl d_Mo_part_49 ?_
              refine G_iload_n hC 3 rfl rfl d_Mo_part_52 ?_
              have h_9 := h_3.fr hfr (tgN ht 514 (by decide))
              refine G_baldR hC h_9 (by omega) d_Mo_part_53 ?_
              have g_10 := h_9.rng j
              have g_11 := atS_gx (xs := ps) (i := j) (by omega)
              refine G_bipush (j := 46) hC (by decide +kernel) d_Mo_part_54 ?_
              refine G_icmp_eq hC 78 (by omega) (by decide) (by decide) d_Mo_part_56 (fun c_12 => ?_) (fun c_12 => ?_)
              · have hje : j = e := hd_yes hd (by omega) (by omega)
                rw [hje, sli_nil] at hf
                have hW := put_done (by omega) hf
                exact G_return hC hQ (by omega) (by omega) d_Mo_part_78 ⟨rfl, by rw [← hW]; exact ho1, (hfr.up (T := [t, t + 1]) (by simp))⟩
              · have hlt := (hd_no hd (by omega) (by omega)).2
                refine G_aload_n hC 2 rfl rfl d_Mo_part_59 ?_
                refine G_aload_n hC 0 rfl rfl d_Mo_part_60 ?_
                refine G_get hC fl_Mo_59 h_6 rfl d_Mo_part_61 ?_
                refine G_get hC fl_Mo_192 h_7 rfl d_Mo_part_64 ?_
                refine G_iload_n hC 3 rfl rfl d_Mo_part_67 ?_
                refine G_baldR hC h_9 (by omega) d_Mo_part_68 ?_
                have g_13 := h_9.rng j
                have g_14 := atS_gx (xs := ps) (i := j) (by omega)
                refine G_xS (rest := []) hC hR (c_Mo_put ho1 (by omega)) cs_Mo_184 (by decide) (by omega) (by omega) rfl rfl (Nat.le_of_ble_eq_true rfl) d_Mo_part_69 (fun r_17 M_15 p_16 => ?_)
                obtain ⟨rfl, h_18, fr_19⟩ := p_16
                show G E M_15 (0 + 0) (0 + 0) [(0, .ref a), (1, vI k), (2, .ref o), (3, vI j), (4, vI n)] [] 72
                refine G_iinc (lv' := [(3, vI (j + 1)), (0, .ref a), (1, vI k), (2, .ref o), (4, vI n)]) hC 3 rfl (by rw [hN]; decide) rfl d_Mo_part_72 ?_
                refine G_goto hC 34 (by decide) d_Mo_part_75 ?_
                refine G_lv [1, 2, 3, 0, 4] rfl ?_
                refine G_widen (k' := 0) (n' := 0) (by omega) (by omega) ?_
                exact ih34 M_15 (j + 1) _ (by omega) ((hfr.up (T := [t, t + 1]) (by simp)).tr' (T := [t, t + 1]) fr_19 (fun _ z => z) (by simp)) h_18 (by omega) (hd_no hd (by omega) (by omega)).1 (put_step (by omega) (by omega) (by rw [sli_cons (by omega)] at hf; exact hf))
        refine G_widen (k' := 0) (n' := 0) (by omega) (by omega) ?_
        exact L34 _ M i _ (Nat.lt_succ_self _) Fr.rf h_Tx_o (by omega) hd hr
      · have hin := st_in hB (k := k) (by omega)
        refine G_aload_n hC 0 rfl rfl d_Mo_part_11 ?_
        refine G_get hC fl_Mo_59 h_obj_a rfl d_Mo_part_12 ?_
        refine G_get hC fl_Mo_192 h_2 rfl d_Mo_part_15 ?_
        refine G_iload_n hC 3 rfl rfl d_Mo_part_18 ?_
        refine G_baldR hC h_3 (by omega) d_Mo_part_19 ?_
        have g_20 := h_3.rng i
        have g_21 := atS_gx (xs := ps) (i := i) (by omega)
        refine G_bipush (j := 46) hC (by decide +kernel) d_Mo_part_20 ?_
        refine G_icmp_ne hC 28 (by omega) (by decide) (by decide) d_Mo_part_22 (fun c_22 => ?_) (fun c_22 => ?_)
        · refine G_iinc (lv' := [(3, vI (i + 1)), (0, .ref a), (1, vI k), (2, .ref o), (4, vI n)]) hC 3 rfl (by rw [hN]; decide) rfl d_Mo_part_28 ?_
          refine G_goto hC 5 (by decide) d_Mo_part_31 ?_
          refine G_lv [1, 2, 3, 0, 4] rfl ?_
          exact ih5 (i + 1) n (by omega) (by omega) (st_nodot hB (by omega) (by omega)) (fun z => absurd z (by omega))
        · refine G_iinc (lv' := [(4, vI (n + 1)), (0, .ref a), (1, vI k), (2, .ref o), (3, vI i)]) hC 4 rfl (by rw [hN]; decide) rfl d_Mo_part_25 ?_
          refine G_iinc (lv' := [(3, vI (i + 1)), (4, vI (n + 1)), (0, .ref a), (1, vI k), (2, .ref o)]) hC 4 rfl (by rw [hN]; decide) rfl d_Mo_part_28 ?_
          refine G_goto hC 5 (by decide) d_Mo_part_31 ?_
          refine G_lv [2, 3, 4, 0, 1] rfl ?_
          exact ih5 (i + 1) (n + 1) (by omega) (by omega) (st_dot hB (by omega) (by omega) (by omega)).1 (fun _ => (st_dot hB (by omega) (by omega) (by omega)).2)
  refine G_lv [2, 3, 4, 1, 0] rfl ?_
  exact L5 _ 0 0 (Nat.lt_succ_self _) (by omega) rfl (fun _ => rfl)
