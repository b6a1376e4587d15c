set_option maxHeartbeats 4000000 in
set_option maxRecDepth 100000 in
theorem c_Mo_macroValue {l : Launch} {D : Dg} {b0 : Nat} {M : Mp} {a : Nat} {p : Nat} {q : Int} {to : Int} {d : Nat} {o : Nat} {tp : Nat} {tm : Int} {en : Int} {ou : Nat} {sa : Nat} {aa : Nat} {na : Nat} {va : Nat} {lo : Nat} {dm : Nat} {fm : Int32} {st : Int} {tg : Nat} {cn : Int} {vo : Int} {pc : Nat} {k0 : Int} {s0 : Int} {f0 : Int} {o0 : Int} {n0 : Int} {w0 : Int32} {tr : Nat} {lr : Nat} {ys : List Int} {ls : List Int} {ds : List Int} {td : Nat} {ld : Nat} {X : List Int} {ps : List Int} {t : Nat} {len : Nat} {xs : List Int} {W : List Int} (kk : Int) (nn : Int) (tt : Int) (h_obj_a : M a = some (500, .inr (cMo, [.ref tp, vI tm, vI en, .ref ou, .ref sa, .ref aa, .ref na, .ref va, .ref lo, .ref dm, .int fm, vI st, .ref tg, vI cn, vI vo, .ref pc, vI k0, vI s0, vI f0, vI o0, vI n0, .int w0]))) (h_row_p : Row D M p tr lr ys) (h_Tx_lo : IsT D M lo 508 30 ls) (h_Tx_dm : IsT D M dm 510 60 ds) (h_Tx_d : IsT D M d td ld X) (h_Tx_pc : IsT D M pc 513 100 ps) (h_Tx_o : IsT D M o t len xs) (ht : tgP t) (htd : tdP td t) (htr : trP tr) (hX : X.length ≤ 61) (hsn : sndP (ls, ds, fm)) (hqk : q = kk + 2 ∧ to = kk + nn - 1 ∧ 0 ≤ kk) (h4 : ¬ nn = 0 ∧ ¬ nn = 2) (htt : tt ≤ ys.length) (hm : mlenS ys kk tt = nn) (hr : (xs ++ macS (ls, ds, fm) X ys kk nn).take len = W) : Ok l D b0 5 y_Mo_macroValue b_Mo_macroValue 12 none M [.ref a, .ref p, vI q, vI to, .ref d, .ref o] 0 0 (fun r M' => ∃ ps1 : List Int, r = none ∧ IsT D M' o t len W ∧ IsT D M' pc 513 100 ps1 ∧ Fr [t, t + 1, 513, 514] M M') := by
  refine Ok_of rfl (Nat.le_of_ble_eq_true rfl) (fun E hC hQ hl hD hB hN hR => ?_)
  subst hl hD hB
  have hr9 := h_row_p.len
  have hr8 := h_Tx_o.len
  have hr7 := h_Tx_lo.len
  have hr6 := h_Tx_dm.len
  have hsh : shP ys q to tt := ml_shape hm ⟨hqk.1, hqk.2.1⟩ h4
  obtain ⟨hs1, hs2⟩ := sh_rng hsh
  unfold macS at hr
  have e2 : kk + 2 = q := by omega
  have e3 : kk + 3 = q + 1 := by omega
  have e5 : kk + nn - 2 = to - 1 := by omega
  rw [e2, e3, e5] at hr
  generalize htu : decide (atS ys (to - 1) = 114) = tu at hr
  have g_4 := h_Tx_pc.len
  obtain ⟨r_1, h_2, h_3⟩ := id h_Tx_pc
  have g_8 := h_Tx_lo.len
  obtain ⟨r_5, h_6, h_7⟩ := id h_Tx_lo
  have g_12 := h_Tx_dm.len
  obtain ⟨r_9, h_10, h_11⟩ := id h_Tx_dm
  show G E M 0 0 [(0, .ref a), (1, .ref p), (2, vI q), (3, vI to), (4, .ref d), (5, .ref o)] [] 0
  refine G_aload_n hC 1 rfl rfl d_Mo_macroValue_0 ?_
  refine G_iload_n hC 2 rfl rfl d_Mo_macroValue_1 ?_
  refine G_baldR hC h_row_p (by omega) d_Mo_macroValue_2 ?_
  have g_13 := h_row_p.rng q
  have g_14 := atS_gx (xs := ys) (i := q) (by omega)
  refine G_top (b := atS ys q) (by omega) ?_
  refine G_istore (lv' := [(6, vI (atS ys q)), (0, .ref a), (1, .ref p), (2, vI q), (3, vI to), (4, .ref d), (5, .ref o)]) hC (by rw [hN]; decide) rfl d_Mo_macroValue_3 ?_
  refine G_iconst (i := 0) hC d_Mo_macroValue_5 ?_
  refine G_istore (lv' := [(7, vI 0), (6, vI (atS ys q)), (0, .ref a), (1, .ref p), (2, vI q), (3, vI to), (4, .ref d), (5, .ref o)]) hC (by rw [hN]; decide) rfl d_Mo_macroValue_6 ?_
  refine G_iconst (i := 0) hC d_Mo_macroValue_8 ?_
  refine G_istore (lv' := [(8, vI 0), (7, vI 0), (6, vI (atS ys q)), (0, .ref a), (1, .ref p), (2, vI q), (3, vI to), (4, .ref d), (5, .ref o)]) hC (by rw [hN]; decide) rfl d_Mo_macroValue_9 ?_
  have J35 : ∀ (rd : Int), ((rd = 1 ∧ tu = true) ∨ (rd = 0 ∧ tu = false)) → G E M 0 0 [(0, .ref a), (1, .ref p), (2, vI q), (3, vI to), (4, .ref d), (5, .ref o), (6, vI (atS ys q)), (7, vI 0), (8, vI 0), (9, vI rd)] [] 35 := by
    intro rd hrd
    refine G_iload_n hC 2 rfl rfl d_Mo_macroValue_35 ?_
    refine G_iconst (i := 1) hC d_Mo_macroValue_36 ?_
    refine G_iadd hC d_Mo_macroValue_37 ?_
    refine G_istore (lv' := [(10, vI (q + 1)), (0, .ref a), (1, .ref p), (2, vI q), (3, vI to), (4, .ref d), (5, .ref o), (6, vI (atS ys q)), (7, vI 0), (8, vI 0), (9, vI rd)]) hC (by rw [hN]; decide) rfl d_Mo_macroValue_38 ?_
    have L40 : ∀ (N : Nat) (v : Int) (k : Int), (to - k).toNat < N → (q + 1 ≤ k ∧ k ≤ to) → (nvP ys q k v) → G E M 0 0 [(0, .ref a), (1, .ref p), (2, vI q), (3, vI to), (4, .ref d), (5, .ref o), (6, vI (atS ys q)), (7, vI 0), (8, vI v), (9, vI rd), (10, vI k)] [] 40 := by
      intro N
      induction N with
      | zero => intro v k hN40 hk hv; exact absurd hN40 (Nat.not_lt_zero _)
      | succ N ih40 =>
        intro v k hN40 hk hv
        have hvr := nv_rng hv
        refine G_iload hC 10 rfl d_Mo_macroValue_40 ?_
        refine G_iload_n hC 3 rfl rfl d_Mo_macroValue_42 ?_
        refine G_icmp_ge hC 71 (by omega) (by omega) (by decide) d_Mo_macroValue_43 (fun c_15 => ?_) (fun c_15 => ?_)
        · have J303 : ∀ (M303 : Mp) (ps3 : List Int), (Fr [513, 514] M M303) → (IsT (eD E) M303 pc 513 100 ps3) → (ps3 = srcS (ls, ds, fm) X (atS ys q)) → G E M303 0 0 [(0, .ref a), (1, .ref p), (2, vI q), (3, vI to), (4, .ref d), (5, .ref o), (6, vI (atS ys q)), (7, vI 0), (8, vI v), (9, vI rd)] [] 303 := by
            intro M303 ps3 hfr3 hpc3 hps
            have hl3 : ps3.length ≤ 91 := by rw [hps]; exact srcS_len hsn (by omega)
            rw [← hps] at hr
            have htop := stL_top ps3
            have hpos := stL_pos (xs := ps3) (k := 0) (by omega)
            have g_19 := hpc3.len
            obtain ⟨r_16, h_17, h_18⟩ := id hpc3
            refine G_iconst (i := 1) hC d_Mo_macroValue_303 ?_
            refine G_istore (lv' := [(7, vI 1), (0, .ref a), (1, .ref p), (2, vI q), (3, vI to), (4, .ref d), (5, .ref o), (6, vI (atS ys q)), (8, vI v), (9, vI rd)]) hC (by rw [hN]; decide) rfl d_Mo_macroValue_304 ?_
            refine G_iconst (i := 0) hC d_Mo_macroValue_306 ?_
            refine G_istore (lv' := [(10, vI 0), (7, vI 1), (0, .ref a), (1, .ref p), (2, vI q), (3, vI to), (4, .ref d), (5, .ref o), (6, vI (atS ys q)), (8, vI v), (9, vI rd)]) hC (by rw [hN]; decide) rfl d_Mo_macroValue_307 ?_
            have L309 : ∀ (N : Nat) (parts : Int) (k : Int), ((ps3.length : Int) - k).toNat < N → (0 ≤ k ∧ k ≤ ps3.length ∧ 1 ≤ parts ∧ parts ≤ k + 1) → (parts + ((stL ps3 k).length : Int) = (stL ps3 0).length + 1) → G E M303 0 0 [(0, .ref a), (1, .ref p), (2, vI q), (3, vI to), (4, .ref d), (5, .ref o), (6, vI (atS ys q)), (7, vI parts), (8, vI v), (9, vI rd), (10, vI k)] [] 309 := by
              intro N
              induction N with
              | zero => intro parts k hN309 hk hA; exact absurd hN309 (Nat.not_lt_zero _)
              | succ N ih309 =>
                intro parts k hN309 hk hA
                refine G_iload hC 10 rfl d_Mo_macroValue_309 ?_
                refine G_aload_n hC 0 rfl rfl d_Mo_macroValue_311 ?_
                have h_20 := hfr3.at h_obj_a (by decide)
                refine G_get hC fl_Mo_59 h_20 rfl d_Mo_macroValue_312 ?_
                refine G_get hC fl_Mo_86 h_17 rfl d_Mo_macroValue_315 ?_
                refine G_icmp_ge hC 345 (by omega) (by omega) (by decide) d_Mo_macroValue_318 (fun c_21 => ?_) (fun c_21 => ?_)
                · have hpa : parts = (stL ps3 0).length := by
                    rw [stL_yes (k := k) (by omega) (by omega), stL_end (by omega), List.length_singleton] at hA
                    omega
                  have J368 : ∀ (first : Int), (first = max 0 ((stL ps3 0).length - (if pnP (atS ys (q + 1)) then atS ys (q + 1) - 48 else (ps3.length : Int) + 1))) → G E M303 0 0 [(0, .ref a), (1, .ref p), (2, vI q), (3, vI to), (4, .ref d), (5, .ref o), (6, vI (atS ys q)), (7, vI parts), (8, vI v), (9, vI rd), (10, vI first)] [] 368 := by
                    intro first hfi
                    unfold outS at hr
                    rw [← hfi] at hr
                    have hfr9 : 0 ≤ first ∧ first ≤ (stL ps3 0).length := by rw [hfi]; by_cases z9 : pnP (atS ys (q + 1)); (rw [if_pos z9]; have := z9.1; omega); (rw [if_neg z9]; omega)
                    refine G_iload hC 10 rfl d_Mo_macroValue_368 ?_
                    refine G_istore (lv' := [(11, vI first), (0, .ref a), (1, .ref p), (2, vI q), (3, vI to), (4, .ref d), (5, .ref o), (6, vI (atS ys q)), (7, vI parts), (8, vI v), (9, vI rd), (10, vI first)]) hC (by rw [hN]; decide) rfl d_Mo_macroValue_370 ?_
                    have L372 : ∀ (N : Nat) (M372 : Mp) (k : Int) (cur : List Int), (parts - k).toNat < N → (Fr [t, t + 1] M303 M372) → (IsT (eD E) M372 o t len cur) → (first ≤ k ∧ 0 ≤ k ∧ k ≤ parts) → ((cur ++ outL ps3 first tu k).take len = W) → G E M372 0 0 [(0, .ref a), (1, .ref p), (2, vI q), (3, vI to), (4, .ref d), (5, .ref o), (6, vI (atS ys q)), (7, vI parts), (8, vI v), (9, vI rd), (10, vI first), (11, vI k)] [] 372 := by
                      intro N
                      induction N with
                      | zero => intro M372 k cur hN372 hfr4 ho2 hk hfo; exact absurd hN372 (Nat.not_lt_zero _)
                      | succ N ih372 =>
                        intro M372 k cur hN372 hfr4 ho2 hk hfo
                        have hcl := ho2.len
                        refine G_iload hC 11 rfl d_Mo_macroValue_372 ?_
                        refine G_iload hC 7 rfl d_Mo_macroValue_374 ?_
                        refine G_icmp_ge hC 422 (by omega) (by omega) (by decide) d_Mo_macroValue_376 (fun c_22 => ?_) (fun c_22 => ?_)
                        · have hW := out_end (by omega) (by omega) hfo
                          have h_23 := hpc3.fr hfr4 (tgN ht 513 (by decide)) (tgN ht 514 (by decide))
                          exact G_return hC hQ (by omega) (by omega) d_Mo_macroValue_422 ⟨_, rfl, by rw [← hW]; exact ho2, h_23, ((hfr3.up (T := [t, t + 1, 513, 514]) (by simp)).tr' (T := [t, t + 1, 513, 514]) hfr4 (fun _ z => z) (by simp))⟩
                        · refine G_iload hC 11 rfl d_Mo_macroValue_379 ?_
                          refine G_iload hC 10 rfl d_Mo_macroValue_381 ?_
                          refine G_icmp_le hC 393 (by omega) (by omega) (by decide) d_Mo_macroValue_383 (fun c_24 => ?_) (fun c_24 => ?_)
                          · refine G_aload_n hC 0 rfl rfl d_Mo_macroValue_393 ?_
                            refine G_iload hC 9 rfl d_Mo_macroValue_394 ?_
                            refine G_if_eq hC 409 (by omega) (by decide) d_Mo_macroValue_396 (fun c_25 => ?_) (fun c_25 => ?_)
                            · have htt9 : ¬ tu = true := by rcases hrd with z | z; (exfalso; omega); (rw [z.2]; exact Bool.false_ne_true)
                              refine G_iload hC 11 rfl d_Mo_macroValue_409 ?_
                              refine G_aload hC 5 rfl d_Mo_macroValue_411 ?_
                              have h_26 := hfr4.at h_20 (tgN ht 500 (by decide))
                              have h_27 := hpc3.fr hfr4 (tgN ht 513 (by decide)) (tgN ht 514 (by decide))
                              refine G_xV (rest := []) hC hR (c_Mo_part h_26 h_27 ho2 (by omega) (by first | exact ht | (unfold tgP; omega)) rfl) cv_Mo_200 ⟨_, _, h_26⟩ (by decide) (by omega) (by omega) rfl rfl (Nat.le_of_ble_eq_true rfl) d_Mo_macroValue_413 (fun r_30 M_28 p_29 => ?_)
                              obtain ⟨rfl, h_31, fr_32⟩ := p_29
                              show G E M_28 (0 + 0) (0 + 0) [(0, .ref a), (1, .ref p), (2, vI q), (3, vI to), (4, .ref d), (5, .ref o), (6, vI (atS ys q)), (7, vI parts), (8, vI v), (9, vI rd), (10, vI first), (11, vI k)] [] 416
                              refine G_iinc (lv' := [(11, vI (k + 1)), (0, .ref a), (1, .ref p), (2, vI q), (3, vI to), (4, .ref d), (5, .ref o), (6, vI (atS ys q)), (7, vI parts), (8, vI v), (9, vI rd), (10, vI first)]) hC 11 rfl (by rw [hN]; decide) rfl d_Mo_macroValue_416 ?_
                              refine G_goto hC 372 (by decide) d_Mo_macroValue_419 ?_
                              refine G_lv [1, 2, 3, 4, 5, 6, 7, 8, 9, 10, 11, 0] rfl ?_
                              refine G_widen (k' := 0) (n' := 0) (by omega) (by omega) ?_
                              exact ih372 M_28 (k + 1) _ (by omega) ((hfr4.up (T := [t, t + 1]) (by simp)).tr' (T := [t, t + 1]) fr_32 (fun _ z => z) (by simp)) h_31 (by omega) (by have z := out_step (by omega) (by omega) hfo; rw [if_neg (show ¬ first < k by omega), if_neg htt9] at z; exact z)
                            · have htt9 : tu = true := by rcases hrd with z | z; exact z.2; (exfalso; omega)
                              refine G_iload hC 7 rfl d_Mo_macroValue_399 ?_
                              refine G_iconst (i := 1) hC d_Mo_macroValue_401 ?_
                              refine G_isub hC d_Mo_macroValue_402 ?_
                              refine G_iload hC 11 rfl d_Mo_macroValue_403 ?_
                              refine G_isub hC d_Mo_macroValue_405 ?_
                              refine G_goto hC 411 (by decide) d_Mo_macroValue_406 ?_
                              refine G_aload hC 5 rfl d_Mo_macroValue_411 ?_
                              have h_33 := hfr4.at h_20 (tgN ht 500 (by decide))
                              have h_34 := hpc3.fr hfr4 (tgN ht 513 (by decide)) (tgN ht 514 (by decide))
                              refine G_xV (rest := []) hC hR (c_Mo_part h_33 h_34 ho2 (by omega) (by first | exact ht | (unfold tgP; omega)) rfl) cv_Mo_200 ⟨_, _, h_33⟩ (by decide) (by omega) (by omega) rfl rfl (Nat.le_of_ble_eq_true rfl) d_Mo_macroValue_413 (fun r_37 M_35 p_36 => ?_)
                              obtain ⟨rfl, h_38, fr_39⟩ := p_36
                              show G E M_35 (0 + 0) (0 + 0) [(0, .ref a), (1, .ref p), (2, vI q), (3, vI to), (4, .ref d), (5, .ref o), (6, vI (atS ys q)), (7, vI parts), (8, vI v), (9, vI rd), (10, vI first), (11, vI k)] [] 416
                              refine G_iinc (lv' := [(11, vI (k + 1)), (0, .ref a), (1, .ref p), (2, vI q), (3, vI to), (4, .ref d), (5, .ref o), (6, vI (atS ys q)), (7, vI parts), (8, vI v), (9, vI rd), (10, vI first)]) hC 11 rfl (by rw [hN]; decide) rfl d_Mo_macroValue_416 ?_
                              refine G_goto hC 372 (by decide) d_Mo_macroValue_419 ?_
                              refine G_lv [1, 2, 3, 4, 5, 6, 7, 8, 9, 10, 11, 0] rfl ?_
                              refine G_widen (k' := 0) (n' := 0) (by omega) (by omega) ?_
                              exact ih372 M_35 (k + 1) _ (by omega) ((hfr4.up (T := [t, t + 1]) (by simp)).tr' (T := [t, t + 1]) fr_39 (fun _ z => z) (by simp)) h_38 (by omega) (by have z := out_step (by omega) (by omega) hfo; rw [if_neg (show ¬ first < k by omega), if_pos htt9, ← hpa] at z; exact z)
                          · refine G_aload hC 5 rfl d_Mo_macroValue_386 ?_
                            refine G_bipush (j := 46) hC (by decide +kernel) d_Mo_macroValue_388 ?_
                            refine G_xS (rest := []) hC hR (c_Mo_put ho2 (by omega)) cs_Mo_184 (by decide) (by omega) (by omega) rfl rfl (Nat.le_of_ble_eq_true rfl) d_Mo_macroValue_390 (fun r_42 M_40 p_41 => ?_)
                            obtain ⟨rfl, h_43, fr_44⟩ := p_41
                            show G E M_40 (0 + 0) (0 + 0) [(0, .ref a), (1, .ref p), (2, vI q), (3, vI to), (4, .ref d), (5, .ref o), (6, vI (atS ys q)), (7, vI parts), (8, vI v), (9, vI rd), (10, vI first), (11, vI k)] [] 393
                            refine G_aload_n hC 0 rfl rfl d_Mo_macroValue_393 ?_
                            refine G_iload hC 9 rfl d_Mo_macroValue_394 ?_
                            refine G_if_eq hC 409 (by omega) (by decide) d_Mo_macroValue_396 (fun c_45 => ?_) (fun c_45 => ?_)
                            · have htt9 : ¬ tu = true := by rcases hrd with z | z; (exfalso; omega); (rw [z.2]; exact Bool.false_ne_true)
                              refine G_iload hC 11 rfl d_Mo_macroValue_409 ?_
                              refine G_aload hC 5 rfl d_Mo_macroValue_411 ?_
                              have h_46 := hfr4.at h_20 (tgN ht 500 (by decide))
                              have h_47 := fr_44.at h_46 (tgN ht 500 (by decide))
                              have h_48 := hpc3.fr hfr4 (tgN ht 513 (by decide)) (tgN ht 514 (by decide))
                              have h_49 := h_48.fr fr_44 (tgN ht 513 (by decide)) (tgN ht 514 (by decide))
                              refine G_xV (rest := []) hC hR (c_Mo_part h_47 h_49 h_43 (by omega) (by first | exact ht | (unfold tgP; omega)) rfl) cv_Mo_200 ⟨_, _, h_47⟩ (by decide) (by omega) (by omega) rfl rfl (Nat.le_of_ble_eq_true rfl) d_Mo_macroValue_413 (fun r_52 M_50 p_51 => ?_)
                              obtain ⟨rfl, h_53, fr_54⟩ := p_51
                              show G E M_50 (0 + 0 + 0) (0 + 0 + 0) [(0, .ref a), (1, .ref p), (2, vI q), (3, vI to), (4, .ref d), (5, .ref o), (6, vI (atS ys q)), (7, vI parts), (8, vI v), (9, vI rd), (10, vI first), (11, vI k)] [] 416
                              refine G_iinc (lv' := [(11, vI (k + 1)), (0, .ref a), (1, .ref p), (2, vI q), (3, vI to), (4, .ref d), (5, .ref o), (6, vI (atS ys q)), (7, vI parts), (8, vI v), (9, vI rd), (10, vI first)]) hC 11 rfl (by rw [hN]; decide) rfl d_Mo_macroValue_416 ?_
                              refine G_goto hC 372 (by decide) d_Mo_macroValue_419 ?_
                              refine G_lv [1, 2, 3, 4, 5, 6, 7, 8, 9, 10, 11, 0] rfl ?_
                              refine G_widen (k' := 0) (n' := 0) (by omega) (by omega) ?_
                              exact ih372 M_50 (k + 1) _ (by omega) (((hfr4.up (T := [t, t + 1]) (by simp)).tr' (T := [t, t + 1]) fr_44 (fun _ z => z) (by simp)).tr' (T := [t, t + 1]) fr_54 (fun _ z => z) (by simp)) h_53 (by omega) (by have z := out_step (by omega) (by omega) hfo; rw [if_pos (show first < k by omega), if_neg htt9] at z; exact z)
                            · have htt9 : tu = true := by rcases hrd with z | z; exact z.2; (exfalso; omega)
                              refine G_iload hC 7 rfl d_Mo_macroValue_399 ?_
                              refine G_iconst (i := 1) hC d_Mo_macroValue_401 ?_
                              refine G_isub hC d_Mo_macroValue_402 ?_
                              refine G_iload hC 11 rfl d_Mo_macroValue_403 ?_
                              refine G_isub hC d_Mo_macroValue_405 ?_
                              refine G_goto hC 411 (by decide) d_Mo_macroValue_406 ?_
                              refine G_aload hC 5 rfl d_Mo_macroValue_411 ?_
                              have h_55 := hfr4.at h_20 (tgN ht 500 (by decide))
                              have h_56 := fr_44.at h_55 (tgN ht 500 (by decide))
                              have h_57 := hpc3.fr hfr4 (tgN ht 513 (by decide)) (tgN ht 514 (by decide))
                              have h_58 := h_57.fr fr_44 (tgN ht 513 (by decide)) (tgN ht 514 (by decide))
                              refine G_xV (rest := []) hC hR (c_Mo_part h_56 h_58 h_43 (by omega) (by first | exact ht | (unfold tgP; omega)) rfl) cv_Mo_200 ⟨_, _, h_56⟩ (by decide) (by omega) (by omega) rfl rfl (Nat.le_of_ble_eq_true rfl) d_Mo_macroValue_413 (fun r_61 M_59 p_60 => ?_)
                              obtain ⟨rfl, h_62, fr_63⟩ := p_60
                              show G E M_59 (0 + 0 + 0) (0 + 0 + 0) [(0, .ref a), (1, .ref p), (2, vI q), (3, vI to), (4, .ref d), (5, .ref o), (6, vI (atS ys q)), (7, vI parts), (8, vI v), (9, vI rd), (10, vI first), (11, vI k)] [] 416
                              refine G_iinc (lv' := [(11, vI (k + 1)), (0, .ref a), (1, .ref p), (2, vI q), (3, vI to), (4, .ref d), (5, .ref o), (6, vI (atS ys q)), (7, vI parts), (8, vI v), (9, vI rd), (10, vI first)]) hC 11 rfl (by rw [hN]; decide) rfl d_Mo_macroValue_416 ?_
                              refine G_goto hC 372 (by decide) d_Mo_macroValue_419 ?_
                              refine G_lv [1, 2, 3, 4, 5, 6, 7, 8, 9, 10, 11, 0] rfl ?_
                              refine G_widen (k' := 0) (n' := 0) (by omega) (by omega) ?_
                              exact ih372 M_59 (k + 1) _ (by omega) (((hfr4.up (T := [t, t + 1]) (by simp)).tr' (T := [t, t + 1]) fr_44 (fun _ z => z) (by simp)).tr' (T := [t, t + 1]) fr_63 (fun _ z => z) (by simp)) h_62 (by omega) (by have z := out_step (by omega) (by omega) hfo; rw [if_pos (show first < k by omega), if_pos htt9, ← hpa] at z; exact z)
                    refine G_lv [1, 2, 3, 4, 5, 6, 7, 8, 9, 10, 11, 0] rfl ?_
                    have h_64 := h_Tx_o.fr hfr3 (tgM ht).1 (tgM ht).2
                    refine G_widen (k' := 0) (n' := 0) (by omega) (by omega) ?_
                    exact L372 _ M303 first _ (Nat.lt_succ_self _) Fr.rf h_64 (by omega) hr
                  refine G_iload hC 8 rfl d_Mo_macroValue_345 ?_
                  refine G_if_eq hC 357 (by omega) (by decide) d_Mo_macroValue_347 (fun c_65 => ?_) (fun c_65 => ?_)
                  · refine G_iconst (i := 0) hC d_Mo_macroValue_357 ?_
                    refine G_goto hC 366 (by decide) d_Mo_macroValue_358 ?_
                    refine G_istore (lv' := [(10, vI 0), (0, .ref a), (1, .ref p), (2, vI q), (3, vI to), (4, .ref d), (5, .ref o), (6, vI (atS ys q)), (7, vI parts), (8, vI v), (9, vI rd)]) hC (by rw [hN]; decide) rfl d_Mo_macroValue_366 ?_
                    refine G_lv [1, 2, 3, 4, 5, 6, 7, 8, 9, 10, 0] rfl ?_
                    exact J368 0 (first_is (nv_end hsh (by omega) hv) (by omega) (by omega))
                  · refine G_iload hC 8 rfl d_Mo_macroValue_350 ?_
                    refine G_iload hC 7 rfl d_Mo_macroValue_352 ?_
                    refine G_icmp_lt hC 361 (by omega) (by omega) (by decide) d_Mo_macroValue_354 (fun c_66 => ?_) (fun c_66 => ?_)
                    · refine G_iload hC 7 rfl d_Mo_macroValue_361 ?_
                      refine G_iload hC 8 rfl d_Mo_macroValue_363 ?_
                      refine G_isub hC d_Mo_macroValue_365 ?_
                      refine G_istore (lv' := [(10, vI (parts - v)), (0, .ref a), (1, .ref p), (2, vI q), (3, vI to), (4, .ref d), (5, .ref o), (6, vI (atS ys q)), (7, vI parts), (8, vI v), (9, vI rd)]) hC (by rw [hN]; decide) rfl d_Mo_macroValue_366 ?_
                      refine G_lv [1, 2, 3, 4, 5, 6, 7, 8, 9, 10, 0] rfl ?_
                      exact J368 (parts - v) (first_is (nv_end hsh (by omega) hv) (by omega) (by omega))
                    · refine G_iconst (i := 0) hC d_Mo_macroValue_357 ?_
                      refine G_goto hC 366 (by decide) d_Mo_macroValue_358 ?_
                      refine G_istore (lv' := [(10, vI 0), (0, .ref a), (1, .ref p), (2, vI q), (3, vI to), (4, .ref d), (5, .ref o), (6, vI (atS ys q)), (7, vI parts), (8, vI v), (9, vI rd)]) hC (by rw [hN]; decide) rfl d_Mo_macroValue_366 ?_
                      refine G_lv [1, 2, 3, 4, 5, 6, 7, 8, 9, 10, 0] rfl ?_
                      exact J368 0 (first_is (nv_end hsh (by omega) hv) (by omega) (by omega))
                · refine G_aload_n hC 0 rfl rfl d_Mo_macroValue_321 ?_
                  refine G_get hC fl_Mo_59 h_20 rfl d_Mo_macroValue_322 ?_
                  refine G_get hC fl_Mo_192 h_17 rfl d_Mo_macroValue_325 ?_
                  refine G_iload hC 10 rfl d_Mo_macroValue_328 ?_
                  refine G_baldR hC h_18 (by omega) d_Mo_macroValue_330 ?_
                  have g_67 := h_18.rng k
                  have g_68 := atS_gx (xs := ps3) (i := k) (by omega)
                  refine G_bipush (j := 46) hC (by decide +kernel) d_Mo_macroValue_331 ?_
                  refine G_icmp_ne hC 339 (by omega) (by decide) (by decide) d_Mo_macroValue_333 (fun c_69 => ?_) (fun c_69 => ?_)
                  · refine G_iinc (lv' := [(10, vI (k + 1)), (0, .ref a), (1, .ref p), (2, vI q), (3, vI to), (4, .ref d), (5, .ref o), (6, vI (atS ys q)), (7, vI parts), (8, vI v), (9, vI rd)]) hC 10 rfl (by rw [hN]; decide) rfl d_Mo_macroValue_339 ?_
                    refine G_goto hC 309 (by decide) d_Mo_macroValue_342 ?_
                    refine G_lv [1, 2, 3, 4, 5, 6, 7, 8, 9, 10, 0] rfl ?_
                    exact ih309 parts (k + 1) (by omega) (by omega) (by rw [stL_no (k := k) (by omega) (by omega)] at hA; exact hA)
                  · refine G_iinc (lv' := [(7, vI (parts + 1)), (0, .ref a), (1, .ref p), (2, vI q), (3, vI to), (4, .ref d), (5, .ref o), (6, vI (atS ys q)), (8, vI v), (9, vI rd), (10, vI k)]) hC 7 rfl (by rw [hN]; decide) rfl d_Mo_macroValue_336 ?_
                    refine G_iinc (lv' := [(10, vI (k + 1)), (7, vI (parts + 1)), (0, .ref a), (1, .ref p), (2, vI q), (3, vI to), (4, .ref d), (5, .ref o), (6, vI (atS ys q)), (8, vI v), (9, vI rd)]) hC 10 rfl (by rw [hN]; decide) rfl d_Mo_macroValue_339 ?_
                    refine G_goto hC 309 (by decide) d_Mo_macroValue_342 ?_
                    refine G_lv [2, 3, 4, 5, 6, 7, 8, 1, 9, 10, 0] rfl ?_
                    exact ih309 (parts + 1) (k + 1) (by omega) (by omega) (by rw [stL_yes (k := k) (by omega) (by omega), List.length_cons] at hA; omega)
            refine G_lv [2, 3, 4, 5, 6, 7, 8, 1, 9, 10, 0] rfl ?_
            exact L309 _ 1 0 (Nat.lt_succ_self _) (by omega) (by omega)
          refine G_aload_n hC 0 rfl rfl d_Mo_macroValue_71 ?_
          refine G_get hC fl_Mo_59 h_obj_a rfl d_Mo_macroValue_72 ?_
          refine G_iconst (i := 0) hC d_Mo_macroValue_75 ?_
          refine G_putX (fs' := [.ref r_1, vI 0]) hC fl_Mo_86 ft_Tx fw_Tx_1 h_2 rfl rfl (Nat.le_of_ble_eq_true rfl) rfl d_Mo_macroValue_76 (fun M_70 h_71 fr_72 => ?_)
          have h_73 := h_3.fr fr_72 (by decide)
          have h_74 : IsT (eD E) M_70 pc 513 100 ([] : List Int) := ⟨r_1, h_71, h_73.take 0⟩
          refine G_iload hC 6 rfl d_Mo_macroValue_79 ?_
          refine G_bipush (j := 115) hC (by decide +kernel) d_Mo_macroValue_81 ?_
          refine G_icmp_eq hC 93 (by omega) (by decide) (by decide) d_Mo_macroValue_83 (fun c_75 => ?_) (fun c_75 => ?_)
          · refine G_aload_n hC 0 rfl rfl d_Mo_macroValue_93 ?_
            have h_76 := fr_72.at h_obj_a (by decide)
            refine G_get hC fl_Mo_59 h_76 rfl d_Mo_macroValue_94 ?_
            refine G_aload_n hC 0 rfl rfl d_Mo_macroValue_97 ?_
            refine G_get hC fl_Mo_50 h_76 rfl d_Mo_macroValue_98 ?_
            have h_77 := fr_72.at h_6 (by decide)
            refine G_get hC fl_Mo_192 h_77 rfl d_Mo_macroValue_101 ?_
            refine G_iconst (i := 0) hC d_Mo_macroValue_104 ?_
            refine G_aload_n hC 0 rfl rfl d_Mo_macroValue_105 ?_
            refine G_get hC fl_Mo_50 h_76 rfl d_Mo_macroValue_106 ?_
            refine G_get hC fl_Mo_86 h_77 rfl d_Mo_macroValue_109 ?_
            have h_78 := h_7.fr fr_72 (by decide)
            refine G_xV (rest := []) hC hR (c_Tx_add2 h_74 h_78 (by omega) (by simp only [List.length_nil]; omega) (by decide)) cv_Mo_198 h_74.obj (by decide) (by omega) (by omega) rfl rfl (Nat.le_of_ble_eq_true rfl) d_Mo_macroValue_112 (fun r_81 M_79 p_80 => ?_)
            obtain ⟨rfl, h_82, fr_83⟩ := p_80
            show G E M_79 (0 + 0) (0 + 0) [(0, .ref a), (1, .ref p), (2, vI q), (3, vI to), (4, .ref d), (5, .ref o), (6, vI (atS ys q)), (7, vI 0), (8, vI v), (9, vI rd), (10, vI k)] [] 115
            refine G_iload hC 6 rfl d_Mo_macroValue_115 ?_
            refine G_bipush (j := 115) hC (by decide +kernel) d_Mo_macroValue_117 ?_
            refine G_icmp_ne hC 131 (by omega) (by decide) (by decide) d_Mo_macroValue_119 (fun c_84 => ?_) (fun c_84 => ?_)
            · exact (show False from by have z9 := sh_let hsh; omega).elim
            · refine G_aload_n hC 0 rfl rfl d_Mo_macroValue_122 ?_
              have h_85 := fr_83.at h_76 (by simp only [List.mem_cons, List.not_mem_nil, or_false, not_or, not_false_eq_true]; try omega)
              refine G_get hC fl_Mo_59 h_85 rfl d_Mo_macroValue_123 ?_
              refine G_bipush (j := 64) hC (by decide +kernel) d_Mo_macroValue_126 ?_
              refine G_xV (rest := []) hC hR (c_Tx_add1 h_82 (by omega) (by rw [sl_all, List.nil_append]; omega)) cv_Mo_195 h_82.obj (by decide) (by omega) (by omega) rfl rfl (Nat.le_of_ble_eq_true rfl) d_Mo_macroValue_128 (fun r_88 M_86 p_87 => ?_)
              obtain ⟨rfl, h_89, fr_90⟩ := p_87
              show G E M_86 (0 + 0 + 0) (0 + 0 + 0) [(0, .ref a), (1, .ref p), (2, vI q), (3, vI to), (4, .ref d), (5, .ref o), (6, vI (atS ys q)), (7, vI 0), (8, vI v), (9, vI rd), (10, vI k)] [] 131
              refine G_iload hC 6 rfl d_Mo_macroValue_131 ?_
              refine G_bipush (j := 115) hC (by decide +kernel) d_Mo_macroValue_133 ?_
              refine G_icmp_eq hC 145 (by omega) (by decide) (by decide) d_Mo_macroValue_135 (fun c_91 => ?_) (fun c_91 => ?_)
              · refine G_aload_n hC 0 rfl rfl d_Mo_macroValue_145 ?_
                have h_92 := fr_90.at h_85 (by simp only [List.mem_cons, List.not_mem_nil, or_false, not_or, not_false_eq_true]; try omega)
                refine G_get hC fl_Mo_59 h_92 rfl d_Mo_macroValue_146 ?_
                refine G_aload_n hC 0 rfl rfl d_Mo_macroValue_149 ?_
                refine G_get hC fl_Mo_53 h_92 rfl d_Mo_macroValue_150 ?_
                have h_93 := fr_72.at h_10 (by decide)
                have h_94 := fr_83.at h_93 (by simp only [List.mem_cons, List.not_mem_nil, or_false, not_or, not_false_eq_true]; try omega)
                have h_95 := fr_90.at h_94 (by simp only [List.mem_cons, List.not_mem_nil, or_false, not_or, not_false_eq_true]; try omega)
                refine G_get hC fl_Mo_192 h_95 rfl d_Mo_macroValue_153 ?_
                refine G_iconst (i := 0) hC d_Mo_macroValue_156 ?_
                refine G_aload_n hC 0 rfl rfl d_Mo_macroValue_157 ?_
                refine G_get hC fl_Mo_53 h_92 rfl d_Mo_macroValue_158 ?_
                refine G_get hC fl_Mo_86 h_95 rfl d_Mo_macroValue_161 ?_
                have h_96 := h_11.fr fr_72 (by decide)
                have h_97 := h_96.fr fr_83 (by simp only [List.mem_cons, List.not_mem_nil, or_false, not_or, not_false_eq_true]; try omega)
                have h_98 := h_97.fr fr_90 (by simp only [List.mem_cons, List.not_mem_nil, or_false, not_or, not_false_eq_true]; try omega)
                refine G_xV (rest := []) hC hR (c_Tx_add2 h_89 h_98 (by omega) (by rw [sl_all, List.nil_append, List.length_append, List.length_singleton]; omega) (by decide)) cv_Mo_198 h_89.obj (by decide) (by omega) (by omega) rfl rfl (Nat.le_of_ble_eq_true rfl) d_Mo_macroValue_164 (fun r_101 M_99 p_100 => ?_)
                obtain ⟨rfl, h_102, fr_103⟩ := p_100
                show G E M_99 (0 + 0 + 0 + 0) (0 + 0 + 0 + 0) [(0, .ref a), (1, .ref p), (2, vI q), (3, vI to), (4, .ref d), (5, .ref o), (6, vI (atS ys q)), (7, vI 0), (8, vI v), (9, vI rd), (10, vI k)] [] 167
                refine G_iload hC 6 rfl d_Mo_macroValue_167 ?_
                refine G_bipush (j := 100) hC (by decide +kernel) d_Mo_macroValue_169 ?_
                refine G_icmp_ne hC 192 (by omega) (by decide) (by decide) d_Mo_macroValue_171 (fun c_104 => ?_) (fun c_104 => ?_)
                · refine G_bipush (j := 24) hC (by decide +kernel) d_Mo_macroValue_192 ?_
                  refine G_istore (lv' := [(10, vI 24), (0, .ref a), (1, .ref p), (2, vI q), (3, vI to), (4, .ref d), (5, .ref o), (6, vI (atS ys q)), (7, vI 0), (8, vI v), (9, vI rd)]) hC (by rw [hN]; decide) rfl d_Mo_macroValue_194 ?_
                  refine G_iload hC 7 rfl d_Mo_macroValue_196 ?_
                  refine G_bipush (j := 105) hC (by decide +kernel) d_Mo_macroValue_198 ?_
                  refine G_icmp_ne hC 303 (by omega) (by decide) (by decide) d_Mo_macroValue_200 (fun c_105 => ?_) (fun c_105 => ?_)
                  · refine G_lv [1, 2, 3, 4, 5, 6, 7, 8, 9, 10] rfl ?_
                    exact J303 M_99 _ ((((fr_72.up (T := [513, 514]) (by simp)).tr' (T := [513, 514]) fr_83 (fun _ z => z) (by simp)).tr' (T := [513, 514]) fr_90 (fun _ z => z) (by simp)).tr' (T := [513, 514]) fr_103 (fun _ z => z) (by simp)) h_102 (by rw [src_s (by omega), sl_all, sl_all]; rfl)
                  · exact (show False from by have z9 := sh_let hsh; omega).elim
                · exact (show False from by have z9 := sh_let hsh; omega).elim
              · exact (show False from by have z9 := sh_let hsh; omega).elim
          · refine G_iload hC 6 rfl d_Mo_macroValue_86 ?_
            refine G_bipush (j := 108) hC (by decide +kernel) d_Mo_macroValue_88 ?_
            refine G_icmp_ne hC 115 (by omega) (by decide) (by decide) d_Mo_macroValue_90 (fun c_106 => ?_) (fun c_106 => ?_)
            · refine G_iload hC 6 rfl d_Mo_macroValue_115 ?_
              refine G_bipush (j := 115) hC (by decide +kernel) d_Mo_macroValue_117 ?_
              refine G_icmp_ne hC 131 (by omega) (by decide) (by decide) d_Mo_macroValue_119 (fun c_107 => ?_) (fun c_107 => ?_)
              · refine G_iload hC 6 rfl d_Mo_macroValue_131 ?_
                refine G_bipush (j := 115) hC (by decide +kernel) d_Mo_macroValue_133 ?_
                refine G_icmp_eq hC 145 (by omega) (by decide) (by decide) d_Mo_macroValue_135 (fun c_108 => ?_) (fun c_108 => ?_)
                · exact (show False from by have z9 := sh_let hsh; omega).elim
                · refine G_iload hC 6 rfl d_Mo_macroValue_138 ?_
                  refine G_bipush (j := 111) hC (by decide +kernel) d_Mo_macroValue_140 ?_
                  refine G_icmp_ne hC 167 (by omega) (by decide) (by decide) d_Mo_macroValue_142 (fun c_109 => ?_) (fun c_109 => ?_)
                  · refine G_iload hC 6 rfl d_Mo_macroValue_167 ?_
                    refine G_bipush (j := 100) hC (by decide +kernel) d_Mo_macroValue_169 ?_
                    refine G_icmp_ne hC 192 (by omega) (by decide) (by decide) d_Mo_macroValue_171 (fun c_110 => ?_) (fun c_110 => ?_)
                    · have hdl := dotS_len fm.toInt
                      refine G_bipush (j := 24) hC (by decide +kernel) d_Mo_macroValue_192 ?_
                      refine G_istore (lv' := [(10, vI 24), (0, .ref a), (1, .ref p), (2, vI q), (3, vI to), (4, .ref d), (5, .ref o), (6, vI (atS ys q)), (7, vI 0), (8, vI v), (9, vI rd)]) hC (by rw [hN]; decide) rfl d_Mo_macroValue_194 ?_
                      have L196 : ∀ (N : Nat) (M196 : Mp) (k6 : Int) (cs : List Int), (k6 + 8).toNat < N → (Fr [513, 514] M_70 M196) → (IsT (eD E) M196 pc 513 100 cs) → (k6 = 24 ∨ k6 = 16 ∨ k6 = 8 ∨ k6 = 0 ∨ k6 = -8) → (cs ++ dotR fm.toInt k6 = dotS fm.toInt) → G E M196 0 0 [(0, .ref a), (1, .ref p), (2, vI q), (3, vI to), (4, .ref d), (5, .ref o), (6, vI (atS ys q)), (7, vI 0), (8, vI v), (9, vI rd), (10, vI k6)] [] 196 := by
                        intro N
                        induction N with
                        | zero => intro M196 k6 cs hN196 hfr2 hpc2 hk6 hfd; exact absurd hN196 (Nat.not_lt_zero _)
                        | succ N ih196 =>
                          intro M196 k6 cs hN196 hfr2 hpc2 hk6 hfd
                          have hcl := app_len hfd
                          refine G_iload hC 6 rfl d_Mo_macroValue_196 ?_
                          refine G_bipush (j := 105) hC (by decide +kernel) d_Mo_macroValue_198 ?_
                          refine G_icmp_ne hC 303 (by omega) (by decide) (by decide) d_Mo_macroValue_200 (fun c_111 => ?_) (fun c_111 => ?_)
                          · exact (show False from by have z9 := sh_let hsh; omega).elim
                          · refine G_iload hC 10 rfl d_Mo_macroValue_203 ?_
                            refine G_if_lt hC 303 (by omega) (by decide) d_Mo_macroValue_205 (fun c_112 => ?_) (fun c_112 => ?_)
                            · refine G_lv [0, 1, 2, 3, 4, 5, 6, 7, 8, 9] rfl ?_
                              exact J303 M196 _ ((fr_72.up (T := [513, 514]) (by simp)).tr' (T := [513, 514]) hfr2 (fun _ z => z) (by simp)) hpc2 (by rw [src_i (by omega)]; rw [show dotR fm.toInt k6 = [] by unfold dotR; rw [if_neg (by omega), if_neg (by omega), if_neg (by omega), if_neg (by omega)]] at hfd; rw [List.append_nil] at hfd; exact hfd)
                            · refine G_aload_n hC 0 rfl rfl d_Mo_macroValue_208 ?_
                              have h_113 := fr_72.at h_obj_a (by decide)
                              have h_114 := hfr2.at h_113 (by decide)
                              refine G_get hC fl_Mo_105 h_114 rfl d_Mo_macroValue_209 ?_
                              refine G_X2I ?_
                              have g_115 := zI_rng fm
                              refine G_iload hC 10 rfl d_Mo_macroValue_212 ?_
                              refine G_ishr hC (zI_shr (a := fm.toInt) (k := k6) (by omega) (by omega)) d_Mo_macroValue_214 ?_
                              have g_116 := shS_rng fm.toInt k6 (by omega)
                              refine G_sipush (j := 255) hC (by decide +kernel) d_Mo_macroValue_215 ?_
                              refine G_iand255 hC (by omega) d_Mo_macroValue_218 ?_
                              refine G_istore (lv' := [(11, vI ((shS fm.toInt k6) % 256)), (0, .ref a), (1, .ref p), (2, vI q), (3, vI to), (4, .ref d), (5, .ref o), (6, vI (atS ys q)), (7, vI 0), (8, vI v), (9, vI rd), (10, vI k6)]) hC (by rw [hN]; decide) rfl d_Mo_macroValue_219 ?_
                              refine G_iload hC 0 rfl d_Mo_macroValue_221 ?_
                              refine G_bipush (j := 99) hC (by decide +kernel) d_Mo_macroValue_223 ?_
                              refine G_icmp_le hC 243 (by omega) (by decide) (by decide) d_Mo_macroValue_225 (fun c_117 => ?_) (fun c_117 => ?_)
                              · refine G_iload hC 0 rfl d_Mo_macroValue_243 ?_
                                refine G_bipush (j := 9) hC (by decide +kernel) d_Mo_macroValue_245 ?_
                                refine G_icmp_le hC 268 (by omega) (by decide) (by decide) d_Mo_macroValue_247 (fun c_118 => ?_) (fun c_118 => ?_)
                                · refine G_aload_n hC 1 rfl rfl d_Mo_macroValue_268 ?_
                                  refine G_get hC fl_Mo_59 h_114 rfl d_Mo_macroValue_269 ?_
                                  refine G_bipush (j := 48) hC (by decide +kernel) d_Mo_macroValue_272 ?_
                                  refine G_iload hC 0 rfl d_Mo_macroValue_274 ?_
                                  refine G_bipush (j := 10) hC (by decide +kernel) d_Mo_macroValue_276 ?_
                                  refine G_irem hC (by omega) (by omega) d_Mo_macroValue_278 ?_
                                  refine G_iadd hC d_Mo_macroValue_279 ?_
                                  refine G_xV (rest := []) hC hR (c_Tx_add1 hpc2 (by omega) (by (try simp only [List.length_append, List.length_cons, List.length_nil]); omega)) cv_Mo_195 hpc2.obj (by decide) (by omega) (by omega) rfl rfl (Nat.le_of_ble_eq_true rfl) d_Mo_macroValue_280 (fun r_121 M_119 p_120 => ?_)
                                  obtain ⟨rfl, h_122, fr_123⟩ := p_120
                                  show G E M_119 (0 + 0) (0 + 0) [(11, vI ((shS fm.toInt k6) % 256)), (0, .ref a), (1, .ref p), (2, vI q), (3, vI to), (4, .ref d), (5, .ref o), (6, vI (atS ys q)), (7, vI 0), (8, vI v), (9, vI rd), (10, vI k6)] [] 283
                                  refine G_iload hC 11 rfl d_Mo_macroValue_283 ?_
                                  refine G_if_le hC 297 (by omega) (by decide) d_Mo_macroValue_285 (fun c_124 => ?_) (fun c_124 => ?_)
                                  · refine G_iinc (lv' := [(10, vI (k6 + (-8))), (11, vI ((shS fm.toInt k6) % 256)), (0, .ref a), (1, .ref p), (2, vI q), (3, vI to), (4, .ref d), (5, .ref o), (6, vI (atS ys q)), (7, vI 0), (8, vI v), (9, vI rd)]) hC 11 rfl (by rw [hN]; decide) rfl d_Mo_macroValue_297 ?_
                                    refine G_goto hC 196 (by decide) d_Mo_macroValue_300 ?_
                                    refine G_lv [2, 3, 4, 5, 6, 7, 8, 9, 10, 11, 0] rfl ?_
                                    refine G_widen (k' := 0) (n' := 0) (by omega) (by omega) ?_
                                    exact ih196 M_119 (k6 + (-8)) _ (by omega) ((hfr2.up (T := [513, 514]) (by simp)).tr' (T := [513, 514]) fr_123 (fun _ z => z) (by simp)) h_122 (by omega) (by rw [← hfd, dotR_step (k := k6) (by omega), numS_1 (show ¬ 9 < shS fm.toInt k6 % 256 by omega), if_neg (show ¬ 0 < k6 by omega), sgb_is (c := 48 + shS fm.toInt k6 % 256 % 10) (by omega)]; simp only [List.append_assoc, List.cons_append, List.nil_append, List.append_nil])
                                  · refine G_aload_n hC 1 rfl rfl d_Mo_macroValue_288 ?_
                                    have h_125 := fr_123.at h_114 (by simp only [List.mem_cons, List.not_mem_nil, or_false, not_or, not_false_eq_true]; try omega)
                                    refine G_get hC fl_Mo_59 h_125 rfl d_Mo_macroValue_289 ?_
                                    refine G_bipush (j := 46) hC (by decide +kernel) d_Mo_macroValue_292 ?_
                                    refine G_xV (rest := []) hC hR (c_Tx_add1 h_122 (by omega) (by (try simp only [List.length_append, List.length_cons, List.length_nil]); omega)) cv_Mo_195 h_122.obj (by decide) (by omega) (by omega) rfl rfl (Nat.le_of_ble_eq_true rfl) d_Mo_macroValue_294 (fun r_128 M_126 p_127 => ?_)
                                    obtain ⟨rfl, h_129, fr_130⟩ := p_127
                                    show G E M_126 (0 + 0 + 0) (0 + 0 + 0) [(11, vI ((shS fm.toInt k6) % 256)), (0, .ref a), (1, .ref p), (2, vI q), (3, vI to), (4, .ref d), (5, .ref o), (6, vI (atS ys q)), (7, vI 0), (8, vI v), (9, vI rd), (10, vI k6)] [] 297
                                    refine G_iinc (lv' := [(10, vI (k6 + (-8))), (11, vI ((shS fm.toInt k6) % 256)), (0, .ref a), (1, .ref p), (2, vI q), (3, vI to), (4, .ref d), (5, .ref o), (6, vI (atS ys q)), (7, vI 0), (8, vI v), (9, vI rd)]) hC 11 rfl (by rw [hN]; decide) rfl d_Mo_macroValue_297 ?_
                                    refine G_goto hC 196 (by decide) d_Mo_macroValue_300 ?_
                                    refine G_lv [2, 3, 4, 5, 6, 7, 8, 9, 10, 11, 0] rfl ?_
                                    refine G_widen (k' := 0) (n' := 0) (by omega) (by omega) ?_
                                    exact ih196 M_126 (k6 + (-8)) _ (by omega) (((hfr2.up (T := [513, 514]) (by simp)).tr' (T := [513, 514]) fr_123 (fun _ z => z) (by simp)).tr' (T := [513, 514]) fr_130 (fun _ z => z) (by simp)) h_129 (by omega) (by rw [← hfd, dotR_step (k := k6) (by omega), numS_1 (show ¬ 9 < shS fm.toInt k6 % 256 by omega), if_pos (show 0 < k6 by omega), sgb_is (c := 48 + shS fm.toInt k6 % 256 % 10) (by omega), sgb_is (c := 46) (by omega)]; simp only [List.append_assoc, List.cons_append, List.nil_append, List.append_nil])
                                · refine G_aload_n hC 1 rfl rfl d_Mo_macroValue_250 ?_
                                  refine G_get hC fl_Mo_59 h_114 rfl d_Mo_macroValue_251 ?_
                                  refine G_bipush (j := 48) hC (by decide +kernel) d_Mo_macroValue_254 ?_
                                  refine G_iload hC 0 rfl d_Mo_macroValue_256 ?_
                                  refine G_bipush (j := 10) hC (by decide +kernel) d_Mo_macroValue_258 ?_
                                  refine G_idiv hC (by omega) (by omega) d_Mo_macroValue_260 ?_
                                  refine G_bipush (j := 10) hC (by decide +kernel) d_Mo_macroValue_261 ?_
                                  refine G_irem hC (by omega) (by omega) d_Mo_macroValue_263 ?_
                                  refine G_iadd hC d_Mo_macroValue_264 ?_
                                  refine G_xV (rest := []) hC hR (c_Tx_add1 hpc2 (by omega) (by (try simp only [List.length_append, List.length_cons, List.length_nil]); omega)) cv_Mo_195 hpc2.obj (by decide) (by omega) (by omega) rfl rfl (Nat.le_of_ble_eq_true rfl) d_Mo_macroValue_265 (fun r_133 M_131 p_132 => ?_)
                                  obtain ⟨rfl, h_134, fr_135⟩ := p_132
                                  show G E M_131 (0 + 0) (0 + 0) [(11, vI ((shS fm.toInt k6) % 256)), (0, .ref a), (1, .ref p), (2, vI q), (3, vI to), (4, .ref d), (5, .ref o), (6, vI (atS ys q)), (7, vI 0), (8, vI v), (9, vI rd), (10, vI k6)] [] 268
                                  refine G_aload_n hC 1 rfl rfl d_Mo_macroValue_268 ?_
                                  have h_136 := fr_135.at h_114 (by simp only [List.mem_cons, List.not_mem_nil, or_false, not_or, not_false_eq_true]; try omega)
                                  refine G_get hC fl_Mo_59 h_136 rfl d_Mo_macroValue_269 ?_
                                  refine G_bipush (j := 48) hC (by decide +kernel) d_Mo_macroValue_272 ?_
                                  refine G_iload hC 0 rfl d_Mo_macroValue_274 ?_
                                  refine G_bipush (j := 10) hC (by decide +kernel) d_Mo_macroValue_276 ?_
                                  refine G_irem hC (by omega) (by omega) d_Mo_macroValue_278 ?_
                                  refine G_iadd hC d_Mo_macroValue_279 ?_
                                  refine G_xV (rest := []) hC hR (c_Tx_add1 h_134 (by omega) (by (try simp only [List.length_append, List.length_cons, List.length_nil]); omega)) cv_Mo_195 h_134.obj (by decide) (by omega) (by omega) rfl rfl (Nat.le_of_ble_eq_true rfl) d_Mo_macroValue_280 (fun r_139 M_137 p_138 => ?_)
                                  obtain ⟨rfl, h_140, fr_141⟩ := p_138
                                  show G E M_137 (0 + 0 + 0) (0 + 0 + 0) [(11, vI ((shS fm.toInt k6) % 256)), (0, .ref a), (1, .ref p), (2, vI q), (3, vI to), (4, .ref d), (5, .ref o), (6, vI (atS ys q)), (7, vI 0), (8, vI v), (9, vI rd), (10, vI k6)] [] 283
                                  refine G_iload hC 11 rfl d_Mo_macroValue_283 ?_
                                  refine G_if_le hC 297 (by omega) (by decide) d_Mo_macroValue_285 (fun c_142 => ?_) (fun c_142 => ?_)
                                  · refine G_iinc (lv' := [(10, vI (k6 + (-8))), (11, vI ((shS fm.toInt k6) % 256)), (0, .ref a), (1, .ref p), (2, vI q), (3, vI to), (4, .ref d), (5, .ref o), (6, vI (atS ys q)), (7, vI 0), (8, vI v), (9, vI rd)]) hC 11 rfl (by rw [hN]; decide) rfl d_Mo_macroValue_297 ?_
                                    refine G_goto hC 196 (by decide) d_Mo_macroValue_300 ?_
                                    refine G_lv [2, 3, 4, 5, 6, 7, 8, 9, 10, 11, 0] rfl ?_
                                    refine G_widen (k' := 0) (n' := 0) (by omega) (by omega) ?_
                                    exact ih196 M_137 (k6 + (-8)) _ (by omega) (((hfr2.up (T := [513, 514]) (by simp)).tr' (T := [513, 514]) fr_135 (fun _ z => z) (by simp)).tr' (T := [513, 514]) fr_141 (fun _ z => z) (by simp)) h_140 (by omega) (by rw [← hfd, dotR_step (k := k6) (by omega), numS_2 (show ¬ 99 < shS fm.toInt k6 % 256 by omega) (by omega), if_neg (show ¬ 0 < k6 by omega), sgb_is (c := 48 + shS fm.toInt k6 % 256 / 10 % 10) (by omega), sgb_is (c := 48 + shS fm.toInt k6 % 256 % 10) (by omega)]; simp only [List.append_assoc, List.cons_append, List.nil_append, List.append_nil])
                                  · refine G_aload_n hC 1 rfl rfl d_Mo_macroValue_288 ?_
                                    have h_143 := fr_141.at h_136 (by simp only [List.mem_cons, List.not_mem_nil, or_false, not_or, not_false_eq_true]; try omega)
                                    refine G_get hC fl_Mo_59 h_143 rfl d_Mo_macroValue_289 ?_
                                    refine G_bipush (j := 46) hC (by decide +kernel) d_Mo_macroValue_292 ?_
                                    refine G_xV (rest := []) hC hR (c_Tx_add1 h_140 (by omega) (by (try simp only [List.length_append, List.length_cons, List.length_nil]); omega)) cv_Mo_195 h_140.obj (by decide) (by omega) (by omega) rfl rfl (Nat.le_of_ble_eq_true rfl) d_Mo_macroValue_294 (fun r_146 M_144 p_145 => ?_)
                                    obtain ⟨rfl, h_147, fr_148⟩ := p_145
                                    show G E M_144 (0 + 0 + 0 + 0) (0 + 0 + 0 + 0) [(11, vI ((shS fm.toInt k6) % 256)), (0, .ref a), (1, .ref p), (2, vI q), (3, vI to), (4, .ref d), (5, .ref o), (6, vI (atS ys q)), (7, vI 0), (8, vI v), (9, vI rd), (10, vI k6)] [] 297
                                    refine G_iinc (lv' := [(10, vI (k6 + (-8))), (11, vI ((shS fm.toInt k6) % 256)), (0, .ref a), (1, .ref p), (2, vI q), (3, vI to), (4, .ref d), (5, .ref o), (6, vI (atS ys q)), (7, vI 0), (8, vI v), (9, vI rd)]) hC 11 rfl (by rw [hN]; decide) rfl d_Mo_macroValue_297 ?_
                                    refine G_goto hC 196 (by decide) d_Mo_macroValue_300 ?_
                                    refine G_lv [2, 3, 4, 5, 6, 7, 8, 9, 10, 11, 0] rfl ?_
                                    refine G_widen (k' := 0) (n' := 0) (by omega) (by omega) ?_
                                    exact ih196 M_144 (k6 + (-8)) _ (by omega) ((((hfr2.up (T := [513, 514]) (by simp)).tr' (T := [513, 514]) fr_135 (fun _ z => z) (by simp)).tr' (T := [513, 514]) fr_141 (fun _ z => z) (by simp)).tr' (T := [513, 514]) fr_148 (fun _ z => z) (by simp)) h_147 (by omega) (by rw [← hfd, dotR_step (k := k6) (by omega), numS_2 (show ¬ 99 < shS fm.toInt k6 % 256 by omega) (by omega), if_pos (show 0 < k6 by omega), sgb_is (c := 48 + shS fm.toInt k6 % 256 / 10 % 10) (by omega), sgb_is (c := 48 + shS fm.toInt k6 % 256 % 10) (by omega), sgb_is (c := 46) (by omega)]; simp only [List.append_assoc, List.cons_append, List.nil_append, List.append_nil])
                              · refine G_aload_n hC 1 rfl rfl d_Mo_macroValue_228 ?_
                                refine G_get hC fl_Mo_59 h_114 rfl d_Mo_macroValue_229 ?_
                                refine G_bipush (j := 48) hC (by decide +kernel) d_Mo_macroValue_232 ?_
                                refine G_iload hC 0 rfl d_Mo_macroValue_234 ?_
                                refine G_bipush (j := 100) hC (by decide +kernel) d_Mo_macroValue_236 ?_
                                refine G_idiv hC (by omega) (by omega) d_Mo_macroValue_238 ?_
                                refine G_iadd hC d_Mo_macroValue_239 ?_
                                refine G_xV (rest := []) hC hR (c_Tx_add1 hpc2 (by omega) (by (try simp only [List.length_append, List.length_cons, List.length_nil]); omega)) cv_Mo_195 hpc2.obj (by decide) (by omega) (by omega) rfl rfl (Nat.le_of_ble_eq_true rfl) d_Mo_macroValue_240 (fun r_151 M_149 p_150 => ?_)
                                obtain ⟨rfl, h_152, fr_153⟩ := p_150
                                show G E M_149 (0 + 0) (0 + 0) [(11, vI ((shS fm.toInt k6) % 256)), (0, .ref a), (1, .ref p), (2, vI q), (3, vI to), (4, .ref d), (5, .ref o), (6, vI (atS ys q)), (7, vI 0), (8, vI v), (9, vI rd), (10, vI k6)] [] 243
                                refine G_iload hC 0 rfl d_Mo_macroValue_243 ?_
                                refine G_bipush (j := 9) hC (by decide +kernel) d_Mo_macroValue_245 ?_
                                refine G_icmp_le hC 268 (by omega) (by decide) (by decide) d_Mo_macroValue_247 (fun c_154 => ?_) (fun c_154 => ?_)
                                · exact (show False from by omega).elim
                                · refine G_aload_n hC 1 rfl rfl d_Mo_macroValue_250 ?_
                                  have h_155 := fr_153.at h_114 (by simp only [List.mem_cons, List.not_mem_nil, or_false, not_or, not_false_eq_true]; try omega)
                                  refine G_get hC fl_Mo_59 h_155 rfl d_Mo_macroValue_251 ?_
                                  refine G_bipush (j := 48) hC (by decide +kernel) d_Mo_macroValue_254 ?_
                                  refine G_iload hC 0 rfl d_Mo_macroValue_256 ?_
                                  refine G_bipush (j := 10) hC (by decide +kernel) d_Mo_macroValue_258 ?_
                                  refine G_idiv hC (by omega) (by omega) d_Mo_macroValue_260 ?_
                                  refine G_bipush (j := 10) hC (by decide +kernel) d_Mo_macroValue_261 ?_
                                  refine G_irem hC (by omega) (by omega) d_Mo_macroValue_263 ?_
                                  refine G_iadd hC d_Mo_macroValue_264 ?_
                                  refine G_xV (rest := []) hC hR (c_Tx_add1 h_152 (by omega) (by (try simp only [List.length_append, List.length_cons, List.length_nil]); omega)) cv_Mo_195 h_152.obj (by decide) (by omega) (by omega) rfl rfl (Nat.le_of_ble_eq_true rfl) d_Mo_macroValue_265 (fun r_158 M_156 p_157 => ?_)
                                  obtain ⟨rfl, h_159, fr_160⟩ := p_157
                                  show G E M_156 (0 + 0 + 0) (0 + 0 + 0) [(11, vI ((shS fm.toInt k6) % 256)), (0, .ref a), (1, .ref p), (2, vI q), (3, vI to), (4, .ref d), (5, .ref o), (6, vI (atS ys q)), (7, vI 0), (8, vI v), (9, vI rd), (10, vI k6)] [] 268
                                  refine G_aload_n hC 1 rfl rfl d_Mo_macroValue_268 ?_
                                  have h_161 := fr_160.at h_155 (by simp only [List.mem_cons, List.not_mem_nil, or_false, not_or, not_false_eq_true]; try omega)
                                  refine G_get hC fl_Mo_59 h_161 rfl d_Mo_macroValue_269 ?_
                                  refine G_bipush (j := 48) hC (by decide +kernel) d_Mo_macroValue_272 ?_
                                  refine G_iload hC 0 rfl d_Mo_macroValue_274 ?_
                                  refine G_bipush (j := 10) hC (by decide +kernel) d_Mo_macroValue_276 ?_
                                  refine G_irem hC (by omega) (by omega) d_Mo_macroValue_278 ?_
                                  refine G_iadd hC d_Mo_macroValue_279 ?_
                                  refine G_xV (rest := []) hC hR (c_Tx_add1 h_159 (by omega) (by (try simp only [List.length_append, List.length_cons, List.length_nil]); omega)) cv_Mo_195 h_159.obj (by decide) (by omega) (by omega) rfl rfl (Nat.le_of_ble_eq_true rfl) d_Mo_macroValue_280 (fun r_164 M_162 p_163 => ?_)
                                  obtain ⟨rfl, h_165, fr_166⟩ := p_163
                                  show G E M_162 (0 + 0 + 0 + 0) (0 + 0 + 0 + 0) [(11, vI ((shS fm.toInt k6) % 256)), (0, .ref a), (1, .ref p), (2, vI q), (3, vI to), (4, .ref d), (5, .ref o), (6, vI (atS ys q)), (7, vI 0), (8, vI v), (9, vI rd), (10, vI k6)] [] 283
                                  refine G_iload hC 11 rfl d_Mo_macroValue_283 ?_
                                  refine G_if_le hC 297 (by omega) (by decide) d_Mo_macroValue_285 (fun c_167 => ?_) (fun c_167 => ?_)
                                  · refine G_iinc (lv' := [(10, vI (k6 + (-8))), (11, vI ((shS fm.toInt k6) % 256)), (0, .ref a), (1, .ref p), (2, vI q), (3, vI to), (4, .ref d), (5, .ref o), (6, vI (atS ys q)), (7, vI 0), (8, vI v), (9, vI rd)]) hC 11 rfl (by rw [hN]; decide) rfl d_Mo_macroValue_297 ?_
                                    refine G_goto hC 196 (by decide) d_Mo_macroValue_300 ?_
                                    refine G_lv [2, 3, 4, 5, 6, 7, 8, 9, 10, 11, 0] rfl ?_
                                    refine G_widen (k' := 0) (n' := 0) (by omega) (by omega) ?_
                                    exact ih196 M_162 (k6 + (-8)) _ (by omega) ((((hfr2.up (T := [513, 514]) (by simp)).tr' (T := [513, 514]) fr_153 (fun _ z => z) (by simp)).tr' (T := [513, 514]) fr_160 (fun _ z => z) (by simp)).tr' (T := [513, 514]) fr_166 (fun _ z => z) (by simp)) h_165 (by omega) (by rw [← hfd, dotR_step (k := k6) (by omega), numS_3 (show 99 < shS fm.toInt k6 % 256 by omega), if_neg (show ¬ 0 < k6 by omega), sgb_is (c := 48 + shS fm.toInt k6 % 256 / 100) (by omega), sgb_is (c := 48 + shS fm.toInt k6 % 256 / 10 % 10) (by omega), sgb_is (c := 48 + shS fm.toInt k6 % 256 % 10) (by omega)]; simp only [List.append_assoc, List.cons_append, List.nil_append, List.append_nil])
                                  · refine G_aload_n hC 1 rfl rfl d_Mo_macroValue_288 ?_
                                    have h_168 := fr_166.at h_161 (by simp only [List.mem_cons, List.not_mem_nil, or_false, not_or, not_false_eq_true]; try omega)
                                    refine G_get hC fl_Mo_59 h_168 rfl d_Mo_macroValue_289 ?_
                                    refine G_bipush (j := 46) hC (by decide +kernel) d_Mo_macroValue_292 ?_
                                    refine G_xV (rest := []) hC hR (c_Tx_add1 h_165 (by omega) (by (try simp only [List.length_append, List.length_cons, List.length_nil]); omega)) cv_Mo_195 h_165.obj (by decide) (by omega) (by omega) rfl rfl (Nat.le_of_ble_eq_true rfl) d_Mo_macroValue_294 (fun r_171 M_169 p_170 => ?_)
                                    obtain ⟨rfl, h_172, fr_173⟩ := p_170
                                    show G E M_169 (0 + 0 + 0 + 0 + 0) (0 + 0 + 0 + 0 + 0) [(11, vI ((shS fm.toInt k6) % 256)), (0, .ref a), (1, .ref p), (2, vI q), (3, vI to), (4, .ref d), (5, .ref o), (6, vI (atS ys q)), (7, vI 0), (8, vI v), (9, vI rd), (10, vI k6)] [] 297
                                    refine G_iinc (lv' := [(10, vI (k6 + (-8))), (11, vI ((shS fm.toInt k6) % 256)), (0, .ref a), (1, .ref p), (2, vI q), (3, vI to), (4, .ref d), (5, .ref o), (6, vI (atS ys q)), (7, vI 0), (8, vI v), (9, vI rd)]) hC 11 rfl (by rw [hN]; decide) rfl d_Mo_macroValue_297 ?_
                                    refine G_goto hC 196 (by decide) d_Mo_macroValue_300 ?_
                                    refine G_lv [2, 3, 4, 5, 6, 7, 8, 9, 10, 11, 0] rfl ?_
                                    refine G_widen (k' := 0) (n' := 0) (by omega) (by omega) ?_
                                    exact ih196 M_169 (k6 + (-8)) _ (by omega) (((((hfr2.up (T := [513, 514]) (by simp)).tr' (T := [513, 514]) fr_153 (fun _ z => z) (by simp)).tr' (T := [513, 514]) fr_160 (fun _ z => z) (by simp)).tr' (T := [513, 514]) fr_166 (fun _ z => z) (by simp)).tr' (T := [513, 514]) fr_173 (fun _ z => z) (by simp)) h_172 (by omega) (by rw [← hfd, dotR_step (k := k6) (by omega), numS_3 (show 99 < shS fm.toInt k6 % 256 by omega), if_pos (show 0 < k6 by omega), sgb_is (c := 48 + shS fm.toInt k6 % 256 / 100) (by omega), sgb_is (c := 48 + shS fm.toInt k6 % 256 / 10 % 10) (by omega), sgb_is (c := 48 + shS fm.toInt k6 % 256 % 10) (by omega), sgb_is (c := 46) (by omega)]; simp only [List.append_assoc, List.cons_append, List.nil_append, List.append_nil])
                      refine G_lv [1, 2, 3, 4, 5, 6, 7, 8, 9, 10, 0] rfl ?_
                      refine G_widen (k' := 0) (n' := 0) (by omega) (by omega) ?_
                      exact L196 _ M_70 24 _ (Nat.lt_succ_self _) Fr.rf h_74 (by omega) rfl
                    · have h_174 := h_Tx_d.fr fr_72 (tdM1 htd).1 (tdM1 htd).2
                      have g_178 := h_174.len
                      obtain ⟨r_175, h_176, h_177⟩ := id h_174
                      refine G_aload_n hC 0 rfl rfl d_Mo_macroValue_174 ?_
                      have h_179 := fr_72.at h_obj_a (by decide)
                      refine G_get hC fl_Mo_59 h_179 rfl d_Mo_macroValue_175 ?_
                      refine G_aload hC 4 rfl d_Mo_macroValue_178 ?_
                      refine G_get hC fl_Mo_192 h_176 rfl d_Mo_macroValue_180 ?_
                      refine G_iconst (i := 0) hC d_Mo_macroValue_183 ?_
                      refine G_aload hC 4 rfl d_Mo_macroValue_184 ?_
                      refine G_get hC fl_Mo_86 h_176 rfl d_Mo_macroValue_186 ?_
                      refine G_xV (rest := []) hC hR (c_Tx_add2 h_74 h_177 (by omega) (by simp only [List.length_nil]; omega) (tdX htd)) cv_Mo_198 h_74.obj (by decide) (by omega) (by omega) rfl rfl (Nat.le_of_ble_eq_true rfl) d_Mo_macroValue_189 (fun r_182 M_180 p_181 => ?_)
                      obtain ⟨rfl, h_183, fr_184⟩ := p_181
                      show G E M_180 (0 + 0) (0 + 0) [(0, .ref a), (1, .ref p), (2, vI q), (3, vI to), (4, .ref d), (5, .ref o), (6, vI (atS ys q)), (7, vI 0), (8, vI v), (9, vI rd), (10, vI k)] [] 192
                      refine G_bipush (j := 24) hC (by decide +kernel) d_Mo_macroValue_192 ?_
                      refine G_istore (lv' := [(10, vI 24), (0, .ref a), (1, .ref p), (2, vI q), (3, vI to), (4, .ref d), (5, .ref o), (6, vI (atS ys q)), (7, vI 0), (8, vI v), (9, vI rd)]) hC (by rw [hN]; decide) rfl d_Mo_macroValue_194 ?_
                      refine G_iload hC 7 rfl d_Mo_macroValue_196 ?_
                      refine G_bipush (j := 105) hC (by decide +kernel) d_Mo_macroValue_198 ?_
                      refine G_icmp_ne hC 303 (by omega) (by decide) (by decide) d_Mo_macroValue_200 (fun c_185 => ?_) (fun c_185 => ?_)
                      · refine G_lv [1, 2, 3, 4, 5, 6, 7, 8, 9, 10] rfl ?_
                        exact J303 M_180 _ ((fr_72.up (T := [513, 514]) (by simp)).tr' (T := [513, 514]) fr_184 (fun _ z => z) (by simp)) h_183 (by rw [src_d (by omega), sl_all]; rfl)
                      · exact (show False from by have z9 := sh_let hsh; omega).elim
                  · refine G_aload_n hC 0 rfl rfl d_Mo_macroValue_145 ?_
                    have h_186 := fr_72.at h_obj_a (by decide)
                    refine G_get hC fl_Mo_59 h_186 rfl d_Mo_macroValue_146 ?_
                    refine G_aload_n hC 0 rfl rfl d_Mo_macroValue_149 ?_
                    refine G_get hC fl_Mo_53 h_186 rfl d_Mo_macroValue_150 ?_
                    have h_187 := fr_72.at h_10 (by decide)
                    refine G_get hC fl_Mo_192 h_187 rfl d_Mo_macroValue_153 ?_
                    refine G_iconst (i := 0) hC d_Mo_macroValue_156 ?_
                    refine G_aload_n hC 0 rfl rfl d_Mo_macroValue_157 ?_
                    refine G_get hC fl_Mo_53 h_186 rfl d_Mo_macroValue_158 ?_
                    refine G_get hC fl_Mo_86 h_187 rfl d_Mo_macroValue_161 ?_
                    have h_188 := h_11.fr fr_72 (by decide)
                    refine G_xV (rest := []) hC hR (c_Tx_add2 h_74 h_188 (by omega) (by simp only [List.length_nil]; omega) (by decide)) cv_Mo_198 h_74.obj (by decide) (by omega) (by omega) rfl rfl (Nat.le_of_ble_eq_true rfl) d_Mo_macroValue_164 (fun r_191 M_189 p_190 => ?_)
                    obtain ⟨rfl, h_192, fr_193⟩ := p_190
                    show G E M_189 (0 + 0) (0 + 0) [(0, .ref a), (1, .ref p), (2, vI q), (3, vI to), (4, .ref d), (5, .ref o), (6, vI (atS ys q)), (7, vI 0), (8, vI v), (9, vI rd), (10, vI k)] [] 167
                    refine G_iload hC 6 rfl d_Mo_macroValue_167 ?_
                    refine G_bipush (j := 100) hC (by decide +kernel) d_Mo_macroValue_169 ?_
                    refine G_icmp_ne hC 192 (by omega) (by decide) (by decide) d_Mo_macroValue_171 (fun c_194 => ?_) (fun c_194 => ?_)
                    · refine G_bipush (j := 24) hC (by decide +kernel) d_Mo_macroValue_192 ?_
                      refine G_istore (lv' := [(10, vI 24), (0, .ref a), (1, .ref p), (2, vI q), (3, vI to), (4, .ref d), (5, .ref o), (6, vI (atS ys q)), (7, vI 0), (8, vI v), (9, vI rd)]) hC (by rw [hN]; decide) rfl d_Mo_macroValue_194 ?_
                      refine G_iload hC 7 rfl d_Mo_macroValue_196 ?_
                      refine G_bipush (j := 105) hC (by decide +kernel) d_Mo_macroValue_198 ?_
                      refine G_icmp_ne hC 303 (by omega) (by decide) (by decide) d_Mo_macroValue_200 (fun c_195 => ?_) (fun c_195 => ?_)
                      · refine G_lv [1, 2, 3, 4, 5, 6, 7, 8, 9, 10] rfl ?_
                        exact J303 M_189 _ ((fr_72.up (T := [513, 514]) (by simp)).tr' (T := [513, 514]) fr_193 (fun _ z => z) (by simp)) h_192 (by rw [src_o (by omega), sl_all]; rfl)
                      · exact (show False from by have z9 := sh_let hsh; omega).elim
                    · exact (show False from by have z9 := sh_let hsh; omega).elim
              · exact (show False from by have z9 := sh_let hsh; omega).elim
            · refine G_aload_n hC 0 rfl rfl d_Mo_macroValue_93 ?_
              have h_196 := fr_72.at h_obj_a (by decide)
              refine G_get hC fl_Mo_59 h_196 rfl d_Mo_macroValue_94 ?_
              refine G_aload_n hC 0 rfl rfl d_Mo_macroValue_97 ?_
              refine G_get hC fl_Mo_50 h_196 rfl d_Mo_macroValue_98 ?_
              have h_197 := fr_72.at h_6 (by decide)
              refine G_get hC fl_Mo_192 h_197 rfl d_Mo_macroValue_101 ?_
              refine G_iconst (i := 0) hC d_Mo_macroValue_104 ?_
              refine G_aload_n hC 0 rfl rfl d_Mo_macroValue_105 ?_
              refine G_get hC fl_Mo_50 h_196 rfl d_Mo_macroValue_106 ?_
              refine G_get hC fl_Mo_86 h_197 rfl d_Mo_macroValue_109 ?_
              have h_198 := h_7.fr fr_72 (by decide)
              refine G_xV (rest := []) hC hR (c_Tx_add2 h_74 h_198 (by omega) (by simp only [List.length_nil]; omega) (by decide)) cv_Mo_198 h_74.obj (by decide) (by omega) (by omega) rfl rfl (Nat.le_of_ble_eq_true rfl) d_Mo_macroValue_112 (fun r_201 M_199 p_200 => ?_)
              obtain ⟨rfl, h_202, fr_203⟩ := p_200
              show G E M_199 (0 + 0) (0 + 0) [(0, .ref a), (1, .ref p), (2, vI q), (3, vI to), (4, .ref d), (5, .ref o), (6, vI (atS ys q)), (7, vI 0), (8, vI v), (9, vI rd), (10, vI k)] [] 115
              refine G_iload hC 6 rfl d_Mo_macroValue_115 ?_
              refine G_bipush (j := 115) hC (by decide +kernel) d_Mo_macroValue_117 ?_
              refine G_icmp_ne hC 131 (by omega) (by decide) (by decide) d_Mo_macroValue_119 (fun c_204 => ?_) (fun c_204 => ?_)
              · refine G_iload hC 6 rfl d_Mo_macroValue_131 ?_
                refine G_bipush (j := 115) hC (by decide +kernel) d_Mo_macroValue_133 ?_
                refine G_icmp_eq hC 145 (by omega) (by decide) (by decide) d_Mo_macroValue_135 (fun c_205 => ?_) (fun c_205 => ?_)
                · exact (show False from by have z9 := sh_let hsh; omega).elim
                · refine G_iload hC 6 rfl d_Mo_macroValue_138 ?_
                  refine G_bipush (j := 111) hC (by decide +kernel) d_Mo_macroValue_140 ?_
                  refine G_icmp_ne hC 167 (by omega) (by decide) (by decide) d_Mo_macroValue_142 (fun c_206 => ?_) (fun c_206 => ?_)
                  · refine G_iload hC 6 rfl d_Mo_macroValue_167 ?_
                    refine G_bipush (j := 100) hC (by decide +kernel) d_Mo_macroValue_169 ?_
                    refine G_icmp_ne hC 192 (by omega) (by decide) (by decide) d_Mo_macroValue_171 (fun c_207 => ?_) (fun c_207 => ?_)
                    · refine G_bipush (j := 24) hC (by decide +kernel) d_Mo_macroValue_192 ?_
                      refine G_istore (lv' := [(10, vI 24), (0, .ref a), (1, .ref p), (2, vI q), (3, vI to), (4, .ref d), (5, .ref o), (6, vI (atS ys q)), (7, vI 0), (8, vI v), (9, vI rd)]) hC (by rw [hN]; decide) rfl d_Mo_macroValue_194 ?_
                      refine G_iload hC 7 rfl d_Mo_macroValue_196 ?_
                      refine G_bipush (j := 105) hC (by decide +kernel) d_Mo_macroValue_198 ?_
                      refine G_icmp_ne hC 303 (by omega) (by decide) (by decide) d_Mo_macroValue_200 (fun c_208 => ?_) (fun c_208 => ?_)
                      · refine G_lv [1, 2, 3, 4, 5, 6, 7, 8, 9, 10] rfl ?_
                        exact J303 M_199 _ ((fr_72.up (T := [513, 514]) (by simp)).tr' (T := [513, 514]) fr_203 (fun _ z => z) (by simp)) h_202 (by rw [src_l (by omega), sl_all]; rfl)
                      · exact (show False from by have z9 := sh_let hsh; omega).elim
                    · exact (show False from by have z9 := sh_let hsh; omega).elim
                  · exact (show False from by have z9 := sh_let hsh; omega).elim
              · exact (show False from by have z9 := sh_let hsh; omega).elim
        · refine G_aload_n hC 1 rfl rfl d_Mo_macroValue_46 ?_
          refine G_iload hC 10 rfl d_Mo_macroValue_47 ?_
          refine G_baldR hC h_row_p (by omega) d_Mo_macroValue_49 ?_
          have g_209 := h_row_p.rng k
          have g_210 := atS_gx (xs := ys) (i := k) (by omega)
          refine G_pS (rest := []) hC hR (c_Mo_isDigit (by omega)) cs_Mo_102 (by decide) (by omega) (by omega) rfl rfl (Nat.le_of_ble_eq_true rfl) d_Mo_macroValue_50 ?_
          refine G_if_eq hC 65 (by have := b2i_rng (decide (digP (gx ys k))); omega) (by decide) d_Mo_macroValue_53 (fun c_211 => ?_) (fun c_211 => ?_)
          · have c_211 := b2i_eq0.mp c_211
            have c_211 := of_decide_eq_false c_211
            refine G_iinc (lv' := [(10, vI (k + 1)), (0, .ref a), (1, .ref p), (2, vI q), (3, vI to), (4, .ref d), (5, .ref o), (6, vI (atS ys q)), (7, vI 0), (8, vI v), (9, vI rd)]) hC 10 rfl (by rw [hN]; decide) rfl d_Mo_macroValue_65 ?_
            refine G_goto hC 40 (by decide) d_Mo_macroValue_68 ?_
            refine G_lv [1, 2, 3, 4, 5, 6, 7, 8, 9, 10, 0] rfl ?_
            exact ih40 v (k + 1) (by omega) (by omega) (nv_no hsh (by omega) c_211 (by omega) (atS_gx (by omega)) hv)
          · have c_211 := b2i_ne0.mp c_211
            have c_211 := of_decide_eq_true c_211
            refine G_aload_n hC 1 rfl rfl d_Mo_macroValue_56 ?_
            refine G_iload hC 10 rfl d_Mo_macroValue_57 ?_
            refine G_baldR hC h_row_p (by omega) d_Mo_macroValue_59 ?_
            have g_212 := h_row_p.rng k
            have g_213 := atS_gx (xs := ys) (i := k) (by omega)
            refine G_bipush (j := 48) hC (by decide +kernel) d_Mo_macroValue_60 ?_
            refine G_isub hC d_Mo_macroValue_62 ?_
            refine G_istore (lv' := [(8, vI ((gx ys k) - 48)), (0, .ref a), (1, .ref p), (2, vI q), (3, vI to), (4, .ref d), (5, .ref o), (6, vI (atS ys q)), (7, vI 0), (9, vI rd), (10, vI k)]) hC (by rw [hN]; decide) rfl d_Mo_macroValue_63 ?_
            refine G_iinc (lv' := [(10, vI (k + 1)), (8, vI ((gx ys k) - 48)), (0, .ref a), (1, .ref p), (2, vI q), (3, vI to), (4, .ref d), (5, .ref o), (6, vI (atS ys q)), (7, vI 0), (9, vI rd)]) hC 10 rfl (by rw [hN]; decide) rfl d_Mo_macroValue_65 ?_
            refine G_goto hC 40 (by decide) d_Mo_macroValue_68 ?_
            refine G_lv [2, 3, 4, 5, 6, 7, 8, 9, 1, 10, 0] rfl ?_
            exact ih40 ((gx ys k) - 48) (k + 1) (by omega) (by omega) (nv_yes hsh (by omega) c_211 (atS_gx (by omega)) hv)
    refine G_lv [1, 2, 3, 4, 5, 6, 7, 8, 9, 10, 0] rfl ?_
    exact L40 _ 0 (q + 1) (Nat.lt_succ_self _) (by omega) nv_0
  refine G_aload_n hC 4 rfl rfl d_Mo_macroValue_11 ?_
  refine G_iload_n hC 6 rfl rfl d_Mo_macroValue_12 ?_
  refine G_iconst (i := 1) hC d_Mo_macroValue_13 ?_
  refine G_isub hC d_Mo_macroValue_14 ?_
  refine G_baldR hC h_row_p (by omega) d_Mo_macroValue_15 ?_
  have g_214 := h_row_p.rng (to - 1)
  have g_215 := atS_gx (xs := ys) (i := to - 1) (by omega)
  refine G_bipush (j := 114) hC (by decide +kernel) d_Mo_macroValue_16 ?_
  refine G_icmp_ne hC 32 (by omega) (by decide) (by decide) d_Mo_macroValue_18 (fun c_216 => ?_) (fun c_216 => ?_)
  · refine G_iconst (i := 0) hC d_Mo_macroValue_32 ?_
    refine G_istore (lv' := [(9, vI 0), (8, vI 0), (7, vI 0), (6, vI (atS ys q)), (0, .ref a), (1, .ref p), (2, vI q), (3, vI to), (4, .ref d), (5, .ref o)]) hC (by rw [hN]; decide) rfl d_Mo_macroValue_33 ?_
    refine G_lv [4, 5, 6, 7, 8, 9, 3, 2, 1, 0] rfl ?_
    exact J35 0 (Or.inr ⟨rfl, by rw [← htu]; exact decide_eq_false (fun z => by have z9 := sh_r hsh z; omega)⟩)
  · refine G_iload_n hC 6 rfl rfl d_Mo_macroValue_21 ?_
    refine G_iconst (i := 1) hC d_Mo_macroValue_22 ?_
    refine G_isub hC d_Mo_macroValue_23 ?_
    refine G_iload_n hC 5 rfl rfl d_Mo_macroValue_24 ?_
    refine G_icmp_le hC 32 (by omega) (by omega) (by decide) d_Mo_macroValue_25 (fun c_217 => ?_) (fun c_217 => ?_)
    · refine G_iconst (i := 0) hC d_Mo_macroValue_32 ?_
      refine G_istore (lv' := [(9, vI 0), (8, vI 0), (7, vI 0), (6, vI (atS ys q)), (0, .ref a), (1, .ref p), (2, vI q), (3, vI to), (4, .ref d), (5, .ref o)]) hC (by rw [hN]; decide) rfl d_Mo_macroValue_33 ?_
      refine G_lv [4, 5, 6, 7, 8, 9, 3, 2, 1, 0] rfl ?_
      exact J35 0 (Or.inr ⟨rfl, by rw [← htu]; exact decide_eq_false (fun z => by have z9 := sh_r hsh z; omega)⟩)
    · refine G_iconst (i := 1) hC d_Mo_macroValue_28 ?_
      refine G_goto hC 33 (by decide) d_Mo_macroValue_29 ?_
      refine G_istore (lv' := [(9, vI 1), (8, vI 0), (7, vI 0), (6, vI (atS ys q)), (0, .ref a), (1, .ref p), (2, vI q), (3, vI to), (4, .ref d), (5, .ref o)]) hC (by rw [hN]; decide) rfl d_Mo_macroValue_33 ?_
      refine G_lv [4, 5, 6, 7, 8, 9, 3, 2, 1, 0] rfl ?_
      exact J35 1 (Or.inl ⟨rfl, by rw [← htu]; exact decide_eq_true (by omega)⟩)
