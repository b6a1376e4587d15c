set_option maxHeartbeats 4000000 in
set_option maxRecDepth 100000 in
theorem c_Mo_readTerm {l : Launch} {D : Dg} {b0 : Nat} {M : Mp} {a : Nat} {p : Nat} {start : Int} {to : Int} {tp : Nat} {tm : Int} {en : Int} {ou : Nat} {sa : Nat} {aa : Nat} {na : Nat} {va : Nat} {lo : Nat} {dm : Nat} {fm : Int32} {st : Int} {tg : Nat} {cn : Int} {vo : Int} {pc : Nat} {k0 : Int} {s0 : Int} {f0 : Int} {o0 : Int} {n0 : Int} {w0 : Int32} {t : Nat} {len : Nat} {xs : List Int} {P : Option Tm} (h_obj_a : M a = some (500, .inr (cMo, [.ref tp, vI tm, vI en, .ref ou, .ref sa, .ref aa, .ref na, .ref va, .ref lo, .ref dm, .int fm, vI st, .ref tg, vI cn, vI vo, .ref pc, vI k0, vI s0, vI f0, vI o0, vI n0, .int w0]))) (h_row_p : Row D M p t len xs) (hq9 : 0 ≤ start ∧ start < xs.length) (hto : to = findS xs 32 start xs.length) (htt : t ≠ 500) (hr : readS xs start = P) : Ok l D b0 7 y_Mo_readTerm b_Mo_readTerm 7 none M [.ref a, .ref p, vI start, vI to] 0 0 (fun r M' => ∃ k1 : Int, ∃ n1 : Int, ∃ w1 : Int32, ∃ f1 : Int, ∃ o1 : Int, r = none ∧ M' a = some (500, .inr (cMo, [.ref tp, vI tm, vI en, .ref ou, .ref sa, .ref aa, .ref na, .ref va, .ref lo, .ref dm, .int fm, vI st, .ref tg, vI cn, vI vo, .ref pc, vI k1, vI (sgnS xs start), vI f1, vI o1, vI n1, .int w1])) ∧ (refQ P k1 n1 w1 f1 o1) ∧ Fr [500] M M') := by
  refine Ok_of rfl (Nat.le_of_ble_eq_true rfl) (fun E hC hQ hl hD hB hN hR => ?_)
  subst hl hD hB
  have hr9 := h_row_p.len
  have hfs9 := findS_rng xs 32 start xs.length
  unfold readS at hr
  rw [← hto] at hr
  show G E M 0 0 [(0, .ref a), (1, .ref p), (2, vI start), (3, vI to)] [] 0
  refine G_iload_n hC 2 rfl rfl d_Mo_readTerm_0 ?_
  refine G_istore (lv' := [(4, vI start), (0, .ref a), (1, .ref p), (2, vI start), (3, vI to)]) hC (by rw [hN]; decide) rfl d_Mo_readTerm_1 ?_
  refine G_aload_n hC 1 rfl rfl d_Mo_readTerm_3 ?_
  refine G_bipush (j := 43) hC (by decide +kernel) d_Mo_readTerm_4 ?_
  refine G_putX (fs' := [.ref tp, vI tm, vI en, .ref ou, .ref sa, .ref aa, .ref na, .ref va, .ref lo, .ref dm, .int fm, vI st, .ref tg, vI cn, vI vo, .ref pc, vI k0, vI 43, vI f0, vI o0, vI n0, .int w0]) hC fl_Mo_135 ft_Mo fw_Mo_17 h_obj_a rfl rfl (Nat.le_of_ble_eq_true rfl) rfl d_Mo_readTerm_6 (fun M_1 h_2 fr_3 => ?_)
  refine G_aload_n hC 1 rfl rfl d_Mo_readTerm_9 ?_
  refine G_bipush (j := 8) hC (by decide +kernel) d_Mo_readTerm_10 ?_
  refine G_putX (fs' := [.ref tp, vI tm, vI en, .ref ou, .ref sa, .ref aa, .ref na, .ref va, .ref lo, .ref dm, .int fm, vI st, .ref tg, vI cn, vI vo, .ref pc, vI 8, vI 43, vI f0, vI o0, vI n0, .int w0]) hC fl_Mo_138 ft_Mo fw_Mo_16 h_2 rfl rfl (Nat.le_of_ble_eq_true rfl) rfl d_Mo_readTerm_12 (fun M_4 h_5 fr_6 => ?_)
  refine G_aload_n hC 1 rfl rfl d_Mo_readTerm_15 ?_
  refine G_iconst (i := (-1)) hC d_Mo_readTerm_16 ?_
  refine G_putX (fs' := [.ref tp, vI tm, vI en, .ref ou, .ref sa, .ref aa, .ref na, .ref va, .ref lo, .ref dm, .int fm, vI st, .ref tg, vI cn, vI vo, .ref pc, vI 8, vI 43, vI (-1), vI o0, vI n0, .int w0]) hC fl_Mo_141 ft_Mo fw_Mo_18 h_5 rfl rfl (Nat.le_of_ble_eq_true rfl) rfl d_Mo_readTerm_17 (fun M_7 h_8 fr_9 => ?_)
  refine G_aload_n hC 1 rfl rfl d_Mo_readTerm_20 ?_
  refine G_iconst (i := (-1)) hC d_Mo_readTerm_21 ?_
  refine G_putX (fs' := [.ref tp, vI tm, vI en, .ref ou, .ref sa, .ref aa, .ref na, .ref va, .ref lo, .ref dm, .int fm, vI st, .ref tg, vI cn, vI vo, .ref pc, vI 8, vI 43, vI (-1), vI (-1), vI n0, .int w0]) hC fl_Mo_144 ft_Mo fw_Mo_19 h_8 rfl rfl (Nat.le_of_ble_eq_true rfl) rfl d_Mo_readTerm_22 (fun M_10 h_11 fr_12 => ?_)
  refine G_aload_n hC 1 rfl rfl d_Mo_readTerm_25 ?_
  refine G_bipush (j := 32) hC (by decide +kernel) d_Mo_readTerm_26 ?_
  refine G_putX (fs' := [.ref tp, vI tm, vI en, .ref ou, .ref sa, .ref aa, .ref na, .ref va, .ref lo, .ref dm, .int fm, vI st, .ref tg, vI cn, vI vo, .ref pc, vI 8, vI 43, vI (-1), vI (-1), vI 32, .int w0]) hC fl_Mo_147 ft_Mo fw_Mo_20 h_11 rfl rfl (Nat.le_of_ble_eq_true rfl) rfl d_Mo_readTerm_28 (fun M_13 h_14 fr_15 => ?_)
  have J90 : ∀ (M90 : Mp) (q : Int) (sgv : Int), (Fr [500] M_13 M90) → (M90 a = some (500, .inr (cMo, [.ref tp, vI tm, vI en, .ref ou, .ref sa, .ref aa, .ref na, .ref va, .ref lo, .ref dm, .int fm, vI st, .ref tg, vI cn, vI vo, .ref pc, vI 8, vI (sgnS xs start), vI (-1), vI (-1), vI 32, .int w0]))) → ((sgP (atS xs start) ∧ q = start + 1 ∧ sgv = 1) ∨ (¬ sgP (atS xs start) ∧ q = start ∧ sgv = 0)) → ((refT xs q to).or (refM xs q to (decide (sgP (atS xs start)))) = P) → G E M90 0 0 [(0, .ref a), (1, .ref p), (2, vI start), (3, vI to), (4, vI q), (5, vI sgv)] [] 90 := by
    intro M90 q sgv hfr90 ho90 hq hrr
    have hqq : start ≤ q ∧ q ≤ start + 1 := by omega
    have hqt : q ≤ to := by
      rcases hq with h | h
      · have := sg_stop (xs := xs) (q := start) (to := (xs.length : Int)) h.1 hq9.2
        omega
      · omega
    have J388 : ∀ (M388 : Mp) (k1 : Int) (n1 : Int) (w1 : Int32) (f1 : Int) (o1 : Int), (Fr [500] M90 M388) → (M388 a = some (500, .inr (cMo, [.ref tp, vI tm, vI en, .ref ou, .ref sa, .ref aa, .ref na, .ref va, .ref lo, .ref dm, .int fm, vI st, .ref tg, vI cn, vI vo, .ref pc, vI k1, vI (sgnS xs start), vI f1, vI o1, vI n1, .int w1]))) → (refQ (refT xs q to) k1 n1 w1 f1 o1) → G E M388 0 0 [(0, .ref a), (1, .ref p), (2, vI start), (3, vI to), (4, vI q), (5, vI sgv)] [] 388 := by
      intro M388 k1 n1 w1 f1 o1 hfr388 ho388 hT
      have hkr := rq_rng hT (by omega)
      refine G_aload_n hC 0 rfl rfl d_Mo_readTerm_388 ?_
      refine G_get hC fl_Mo_138 ho388 rfl d_Mo_readTerm_389 ?_
      refine G_bipush (j := 8) hC (by decide +kernel) d_Mo_readTerm_392 ?_
      refine G_icmp_ne hC 402 (by omega) (by decide) (by decide) d_Mo_readTerm_394 (fun c_16 => ?_) (fun c_16 => ?_)
      · exact G_return hC hQ (by omega) (by omega) d_Mo_readTerm_402 ⟨_, _, _, _, _, rfl, ho388, rq_or hT c_16 hrr, (((((((fr_3.up (T := [500]) (by simp)).tr' (T := [500]) fr_6 (fun _ z => z) (by simp)).tr' (T := [500]) fr_9 (fun _ z => z) (by simp)).tr' (T := [500]) fr_12 (fun _ z => z) (by simp)).tr' (T := [500]) fr_15 (fun _ z => z) (by simp)).tr' (T := [500]) hfr90 (fun _ z => z) (by simp)).tr' (T := [500]) hfr388 (fun _ z => z) (by simp))⟩
      · refine G_iload hC 5 rfl d_Mo_readTerm_397 ?_
        refine G_if_eq hC 403 (by omega) (by decide) d_Mo_readTerm_399 (fun c_17 => ?_) (fun c_17 => ?_)
        · have hk8 : k1 = 8 := by omega
          have hsf : decide (sgP (atS xs start)) = false := decide_eq_false (by omega)
          have hM := rq_off hT hk8 hrr (by omega)
          refine G_aload_n hC 1 rfl rfl d_Mo_readTerm_403 ?_
          refine G_iload hC 4 rfl d_Mo_readTerm_404 ?_
          refine G_iload_n hC 3 rfl rfl d_Mo_readTerm_406 ?_
          refine G_ldcS (tx := "redirect=") (i := 7) hC (by decide) d_Mo_readTerm_407 ?_
          have h_18 := h_row_p.fr fr_3 (by simp only [List.mem_cons, List.not_mem_nil, or_false, not_or, not_false_eq_true]; try omega)
          have h_19 := h_18.fr fr_6 (by simp only [List.mem_cons, List.not_mem_nil, or_false, not_or, not_false_eq_true]; try omega)
          have h_20 := h_19.fr fr_9 (by simp only [List.mem_cons, List.not_mem_nil, or_false, not_or, not_false_eq_true]; try omega)
          have h_21 := h_20.fr fr_12 (by simp only [List.mem_cons, List.not_mem_nil, or_false, not_or, not_false_eq_true]; try omega)
          have h_22 := h_21.fr fr_15 (by simp only [List.mem_cons, List.not_mem_nil, or_false, not_or, not_false_eq_true]; try omega)
          have h_23 := h_22.fr hfr90 (by simp only [List.mem_cons, List.not_mem_nil, or_false, not_or, not_false_eq_true]; try omega)
          have h_24 := h_23.fr hfr388 (by simp only [List.mem_cons, List.not_mem_nil, or_false, not_or, not_false_eq_true]; try omega)
          refine G_pS (rest := []) hC hR (c_Mo_begins h_24 (by decide) (by omega) (by omega)) cs_Mo_154 (by decide) (by omega) (by omega) rfl rfl (Nat.le_of_ble_eq_true rfl) d_Mo_readTerm_409 ?_
          refine G_if_eq hC 452 (by have := b2i_rng (hasS xs (wrd 7) q to); omega) (by decide) d_Mo_readTerm_412 (fun c_25 => ?_) (fun c_25 => ?_)
          · have c_25 := b2i_eq0.mp c_25
            have h7f := c_25
            obtain ⟨z, hz⟩ : ∃ z, wdE xs q to q = z := ⟨_, rfl⟩
            rw [refM_8 hsf h7f hqt hz] at hM
            refine G_iload hC 4 rfl d_Mo_readTerm_452 ?_
            refine G_istore (lv' := [(6, vI q), (0, .ref a), (1, .ref p), (2, vI start), (3, vI to), (4, vI q), (5, vI sgv)]) hC (by rw [hN]; decide) rfl d_Mo_readTerm_454 ?_
            have L456 : ∀ (N : Nat) (e : Int), (to - e).toNat < N → (q ≤ e ∧ e ≤ to) → (wdE xs q to e = z) → G E M388 0 0 [(0, .ref a), (1, .ref p), (2, vI start), (3, vI to), (4, vI q), (5, vI sgv), (6, vI e)] [] 456 := by
              intro N
              induction N with
              | zero => intro e hN456 he hf; exact absurd hN456 (Nat.not_lt_zero _)
              | succ N ih456 =>
                intro e hN456 he hf
                refine G_iload hC 6 rfl d_Mo_readTerm_456 ?_
                refine G_iload_n hC 3 rfl rfl d_Mo_readTerm_458 ?_
                refine G_icmp_ge hC 522 (by omega) (by omega) (by decide) d_Mo_readTerm_459 (fun c_26 => ?_) (fun c_26 => ?_)
                · have hze : z = e := by rw [wdE] at hf; (repeat' split at hf); all_goals first | omega | (exfalso; omega)
                  rw [hze] at hM
                  refine G_iload hC 6 rfl d_Mo_readTerm_522 ?_
                  refine G_iload hC 4 rfl d_Mo_readTerm_524 ?_
                  refine G_icmp_le hC 550 (by omega) (by omega) (by decide) d_Mo_readTerm_526 (fun c_27 => ?_) (fun c_27 => ?_)
                  · exact G_return hC hQ (by omega) (by omega) d_Mo_readTerm_550 ⟨_, _, _, _, _, rfl, ho388, rq (hM.symm.trans (if_neg (by omega))) (rq_no hk8), (((((((fr_3.up (T := [500]) (by simp)).tr' (T := [500]) fr_6 (fun _ z => z) (by simp)).tr' (T := [500]) fr_9 (fun _ z => z) (by simp)).tr' (T := [500]) fr_12 (fun _ z => z) (by simp)).tr' (T := [500]) fr_15 (fun _ z => z) (by simp)).tr' (T := [500]) hfr90 (fun _ z => z) (by simp)).tr' (T := [500]) hfr388 (fun _ z => z) (by simp))⟩
                  · refine G_iload hC 6 rfl d_Mo_readTerm_529 ?_
                    refine G_iload_n hC 3 rfl rfl d_Mo_readTerm_531 ?_
                    refine G_icmp_ge hC 550 (by omega) (by omega) (by decide) d_Mo_readTerm_532 (fun c_28 => ?_) (fun c_28 => ?_)
                    · exact G_return hC hQ (by omega) (by omega) d_Mo_readTerm_550 ⟨_, _, _, _, _, rfl, ho388, rq (hM.symm.trans (if_neg (by omega))) (rq_no hk8), (((((((fr_3.up (T := [500]) (by simp)).tr' (T := [500]) fr_6 (fun _ z => z) (by simp)).tr' (T := [500]) fr_9 (fun _ z => z) (by simp)).tr' (T := [500]) fr_12 (fun _ z => z) (by simp)).tr' (T := [500]) fr_15 (fun _ z => z) (by simp)).tr' (T := [500]) hfr90 (fun _ z => z) (by simp)).tr' (T := [500]) hfr388 (fun _ z => z) (by simp))⟩
                    · refine G_aload_n hC 1 rfl rfl d_Mo_readTerm_535 ?_
                      refine G_iload hC 6 rfl d_Mo_readTerm_536 ?_
                      refine G_baldR hC h_24 (by omega) d_Mo_readTerm_538 ?_
                      have g_29 := h_24.rng e
                      have g_30 := atS_gx (xs := xs) (i := e) (by omega)
                      refine G_bipush (j := 61) hC (by decide +kernel) d_Mo_readTerm_539 ?_
                      refine G_icmp_ne hC 550 (by omega) (by decide) (by decide) d_Mo_readTerm_541 (fun c_31 => ?_) (fun c_31 => ?_)
                      · exact G_return hC hQ (by omega) (by omega) d_Mo_readTerm_550 ⟨_, _, _, _, _, rfl, ho388, rq (hM.symm.trans (if_neg (by omega))) (rq_no hk8), (((((((fr_3.up (T := [500]) (by simp)).tr' (T := [500]) fr_6 (fun _ z => z) (by simp)).tr' (T := [500]) fr_9 (fun _ z => z) (by simp)).tr' (T := [500]) fr_12 (fun _ z => z) (by simp)).tr' (T := [500]) fr_15 (fun _ z => z) (by simp)).tr' (T := [500]) hfr90 (fun _ z => z) (by simp)).tr' (T := [500]) hfr388 (fun _ z => z) (by simp))⟩
                      · refine G_aload_n hC 0 rfl rfl d_Mo_readTerm_544 ?_
                        refine G_bipush (j := 7) hC (by decide +kernel) d_Mo_readTerm_545 ?_
                        refine G_putX (fs' := [.ref tp, vI tm, vI en, .ref ou, .ref sa, .ref aa, .ref na, .ref va, .ref lo, .ref dm, .int fm, vI st, .ref tg, vI cn, vI vo, .ref pc, vI 7, vI (sgnS xs start), vI f1, vI o1, vI n1, .int w1]) hC fl_Mo_138 ft_Mo fw_Mo_16 ho388 rfl rfl (Nat.le_of_ble_eq_true rfl) rfl d_Mo_readTerm_547 (fun M_32 h_33 fr_34 => ?_)
                        exact G_return hC hQ (by omega) (by omega) d_Mo_readTerm_550 ⟨_, _, _, _, _, rfl, h_33, rq (hM.symm.trans (if_pos (by omega))) (rq_plain (by omega)), ((((((((fr_3.up (T := [500]) (by simp)).tr' (T := [500]) fr_6 (fun _ z => z) (by simp)).tr' (T := [500]) fr_9 (fun _ z => z) (by simp)).tr' (T := [500]) fr_12 (fun _ z => z) (by simp)).tr' (T := [500]) fr_15 (fun _ z => z) (by simp)).tr' (T := [500]) hfr90 (fun _ z => z) (by simp)).tr' (T := [500]) hfr388 (fun _ z => z) (by simp)).tr' (T := [500]) fr_34 (fun _ z => z) (by simp))⟩
                · refine G_aload_n hC 1 rfl rfl d_Mo_readTerm_462 ?_
                  refine G_iload hC 6 rfl d_Mo_readTerm_463 ?_
                  refine G_baldR hC h_24 (by omega) d_Mo_readTerm_465 ?_
                  have g_35 := h_24.rng e
                  have g_36 := atS_gx (xs := xs) (i := e) (by omega)
                  refine G_pS (rest := []) hC hR (c_Mo_isSmall (by omega)) cs_Mo_98 (by decide) (by omega) (by omega) rfl rfl (Nat.le_of_ble_eq_true rfl) d_Mo_readTerm_466 ?_
                  refine G_if_ne hC 516 (by have := b2i_rng (decide (letP (gx xs e))); omega) (by decide) d_Mo_readTerm_469 (fun c_37 => ?_) (fun c_37 => ?_)
                  · have c_37 := b2i_ne0.mp c_37
                    have c_37 := of_decide_eq_true c_37
                    refine G_iinc (lv' := [(6, vI (e + 1)), (0, .ref a), (1, .ref p), (2, vI start), (3, vI to), (4, vI q), (5, vI sgv)]) hC 6 rfl (by rw [hN]; decide) rfl d_Mo_readTerm_516 ?_
                    refine G_goto hC 456 (by decide) d_Mo_readTerm_519 ?_
                    refine G_lv [1, 2, 3, 4, 5, 6, 0] rfl ?_
                    exact ih456 (e + 1) (by omega) (by omega) (by rw [wdE] at hf; (repeat' split at hf); all_goals first | exact hf | (exfalso; omega) | omega)
                  · have c_37 := b2i_eq0.mp c_37
                    have c_37 := of_decide_eq_false c_37
                    refine G_iload hC 6 rfl d_Mo_readTerm_472 ?_
                    refine G_iload hC 4 rfl d_Mo_readTerm_474 ?_
                    refine G_icmp_le hC 522 (by omega) (by omega) (by decide) d_Mo_readTerm_476 (fun c_38 => ?_) (fun c_38 => ?_)
                    · have hze : z = e := by rw [wdE] at hf; (repeat' split at hf); all_goals first | omega | (exfalso; omega)
                      rw [hze] at hM
                      refine G_iload hC 6 rfl d_Mo_readTerm_522 ?_
                      refine G_iload hC 4 rfl d_Mo_readTerm_524 ?_
                      refine G_icmp_le hC 550 (by omega) (by omega) (by decide) d_Mo_readTerm_526 (fun c_39 => ?_) (fun c_39 => ?_)
                      · exact G_return hC hQ (by omega) (by omega) d_Mo_readTerm_550 ⟨_, _, _, _, _, rfl, ho388, rq (hM.symm.trans (if_neg (by omega))) (rq_no hk8), (((((((fr_3.up (T := [500]) (by simp)).tr' (T := [500]) fr_6 (fun _ z => z) (by simp)).tr' (T := [500]) fr_9 (fun _ z => z) (by simp)).tr' (T := [500]) fr_12 (fun _ z => z) (by simp)).tr' (T := [500]) fr_15 (fun _ z => z) (by simp)).tr' (T := [500]) hfr90 (fun _ z => z) (by simp)).tr' (T := [500]) hfr388 (fun _ z => z) (by simp))⟩
                      · refine G_iload hC 6 rfl d_Mo_readTerm_529 ?_
                        refine G_iload_n hC 3 rfl rfl d_Mo_readTerm_531 ?_
                        refine G_icmp_ge hC 550 (by omega) (by omega) (by decide) d_Mo_readTerm_532 (fun c_40 => ?_) (fun c_40 => ?_)
                        · exact G_return hC hQ (by omega) (by omega) d_Mo_readTerm_550 ⟨_, _, _, _, _, rfl, ho388, rq (hM.symm.trans (if_neg (by omega))) (rq_no hk8), (((((((fr_3.up (T := [500]) (by simp)).tr' (T := [500]) fr_6 (fun _ z => z) (by simp)).tr' (T := [500]) fr_9 (fun _ z => z) (by simp)).tr' (T := [500]) fr_12 (fun _ z => z) (by simp)).tr' (T := [500]) fr_15 (fun _ z => z) (by simp)).tr' (T := [500]) hfr90 (fun _ z => z) (by simp)).tr' (T := [500]) hfr388 (fun _ z => z) (by simp))⟩
                        · refine G_aload_n hC 1 rfl rfl d_Mo_readTerm_535 ?_
                          refine G_iload hC 6 rfl d_Mo_readTerm_536 ?_
                          refine G_baldR hC h_24 (by omega) d_Mo_readTerm_538 ?_
                          have g_41 := h_24.rng e
                          have g_42 := atS_gx (xs := xs) (i := e) (by omega)
                          refine G_bipush (j := 61) hC (by decide +kernel) d_Mo_readTerm_539 ?_
                          refine G_icmp_ne hC 550 (by omega) (by decide) (by decide) d_Mo_readTerm_541 (fun c_43 => ?_) (fun c_43 => ?_)
                          · exact G_return hC hQ (by omega) (by omega) d_Mo_readTerm_550 ⟨_, _, _, _, _, rfl, ho388, rq (hM.symm.trans (if_neg (by omega))) (rq_no hk8), (((((((fr_3.up (T := [500]) (by simp)).tr' (T := [500]) fr_6 (fun _ z => z) (by simp)).tr' (T := [500]) fr_9 (fun _ z => z) (by simp)).tr' (T := [500]) fr_12 (fun _ z => z) (by simp)).tr' (T := [500]) fr_15 (fun _ z => z) (by simp)).tr' (T := [500]) hfr90 (fun _ z => z) (by simp)).tr' (T := [500]) hfr388 (fun _ z => z) (by simp))⟩
                          · refine G_aload_n hC 0 rfl rfl d_Mo_readTerm_544 ?_
                            refine G_bipush (j := 7) hC (by decide +kernel) d_Mo_readTerm_545 ?_
                            refine G_putX (fs' := [.ref tp, vI tm, vI en, .ref ou, .ref sa, .ref aa, .ref na, .ref va, .ref lo, .ref dm, .int fm, vI st, .ref tg, vI cn, vI vo, .ref pc, vI 7, vI (sgnS xs start), vI f1, vI o1, vI n1, .int w1]) hC fl_Mo_138 ft_Mo fw_Mo_16 ho388 rfl rfl (Nat.le_of_ble_eq_true rfl) rfl d_Mo_readTerm_547 (fun M_44 h_45 fr_46 => ?_)
                            exact G_return hC hQ (by omega) (by omega) d_Mo_readTerm_550 ⟨_, _, _, _, _, rfl, h_45, rq (hM.symm.trans (if_pos (by omega))) (rq_plain (by omega)), ((((((((fr_3.up (T := [500]) (by simp)).tr' (T := [500]) fr_6 (fun _ z => z) (by simp)).tr' (T := [500]) fr_9 (fun _ z => z) (by simp)).tr' (T := [500]) fr_12 (fun _ z => z) (by simp)).tr' (T := [500]) fr_15 (fun _ z => z) (by simp)).tr' (T := [500]) hfr90 (fun _ z => z) (by simp)).tr' (T := [500]) hfr388 (fun _ z => z) (by simp)).tr' (T := [500]) fr_46 (fun _ z => z) (by simp))⟩
                    · refine G_aload_n hC 1 rfl rfl d_Mo_readTerm_479 ?_
                      refine G_iload hC 6 rfl d_Mo_readTerm_480 ?_
                      refine G_baldR hC h_24 (by omega) d_Mo_readTerm_482 ?_
                      have g_47 := h_24.rng e
                      have g_48 := atS_gx (xs := xs) (i := e) (by omega)
                      refine G_pS (rest := []) hC hR (c_Mo_isDigit (by omega)) cs_Mo_102 (by decide) (by omega) (by omega) rfl rfl (Nat.le_of_ble_eq_true rfl) d_Mo_readTerm_483 ?_
                      refine G_if_ne hC 516 (by have := b2i_rng (decide (digP (gx xs e))); omega) (by decide) d_Mo_readTerm_486 (fun c_49 => ?_) (fun c_49 => ?_)
                      · have c_49 := b2i_ne0.mp c_49
                        have c_49 := of_decide_eq_true c_49
                        refine G_iinc (lv' := [(6, vI (e + 1)), (0, .ref a), (1, .ref p), (2, vI start), (3, vI to), (4, vI q), (5, vI sgv)]) hC 6 rfl (by rw [hN]; decide) rfl d_Mo_readTerm_516 ?_
                        refine G_goto hC 456 (by decide) d_Mo_readTerm_519 ?_
                        refine G_lv [1, 2, 3, 4, 5, 6, 0] rfl ?_
                        exact ih456 (e + 1) (by omega) (by omega) (by rw [wdE] at hf; (repeat' split at hf); all_goals first | exact hf | (exfalso; omega) | omega)
                      · have c_49 := b2i_eq0.mp c_49
                        have c_49 := of_decide_eq_false c_49
                        refine G_aload_n hC 1 rfl rfl d_Mo_readTerm_489 ?_
                        refine G_iload hC 6 rfl d_Mo_readTerm_490 ?_
                        refine G_baldR hC h_24 (by omega) d_Mo_readTerm_492 ?_
                        have g_50 := h_24.rng e
                        have g_51 := atS_gx (xs := xs) (i := e) (by omega)
                        refine G_bipush (j := 45) hC (by decide +kernel) d_Mo_readTerm_493 ?_
                        refine G_icmp_eq hC 516 (by omega) (by decide) (by decide) d_Mo_readTerm_495 (fun c_52 => ?_) (fun c_52 => ?_)
                        · refine G_iinc (lv' := [(6, vI (e + 1)), (0, .ref a), (1, .ref p), (2, vI start), (3, vI to), (4, vI q), (5, vI sgv)]) hC 6 rfl (by rw [hN]; decide) rfl d_Mo_readTerm_516 ?_
                          refine G_goto hC 456 (by decide) d_Mo_readTerm_519 ?_
                          refine G_lv [1, 2, 3, 4, 5, 6, 0] rfl ?_
                          exact ih456 (e + 1) (by omega) (by omega) (by rw [wdE] at hf; (repeat' split at hf); all_goals first | exact hf | (exfalso; omega) | omega)
                        · refine G_aload_n hC 1 rfl rfl d_Mo_readTerm_498 ?_
                          refine G_iload hC 6 rfl d_Mo_readTerm_499 ?_
                          refine G_baldR hC h_24 (by omega) d_Mo_readTerm_501 ?_
                          have g_53 := h_24.rng e
                          have g_54 := atS_gx (xs := xs) (i := e) (by omega)
                          refine G_bipush (j := 95) hC (by decide +kernel) d_Mo_readTerm_502 ?_
                          refine G_icmp_eq hC 516 (by omega) (by decide) (by decide) d_Mo_readTerm_504 (fun c_55 => ?_) (fun c_55 => ?_)
                          · refine G_iinc (lv' := [(6, vI (e + 1)), (0, .ref a), (1, .ref p), (2, vI start), (3, vI to), (4, vI q), (5, vI sgv)]) hC 6 rfl (by rw [hN]; decide) rfl d_Mo_readTerm_516 ?_
                            refine G_goto hC 456 (by decide) d_Mo_readTerm_519 ?_
                            refine G_lv [1, 2, 3, 4, 5, 6, 0] rfl ?_
                            exact ih456 (e + 1) (by omega) (by omega) (by rw [wdE] at hf; (repeat' split at hf); all_goals first | exact hf | (exfalso; omega) | omega)
                          · refine G_aload_n hC 1 rfl rfl d_Mo_readTerm_507 ?_
                            refine G_iload hC 6 rfl d_Mo_readTerm_508 ?_
                            refine G_baldR hC h_24 (by omega) d_Mo_readTerm_510 ?_
                            have g_56 := h_24.rng e
                            have g_57 := atS_gx (xs := xs) (i := e) (by omega)
                            refine G_bipush (j := 46) hC (by decide +kernel) d_Mo_readTerm_511 ?_
                            refine G_icmp_ne hC 522 (by omega) (by decide) (by decide) d_Mo_readTerm_513 (fun c_58 => ?_) (fun c_58 => ?_)
                            · have hze : z = e := by rw [wdE] at hf; (repeat' split at hf); all_goals first | omega | (exfalso; omega)
                              rw [hze] at hM
                              refine G_iload hC 6 rfl d_Mo_readTerm_522 ?_
                              refine G_iload hC 4 rfl d_Mo_readTerm_524 ?_
                              refine G_icmp_le hC 550 (by omega) (by omega) (by decide) d_Mo_readTerm_526 (fun c_59 => ?_) (fun c_59 => ?_)
                              · exact G_return hC hQ (by omega) (by omega) d_Mo_readTerm_550 ⟨_, _, _, _, _, rfl, ho388, rq (hM.symm.trans (if_neg (by omega))) (rq_no hk8), (((((((fr_3.up (T := [500]) (by simp)).tr' (T := [500]) fr_6 (fun _ z => z) (by simp)).tr' (T := [500]) fr_9 (fun _ z => z) (by simp)).tr' (T := [500]) fr_12 (fun _ z => z) (by simp)).tr' (T := [500]) fr_15 (fun _ z => z) (by simp)).tr' (T := [500]) hfr90 (fun _ z => z) (by simp)).tr' (T := [500]) hfr388 (fun _ z => z) (by simp))⟩
                              · refine G_iload hC 6 rfl d_Mo_readTerm_529 ?_
                                refine G_iload_n hC 3 rfl rfl d_Mo_readTerm_531 ?_
                                refine G_icmp_ge hC 550 (by omega) (by omega) (by decide) d_Mo_readTerm_532 (fun c_60 => ?_) (fun c_60 => ?_)
                                · exact G_return hC hQ (by omega) (by omega) d_Mo_readTerm_550 ⟨_, _, _, _, _, rfl, ho388, rq (hM.symm.trans (if_neg (by omega))) (rq_no hk8), (((((((fr_3.up (T := [500]) (by simp)).tr' (T := [500]) fr_6 (fun _ z => z) (by simp)).tr' (T := [500]) fr_9 (fun _ z => z) (by simp)).tr' (T := [500]) fr_12 (fun _ z => z) (by simp)).tr' (T := [500]) fr_15 (fun _ z => z) (by simp)).tr' (T := [500]) hfr90 (fun _ z => z) (by simp)).tr' (T := [500]) hfr388 (fun _ z => z) (by simp))⟩
                                · refine G_aload_n hC 1 rfl rfl d_Mo_readTerm_535 ?_
                                  refine G_iload hC 6 rfl d_Mo_readTerm_536 ?_
                                  refine G_baldR hC h_24 (by omega) d_Mo_readTerm_538 ?_
                                  have g_61 := h_24.rng e
                                  have g_62 := atS_gx (xs := xs) (i := e) (by omega)
                                  refine G_bipush (j := 61) hC (by decide +kernel) d_Mo_readTerm_539 ?_
                                  refine G_icmp_ne hC 550 (by omega) (by decide) (by decide) d_Mo_readTerm_541 (fun c_63 => ?_) (fun c_63 => ?_)
                                  · exact G_return hC hQ (by omega) (by omega) d_Mo_readTerm_550 ⟨_, _, _, _, _, rfl, ho388, rq (hM.symm.trans (if_neg (by omega))) (rq_no hk8), (((((((fr_3.up (T := [500]) (by simp)).tr' (T := [500]) fr_6 (fun _ z => z) (by simp)).tr' (T := [500]) fr_9 (fun _ z => z) (by simp)).tr' (T := [500]) fr_12 (fun _ z => z) (by simp)).tr' (T := [500]) fr_15 (fun _ z => z) (by simp)).tr' (T := [500]) hfr90 (fun _ z => z) (by simp)).tr' (T := [500]) hfr388 (fun _ z => z) (by simp))⟩
                                  · refine G_aload_n hC 0 rfl rfl d_Mo_readTerm_544 ?_
                                    refine G_bipush (j := 7) hC (by decide +kernel) d_Mo_readTerm_545 ?_
                                    refine G_putX (fs' := [.ref tp, vI tm, vI en, .ref ou, .ref sa, .ref aa, .ref na, .ref va, .ref lo, .ref dm, .int fm, vI st, .ref tg, vI cn, vI vo, .ref pc, vI 7, vI (sgnS xs start), vI f1, vI o1, vI n1, .int w1]) hC fl_Mo_138 ft_Mo fw_Mo_16 ho388 rfl rfl (Nat.le_of_ble_eq_true rfl) rfl d_Mo_readTerm_547 (fun M_64 h_65 fr_66 => ?_)
                                    exact G_return hC hQ (by omega) (by omega) d_Mo_readTerm_550 ⟨_, _, _, _, _, rfl, h_65, rq (hM.symm.trans (if_pos (by omega))) (rq_plain (by omega)), ((((((((fr_3.up (T := [500]) (by simp)).tr' (T := [500]) fr_6 (fun _ z => z) (by simp)).tr' (T := [500]) fr_9 (fun _ z => z) (by simp)).tr' (T := [500]) fr_12 (fun _ z => z) (by simp)).tr' (T := [500]) fr_15 (fun _ z => z) (by simp)).tr' (T := [500]) hfr90 (fun _ z => z) (by simp)).tr' (T := [500]) hfr388 (fun _ z => z) (by simp)).tr' (T := [500]) fr_66 (fun _ z => z) (by simp))⟩
                            · refine G_iinc (lv' := [(6, vI (e + 1)), (0, .ref a), (1, .ref p), (2, vI start), (3, vI to), (4, vI q), (5, vI sgv)]) hC 6 rfl (by rw [hN]; decide) rfl d_Mo_readTerm_516 ?_
                              refine G_goto hC 456 (by decide) d_Mo_readTerm_519 ?_
                              refine G_lv [1, 2, 3, 4, 5, 6, 0] rfl ?_
                              exact ih456 (e + 1) (by omega) (by omega) (by rw [wdE] at hf; (repeat' split at hf); all_goals first | exact hf | (exfalso; omega) | omega)
            refine G_lv [1, 2, 3, 4, 5, 6, 0] rfl ?_
            exact L456 _ q (Nat.lt_succ_self _) (by omega) hz
          · have c_25 := b2i_ne0.mp c_25
            have hl7 := has_len c_25 (n := 9) (by decide)
            refine G_aload_n hC 0 rfl rfl d_Mo_readTerm_415 ?_
            refine G_iload hC 4 rfl d_Mo_readTerm_416 ?_
            refine G_bipush (j := 9) hC (by decide +kernel) d_Mo_readTerm_418 ?_
            refine G_iadd hC d_Mo_readTerm_420 ?_
            refine G_putX (fs' := [.ref tp, vI tm, vI en, .ref ou, .ref sa, .ref aa, .ref na, .ref va, .ref lo, .ref dm, .int fm, vI st, .ref tg, vI cn, vI vo, .ref pc, vI k1, vI (sgnS xs start), vI (q + 9), vI o1, vI n1, .int w1]) hC fl_Mo_141 ft_Mo fw_Mo_18 ho388 rfl rfl (Nat.le_of_ble_eq_true rfl) rfl d_Mo_readTerm_421 (fun M_67 h_68 fr_69 => ?_)
            refine G_aload_n hC 0 rfl rfl d_Mo_readTerm_424 ?_
            refine G_iload_n hC 3 rfl rfl d_Mo_readTerm_425 ?_
            refine G_putX (fs' := [.ref tp, vI tm, vI en, .ref ou, .ref sa, .ref aa, .ref na, .ref va, .ref lo, .ref dm, .int fm, vI st, .ref tg, vI cn, vI vo, .ref pc, vI k1, vI (sgnS xs start), vI (q + 9), vI to, vI n1, .int w1]) hC fl_Mo_144 ft_Mo fw_Mo_19 h_68 rfl rfl (Nat.le_of_ble_eq_true rfl) rfl d_Mo_readTerm_426 (fun M_70 h_71 fr_72 => ?_)
            refine G_aload_n hC 1 rfl rfl d_Mo_readTerm_429 ?_
            refine G_aload_n hC 0 rfl rfl d_Mo_readTerm_430 ?_
            refine G_get hC fl_Mo_141 h_71 rfl d_Mo_readTerm_431 ?_
            refine G_aload_n hC 0 rfl rfl d_Mo_readTerm_434 ?_
            refine G_get hC fl_Mo_144 h_71 rfl d_Mo_readTerm_435 ?_
            refine G_iconst (i := 1) hC d_Mo_readTerm_438 ?_
            have h_73 := h_24.fr fr_69 (by simp only [List.mem_cons, List.not_mem_nil, or_false, not_or, not_false_eq_true]; try omega)
            have h_74 := h_73.fr fr_72 (by simp only [List.mem_cons, List.not_mem_nil, or_false, not_or, not_false_eq_true]; try omega)
            refine G_pS (rest := []) hC hR (c_Mo_isD (sl := true) h_74 (by omega) (Or.inl rfl) rfl) cs_Mo_157 (by decide) (by omega) (by omega) rfl rfl (Nat.le_of_ble_eq_true rfl) d_Mo_readTerm_439 ?_
            refine G_if_eq hC 451 (by have := b2i_rng (targS xs (q + 9) to); omega) (by decide) d_Mo_readTerm_442 (fun c_75 => ?_) (fun c_75 => ?_)
            · have c_75 := b2i_eq0.mp c_75
              exact G_return hC hQ (by omega) (by omega) d_Mo_readTerm_451 ⟨_, _, _, _, _, rfl, h_71, rq (hM.symm.trans (refM_7 hsf c_25)) (rq_tno c_75 hk8), (((((((((fr_3.up (T := [500]) (by simp)).tr' (T := [500]) fr_6 (fun _ z => z) (by simp)).tr' (T := [500]) fr_9 (fun _ z => z) (by simp)).tr' (T := [500]) fr_12 (fun _ z => z) (by simp)).tr' (T := [500]) fr_15 (fun _ z => z) (by simp)).tr' (T := [500]) hfr90 (fun _ z => z) (by simp)).tr' (T := [500]) hfr388 (fun _ z => z) (by simp)).tr' (T := [500]) fr_69 (fun _ z => z) (by simp)).tr' (T := [500]) fr_72 (fun _ z => z) (by simp))⟩
            · have c_75 := b2i_ne0.mp c_75
              refine G_aload_n hC 0 rfl rfl d_Mo_readTerm_445 ?_
              refine G_bipush (j := 6) hC (by decide +kernel) d_Mo_readTerm_446 ?_
              refine G_putX (fs' := [.ref tp, vI tm, vI en, .ref ou, .ref sa, .ref aa, .ref na, .ref va, .ref lo, .ref dm, .int fm, vI st, .ref tg, vI cn, vI vo, .ref pc, vI 6, vI (sgnS xs start), vI (q + 9), vI to, vI n1, .int w1]) hC fl_Mo_138 ft_Mo fw_Mo_16 h_71 rfl rfl (Nat.le_of_ble_eq_true rfl) rfl d_Mo_readTerm_448 (fun M_76 h_77 fr_78 => ?_)
              exact G_return hC hQ (by omega) (by omega) d_Mo_readTerm_451 ⟨_, _, _, _, _, rfl, h_77, rq (hM.symm.trans (refM_7 hsf c_25)) (rq_targ (by omega) c_75), ((((((((((fr_3.up (T := [500]) (by simp)).tr' (T := [500]) fr_6 (fun _ z => z) (by simp)).tr' (T := [500]) fr_9 (fun _ z => z) (by simp)).tr' (T := [500]) fr_12 (fun _ z => z) (by simp)).tr' (T := [500]) fr_15 (fun _ z => z) (by simp)).tr' (T := [500]) hfr90 (fun _ z => z) (by simp)).tr' (T := [500]) hfr388 (fun _ z => z) (by simp)).tr' (T := [500]) fr_69 (fun _ z => z) (by simp)).tr' (T := [500]) fr_72 (fun _ z => z) (by simp)).tr' (T := [500]) fr_78 (fun _ z => z) (by simp))⟩
        · exact G_return hC hQ (by omega) (by omega) d_Mo_readTerm_402 ⟨_, _, _, _, _, rfl, ho388, rq ((rq_off hT (by omega) hrr (by omega)).symm.trans (refM_t (decide_eq_true (by omega)))) (rq_no (by omega)), (((((((fr_3.up (T := [500]) (by simp)).tr' (T := [500]) fr_6 (fun _ z => z) (by simp)).tr' (T := [500]) fr_9 (fun _ z => z) (by simp)).tr' (T := [500]) fr_12 (fun _ z => z) (by simp)).tr' (T := [500]) fr_15 (fun _ z => z) (by simp)).tr' (T := [500]) hfr90 (fun _ z => z) (by simp)).tr' (T := [500]) hfr388 (fun _ z => z) (by simp))⟩
    refine G_aload_n hC 1 rfl rfl d_Mo_readTerm_90 ?_
    refine G_iload hC 4 rfl d_Mo_readTerm_91 ?_
    refine G_iload_n hC 3 rfl rfl d_Mo_readTerm_93 ?_
    refine G_ldcS (tx := "all") (i := 1) hC (by decide) d_Mo_readTerm_94 ?_
    have h_79 := h_row_p.fr fr_3 (by simp only [List.mem_cons, List.not_mem_nil, or_false, not_or, not_false_eq_true]; try omega)
    have h_80 := h_79.fr fr_6 (by simp only [List.mem_cons, List.not_mem_nil, or_false, not_or, not_false_eq_true]; try omega)
    have h_81 := h_80.fr fr_9 (by simp only [List.mem_cons, List.not_mem_nil, or_false, not_or, not_false_eq_true]; try omega)
    have h_82 := h_81.fr fr_12 (by simp only [List.mem_cons, List.not_mem_nil, or_false, not_or, not_false_eq_true]; try omega)
    have h_83 := h_82.fr fr_15 (by simp only [List.mem_cons, List.not_mem_nil, or_false, not_or, not_false_eq_true]; try omega)
    have h_84 := h_83.fr hfr90 (by simp only [List.mem_cons, List.not_mem_nil, or_false, not_or, not_false_eq_true]; try omega)
    refine G_pS (rest := []) hC hR (c_Mo_is h_84 (by decide) (by omega) (by omega)) cs_Mo_11 (by decide) (by omega) (by omega) rfl rfl (Nat.le_of_ble_eq_true rfl) d_Mo_readTerm_96 ?_
    refine G_if_eq hC 110 (by have := b2i_rng (decide (isP2 xs (wrd 1) q to)); omega) (by decide) d_Mo_readTerm_99 (fun c_85 => ?_) (fun c_85 => ?_)
    · have c_85 := b2i_eq0.mp c_85
      have c_85 := of_decide_eq_false c_85
      have e110 : refT xs q to = refT1 xs q to := rt_1 c_85
      refine G_aload_n hC 1 rfl rfl d_Mo_readTerm_110 ?_
      refine G_iload hC 4 rfl d_Mo_readTerm_111 ?_
      refine G_iload_n hC 3 rfl rfl d_Mo_readTerm_113 ?_
      refine G_ldcS (tx := "include:") (i := 2) hC (by decide) d_Mo_readTerm_114 ?_
      refine G_pS (rest := []) hC hR (c_Mo_begins h_84 (by decide) (by omega) (by omega)) cs_Mo_154 (by decide) (by omega) (by omega) rfl rfl (Nat.le_of_ble_eq_true rfl) d_Mo_readTerm_116 ?_
      refine G_if_eq hC 160 (by have := b2i_rng (hasS xs (wrd 2) q to); omega) (by decide) d_Mo_readTerm_119 (fun c_86 => ?_) (fun c_86 => ?_)
      · have c_86 := b2i_eq0.mp c_86
        have e160 : refT xs q to = refT2 xs q to := e110.trans (if_neg (nt c_86))
        refine G_aload_n hC 1 rfl rfl d_Mo_readTerm_160 ?_
        refine G_iload hC 4 rfl d_Mo_readTerm_161 ?_
        refine G_iload_n hC 3 rfl rfl d_Mo_readTerm_163 ?_
        refine G_ldcS (tx := "exists:") (i := 6) hC (by decide) d_Mo_readTerm_164 ?_
        refine G_pS (rest := []) hC hR (c_Mo_begins h_84 (by decide) (by omega) (by omega)) cs_Mo_154 (by decide) (by omega) (by omega) rfl rfl (Nat.le_of_ble_eq_true rfl) d_Mo_readTerm_166 ?_
        refine G_if_eq hC 210 (by have := b2i_rng (hasS xs (wrd 6) q to); omega) (by decide) d_Mo_readTerm_169 (fun c_87 => ?_) (fun c_87 => ?_)
        · have c_87 := b2i_eq0.mp c_87
          have e210 : refT xs q to = refT3 xs q to := e160.trans (if_neg (nt c_87))
          refine G_aload_n hC 1 rfl rfl d_Mo_readTerm_210 ?_
          refine G_iload hC 4 rfl d_Mo_readTerm_211 ?_
          refine G_iload_n hC 3 rfl rfl d_Mo_readTerm_213 ?_
          refine G_ldcS (tx := "ip4:") (i := 5) hC (by decide) d_Mo_readTerm_214 ?_
          refine G_pS (rest := []) hC hR (c_Mo_begins h_84 (by decide) (by omega) (by omega)) cs_Mo_154 (by decide) (by omega) (by omega) rfl rfl (Nat.le_of_ble_eq_true rfl) d_Mo_readTerm_216 ?_
          refine G_if_eq hC 279 (by have := b2i_rng (hasS xs (wrd 5) q to); omega) (by decide) d_Mo_readTerm_219 (fun c_88 => ?_) (fun c_88 => ?_)
          · have c_88 := b2i_eq0.mp c_88
            have e279 : refT xs q to = refT4 xs q to := e210.trans (if_neg (nt c_88))
            refine G_aload_n hC 1 rfl rfl d_Mo_readTerm_279 ?_
            refine G_iload hC 4 rfl d_Mo_readTerm_280 ?_
            refine G_iload_n hC 3 rfl rfl d_Mo_readTerm_282 ?_
            refine G_ldcS (tx := "a") (i := 3) hC (by decide) d_Mo_readTerm_283 ?_
            refine G_pS (rest := []) hC hR (c_Mo_begins h_84 (by decide) (by omega) (by omega)) cs_Mo_154 (by decide) (by omega) (by omega) rfl rfl (Nat.le_of_ble_eq_true rfl) d_Mo_readTerm_285 ?_
            refine G_if_eq hC 335 (by have := b2i_rng (hasS xs (wrd 3) q to); omega) (by decide) d_Mo_readTerm_288 (fun c_89 => ?_) (fun c_89 => ?_)
            · have c_89 := b2i_eq0.mp c_89
              have e335 : refT xs q to = refT5 xs q to := e279.trans (if_neg (fun z => nt c_89 z.1))
              refine G_aload_n hC 1 rfl rfl d_Mo_readTerm_335 ?_
              refine G_iload hC 4 rfl d_Mo_readTerm_336 ?_
              refine G_iload_n hC 3 rfl rfl d_Mo_readTerm_338 ?_
              refine G_ldcS (tx := "mx") (i := 4) hC (by decide) d_Mo_readTerm_339 ?_
              refine G_pS (rest := []) hC hR (c_Mo_begins h_84 (by decide) (by omega) (by omega)) cs_Mo_154 (by decide) (by omega) (by omega) rfl rfl (Nat.le_of_ble_eq_true rfl) d_Mo_readTerm_341 ?_
              refine G_if_eq hC 388 (by have := b2i_rng (hasS xs (wrd 4) q to); omega) (by decide) d_Mo_readTerm_344 (fun c_90 => ?_) (fun c_90 => ?_)
              · have c_90 := b2i_eq0.mp c_90
                exact J388 M90 _ _ _ _ _ Fr.rf ho90 (rq (e335.trans (if_neg (fun z => nt c_90 z.1))) (rq_no rfl))
              · have c_90 := b2i_ne0.mp c_90
                have hl6 := has_len c_90 (n := 2) (by decide)
                refine G_iload_n hC 3 rfl rfl d_Mo_readTerm_347 ?_
                refine G_iload hC 4 rfl d_Mo_readTerm_348 ?_
                refine G_iconst (i := 2) hC d_Mo_readTerm_350 ?_
                refine G_iadd hC d_Mo_readTerm_351 ?_
                refine G_icmp_eq hC 377 (by omega) (by omega) (by decide) d_Mo_readTerm_352 (fun c_91 => ?_) (fun c_91 => ?_)
                · have ho9 : to = q + 2 ∨ atS xs (q + 2) = 58 ∨ atS xs (q + 2) = 47 := by omega
                  refine G_aload_n hC 0 rfl rfl d_Mo_readTerm_377 ?_
                  refine G_aload_n hC 1 rfl rfl d_Mo_readTerm_378 ?_
                  refine G_iload hC 4 rfl d_Mo_readTerm_379 ?_
                  refine G_iconst (i := 2) hC d_Mo_readTerm_381 ?_
                  refine G_iadd hC d_Mo_readTerm_382 ?_
                  refine G_iload_n hC 3 rfl rfl d_Mo_readTerm_383 ?_
                  refine G_iconst (i := 3) hC d_Mo_readTerm_384 ?_
                  refine G_xV (rest := []) hC hR (c_Mo_readHost ho90 h_84 (by omega) (by omega) (by omega) rfl) cv_Mo_176 ⟨_, _, ho90⟩ (by decide) (by omega) (by omega) rfl rfl (Nat.le_of_ble_eq_true rfl) d_Mo_readTerm_385 (fun r_94 M_92 p_93 => ?_)
                  obtain ⟨k1_95, n1_96, f1_97, o1_98, rfl, h_99, h_100, fr_101⟩ := p_93
                  show G E M_92 (0 + 0) (0 + 0) [(0, .ref a), (1, .ref p), (2, vI start), (3, vI to), (4, vI q), (5, vI sgv)] [] 388
                  exact J388 M_92 _ _ _ _ _ (fr_101.up (T := [500]) (by simp)) h_99 (rq (e335.trans (if_pos ⟨c_90, ho9⟩)) (rq_host h_100 (by omega)))
                · refine G_aload_n hC 1 rfl rfl d_Mo_readTerm_355 ?_
                  refine G_iload hC 4 rfl d_Mo_readTerm_356 ?_
                  refine G_iconst (i := 2) hC d_Mo_readTerm_358 ?_
                  refine G_iadd hC d_Mo_readTerm_359 ?_
                  refine G_baldR hC h_84 (by omega) d_Mo_readTerm_360 ?_
                  have g_102 := h_84.rng (q + 2)
                  have g_103 := atS_gx (xs := xs) (i := q + 2) (by omega)
                  refine G_bipush (j := 58) hC (by decide +kernel) d_Mo_readTerm_361 ?_
                  refine G_icmp_eq hC 377 (by omega) (by decide) (by decide) d_Mo_readTerm_363 (fun c_104 => ?_) (fun c_104 => ?_)
                  · have ho9 : to = q + 2 ∨ atS xs (q + 2) = 58 ∨ atS xs (q + 2) = 47 := by omega
                    refine G_aload_n hC 0 rfl rfl d_Mo_readTerm_377 ?_
                    refine G_aload_n hC 1 rfl rfl d_Mo_readTerm_378 ?_
                    refine G_iload hC 4 rfl d_Mo_readTerm_379 ?_
                    refine G_iconst (i := 2) hC d_Mo_readTerm_381 ?_
                    refine G_iadd hC d_Mo_readTerm_382 ?_
                    refine G_iload_n hC 3 rfl rfl d_Mo_readTerm_383 ?_
                    refine G_iconst (i := 3) hC d_Mo_readTerm_384 ?_
                    refine G_xV (rest := []) hC hR (c_Mo_readHost ho90 h_84 (by omega) (by omega) (by omega) rfl) cv_Mo_176 ⟨_, _, ho90⟩ (by decide) (by omega) (by omega) rfl rfl (Nat.le_of_ble_eq_true rfl) d_Mo_readTerm_385 (fun r_107 M_105 p_106 => ?_)
                    obtain ⟨k1_108, n1_109, f1_110, o1_111, rfl, h_112, h_113, fr_114⟩ := p_106
                    show G E M_105 (0 + 0) (0 + 0) [(0, .ref a), (1, .ref p), (2, vI start), (3, vI to), (4, vI q), (5, vI sgv)] [] 388
                    exact J388 M_105 _ _ _ _ _ (fr_114.up (T := [500]) (by simp)) h_112 (rq (e335.trans (if_pos ⟨c_90, ho9⟩)) (rq_host h_113 (by omega)))
                  · refine G_aload_n hC 1 rfl rfl d_Mo_readTerm_366 ?_
                    refine G_iload hC 4 rfl d_Mo_readTerm_367 ?_
                    refine G_iconst (i := 2) hC d_Mo_readTerm_369 ?_
                    refine G_iadd hC d_Mo_readTerm_370 ?_
                    refine G_baldR hC h_84 (by omega) d_Mo_readTerm_371 ?_
                    have g_115 := h_84.rng (q + 2)
                    have g_116 := atS_gx (xs := xs) (i := q + 2) (by omega)
                    refine G_bipush (j := 47) hC (by decide +kernel) d_Mo_readTerm_372 ?_
                    refine G_icmp_ne hC 388 (by omega) (by decide) (by decide) d_Mo_readTerm_374 (fun c_117 => ?_) (fun c_117 => ?_)
                    · exact J388 M90 _ _ _ _ _ Fr.rf ho90 (rq (e335.trans (if_neg (fun z => by have := z.2; omega))) (rq_no rfl))
                    · have ho9 : to = q + 2 ∨ atS xs (q + 2) = 58 ∨ atS xs (q + 2) = 47 := by omega
                      refine G_aload_n hC 0 rfl rfl d_Mo_readTerm_377 ?_
                      refine G_aload_n hC 1 rfl rfl d_Mo_readTerm_378 ?_
                      refine G_iload hC 4 rfl d_Mo_readTerm_379 ?_
                      refine G_iconst (i := 2) hC d_Mo_readTerm_381 ?_
                      refine G_iadd hC d_Mo_readTerm_382 ?_
                      refine G_iload_n hC 3 rfl rfl d_Mo_readTerm_383 ?_
                      refine G_iconst (i := 3) hC d_Mo_readTerm_384 ?_
                      refine G_xV (rest := []) hC hR (c_Mo_readHost ho90 h_84 (by omega) (by omega) (by omega) rfl) cv_Mo_176 ⟨_, _, ho90⟩ (by decide) (by omega) (by omega) rfl rfl (Nat.le_of_ble_eq_true rfl) d_Mo_readTerm_385 (fun r_120 M_118 p_119 => ?_)
                      obtain ⟨k1_121, n1_122, f1_123, o1_124, rfl, h_125, h_126, fr_127⟩ := p_119
                      show G E M_118 (0 + 0) (0 + 0) [(0, .ref a), (1, .ref p), (2, vI start), (3, vI to), (4, vI q), (5, vI sgv)] [] 388
                      exact J388 M_118 _ _ _ _ _ (fr_127.up (T := [500]) (by simp)) h_125 (rq (e335.trans (if_pos ⟨c_90, ho9⟩)) (rq_host h_126 (by omega)))
            · have c_89 := b2i_ne0.mp c_89
              have hl5 := has_len c_89 (n := 1) (by decide)
              refine G_iload_n hC 3 rfl rfl d_Mo_readTerm_291 ?_
              refine G_iload hC 4 rfl d_Mo_readTerm_292 ?_
              refine G_iconst (i := 1) hC d_Mo_readTerm_294 ?_
              refine G_iadd hC d_Mo_readTerm_295 ?_
              refine G_icmp_eq hC 321 (by omega) (by omega) (by decide) d_Mo_readTerm_296 (fun c_128 => ?_) (fun c_128 => ?_)
              · have ho9 : to = q + 1 ∨ atS xs (q + 1) = 58 ∨ atS xs (q + 1) = 47 := by omega
                refine G_aload_n hC 0 rfl rfl d_Mo_readTerm_321 ?_
                refine G_aload_n hC 1 rfl rfl d_Mo_readTerm_322 ?_
                refine G_iload hC 4 rfl d_Mo_readTerm_323 ?_
                refine G_iconst (i := 1) hC d_Mo_readTerm_325 ?_
                refine G_iadd hC d_Mo_readTerm_326 ?_
                refine G_iload_n hC 3 rfl rfl d_Mo_readTerm_327 ?_
                refine G_iconst (i := 2) hC d_Mo_readTerm_328 ?_
                refine G_xV (rest := []) hC hR (c_Mo_readHost ho90 h_84 (by omega) (by omega) (by omega) rfl) cv_Mo_176 ⟨_, _, ho90⟩ (by decide) (by omega) (by omega) rfl rfl (Nat.le_of_ble_eq_true rfl) d_Mo_readTerm_329 (fun r_131 M_129 p_130 => ?_)
                obtain ⟨k1_132, n1_133, f1_134, o1_135, rfl, h_136, h_137, fr_138⟩ := p_130
                show G E M_129 (0 + 0) (0 + 0) [(0, .ref a), (1, .ref p), (2, vI start), (3, vI to), (4, vI q), (5, vI sgv)] [] 332
                refine G_goto hC 388 (by decide) d_Mo_readTerm_332 ?_
                exact J388 M_129 _ _ _ _ _ (fr_138.up (T := [500]) (by simp)) h_136 (rq (e279.trans (if_pos ⟨c_89, ho9⟩)) (rq_host h_137 (by omega)))
              · refine G_aload_n hC 1 rfl rfl d_Mo_readTerm_299 ?_
                refine G_iload hC 4 rfl d_Mo_readTerm_300 ?_
                refine G_iconst (i := 1) hC d_Mo_readTerm_302 ?_
                refine G_iadd hC d_Mo_readTerm_303 ?_
                refine G_baldR hC h_84 (by omega) d_Mo_readTerm_304 ?_
                have g_139 := h_84.rng (q + 1)
                have g_140 := atS_gx (xs := xs) (i := q + 1) (by omega)
                refine G_bipush (j := 58) hC (by decide +kernel) d_Mo_readTerm_305 ?_
                refine G_icmp_eq hC 321 (by omega) (by decide) (by decide) d_Mo_readTerm_307 (fun c_141 => ?_) (fun c_141 => ?_)
                · have ho9 : to = q + 1 ∨ atS xs (q + 1) = 58 ∨ atS xs (q + 1) = 47 := by omega
                  refine G_aload_n hC 0 rfl rfl d_Mo_readTerm_321 ?_
                  refine G_aload_n hC 1 rfl rfl d_Mo_readTerm_322 ?_
                  refine G_iload hC 4 rfl d_Mo_readTerm_323 ?_
                  refine G_iconst (i := 1) hC d_Mo_readTerm_325 ?_
                  refine G_iadd hC d_Mo_readTerm_326 ?_
                  refine G_iload_n hC 3 rfl rfl d_Mo_readTerm_327 ?_
                  refine G_iconst (i := 2) hC d_Mo_readTerm_328 ?_
                  refine G_xV (rest := []) hC hR (c_Mo_readHost ho90 h_84 (by omega) (by omega) (by omega) rfl) cv_Mo_176 ⟨_, _, ho90⟩ (by decide) (by omega) (by omega) rfl rfl (Nat.le_of_ble_eq_true rfl) d_Mo_readTerm_329 (fun r_144 M_142 p_143 => ?_)
                  obtain ⟨k1_145, n1_146, f1_147, o1_148, rfl, h_149, h_150, fr_151⟩ := p_143
                  show G E M_142 (0 + 0) (0 + 0) [(0, .ref a), (1, .ref p), (2, vI start), (3, vI to), (4, vI q), (5, vI sgv)] [] 332
                  refine G_goto hC 388 (by decide) d_Mo_readTerm_332 ?_
                  exact J388 M_142 _ _ _ _ _ (fr_151.up (T := [500]) (by simp)) h_149 (rq (e279.trans (if_pos ⟨c_89, ho9⟩)) (rq_host h_150 (by omega)))
                · refine G_aload_n hC 1 rfl rfl d_Mo_readTerm_310 ?_
                  refine G_iload hC 4 rfl d_Mo_readTerm_311 ?_
                  refine G_iconst (i := 1) hC d_Mo_readTerm_313 ?_
                  refine G_iadd hC d_Mo_readTerm_314 ?_
                  refine G_baldR hC h_84 (by omega) d_Mo_readTerm_315 ?_
                  have g_152 := h_84.rng (q + 1)
                  have g_153 := atS_gx (xs := xs) (i := q + 1) (by omega)
                  refine G_bipush (j := 47) hC (by decide +kernel) d_Mo_readTerm_316 ?_
                  refine G_icmp_ne hC 335 (by omega) (by decide) (by decide) d_Mo_readTerm_318 (fun c_154 => ?_) (fun c_154 => ?_)
                  · have e335 : refT xs q to = refT5 xs q to := e279.trans (if_neg (fun z => by have := z.2; omega))
                    refine G_aload_n hC 1 rfl rfl d_Mo_readTerm_335 ?_
                    refine G_iload hC 4 rfl d_Mo_readTerm_336 ?_
                    refine G_iload_n hC 3 rfl rfl d_Mo_readTerm_338 ?_
                    refine G_ldcS (tx := "mx") (i := 4) hC (by decide) d_Mo_readTerm_339 ?_
                    refine G_pS (rest := []) hC hR (c_Mo_begins h_84 (by decide) (by omega) (by omega)) cs_Mo_154 (by decide) (by omega) (by omega) rfl rfl (Nat.le_of_ble_eq_true rfl) d_Mo_readTerm_341 ?_
                    refine G_if_eq hC 388 (by have := b2i_rng (hasS xs (wrd 4) q to); omega) (by decide) d_Mo_readTerm_344 (fun c_155 => ?_) (fun c_155 => ?_)
                    · have c_155 := b2i_eq0.mp c_155
                      exact J388 M90 _ _ _ _ _ Fr.rf ho90 (rq (e335.trans (if_neg (fun z => nt c_155 z.1))) (rq_no rfl))
                    · have c_155 := b2i_ne0.mp c_155
                      have hl6 := has_len c_155 (n := 2) (by decide)
                      refine G_iload_n hC 3 rfl rfl d_Mo_readTerm_347 ?_
                      refine G_iload hC 4 rfl d_Mo_readTerm_348 ?_
                      refine G_iconst (i := 2) hC d_Mo_readTerm_350 ?_
                      refine G_iadd hC d_Mo_readTerm_351 ?_
                      refine G_icmp_eq hC 377 (by omega) (by omega) (by decide) d_Mo_readTerm_352 (fun c_156 => ?_) (fun c_156 => ?_)
                      · have ho9 : to = q + 2 ∨ atS xs (q + 2) = 58 ∨ atS xs (q + 2) = 47 := by omega
                        refine G_aload_n hC 0 rfl rfl d_Mo_readTerm_377 ?_
                        refine G_aload_n hC 1 rfl rfl d_Mo_readTerm_378 ?_
                        refine G_iload hC 4 rfl d_Mo_readTerm_379 ?_
                        refine G_iconst (i := 2) hC d_Mo_readTerm_381 ?_
                        refine G_iadd hC d_Mo_readTerm_382 ?_
                        refine G_iload_n hC 3 rfl rfl d_Mo_readTerm_383 ?_
                        refine G_iconst (i := 3) hC d_Mo_readTerm_384 ?_
                        refine G_xV (rest := []) hC hR (c_Mo_readHost ho90 h_84 (by omega) (by omega) (by omega) rfl) cv_Mo_176 ⟨_, _, ho90⟩ (by decide) (by omega) (by omega) rfl rfl (Nat.le_of_ble_eq_true rfl) d_Mo_readTerm_385 (fun r_159 M_157 p_158 => ?_)
                        obtain ⟨k1_160, n1_161, f1_162, o1_163, rfl, h_164, h_165, fr_166⟩ := p_158
                        show G E M_157 (0 + 0) (0 + 0) [(0, .ref a), (1, .ref p), (2, vI start), (3, vI to), (4, vI q), (5, vI sgv)] [] 388
                        exact J388 M_157 _ _ _ _ _ (fr_166.up (T := [500]) (by simp)) h_164 (rq (e335.trans (if_pos ⟨c_155, ho9⟩)) (rq_host h_165 (by omega)))
                      · refine G_aload_n hC 1 rfl rfl d_Mo_readTerm_355 ?_
                        refine G_iload hC 4 rfl d_Mo_readTerm_356 ?_
                        refine G_iconst (i := 2) hC d_Mo_readTerm_358 ?_
                        refine G_iadd hC d_Mo_readTerm_359 ?_
                        refine G_baldR hC h_84 (by omega) d_Mo_readTerm_360 ?_
                        have g_167 := h_84.rng (q + 2)
                        have g_168 := atS_gx (xs := xs) (i := q + 2) (by omega)
                        refine G_bipush (j := 58) hC (by decide +kernel) d_Mo_readTerm_361 ?_
                        refine G_icmp_eq hC 377 (by omega) (by decide) (by decide) d_Mo_readTerm_363 (fun c_169 => ?_) (fun c_169 => ?_)
                        · have ho9 : to = q + 2 ∨ atS xs (q + 2) = 58 ∨ atS xs (q + 2) = 47 := by omega
                          refine G_aload_n hC 0 rfl rfl d_Mo_readTerm_377 ?_
                          refine G_aload_n hC 1 rfl rfl d_Mo_readTerm_378 ?_
                          refine G_iload hC 4 rfl d_Mo_readTerm_379 ?_
                          refine G_iconst (i := 2) hC d_Mo_readTerm_381 ?_
                          refine G_iadd hC d_Mo_readTerm_382 ?_
                          refine G_iload_n hC 3 rfl rfl d_Mo_readTerm_383 ?_
                          refine G_iconst (i := 3) hC d_Mo_readTerm_384 ?_
                          refine G_xV (rest := []) hC hR (c_Mo_readHost ho90 h_84 (by omega) (by omega) (by omega) rfl) cv_Mo_176 ⟨_, _, ho90⟩ (by decide) (by omega) (by omega) rfl rfl (Nat.le_of_ble_eq_true rfl) d_Mo_readTerm_385 (fun r_172 M_170 p_171 => ?_)
                          obtain ⟨k1_173, n1_174, f1_175, o1_176, rfl, h_177, h_178, fr_179⟩ := p_171
                          show G E M_170 (0 + 0) (0 + 0) [(0, .ref a), (1, .ref p), (2, vI start), (3, vI to), (4, vI q), (5, vI sgv)] [] 388
                          exact J388 M_170 _ _ _ _ _ (fr_179.up (T := [500]) (by simp)) h_177 (rq (e335.trans (if_pos ⟨c_155, ho9⟩)) (rq_host h_178 (by omega)))
                        · refine G_aload_n hC 1 rfl rfl d_Mo_readTerm_366 ?_
                          refine G_iload hC 4 rfl d_Mo_readTerm_367 ?_
                          refine G_iconst (i := 2) hC d_Mo_readTerm_369 ?_
                          refine G_iadd hC d_Mo_readTerm_370 ?_
                          refine G_baldR hC h_84 (by omega) d_Mo_readTerm_371 ?_
                          have g_180 := h_84.rng (q + 2)
                          have g_181 := atS_gx (xs := xs) (i := q + 2) (by omega)
                          refine G_bipush (j := 47) hC (by decide +kernel) d_Mo_readTerm_372 ?_
                          refine G_icmp_ne hC 388 (by omega) (by decide) (by decide) d_Mo_readTerm_374 (fun c_182 => ?_) (fun c_182 => ?_)
                          · exact J388 M90 _ _ _ _ _ Fr.rf ho90 (rq (e335.trans (if_neg (fun z => by have := z.2; omega))) (rq_no rfl))
                          · have ho9 : to = q + 2 ∨ atS xs (q + 2) = 58 ∨ atS xs (q + 2) = 47 := by omega
                            refine G_aload_n hC 0 rfl rfl d_Mo_readTerm_377 ?_
                            refine G_aload_n hC 1 rfl rfl d_Mo_readTerm_378 ?_
                            refine G_iload hC 4 rfl d_Mo_readTerm_379 ?_
                            refine G_iconst (i := 2) hC d_Mo_readTerm_381 ?_
                            refine G_iadd hC d_Mo_readTerm_382 ?_
                            refine G_iload_n hC 3 rfl rfl d_Mo_readTerm_383 ?_
                            refine G_iconst (i := 3) hC d_Mo_readTerm_384 ?_
                            refine G_xV (rest := []) hC hR (c_Mo_readHost ho90 h_84 (by omega) (by omega) (by omega) rfl) cv_Mo_176 ⟨_, _, ho90⟩ (by decide) (by omega) (by omega) rfl rfl (Nat.le_of_ble_eq_true rfl) d_Mo_readTerm_385 (fun r_185 M_183 p_184 => ?_)
                            obtain ⟨k1_186, n1_187, f1_188, o1_189, rfl, h_190, h_191, fr_192⟩ := p_184
                            show G E M_183 (0 + 0) (0 + 0) [(0, .ref a), (1, .ref p), (2, vI start), (3, vI to), (4, vI q), (5, vI sgv)] [] 388
                            exact J388 M_183 _ _ _ _ _ (fr_192.up (T := [500]) (by simp)) h_190 (rq (e335.trans (if_pos ⟨c_155, ho9⟩)) (rq_host h_191 (by omega)))
                  · have ho9 : to = q + 1 ∨ atS xs (q + 1) = 58 ∨ atS xs (q + 1) = 47 := by omega
                    refine G_aload_n hC 0 rfl rfl d_Mo_readTerm_321 ?_
                    refine G_aload_n hC 1 rfl rfl d_Mo_readTerm_322 ?_
                    refine G_iload hC 4 rfl d_Mo_readTerm_323 ?_
                    refine G_iconst (i := 1) hC d_Mo_readTerm_325 ?_
                    refine G_iadd hC d_Mo_readTerm_326 ?_
                    refine G_iload_n hC 3 rfl rfl d_Mo_readTerm_327 ?_
                    refine G_iconst (i := 2) hC d_Mo_readTerm_328 ?_
                    refine G_xV (rest := []) hC hR (c_Mo_readHost ho90 h_84 (by omega) (by omega) (by omega) rfl) cv_Mo_176 ⟨_, _, ho90⟩ (by decide) (by omega) (by omega) rfl rfl (Nat.le_of_ble_eq_true rfl) d_Mo_readTerm_329 (fun r_195 M_193 p_194 => ?_)
                    obtain ⟨k1_196, n1_197, f1_198, o1_199, rfl, h_200, h_201, fr_202⟩ := p_194
                    show G E M_193 (0 + 0) (0 + 0) [(0, .ref a), (1, .ref p), (2, vI start), (3, vI to), (4, vI q), (5, vI sgv)] [] 332
                    refine G_goto hC 388 (by decide) d_Mo_readTerm_332 ?_
                    exact J388 M_193 _ _ _ _ _ (fr_202.up (T := [500]) (by simp)) h_200 (rq (e279.trans (if_pos ⟨c_89, ho9⟩)) (rq_host h_201 (by omega)))
          · have c_88 := b2i_ne0.mp c_88
            have hl4 : q + 4 ≤ to := has_len c_88 (n := 4) (by decide)
            have hsl := ip4_sl c_88
            have hfs8 := findS_rng xs 47 (q + 4) to
            refine G_aload_n hC 1 rfl rfl d_Mo_readTerm_222 ?_
            refine G_iload hC 4 rfl d_Mo_readTerm_223 ?_
            refine G_iload_n hC 3 rfl rfl d_Mo_readTerm_225 ?_
            refine G_pS (rest := []) hC hR (c_Mo_slashOf h_84 (by omega) rfl) cs_Mo_165 (by decide) (by omega) (by omega) rfl rfl (Nat.le_of_ble_eq_true rfl) d_Mo_readTerm_226 ?_
            have g_203 := findS_rng xs 47 q to
            refine G_istore (lv' := [(6, vI (findS xs 47 q to)), (0, .ref a), (1, .ref p), (2, vI start), (3, vI to), (4, vI q), (5, vI sgv)]) hC (by rw [hN]; decide) rfl d_Mo_readTerm_229 ?_
            refine G_iload hC 0 rfl d_Mo_readTerm_231 ?_
            refine G_iload_n hC 4 rfl rfl d_Mo_readTerm_233 ?_
            refine G_icmp_ge hC 250 (by omega) (by omega) (by decide) d_Mo_readTerm_234 (fun c_204 => ?_) (fun c_204 => ?_)
            · refine G_aload_n hC 1 rfl rfl d_Mo_readTerm_250 ?_
              refine G_aload_n hC 2 rfl rfl d_Mo_readTerm_251 ?_
              refine G_iload hC 5 rfl d_Mo_readTerm_252 ?_
              refine G_iconst (i := 4) hC d_Mo_readTerm_254 ?_
              refine G_iadd hC d_Mo_readTerm_255 ?_
              refine G_iload hC 0 rfl d_Mo_readTerm_256 ?_
              refine G_xV (rest := []) hC hR (c_Mo_isQuad ho90 h_84 (by omega) (by omega) rfl) cv_Mo_171 ⟨_, _, ho90⟩ (by decide) (by omega) (by omega) rfl rfl (Nat.le_of_ble_eq_true rfl) d_Mo_readTerm_258 (fun r_207 M_205 p_206 => ?_)
              obtain ⟨w1_208, rfl, h_209, h_210, fr_211⟩ := p_206
              show G E M_205 (0 + 0) (0 + 0) [(6, vI (findS xs 47 q to)), (0, .ref a), (1, .ref p), (2, vI start), (3, vI to), (4, vI q), (5, vI sgv)] [vI (b2i (quadR xs (findS xs 47 q to) (q + 4) 0 0 0 0).isSome)] 261
              refine G_if_eq hC 276 (by have := b2i_rng ((quadR xs (findS xs 47 q to) (q + 4) 0 0 0 0).isSome); omega) (by decide) d_Mo_readTerm_261 (fun c_212 => ?_) (fun c_212 => ?_)
              · have c_212 := b2i_eq0.mp c_212
                refine G_goto hC 388 (by decide) d_Mo_readTerm_276 ?_
                refine G_lv [1, 2, 3, 4, 5, 6] rfl ?_
                exact J388 M_205 _ _ _ _ _ (fr_211.up (T := [500]) (by simp)) h_209 (rq ((e210.trans (if_pos c_88)).trans (ip4_f1 ((quad_ref hsl hl4).symm.trans (isS_f c_212)))) (rq_no rfl))
              · have c_212 := b2i_ne0.mp c_212
                refine G_aload_n hC 1 rfl rfl d_Mo_readTerm_264 ?_
                refine G_get hC fl_Mo_147 h_209 rfl d_Mo_readTerm_265 ?_
                refine G_if_lt hC 276 (by decide) (by decide) d_Mo_readTerm_268 (fun c_213 => ?_) (fun c_213 => ?_)
                · exact (show False from by omega).elim
                · refine G_aload_n hC 1 rfl rfl d_Mo_readTerm_271 ?_
                  refine G_iconst (i := 4) hC d_Mo_readTerm_272 ?_
                  refine G_putX (fs' := [.ref tp, vI tm, vI en, .ref ou, .ref sa, .ref aa, .ref na, .ref va, .ref lo, .ref dm, .int fm, vI st, .ref tg, vI cn, vI vo, .ref pc, vI 4, vI (sgnS xs start), vI (-1), vI (-1), vI 32, .int w1_208]) hC fl_Mo_138 ft_Mo fw_Mo_16 h_209 rfl rfl (Nat.le_of_ble_eq_true rfl) rfl d_Mo_readTerm_273 (fun M_214 h_215 fr_216 => ?_)
                  refine G_goto hC 388 (by decide) d_Mo_readTerm_276 ?_
                  refine G_lv [1, 2, 3, 4, 5, 6] rfl ?_
                  obtain ⟨v9, hv9⟩ := isS_t c_212
                  have hv8 := (quad_ref hsl hl4).symm.trans hv9
                  exact J388 M_214 _ _ _ _ _ ((fr_211.up (T := [500]) (by simp)).tr' (T := [500]) fr_216 (fun _ z => z) (by simp)) h_215 (rq (e210.trans (if_pos c_88)) (rq_ip4 (ip4_s1 hv8 (by omega)) rfl (h_210 _ hv9)))
            · refine G_aload_n hC 1 rfl rfl d_Mo_readTerm_237 ?_
              refine G_aload_n hC 2 rfl rfl d_Mo_readTerm_238 ?_
              refine G_iload hC 0 rfl d_Mo_readTerm_239 ?_
              refine G_iconst (i := 1) hC d_Mo_readTerm_241 ?_
              refine G_iadd hC d_Mo_readTerm_242 ?_
              refine G_iload_n hC 4 rfl rfl d_Mo_readTerm_243 ?_
              refine G_pS (rest := [.ref a]) hC hR (c_Mo_bits h_84 (by omega) rfl) cs_Mo_168 (by decide) (by omega) (by omega) rfl rfl (Nat.le_of_ble_eq_true rfl) d_Mo_readTerm_244 ?_
              have g_217 := bits_gd xs ((findS xs 47 q to) + 1) to
              refine G_putX (fs' := [.ref tp, vI tm, vI en, .ref ou, .ref sa, .ref aa, .ref na, .ref va, .ref lo, .ref dm, .int fm, vI st, .ref tg, vI cn, vI vo, .ref pc, vI 8, vI (sgnS xs start), vI (-1), vI (-1), vI ((bitsS xs ((findS xs 47 q to) + 1) to).getD (-1)), .int w0]) hC fl_Mo_147 ft_Mo fw_Mo_20 ho90 rfl rfl (Nat.le_of_ble_eq_true rfl) rfl d_Mo_readTerm_247 (fun M_218 h_219 fr_220 => ?_)
              refine G_aload_n hC 1 rfl rfl d_Mo_readTerm_250 ?_
              refine G_aload_n hC 2 rfl rfl d_Mo_readTerm_251 ?_
              refine G_iload hC 5 rfl d_Mo_readTerm_252 ?_
              refine G_iconst (i := 4) hC d_Mo_readTerm_254 ?_
              refine G_iadd hC d_Mo_readTerm_255 ?_
              refine G_iload hC 0 rfl d_Mo_readTerm_256 ?_
              have h_221 := h_84.fr fr_220 (by simp only [List.mem_cons, List.not_mem_nil, or_false, not_or, not_false_eq_true]; try omega)
              refine G_xV (rest := []) hC hR (c_Mo_isQuad h_219 h_221 (by omega) (by omega) rfl) cv_Mo_171 ⟨_, _, h_219⟩ (by decide) (by omega) (by omega) rfl rfl (Nat.le_of_ble_eq_true rfl) d_Mo_readTerm_258 (fun r_224 M_222 p_223 => ?_)
              obtain ⟨w1_225, rfl, h_226, h_227, fr_228⟩ := p_223
              show G E M_222 (0 + 0) (0 + 0) [(6, vI (findS xs 47 q to)), (0, .ref a), (1, .ref p), (2, vI start), (3, vI to), (4, vI q), (5, vI sgv)] [vI (b2i (quadR xs (findS xs 47 q to) (q + 4) 0 0 0 0).isSome)] 261
              refine G_if_eq hC 276 (by have := b2i_rng ((quadR xs (findS xs 47 q to) (q + 4) 0 0 0 0).isSome); omega) (by decide) d_Mo_readTerm_261 (fun c_229 => ?_) (fun c_229 => ?_)
              · have c_229 := b2i_eq0.mp c_229
                refine G_goto hC 388 (by decide) d_Mo_readTerm_276 ?_
                refine G_lv [1, 2, 3, 4, 5, 6] rfl ?_
                exact J388 M_222 _ _ _ _ _ ((fr_220.up (T := [500]) (by simp)).tr' (T := [500]) fr_228 (fun _ z => z) (by simp)) h_226 (rq ((e210.trans (if_pos c_88)).trans (ip4_f1 ((quad_ref hsl hl4).symm.trans (isS_f c_229)))) (rq_no rfl))
              · have c_229 := b2i_ne0.mp c_229
                refine G_aload_n hC 1 rfl rfl d_Mo_readTerm_264 ?_
                refine G_get hC fl_Mo_147 h_226 rfl d_Mo_readTerm_265 ?_
                refine G_if_lt hC 276 (by omega) (by decide) d_Mo_readTerm_268 (fun c_230 => ?_) (fun c_230 => ?_)
                · refine G_goto hC 388 (by decide) d_Mo_readTerm_276 ?_
                  refine G_lv [1, 2, 3, 4, 5, 6] rfl ?_
                  exact J388 M_222 _ _ _ _ _ ((fr_220.up (T := [500]) (by simp)).tr' (T := [500]) fr_228 (fun _ z => z) (by simp)) h_226 (rq ((e210.trans (if_pos c_88)).trans (ip4_f2 (by omega) (by rw [← hsl]; exact bits_neg (Int.not_le.mpr c_230)))) (rq_no rfl))
                · refine G_aload_n hC 1 rfl rfl d_Mo_readTerm_271 ?_
                  refine G_iconst (i := 4) hC d_Mo_readTerm_272 ?_
                  refine G_putX (fs' := [.ref tp, vI tm, vI en, .ref ou, .ref sa, .ref aa, .ref na, .ref va, .ref lo, .ref dm, .int fm, vI st, .ref tg, vI cn, vI vo, .ref pc, vI 4, vI (sgnS xs start), vI (-1), vI (-1), vI ((bitsS xs ((findS xs 47 q to) + 1) to).getD (-1)), .int w1_225]) hC fl_Mo_138 ft_Mo fw_Mo_16 h_226 rfl rfl (Nat.le_of_ble_eq_true rfl) rfl d_Mo_readTerm_273 (fun M_231 h_232 fr_233 => ?_)
                  refine G_goto hC 388 (by decide) d_Mo_readTerm_276 ?_
                  refine G_lv [1, 2, 3, 4, 5, 6] rfl ?_
                  obtain ⟨v9, hv9⟩ := isS_t c_229
                  have hv8 := (quad_ref hsl hl4).symm.trans hv9
                  obtain ⟨u9, hu9, hu8⟩ := bits_pos (Int.not_lt.mp c_230)
                  exact J388 M_231 _ _ _ _ _ (((fr_220.up (T := [500]) (by simp)).tr' (T := [500]) fr_228 (fun _ z => z) (by simp)).tr' (T := [500]) fr_233 (fun _ z => z) (by simp)) h_232 (rq (e210.trans (if_pos c_88)) (rq_ip4 (ip4_s2 hv8 (by omega) (by rw [← hsl]; exact hu9)) hu8 (h_227 _ hv9)))
        · have c_87 := b2i_ne0.mp c_87
          have hl2 := has_len c_87 (n := 7) (by decide)
          refine G_aload_n hC 0 rfl rfl d_Mo_readTerm_172 ?_
          refine G_iload hC 4 rfl d_Mo_readTerm_173 ?_
          refine G_bipush (j := 7) hC (by decide +kernel) d_Mo_readTerm_175 ?_
          refine G_iadd hC d_Mo_readTerm_177 ?_
          refine G_putX (fs' := [.ref tp, vI tm, vI en, .ref ou, .ref sa, .ref aa, .ref na, .ref va, .ref lo, .ref dm, .int fm, vI st, .ref tg, vI cn, vI vo, .ref pc, vI 8, vI (sgnS xs start), vI (q + 7), vI (-1), vI 32, .int w0]) hC fl_Mo_141 ft_Mo fw_Mo_18 ho90 rfl rfl (Nat.le_of_ble_eq_true rfl) rfl d_Mo_readTerm_178 (fun M_234 h_235 fr_236 => ?_)
          refine G_aload_n hC 0 rfl rfl d_Mo_readTerm_181 ?_
          refine G_iload_n hC 3 rfl rfl d_Mo_readTerm_182 ?_
          refine G_putX (fs' := [.ref tp, vI tm, vI en, .ref ou, .ref sa, .ref aa, .ref na, .ref va, .ref lo, .ref dm, .int fm, vI st, .ref tg, vI cn, vI vo, .ref pc, vI 8, vI (sgnS xs start), vI (q + 7), vI to, vI 32, .int w0]) hC fl_Mo_144 ft_Mo fw_Mo_19 h_235 rfl rfl (Nat.le_of_ble_eq_true rfl) rfl d_Mo_readTerm_183 (fun M_237 h_238 fr_239 => ?_)
          refine G_aload_n hC 1 rfl rfl d_Mo_readTerm_186 ?_
          refine G_aload_n hC 0 rfl rfl d_Mo_readTerm_187 ?_
          refine G_get hC fl_Mo_141 h_238 rfl d_Mo_readTerm_188 ?_
          refine G_aload_n hC 0 rfl rfl d_Mo_readTerm_191 ?_
          refine G_get hC fl_Mo_144 h_238 rfl d_Mo_readTerm_192 ?_
          refine G_iconst (i := 1) hC d_Mo_readTerm_195 ?_
          have h_240 := h_84.fr fr_236 (by simp only [List.mem_cons, List.not_mem_nil, or_false, not_or, not_false_eq_true]; try omega)
          have h_241 := h_240.fr fr_239 (by simp only [List.mem_cons, List.not_mem_nil, or_false, not_or, not_false_eq_true]; try omega)
          refine G_pS (rest := []) hC hR (c_Mo_isD (sl := true) h_241 (by omega) (Or.inl rfl) rfl) cs_Mo_157 (by decide) (by omega) (by omega) rfl rfl (Nat.le_of_ble_eq_true rfl) d_Mo_readTerm_196 ?_
          refine G_if_eq hC 388 (by have := b2i_rng (targS xs (q + 7) to); omega) (by decide) d_Mo_readTerm_199 (fun c_242 => ?_) (fun c_242 => ?_)
          · have c_242 := b2i_eq0.mp c_242
            exact J388 M_237 _ _ _ _ _ ((fr_236.up (T := [500]) (by simp)).tr' (T := [500]) fr_239 (fun _ z => z) (by simp)) h_238 (rq (e160.trans (if_pos c_87)) (rq_tno c_242 rfl))
          · have c_242 := b2i_ne0.mp c_242
            refine G_aload_n hC 0 rfl rfl d_Mo_readTerm_202 ?_
            refine G_iconst (i := 5) hC d_Mo_readTerm_203 ?_
            refine G_putX (fs' := [.ref tp, vI tm, vI en, .ref ou, .ref sa, .ref aa, .ref na, .ref va, .ref lo, .ref dm, .int fm, vI st, .ref tg, vI cn, vI vo, .ref pc, vI 5, vI (sgnS xs start), vI (q + 7), vI to, vI 32, .int w0]) hC fl_Mo_138 ft_Mo fw_Mo_16 h_238 rfl rfl (Nat.le_of_ble_eq_true rfl) rfl d_Mo_readTerm_204 (fun M_243 h_244 fr_245 => ?_)
            refine G_goto hC 388 (by decide) d_Mo_readTerm_207 ?_
            exact J388 M_243 _ _ _ _ _ (((fr_236.up (T := [500]) (by simp)).tr' (T := [500]) fr_239 (fun _ z => z) (by simp)).tr' (T := [500]) fr_245 (fun _ z => z) (by simp)) h_244 (rq (e160.trans (if_pos c_87)) (rq_targ (by omega) c_242))
      · have c_86 := b2i_ne0.mp c_86
        have hl1 := has_len c_86 (n := 8) (by decide)
        refine G_aload_n hC 0 rfl rfl d_Mo_readTerm_122 ?_
        refine G_iload hC 4 rfl d_Mo_readTerm_123 ?_
        refine G_bipush (j := 8) hC (by decide +kernel) d_Mo_readTerm_125 ?_
        refine G_iadd hC d_Mo_readTerm_127 ?_
        refine G_putX (fs' := [.ref tp, vI tm, vI en, .ref ou, .ref sa, .ref aa, .ref na, .ref va, .ref lo, .ref dm, .int fm, vI st, .ref tg, vI cn, vI vo, .ref pc, vI 8, vI (sgnS xs start), vI (q + 8), vI (-1), vI 32, .int w0]) hC fl_Mo_141 ft_Mo fw_Mo_18 ho90 rfl rfl (Nat.le_of_ble_eq_true rfl) rfl d_Mo_readTerm_128 (fun M_246 h_247 fr_248 => ?_)
        refine G_aload_n hC 0 rfl rfl d_Mo_readTerm_131 ?_
        refine G_iload_n hC 3 rfl rfl d_Mo_readTerm_132 ?_
        refine G_putX (fs' := [.ref tp, vI tm, vI en, .ref ou, .ref sa, .ref aa, .ref na, .ref va, .ref lo, .ref dm, .int fm, vI st, .ref tg, vI cn, vI vo, .ref pc, vI 8, vI (sgnS xs start), vI (q + 8), vI to, vI 32, .int w0]) hC fl_Mo_144 ft_Mo fw_Mo_19 h_247 rfl rfl (Nat.le_of_ble_eq_true rfl) rfl d_Mo_readTerm_133 (fun M_249 h_250 fr_251 => ?_)
        refine G_aload_n hC 1 rfl rfl d_Mo_readTerm_136 ?_
        refine G_aload_n hC 0 rfl rfl d_Mo_readTerm_137 ?_
        refine G_get hC fl_Mo_141 h_250 rfl d_Mo_readTerm_138 ?_
        refine G_aload_n hC 0 rfl rfl d_Mo_readTerm_141 ?_
        refine G_get hC fl_Mo_144 h_250 rfl d_Mo_readTerm_142 ?_
        refine G_iconst (i := 1) hC d_Mo_readTerm_145 ?_
        have h_252 := h_84.fr fr_248 (by simp only [List.mem_cons, List.not_mem_nil, or_false, not_or, not_false_eq_true]; try omega)
        have h_253 := h_252.fr fr_251 (by simp only [List.mem_cons, List.not_mem_nil, or_false, not_or, not_false_eq_true]; try omega)
        refine G_pS (rest := []) hC hR (c_Mo_isD (sl := true) h_253 (by omega) (Or.inl rfl) rfl) cs_Mo_157 (by decide) (by omega) (by omega) rfl rfl (Nat.le_of_ble_eq_true rfl) d_Mo_readTerm_146 ?_
        refine G_if_eq hC 388 (by have := b2i_rng (targS xs (q + 8) to); omega) (by decide) d_Mo_readTerm_149 (fun c_254 => ?_) (fun c_254 => ?_)
        · have c_254 := b2i_eq0.mp c_254
          exact J388 M_249 _ _ _ _ _ ((fr_248.up (T := [500]) (by simp)).tr' (T := [500]) fr_251 (fun _ z => z) (by simp)) h_250 (rq (e110.trans (if_pos c_86)) (rq_tno c_254 rfl))
        · have c_254 := b2i_ne0.mp c_254
          refine G_aload_n hC 0 rfl rfl d_Mo_readTerm_152 ?_
          refine G_iconst (i := 1) hC d_Mo_readTerm_153 ?_
          refine G_putX (fs' := [.ref tp, vI tm, vI en, .ref ou, .ref sa, .ref aa, .ref na, .ref va, .ref lo, .ref dm, .int fm, vI st, .ref tg, vI cn, vI vo, .ref pc, vI 1, vI (sgnS xs start), vI (q + 8), vI to, vI 32, .int w0]) hC fl_Mo_138 ft_Mo fw_Mo_16 h_250 rfl rfl (Nat.le_of_ble_eq_true rfl) rfl d_Mo_readTerm_154 (fun M_255 h_256 fr_257 => ?_)
          refine G_goto hC 388 (by decide) d_Mo_readTerm_157 ?_
          exact J388 M_255 _ _ _ _ _ (((fr_248.up (T := [500]) (by simp)).tr' (T := [500]) fr_251 (fun _ z => z) (by simp)).tr' (T := [500]) fr_257 (fun _ z => z) (by simp)) h_256 (rq (e110.trans (if_pos c_86)) (rq_targ (by omega) c_254))
    · have c_85 := b2i_ne0.mp c_85
      have c_85 := of_decide_eq_true c_85
      refine G_aload_n hC 0 rfl rfl d_Mo_readTerm_102 ?_
      refine G_iconst (i := 0) hC d_Mo_readTerm_103 ?_
      refine G_putX (fs' := [.ref tp, vI tm, vI en, .ref ou, .ref sa, .ref aa, .ref na, .ref va, .ref lo, .ref dm, .int fm, vI st, .ref tg, vI cn, vI vo, .ref pc, vI 0, vI (sgnS xs start), vI (-1), vI (-1), vI 32, .int w0]) hC fl_Mo_138 ft_Mo fw_Mo_16 ho90 rfl rfl (Nat.le_of_ble_eq_true rfl) rfl d_Mo_readTerm_104 (fun M_258 h_259 fr_260 => ?_)
      refine G_goto hC 388 (by decide) d_Mo_readTerm_107 ?_
      exact J388 M_258 _ _ _ _ _ (fr_260.up (T := [500]) (by simp)) h_259 (rq (rt_all c_85) (rq_plain (by omega)))
  refine G_aload_n hC 2 rfl rfl d_Mo_readTerm_31 ?_
  refine G_iload hC 0 rfl d_Mo_readTerm_32 ?_
  have h_261 := h_row_p.fr fr_3 (by simp only [List.mem_cons, List.not_mem_nil, or_false, not_or, not_false_eq_true]; try omega)
  have h_262 := h_261.fr fr_6 (by simp only [List.mem_cons, List.not_mem_nil, or_false, not_or, not_false_eq_true]; try omega)
  have h_263 := h_262.fr fr_9 (by simp only [List.mem_cons, List.not_mem_nil, or_false, not_or, not_false_eq_true]; try omega)
  have h_264 := h_263.fr fr_12 (by simp only [List.mem_cons, List.not_mem_nil, or_false, not_or, not_false_eq_true]; try omega)
  have h_265 := h_264.fr fr_15 (by simp only [List.mem_cons, List.not_mem_nil, or_false, not_or, not_false_eq_true]; try omega)
  refine G_baldR hC h_265 (by omega) d_Mo_readTerm_34 ?_
  have g_266 := h_265.rng start
  have g_267 := atS_gx (xs := xs) (i := start) (by omega)
  refine G_bipush (j := 43) hC (by decide +kernel) d_Mo_readTerm_35 ?_
  refine G_icmp_eq hC 67 (by omega) (by decide) (by decide) d_Mo_readTerm_37 (fun c_268 => ?_) (fun c_268 => ?_)
  · refine G_iconst (i := 1) hC d_Mo_readTerm_67 ?_
    refine G_goto hC 72 (by decide) d_Mo_readTerm_68 ?_
    refine G_istore (lv' := [(5, vI 1), (4, vI start), (0, .ref a), (1, .ref p), (2, vI start), (3, vI to)]) hC (by rw [hN]; decide) rfl d_Mo_readTerm_72 ?_
    refine G_iload hC 0 rfl d_Mo_readTerm_74 ?_
    refine G_if_eq hC 90 (by decide) (by decide) d_Mo_readTerm_76 (fun c_269 => ?_) (fun c_269 => ?_)
    · exact (show False from by omega).elim
    · refine G_aload_n hC 2 rfl rfl d_Mo_readTerm_79 ?_
      refine G_aload_n hC 3 rfl rfl d_Mo_readTerm_80 ?_
      refine G_iload hC 1 rfl d_Mo_readTerm_81 ?_
      refine G_baldR hC h_265 (by omega) d_Mo_readTerm_83 ?_
      have g_270 := h_265.rng start
      have g_271 := atS_gx (xs := xs) (i := start) (by omega)
      refine G_top (b := atS xs start) (by omega) ?_
      refine G_putX (fs' := [.ref tp, vI tm, vI en, .ref ou, .ref sa, .ref aa, .ref na, .ref va, .ref lo, .ref dm, .int fm, vI st, .ref tg, vI cn, vI vo, .ref pc, vI 8, vI (atS xs start), vI (-1), vI (-1), vI 32, .int w0]) hC fl_Mo_135 ft_Mo fw_Mo_17 h_14 rfl rfl (Nat.le_of_ble_eq_true rfl) rfl d_Mo_readTerm_84 (fun M_272 h_273 fr_274 => ?_)
      refine G_iinc (lv' := [(4, vI (start + 1)), (5, vI 1), (0, .ref a), (1, .ref p), (2, vI start), (3, vI to)]) hC 1 rfl (by rw [hN]; decide) rfl d_Mo_readTerm_87 ?_
      have h_275 : M_272 a = some (500, .inr (cMo, [.ref tp, vI tm, vI en, .ref ou, .ref sa, .ref aa, .ref na, .ref va, .ref lo, .ref dm, .int fm, vI st, .ref tg, vI cn, vI vo, .ref pc, vI 8, vI (sgnS xs start), vI (-1), vI (-1), vI 32, .int w0])) := by rw [show sgnS xs start = atS xs start from by unfold sgnS; split <;> omega]; exact h_273
      refine G_lv [2, 3, 4, 5, 0, 1] rfl ?_
      exact J90 M_272 (start + 1) 1 (fr_274.up (T := [500]) (by simp)) h_275 (by omega) (by rw [if_pos (show sgP (atS xs start) by omega)] at hr; rw [ref_rs0 (by omega)]; exact hr)
  · refine G_aload_n hC 2 rfl rfl d_Mo_readTerm_40 ?_
    refine G_iload hC 0 rfl d_Mo_readTerm_41 ?_
    refine G_baldR hC h_265 (by omega) d_Mo_readTerm_43 ?_
    have g_276 := h_265.rng start
    have g_277 := atS_gx (xs := xs) (i := start) (by omega)
    refine G_bipush (j := 63) hC (by decide +kernel) d_Mo_readTerm_44 ?_
    refine G_icmp_eq hC 67 (by omega) (by decide) (by decide) d_Mo_readTerm_46 (fun c_278 => ?_) (fun c_278 => ?_)
    · refine G_iconst (i := 1) hC d_Mo_readTerm_67 ?_
      refine G_goto hC 72 (by decide) d_Mo_readTerm_68 ?_
      refine G_istore (lv' := [(5, vI 1), (4, vI start), (0, .ref a), (1, .ref p), (2, vI start), (3, vI to)]) hC (by rw [hN]; decide) rfl d_Mo_readTerm_72 ?_
      refine G_iload hC 0 rfl d_Mo_readTerm_74 ?_
      refine G_if_eq hC 90 (by decide) (by decide) d_Mo_readTerm_76 (fun c_279 => ?_) (fun c_279 => ?_)
      · exact (show False from by omega).elim
      · refine G_aload_n hC 2 rfl rfl d_Mo_readTerm_79 ?_
        refine G_aload_n hC 3 rfl rfl d_Mo_readTerm_80 ?_
        refine G_iload hC 1 rfl d_Mo_readTerm_81 ?_
        refine G_baldR hC h_265 (by omega) d_Mo_readTerm_83 ?_
        have g_280 := h_265.rng start
        have g_281 := atS_gx (xs := xs) (i := start) (by omega)
        refine G_top (b := atS xs start) (by omega) ?_
        refine G_putX (fs' := [.ref tp, vI tm, vI en, .ref ou, .ref sa, .ref aa, .ref na, .ref va, .ref lo, .ref dm, .int fm, vI st, .ref tg, vI cn, vI vo, .ref pc, vI 8, vI (atS xs start), vI (-1), vI (-1), vI 32, .int w0]) hC fl_Mo_135 ft_Mo fw_Mo_17 h_14 rfl rfl (Nat.le_of_ble_eq_true rfl) rfl d_Mo_readTerm_84 (fun M_282 h_283 fr_284 => ?_)
        refine G_iinc (lv' := [(4, vI (start + 1)), (5, vI 1), (0, .ref a), (1, .ref p), (2, vI start), (3, vI to)]) hC 1 rfl (by rw [hN]; decide) rfl d_Mo_readTerm_87 ?_
        have h_285 : M_282 a = some (500, .inr (cMo, [.ref tp, vI tm, vI en, .ref ou, .ref sa, .ref aa, .ref na, .ref va, .ref lo, .ref dm, .int fm, vI st, .ref tg, vI cn, vI vo, .ref pc, vI 8, vI (sgnS xs start), vI (-1), vI (-1), vI 32, .int w0])) := by rw [show sgnS xs start = atS xs start from by unfold sgnS; split <;> omega]; exact h_283
        refine G_lv [2, 3, 4, 5, 0, 1] rfl ?_
        exact J90 M_282 (start + 1) 1 (fr_284.up (T := [500]) (by simp)) h_285 (by omega) (by rw [if_pos (show sgP (atS xs start) by omega)] at hr; rw [ref_rs0 (by omega)]; exact hr)
    · refine G_aload_n hC 2 rfl rfl d_Mo_readTerm_49 ?_
      refine G_iload hC 0 rfl d_Mo_readTerm_50 ?_
      refine G_baldR hC h_265 (by omega) d_Mo_readTerm_52 ?_
      have g_286 := h_265.rng start
      have g_287 := atS_gx (xs := xs) (i := start) (by omega)
      refine G_bipush (j := 126) hC (by decide +kernel) d_Mo_readTerm_53 ?_
      refine G_icmp_eq hC 67 (by omega) (by decide) (by decide) d_Mo_readTerm_55 (fun c_288 => ?_) (fun c_288 => ?_)
      · refine G_iconst (i := 1) hC d_Mo_readTerm_67 ?_
        refine G_goto hC 72 (by decide) d_Mo_readTerm_68 ?_
        refine G_istore (lv' := [(5, vI 1), (4, vI start), (0, .ref a), (1, .ref p), (2, vI start), (3, vI to)]) hC (by rw [hN]; decide) rfl d_Mo_readTerm_72 ?_
        refine G_iload hC 0 rfl d_Mo_readTerm_74 ?_
        refine G_if_eq hC 90 (by decide) (by decide) d_Mo_readTerm_76 (fun c_289 => ?_) (fun c_289 => ?_)
        · exact (show False from by omega).elim
        · refine G_aload_n hC 2 rfl rfl d_Mo_readTerm_79 ?_
          refine G_aload_n hC 3 rfl rfl d_Mo_readTerm_80 ?_
          refine G_iload hC 1 rfl d_Mo_readTerm_81 ?_
          refine G_baldR hC h_265 (by omega) d_Mo_readTerm_83 ?_
          have g_290 := h_265.rng start
          have g_291 := atS_gx (xs := xs) (i := start) (by omega)
          refine G_top (b := atS xs start) (by omega) ?_
          refine G_putX (fs' := [.ref tp, vI tm, vI en, .ref ou, .ref sa, .ref aa, .ref na, .ref va, .ref lo, .ref dm, .int fm, vI st, .ref tg, vI cn, vI vo, .ref pc, vI 8, vI (atS xs start), vI (-1), vI (-1), vI 32, .int w0]) hC fl_Mo_135 ft_Mo fw_Mo_17 h_14 rfl rfl (Nat.le_of_ble_eq_true rfl) rfl d_Mo_readTerm_84 (fun M_292 h_293 fr_294 => ?_)
          refine G_iinc (lv' := [(4, vI (start + 1)), (5, vI 1), (0, .ref a), (1, .ref p), (2, vI start), (3, vI to)]) hC 1 rfl (by rw [hN]; decide) rfl d_Mo_readTerm_87 ?_
          have h_295 : M_292 a = some (500, .inr (cMo, [.ref tp, vI tm, vI en, .ref ou, .ref sa, .ref aa, .ref na, .ref va, .ref lo, .ref dm, .int fm, vI st, .ref tg, vI cn, vI vo, .ref pc, vI 8, vI (sgnS xs start), vI (-1), vI (-1), vI 32, .int w0])) := by rw [show sgnS xs start = atS xs start from by unfold sgnS; split <;> omega]; exact h_293
          refine G_lv [2, 3, 4, 5, 0, 1] rfl ?_
          exact J90 M_292 (start + 1) 1 (fr_294.up (T := [500]) (by simp)) h_295 (by omega) (by rw [if_pos (show sgP (atS xs start) by omega)] at hr; rw [ref_rs0 (by omega)]; exact hr)
      · refine G_aload_n hC 2 rfl rfl d_Mo_readTerm_58 ?_
        refine G_iload hC 0 rfl d_Mo_readTerm_59 ?_
        refine G_baldR hC h_265 (by omega) d_Mo_readTerm_61 ?_
        have g_296 := h_265.rng start
        have g_297 := atS_gx (xs := xs) (i := start) (by omega)
        refine G_bipush (j := 45) hC (by decide +kernel) d_Mo_readTerm_62 ?_
        refine G_icmp_ne hC 71 (by omega) (by decide) (by decide) d_Mo_readTerm_64 (fun c_298 => ?_) (fun c_298 => ?_)
        · refine G_iconst (i := 0) hC d_Mo_readTerm_71 ?_
          refine G_istore (lv' := [(5, vI 0), (4, vI start), (0, .ref a), (1, .ref p), (2, vI start), (3, vI to)]) hC (by rw [hN]; decide) rfl d_Mo_readTerm_72 ?_
          refine G_iload hC 0 rfl d_Mo_readTerm_74 ?_
          refine G_if_eq hC 90 (by decide) (by decide) d_Mo_readTerm_76 (fun c_299 => ?_) (fun c_299 => ?_)
          · have h_300 : M_13 a = some (500, .inr (cMo, [.ref tp, vI tm, vI en, .ref ou, .ref sa, .ref aa, .ref na, .ref va, .ref lo, .ref dm, .int fm, vI st, .ref tg, vI cn, vI vo, .ref pc, vI 8, vI (sgnS xs start), vI (-1), vI (-1), vI 32, .int w0])) := by rw [show sgnS xs start = 43 from by unfold sgnS; split <;> omega]; exact h_14
            refine G_lv [2, 3, 4, 5, 1, 0] rfl ?_
            exact J90 M_13 start 0 Fr.rf h_300 (by omega) (by rw [if_neg (show ¬ sgP (atS xs start) by omega)] at hr; rw [ref_rs0 (by omega)]; exact hr)
          · exact (show False from by omega).elim
        · refine G_iconst (i := 1) hC d_Mo_readTerm_67 ?_
          refine G_goto hC 72 (by decide) d_Mo_readTerm_68 ?_
          refine G_istore (lv' := [(5, vI 1), (4, vI start), (0, .ref a), (1, .ref p), (2, vI start), (3, vI to)]) hC (by rw [hN]; decide) rfl d_Mo_readTerm_72 ?_
          refine G_iload hC 0 rfl d_Mo_readTerm_74 ?_
          refine G_if_eq hC 90 (by decide) (by decide) d_Mo_readTerm_76 (fun c_301 => ?_) (fun c_301 => ?_)
          · exact (show False from by omega).elim
          · refine G_aload_n hC 2 rfl rfl d_Mo_readTerm_79 ?_
            refine G_aload_n hC 3 rfl rfl d_Mo_readTerm_80 ?_
            refine G_iload hC 1 rfl d_Mo_readTerm_81 ?_
            refine G_baldR hC h_265 (by omega) d_Mo_readTerm_83 ?_
            have g_302 := h_265.rng start
            have g_303 := atS_gx (xs := xs) (i := start) (by omega)
            refine G_top (b := atS xs start) (by omega) ?_
            refine G_putX (fs' := [.ref tp, vI tm, vI en, .ref ou, .ref sa, .ref aa, .ref na, .ref va, .ref lo, .ref dm, .int fm, vI st, .ref tg, vI cn, vI vo, .ref pc, vI 8, vI (atS xs start), vI (-1), vI (-1), vI 32, .int w0]) hC fl_Mo_135 ft_Mo fw_Mo_17 h_14 rfl rfl (Nat.le_of_ble_eq_true rfl) rfl d_Mo_readTerm_84 (fun M_304 h_305 fr_306 => ?_)
            refine G_iinc (lv' := [(4, vI (start + 1)), (5, vI 1), (0, .ref a), (1, .ref p), (2, vI start), (3, vI to)]) hC 1 rfl (by rw [hN]; decide) rfl d_Mo_readTerm_87 ?_
            have h_307 : M_304 a = some (500, .inr (cMo, [.ref tp, vI tm, vI en, .ref ou, .ref sa, .ref aa, .ref na, .ref va, .ref lo, .ref dm, .int fm, vI st, .ref tg, vI cn, vI vo, .ref pc, vI 8, vI (sgnS xs start), vI (-1), vI (-1), vI 32, .int w0])) := by rw [show sgnS xs start = atS xs start from by unfold sgnS; split <;> omega]; exact h_305
            refine G_lv [2, 3, 4, 5, 0, 1] rfl ?_
            exact J90 M_304 (start + 1) 1 (fr_306.up (T := [500]) (by simp)) h_307 (by omega) (by rw [if_pos (show sgP (atS xs start) by omega)] at hr; rw [ref_rs0 (by omega)]; exact hr)
