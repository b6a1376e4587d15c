set_option maxHeartbeats 4000000 in
set_option maxRecDepth 100000 in
theorem c_Mo_recordOf {l : Launch} {D : Dg} {b0 : Nat} {M : Mp} {a : Nat} {d : Nat} {tp : Nat} {tm : Int} {en : Int} {ou : Nat} {sa : Nat} {aa : Nat} {na : Nat} {va : Nat} {lo : Nat} {dm : Nat} {fm : Int32} {st : Int} {tg : Nat} {cn : Int} {vo : Int} {pc : Nat} {k0 : Int} {s0 : Int} {f0 : Int} {o0 : Int} {n0 : Int} {w0 : Int32} {es : List Ent} {t : Nat} {len : Nat} {xs : List Int} {z : Int} (h_obj_a : M a = some (500, .inr (cMo, [.ref tp, vI tm, vI en, .ref ou, .ref sa, .ref aa, .ref na, .ref va, .ref lo, .ref dm, .int fm, vI st, .ref tg, vI cn, vI vo, .ref pc, vI k0, vI s0, vI f0, vI o0, vI n0, .int w0]))) (h_Md_sa : IsMd D M sa aa na va es) (h_Tx_d : IsT D M d t len xs) (hen : en = (es.length : Int)) (hr : recL xs es 0 (-1) = z) : OkP l D b0 7 y_Mo_recordOf b_Mo_recordOf 5 (some .int) M [.ref a, .ref d] (vI z) := by
  refine Ok_of rfl (Nat.le_of_ble_eq_true rfl) (fun E hC hQ hl hD hB hN hR => ?_)
  subst hl hD hB
  have hD9 := h_Md_sa.len
  obtain ⟨g_8, ga_9, fn_10, fv_11, h_1, h_2, h_3, h_4, h_5, h_6, h_7⟩ := id h_Md_sa
  show G E M 0 0 [(0, .ref a), (1, .ref d)] [] 0
  refine G_iconst (i := (-1)) hC d_Mo_recordOf_0 ?_
  refine G_istore_n (lv' := [(2, vI (-1)), (0, .ref a), (1, .ref d)]) hC rfl (by rw [hN]; decide) rfl d_Mo_recordOf_1 ?_
  refine G_iconst (i := 0) hC d_Mo_recordOf_2 ?_
  refine G_istore_n (lv' := [(3, vI 0), (2, vI (-1)), (0, .ref a), (1, .ref d)]) hC rfl (by rw [hN]; decide) rfl d_Mo_recordOf_3 ?_
  have L4 : ∀ (N : Nat) (found : Int) (k : Int), ((es.length : Int) - k).toNat < N → (0 ≤ k ∧ k ≤ es.length ∧ -1 ≤ found ∧ found ≤ 40) → (recL xs (es.drop k.toNat) k found = z) → G E M 0 0 [(0, .ref a), (1, .ref d), (2, vI found), (3, vI k)] [] 4 := by
    intro N
    induction N with
    | zero => intro found k hN4 hk hf; exact absurd hN4 (Nat.not_lt_zero _)
    | succ N ih4 =>
      intro found k hN4 hk hf
      refine G_iload_n hC 3 rfl rfl d_Mo_recordOf_4 ?_
      refine G_aload_n hC 0 rfl rfl d_Mo_recordOf_5 ?_
      refine G_get hC fl_Mo_73 h_obj_a rfl d_Mo_recordOf_6 ?_
      refine G_icmp_ge hC 89 (by omega) (by omega) (by decide) d_Mo_recordOf_9 (fun c_12 => ?_) (fun c_12 => ?_)
      · refine G_iload_n hC 2 rfl rfl d_Mo_recordOf_89 ?_
        exact G_iretP hC hQ d_Mo_recordOf_90 (by rw [List.drop_eq_nil_of_le (by omega), recL] at hf; exact hf)
      · refine G_aload_n hC 0 rfl rfl d_Mo_recordOf_12 ?_
        refine G_iload_n hC 3 rfl rfl d_Mo_recordOf_13 ?_
        refine G_iconst (i := 0) hC d_Mo_recordOf_14 ?_
        refine G_aload_n hC 1 rfl rfl d_Mo_recordOf_15 ?_
        obtain ⟨x, hx1, hx2⟩ := get_of (es := es) (k := k) (by omega)
        rw [hx2, recL] at hf
        refine G_pV (rest := []) hC hR (c_Mo_isOf h_obj_a h_Md_sa h_Tx_d (by omega) (by omega) hx2) cv_Mo_92 ⟨_, _, h_obj_a⟩ (by decide) (by omega) (by omega) rfl rfl (Nat.le_of_ble_eq_true rfl) d_Mo_recordOf_16 ?_
        refine G_if_ne hC 25 (by have := b2i_rng (isD 0 xs x); omega) (by decide) d_Mo_recordOf_19 (fun c_13 => ?_) (fun c_13 => ?_)
        · have c_13 := b2i_ne0.mp c_13
          refine G_aload_n hC 0 rfl rfl d_Mo_recordOf_25 ?_
          refine G_get hC fl_Mo_47 h_obj_a rfl d_Mo_recordOf_26 ?_
          refine G_iload_n hC 3 rfl rfl d_Mo_recordOf_29 ?_
          obtain ⟨t_14, u_15, ns_16, vs_17, h_18, h_19, h_20, h_21, h_22⟩ := h_7 (k : Int).toNat (by omega)
          refine G_aald hC h_4 rfl (by omega) (by omega) (by rw [h_19]) d_Mo_recordOf_30 ?_
          refine G_astore (lv' := [(4, .ref u_15), (0, .ref a), (1, .ref d), (2, vI found), (3, vI k)]) hC (by rw [hN]; decide) rfl d_Mo_recordOf_31 ?_
          have g_26 := h_21.len
          obtain ⟨r_23, h_24, h_25⟩ := id h_21
          have hvs := (h_22 x hx1).2
          have hisD := c_13
          refine G_aload hC 0 rfl d_Mo_recordOf_33 ?_
          refine G_get hC fl_Mo_192 h_24 rfl d_Mo_recordOf_35 ?_
          refine G_iconst (i := 0) hC d_Mo_recordOf_38 ?_
          refine G_aload hC 0 rfl d_Mo_recordOf_39 ?_
          refine G_get hC fl_Mo_86 h_24 rfl d_Mo_recordOf_41 ?_
          refine G_ldcS (tx := "v=spf1") (i := 0) hC (by decide) d_Mo_recordOf_44 ?_
          refine G_pS (rest := []) hC hR (c_Mo_is h_25 (by decide) (by omega) (by omega)) cs_Mo_11 (by decide) (by omega) (by omega) rfl rfl (Nat.le_of_ble_eq_true rfl) d_Mo_recordOf_46 ?_
          refine G_if_ne hC 74 (by have := b2i_rng (decide (isP2 vs_17 (wrd 0) 0 (vs_17.length : Int))); omega) (by decide) d_Mo_recordOf_49 (fun c_27 => ?_) (fun c_27 => ?_)
          · have c_27 := b2i_ne0.mp c_27
            have c_27 := of_decide_eq_true c_27
            rw [if_pos (show isP xs x = true from isP_iff.mpr ⟨hisD, by rw [← hvs]; exact Or.inl c_27⟩)] at hf
            refine G_iload_n hC 3 rfl rfl d_Mo_recordOf_74 ?_
            refine G_if_lt hC 81 (by omega) (by decide) d_Mo_recordOf_75 (fun c_28 => ?_) (fun c_28 => ?_)
            · rw [if_neg (show ¬ 0 ≤ found by omega)] at hf
              refine G_iload_n hC 4 rfl rfl d_Mo_recordOf_81 ?_
              refine G_istore_n (lv' := [(2, vI k), (4, .ref u_15), (0, .ref a), (1, .ref d), (3, vI k)]) hC rfl (by rw [hN]; decide) rfl d_Mo_recordOf_82 ?_
              refine G_iinc (lv' := [(3, vI (k + 1)), (2, vI k), (4, .ref u_15), (0, .ref a), (1, .ref d)]) hC 4 rfl (by rw [hN]; decide) rfl d_Mo_recordOf_83 ?_
              refine G_goto hC 4 (by decide) d_Mo_recordOf_86 ?_
              refine G_lv [3, 4, 1, 0] rfl ?_
              exact ih4 k (k + 1) (by omega) (by omega) hf
            · refine G_bipush (j := (-2)) hC (by decide +kernel) d_Mo_recordOf_78 ?_
              exact G_iretP hC hQ d_Mo_recordOf_80 (by rw [if_pos (show 0 ≤ found by omega)] at hf; exact hf)
          · have c_27 := b2i_eq0.mp c_27
            have c_27 := of_decide_eq_false c_27
            refine G_aload hC 0 rfl d_Mo_recordOf_52 ?_
            refine G_get hC fl_Mo_192 h_24 rfl d_Mo_recordOf_54 ?_
            refine G_iconst (i := 0) hC d_Mo_recordOf_57 ?_
            refine G_aload hC 0 rfl d_Mo_recordOf_58 ?_
            refine G_get hC fl_Mo_86 h_24 rfl d_Mo_recordOf_60 ?_
            refine G_ldcS (tx := "v=spf1 ") (i := 8) hC (by decide) d_Mo_recordOf_63 ?_
            refine G_pS (rest := []) hC hR (c_Mo_begins h_25 (by decide) (by omega) (by omega)) cs_Mo_154 (by decide) (by omega) (by omega) rfl rfl (Nat.le_of_ble_eq_true rfl) d_Mo_recordOf_65 ?_
            refine G_if_ne hC 74 (by have := b2i_rng (hasS vs_17 (wrd 8) 0 (vs_17.length : Int)); omega) (by decide) d_Mo_recordOf_68 (fun c_29 => ?_) (fun c_29 => ?_)
            · have c_29 := b2i_ne0.mp c_29
              rw [if_pos (show isP xs x = true from isP_iff.mpr ⟨hisD, by rw [← hvs]; exact Or.inr c_29⟩)] at hf
              refine G_iload_n hC 3 rfl rfl d_Mo_recordOf_74 ?_
              refine G_if_lt hC 81 (by omega) (by decide) d_Mo_recordOf_75 (fun c_30 => ?_) (fun c_30 => ?_)
              · rw [if_neg (show ¬ 0 ≤ found by omega)] at hf
                refine G_iload_n hC 4 rfl rfl d_Mo_recordOf_81 ?_
                refine G_istore_n (lv' := [(2, vI k), (4, .ref u_15), (0, .ref a), (1, .ref d), (3, vI k)]) hC rfl (by rw [hN]; decide) rfl d_Mo_recordOf_82 ?_
                refine G_iinc (lv' := [(3, vI (k + 1)), (2, vI k), (4, .ref u_15), (0, .ref a), (1, .ref d)]) hC 4 rfl (by rw [hN]; decide) rfl d_Mo_recordOf_83 ?_
                refine G_goto hC 4 (by decide) d_Mo_recordOf_86 ?_
                refine G_lv [3, 4, 1, 0] rfl ?_
                exact ih4 k (k + 1) (by omega) (by omega) hf
              · refine G_bipush (j := (-2)) hC (by decide +kernel) d_Mo_recordOf_78 ?_
                exact G_iretP hC hQ d_Mo_recordOf_80 (by rw [if_pos (show 0 ≤ found by omega)] at hf; exact hf)
            · have c_29 := b2i_eq0.mp c_29
              refine G_goto hC 83 (by decide) d_Mo_recordOf_71 ?_
              rw [if_neg (show ¬ isP xs x = true from fun z => by have z1 := (isP_iff.mp z).2; rw [← hvs] at z1; rcases z1 with z1 | z1; exact absurd z1 c_27; (have z2 := c_29.symm.trans z1; cases z2))] at hf
              refine G_iinc (lv' := [(3, vI (k + 1)), (4, .ref u_15), (0, .ref a), (1, .ref d), (2, vI found)]) hC 4 rfl (by rw [hN]; decide) rfl d_Mo_recordOf_83 ?_
              refine G_goto hC 4 (by decide) d_Mo_recordOf_86 ?_
              refine G_lv [2, 3, 4, 0] rfl ?_
              exact ih4 found (k + 1) (by omega) (by omega) hf
        · have c_13 := b2i_eq0.mp c_13
          refine G_goto hC 83 (by decide) d_Mo_recordOf_22 ?_
          rw [if_neg (show ¬ isP xs x = true from fun z => by have z1 := (isP_iff.mp z).1; have z2 := c_13.symm.trans z1; cases z2)] at hf
          refine G_iinc (lv' := [(3, vI (k + 1)), (0, .ref a), (1, .ref d), (2, vI found)]) hC 3 rfl (by rw [hN]; decide) rfl d_Mo_recordOf_83 ?_
          refine G_goto hC 4 (by decide) d_Mo_recordOf_86 ?_
          refine G_lv [1, 2, 3, 0] rfl ?_
          exact ih4 found (k + 1) (by omega) (by omega) hf
  refine G_lv [2, 3, 1, 0] rfl ?_
  exact L4 _ (-1) 0 (Nat.lt_succ_self _) (by omega) hr

set_option maxHeartbeats 4000000 in
set_option maxRecDepth 100000 in
theorem c_Mo_isQuad {l : Launch} {D : Dg} {b0 : Nat} {M : Mp} {a : Nat} {p : Nat} {q : Int} {to : Int} {tp : Nat} {tm : Int} {en : Int} {ou : Nat} {sa : Nat} {aa : Nat} {na : Nat} {va : Nat} {lo : Nat} {dm : Nat} {fm : Int32} {st : Int} {tg : Nat} {cn : Int} {vo : Int} {pc : Nat} {k0 : Int} {s0 : Int} {f0 : Int} {o0 : Int} {n0 : Int} {w0 : Int32} {t : Nat} {len : Nat} {xs : List Int} {P : Option Int32} (h_obj_a : M a = some (500, .inr (cMo, [.ref tp, vI tm, vI en, .ref ou, .ref sa, .ref aa, .ref na, .ref va, .ref lo, .ref dm, .int fm, vI st, .ref tg, vI cn, vI vo, .ref pc, vI k0, vI s0, vI f0, vI o0, vI n0, .int w0]))) (h_row_p : Row D M p t len xs) (hq : 0 ≤ q ∧ q ≤ to + 1 ∧ to ≤ xs.length) (htt : t ≠ 500) (hr : quadR xs to q 0 0 0 0 = P) : Ok l D b0 2 y_Mo_isQuad b_Mo_isQuad 8 (some .boolean) M [.ref a, .ref p, vI q, vI to] 0 0 (fun r M' => ∃ w1 : Int32, r = some (vI (b2i P.isSome)) ∧ M' a = some (500, .inr (cMo, [.ref tp, vI tm, vI en, .ref ou, .ref sa, .ref aa, .ref na, .ref va, .ref lo, .ref dm, .int fm, vI st, .ref tg, vI cn, vI vo, .ref pc, vI k0, vI s0, vI f0, vI o0, vI n0, .int w1])) ∧ (∀ v, P = some v → w1 = v) ∧ Fr [500] M M') := by
  refine Ok_of rfl (Nat.le_of_ble_eq_true rfl) (fun E hC hQ hl hD hB hN hR => ?_)
  subst hl hD hB
  have hr9 := h_row_p.len
  show G E M 0 0 [(0, .ref a), (1, .ref p), (2, vI q), (3, vI to)] [] 0
  refine G_iconst (i := 0) hC d_Mo_isQuad_0 ?_
  refine G_istore (lv' := [(4, vI 0), (0, .ref a), (1, .ref p), (2, vI q), (3, vI to)]) hC (by rw [hN]; decide) rfl d_Mo_isQuad_1 ?_
  refine G_iconst (i := 0) hC d_Mo_isQuad_3 ?_
  refine G_istore (lv' := [(5, vI 0), (4, vI 0), (0, .ref a), (1, .ref p), (2, vI q), (3, vI to)]) hC (by rw [hN]; decide) rfl d_Mo_isQuad_4 ?_
  refine G_iconst (i := 0) hC d_Mo_isQuad_6 ?_
  refine G_istore (lv' := [(6, vI 0), (5, vI 0), (4, vI 0), (0, .ref a), (1, .ref p), (2, vI q), (3, vI to)]) hC (by rw [hN]; decide) rfl d_Mo_isQuad_7 ?_
  refine G_aload_n hC 3 rfl rfl d_Mo_isQuad_9 ?_
  refine G_iconst (i := 0) hC d_Mo_isQuad_10 ?_
  refine G_putX (fs' := [.ref tp, vI tm, vI en, .ref ou, .ref sa, .ref aa, .ref na, .ref va, .ref lo, .ref dm, .int fm, vI st, .ref tg, vI cn, vI vo, .ref pc, vI k0, vI s0, vI f0, vI o0, vI n0, vI 0]) hC fl_Mo_132 ft_Mo fw_Mo_21 h_obj_a rfl rfl (Nat.le_of_ble_eq_true rfl) rfl d_Mo_isQuad_11 (fun M_1 h_2 fr_3 => ?_)
  refine G_iload_n hC 5 rfl rfl d_Mo_isQuad_14 ?_
  refine G_istore (lv' := [(7, vI q), (6, vI 0), (5, vI 0), (4, vI 0), (0, .ref a), (1, .ref p), (2, vI q), (3, vI to)]) hC (by rw [hN]; decide) rfl d_Mo_isQuad_15 ?_
  have L17 : ∀ (N : Nat) (M1 : Mp) (parts : Int) (digits : Int) (v : Int) (k : Int) (net : Int32), (to + 1 - k).toNat < N → (Fr [500] M_1 M1) → (M1 a = some (500, .inr (cMo, [.ref tp, vI tm, vI en, .ref ou, .ref sa, .ref aa, .ref na, .ref va, .ref lo, .ref dm, .int fm, vI st, .ref tg, vI cn, vI vo, .ref pc, vI k0, vI s0, vI f0, vI o0, vI n0, .int net]))) → (q ≤ k ∧ k ≤ to + 1 ∧ 0 ≤ parts ∧ parts ≤ k - q ∧ 0 ≤ digits ∧ digits ≤ 3 ∧ 0 ≤ v ∧ (digits = 0 → v = 0) ∧ (digits ≤ 1 → v ≤ 9) ∧ (digits ≤ 2 → v ≤ 99) ∧ v ≤ 999) → (quadR xs to k parts digits v net = P) → G E M1 0 0 [(0, .ref a), (1, .ref p), (2, vI q), (3, vI to), (4, vI parts), (5, vI digits), (6, vI v), (7, vI k)] [] 17 := by
    intro N
    induction N with
    | zero => intro M1 parts digits v k net hN17 hfr ho hk hf; exact absurd hN17 (Nat.not_lt_zero _)
    | succ N ih17 =>
      intro M1 parts digits v k net hN17 hfr ho hk hf
      refine G_iload hC 7 rfl d_Mo_isQuad_17 ?_
      refine G_iload_n hC 3 rfl rfl d_Mo_isQuad_19 ?_
      refine G_icmp_gt hC 124 (by omega) (by omega) (by decide) d_Mo_isQuad_20 (fun c_4 => ?_) (fun c_4 => ?_)
      · refine G_iload hC 4 rfl d_Mo_isQuad_124 ?_
        refine G_iconst (i := 4) hC d_Mo_isQuad_126 ?_
        refine G_icmp_ne hC 134 (by omega) (by decide) (by decide) d_Mo_isQuad_127 (fun c_5 => ?_) (fun c_5 => ?_)
        · refine G_iconst (i := 0) hC d_Mo_isQuad_134 ?_
          exact G_zretX _ hC hQ (by omega) (by omega) d_Mo_isQuad_135 (b2i_f (by rw [quadR] at hf; (repeat' split at hf); all_goals first | (exfalso; omega) | (rw [← hf]; rfl))) ⟨_, rfl, ho, (fun v9 hv => by rw [hv, quadR] at hf; (repeat' split at hf); all_goals first | (exfalso; omega) | exact (Option.some.inj hf) | cases hf), ((fr_3.up (T := [500]) (by simp)).tr' (T := [500]) hfr (fun _ z => z) (by simp))⟩
        · refine G_iconst (i := 1) hC d_Mo_isQuad_130 ?_
          refine G_goto hC 135 (by decide) d_Mo_isQuad_131 ?_
          exact G_zretX _ hC hQ (by omega) (by omega) d_Mo_isQuad_135 (b2i_t (by rw [quadR] at hf; (repeat' split at hf); all_goals first | (exfalso; omega) | (rw [← hf]; rfl))) ⟨_, rfl, ho, (fun v9 hv => by rw [hv, quadR] at hf; (repeat' split at hf); all_goals first | (exfalso; omega) | exact (Option.some.inj hf) | cases hf), ((fr_3.up (T := [500]) (by simp)).tr' (T := [500]) hfr (fun _ z => z) (by simp))⟩
      · refine G_iload hC 7 rfl d_Mo_isQuad_23 ?_
        refine G_iload_n hC 3 rfl rfl d_Mo_isQuad_25 ?_
        refine G_icmp_ge hC 65 (by omega) (by omega) (by decide) d_Mo_isQuad_26 (fun c_6 => ?_) (fun c_6 => ?_)
        · refine G_iload hC 7 rfl d_Mo_isQuad_65 ?_
          refine G_iload_n hC 3 rfl rfl d_Mo_isQuad_67 ?_
          refine G_icmp_ge hC 80 (by omega) (by omega) (by decide) d_Mo_isQuad_68 (fun c_7 => ?_) (fun c_7 => ?_)
          · refine G_iload hC 5 rfl d_Mo_isQuad_80 ?_
            refine G_if_eq hC 93 (by omega) (by decide) d_Mo_isQuad_82 (fun c_8 => ?_) (fun c_8 => ?_)
            · refine G_iconst (i := 0) hC d_Mo_isQuad_93 ?_
              exact G_zretX _ hC hQ (by omega) (by omega) d_Mo_isQuad_94 (b2i_f (by rw [quadR] at hf; (repeat' split at hf); all_goals first | (exfalso; omega) | (rw [← hf]; rfl))) ⟨_, rfl, ho, (fun v9 hv => by rw [hv, quadR] at hf; (repeat' split at hf); all_goals first | (exfalso; omega) | exact (Option.some.inj hf) | cases hf), ((fr_3.up (T := [500]) (by simp)).tr' (T := [500]) hfr (fun _ z => z) (by simp))⟩
            · refine G_iload hC 6 rfl d_Mo_isQuad_85 ?_
              refine G_sipush (j := 255) hC (by decide +kernel) d_Mo_isQuad_87 ?_
              refine G_icmp_le hC 95 (by omega) (by decide) (by decide) d_Mo_isQuad_90 (fun c_9 => ?_) (fun c_9 => ?_)
              · refine G_aload_n hC 0 rfl rfl d_Mo_isQuad_95 ?_
                refine G_aload_n hC 0 rfl rfl d_Mo_isQuad_96 ?_
                refine G_get hC fl_Mo_132 ho rfl d_Mo_isQuad_97 ?_
                refine G_bipush (j := 8) hC (by decide +kernel) d_Mo_isQuad_100 ?_
                refine G_ishl hC rfl d_Mo_isQuad_102 ?_
                refine G_iload hC 6 rfl d_Mo_isQuad_103 ?_
                refine G_ior hC rfl d_Mo_isQuad_105 ?_
                refine G_putX (fs' := [.ref tp, vI tm, vI en, .ref ou, .ref sa, .ref aa, .ref na, .ref va, .ref lo, .ref dm, .int fm, vI st, .ref tg, vI cn, vI vo, .ref pc, vI k0, vI s0, vI f0, vI o0, vI n0, .int ((net <<< (zI 8 &&& 31)) ||| (zI v))]) hC fl_Mo_132 ft_Mo fw_Mo_21 ho rfl rfl (Nat.le_of_ble_eq_true rfl) rfl d_Mo_isQuad_106 (fun M_10 h_11 fr_12 => ?_)
                refine G_iinc (lv' := [(4, vI (parts + 1)), (0, .ref a), (1, .ref p), (2, vI q), (3, vI to), (5, vI digits), (6, vI v), (7, vI k)]) hC 4 rfl (by rw [hN]; decide) rfl d_Mo_isQuad_109 ?_
                refine G_iconst (i := 0) hC d_Mo_isQuad_112 ?_
                refine G_istore (lv' := [(5, vI 0), (4, vI (parts + 1)), (0, .ref a), (1, .ref p), (2, vI q), (3, vI to), (6, vI v), (7, vI k)]) hC (by rw [hN]; decide) rfl d_Mo_isQuad_113 ?_
                refine G_iconst (i := 0) hC d_Mo_isQuad_115 ?_
                refine G_istore (lv' := [(6, vI 0), (5, vI 0), (4, vI (parts + 1)), (0, .ref a), (1, .ref p), (2, vI q), (3, vI to), (7, vI k)]) hC (by rw [hN]; decide) rfl d_Mo_isQuad_116 ?_
                refine G_iinc (lv' := [(7, vI (k + 1)), (6, vI 0), (5, vI 0), (4, vI (parts + 1)), (0, .ref a), (1, .ref p), (2, vI q), (3, vI to)]) hC 7 rfl (by rw [hN]; decide) rfl d_Mo_isQuad_118 ?_
                refine G_goto hC 17 (by decide) d_Mo_isQuad_121 ?_
                refine G_lv [4, 5, 6, 7, 3, 2, 1, 0] rfl ?_
                exact ih17 M_10 (parts + 1) 0 0 (k + 1) _ (by omega) ((hfr.up (T := [500]) (by simp)).tr' (T := [500]) fr_12 (fun _ z => z) (by simp)) h_11 (by omega) (by rw [quadR] at hf; (repeat' split at hf); all_goals first | (exfalso; omega) | exact hf | (rw [show 10 * v + gx xs k - 48 = 10 * v + atS xs k - 48 by omega]; exact hf))
              · refine G_iconst (i := 0) hC d_Mo_isQuad_93 ?_
                exact G_zretX _ hC hQ (by omega) (by omega) d_Mo_isQuad_94 (b2i_f (by rw [quadR] at hf; (repeat' split at hf); all_goals first | (exfalso; omega) | (rw [← hf]; rfl))) ⟨_, rfl, ho, (fun v9 hv => by rw [hv, quadR] at hf; (repeat' split at hf); all_goals first | (exfalso; omega) | exact (Option.some.inj hf) | cases hf), ((fr_3.up (T := [500]) (by simp)).tr' (T := [500]) hfr (fun _ z => z) (by simp))⟩
          · refine G_aload_n hC 1 rfl rfl d_Mo_isQuad_71 ?_
            refine G_iload hC 7 rfl d_Mo_isQuad_72 ?_
            have h_13 := h_row_p.fr fr_3 (by simp only [List.mem_cons, List.not_mem_nil, or_false, not_or, not_false_eq_true]; try omega)
            have h_14 := h_13.fr hfr (by simp only [List.mem_cons, List.not_mem_nil, or_false, not_or, not_false_eq_true]; try omega)
            refine G_baldR hC h_14 (by omega) d_Mo_isQuad_74 ?_
            have g_15 := h_14.rng k
            have g_16 := atS_gx (xs := xs) (i := k) (by omega)
            refine G_bipush (j := 46) hC (by decide +kernel) d_Mo_isQuad_75 ?_
            refine G_icmp_ne hC 93 (by omega) (by decide) (by decide) d_Mo_isQuad_77 (fun c_17 => ?_) (fun c_17 => ?_)
            · refine G_iconst (i := 0) hC d_Mo_isQuad_93 ?_
              exact G_zretX _ hC hQ (by omega) (by omega) d_Mo_isQuad_94 (b2i_f (by rw [quadR] at hf; (repeat' split at hf); all_goals first | (exfalso; omega) | (rw [← hf]; rfl))) ⟨_, rfl, ho, (fun v9 hv => by rw [hv, quadR] at hf; (repeat' split at hf); all_goals first | (exfalso; omega) | exact (Option.some.inj hf) | cases hf), ((fr_3.up (T := [500]) (by simp)).tr' (T := [500]) hfr (fun _ z => z) (by simp))⟩
            · refine G_iload hC 5 rfl d_Mo_isQuad_80 ?_
              refine G_if_eq hC 93 (by omega) (by decide) d_Mo_isQuad_82 (fun c_18 => ?_) (fun c_18 => ?_)
              · refine G_iconst (i := 0) hC d_Mo_isQuad_93 ?_
                exact G_zretX _ hC hQ (by omega) (by omega) d_Mo_isQuad_94 (b2i_f (by rw [quadR] at hf; (repeat' split at hf); all_goals first | (exfalso; omega) | (rw [← hf]; rfl))) ⟨_, rfl, ho, (fun v9 hv => by rw [hv, quadR] at hf; (repeat' split at hf); all_goals first | (exfalso; omega) | exact (Option.some.inj hf) | cases hf), ((fr_3.up (T := [500]) (by simp)).tr' (T := [500]) hfr (fun _ z => z) (by simp))⟩
              · refine G_iload hC 6 rfl d_Mo_isQuad_85 ?_
                refine G_sipush (j := 255) hC (by decide +kernel) d_Mo_isQuad_87 ?_
                refine G_icmp_le hC 95 (by omega) (by decide) (by decide) d_Mo_isQuad_90 (fun c_19 => ?_) (fun c_19 => ?_)
                · refine G_aload_n hC 0 rfl rfl d_Mo_isQuad_95 ?_
                  refine G_aload_n hC 0 rfl rfl d_Mo_isQuad_96 ?_
                  refine G_get hC fl_Mo_132 ho rfl d_Mo_isQuad_97 ?_
                  refine G_bipush (j := 8) hC (by decide +kernel) d_Mo_isQuad_100 ?_
                  refine G_ishl hC rfl d_Mo_isQuad_102 ?_
                  refine G_iload hC 6 rfl d_Mo_isQuad_103 ?_
                  refine G_ior hC rfl d_Mo_isQuad_105 ?_
                  refine G_putX (fs' := [.ref tp, vI tm, vI en, .ref ou, .ref sa, .ref aa, .ref na, .ref va, .ref lo, .ref dm, .int fm, vI st, .ref tg, vI cn, vI vo, .ref pc, vI k0, vI s0, vI f0, vI o0, vI n0, .int ((net <<< (zI 8 &&& 31)) ||| (zI v))]) hC fl_Mo_132 ft_Mo fw_Mo_21 ho rfl rfl (Nat.le_of_ble_eq_true rfl) rfl d_Mo_isQuad_106 (fun M_20 h_21 fr_22 => ?_)
                  refine G_iinc (lv' := [(4, vI (parts + 1)), (0, .ref a), (1, .ref p), (2, vI q), (3, vI to), (5, vI digits), (6, vI v), (7, vI k)]) hC 4 rfl (by rw [hN]; decide) rfl d_Mo_isQuad_109 ?_
                  refine G_iconst (i := 0) hC d_Mo_isQuad_112 ?_
                  refine G_istore (lv' := [(5, vI 0), (4, vI (parts + 1)), (0, .ref a), (1, .ref p), (2, vI q), (3, vI to), (6, vI v), (7, vI k)]) hC (by rw [hN]; decide) rfl d_Mo_isQuad_113 ?_
                  refine G_iconst (i := 0) hC d_Mo_isQuad_115 ?_
                  refine G_istore (lv' := [(6, vI 0), (5, vI 0), (4, vI (parts + 1)), (0, .ref a), (1, .ref p), (2, vI q), (3, vI to), (7, vI k)]) hC (by rw [hN]; decide) rfl d_Mo_isQuad_116 ?_
                  refine G_iinc (lv' := [(7, vI (k + 1)), (6, vI 0), (5, vI 0), (4, vI (parts + 1)), (0, .ref a), (1, .ref p), (2, vI q), (3, vI to)]) hC 7 rfl (by rw [hN]; decide) rfl d_Mo_isQuad_118 ?_
                  refine G_goto hC 17 (by decide) d_Mo_isQuad_121 ?_
                  refine G_lv [4, 5, 6, 7, 3, 2, 1, 0] rfl ?_
                  exact ih17 M_20 (parts + 1) 0 0 (k + 1) _ (by omega) ((hfr.up (T := [500]) (by simp)).tr' (T := [500]) fr_22 (fun _ z => z) (by simp)) h_21 (by omega) (by rw [quadR] at hf; (repeat' split at hf); all_goals first | (exfalso; omega) | exact hf | (rw [show 10 * v + gx xs k - 48 = 10 * v + atS xs k - 48 by omega]; exact hf))
                · refine G_iconst (i := 0) hC d_Mo_isQuad_93 ?_
                  exact G_zretX _ hC hQ (by omega) (by omega) d_Mo_isQuad_94 (b2i_f (by rw [quadR] at hf; (repeat' split at hf); all_goals first | (exfalso; omega) | (rw [← hf]; rfl))) ⟨_, rfl, ho, (fun v9 hv => by rw [hv, quadR] at hf; (repeat' split at hf); all_goals first | (exfalso; omega) | exact (Option.some.inj hf) | cases hf), ((fr_3.up (T := [500]) (by simp)).tr' (T := [500]) hfr (fun _ z => z) (by simp))⟩
        · refine G_aload_n hC 1 rfl rfl d_Mo_isQuad_29 ?_
          refine G_iload hC 7 rfl d_Mo_isQuad_30 ?_
          have h_23 := h_row_p.fr fr_3 (by simp only [List.mem_cons, List.not_mem_nil, or_false, not_or, not_false_eq_true]; try omega)
          have h_24 := h_23.fr hfr (by simp only [List.mem_cons, List.not_mem_nil, or_false, not_or, not_false_eq_true]; try omega)
          refine G_baldR hC h_24 (by omega) d_Mo_isQuad_32 ?_
          have g_25 := h_24.rng k
          have g_26 := atS_gx (xs := xs) (i := k) (by omega)
          refine G_pS (rest := []) hC hR (c_Mo_isDigit (by omega)) cs_Mo_102 (by decide) (by omega) (by omega) rfl rfl (Nat.le_of_ble_eq_true rfl) d_Mo_isQuad_33 ?_
          refine G_if_eq hC 65 (by have := b2i_rng (decide (digP (gx xs k))); omega) (by decide) d_Mo_isQuad_36 (fun c_27 => ?_) (fun c_27 => ?_)
          · have c_27 := b2i_eq0.mp c_27
            have c_27 := of_decide_eq_false c_27
            refine G_iload hC 7 rfl d_Mo_isQuad_65 ?_
            refine G_iload_n hC 3 rfl rfl d_Mo_isQuad_67 ?_
            refine G_icmp_ge hC 80 (by omega) (by omega) (by decide) d_Mo_isQuad_68 (fun c_28 => ?_) (fun c_28 => ?_)
            · refine G_iload hC 5 rfl d_Mo_isQuad_80 ?_
              refine G_if_eq hC 93 (by omega) (by decide) d_Mo_isQuad_82 (fun c_29 => ?_) (fun c_29 => ?_)
              · refine G_iconst (i := 0) hC d_Mo_isQuad_93 ?_
                exact G_zretX _ hC hQ (by omega) (by omega) d_Mo_isQuad_94 (b2i_f (by rw [quadR] at hf; (repeat' split at hf); all_goals first | (exfalso; omega) | (rw [← hf]; rfl))) ⟨_, rfl, ho, (fun v9 hv => by rw [hv, quadR] at hf; (repeat' split at hf); all_goals first | (exfalso; omega) | exact (Option.some.inj hf) | cases hf), ((fr_3.up (T := [500]) (by simp)).tr' (T := [500]) hfr (fun _ z => z) (by simp))⟩
              · refine G_iload hC 6 rfl d_Mo_isQuad_85 ?_
                refine G_sipush (j := 255) hC (by decide +kernel) d_Mo_isQuad_87 ?_
                refine G_icmp_le hC 95 (by omega) (by decide) (by decide) d_Mo_isQuad_90 (fun c_30 => ?_) (fun c_30 => ?_)
                · refine G_aload_n hC 0 rfl rfl d_Mo_isQuad_95 ?_
                  refine G_aload_n hC 0 rfl rfl d_Mo_isQuad_96 ?_
                  refine G_get hC fl_Mo_132 ho rfl d_Mo_isQuad_97 ?_
                  refine G_bipush (j := 8) hC (by decide +kernel) d_Mo_isQuad_100 ?_
                  refine G_ishl hC rfl d_Mo_isQuad_102 ?_
                  refine G_iload hC 6 rfl d_Mo_isQuad_103 ?_
                  refine G_ior hC rfl d_Mo_isQuad_105 ?_
                  refine G_putX (fs' := [.ref tp, vI tm, vI en, .ref ou, .ref sa, .ref aa, .ref na, .ref va, .ref lo, .ref dm, .int fm, vI st, .ref tg, vI cn, vI vo, .ref pc, vI k0, vI s0, vI f0, vI o0, vI n0, .int ((net <<< (zI 8 &&& 31)) ||| (zI v))]) hC fl_Mo_132 ft_Mo fw_Mo_21 ho rfl rfl (Nat.le_of_ble_eq_true rfl) rfl d_Mo_isQuad_106 (fun M_31 h_32 fr_33 => ?_)
                  refine G_iinc (lv' := [(4, vI (parts + 1)), (0, .ref a), (1, .ref p), (2, vI q), (3, vI to), (5, vI digits), (6, vI v), (7, vI k)]) hC 4 rfl (by rw [hN]; decide) rfl d_Mo_isQuad_109 ?_
                  refine G_iconst (i := 0) hC d_Mo_isQuad_112 ?_
                  refine G_istore (lv' := [(5, vI 0), (4, vI (parts + 1)), (0, .ref a), (1, .ref p), (2, vI q), (3, vI to), (6, vI v), (7, vI k)]) hC (by rw [hN]; decide) rfl d_Mo_isQuad_113 ?_
                  refine G_iconst (i := 0) hC d_Mo_isQuad_115 ?_
                  refine G_istore (lv' := [(6, vI 0), (5, vI 0), (4, vI (parts + 1)), (0, .ref a), (1, .ref p), (2, vI q), (3, vI to), (7, vI k)]) hC (by rw [hN]; decide) rfl d_Mo_isQuad_116 ?_
                  refine G_iinc (lv' := [(7, vI (k + 1)), (6, vI 0), (5, vI 0), (4, vI (parts + 1)), (0, .ref a), (1, .ref p), (2, vI q), (3, vI to)]) hC 7 rfl (by rw [hN]; decide) rfl d_Mo_isQuad_118 ?_
                  refine G_goto hC 17 (by decide) d_Mo_isQuad_121 ?_
                  refine G_lv [4, 5, 6, 7, 3, 2, 1, 0] rfl ?_
                  exact ih17 M_31 (parts + 1) 0 0 (k + 1) _ (by omega) ((hfr.up (T := [500]) (by simp)).tr' (T := [500]) fr_33 (fun _ z => z) (by simp)) h_32 (by omega) (by rw [quadR] at hf; (repeat' split at hf); all_goals first | (exfalso; omega) | exact hf | (rw [show 10 * v + gx xs k - 48 = 10 * v + atS xs k - 48 by omega]; exact hf))
                · refine G_iconst (i := 0) hC d_Mo_isQuad_93 ?_
                  exact G_zretX _ hC hQ (by omega) (by omega) d_Mo_isQuad_94 (b2i_f (by rw [quadR] at hf; (repeat' split at hf); all_goals first | (exfalso; omega) | (rw [← hf]; rfl))) ⟨_, rfl, ho, (fun v9 hv => by rw [hv, quadR] at hf; (repeat' split at hf); all_goals first | (exfalso; omega) | exact (Option.some.inj hf) | cases hf), ((fr_3.up (T := [500]) (by simp)).tr' (T := [500]) hfr (fun _ z => z) (by simp))⟩
            · refine G_aload_n hC 1 rfl rfl d_Mo_isQuad_71 ?_
              refine G_iload hC 7 rfl d_Mo_isQuad_72 ?_
              refine G_baldR hC h_24 (by omega) d_Mo_isQuad_74 ?_
              have g_34 := h_24.rng k
              have g_35 := atS_gx (xs := xs) (i := k) (by omega)
              refine G_bipush (j := 46) hC (by decide +kernel) d_Mo_isQuad_75 ?_
              refine G_icmp_ne hC 93 (by omega) (by decide) (by decide) d_Mo_isQuad_77 (fun c_36 => ?_) (fun c_36 => ?_)
              · refine G_iconst (i := 0) hC d_Mo_isQuad_93 ?_
                exact G_zretX _ hC hQ (by omega) (by omega) d_Mo_isQuad_94 (b2i_f (by rw [quadR] at hf; (repeat' split at hf); all_goals first | (exfalso; omega) | (rw [← hf]; rfl))) ⟨_, rfl, ho, (fun v9 hv => by rw [hv, quadR] at hf; (repeat' split at hf); all_goals first | (exfalso; omega) | exact (Option.some.inj hf) | cases hf), ((fr_3.up (T := [500]) (by simp)).tr' (T := [500]) hfr (fun _ z => z) (by simp))⟩
              · refine G_iload hC 5 rfl d_Mo_isQuad_80 ?_
                refine G_if_eq hC 93 (by omega) (by decide) d_Mo_isQuad_82 (fun c_37 => ?_) (fun c_37 => ?_)
                · refine G_iconst (i := 0) hC d_Mo_isQuad_93 ?_
                  exact G_zretX _ hC hQ (by omega) (by omega) d_Mo_isQuad_94 (b2i_f (by rw [quadR] at hf; (repeat' split at hf); all_goals first | (exfalso; omega) | (rw [← hf]; rfl))) ⟨_, rfl, ho, (fun v9 hv => by rw [hv, quadR] at hf; (repeat' split at hf); all_goals first | (exfalso; omega) | exact (Option.some.inj hf) | cases hf), ((fr_3.up (T := [500]) (by simp)).tr' (T := [500]) hfr (fun _ z => z) (by simp))⟩
                · refine G_iload hC 6 rfl d_Mo_isQuad_85 ?_
                  refine G_sipush (j := 255) hC (by decide +kernel) d_Mo_isQuad_87 ?_
                  refine G_icmp_le hC 95 (by omega) (by decide) (by decide) d_Mo_isQuad_90 (fun c_38 => ?_) (fun c_38 => ?_)
                  · refine G_aload_n hC 0 rfl rfl d_Mo_isQuad_95 ?_
                    refine G_aload_n hC 0 rfl rfl d_Mo_isQuad_96 ?_
                    refine G_get hC fl_Mo_132 ho rfl d_Mo_isQuad_97 ?_
                    refine G_bipush (j := 8) hC (by decide +kernel) d_Mo_isQuad_100 ?_
                    refine G_ishl hC rfl d_Mo_isQuad_102 ?_
                    refine G_iload hC 6 rfl d_Mo_isQuad_103 ?_
                    refine G_ior hC rfl d_Mo_isQuad_105 ?_
                    refine G_putX (fs' := [.ref tp, vI tm, vI en, .ref ou, .ref sa, .ref aa, .ref na, .ref va, .ref lo, .ref dm, .int fm, vI st, .ref tg, vI cn, vI vo, .ref pc, vI k0, vI s0, vI f0, vI o0, vI n0, .int ((net <<< (zI 8 &&& 31)) ||| (zI v))]) hC fl_Mo_132 ft_Mo fw_Mo_21 ho rfl rfl (Nat.le_of_ble_eq_true rfl) rfl d_Mo_isQuad_106 (fun M_39 h_40 fr_41 => ?_)
                    refine G_iinc (lv' := [(4, vI (parts + 1)), (0, .ref a), (1, .ref p), (2, vI q), (3, vI to), (5, vI digits), (6, vI v), (7, vI k)]) hC 4 rfl (by rw [hN]; decide) rfl d_Mo_isQuad_109 ?_
                    refine G_iconst (i := 0) hC d_Mo_isQuad_112 ?_
                    refine G_istore (lv' := [(5, vI 0), (4, vI (parts + 1)), (0, .ref a), (1, .ref p), (2, vI q), (3, vI to), (6, vI v), (7, vI k)]) hC (by rw [hN]; decide) rfl d_Mo_isQuad_113 ?_
                    refine G_iconst (i := 0) hC d_Mo_isQuad_115 ?_
                    refine G_istore (lv' := [(6, vI 0), (5, vI 0), (4, vI (parts + 1)), (0, .ref a), (1, .ref p), (2, vI q), (3, vI to), (7, vI k)]) hC (by rw [hN]; decide) rfl d_Mo_isQuad_116 ?_
                    refine G_iinc (lv' := [(7, vI (k + 1)), (6, vI 0), (5, vI 0), (4, vI (parts + 1)), (0, .ref a), (1, .ref p), (2, vI q), (3, vI to)]) hC 7 rfl (by rw [hN]; decide) rfl d_Mo_isQuad_118 ?_
                    refine G_goto hC 17 (by decide) d_Mo_isQuad_121 ?_
                    refine G_lv [4, 5, 6, 7, 3, 2, 1, 0] rfl ?_
                    exact ih17 M_39 (parts + 1) 0 0 (k + 1) _ (by omega) ((hfr.up (T := [500]) (by simp)).tr' (T := [500]) fr_41 (fun _ z => z) (by simp)) h_40 (by omega) (by rw [quadR] at hf; (repeat' split at hf); all_goals first | (exfalso; omega) | exact hf | (rw [show 10 * v + gx xs k - 48 = 10 * v + atS xs k - 48 by omega]; exact hf))
                  · refine G_iconst (i := 0) hC d_Mo_isQuad_93 ?_
                    exact G_zretX _ hC hQ (by omega) (by omega) d_Mo_isQuad_94 (b2i_f (by rw [quadR] at hf; (repeat' split at hf); all_goals first | (exfalso; omega) | (rw [← hf]; rfl))) ⟨_, rfl, ho, (fun v9 hv => by rw [hv, quadR] at hf; (repeat' split at hf); all_goals first | (exfalso; omega) | exact (Option.some.inj hf) | cases hf), ((fr_3.up (T := [500]) (by simp)).tr' (T := [500]) hfr (fun _ z => z) (by simp))⟩
          · have c_27 := b2i_ne0.mp c_27
            have c_27 := of_decide_eq_true c_27
            refine G_bipush (j := 10) hC (by decide +kernel) d_Mo_isQuad_39 ?_
            refine G_iload hC 6 rfl d_Mo_isQuad_41 ?_
            refine G_imul hC d_Mo_isQuad_43 ?_
            refine G_aload_n hC 1 rfl rfl d_Mo_isQuad_44 ?_
            refine G_iload hC 7 rfl d_Mo_isQuad_45 ?_
            refine G_baldR hC h_24 (by omega) d_Mo_isQuad_47 ?_
            have g_42 := h_24.rng k
            have g_43 := atS_gx (xs := xs) (i := k) (by omega)
            refine G_iadd hC d_Mo_isQuad_48 ?_
            refine G_bipush (j := 48) hC (by decide +kernel) d_Mo_isQuad_49 ?_
            refine G_isub hC d_Mo_isQuad_51 ?_
            refine G_istore (lv' := [(6, vI (((10 * v) + (gx xs k)) - 48)), (0, .ref a), (1, .ref p), (2, vI q), (3, vI to), (4, vI parts), (5, vI digits), (7, vI k)]) hC (by rw [hN]; decide) rfl d_Mo_isQuad_52 ?_
            refine G_iinc (lv' := [(5, vI (digits + 1)), (6, vI (((10 * v) + (gx xs k)) - 48)), (0, .ref a), (1, .ref p), (2, vI q), (3, vI to), (4, vI parts), (7, vI k)]) hC 6 rfl (by rw [hN]; decide) rfl d_Mo_isQuad_54 ?_
            refine G_iload hC 0 rfl d_Mo_isQuad_57 ?_
            refine G_iconst (i := 3) hC d_Mo_isQuad_59 ?_
            refine G_icmp_le hC 118 (by omega) (by decide) (by decide) d_Mo_isQuad_60 (fun c_44 => ?_) (fun c_44 => ?_)
            · refine G_iinc (lv' := [(7, vI (k + 1)), (5, vI (digits + 1)), (6, vI (((10 * v) + (gx xs k)) - 48)), (0, .ref a), (1, .ref p), (2, vI q), (3, vI to), (4, vI parts)]) hC 7 rfl (by rw [hN]; decide) rfl d_Mo_isQuad_118 ?_
              refine G_goto hC 17 (by decide) d_Mo_isQuad_121 ?_
              refine G_lv [3, 4, 5, 6, 7, 1, 2, 0] rfl ?_
              exact ih17 M1 parts (digits + 1) (((10 * v) + (gx xs k)) - 48) (k + 1) _ (by omega) (hfr.up (T := [500]) (by simp)) ho (by omega) (by rw [quadR] at hf; (repeat' split at hf); all_goals first | (exfalso; omega) | exact hf | (rw [show 10 * v + gx xs k - 48 = 10 * v + atS xs k - 48 by omega]; exact hf))
            · refine G_iconst (i := 0) hC d_Mo_isQuad_63 ?_
              exact G_zretX _ hC hQ (by omega) (by omega) d_Mo_isQuad_64 (b2i_f (by rw [quadR] at hf; (repeat' split at hf); all_goals first | (exfalso; omega) | (rw [← hf]; rfl))) ⟨_, rfl, ho, (fun v9 hv => by rw [hv, quadR] at hf; (repeat' split at hf); all_goals first | (exfalso; omega) | exact (Option.some.inj hf) | cases hf), ((fr_3.up (T := [500]) (by simp)).tr' (T := [500]) hfr (fun _ z => z) (by simp))⟩
  refine G_lv [4, 5, 6, 7, 3, 2, 1, 0] rfl ?_
  exact L17 _ M_1 0 0 0 q _ (Nat.lt_succ_self _) Fr.rf h_2 (by omega) hr
