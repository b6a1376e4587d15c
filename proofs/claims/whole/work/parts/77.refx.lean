set_option maxHeartbeats 4000000 in
set_option maxRecDepth 100000 in
theorem c_Mo_exchanges {l : Launch} {D : Dg} {b0 : Nat} {M : Mp} {a : Nat} {d : Nat} {n : Int} {tp : Nat} {tm : Int} {en : Int} {ou : Nat} {sa : Nat} {aa : Nat} {na : Nat} {va : Nat} {lo : Nat} {dm : Nat} {fm : Int32} {st : Int} {tg : Nat} {cn : Int} {vo : Int} {pc : Nat} {k0 : Int} {s0 : Int} {f0 : Int} {o0 : Int} {n0 : Int} {w0 : Int32} {es : List Ent} {t : Nat} {len : Nat} {xs : List Int} {z : Int} (h_obj_a : M a = some (500, .inr (cMo, [.ref tp, vI tm, vI en, .ref ou, .ref sa, .ref aa, .ref na, .ref va, .ref lo, .ref dm, .int fm, vI st, .ref tg, vI cn, vI vo, .ref pc, vI k0, vI s0, vI f0, vI o0, vI n0, .int w0]))) (h_Md_sa : IsMd D M sa aa na va es) (h_Tx_d : IsT D M d t len xs) (hen : en = (es.length : Int)) (hn : 0 ≤ n ∧ n ≤ 32) (hr : excM (excL es xs fm n es) = z) : OkP l D b0 5 y_Mo_exchanges b_Mo_exchanges 5 (some .int) M [.ref a, .ref d, vI n] (vI z) := by
  refine Ok_of rfl (Nat.le_of_ble_eq_true rfl) (fun E hC hQ hl hD hB hN hR => ?_)
  subst hl hD hB
  have hD9 := h_Md_sa.len
  obtain ⟨g_8, ga_9, fn_10, fv_11, h_1, h_2, h_3, h_4, h_5, h_6, h_7⟩ := id h_Md_sa
  show G E M 0 0 [(0, .ref a), (1, .ref d), (2, vI n)] [] 0
  refine G_iconst (i := 0) hC d_Mo_exchanges_0 ?_
  refine G_istore_n (lv' := [(3, vI 0), (0, .ref a), (1, .ref d), (2, vI n)]) hC rfl (by rw [hN]; decide) rfl d_Mo_exchanges_1 ?_
  have L2 : ∀ (N : Nat) (k : Int), ((es.length : Int) - k).toNat < N → (0 ≤ k ∧ k ≤ es.length) → (excM (excL es xs fm n (es.drop k.toNat)) = z) → G E M 0 0 [(0, .ref a), (1, .ref d), (2, vI n), (3, vI k)] [] 2 := by
    intro N
    induction N with
    | zero => intro k hN2 hk hf; exact absurd hN2 (Nat.not_lt_zero _)
    | succ N ih2 =>
      intro k hN2 hk hf
      refine G_iload_n hC 3 rfl rfl d_Mo_exchanges_2 ?_
      refine G_aload_n hC 0 rfl rfl d_Mo_exchanges_3 ?_
      refine G_get hC fl_Mo_73 h_obj_a rfl d_Mo_exchanges_4 ?_
      refine G_icmp_ge hC 95 (by omega) (by omega) (by decide) d_Mo_exchanges_7 (fun c_12 => ?_) (fun c_12 => ?_)
      · refine G_iconst (i := 0) hC d_Mo_exchanges_95 ?_
        exact G_iretP hC hQ d_Mo_exchanges_96 (by rw [List.drop_eq_nil_of_le (by omega), excL] at hf; exact hf)
      · refine G_aload_n hC 0 rfl rfl d_Mo_exchanges_10 ?_
        refine G_iload_n hC 3 rfl rfl d_Mo_exchanges_11 ?_
        refine G_iconst (i := 2) hC d_Mo_exchanges_12 ?_
        refine G_aload_n hC 1 rfl rfl d_Mo_exchanges_13 ?_
        obtain ⟨x, hx1, hx2⟩ := get_of (es := es) (k := k) (by omega)
        rw [hx2, excL] at hf
        refine G_pV (rest := []) hC hR (c_Mo_isOf h_obj_a h_Md_sa h_Tx_d (by omega) (by omega) hx2) cv_Mo_92 ⟨_, _, h_obj_a⟩ (by decide) (by omega) (by omega) rfl rfl (Nat.le_of_ble_eq_true rfl) d_Mo_exchanges_14 ?_
        refine G_if_ne hC 23 (by have := b2i_rng (isD 2 xs x); omega) (by decide) d_Mo_exchanges_17 (fun c_13 => ?_) (fun c_13 => ?_)
        · have c_13 := b2i_ne0.mp c_13
          rw [if_pos (show isD 2 xs x = true from c_13)] at hf
          refine G_aload_n hC 0 rfl rfl d_Mo_exchanges_23 ?_
          refine G_aload_n hC 0 rfl rfl d_Mo_exchanges_24 ?_
          refine G_get hC fl_Mo_47 h_obj_a rfl d_Mo_exchanges_25 ?_
          refine G_iload_n hC 3 rfl rfl d_Mo_exchanges_28 ?_
          obtain ⟨t_14, u_15, ns_16, vs_17, h_18, h_19, h_20, h_21, h_22⟩ := h_7 (k : Int).toNat (by omega)
          refine G_aald hC h_4 rfl (by omega) (by omega) (by rw [h_19]) d_Mo_exchanges_29 ?_
          have hvs := (h_22 x hx1).2
          rw [← hvs] at hf
          refine G_pV (rest := []) hC hR (c_Mo_isTrouble h_obj_a h_Md_sa h_21 (by omega) rfl) cv_Mo_208 ⟨_, _, h_obj_a⟩ (by decide) (by omega) (by omega) rfl rfl (Nat.le_of_ble_eq_true rfl) d_Mo_exchanges_30 ?_
          refine G_if_eq hC 38 (by have := b2i_rng (hasD es 3 vs_17); omega) (by decide) d_Mo_exchanges_33 (fun c_23 => ?_) (fun c_23 => ?_)
          · have c_23 := b2i_eq0.mp c_23
            rw [if_neg (show ¬ hasD es 3 vs_17 = true from fun z => by have z2 := c_23.symm.trans z; cases z2)] at hf
            refine G_iconst (i := 0) hC d_Mo_exchanges_38 ?_
            refine G_istore (lv' := [(4, vI 0), (0, .ref a), (1, .ref d), (2, vI n), (3, vI k)]) hC (by rw [hN]; decide) rfl d_Mo_exchanges_39 ?_
            have L41 : ∀ (N : Nat) (j : Int), ((es.length : Int) - j).toNat < N → (0 ≤ j ∧ j ≤ es.length) → ((es.drop j.toNat).any (reaP vs_17 fm n) = reaD es vs_17 fm n) → G E M 0 0 [(0, .ref a), (1, .ref d), (2, vI n), (3, vI k), (4, vI j)] [] 41 := by
              intro N
              induction N with
              | zero => intro j hN41 hj hg; exact absurd hN41 (Nat.not_lt_zero _)
              | succ N ih41 =>
                intro j hN41 hj hg
                refine G_iload hC 4 rfl d_Mo_exchanges_41 ?_
                refine G_aload_n hC 0 rfl rfl d_Mo_exchanges_43 ?_
                refine G_get hC fl_Mo_73 h_obj_a rfl d_Mo_exchanges_44 ?_
                refine G_icmp_ge hC 89 (by omega) (by omega) (by decide) d_Mo_exchanges_47 (fun c_24 => ?_) (fun c_24 => ?_)
                · rw [List.drop_eq_nil_of_le (by omega)] at hg
                  rw [if_neg (show ¬ reaD es vs_17 fm n = true from fun z => by have z2 := hg.trans z; cases z2)] at hf
                  refine G_iinc (lv' := [(3, vI (k + 1)), (0, .ref a), (1, .ref d), (2, vI n), (4, vI j)]) hC 3 rfl (by rw [hN]; decide) rfl d_Mo_exchanges_89 ?_
                  refine G_goto hC 2 (by decide) d_Mo_exchanges_92 ?_
                  refine G_lv [1, 2, 3, 0] rfl ?_
                  exact ih2 (k + 1) (by omega) (by omega) hf
                · refine G_aload_n hC 0 rfl rfl d_Mo_exchanges_50 ?_
                  refine G_iload hC 4 rfl d_Mo_exchanges_51 ?_
                  refine G_iconst (i := 1) hC d_Mo_exchanges_53 ?_
                  refine G_aload_n hC 0 rfl rfl d_Mo_exchanges_54 ?_
                  refine G_get hC fl_Mo_47 h_obj_a rfl d_Mo_exchanges_55 ?_
                  refine G_iload_n hC 3 rfl rfl d_Mo_exchanges_58 ?_
                  refine G_aald hC h_4 rfl (by omega) (by omega) (by rw [h_19]) d_Mo_exchanges_59 ?_
                  obtain ⟨y, hy1, hy2⟩ := get_of (es := es) (k := j) (by omega)
                  have hy6 := h_6 _ y hy1
                  rw [hy2, List.any_cons, rea_step] at hg
                  refine G_pV (rest := []) hC hR (c_Mo_isOf h_obj_a h_Md_sa h_21 (by omega) (by omega) hy2) cv_Mo_92 ⟨_, _, h_obj_a⟩ (by decide) (by omega) (by omega) rfl rfl (Nat.le_of_ble_eq_true rfl) d_Mo_exchanges_60 ?_
                  refine G_if_eq hC 83 (by have := b2i_rng (isD 1 vs_17 y); omega) (by decide) d_Mo_exchanges_63 (fun c_25 => ?_) (fun c_25 => ?_)
                  · have c_25 := b2i_eq0.mp c_25
                    rw [c_25, Bool.false_and, Bool.false_or] at hg
                    refine G_iinc (lv' := [(4, vI (j + 1)), (0, .ref a), (1, .ref d), (2, vI n), (3, vI k)]) hC 4 rfl (by rw [hN]; decide) rfl d_Mo_exchanges_83 ?_
                    refine G_goto hC 41 (by decide) d_Mo_exchanges_86 ?_
                    refine G_lv [1, 2, 3, 4, 0] rfl ?_
                    exact ih41 (j + 1) (by omega) (by omega) hg
                  · have c_25 := b2i_ne0.mp c_25
                    refine G_aload_n hC 0 rfl rfl d_Mo_exchanges_66 ?_
                    refine G_aload_n hC 0 rfl rfl d_Mo_exchanges_67 ?_
                    refine G_get hC fl_Mo_40 h_obj_a rfl d_Mo_exchanges_68 ?_
                    refine G_iload hC 4 rfl d_Mo_exchanges_71 ?_
                    refine G_iald hC h_2 (by omega) (by omega) d_Mo_exchanges_73 ?_
                    refine G_iload_n hC 2 rfl rfl d_Mo_exchanges_74 ?_
                    refine G_pV (rest := []) hC hR (c_Mo_isSender h_obj_a (by omega)) cv_Mo_231 ⟨_, _, h_obj_a⟩ (by decide) (by omega) (by omega) rfl rfl (Nat.le_of_ble_eq_true rfl) d_Mo_exchanges_75 ?_
                    refine G_if_eq hC 83 (by have := b2i_rng (sbS (zI (ga_9 (j : Int).toNat)) fm n); omega) (by decide) d_Mo_exchanges_78 (fun c_26 => ?_) (fun c_26 => ?_)
                    · have c_26 := b2i_eq0.mp c_26
                      rw [hy6.2.1] at c_26
                      rw [c_26, Bool.and_false, Bool.false_or] at hg
                      refine G_iinc (lv' := [(4, vI (j + 1)), (0, .ref a), (1, .ref d), (2, vI n), (3, vI k)]) hC 4 rfl (by rw [hN]; decide) rfl d_Mo_exchanges_83 ?_
                      refine G_goto hC 41 (by decide) d_Mo_exchanges_86 ?_
                      refine G_lv [1, 2, 3, 4, 0] rfl ?_
                      exact ih41 (j + 1) (by omega) (by omega) hg
                    · have c_26 := b2i_ne0.mp c_26
                      refine G_iconst (i := 1) hC d_Mo_exchanges_81 ?_
                      exact G_iretP hC hQ d_Mo_exchanges_82 (by rw [hy6.2.1] at c_26; rw [c_25, c_26, Bool.true_and, Bool.true_or] at hg; rw [if_pos hg.symm] at hf; exact hf)
            refine G_lv [1, 2, 3, 4, 0] rfl ?_
            exact L41 _ 0 (Nat.lt_succ_self _) (by omega) rfl
          · have c_23 := b2i_ne0.mp c_23
            refine G_iconst (i := 5) hC d_Mo_exchanges_36 ?_
            exact G_iretP hC hQ d_Mo_exchanges_37 (by rw [if_pos c_23] at hf; exact hf)
        · have c_13 := b2i_eq0.mp c_13
          rw [if_neg (show ¬ isD 2 xs x = true from fun z => by have z2 := c_13.symm.trans z; cases z2)] at hf
          refine G_goto hC 89 (by decide) d_Mo_exchanges_20 ?_
          refine G_iinc (lv' := [(3, vI (k + 1)), (0, .ref a), (1, .ref d), (2, vI n)]) hC 3 rfl (by rw [hN]; decide) rfl d_Mo_exchanges_89 ?_
          refine G_goto hC 2 (by decide) d_Mo_exchanges_92 ?_
          refine G_lv [1, 2, 3, 0] rfl ?_
          exact ih2 (k + 1) (by omega) (by omega) hf
  refine G_lv [1, 2, 3, 0] rfl ?_
  exact L2 _ 0 (Nat.lt_succ_self _) (by omega) hr
