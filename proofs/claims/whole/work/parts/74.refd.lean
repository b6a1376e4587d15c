set_option maxHeartbeats 4000000 in
set_option maxRecDepth 100000 in
theorem c_Mo_isSender {l : Launch} {D : Dg} {b0 : Nat} {M : Mp} {a : Nat} {x : Int32} {n : Int} {tp : Nat} {tm : Int} {en : Int} {ou : Nat} {sa : Nat} {aa : Nat} {na : Nat} {va : Nat} {lo : Nat} {dm : Nat} {fm : Int32} {st : Int} {tg : Nat} {cn : Int} {vo : Int} {pc : Nat} {k0 : Int} {s0 : Int} {f0 : Int} {o0 : Int} {n0 : Int} {w0 : Int32} (h_obj_a : M a = some (500, .inr (cMo, [.ref tp, vI tm, vI en, .ref ou, .ref sa, .ref aa, .ref na, .ref va, .ref lo, .ref dm, .int fm, vI st, .ref tg, vI cn, vI vo, .ref pc, vI k0, vI s0, vI f0, vI o0, vI n0, .int w0]))) (hn : 0 ≤ n ∧ n ≤ 32) : OkP l D b0 1 y_Mo_isSender b_Mo_isSender 3 (some .boolean) M [.ref a, .int x, vI n] (vI (b2i (sbS x fm n))) := by
  refine Ok_of rfl (Nat.le_of_ble_eq_true rfl) (fun E hC hQ hl hD hB hN hR => ?_)
  subst hl hD hB
  show G E M 0 0 [(0, .ref a), (1, .int x), (2, vI n)] [] 0
  refine G_iload_n hC 2 rfl rfl d_Mo_isSender_0 ?_
  refine G_if_eq hC 18 (by omega) (by decide) d_Mo_isSender_1 (fun c_1 => ?_) (fun c_1 => ?_)
  · refine G_iconst (i := 1) hC d_Mo_isSender_18 ?_
    refine G_goto hC 23 (by decide) d_Mo_isSender_19 ?_
    exact G_zretP hC hQ d_Mo_isSender_23 (b2i_t (decide_eq_true (by omega)))
  · refine G_iload_n hC 1 rfl rfl d_Mo_isSender_4 ?_
    refine G_aload_n hC 0 rfl rfl d_Mo_isSender_5 ?_
    refine G_get hC fl_Mo_105 h_obj_a rfl d_Mo_isSender_6 ?_
    refine G_ixor hC rfl d_Mo_isSender_9 ?_
    refine G_bipush (j := 32) hC (by decide +kernel) d_Mo_isSender_10 ?_
    refine G_iload_n hC 2 rfl rfl d_Mo_isSender_12 ?_
    refine G_isub hC d_Mo_isSender_13 ?_
    refine G_iushr hC rfl d_Mo_isSender_14 ?_
    refine G_X2I ?_
    have g_3 := zI_rng (((x ^^^ fm).toUInt32 >>> ((zI (32 - n)).toUInt32 &&& Int32.toUInt32 31)).toInt32)
    refine G_if_ne hC 22 (by omega) (by decide) d_Mo_isSender_15 (fun c_2 => ?_) (fun c_2 => ?_)
    · refine G_iconst (i := 0) hC d_Mo_isSender_22 ?_
      exact G_zretP hC hQ d_Mo_isSender_23 (b2i_f (decide_eq_false (by omega)))
    · refine G_iconst (i := 1) hC d_Mo_isSender_18 ?_
      refine G_goto hC 23 (by decide) d_Mo_isSender_19 ?_
      exact G_zretP hC hQ d_Mo_isSender_23 (b2i_t (decide_eq_true (by omega)))

set_option maxHeartbeats 4000000 in
set_option maxRecDepth 100000 in
theorem c_Mo_isOf {l : Launch} {D : Dg} {b0 : Nat} {M : Mp} {a : Nat} {k : Int} {sort : Int} {d : Nat} {tp : Nat} {tm : Int} {en : Int} {ou : Nat} {sa : Nat} {aa : Nat} {na : Nat} {va : Nat} {lo : Nat} {dm : Nat} {fm : Int32} {st : Int} {tg : Nat} {cn : Int} {vo : Int} {pc : Nat} {k0 : Int} {s0 : Int} {f0 : Int} {o0 : Int} {n0 : Int} {w0 : Int32} {es : List Ent} {t : Nat} {len : Nat} {xs : List Int} {x9 : Ent} {lst : List Ent} (h_obj_a : M a = some (500, .inr (cMo, [.ref tp, vI tm, vI en, .ref ou, .ref sa, .ref aa, .ref na, .ref va, .ref lo, .ref dm, .int fm, vI st, .ref tg, vI cn, vI vo, .ref pc, vI k0, vI s0, vI f0, vI o0, vI n0, .int w0]))) (h_Md_sa : IsMd D M sa aa na va es) (h_Tx_d : IsT D M d t len xs) (hk : 0 ≤ k ∧ k < es.length) (hs : -2147483648 ≤ sort ∧ sort ≤ 2147483647) (hd : es.drop k.toNat = x9 :: lst) : OkP l D b0 3 y_Mo_isOf b_Mo_isOf 4 (some .boolean) M [.ref a, vI k, vI sort, .ref d] (vI (b2i (isD sort xs x9))) := by
  refine Ok_of rfl (Nat.le_of_ble_eq_true rfl) (fun E hC hQ hl hD hB hN hR => ?_)
  subst hl hD hB
  have hD9 := h_Md_sa.len
  obtain ⟨g_8, ga_9, fn_10, fv_11, h_1, h_2, h_3, h_4, h_5, h_6, h_7⟩ := id h_Md_sa
  obtain ⟨x, hx1, hx2⟩ := get_of (es := es) (k := k) (by omega)
  have hxe : x = x9 := (List.cons.inj (hx2.symm.trans hd)).1
  have hx6 := h_6 _ x hx1
  show G E M 0 0 [(0, .ref a), (1, vI k), (2, vI sort), (3, .ref d)] [] 0
  refine G_aload_n hC 0 rfl rfl d_Mo_isOf_0 ?_
  refine G_get hC fl_Mo_36 h_obj_a rfl d_Mo_isOf_1 ?_
  refine G_iload_n hC 1 rfl rfl d_Mo_isOf_4 ?_
  refine G_iald hC h_1 (by omega) (by omega) d_Mo_isOf_5 ?_
  refine G_iload_n hC 2 rfl rfl d_Mo_isOf_6 ?_
  refine G_icmp_ne hC 27 (by omega) (by omega) (by decide) d_Mo_isOf_7 (fun c_12 => ?_) (fun c_12 => ?_)
  · refine G_iconst (i := 0) hC d_Mo_isOf_27 ?_
    exact G_zretP hC hQ d_Mo_isOf_28 (b2i_f (by rw [← hxe]; exact isD_no (fun z => by have := z.1; omega)))
  · refine G_aload_n hC 0 rfl rfl d_Mo_isOf_10 ?_
    refine G_get hC fl_Mo_43 h_obj_a rfl d_Mo_isOf_11 ?_
    refine G_iload_n hC 1 rfl rfl d_Mo_isOf_14 ?_
    obtain ⟨t_13, u_14, ns_15, vs_16, h_17, h_18, h_19, h_20, h_21⟩ := h_7 (k : Int).toNat (by omega)
    refine G_aald hC h_3 rfl (by omega) (by omega) (by rw [h_17]) d_Mo_isOf_15 ?_
    refine G_aload_n hC 3 rfl rfl d_Mo_isOf_16 ?_
    refine G_pV (rest := []) hC hR (c_Tx_is2 h_19 h_Tx_d) cv_Mo_89 h_19.obj (by decide) (by omega) (by omega) rfl rfl (Nat.le_of_ble_eq_true rfl) d_Mo_isOf_17 ?_
    refine G_if_eq hC 27 (by have := b2i_rng (decide (ns_15 = xs)); omega) (by decide) d_Mo_isOf_20 (fun c_22 => ?_) (fun c_22 => ?_)
    · have c_22 := b2i_eq0.mp c_22
      have c_22 := of_decide_eq_false c_22
      refine G_iconst (i := 0) hC d_Mo_isOf_27 ?_
      have hns := (h_21 x hx1).1
      exact G_zretP hC hQ d_Mo_isOf_28 (b2i_f (by rw [← hxe]; exact isD_no (fun z => c_22 (by rw [hns]; exact z.2))))
    · have c_22 := b2i_ne0.mp c_22
      have c_22 := of_decide_eq_true c_22
      refine G_iconst (i := 1) hC d_Mo_isOf_23 ?_
      refine G_goto hC 28 (by decide) d_Mo_isOf_24 ?_
      have hns := (h_21 x hx1).1
      exact G_zretP hC hQ d_Mo_isOf_28 (b2i_t (by rw [← hxe]; exact isD_yes ⟨by omega, by rw [← hns]; exact c_22⟩))

set_option maxHeartbeats 4000000 in
set_option maxRecDepth 100000 in
theorem c_Mo_isTrouble {l : Launch} {D : Dg} {b0 : Nat} {M : Mp} {a : Nat} {d : Nat} {tp : Nat} {tm : Int} {en : Int} {ou : Nat} {sa : Nat} {aa : Nat} {na : Nat} {va : Nat} {lo : Nat} {dm : Nat} {fm : Int32} {st : Int} {tg : Nat} {cn : Int} {vo : Int} {pc : Nat} {k0 : Int} {s0 : Int} {f0 : Int} {o0 : Int} {n0 : Int} {w0 : Int32} {es : List Ent} {t : Nat} {len : Nat} {xs : List Int} {B : Bool} (h_obj_a : M a = some (500, .inr (cMo, [.ref tp, vI tm, vI en, .ref ou, .ref sa, .ref aa, .ref na, .ref va, .ref lo, .ref dm, .int fm, vI st, .ref tg, vI cn, vI vo, .ref pc, vI k0, vI s0, vI f0, vI o0, vI n0, .int w0]))) (h_Md_sa : IsMd D M sa aa na va es) (h_Tx_d : IsT D M d t len xs) (hen : en = (es.length : Int)) (hr : hasD es 3 xs = B) : OkP l D b0 4 y_Mo_isTrouble b_Mo_isTrouble 3 (some .boolean) M [.ref a, .ref d] (vI (b2i B)) := by
  refine Ok_of rfl (Nat.le_of_ble_eq_true rfl) (fun E hC hQ hl hD hB hN hR => ?_)
  subst hl hD hB
  have hD9 := h_Md_sa.len
  unfold hasD at hr
  show G E M 0 0 [(0, .ref a), (1, .ref d)] [] 0
  refine G_iconst (i := 0) hC d_Mo_isTrouble_0 ?_
  refine G_istore_n (lv' := [(2, vI 0), (0, .ref a), (1, .ref d)]) hC rfl (by rw [hN]; decide) rfl d_Mo_isTrouble_1 ?_
  have L2 : ∀ (N : Nat) (k : Int), ((es.length : Int) - k).toNat < N → (0 ≤ k ∧ k ≤ es.length) → ((es.drop k.toNat).any (isD 3 xs) = B) → G E M 0 0 [(0, .ref a), (1, .ref d), (2, vI k)] [] 2 := by
    intro N
    induction N with
    | zero => intro k hN2 hk hf; exact absurd hN2 (Nat.not_lt_zero _)
    | succ N ih2 =>
      intro k hN2 hk hf
      refine G_iload_n hC 2 rfl rfl d_Mo_isTrouble_2 ?_
      refine G_aload_n hC 0 rfl rfl d_Mo_isTrouble_3 ?_
      refine G_get hC fl_Mo_73 h_obj_a rfl d_Mo_isTrouble_4 ?_
      refine G_icmp_ge hC 28 (by omega) (by omega) (by decide) d_Mo_isTrouble_7 (fun c_1 => ?_) (fun c_1 => ?_)
      · refine G_iconst (i := 0) hC d_Mo_isTrouble_28 ?_
        exact G_zretP hC hQ d_Mo_isTrouble_29 (b2i_f (by rw [List.drop_eq_nil_of_le (by omega)] at hf; exact hf.symm))
      · refine G_aload_n hC 0 rfl rfl d_Mo_isTrouble_10 ?_
        refine G_iload_n hC 2 rfl rfl d_Mo_isTrouble_11 ?_
        refine G_iconst (i := 3) hC d_Mo_isTrouble_12 ?_
        refine G_aload_n hC 1 rfl rfl d_Mo_isTrouble_13 ?_
        obtain ⟨x, hx1, hx2⟩ := get_of (es := es) (k := k) (by omega)
        refine G_pV (rest := []) hC hR (c_Mo_isOf h_obj_a h_Md_sa h_Tx_d (by omega) (by omega) hx2) cv_Mo_92 ⟨_, _, h_obj_a⟩ (by decide) (by omega) (by omega) rfl rfl (Nat.le_of_ble_eq_true rfl) d_Mo_isTrouble_14 ?_
        refine G_if_eq hC 22 (by have := b2i_rng (isD 3 xs x); omega) (by decide) d_Mo_isTrouble_17 (fun c_2 => ?_) (fun c_2 => ?_)
        · have c_2 := b2i_eq0.mp c_2
          refine G_iinc (lv' := [(2, vI (k + 1)), (0, .ref a), (1, .ref d)]) hC 2 rfl (by rw [hN]; decide) rfl d_Mo_isTrouble_22 ?_
          refine G_goto hC 2 (by decide) d_Mo_isTrouble_25 ?_
          refine G_lv [1, 2, 0] rfl ?_
          exact ih2 (k + 1) (by omega) (by omega) (by rw [hx2, List.any_cons, c_2, Bool.false_or] at hf; exact hf)
        · have c_2 := b2i_ne0.mp c_2
          refine G_iconst (i := 1) hC d_Mo_isTrouble_20 ?_
          exact G_zretP hC hQ d_Mo_isTrouble_21 (b2i_t (by rw [hx2, List.any_cons, c_2, Bool.true_or] at hf; exact hf.symm))
  refine G_lv [1, 2, 0] rfl ?_
  exact L2 _ 0 (Nat.lt_succ_self _) (by omega) hr
