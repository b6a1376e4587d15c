set_option maxHeartbeats 4000000 in
set_option maxRecDepth 100000 in
theorem c_Mo_octet {l : Launch} {D : Dg} {b0 : Nat} {M : Mp} {a : Nat} {n : Int} {tp : Nat} {tm : Int} {en : Int} {ou : Nat} {sa : Nat} {aa : Nat} {na : Nat} {va : Nat} {lo : Nat} {dm : Nat} {fm : Int32} {st : Int} {tg : Nat} {cn : Int} {vo : Int} {pc : Nat} {k0 : Int} {s0 : Int} {f0 : Int} {o0 : Int} {n0 : Int} {w0 : Int32} {t : Nat} {len : Nat} {xs : List Int} (h_obj_a : M a = some (500, .inr (cMo, [.ref tp, vI tm, vI en, .ref ou, .ref sa, .ref aa, .ref na, .ref va, .ref lo, .ref dm, .int fm, vI st, .ref tg, vI cn, vI vo, .ref pc, vI k0, vI s0, vI f0, vI o0, vI n0, .int w0]))) (h_Tx_ou : IsT D M ou t len xs) (hn : -2147483648 ≤ n ∧ n ≤ 2147483647) : OkP l D b0 2 y_Mo_octet b_Mo_octet 2 (some .int) M [.ref a, vI n] (vI (if n = -1 then (xs.length : Int) else if n < 0 ∨ (xs.length : Int) ≤ n then -2 else atS xs n)) := by
  refine Ok_of rfl (Nat.le_of_ble_eq_true rfl) (fun E hC hQ hl hD hB hN hR => ?_)
  subst hl hD hB
  have hr9 := h_Tx_ou.len
  have g_4 := h_Tx_ou.len
  obtain ⟨r_1, h_2, h_3⟩ := id h_Tx_ou
  show G E M 0 0 [(0, .ref a), (1, vI n)] [] 0
  refine G_iload_n hC 1 rfl rfl d_Mo_octet_0 ?_
  refine G_i2lR hC (by omega) d_Mo_octet_1 ?_
  refine G_ldc2R (a := (-1)) hC lc_Mo_238 d_Mo_octet_2 ?_
  refine G_aload_n hC 0 rfl rfl d_Mo_octet_5 ?_
  refine G_get hC fl_Mo_32 h_obj_a rfl d_Mo_octet_6 ?_
  refine G_get hC fl_Mo_86 h_2 rfl d_Mo_octet_9 ?_
  refine G_iconst (i := 1) hC d_Mo_octet_12 ?_
  refine G_isub hC d_Mo_octet_13 ?_
  refine G_i2lR hC (by omega) d_Mo_octet_14 ?_
  refine G_pS (rest := []) hC hR (c_Mo_in (by omega) (by omega) (by omega)) cs_Mo_66 (by decide) (by omega) (by omega) rfl rfl (Nat.le_of_ble_eq_true rfl) d_Mo_octet_15 ?_
  refine G_if_ne hC 24 (by have := b2i_rng (decide ((-1) ≤ n ∧ n ≤ ((xs.length : Int) - 1))); omega) (by decide) d_Mo_octet_18 (fun c_5 => ?_) (fun c_5 => ?_)
  · have c_5 := b2i_ne0.mp c_5
    have c_5 := of_decide_eq_true c_5
    refine G_iload_n hC 1 rfl rfl d_Mo_octet_24 ?_
    refine G_if_ge hC 38 (by omega) (by decide) d_Mo_octet_25 (fun c_6 => ?_) (fun c_6 => ?_)
    · refine G_aload_n hC 0 rfl rfl d_Mo_octet_38 ?_
      refine G_get hC fl_Mo_32 h_obj_a rfl d_Mo_octet_39 ?_
      refine G_get hC fl_Mo_192 h_2 rfl d_Mo_octet_42 ?_
      refine G_iload_n hC 1 rfl rfl d_Mo_octet_45 ?_
      refine G_baldR hC h_3 (by omega) d_Mo_octet_46 ?_
      have g_7 := h_3.rng n
      have g_8 := atS_gx (xs := xs) (i := n) (by omega)
      refine G_sipush (j := 255) hC (by decide +kernel) d_Mo_octet_47 ?_
      refine G_iand255 hC (by omega) d_Mo_octet_50 ?_
      exact G_iretP hC hQ d_Mo_octet_51 (by (repeat' split); all_goals first | omega | (unfold atS gx; rw [if_pos (by omega)]))
    · refine G_aload_n hC 0 rfl rfl d_Mo_octet_28 ?_
      refine G_get hC fl_Mo_32 h_obj_a rfl d_Mo_octet_29 ?_
      refine G_get hC fl_Mo_86 h_2 rfl d_Mo_octet_32 ?_
      refine G_goto hC 51 (by decide) d_Mo_octet_35 ?_
      exact G_iretP hC hQ d_Mo_octet_51 (by (repeat' split); all_goals first | omega | (unfold atS gx; rw [if_pos (by omega)]))
  · have c_5 := b2i_eq0.mp c_5
    have c_5 := of_decide_eq_false c_5
    refine G_bipush (j := (-2)) hC (by decide +kernel) d_Mo_octet_21 ?_
    exact G_iretP hC hQ d_Mo_octet_23 (by (repeat' split); all_goals first | omega | (unfold atS gx; rw [if_pos (by omega)]))
