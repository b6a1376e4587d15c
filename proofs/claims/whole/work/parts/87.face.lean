set_option maxHeartbeats 4000000 in
set_option maxRecDepth 100000 in
theorem c_Mo_used {l : Launch} {D : Dg} {b0 : Nat} {M : Mp} {a : Nat} {tp : Nat} {tm : Int} {en : Int} {ou : Nat} {sa : Nat} {aa : Nat} {na : Nat} {va : Nat} {lo : Nat} {dm : Nat} {fm : Int32} {st : Int} {tg : Nat} {cn : Int} {vo : Int} {pc : Nat} {k0 : Int} {s0 : Int} {f0 : Int} {o0 : Int} {n0 : Int} {w0 : Int32} (h_obj_a : M a = some (500, .inr (cMo, [.ref tp, vI tm, vI en, .ref ou, .ref sa, .ref aa, .ref na, .ref va, .ref lo, .ref dm, .int fm, vI st, .ref tg, vI cn, vI vo, .ref pc, vI k0, vI s0, vI f0, vI o0, vI n0, .int w0]))) : Ok l D b0 2 y_Mo_used b_Mo_used 2 (some .int) M [.ref a] 0 0 (fun r M' => r = some (vI tm) ∧ M' a = some (500, .inr (cMo, [.ref tp, vI 0, vI en, .ref ou, .ref sa, .ref aa, .ref na, .ref va, .ref lo, .ref dm, .int fm, vI st, .ref tg, vI cn, vI vo, .ref pc, vI k0, vI s0, vI f0, vI o0, vI n0, .int w0])) ∧ Fr [500] M M') := by
  refine Ok_of rfl (Nat.le_of_ble_eq_true rfl) (fun E hC hQ hl hD hB hN hR => ?_)
  subst hl hD hB
  show G E M 0 0 [(0, .ref a)] [] 0
  refine G_aload_n hC 0 rfl rfl d_Mo_used_0 ?_
  refine G_get hC fl_Mo_62 h_obj_a rfl d_Mo_used_1 ?_
  refine G_istore_n (lv' := [(1, vI tm), (0, .ref a)]) hC rfl (by rw [hN]; decide) rfl d_Mo_used_4 ?_
  refine G_aload_n hC 1 rfl rfl d_Mo_used_5 ?_
  refine G_iconst (i := 0) hC d_Mo_used_6 ?_
  refine G_putX (fs' := [.ref tp, vI 0, vI en, .ref ou, .ref sa, .ref aa, .ref na, .ref va, .ref lo, .ref dm, .int fm, vI st, .ref tg, vI cn, vI vo, .ref pc, vI k0, vI s0, vI f0, vI o0, vI n0, .int w0]) hC fl_Mo_62 ft_Mo fw_Mo_1 h_obj_a rfl rfl (Nat.le_of_ble_eq_true rfl) rfl d_Mo_used_7 (fun M_1 h_2 fr_3 => ?_)
  refine G_iload_n hC 0 rfl rfl d_Mo_used_10 ?_
  exact G_iretX hC hQ (by omega) (by omega) d_Mo_used_11 ⟨rfl, h_2, (fr_3.up (T := [500]) (by simp))⟩

set_option maxHeartbeats 4000000 in
set_option maxRecDepth 100000 in
theorem c_Mo_forget {l : Launch} {D : Dg} {b0 : Nat} {M : Mp} {a : Nat} {tp : Nat} {tm : Int} {en : Int} {ou : Nat} {sa : Nat} {aa : Nat} {na : Nat} {va : Nat} {lo : Nat} {dm : Nat} {fm : Int32} {st : Int} {tg : Nat} {cn : Int} {vo : Int} {pc : Nat} {k0 : Int} {s0 : Int} {f0 : Int} {o0 : Int} {n0 : Int} {w0 : Int32} (h_obj_a : M a = some (500, .inr (cMo, [.ref tp, vI tm, vI en, .ref ou, .ref sa, .ref aa, .ref na, .ref va, .ref lo, .ref dm, .int fm, vI st, .ref tg, vI cn, vI vo, .ref pc, vI k0, vI s0, vI f0, vI o0, vI n0, .int w0]))) : Ok l D b0 2 y_Mo_forget b_Mo_forget 2 (some .int) M [.ref a] 0 0 (fun r M' => r = some (vI en) ∧ M' a = some (500, .inr (cMo, [.ref tp, vI tm, vI 0, .ref ou, .ref sa, .ref aa, .ref na, .ref va, .ref lo, .ref dm, .int fm, vI st, .ref tg, vI cn, vI vo, .ref pc, vI k0, vI s0, vI f0, vI o0, vI n0, .int w0])) ∧ Fr [500] M M') := by
  refine Ok_of rfl (Nat.le_of_ble_eq_true rfl) (fun E hC hQ hl hD hB hN hR => ?_)
  subst hl hD hB
  show G E M 0 0 [(0, .ref a)] [] 0
  refine G_aload_n hC 0 rfl rfl d_Mo_forget_0 ?_
  refine G_get hC fl_Mo_73 h_obj_a rfl d_Mo_forget_1 ?_
  refine G_istore_n (lv' := [(1, vI en), (0, .ref a)]) hC rfl (by rw [hN]; decide) rfl d_Mo_forget_4 ?_
  refine G_aload_n hC 1 rfl rfl d_Mo_forget_5 ?_
  refine G_iconst (i := 0) hC d_Mo_forget_6 ?_
  refine G_putX (fs' := [.ref tp, vI tm, vI 0, .ref ou, .ref sa, .ref aa, .ref na, .ref va, .ref lo, .ref dm, .int fm, vI st, .ref tg, vI cn, vI vo, .ref pc, vI k0, vI s0, vI f0, vI o0, vI n0, .int w0]) hC fl_Mo_73 ft_Mo fw_Mo_2 h_obj_a rfl rfl (Nat.le_of_ble_eq_true rfl) rfl d_Mo_forget_7 (fun M_1 h_2 fr_3 => ?_)
  refine G_iload_n hC 0 rfl rfl d_Mo_forget_10 ?_
  exact G_iretX hC hQ (by omega) (by omega) d_Mo_forget_11 ⟨rfl, h_2, (fr_3.up (T := [500]) (by simp))⟩

set_option maxHeartbeats 4000000 in
set_option maxRecDepth 100000 in
theorem c_Mo_cost {l : Launch} {D : Dg} {b0 : Nat} {M : Mp} {a : Nat} {n : Int} {tp : Nat} {tm : Int} {en : Int} {ou : Nat} {sa : Nat} {aa : Nat} {na : Nat} {va : Nat} {lo : Nat} {dm : Nat} {fm : Int32} {st : Int} {tg : Nat} {cn : Int} {vo : Int} {pc : Nat} {k0 : Int} {s0 : Int} {f0 : Int} {o0 : Int} {n0 : Int} {w0 : Int32} (h_obj_a : M a = some (500, .inr (cMo, [.ref tp, vI tm, vI en, .ref ou, .ref sa, .ref aa, .ref na, .ref va, .ref lo, .ref dm, .int fm, vI st, .ref tg, vI cn, vI vo, .ref pc, vI k0, vI s0, vI f0, vI o0, vI n0, .int w0]))) (hn : -2147483648 ≤ n ∧ n ≤ 2147483647) : OkP l D b0 2 y_Mo_cost b_Mo_cost 2 (some .int) M [.ref a, vI n] (vI (if n = 0 then cn else if n = 1 then vo else -1)) := by
  refine Ok_of rfl (Nat.le_of_ble_eq_true rfl) (fun E hC hQ hl hD hB hN hR => ?_)
  subst hl hD hB
  show G E M 0 0 [(0, .ref a), (1, vI n)] [] 0
  refine G_iload_n hC 1 rfl rfl d_Mo_cost_0 ?_
  refine G_if_ne hC 11 (by omega) (by decide) d_Mo_cost_1 (fun c_1 => ?_) (fun c_1 => ?_)
  · refine G_iload_n hC 1 rfl rfl d_Mo_cost_11 ?_
    refine G_iconst (i := 1) hC d_Mo_cost_12 ?_
    refine G_icmp_ne hC 23 (by omega) (by decide) (by decide) d_Mo_cost_13 (fun c_2 => ?_) (fun c_2 => ?_)
    · refine G_iconst (i := (-1)) hC d_Mo_cost_23 ?_
      exact G_iretP hC hQ d_Mo_cost_24 (by (repeat' split); all_goals omega)
    · refine G_aload_n hC 0 rfl rfl d_Mo_cost_16 ?_
      refine G_get hC fl_Mo_115 h_obj_a rfl d_Mo_cost_17 ?_
      refine G_goto hC 24 (by decide) d_Mo_cost_20 ?_
      exact G_iretP hC hQ d_Mo_cost_24 (by (repeat' split); all_goals omega)
  · refine G_aload_n hC 0 rfl rfl d_Mo_cost_4 ?_
    refine G_get hC fl_Mo_112 h_obj_a rfl d_Mo_cost_5 ?_
    refine G_goto hC 24 (by decide) d_Mo_cost_8 ?_
    exact G_iretP hC hQ d_Mo_cost_24 (by (repeat' split); all_goals omega)
