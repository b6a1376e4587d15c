set_option maxHeartbeats 4000000 in
set_option maxRecDepth 100000 in
theorem c_Mo_end {l : Launch} {D : Dg} {b0 : Nat} {M : Mp} {a : Nat} {n : Int} {tp : Nat} {tm : Int} {en : Int} {ou : Nat} {sa : Nat} {aa : Nat} {na : Nat} {va : Nat} {lo : Nat} {dm : Nat} {fm : Int32} {st : Int} {tg : Nat} {cn : Int} {vo : Int} {pc : Nat} {k0 : Int} {s0 : Int} {f0 : Int} {o0 : Int} {n0 : Int} {w0 : Int32} (h_obj_a : M a = some (500, .inr (cMo, [.ref tp, vI tm, vI en, .ref ou, .ref sa, .ref aa, .ref na, .ref va, .ref lo, .ref dm, .int fm, vI st, .ref tg, vI cn, vI vo, .ref pc, vI k0, vI s0, vI f0, vI o0, vI n0, .int w0]))) (hn : -2147483648 ≤ n ∧ n ≤ 2147483647) (htm : 0 ≤ tm ∧ tm ≤ 800) : Ok l D b0 2 y_Mo_end b_Mo_end 2 (some .int) M [.ref a, vI n] 0 0 (fun r M' => r = some (vI (if n < 0 ∨ tm < n then -1 else n)) ∧ M' a = some (500, .inr (cMo, [.ref tp, vI (if n < 0 ∨ tm < n then tm else n), vI en, .ref ou, .ref sa, .ref aa, .ref na, .ref va, .ref lo, .ref dm, .int fm, vI st, .ref tg, vI cn, vI vo, .ref pc, vI k0, vI s0, vI f0, vI o0, vI n0, .int w0])) ∧ Fr [500] M M') := by
  refine Ok_of rfl (Nat.le_of_ble_eq_true rfl) (fun E hC hQ hl hD hB hN hR => ?_)
  subst hl hD hB
  show G E M 0 0 [(0, .ref a), (1, vI n)] [] 0
  refine G_iload_n hC 1 rfl rfl d_Mo_end_0 ?_
  refine G_i2lR hC (by omega) d_Mo_end_1 ?_
  refine G_lconst (v := zL 0) hC (by decide +kernel) d_Mo_end_2 ?_
  refine G_aload_n hC 0 rfl rfl d_Mo_end_3 ?_
  refine G_get hC fl_Mo_62 h_obj_a rfl d_Mo_end_4 ?_
  refine G_i2lR hC (by omega) d_Mo_end_7 ?_
  refine G_pS (rest := []) hC hR (c_Mo_in (by omega) (by omega) (by omega)) cs_Mo_66 (by decide) (by omega) (by omega) rfl rfl (Nat.le_of_ble_eq_true rfl) d_Mo_end_8 ?_
  refine G_if_ne hC 16 (by have := b2i_rng (decide (0 ≤ n ∧ n ≤ tm)); omega) (by decide) d_Mo_end_11 (fun c_1 => ?_) (fun c_1 => ?_)
  · have c_1 := b2i_ne0.mp c_1
    have c_1 := of_decide_eq_true c_1
    refine G_aload_n hC 0 rfl rfl d_Mo_end_16 ?_
    refine G_iload_n hC 1 rfl rfl d_Mo_end_17 ?_
    refine G_putX (fs' := [.ref tp, vI n, vI en, .ref ou, .ref sa, .ref aa, .ref na, .ref va, .ref lo, .ref dm, .int fm, vI st, .ref tg, vI cn, vI vo, .ref pc, vI k0, vI s0, vI f0, vI o0, vI n0, .int w0]) hC fl_Mo_62 ft_Mo fw_Mo_1 h_obj_a rfl rfl (Nat.le_of_ble_eq_true rfl) rfl d_Mo_end_18 (fun M_2 h_3 fr_4 => ?_)
    refine G_iload_n hC 1 rfl rfl d_Mo_end_21 ?_
    have hz9 : ¬ (n < 0 ∨ tm < n) := by omega
    exact G_iretX hC hQ (by omega) (by omega) d_Mo_end_22 ⟨by rw [if_neg hz9], by rw [if_neg hz9]; exact h_3, (fr_4.up (T := [500]) (by simp))⟩
  · have c_1 := b2i_eq0.mp c_1
    have c_1 := of_decide_eq_false c_1
    refine G_iconst (i := (-1)) hC d_Mo_end_14 ?_
    have hz9 : n < 0 ∨ tm < n := by omega
    exact G_iretX hC hQ (by omega) (by omega) d_Mo_end_15 ⟨by rw [if_pos hz9], by rw [if_pos hz9]; exact h_obj_a, Fr.rf⟩
