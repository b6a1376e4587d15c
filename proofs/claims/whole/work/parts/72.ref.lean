set_option maxHeartbeats 4000000 in
set_option maxRecDepth 100000 in
theorem c_Mo_is {l : Launch} {D : Dg} {b0 : Nat} {M : Mp} {p : Nat} {fr : Int} {to : Int} {i : Nat} {t : Nat} {len : Nat} {xs : List Int} (h_row_p : Row D M p t len xs) (hi : i < nTX) (hfr : 0 ≤ fr ∧ fr ≤ 20001) (hto : -1 ≤ to ∧ to ≤ xs.length) : OkP l D b0 5 y_Mo_is b_Mo_is 5 (some .boolean) M [.ref p, vI fr, vI to, .ref (D.2.2.1 i)] (vI (b2i (decide (isP2 xs (wrd i) fr to)))) := by
  refine Ok_of rfl (Nat.le_of_ble_eq_true rfl) (fun E hC hQ hl hD hB hN hR => ?_)
  subst hl hD hB
  have hr9 := h_row_p.len
  have hw9 := wrd_all i hi
  show G E M 0 0 [(0, .ref p), (1, vI fr), (2, vI to), (3, .ref ((eD E).2.2.1 i))] [] 0
  refine G_iload_n hC 2 rfl rfl d_Mo_is_0 ?_
  refine G_iload_n hC 1 rfl rfl d_Mo_is_1 ?_
  refine G_isub hC d_Mo_is_2 ?_
  refine G_aload_n hC 3 rfl rfl d_Mo_is_3 ?_
  refine G_pT (rest := [vI (to - fr)]) hC hR (c_Str_length hi) ct_Mo_1 hi (by decide) (by omega) (by omega) rfl rfl (Nat.le_of_ble_eq_true rfl) d_Mo_is_4 ?_
  have g_1 := wrd_all i hi
  refine G_icmp_eq hC 12 (by omega) (by omega) (by decide) d_Mo_is_7 (fun c_2 => ?_) (fun c_2 => ?_)
  · refine G_iconst (i := 0) hC d_Mo_is_12 ?_
    refine G_istore (lv' := [(4, vI 0), (0, .ref p), (1, vI fr), (2, vI to), (3, .ref ((eD E).2.2.1 i))]) hC (by rw [hN]; decide) rfl d_Mo_is_13 ?_
    have L15 : ∀ (N : Nat) (k : Int), (((wrd i).length : Int) - k).toNat < N → (0 ≤ k ∧ k ≤ ((wrd i).length : Int)) → (∀ j : Nat, (j : Int) < k → atS xs (fr + j) = (wrd i).getD j 0) → G E M 0 0 [(0, .ref p), (1, vI fr), (2, vI to), (3, .ref ((eD E).2.2.1 i)), (4, vI k)] [] 15 := by
      intro N
      induction N with
      | zero => intro k hN15 hk hv; exact absurd hN15 (Nat.not_lt_zero _)
      | succ N ih15 =>
        intro k hN15 hk hv
        refine G_iload hC 4 rfl d_Mo_is_15 ?_
        refine G_aload_n hC 3 rfl rfl d_Mo_is_17 ?_
        refine G_pT (rest := [vI k]) hC hR (c_Str_length hi) ct_Mo_1 hi (by decide) (by omega) (by omega) rfl rfl (Nat.le_of_ble_eq_true rfl) d_Mo_is_18 ?_
        have g_3 := wrd_all i hi
        refine G_icmp_ge hC 47 (by omega) (by omega) (by decide) d_Mo_is_21 (fun c_4 => ?_) (fun c_4 => ?_)
        · refine G_iconst (i := 1) hC d_Mo_is_47 ?_
          exact G_zretP hC hQ d_Mo_is_48 (b2i_t (decide_eq_true ⟨by omega, fun j hj => hv j (by omega)⟩))
        · have hw7 := hw9.2.2 k.toNat (by omega)
          refine G_aload_n hC 0 rfl rfl d_Mo_is_24 ?_
          refine G_iload_n hC 1 rfl rfl d_Mo_is_25 ?_
          refine G_iload hC 4 rfl d_Mo_is_26 ?_
          refine G_iadd hC d_Mo_is_28 ?_
          refine G_baldR hC h_row_p (by omega) d_Mo_is_29 ?_
          have g_5 := h_row_p.rng (fr + k)
          have g_6 := atS_gx (xs := xs) (i := fr + k) (by omega)
          refine G_aload_n hC 3 rfl rfl d_Mo_is_30 ?_
          refine G_iload hC 4 rfl d_Mo_is_31 ?_
          refine G_pT (rest := [vI (gx xs (fr + k))]) hC hR (c_Str_charAt hi (by omega)) ct_Mo_7 hi (by decide) (by omega) (by omega) rfl rfl (Nat.le_of_ble_eq_true rfl) d_Mo_is_33 ?_
          refine G_icmp_eq hC 41 (by omega) (by omega) (by decide) d_Mo_is_36 (fun c_7 => ?_) (fun c_7 => ?_)
          · have hz : atS xs (fr + k) = (wrd i).getD k.toNat 0 := by omega
            refine G_iinc (lv' := [(4, vI (k + 1)), (0, .ref p), (1, vI fr), (2, vI to), (3, .ref ((eD E).2.2.1 i))]) hC 4 rfl (by rw [hN]; decide) rfl d_Mo_is_41 ?_
            refine G_goto hC 15 (by decide) d_Mo_is_44 ?_
            refine G_lv [1, 2, 3, 4, 0] rfl ?_
            exact ih15 (k + 1) (by omega) (by omega) (fun j hj => by
                by_cases hjk : (j : Int) < k
                · exact hv j hjk
                · obtain rfl : j = k.toNat := by omega
                  rw [show ((k.toNat : Nat) : Int) = k by omega]
                  exact hz)
          · refine G_iconst (i := 0) hC d_Mo_is_39 ?_
            exact G_zretP hC hQ d_Mo_is_40 (b2i_f (decide_eq_false (fun z => by have z9 := z.2 k.toNat (by omega); rw [show ((k.toNat : Nat) : Int) = k by omega] at z9; omega)))
    refine G_lv [1, 2, 3, 4, 0] rfl ?_
    exact L15 _ 0 (Nat.lt_succ_self _) (by omega) (fun j hj => absurd hj (by omega))
  · refine G_iconst (i := 0) hC d_Mo_is_10 ?_
    exact G_zretP hC hQ d_Mo_is_11 (b2i_f (decide_eq_false (fun z => by have := z.1; omega)))

set_option maxHeartbeats 4000000 in
set_option maxRecDepth 100000 in
theorem c_Mo_begins {l : Launch} {D : Dg} {b0 : Nat} {M : Mp} {p : Nat} {fr : Int} {to : Int} {i : Nat} {t : Nat} {len : Nat} {xs : List Int} (h_row_p : Row D M p t len xs) (hi : i < nTX) (hfr : 0 ≤ fr ∧ fr ≤ 20001) (hto : -1 ≤ to ∧ to ≤ xs.length) : OkP l D b0 6 y_Mo_begins b_Mo_begins 4 (some .boolean) M [.ref p, vI fr, vI to, .ref (D.2.2.1 i)] (vI (b2i (hasS xs (wrd i) fr to))) := by
  refine Ok_of rfl (Nat.le_of_ble_eq_true rfl) (fun E hC hQ hl hD hB hN hR => ?_)
  subst hl hD hB
  have hr9 := h_row_p.len
  have hw9 := wrd_all i hi
  show G E M 0 0 [(0, .ref p), (1, vI fr), (2, vI to), (3, .ref ((eD E).2.2.1 i))] [] 0
  refine G_iload_n hC 2 rfl rfl d_Mo_begins_0 ?_
  refine G_iload_n hC 1 rfl rfl d_Mo_begins_1 ?_
  refine G_isub hC d_Mo_begins_2 ?_
  refine G_aload_n hC 3 rfl rfl d_Mo_begins_3 ?_
  refine G_pT (rest := [vI (to - fr)]) hC hR (c_Str_length hi) ct_Mo_1 hi (by decide) (by omega) (by omega) rfl rfl (Nat.le_of_ble_eq_true rfl) d_Mo_begins_4 ?_
  have g_1 := wrd_all i hi
  refine G_icmp_lt hC 29 (by omega) (by omega) (by decide) d_Mo_begins_7 (fun c_2 => ?_) (fun c_2 => ?_)
  · refine G_iconst (i := 0) hC d_Mo_begins_29 ?_
    exact G_zretP hC hQ d_Mo_begins_30 (b2i_f (decide_eq_false (fun z => by have := z.1; omega)))
  · refine G_aload_n hC 0 rfl rfl d_Mo_begins_10 ?_
    refine G_iload_n hC 1 rfl rfl d_Mo_begins_11 ?_
    refine G_iload_n hC 1 rfl rfl d_Mo_begins_12 ?_
    refine G_aload_n hC 3 rfl rfl d_Mo_begins_13 ?_
    refine G_pT (rest := [vI fr, vI fr, .ref p]) hC hR (c_Str_length hi) ct_Mo_1 hi (by decide) (by omega) (by omega) rfl rfl (Nat.le_of_ble_eq_true rfl) d_Mo_begins_14 ?_
    have g_3 := wrd_all i hi
    refine G_iadd hC d_Mo_begins_17 ?_
    refine G_aload_n hC 3 rfl rfl d_Mo_begins_18 ?_
    refine G_pS (rest := []) hC hR (c_Mo_is h_row_p hi (by omega) (by omega)) cs_Mo_11 (by decide) (by omega) (by omega) rfl rfl (Nat.le_of_ble_eq_true rfl) d_Mo_begins_19 ?_
    refine G_if_eq hC 29 (by have := b2i_rng (decide (isP2 xs (wrd i) fr (fr + ((wrd i).length : Int)))); omega) (by decide) d_Mo_begins_22 (fun c_4 => ?_) (fun c_4 => ?_)
    · have c_4 := b2i_eq0.mp c_4
      have c_4 := of_decide_eq_false c_4
      refine G_iconst (i := 0) hC d_Mo_begins_29 ?_
      exact G_zretP hC hQ d_Mo_begins_30 (b2i_f (decide_eq_false (fun z => c_4 ⟨by omega, z.2⟩)))
    · have c_4 := b2i_ne0.mp c_4
      have c_4 := of_decide_eq_true c_4
      refine G_iconst (i := 1) hC d_Mo_begins_25 ?_
      refine G_goto hC 30 (by decide) d_Mo_begins_26 ?_
      exact G_zretP hC hQ d_Mo_begins_30 (b2i_t (decide_eq_true ⟨by omega, c_4.2⟩))

set_option maxHeartbeats 4000000 in
set_option maxRecDepth 100000 in
theorem c_Mo_macro {l : Launch} {D : Dg} {b0 : Nat} {M : Mp} {p : Nat} {q : Int} {to : Int} {t : Nat} {len : Nat} {xs : List Int} {z : Int} (h_row_p : Row D M p t len xs) (hq : 0 ≤ q ∧ q ≤ 20000) (hto : 0 ≤ to ∧ to ≤ xs.length) (hr : mlenS xs q to = z) : OkP l D b0 1 y_Mo_macro b_Mo_macro 6 (some .int) M [.ref p, vI q, vI to] (vI z) := by
  refine Ok_of rfl (Nat.le_of_ble_eq_true rfl) (fun E hC hQ hl hD hB hN hR => ?_)
  subst hl hD hB
  have hr9 := h_row_p.len
  unfold mlenS at hr
  dsimp only at hr
  obtain ⟨nx, hnx⟩ : ∃ nx, (if q + 1 < to then atS xs (q + 1) else -1) = nx := ⟨_, rfl⟩
  rw [hnx] at hr
  show G E M 0 0 [(0, .ref p), (1, vI q), (2, vI to)] [] 0
  refine G_iload_n hC 1 rfl rfl d_Mo_macro_0 ?_
  refine G_iconst (i := 1) hC d_Mo_macro_1 ?_
  refine G_iadd hC d_Mo_macro_2 ?_
  refine G_iload_n hC 2 rfl rfl d_Mo_macro_3 ?_
  refine G_icmp_lt hC 9 (by omega) (by omega) (by decide) d_Mo_macro_4 (fun c_1 => ?_) (fun c_1 => ?_)
  · refine G_aload_n hC 0 rfl rfl d_Mo_macro_9 ?_
    refine G_iload_n hC 1 rfl rfl d_Mo_macro_10 ?_
    refine G_iconst (i := 1) hC d_Mo_macro_11 ?_
    refine G_iadd hC d_Mo_macro_12 ?_
    refine G_baldR hC h_row_p (by omega) d_Mo_macro_13 ?_
    have g_2 := h_row_p.rng (q + 1)
    have g_3 := atS_gx (xs := xs) (i := q + 1) (by omega)
    refine G_istore_n (lv' := [(3, vI (gx xs (q + 1))), (0, .ref p), (1, vI q), (2, vI to)]) hC rfl (by rw [hN]; decide) rfl d_Mo_macro_14 ?_
    rw [if_pos (show q + 1 < to by omega)] at hnx
    refine G_iload_n hC 0 rfl rfl d_Mo_macro_15 ?_
    refine G_bipush (j := 37) hC (by decide +kernel) d_Mo_macro_16 ?_
    refine G_icmp_eq hC 33 (by omega) (by decide) (by decide) d_Mo_macro_18 (fun c_4 => ?_) (fun c_4 => ?_)
    · refine G_iconst (i := 2) hC d_Mo_macro_33 ?_
      exact G_iretP hC hQ d_Mo_macro_34 (by rw [if_pos (show nx = 37 ∨ nx = 95 ∨ nx = 45 by omega)] at hr; exact hr)
    · refine G_iload_n hC 0 rfl rfl d_Mo_macro_21 ?_
      refine G_bipush (j := 95) hC (by decide +kernel) d_Mo_macro_22 ?_
      refine G_icmp_eq hC 33 (by omega) (by decide) (by decide) d_Mo_macro_24 (fun c_5 => ?_) (fun c_5 => ?_)
      · refine G_iconst (i := 2) hC d_Mo_macro_33 ?_
        exact G_iretP hC hQ d_Mo_macro_34 (by rw [if_pos (show nx = 37 ∨ nx = 95 ∨ nx = 45 by omega)] at hr; exact hr)
      · refine G_iload_n hC 0 rfl rfl d_Mo_macro_27 ?_
        refine G_bipush (j := 45) hC (by decide +kernel) d_Mo_macro_28 ?_
        refine G_icmp_ne hC 35 (by omega) (by decide) (by decide) d_Mo_macro_30 (fun c_6 => ?_) (fun c_6 => ?_)
        · rw [if_neg (show ¬ (nx = 37 ∨ nx = 95 ∨ nx = 45) by omega)] at hr
          refine G_iload_n hC 0 rfl rfl d_Mo_macro_35 ?_
          refine G_bipush (j := 123) hC (by decide +kernel) d_Mo_macro_36 ?_
          refine G_icmp_ne hC 48 (by omega) (by decide) (by decide) d_Mo_macro_38 (fun c_7 => ?_) (fun c_7 => ?_)
          · refine G_iconst (i := 0) hC d_Mo_macro_48 ?_
            exact G_iretP hC hQ d_Mo_macro_49 (by rw [if_pos (by omega)] at hr; exact hr)
          · refine G_iload_n hC 2 rfl rfl d_Mo_macro_41 ?_
            refine G_iconst (i := 2) hC d_Mo_macro_42 ?_
            refine G_iadd hC d_Mo_macro_43 ?_
            refine G_iload_n hC 3 rfl rfl d_Mo_macro_44 ?_
            refine G_icmp_lt hC 50 (by omega) (by omega) (by decide) d_Mo_macro_45 (fun c_8 => ?_) (fun c_8 => ?_)
            · refine G_aload_n hC 1 rfl rfl d_Mo_macro_50 ?_
              refine G_iload_n hC 2 rfl rfl d_Mo_macro_51 ?_
              refine G_iconst (i := 2) hC d_Mo_macro_52 ?_
              refine G_iadd hC d_Mo_macro_53 ?_
              refine G_baldR hC h_row_p (by omega) d_Mo_macro_54 ?_
              have g_9 := h_row_p.rng (q + 2)
              have g_10 := atS_gx (xs := xs) (i := q + 2) (by omega)
              refine G_istore (lv' := [(4, vI (gx xs (q + 2))), (3, vI (gx xs (q + 1))), (0, .ref p), (1, vI q), (2, vI to)]) hC (by rw [hN]; decide) rfl d_Mo_macro_55 ?_
              refine G_iload_n hC 3 rfl rfl d_Mo_macro_57 ?_
              refine G_iconst (i := 3) hC d_Mo_macro_58 ?_
              refine G_iadd hC d_Mo_macro_59 ?_
              refine G_istore (lv' := [(5, vI (q + 3)), (4, vI (gx xs (q + 2))), (3, vI (gx xs (q + 1))), (0, .ref p), (1, vI q), (2, vI to)]) hC (by rw [hN]; decide) rfl d_Mo_macro_60 ?_
              have J99 : (mlP (atS xs (q + 2))) → G E M 0 0 [(0, .ref p), (1, vI q), (2, vI to), (3, vI (gx xs (q + 1))), (4, vI (gx xs (q + 2))), (5, vI (q + 3))] [] 99 := by
                intro hml
                rw [if_neg (show ¬ (¬ nx = 123 ∨ to ≤ q + 2 ∨ ¬ mlP (atS xs (q + 2))) from fun z9 => by rcases z9 with z9 | z9 | z9; omega; omega; exact z9 hml)] at hr
                obtain ⟨k1, hk1⟩ : ∃ k1, (if pnP (atS xs (q + 3)) then q + 3 + 1 else q + 3) = k1 := ⟨_, rfl⟩
                rw [hk1] at hr
                obtain ⟨k2, hk2⟩ : ∃ k2, (if atS xs k1 = 114 then k1 + 1 else k1) = k2 := ⟨_, rfl⟩
                rw [hk2] at hr
                have J126 : ∀ (k : Int), ((k = k1 ∨ (to ≤ k ∧ to ≤ k1)) ∧ q + 3 ≤ k ∧ k ≤ q + 4) → G E M 0 0 [(0, .ref p), (1, vI q), (2, vI to), (3, vI (gx xs (q + 1))), (4, vI (gx xs (q + 2))), (5, vI k)] [] 126 := by
                  intro k hj1
                  have J144 : ∀ (kk : Int), ((kk = k2 ∨ (to ≤ kk ∧ to ≤ k2)) ∧ q + 3 ≤ kk ∧ kk ≤ q + 5) → G E M 0 0 [(0, .ref p), (1, vI q), (2, vI to), (3, vI (gx xs (q + 1))), (4, vI (gx xs (q + 2))), (5, vI kk)] [] 144 := by
                    intro kk hj2
                    refine G_iload hC 5 rfl d_Mo_macro_144 ?_
                    refine G_iload_n hC 2 rfl rfl d_Mo_macro_146 ?_
                    refine G_icmp_ge hC 168 (by omega) (by omega) (by decide) d_Mo_macro_147 (fun c_11 => ?_) (fun c_11 => ?_)
                    · refine G_iconst (i := 0) hC d_Mo_macro_168 ?_
                      exact G_iretP hC hQ d_Mo_macro_169 (by rcases hj2.1 with z9 | z9; (subst z9; rw [if_neg (by omega)] at hr; exact hr); (rw [if_neg (by omega)] at hr; exact hr))
                    · refine G_aload_n hC 0 rfl rfl d_Mo_macro_150 ?_
                      refine G_iload hC 5 rfl d_Mo_macro_151 ?_
                      refine G_baldR hC h_row_p (by omega) d_Mo_macro_153 ?_
                      have g_12 := h_row_p.rng kk
                      have g_13 := atS_gx (xs := xs) (i := kk) (by omega)
                      refine G_bipush (j := 125) hC (by decide +kernel) d_Mo_macro_154 ?_
                      refine G_icmp_ne hC 168 (by omega) (by decide) (by decide) d_Mo_macro_156 (fun c_14 => ?_) (fun c_14 => ?_)
                      · refine G_iconst (i := 0) hC d_Mo_macro_168 ?_
                        exact G_iretP hC hQ d_Mo_macro_169 (by rcases hj2.1 with z9 | z9; (subst z9; rw [if_neg (by omega)] at hr; exact hr); (rw [if_neg (by omega)] at hr; exact hr))
                      · refine G_iload hC 5 rfl d_Mo_macro_159 ?_
                        refine G_iconst (i := 1) hC d_Mo_macro_161 ?_
                        refine G_iadd hC d_Mo_macro_162 ?_
                        refine G_iload_n hC 1 rfl rfl d_Mo_macro_163 ?_
                        refine G_isub hC d_Mo_macro_164 ?_
                        refine G_goto hC 169 (by decide) d_Mo_macro_165 ?_
                        exact G_iretP hC hQ d_Mo_macro_169 (by rcases hj2.1 with z9 | z9; (subst z9; rw [if_pos (by omega)] at hr; exact hr); (exfalso; omega))
                  refine G_iload hC 5 rfl d_Mo_macro_126 ?_
                  refine G_iload_n hC 2 rfl rfl d_Mo_macro_128 ?_
                  refine G_icmp_ge hC 144 (by omega) (by omega) (by decide) d_Mo_macro_129 (fun c_15 => ?_) (fun c_15 => ?_)
                  · exact J144 k (by rcases hj1.1 with z9 | z9; (subst z9; split at hk2 <;> omega); (split at hk2 <;> omega))
                  · refine G_aload_n hC 0 rfl rfl d_Mo_macro_132 ?_
                    refine G_iload hC 5 rfl d_Mo_macro_133 ?_
                    refine G_baldR hC h_row_p (by omega) d_Mo_macro_135 ?_
                    have g_16 := h_row_p.rng k
                    have g_17 := atS_gx (xs := xs) (i := k) (by omega)
                    refine G_bipush (j := 114) hC (by decide +kernel) d_Mo_macro_136 ?_
                    refine G_icmp_ne hC 144 (by omega) (by decide) (by decide) d_Mo_macro_138 (fun c_18 => ?_) (fun c_18 => ?_)
                    · exact J144 k (by rcases hj1.1 with z9 | z9; (subst z9; split at hk2 <;> omega); (split at hk2 <;> omega))
                    · refine G_iinc (lv' := [(5, vI (k + 1)), (0, .ref p), (1, vI q), (2, vI to), (3, vI (gx xs (q + 1))), (4, vI (gx xs (q + 2)))]) hC 5 rfl (by rw [hN]; decide) rfl d_Mo_macro_141 ?_
                      refine G_lv [1, 2, 3, 4, 5, 0] rfl ?_
                      exact J144 (k + 1) (by rcases hj1.1 with z9 | z9; (subst z9; split at hk2 <;> omega); (split at hk2 <;> omega))
                refine G_iload hC 5 rfl d_Mo_macro_99 ?_
                refine G_iload_n hC 2 rfl rfl d_Mo_macro_101 ?_
                refine G_icmp_ge hC 126 (by omega) (by omega) (by decide) d_Mo_macro_102 (fun c_19 => ?_) (fun c_19 => ?_)
                · exact J126 (q + 3) (by split at hk1 <;> omega)
                · refine G_aload_n hC 0 rfl rfl d_Mo_macro_105 ?_
                  refine G_iload hC 5 rfl d_Mo_macro_106 ?_
                  refine G_baldR hC h_row_p (by omega) d_Mo_macro_108 ?_
                  have g_20 := h_row_p.rng (q + 3)
                  have g_21 := atS_gx (xs := xs) (i := q + 3) (by omega)
                  refine G_bipush (j := 49) hC (by decide +kernel) d_Mo_macro_109 ?_
                  refine G_icmp_lt hC 126 (by omega) (by decide) (by decide) d_Mo_macro_111 (fun c_22 => ?_) (fun c_22 => ?_)
                  · exact J126 (q + 3) (by split at hk1 <;> omega)
                  · refine G_aload_n hC 0 rfl rfl d_Mo_macro_114 ?_
                    refine G_iload hC 5 rfl d_Mo_macro_115 ?_
                    refine G_baldR hC h_row_p (by omega) d_Mo_macro_117 ?_
                    have g_23 := h_row_p.rng (q + 3)
                    have g_24 := atS_gx (xs := xs) (i := q + 3) (by omega)
                    refine G_bipush (j := 57) hC (by decide +kernel) d_Mo_macro_118 ?_
                    refine G_icmp_gt hC 126 (by omega) (by decide) (by decide) d_Mo_macro_120 (fun c_25 => ?_) (fun c_25 => ?_)
                    · exact J126 (q + 3) (by split at hk1 <;> omega)
                    · refine G_iinc (lv' := [(5, vI ((q + 3) + 1)), (0, .ref p), (1, vI q), (2, vI to), (3, vI (gx xs (q + 1))), (4, vI (gx xs (q + 2)))]) hC 5 rfl (by rw [hN]; decide) rfl d_Mo_macro_123 ?_
                      refine G_lv [1, 2, 3, 4, 5, 0] rfl ?_
                      exact J126 ((q + 3) + 1) (by split at hk1 <;> omega)
              refine G_iload hC 1 rfl d_Mo_macro_62 ?_
              refine G_bipush (j := 115) hC (by decide +kernel) d_Mo_macro_64 ?_
              refine G_icmp_eq hC 99 (by omega) (by decide) (by decide) d_Mo_macro_66 (fun c_26 => ?_) (fun c_26 => ?_)
              · refine G_lv [3, 4, 5, 2, 1, 0] rfl ?_
                exact J99 (by omega)
              · refine G_iload hC 1 rfl d_Mo_macro_69 ?_
                refine G_bipush (j := 108) hC (by decide +kernel) d_Mo_macro_71 ?_
                refine G_icmp_eq hC 99 (by omega) (by decide) (by decide) d_Mo_macro_73 (fun c_27 => ?_) (fun c_27 => ?_)
                · refine G_lv [3, 4, 5, 2, 1, 0] rfl ?_
                  exact J99 (by omega)
                · refine G_iload hC 1 rfl d_Mo_macro_76 ?_
                  refine G_bipush (j := 111) hC (by decide +kernel) d_Mo_macro_78 ?_
                  refine G_icmp_eq hC 99 (by omega) (by decide) (by decide) d_Mo_macro_80 (fun c_28 => ?_) (fun c_28 => ?_)
                  · refine G_lv [3, 4, 5, 2, 1, 0] rfl ?_
                    exact J99 (by omega)
                  · refine G_iload hC 1 rfl d_Mo_macro_83 ?_
                    refine G_bipush (j := 100) hC (by decide +kernel) d_Mo_macro_85 ?_
                    refine G_icmp_eq hC 99 (by omega) (by decide) (by decide) d_Mo_macro_87 (fun c_29 => ?_) (fun c_29 => ?_)
                    · refine G_lv [3, 4, 5, 2, 1, 0] rfl ?_
                      exact J99 (by omega)
                    · refine G_iload hC 1 rfl d_Mo_macro_90 ?_
                      refine G_bipush (j := 105) hC (by decide +kernel) d_Mo_macro_92 ?_
                      refine G_icmp_eq hC 99 (by omega) (by decide) (by decide) d_Mo_macro_94 (fun c_30 => ?_) (fun c_30 => ?_)
                      · refine G_lv [3, 4, 5, 2, 1, 0] rfl ?_
                        exact J99 (by omega)
                      · refine G_iconst (i := 0) hC d_Mo_macro_97 ?_
                        exact G_iretP hC hQ d_Mo_macro_98 (by rw [if_pos (by omega)] at hr; exact hr)
            · refine G_iconst (i := 0) hC d_Mo_macro_48 ?_
              exact G_iretP hC hQ d_Mo_macro_49 (by rw [if_pos (by omega)] at hr; exact hr)
        · refine G_iconst (i := 2) hC d_Mo_macro_33 ?_
          exact G_iretP hC hQ d_Mo_macro_34 (by rw [if_pos (show nx = 37 ∨ nx = 95 ∨ nx = 45 by omega)] at hr; exact hr)
  · refine G_iconst (i := 0) hC d_Mo_macro_7 ?_
    exact G_iretP hC hQ d_Mo_macro_8 (by rw [if_neg (show ¬ q + 1 < to by omega)] at hnx; rw [if_neg (by omega), if_pos (by omega)] at hr; exact hr)

set_option maxHeartbeats 4000000 in
set_option maxRecDepth 100000 in
theorem c_Mo_slashOf {l : Launch} {D : Dg} {b0 : Nat} {M : Mp} {p : Nat} {q : Int} {to : Int} {t : Nat} {len : Nat} {xs : List Int} {z : Int} (h_row_p : Row D M p t len xs) (hq : 0 ≤ q ∧ q ≤ to ∧ to ≤ xs.length) (hr : findS xs 47 q to = z) : OkP l D b0 1 y_Mo_slashOf b_Mo_slashOf 4 (some .int) M [.ref p, vI q, vI to] (vI z) := by
  refine Ok_of rfl (Nat.le_of_ble_eq_true rfl) (fun E hC hQ hl hD hB hN hR => ?_)
  subst hl hD hB
  have hr9 := h_row_p.len
  show G E M 0 0 [(0, .ref p), (1, vI q), (2, vI to)] [] 0
  refine G_iload_n hC 1 rfl rfl d_Mo_slashOf_0 ?_
  refine G_istore_n (lv' := [(3, vI q), (0, .ref p), (1, vI q), (2, vI to)]) hC rfl (by rw [hN]; decide) rfl d_Mo_slashOf_1 ?_
  have L2 : ∀ (N : Nat) (k : Int), (to - k).toNat < N → (q ≤ k ∧ k ≤ to) → (findS xs 47 k to = z) → G E M 0 0 [(0, .ref p), (1, vI q), (2, vI to), (3, vI k)] [] 2 := by
    intro N
    induction N with
    | zero => intro k hN2 hk hf; exact absurd hN2 (Nat.not_lt_zero _)
    | succ N ih2 =>
      intro k hN2 hk hf
      refine G_iload_n hC 3 rfl rfl d_Mo_slashOf_2 ?_
      refine G_iload_n hC 2 rfl rfl d_Mo_slashOf_3 ?_
      refine G_icmp_ge hC 21 (by omega) (by omega) (by decide) d_Mo_slashOf_4 (fun c_1 => ?_) (fun c_1 => ?_)
      · refine G_iload_n hC 3 rfl rfl d_Mo_slashOf_21 ?_
        exact G_iretP hC hQ d_Mo_slashOf_22 (by rw [findS] at hf; (repeat' split at hf); all_goals first | exact hf | (exfalso; omega) | omega)
      · refine G_aload_n hC 0 rfl rfl d_Mo_slashOf_7 ?_
        refine G_iload_n hC 3 rfl rfl d_Mo_slashOf_8 ?_
        refine G_baldR hC h_row_p (by omega) d_Mo_slashOf_9 ?_
        have g_2 := h_row_p.rng k
        have g_3 := atS_gx (xs := xs) (i := k) (by omega)
        refine G_bipush (j := 47) hC (by decide +kernel) d_Mo_slashOf_10 ?_
        refine G_icmp_eq hC 21 (by omega) (by decide) (by decide) d_Mo_slashOf_12 (fun c_4 => ?_) (fun c_4 => ?_)
        · refine G_iload_n hC 3 rfl rfl d_Mo_slashOf_21 ?_
          exact G_iretP hC hQ d_Mo_slashOf_22 (by rw [findS] at hf; (repeat' split at hf); all_goals first | exact hf | (exfalso; omega) | omega)
        · refine G_iinc (lv' := [(3, vI (k + 1)), (0, .ref p), (1, vI q), (2, vI to)]) hC 3 rfl (by rw [hN]; decide) rfl d_Mo_slashOf_15 ?_
          refine G_goto hC 2 (by decide) d_Mo_slashOf_18 ?_
          refine G_lv [1, 2, 3, 0] rfl ?_
          exact ih2 (k + 1) (by omega) (by omega) (by rw [findS] at hf; (repeat' split at hf); all_goals first | exact hf | (exfalso; omega) | omega)
  refine G_lv [1, 2, 3, 0] rfl ?_
  exact L2 _ q (Nat.lt_succ_self _) (by omega) hr

set_option maxHeartbeats 4000000 in
set_option maxRecDepth 100000 in
theorem c_Mo_blankFrom {l : Launch} {D : Dg} {b0 : Nat} {M : Mp} {a : Nat} {q : Int} {t : Nat} {len : Nat} {xs : List Int} {z : Int} (h_Tx_a : IsT D M a t len xs) (hq : 0 ≤ q ∧ q ≤ xs.length) (hr : nbS xs q = z) : OkP l D b0 1 y_Mo_blankFrom b_Mo_blankFrom 3 (some .int) M [.ref a, vI q] (vI z) := by
  refine Ok_of rfl (Nat.le_of_ble_eq_true rfl) (fun E hC hQ hl hD hB hN hR => ?_)
  subst hl hD hB
  have g_4 := h_Tx_a.len
  obtain ⟨r_1, h_2, h_3⟩ := id h_Tx_a
  show G E M 0 0 [(0, .ref a), (1, vI q)] [] 0
  refine G_iload_n hC 1 rfl rfl d_Mo_blankFrom_0 ?_
  refine G_istore_n (lv' := [(2, vI q), (0, .ref a), (1, vI q)]) hC rfl (by rw [hN]; decide) rfl d_Mo_blankFrom_1 ?_
  have L2 : ∀ (N : Nat) (k : Int), ((xs.length : Int) - k).toNat < N → (q ≤ k ∧ k ≤ xs.length) → (nbS xs k = z) → G E M 0 0 [(0, .ref a), (1, vI q), (2, vI k)] [] 2 := by
    intro N
    induction N with
    | zero => intro k hN2 hk hf; exact absurd hN2 (Nat.not_lt_zero _)
    | succ N ih2 =>
      intro k hN2 hk hf
      refine G_iload_n hC 2 rfl rfl d_Mo_blankFrom_2 ?_
      refine G_aload_n hC 0 rfl rfl d_Mo_blankFrom_3 ?_
      refine G_get hC fl_Mo_86 h_2 rfl d_Mo_blankFrom_4 ?_
      refine G_icmp_ge hC 27 (by omega) (by omega) (by decide) d_Mo_blankFrom_7 (fun c_5 => ?_) (fun c_5 => ?_)
      · refine G_iload_n hC 2 rfl rfl d_Mo_blankFrom_27 ?_
        exact G_iretP hC hQ d_Mo_blankFrom_28 (by rw [nbS] at hf; (repeat' split at hf); all_goals first | exact hf | (exfalso; omega) | omega)
      · refine G_aload_n hC 0 rfl rfl d_Mo_blankFrom_10 ?_
        refine G_get hC fl_Mo_192 h_2 rfl d_Mo_blankFrom_11 ?_
        refine G_iload_n hC 2 rfl rfl d_Mo_blankFrom_14 ?_
        refine G_baldR hC h_3 (by omega) d_Mo_blankFrom_15 ?_
        have g_6 := h_3.rng k
        have g_7 := atS_gx (xs := xs) (i := k) (by omega)
        refine G_bipush (j := 32) hC (by decide +kernel) d_Mo_blankFrom_16 ?_
        refine G_icmp_ne hC 27 (by omega) (by decide) (by decide) d_Mo_blankFrom_18 (fun c_8 => ?_) (fun c_8 => ?_)
        · refine G_iload_n hC 2 rfl rfl d_Mo_blankFrom_27 ?_
          exact G_iretP hC hQ d_Mo_blankFrom_28 (by rw [nbS] at hf; (repeat' split at hf); all_goals first | exact hf | (exfalso; omega) | omega)
        · refine G_iinc (lv' := [(2, vI (k + 1)), (0, .ref a), (1, vI q)]) hC 2 rfl (by rw [hN]; decide) rfl d_Mo_blankFrom_21 ?_
          refine G_goto hC 2 (by decide) d_Mo_blankFrom_24 ?_
          refine G_lv [1, 2, 0] rfl ?_
          exact ih2 (k + 1) (by omega) (by omega) (by rw [nbS] at hf; (repeat' split at hf); all_goals first | exact hf | (exfalso; omega) | omega)
  refine G_lv [1, 2, 0] rfl ?_
  exact L2 _ q (Nat.lt_succ_self _) (by omega) hr

set_option maxHeartbeats 4000000 in
set_option maxRecDepth 100000 in
theorem c_Mo_wordEnd {l : Launch} {D : Dg} {b0 : Nat} {M : Mp} {a : Nat} {q : Int} {t : Nat} {len : Nat} {xs : List Int} {z : Int} (h_Tx_a : IsT D M a t len xs) (hq : 0 ≤ q ∧ q ≤ xs.length) (hr : findS xs 32 q xs.length = z) : OkP l D b0 1 y_Mo_wordEnd b_Mo_wordEnd 3 (some .int) M [.ref a, vI q] (vI z) := by
  refine Ok_of rfl (Nat.le_of_ble_eq_true rfl) (fun E hC hQ hl hD hB hN hR => ?_)
  subst hl hD hB
  have g_4 := h_Tx_a.len
  obtain ⟨r_1, h_2, h_3⟩ := id h_Tx_a
  show G E M 0 0 [(0, .ref a), (1, vI q)] [] 0
  refine G_iload_n hC 1 rfl rfl d_Mo_wordEnd_0 ?_
  refine G_istore_n (lv' := [(2, vI q), (0, .ref a), (1, vI q)]) hC rfl (by rw [hN]; decide) rfl d_Mo_wordEnd_1 ?_
  have L2 : ∀ (N : Nat) (k : Int), ((xs.length : Int) - k).toNat < N → (q ≤ k ∧ k ≤ xs.length) → (findS xs 32 k xs.length = z) → G E M 0 0 [(0, .ref a), (1, vI q), (2, vI k)] [] 2 := by
    intro N
    induction N with
    | zero => intro k hN2 hk hf; exact absurd hN2 (Nat.not_lt_zero _)
    | succ N ih2 =>
      intro k hN2 hk hf
      refine G_iload_n hC 2 rfl rfl d_Mo_wordEnd_2 ?_
      refine G_aload_n hC 0 rfl rfl d_Mo_wordEnd_3 ?_
      refine G_get hC fl_Mo_86 h_2 rfl d_Mo_wordEnd_4 ?_
      refine G_icmp_ge hC 27 (by omega) (by omega) (by decide) d_Mo_wordEnd_7 (fun c_5 => ?_) (fun c_5 => ?_)
      · refine G_iload_n hC 2 rfl rfl d_Mo_wordEnd_27 ?_
        exact G_iretP hC hQ d_Mo_wordEnd_28 (by rw [findS] at hf; (repeat' split at hf); all_goals first | exact hf | (exfalso; omega) | omega)
      · refine G_aload_n hC 0 rfl rfl d_Mo_wordEnd_10 ?_
        refine G_get hC fl_Mo_192 h_2 rfl d_Mo_wordEnd_11 ?_
        refine G_iload_n hC 2 rfl rfl d_Mo_wordEnd_14 ?_
        refine G_baldR hC h_3 (by omega) d_Mo_wordEnd_15 ?_
        have g_6 := h_3.rng k
        have g_7 := atS_gx (xs := xs) (i := k) (by omega)
        refine G_bipush (j := 32) hC (by decide +kernel) d_Mo_wordEnd_16 ?_
        refine G_icmp_eq hC 27 (by omega) (by decide) (by decide) d_Mo_wordEnd_18 (fun c_8 => ?_) (fun c_8 => ?_)
        · refine G_iload_n hC 2 rfl rfl d_Mo_wordEnd_27 ?_
          exact G_iretP hC hQ d_Mo_wordEnd_28 (by rw [findS] at hf; (repeat' split at hf); all_goals first | exact hf | (exfalso; omega) | omega)
        · refine G_iinc (lv' := [(2, vI (k + 1)), (0, .ref a), (1, vI q)]) hC 2 rfl (by rw [hN]; decide) rfl d_Mo_wordEnd_21 ?_
          refine G_goto hC 2 (by decide) d_Mo_wordEnd_24 ?_
          refine G_lv [1, 2, 0] rfl ?_
          exact ih2 (k + 1) (by omega) (by omega) (by rw [findS] at hf; (repeat' split at hf); all_goals first | exact hf | (exfalso; omega) | omega)
  refine G_lv [1, 2, 0] rfl ?_
  exact L2 _ q (Nat.lt_succ_self _) (by omega) hr

set_option maxHeartbeats 4000000 in
set_option maxRecDepth 100000 in
theorem c_Mo_bits {l : Launch} {D : Dg} {b0 : Nat} {M : Mp} {p : Nat} {q : Int} {to : Int} {t : Nat} {len : Nat} {xs : List Int} {P : Option Int} (h_row_p : Row D M p t len xs) (hq : 0 ≤ q ∧ q ≤ 20001 ∧ 0 ≤ to ∧ to ≤ xs.length) (hr : bitsS xs q to = P) : OkP l D b0 2 y_Mo_bits b_Mo_bits 5 (some .int) M [.ref p, vI q, vI to] (vI (P.getD (-1))) := by
  refine Ok_of rfl (Nat.le_of_ble_eq_true rfl) (fun E hC hQ hl hD hB hN hR => ?_)
  subst hl hD hB
  have hr9 := h_row_p.len
  unfold bitsS at hr
  show G E M 0 0 [(0, .ref p), (1, vI q), (2, vI to)] [] 0
  refine G_iload_n hC 2 rfl rfl d_Mo_bits_0 ?_
  refine G_iload_n hC 1 rfl rfl d_Mo_bits_1 ?_
  refine G_isub hC d_Mo_bits_2 ?_
  refine G_i2lR hC (by omega) d_Mo_bits_3 ?_
  refine G_lconst (v := zL 1) hC (by decide +kernel) d_Mo_bits_4 ?_
  refine G_ldc2R (a := 2) hC lc_Mo_130 d_Mo_bits_5 ?_
  refine G_pS (rest := []) hC hR (c_Mo_in (by omega) (by omega) (by omega)) cs_Mo_66 (by decide) (by omega) (by omega) rfl rfl (Nat.le_of_ble_eq_true rfl) d_Mo_bits_8 ?_
  refine G_if_ne hC 16 (by have := b2i_rng (decide (1 ≤ (to - q) ∧ (to - q) ≤ 2)); omega) (by decide) d_Mo_bits_11 (fun c_1 => ?_) (fun c_1 => ?_)
  · have c_1 := b2i_ne0.mp c_1
    have c_1 := of_decide_eq_true c_1
    refine G_iconst (i := 0) hC d_Mo_bits_16 ?_
    refine G_istore_n (lv' := [(3, vI 0), (0, .ref p), (1, vI q), (2, vI to)]) hC rfl (by rw [hN]; decide) rfl d_Mo_bits_17 ?_
    refine G_iload_n hC 2 rfl rfl d_Mo_bits_18 ?_
    refine G_istore (lv' := [(4, vI q), (3, vI 0), (0, .ref p), (1, vI q), (2, vI to)]) hC (by rw [hN]; decide) rfl d_Mo_bits_19 ?_
    have L21 : ∀ (N : Nat) (v : Int) (k : Int), (to - k).toNat < N → (0 ≤ v ∧ (k = q ∧ v = 0 ∨ k = q + 1 ∧ v ≤ 9 ∨ k = q + 2 ∧ v ≤ 99) ∧ k ≤ to) → (bitsL xs to k v = P) → G E M 0 0 [(0, .ref p), (1, vI q), (2, vI to), (3, vI v), (4, vI k)] [] 21 := by
      intro N
      induction N with
      | zero => intro v k hN21 hk hf; exact absurd hN21 (Nat.not_lt_zero _)
      | succ N ih21 =>
        intro v k hN21 hk hf
        refine G_iload hC 4 rfl d_Mo_bits_21 ?_
        refine G_iload_n hC 2 rfl rfl d_Mo_bits_23 ?_
        refine G_icmp_ge hC 58 (by omega) (by omega) (by decide) d_Mo_bits_24 (fun c_2 => ?_) (fun c_2 => ?_)
        · refine G_iload_n hC 3 rfl rfl d_Mo_bits_58 ?_
          refine G_bipush (j := 32) hC (by decide +kernel) d_Mo_bits_59 ?_
          refine G_icmp_gt hC 68 (by omega) (by decide) (by decide) d_Mo_bits_61 (fun c_3 => ?_) (fun c_3 => ?_)
          · refine G_iconst (i := (-1)) hC d_Mo_bits_68 ?_
            exact G_iretP hC hQ d_Mo_bits_69 (by rw [bitsL] at hf; (repeat' split at hf); all_goals first | (exfalso; omega) | (rw [← hf]; rfl))
          · refine G_iload_n hC 3 rfl rfl d_Mo_bits_64 ?_
            refine G_goto hC 69 (by decide) d_Mo_bits_65 ?_
            exact G_iretP hC hQ d_Mo_bits_69 (by rw [bitsL] at hf; (repeat' split at hf); all_goals first | (exfalso; omega) | (rw [← hf]; rfl))
        · refine G_aload_n hC 0 rfl rfl d_Mo_bits_27 ?_
          refine G_iload hC 4 rfl d_Mo_bits_28 ?_
          refine G_baldR hC h_row_p (by omega) d_Mo_bits_30 ?_
          have g_4 := h_row_p.rng k
          have g_5 := atS_gx (xs := xs) (i := k) (by omega)
          refine G_pS (rest := []) hC hR (c_Mo_isDigit (by omega)) cs_Mo_102 (by decide) (by omega) (by omega) rfl rfl (Nat.le_of_ble_eq_true rfl) d_Mo_bits_31 ?_
          refine G_if_ne hC 39 (by have := b2i_rng (decide (digP (gx xs k))); omega) (by decide) d_Mo_bits_34 (fun c_6 => ?_) (fun c_6 => ?_)
          · have c_6 := b2i_ne0.mp c_6
            have c_6 := of_decide_eq_true c_6
            refine G_bipush (j := 10) hC (by decide +kernel) d_Mo_bits_39 ?_
            refine G_iload_n hC 3 rfl rfl d_Mo_bits_41 ?_
            refine G_imul hC d_Mo_bits_42 ?_
            refine G_aload_n hC 0 rfl rfl d_Mo_bits_43 ?_
            refine G_iload hC 4 rfl d_Mo_bits_44 ?_
            refine G_baldR hC h_row_p (by omega) d_Mo_bits_46 ?_
            have g_7 := h_row_p.rng k
            have g_8 := atS_gx (xs := xs) (i := k) (by omega)
            refine G_iadd hC d_Mo_bits_47 ?_
            refine G_bipush (j := 48) hC (by decide +kernel) d_Mo_bits_48 ?_
            refine G_isub hC d_Mo_bits_50 ?_
            refine G_istore_n (lv' := [(3, vI (((10 * v) + (gx xs k)) - 48)), (0, .ref p), (1, vI q), (2, vI to), (4, vI k)]) hC rfl (by rw [hN]; decide) rfl d_Mo_bits_51 ?_
            refine G_iinc (lv' := [(4, vI (k + 1)), (3, vI (((10 * v) + (gx xs k)) - 48)), (0, .ref p), (1, vI q), (2, vI to)]) hC 4 rfl (by rw [hN]; decide) rfl d_Mo_bits_52 ?_
            refine G_goto hC 21 (by decide) d_Mo_bits_55 ?_
            refine G_lv [2, 3, 4, 1, 0] rfl ?_
            exact ih21 (((10 * v) + (gx xs k)) - 48) (k + 1) (by omega) (by omega) (by rw [bitsL] at hf; (repeat' split at hf); all_goals first | (exfalso; omega) | (rw [show 10 * v + gx xs k - 48 = v * 10 + atS xs k - 48 by omega]; exact hf))
          · have c_6 := b2i_eq0.mp c_6
            have c_6 := of_decide_eq_false c_6
            refine G_iconst (i := (-1)) hC d_Mo_bits_37 ?_
            exact G_iretP hC hQ d_Mo_bits_38 (by rw [bitsL] at hf; (repeat' split at hf); all_goals first | (exfalso; omega) | (rw [← hf]; rfl))
    refine G_lv [2, 3, 4, 1, 0] rfl ?_
    exact L21 _ 0 q (Nat.lt_succ_self _) (by omega) (by rw [if_neg (by omega)] at hr; exact hr)
  · have c_1 := b2i_eq0.mp c_1
    have c_1 := of_decide_eq_false c_1
    refine G_iconst (i := (-1)) hC d_Mo_bits_14 ?_
    exact G_iretP hC hQ d_Mo_bits_15 (by rw [if_pos (by omega)] at hr; rw [← hr]; rfl)

set_option maxHeartbeats 4000000 in
set_option maxRecDepth 100000 in
theorem c_Mo_isD {l : Launch} {D : Dg} {b0 : Nat} {M : Mp} {p : Nat} {q : Int} {to : Int} {sl : Bool} {t : Nat} {len : Nat} {xs : List Int} {B : Bool} (h_row_p : Row D M p t len xs) (hq : 0 ≤ q ∧ q ≤ 20001 ∧ 0 ≤ to ∧ to ≤ xs.length) (hns : sl = true ∨ ∀ j : Int, q ≤ j ∧ j < to → ¬ atS xs j = 47) (hr : targS xs q to = B) : OkP l D b0 2 y_Mo_isD b_Mo_isD 6 (some .boolean) M [.ref p, vI q, vI to, vI (b2i sl)] (vI (b2i B)) := by
  refine Ok_of rfl (Nat.le_of_ble_eq_true rfl) (fun E hC hQ hl hD hB hN hR => ?_)
  subst hl hD hB
  have hr9 := h_row_p.len
  unfold targS at hr
  show G E M 0 0 [(0, .ref p), (1, vI q), (2, vI to), (3, vI (b2i sl))] [] 0
  refine G_iload_n hC 1 rfl rfl d_Mo_isD_0 ?_
  refine G_iload_n hC 2 rfl rfl d_Mo_isD_1 ?_
  refine G_icmp_lt hC 7 (by omega) (by omega) (by decide) d_Mo_isD_2 (fun c_1 => ?_) (fun c_1 => ?_)
  · refine G_iload_n hC 1 rfl rfl d_Mo_isD_7 ?_
    refine G_istore (lv' := [(4, vI q), (0, .ref p), (1, vI q), (2, vI to), (3, vI (b2i sl))]) hC (by rw [hN]; decide) rfl d_Mo_isD_8 ?_
    have L10 : ∀ (N : Nat) (k : Int), (to - k).toNat < N → (q ≤ k ∧ k ≤ to) → ((targL xs to k && decide (q < to)) = B) → G E M 0 0 [(0, .ref p), (1, vI q), (2, vI to), (3, vI (b2i sl)), (4, vI k)] [] 10 := by
      intro N
      induction N with
      | zero => intro k hN10 hk hf; exact absurd hN10 (Nat.not_lt_zero _)
      | succ N ih10 =>
        intro k hN10 hk hf
        refine G_iload hC 4 rfl d_Mo_isD_10 ?_
        refine G_iload_n hC 2 rfl rfl d_Mo_isD_12 ?_
        refine G_icmp_ge hC 91 (by omega) (by omega) (by decide) d_Mo_isD_13 (fun c_2 => ?_) (fun c_2 => ?_)
        · refine G_iconst (i := 1) hC d_Mo_isD_91 ?_
          exact G_zretP hC hQ d_Mo_isD_92 (b2i_t (by rw [targL] at hf; (repeat' split at hf); all_goals first | (exfalso; omega) | (rw [← hf]; simp; omega)))
        · refine G_aload_n hC 0 rfl rfl d_Mo_isD_16 ?_
          refine G_iload hC 4 rfl d_Mo_isD_17 ?_
          refine G_baldR hC h_row_p (by omega) d_Mo_isD_19 ?_
          have g_3 := h_row_p.rng k
          have g_4 := atS_gx (xs := xs) (i := k) (by omega)
          refine G_i2lR hC (by omega) d_Mo_isD_20 ?_
          refine G_ldc2R (a := 33) hC lc_Mo_122 d_Mo_isD_21 ?_
          refine G_ldc2R (a := 126) hC lc_Mo_124 d_Mo_isD_24 ?_
          refine G_pS (rest := []) hC hR (c_Mo_in (by omega) (by omega) (by omega)) cs_Mo_66 (by decide) (by omega) (by omega) rfl rfl (Nat.le_of_ble_eq_true rfl) d_Mo_isD_27 ?_
          refine G_if_eq hC 46 (by have := b2i_rng (decide (33 ≤ (gx xs k) ∧ (gx xs k) ≤ 126)); omega) (by decide) d_Mo_isD_30 (fun c_5 => ?_) (fun c_5 => ?_)
          · have c_5 := b2i_eq0.mp c_5
            have c_5 := of_decide_eq_false c_5
            refine G_iconst (i := 0) hC d_Mo_isD_46 ?_
            exact G_zretP hC hQ d_Mo_isD_47 (b2i_f (by rw [targL] at hf; (repeat' split at hf); all_goals first | (exfalso; omega) | (rw [← hf]; simp; try omega)))
          · have c_5 := b2i_ne0.mp c_5
            have c_5 := of_decide_eq_true c_5
            refine G_iload_n hC 3 rfl rfl d_Mo_isD_33 ?_
            refine G_if_ne hC 48 (by have := b2i_rng sl; omega) (by decide) d_Mo_isD_34 (fun c_6 => ?_) (fun c_6 => ?_)
            · have c_6 := b2i_ne0.mp c_6
              refine G_aload_n hC 0 rfl rfl d_Mo_isD_48 ?_
              refine G_iload hC 4 rfl d_Mo_isD_49 ?_
              refine G_baldR hC h_row_p (by omega) d_Mo_isD_51 ?_
              have g_7 := h_row_p.rng k
              have g_8 := atS_gx (xs := xs) (i := k) (by omega)
              refine G_bipush (j := 37) hC (by decide +kernel) d_Mo_isD_52 ?_
              refine G_icmp_eq hC 60 (by omega) (by decide) (by decide) d_Mo_isD_54 (fun c_9 => ?_) (fun c_9 => ?_)
              · refine G_aload_n hC 0 rfl rfl d_Mo_isD_60 ?_
                refine G_iload hC 4 rfl d_Mo_isD_61 ?_
                refine G_iload_n hC 2 rfl rfl d_Mo_isD_63 ?_
                refine G_pS (rest := []) hC hR (c_Mo_macro h_row_p (by omega) (by omega) rfl) cs_Mo_126 (by decide) (by omega) (by omega) rfl rfl (Nat.le_of_ble_eq_true rfl) d_Mo_isD_64 ?_
                have g_10 := mlenS_rng xs k to
                refine G_istore (lv' := [(5, vI (mlenS xs k to)), (0, .ref p), (1, vI q), (2, vI to), (3, vI (b2i sl)), (4, vI k)]) hC (by rw [hN]; decide) rfl d_Mo_isD_67 ?_
                refine G_iload hC 0 rfl d_Mo_isD_69 ?_
                refine G_if_ne hC 76 (by omega) (by decide) d_Mo_isD_71 (fun c_11 => ?_) (fun c_11 => ?_)
                · refine G_iload hC 5 rfl d_Mo_isD_76 ?_
                  refine G_iload hC 0 rfl d_Mo_isD_78 ?_
                  refine G_iconst (i := 1) hC d_Mo_isD_80 ?_
                  refine G_isub hC d_Mo_isD_81 ?_
                  refine G_iadd hC d_Mo_isD_82 ?_
                  refine G_istore (lv' := [(4, vI (k + ((mlenS xs k to) - 1))), (5, vI (mlenS xs k to)), (0, .ref p), (1, vI q), (2, vI to), (3, vI (b2i sl))]) hC (by rw [hN]; decide) rfl d_Mo_isD_83 ?_
                  refine G_iinc (lv' := [(4, vI ((k + ((mlenS xs k to) - 1)) + 1)), (5, vI (mlenS xs k to)), (0, .ref p), (1, vI q), (2, vI to), (3, vI (b2i sl))]) hC 0 rfl (by rw [hN]; decide) rfl d_Mo_isD_85 ?_
                  refine G_goto hC 10 (by decide) d_Mo_isD_88 ?_
                  refine G_lv [2, 3, 4, 5, 0] rfl ?_
                  exact ih10 ((k + ((mlenS xs k to) - 1)) + 1) (by omega) (by omega) (by rw [targL] at hf; (repeat' split at hf); all_goals first | exact hf | (exfalso; omega) | omega)
                · refine G_iconst (i := 0) hC d_Mo_isD_74 ?_
                  exact G_zretP hC hQ d_Mo_isD_75 (b2i_f (by rw [targL] at hf; (repeat' split at hf); all_goals first | (exfalso; omega) | (rw [← hf]; simp; try omega)))
              · refine G_goto hC 85 (by decide) d_Mo_isD_57 ?_
                refine G_iinc (lv' := [(4, vI (k + 1)), (0, .ref p), (1, vI q), (2, vI to), (3, vI (b2i sl))]) hC 4 rfl (by rw [hN]; decide) rfl d_Mo_isD_85 ?_
                refine G_goto hC 10 (by decide) d_Mo_isD_88 ?_
                refine G_lv [1, 2, 3, 4, 0] rfl ?_
                exact ih10 (k + 1) (by omega) (by omega) (by rw [targL] at hf; (repeat' split at hf); all_goals first | exact hf | (exfalso; omega) | omega)
            · have c_6 := b2i_eq0.mp c_6
              refine G_aload_n hC 0 rfl rfl d_Mo_isD_37 ?_
              refine G_iload hC 4 rfl d_Mo_isD_38 ?_
              refine G_baldR hC h_row_p (by omega) d_Mo_isD_40 ?_
              have g_12 := h_row_p.rng k
              have g_13 := atS_gx (xs := xs) (i := k) (by omega)
              refine G_bipush (j := 47) hC (by decide +kernel) d_Mo_isD_41 ?_
              refine G_icmp_ne hC 48 (by omega) (by decide) (by decide) d_Mo_isD_43 (fun c_14 => ?_) (fun c_14 => ?_)
              · refine G_aload_n hC 0 rfl rfl d_Mo_isD_48 ?_
                refine G_iload hC 4 rfl d_Mo_isD_49 ?_
                refine G_baldR hC h_row_p (by omega) d_Mo_isD_51 ?_
                have g_15 := h_row_p.rng k
                have g_16 := atS_gx (xs := xs) (i := k) (by omega)
                refine G_bipush (j := 37) hC (by decide +kernel) d_Mo_isD_52 ?_
                refine G_icmp_eq hC 60 (by omega) (by decide) (by decide) d_Mo_isD_54 (fun c_17 => ?_) (fun c_17 => ?_)
                · refine G_aload_n hC 0 rfl rfl d_Mo_isD_60 ?_
                  refine G_iload hC 4 rfl d_Mo_isD_61 ?_
                  refine G_iload_n hC 2 rfl rfl d_Mo_isD_63 ?_
                  refine G_pS (rest := []) hC hR (c_Mo_macro h_row_p (by omega) (by omega) rfl) cs_Mo_126 (by decide) (by omega) (by omega) rfl rfl (Nat.le_of_ble_eq_true rfl) d_Mo_isD_64 ?_
                  have g_18 := mlenS_rng xs k to
                  refine G_istore (lv' := [(5, vI (mlenS xs k to)), (0, .ref p), (1, vI q), (2, vI to), (3, vI (b2i sl)), (4, vI k)]) hC (by rw [hN]; decide) rfl d_Mo_isD_67 ?_
                  refine G_iload hC 0 rfl d_Mo_isD_69 ?_
                  refine G_if_ne hC 76 (by omega) (by decide) d_Mo_isD_71 (fun c_19 => ?_) (fun c_19 => ?_)
                  · refine G_iload hC 5 rfl d_Mo_isD_76 ?_
                    refine G_iload hC 0 rfl d_Mo_isD_78 ?_
                    refine G_iconst (i := 1) hC d_Mo_isD_80 ?_
                    refine G_isub hC d_Mo_isD_81 ?_
                    refine G_iadd hC d_Mo_isD_82 ?_
                    refine G_istore (lv' := [(4, vI (k + ((mlenS xs k to) - 1))), (5, vI (mlenS xs k to)), (0, .ref p), (1, vI q), (2, vI to), (3, vI (b2i sl))]) hC (by rw [hN]; decide) rfl d_Mo_isD_83 ?_
                    refine G_iinc (lv' := [(4, vI ((k + ((mlenS xs k to) - 1)) + 1)), (5, vI (mlenS xs k to)), (0, .ref p), (1, vI q), (2, vI to), (3, vI (b2i sl))]) hC 0 rfl (by rw [hN]; decide) rfl d_Mo_isD_85 ?_
                    refine G_goto hC 10 (by decide) d_Mo_isD_88 ?_
                    refine G_lv [2, 3, 4, 5, 0] rfl ?_
                    exact ih10 ((k + ((mlenS xs k to) - 1)) + 1) (by omega) (by omega) (by rw [targL] at hf; (repeat' split at hf); all_goals first | exact hf | (exfalso; omega) | omega)
                  · refine G_iconst (i := 0) hC d_Mo_isD_74 ?_
                    exact G_zretP hC hQ d_Mo_isD_75 (b2i_f (by rw [targL] at hf; (repeat' split at hf); all_goals first | (exfalso; omega) | (rw [← hf]; simp; try omega)))
                · refine G_goto hC 85 (by decide) d_Mo_isD_57 ?_
                  refine G_iinc (lv' := [(4, vI (k + 1)), (0, .ref p), (1, vI q), (2, vI to), (3, vI (b2i sl))]) hC 4 rfl (by rw [hN]; decide) rfl d_Mo_isD_85 ?_
                  refine G_goto hC 10 (by decide) d_Mo_isD_88 ?_
                  refine G_lv [1, 2, 3, 4, 0] rfl ?_
                  exact ih10 (k + 1) (by omega) (by omega) (by rw [targL] at hf; (repeat' split at hf); all_goals first | exact hf | (exfalso; omega) | omega)
              · exact (by rcases hns with z | z; (have z2 := z.symm.trans c_6; cases z2); exact absurd (show atS xs k = 47 by omega) (z k (by omega)))
    refine G_lv [1, 2, 3, 4, 0] rfl ?_
    exact L10 _ q (Nat.lt_succ_self _) (by omega) hr
  · refine G_iconst (i := 0) hC d_Mo_isD_5 ?_
    exact G_zretP hC hQ d_Mo_isD_6 (b2i_f (by rw [← hr, decide_eq_false (show ¬ q < to by omega), Bool.and_false]))

set_option maxHeartbeats 4000000 in
set_option maxRecDepth 100000 in
theorem c_Mo_put {l : Launch} {D : Dg} {b0 : Nat} {M : Mp} {a : Nat} {c : Int} {t : Nat} {len : Nat} {xs : List Int} (h_Tx_a : IsT D M a t len xs) (hc : -2147483648 ≤ c ∧ c ≤ 2147483647) : Ok l D b0 2 y_Mo_put b_Mo_put 2 none M [.ref a, vI c] 0 0 (fun r M' => r = none ∧ IsT D M' a t len (putS len xs c) ∧ Fr [t, t + 1] M M') := by
  refine Ok_of rfl (Nat.le_of_ble_eq_true rfl) (fun E hC hQ hl hD hB hN hR => ?_)
  subst hl hD hB
  have g_4 := h_Tx_a.len
  obtain ⟨r_1, h_2, h_3⟩ := id h_Tx_a
  show G E M 0 0 [(0, .ref a), (1, vI c)] [] 0
  refine G_aload_n hC 0 rfl rfl d_Mo_put_0 ?_
  refine G_get hC fl_Mo_86 h_2 rfl d_Mo_put_1 ?_
  refine G_aload_n hC 0 rfl rfl d_Mo_put_4 ?_
  refine G_get hC fl_Mo_192 h_2 rfl d_Mo_put_5 ?_
  refine G_alenR hC h_3 d_Mo_put_8 ?_
  refine G_icmp_ge hC 17 (by omega) (by omega) (by decide) d_Mo_put_9 (fun c_5 => ?_) (fun c_5 => ?_)
  · exact G_return hC hQ (by omega) (by omega) d_Mo_put_17 ⟨rfl, by unfold putS; rw [if_neg (by omega)]; exact h_Tx_a, Fr.rf⟩
  · refine G_aload_n hC 0 rfl rfl d_Mo_put_12 ?_
    refine G_iload_n hC 1 rfl rfl d_Mo_put_13 ?_
    refine G_xV (rest := []) hC hR (c_Tx_add1 h_Tx_a (by omega) (by omega)) cv_Mo_195 ⟨_, _, h_2⟩ (by decide) (by omega) (by omega) rfl rfl (Nat.le_of_ble_eq_true rfl) d_Mo_put_14 (fun r_8 M_6 p_7 => ?_)
    obtain ⟨rfl, h_9, fr_10⟩ := p_7
    show G E M_6 (0 + 0) (0 + 0) [(0, .ref a), (1, vI c)] [] 17
    exact G_return hC hQ (by omega) (by omega) d_Mo_put_17 ⟨rfl, by unfold putS; rw [if_pos (by omega)]; exact h_9, (fr_10.up (T := [t, t + 1]) (by simp))⟩
