def RefOK (l : Launch) (D : Dg) (b0 : Nat) (es : List Ent) (ls ds : List Int) (fm : Int32) (ft : Nat → Option Nat) (lv : Nat) : Prop := ∀ {M : Mp} {a : Nat} {d : Nat} {dd : Int} {tp : Nat} {tm : Int} {en : Int} {ou : Nat} {sa : Nat} {aa : Nat} {na : Nat} {va : Nat} {lo : Nat} {dm : Nat} {st : Int} {tg : Nat} {cn : Int} {vo : Int} {pc : Nat} {k0 : Int} {s0 : Int} {f0 : Int} {o0 : Int} {n0 : Int} {w0 : Int32} {ps : List Int} {td : Nat} {ld : Nat} {X : List Int} {R : Rs}, (M a = some (500, .inr (cMo, [.ref tp, vI tm, vI en, .ref ou, .ref sa, .ref aa, .ref na, .ref va, .ref lo, .ref dm, .int fm, vI st, .ref tg, vI cn, vI vo, .ref pc, vI k0, vI s0, vI f0, vI o0, vI n0, .int w0]))) → (IsMd D M sa aa na va es) → (IsT D M lo 508 30 ls) → (IsT D M dm 510 60 ds) → (IsT D M pc 513 100 ps) → (M tg = some (512, arR D 4 13 ft)) → (TgA D M ft lv) → (IsT D M d td ld X) → (en = (es.length : Int)) → (sndP (ls, ds, fm)) → (dd = (lv : Int) ∧ lv < 11) → (okC cn vo) → ((lv : Int) ≤ cn) → (X.length ≤ 61) → ((td = 510 ∨ 520 ≤ td) ∧ td + 1 < 520 + 2 * lv) → (chkS es (ls, ds, fm) (11 - lv) X cn vo = R) → Ok l D b0 (12 + 4 * (11 - lv)) y_Mo_check b_Mo_check 10 (some .int) M [.ref a, .ref d, vI dd] 0 0 (fun r M' => ∃ k9 : Int, ∃ s9 : Int, ∃ f9 : Int, ∃ o9 : Int, ∃ n9 : Int, ∃ w9 : Int32, ∃ ps9 : List Int, r = some (vI R.1) ∧ M' a = some (500, .inr (cMo, [.ref tp, vI tm, vI en, .ref ou, .ref sa, .ref aa, .ref na, .ref va, .ref lo, .ref dm, .int fm, vI st, .ref tg, vI R.2.1, vI R.2.2, .ref pc, vI k9, vI s9, vI f9, vI o9, vI n9, .int w9])) ∧ IsT D M' pc 513 100 ps9 ∧ TgA D M' ft lv ∧ Fr ([500, 513, 514] ++ tgT lv) M M')

set_option maxHeartbeats 4000000 in
set_option maxRecDepth 100000 in
theorem c_Mo_matches {l : Launch} {D : Dg} {b0 : Nat} {M : Mp} {a : Nat} {v : Nat} {d : Nat} {dd : Int} {tp : Nat} {tm : Int} {en : Int} {ou : Nat} {sa : Nat} {aa : Nat} {na : Nat} {va : Nat} {lo : Nat} {dm : Nat} {fm : Int32} {st : Int} {tg : Nat} {cn : Int} {vo : Int} {pc : Nat} {k0 : Int} {s0 : Int} {f0 : Int} {o0 : Int} {n0 : Int} {w0 : Int32} {es : List Ent} {ls : List Int} {ds : List Int} {ps : List Int} {ft : Nat → Option Nat} {lv : Nat} {td : Nat} {ld : Nat} {X : List Int} {tv : Nat} {txt : List Int} {R : Rs} {te : Tm} {start : Int} (h_obj_a : M a = some (500, .inr (cMo, [.ref tp, vI tm, vI en, .ref ou, .ref sa, .ref aa, .ref na, .ref va, .ref lo, .ref dm, .int fm, vI st, .ref tg, vI cn, vI vo, .ref pc, vI k0, vI s0, vI f0, vI o0, vI n0, .int w0]))) (h_Md_sa : IsMd D M sa aa na va es) (h_Tx_lo : IsT D M lo 508 30 ls) (h_Tx_dm : IsT D M dm 510 60 ds) (h_Tx_pc : IsT D M pc 513 100 ps) (h_arR_tg : M tg = some (512, arR D 4 13 ft)) (h_TgA_ft : TgA D M ft lv) (h_Tx_d : IsT D M d td ld X) (h_Tx_v : IsT D M v tv 700 txt) (IH : lv < 10 → RefOK l D b0 es ls ds fm ft (lv + 1)) (hen : en = (es.length : Int)) (hsn : sndP (ls, ds, fm)) (hdd : dd = (lv : Int) ∧ lv < 11) (hok : okC cn vo) (hlc : (lv : Int) ≤ cn) (hX : X.length ≤ 61) (htd : (td = 510 ∨ 520 ≤ td) ∧ td + 1 < 520 + 2 * lv) (htv : 600 ≤ tv) (hfl : refQ (some te) k0 n0 w0 f0 o0) (htp : tmP txt start te) (hst : 0 ≤ start) (hk6 : te.1 < 6) (hr : matS (chkS es (ls, ds, fm) (11 - (lv + 1))) (decide (0 < 11 - (lv + 1))) es (ls, ds, fm) X txt te cn vo = R) : Ok l D b0 (10 + 4 * (11 - lv)) y_Mo_matches b_Mo_matches 10 (some .int) M [.ref a, .ref v, .ref d, vI dd] 0 0 (fun r M' => ∃ k9 : Int, ∃ s9 : Int, ∃ f9 : Int, ∃ o9 : Int, ∃ n9 : Int, ∃ w9 : Int32, ∃ ps9 : List Int, r = some (vI (excM R.1)) ∧ M' a = some (500, .inr (cMo, [.ref tp, vI tm, vI en, .ref ou, .ref sa, .ref aa, .ref na, .ref va, .ref lo, .ref dm, .int fm, vI st, .ref tg, vI R.2.1, vI R.2.2, .ref pc, vI k9, vI s9, vI f9, vI o9, vI n9, .int w9])) ∧ IsT D M' pc 513 100 ps9 ∧ TgA D M' ft lv ∧ Fr ([500, 513, 514] ++ tgT lv) M M') := by
  refine Ok_of rfl (Nat.le_of_ble_eq_true rfl) (fun E hC hQ hl hD hB hN hR => ?_)
  subst hl hD hB
  have hD9 := h_Md_sa.len
  have hV9 := h_Tx_v.len
  obtain ⟨g_8, ga_9, fn_10, fv_11, h_1, h_2, h_3, h_4, h_5, h_6, h_7⟩ := id h_Md_sa
  obtain ⟨hf1, hf2, hf3, hf4, hf5⟩ := hfl.2 te rfl
  obtain ⟨hp1, hp2, -, -⟩ := id htp
  show G E M 0 0 [(0, .ref a), (1, .ref v), (2, .ref d), (3, vI dd)] [] 0
  refine G_aload_n hC 0 rfl rfl d_Mo_matches_0 ?_
  refine G_get hC fl_Mo_138 h_obj_a rfl d_Mo_matches_1 ?_
  refine G_if_ne hC 9 (by omega) (by decide) d_Mo_matches_4 (fun c_12 => ?_) (fun c_12 => ?_)
  · refine G_aload_n hC 0 rfl rfl d_Mo_matches_9 ?_
    refine G_get hC fl_Mo_138 h_obj_a rfl d_Mo_matches_10 ?_
    refine G_iconst (i := 4) hC d_Mo_matches_13 ?_
    refine G_icmp_ne hC 38 (by omega) (by decide) (by decide) d_Mo_matches_14 (fun c_13 => ?_) (fun c_13 => ?_)
    · have hkd : te.1 = 1 ∨ te.1 = 2 ∨ te.1 = 3 ∨ te.1 = 5 := by omega
      refine G_aload_n hC 0 rfl rfl d_Mo_matches_38 ?_
      refine G_get hC fl_Mo_138 h_obj_a rfl d_Mo_matches_39 ?_
      refine G_istore (lv' := [(4, vI k0), (0, .ref a), (1, .ref v), (2, .ref d), (3, vI dd)]) hC (by rw [hN]; decide) rfl d_Mo_matches_42 ?_
      refine G_aload_n hC 1 rfl rfl d_Mo_matches_44 ?_
      refine G_get hC fl_Mo_147 h_obj_a rfl d_Mo_matches_45 ?_
      refine G_istore (lv' := [(5, vI n0), (4, vI k0), (0, .ref a), (1, .ref v), (2, .ref d), (3, vI dd)]) hC (by rw [hN]; decide) rfl d_Mo_matches_48 ?_
      refine G_aload_n hC 2 rfl rfl d_Mo_matches_50 ?_
      refine G_dup hC rfl d_Mo_matches_51 ?_
      refine G_get hC fl_Mo_112 h_obj_a rfl d_Mo_matches_52 ?_
      refine G_iconst (i := 1) hC d_Mo_matches_55 ?_
      refine G_iadd hC d_Mo_matches_56 ?_
      refine G_putX (fs' := [.ref tp, vI tm, vI en, .ref ou, .ref sa, .ref aa, .ref na, .ref va, .ref lo, .ref dm, .int fm, vI st, .ref tg, vI (cn + 1), vI vo, .ref pc, vI k0, vI s0, vI f0, vI o0, vI n0, .int w0]) hC fl_Mo_112 ft_Mo fw_Mo_13 h_obj_a rfl rfl (Nat.le_of_ble_eq_true rfl) rfl d_Mo_matches_57 (fun M_14 h_15 fr_16 => ?_)
      refine G_aload_n hC 2 rfl rfl d_Mo_matches_60 ?_
      refine G_get hC fl_Mo_112 h_15 rfl d_Mo_matches_61 ?_
      refine G_bipush (j := 10) hC (by decide +kernel) d_Mo_matches_64 ?_
      refine G_icmp_le hC 72 (by omega) (by decide) (by decide) d_Mo_matches_66 (fun c_17 => ?_) (fun c_17 => ?_)
      · have h_18 := h_TgA_ft.fr fr_16 (by intro u hu; simp only [List.mem_cons, List.not_mem_nil, or_false] at hu <;> omega)
        obtain ⟨T0, xs0, hT0, hT1⟩ := id (h_18 lv (Nat.le_refl _) (by omega))
        have h_19 := TgA_up h_18 (show lv ≤ lv + 1 by omega)
        have hrr := (rq_some hfl htp hst (by omega)).2.2
        refine G_aload_n hC 2 rfl rfl d_Mo_matches_72 ?_
        refine G_get hC fl_Mo_56 h_15 rfl d_Mo_matches_73 ?_
        refine G_iload_n hC 5 rfl rfl d_Mo_matches_76 ?_
        have h_20 := fr_16.at h_arR_tg (by decide)
        refine G_aald hC h_20 rfl (by omega) (by omega) (by rw [show (dd : Int).toNat = lv by omega, hT0]) d_Mo_matches_77 ?_
        refine G_astore (lv' := [(6, .ref T0), (5, vI n0), (4, vI k0), (0, .ref a), (1, .ref v), (2, .ref d), (3, vI dd)]) hC (by rw [hN]; decide) rfl d_Mo_matches_78 ?_
        have J123 : ∀ (M123 : Mp) (xT : List Int) (psT : List Int), (Fr [513, 514, 520 + 2 * lv, 520 + 2 * lv + 1] M_14 M123) → (IsT (eD E) M123 T0 (520 + 2 * lv) 61 xT) → (IsT (eD E) M123 pc 513 100 psT) → (xT = tgQ (ls, ds, fm) X txt te) → G E M123 0 0 [(0, .ref a), (1, .ref v), (2, .ref d), (3, vI dd), (4, vI k0), (5, vI n0), (6, .ref T0)] [] 123 := by
          intro M123 xT psT hfr123 hxT1 hxT2 hxT
          have hxl := hxT1.len
          have h10 : ¬ 10 < cn + 1 := by omega
          refine G_iload hC 4 rfl d_Mo_matches_123 ?_
          refine G_iconst (i := 1) hC d_Mo_matches_125 ?_
          refine G_icmp_ne hC 179 (by omega) (by decide) (by decide) d_Mo_matches_126 (fun c_21 => ?_) (fun c_21 => ?_)
          · rcases (show te.1 = 2 ∨ te.1 = 3 ∨ te.1 = 5 by omega) with hkk | hkk | hkk
            · rw [mat_l (by omega), look_a hxT hkk h10] at hr
              try dsimp only at hr
              have hn1 : n0 = te.2.1 := hf2 (by omega)
              refine G_aload_n hC 0 rfl rfl d_Mo_matches_179 ?_
              refine G_aload hC 6 rfl d_Mo_matches_180 ?_
              have h_22 := hfr123.at h_15 (by simp only [List.mem_cons, List.not_mem_nil, or_false, not_or, not_false_eq_true]; try omega)
              have h_23 := h_Md_sa.fr fr_16 (by intro u hu; simp only [List.mem_cons, List.not_mem_nil, or_false] at hu <;> omega)
              have h_24 := h_23.fr hfr123 (by intro u hu; simp only [List.mem_cons, List.not_mem_nil, or_false] at hu <;> omega)
              refine G_pV (rest := []) hC hR (c_Mo_isTrouble h_22 h_24 hxT1 (by omega) rfl) cv_Mo_208 ⟨_, _, h_22⟩ (by omega) (by omega) (by omega) rfl rfl (Nat.le_of_ble_eq_true rfl) d_Mo_matches_182 ?_
              refine G_if_eq hC 190 (by have := b2i_rng (hasD es 3 xT); omega) (by decide) d_Mo_matches_185 (fun c_25 => ?_) (fun c_25 => ?_)
              · have c_25 := b2i_eq0.mp c_25
                rw [if_neg (nt c_25)] at hr
                refine G_iconst (i := 0) hC d_Mo_matches_190 ?_
                refine G_istore (lv' := [(7, vI 0), (0, .ref a), (1, .ref v), (2, .ref d), (3, vI dd), (4, vI k0), (5, vI n0), (6, .ref T0)]) hC (by rw [hN]; decide) rfl d_Mo_matches_191 ?_
                refine G_iconst (i := 0) hC d_Mo_matches_193 ?_
                refine G_istore (lv' := [(8, vI 0), (7, vI 0), (0, .ref a), (1, .ref v), (2, .ref d), (3, vI dd), (4, vI k0), (5, vI n0), (6, .ref T0)]) hC (by rw [hN]; decide) rfl d_Mo_matches_194 ?_
                refine G_iconst (i := 0) hC d_Mo_matches_196 ?_
                refine G_istore (lv' := [(9, vI 0), (8, vI 0), (7, vI 0), (0, .ref a), (1, .ref v), (2, .ref d), (3, vI dd), (4, vI k0), (5, vI n0), (6, .ref T0)]) hC (by rw [hN]; decide) rfl d_Mo_matches_197 ?_
                have L199 : ∀ (N : Nat) (found : Int) (yes : Int) (k : Int), ((es.length : Int) - k).toNat < N → (0 ≤ k ∧ k ≤ es.length ∧ 0 ≤ found ∧ found ≤ k ∧ (yes = 0 ∨ yes = 1) ∧ (found = 0 → yes = 0)) → ((decide (0 < found) || (es.drop k.toNat).any (isD 1 xT)) = hasD es 1 xT) → ((decide (yes = 1) || (es.drop k.toNat).any (reaP xT fm n0)) = reaD es xT fm n0) → G E M123 0 0 [(0, .ref a), (1, .ref v), (2, .ref d), (3, vI dd), (4, vI k0), (5, vI n0), (6, .ref T0), (7, vI found), (8, vI yes), (9, vI k)] [] 199 := by
                  intro N
                  induction N with
                  | zero => intro found yes k hN199 hk hA hB; exact absurd hN199 (Nat.not_lt_zero _)
                  | succ N ih199 =>
                    intro found yes k hN199 hk hA hB
                    refine G_iload hC 9 rfl d_Mo_matches_199 ?_
                    refine G_aload_n hC 0 rfl rfl d_Mo_matches_201 ?_
                    refine G_get hC fl_Mo_73 h_22 rfl d_Mo_matches_202 ?_
                    refine G_icmp_ge hC 273 (by omega) (by omega) (by decide) d_Mo_matches_205 (fun c_26 => ?_) (fun c_26 => ?_)
                    · rw [List.drop_eq_nil_of_le (by omega), List.any_nil, Bool.or_false] at hA
                      rw [List.drop_eq_nil_of_le (by omega), List.any_nil, Bool.or_false] at hB
                      refine G_iload hC 7 rfl d_Mo_matches_273 ?_
                      refine G_if_ne hC 299 (by omega) (by decide) d_Mo_matches_275 (fun c_27 => ?_) (fun c_27 => ?_)
                      · have hF := hA.symm.trans (decide_eq_true (by omega))
                        rw [if_neg (by rw [hF]; decide)] at hr
                        refine G_iload hC 4 rfl d_Mo_matches_299 ?_
                        refine G_iconst (i := 3) hC d_Mo_matches_301 ?_
                        refine G_icmp_ne hC 316 (by omega) (by decide) (by decide) d_Mo_matches_302 (fun c_28 => ?_) (fun c_28 => ?_)
                        · refine G_iload hC 8 rfl d_Mo_matches_316 ?_
                          rw [← hn1, ← hB] at hr
                          have hyv : yes = excM (if decide (yes = 1) = true then -2 else -1) := by rcases (show yes = 0 ∨ yes = 1 by omega) with z | z <;> rw [z] <;> rfl
                          have hres : yes = excM R.1 := (by rw [← hr]; exact hyv)
                          have hc2 : R.2 = (cn + 1, vo) := by rw [← hr]
                          have h_29 : M123 a = some (500, .inr (cMo, [.ref tp, vI tm, vI en, .ref ou, .ref sa, .ref aa, .ref na, .ref va, .ref lo, .ref dm, .int fm, vI st, .ref tg, vI R.2.1, vI R.2.2, .ref pc, vI k0, vI s0, vI f0, vI o0, vI n0, .int w0])) := by rw [hc2]; exact h_22
                          have h_30 := h_19.fr hfr123 (by intro u hu; simp only [List.mem_cons, List.not_mem_nil, or_false] at hu <;> omega)
                          exact G_iretX hC hQ (by omega) (by omega) d_Mo_matches_318 ⟨_, _, _, _, _, _, _, by rw [hres], h_29, hxT2, (TgA_cons hT0 hxT1 h_30), ((fr_16.up (T := ([500, 513, 514] ++ tgT lv)) (by intro u hu; simp only [List.mem_append, mem_tgT, List.mem_range, List.mem_cons, List.not_mem_nil, or_false, false_or] at hu ⊢ <;> omega)).tr' (T := ([500, 513, 514] ++ tgT lv)) hfr123 (fun _ z => z) (by intro u hu; simp only [List.mem_append, mem_tgT, List.mem_range, List.mem_cons, List.not_mem_nil, or_false, false_or] at hu ⊢ <;> omega))⟩
                        · exact (show False from by omega).elim
                      · have hF := hA.symm.trans (decide_eq_false (by omega))
                        rw [if_pos hF] at hr
                        refine G_aload_n hC 0 rfl rfl d_Mo_matches_278 ?_
                        refine G_dup hC rfl d_Mo_matches_279 ?_
                        refine G_get hC fl_Mo_115 h_22 rfl d_Mo_matches_280 ?_
                        refine G_iconst (i := 1) hC d_Mo_matches_283 ?_
                        refine G_iadd hC d_Mo_matches_284 ?_
                        refine G_putX (fs' := [.ref tp, vI tm, vI en, .ref ou, .ref sa, .ref aa, .ref na, .ref va, .ref lo, .ref dm, .int fm, vI st, .ref tg, vI (cn + 1), vI (vo + 1), .ref pc, vI k0, vI s0, vI f0, vI o0, vI n0, .int w0]) hC fl_Mo_115 ft_Mo fw_Mo_14 h_22 rfl rfl (Nat.le_of_ble_eq_true rfl) rfl d_Mo_matches_285 (fun M_31 h_32 fr_33 => ?_)
                        refine G_aload_n hC 0 rfl rfl d_Mo_matches_288 ?_
                        refine G_get hC fl_Mo_115 h_32 rfl d_Mo_matches_289 ?_
                        refine G_iconst (i := 2) hC d_Mo_matches_292 ?_
                        refine G_icmp_le hC 299 (by omega) (by decide) (by decide) d_Mo_matches_293 (fun c_34 => ?_) (fun c_34 => ?_)
                        · rw [if_neg (show ¬ 2 < vo + 1 by omega)] at hr
                          refine G_iload hC 4 rfl d_Mo_matches_299 ?_
                          refine G_iconst (i := 3) hC d_Mo_matches_301 ?_
                          refine G_icmp_ne hC 316 (by omega) (by decide) (by decide) d_Mo_matches_302 (fun c_35 => ?_) (fun c_35 => ?_)
                          · refine G_iload hC 8 rfl d_Mo_matches_316 ?_
                            have hres : yes = excM R.1 := (by rw [← hr, show yes = 0 by omega]; rfl)
                            have hc2 : R.2 = (cn + 1, vo + 1) := by rw [← hr]
                            have h_36 : M_31 a = some (500, .inr (cMo, [.ref tp, vI tm, vI en, .ref ou, .ref sa, .ref aa, .ref na, .ref va, .ref lo, .ref dm, .int fm, vI st, .ref tg, vI R.2.1, vI R.2.2, .ref pc, vI k0, vI s0, vI f0, vI o0, vI n0, .int w0])) := by rw [hc2]; exact h_32
                            have h_37 := hxT2.fr fr_33 (by decide) (by decide)
                            have h_38 := h_19.fr hfr123 (by intro u hu; simp only [List.mem_cons, List.not_mem_nil, or_false] at hu <;> omega)
                            have h_39 := h_38.fr fr_33 (by intro u hu; simp only [List.mem_cons, List.not_mem_nil, or_false] at hu <;> omega)
                            have h_40 := hxT1.fr fr_33 (by simp only [List.mem_cons, List.not_mem_nil, or_false, not_or, not_false_eq_true]; try omega) (by simp only [List.mem_cons, List.not_mem_nil, or_false, not_or, not_false_eq_true]; try omega)
                            exact G_iretX hC hQ (by omega) (by omega) d_Mo_matches_318 ⟨_, _, _, _, _, _, _, by rw [hres], h_36, h_37, (TgA_cons hT0 h_40 h_39), (((fr_16.up (T := ([500, 513, 514] ++ tgT lv)) (by intro u hu; simp only [List.mem_append, mem_tgT, List.mem_range, List.mem_cons, List.not_mem_nil, or_false, false_or] at hu ⊢ <;> omega)).tr' (T := ([500, 513, 514] ++ tgT lv)) hfr123 (fun _ z => z) (by intro u hu; simp only [List.mem_append, mem_tgT, List.mem_range, List.mem_cons, List.not_mem_nil, or_false, false_or] at hu ⊢ <;> omega)).tr' (T := ([500, 513, 514] ++ tgT lv)) fr_33 (fun _ z => z) (by intro u hu; simp only [List.mem_append, mem_tgT, List.mem_range, List.mem_cons, List.not_mem_nil, or_false, false_or] at hu ⊢ <;> omega))⟩
                          · exact (show False from by omega).elim
                        · refine G_bipush (j := 6) hC (by decide +kernel) d_Mo_matches_296 ?_
                          rw [if_pos (show 2 < vo + 1 by omega)] at hr
                          have hres : 6 = excM R.1 := (by rw [← hr]; rfl)
                          have hc2 : R.2 = (cn + 1, vo + 1) := by rw [← hr]
                          have h_41 : M_31 a = some (500, .inr (cMo, [.ref tp, vI tm, vI en, .ref ou, .ref sa, .ref aa, .ref na, .ref va, .ref lo, .ref dm, .int fm, vI st, .ref tg, vI R.2.1, vI R.2.2, .ref pc, vI k0, vI s0, vI f0, vI o0, vI n0, .int w0])) := by rw [hc2]; exact h_32
                          have h_42 := hxT2.fr fr_33 (by decide) (by decide)
                          have h_43 := h_19.fr hfr123 (by intro u hu; simp only [List.mem_cons, List.not_mem_nil, or_false] at hu <;> omega)
                          have h_44 := h_43.fr fr_33 (by intro u hu; simp only [List.mem_cons, List.not_mem_nil, or_false] at hu <;> omega)
                          have h_45 := hxT1.fr fr_33 (by simp only [List.mem_cons, List.not_mem_nil, or_false, not_or, not_false_eq_true]; try omega) (by simp only [List.mem_cons, List.not_mem_nil, or_false, not_or, not_false_eq_true]; try omega)
                          exact G_iretX hC hQ (by omega) (by omega) d_Mo_matches_298 ⟨_, _, _, _, _, _, _, by rw [hres], h_41, h_42, (TgA_cons hT0 h_45 h_44), (((fr_16.up (T := ([500, 513, 514] ++ tgT lv)) (by intro u hu; simp only [List.mem_append, mem_tgT, List.mem_range, List.mem_cons, List.not_mem_nil, or_false, false_or] at hu ⊢ <;> omega)).tr' (T := ([500, 513, 514] ++ tgT lv)) hfr123 (fun _ z => z) (by intro u hu; simp only [List.mem_append, mem_tgT, List.mem_range, List.mem_cons, List.not_mem_nil, or_false, false_or] at hu ⊢ <;> omega)).tr' (T := ([500, 513, 514] ++ tgT lv)) fr_33 (fun _ z => z) (by intro u hu; simp only [List.mem_append, mem_tgT, List.mem_range, List.mem_cons, List.not_mem_nil, or_false, false_or] at hu ⊢ <;> omega))⟩
                    · obtain ⟨x, hx1, hx2⟩ := get_of (es := es) (k := k) (by omega)
                      have hy6 := h_6 _ x hx1
                      refine G_aload_n hC 0 rfl rfl d_Mo_matches_208 ?_
                      refine G_iload hC 9 rfl d_Mo_matches_209 ?_
                      refine G_iload hC 4 rfl d_Mo_matches_211 ?_
                      refine G_iconst (i := 3) hC d_Mo_matches_213 ?_
                      refine G_icmp_ne hC 221 (by omega) (by decide) (by decide) d_Mo_matches_214 (fun c_46 => ?_) (fun c_46 => ?_)
                      · refine G_iconst (i := 1) hC d_Mo_matches_221 ?_
                        refine G_aload hC 6 rfl d_Mo_matches_222 ?_
                        refine G_pV (rest := []) hC hR (c_Mo_isOf h_22 h_24 hxT1 (by omega) (by omega) hx2) cv_Mo_92 ⟨_, _, h_22⟩ (by omega) (by omega) (by omega) rfl rfl (Nat.le_of_ble_eq_true rfl) d_Mo_matches_224 ?_
                        refine G_if_ne hC 233 (by have := b2i_rng (isD 1 xT x); omega) (by decide) d_Mo_matches_227 (fun c_47 => ?_) (fun c_47 => ?_)
                        · have c_47 := b2i_ne0.mp c_47
                          refine G_iinc (lv' := [(7, vI (found + 1)), (0, .ref a), (1, .ref v), (2, .ref d), (3, vI dd), (4, vI k0), (5, vI n0), (6, .ref T0), (8, vI yes), (9, vI k)]) hC 7 rfl (by rw [hN]; decide) rfl d_Mo_matches_233 ?_
                          refine G_iload hC 5 rfl d_Mo_matches_236 ?_
                          refine G_iconst (i := 3) hC d_Mo_matches_238 ?_
                          refine G_icmp_eq hC 267 (by omega) (by decide) (by decide) d_Mo_matches_239 (fun c_48 => ?_) (fun c_48 => ?_)
                          · exact (show False from by omega).elim
                          · refine G_iload hC 5 rfl d_Mo_matches_242 ?_
                            refine G_iconst (i := 5) hC d_Mo_matches_244 ?_
                            refine G_icmp_eq hC 264 (by omega) (by decide) (by decide) d_Mo_matches_245 (fun c_49 => ?_) (fun c_49 => ?_)
                            · exact (show False from by omega).elim
                            · refine G_aload_n hC 1 rfl rfl d_Mo_matches_248 ?_
                              refine G_aload_n hC 1 rfl rfl d_Mo_matches_249 ?_
                              refine G_get hC fl_Mo_40 h_22 rfl d_Mo_matches_250 ?_
                              refine G_iload hC 9 rfl d_Mo_matches_253 ?_
                              have h_50 := fr_16.at h_2 (by decide)
                              have h_51 := hfr123.at h_50 (by simp only [List.mem_cons, List.not_mem_nil, or_false, not_or, not_false_eq_true]; try omega)
                              refine G_iald hC h_51 (by omega) (by omega) d_Mo_matches_255 ?_
                              refine G_iload hC 6 rfl d_Mo_matches_256 ?_
                              refine G_pV (rest := []) hC hR (c_Mo_isSender h_22 (by omega)) cv_Mo_231 ⟨_, _, h_22⟩ (by omega) (by omega) (by omega) rfl rfl (Nat.le_of_ble_eq_true rfl) d_Mo_matches_258 ?_
                              refine G_if_eq hC 267 (by have := b2i_rng (sbS (zI (ga_9 (k : Int).toNat)) fm n0); omega) (by decide) d_Mo_matches_261 (fun c_52 => ?_) (fun c_52 => ?_)
                              · have c_52 := b2i_eq0.mp c_52
                                refine G_iinc (lv' := [(9, vI (k + 1)), (7, vI (found + 1)), (0, .ref a), (1, .ref v), (2, .ref d), (3, vI dd), (4, vI k0), (5, vI n0), (6, .ref T0), (8, vI yes)]) hC 9 rfl (by rw [hN]; decide) rfl d_Mo_matches_267 ?_
                                refine G_goto hC 199 (by decide) d_Mo_matches_270 ?_
                                refine G_lv [2, 3, 4, 5, 6, 7, 8, 1, 9, 0] rfl ?_
                                exact ih199 (found + 1) yes (k + 1) (by omega) (by omega) (by have z := any_step hx2 hA; rw [c_47, Bool.or_true, Bool.true_or] at z; rw [decide_eq_true (show 0 < found + 1 by omega), Bool.true_or]; exact z) (by rw [hy6.2.1] at c_52; have z := any_step hx2 hB; rw [rea_step, c_47, c_52, Bool.and_false, Bool.or_false] at z; exact z)
                              · have c_52 := b2i_ne0.mp c_52
                                refine G_iconst (i := 1) hC d_Mo_matches_264 ?_
                                refine G_istore (lv' := [(8, vI 1), (7, vI (found + 1)), (0, .ref a), (1, .ref v), (2, .ref d), (3, vI dd), (4, vI k0), (5, vI n0), (6, .ref T0), (9, vI k)]) hC (by rw [hN]; decide) rfl d_Mo_matches_265 ?_
                                refine G_iinc (lv' := [(9, vI (k + 1)), (8, vI 1), (7, vI (found + 1)), (0, .ref a), (1, .ref v), (2, .ref d), (3, vI dd), (4, vI k0), (5, vI n0), (6, .ref T0)]) hC 9 rfl (by rw [hN]; decide) rfl d_Mo_matches_267 ?_
                                refine G_goto hC 199 (by decide) d_Mo_matches_270 ?_
                                refine G_lv [3, 4, 5, 6, 7, 8, 9, 2, 1, 0] rfl ?_
                                exact ih199 (found + 1) 1 (k + 1) (by omega) (by omega) (by have z := any_step hx2 hA; rw [c_47, Bool.or_true, Bool.true_or] at z; rw [decide_eq_true (show 0 < found + 1 by omega), Bool.true_or]; exact z) (by rw [hy6.2.1] at c_52; have z := any_step hx2 hB; rw [rea_step, c_47, c_52, Bool.and_true, Bool.or_true, Bool.true_or] at z; rw [decide_eq_true (show (1 : Int) = 1 from rfl), Bool.true_or]; exact z)
                        · have c_47 := b2i_eq0.mp c_47
                          refine G_goto hC 267 (by decide) d_Mo_matches_230 ?_
                          refine G_iinc (lv' := [(9, vI (k + 1)), (0, .ref a), (1, .ref v), (2, .ref d), (3, vI dd), (4, vI k0), (5, vI n0), (6, .ref T0), (7, vI found), (8, vI yes)]) hC 9 rfl (by rw [hN]; decide) rfl d_Mo_matches_267 ?_
                          refine G_goto hC 199 (by decide) d_Mo_matches_270 ?_
                          refine G_lv [1, 2, 3, 4, 5, 6, 7, 8, 9, 0] rfl ?_
                          exact ih199 found yes (k + 1) (by omega) (by omega) (by have z := any_step hx2 hA; rw [c_47, Bool.or_false] at z; exact z) (by have z := any_step hx2 hB; rw [rea_step, c_47, Bool.false_and, Bool.or_false] at z; exact z)
                      · exact (show False from by omega).elim
                refine G_lv [3, 4, 5, 6, 7, 8, 9, 2, 1, 0] rfl ?_
                exact L199 _ 0 0 0 (Nat.lt_succ_self _) (by omega) rfl rfl
              · have c_25 := b2i_ne0.mp c_25
                refine G_iconst (i := 5) hC d_Mo_matches_188 ?_
                rw [if_pos c_25] at hr
                have hres : 5 = excM R.1 := (by rw [← hr]; rfl)
                have hc2 : R.2 = (cn + 1, vo) := by rw [← hr]
                have h_53 : M123 a = some (500, .inr (cMo, [.ref tp, vI tm, vI en, .ref ou, .ref sa, .ref aa, .ref na, .ref va, .ref lo, .ref dm, .int fm, vI st, .ref tg, vI R.2.1, vI R.2.2, .ref pc, vI k0, vI s0, vI f0, vI o0, vI n0, .int w0])) := by rw [hc2]; exact h_22
                have h_54 := h_19.fr hfr123 (by intro u hu; simp only [List.mem_cons, List.not_mem_nil, or_false] at hu <;> omega)
                exact G_iretX hC hQ (by omega) (by omega) d_Mo_matches_189 ⟨_, _, _, _, _, _, _, by rw [hres], h_53, hxT2, (TgA_cons hT0 hxT1 h_54), ((fr_16.up (T := ([500, 513, 514] ++ tgT lv)) (by intro u hu; simp only [List.mem_append, mem_tgT, List.mem_range, List.mem_cons, List.not_mem_nil, or_false, false_or] at hu ⊢ <;> omega)).tr' (T := ([500, 513, 514] ++ tgT lv)) hfr123 (fun _ z => z) (by intro u hu; simp only [List.mem_append, mem_tgT, List.mem_range, List.mem_cons, List.not_mem_nil, or_false, false_or] at hu ⊢ <;> omega))⟩
            · rw [mat_l (by omega), look_x hxT hkk h10] at hr
              try dsimp only at hr
              have hn1 : n0 = te.2.1 := hf2 (by omega)
              refine G_aload_n hC 0 rfl rfl d_Mo_matches_179 ?_
              refine G_aload hC 6 rfl d_Mo_matches_180 ?_
              have h_55 := hfr123.at h_15 (by simp only [List.mem_cons, List.not_mem_nil, or_false, not_or, not_false_eq_true]; try omega)
              have h_56 := h_Md_sa.fr fr_16 (by intro u hu; simp only [List.mem_cons, List.not_mem_nil, or_false] at hu <;> omega)
              have h_57 := h_56.fr hfr123 (by intro u hu; simp only [List.mem_cons, List.not_mem_nil, or_false] at hu <;> omega)
              refine G_pV (rest := []) hC hR (c_Mo_isTrouble h_55 h_57 hxT1 (by omega) rfl) cv_Mo_208 ⟨_, _, h_55⟩ (by omega) (by omega) (by omega) rfl rfl (Nat.le_of_ble_eq_true rfl) d_Mo_matches_182 ?_
              refine G_if_eq hC 190 (by have := b2i_rng (hasD es 3 xT); omega) (by decide) d_Mo_matches_185 (fun c_58 => ?_) (fun c_58 => ?_)
              · have c_58 := b2i_eq0.mp c_58
                rw [if_neg (nt c_58)] at hr
                refine G_iconst (i := 0) hC d_Mo_matches_190 ?_
                refine G_istore (lv' := [(7, vI 0), (0, .ref a), (1, .ref v), (2, .ref d), (3, vI dd), (4, vI k0), (5, vI n0), (6, .ref T0)]) hC (by rw [hN]; decide) rfl d_Mo_matches_191 ?_
                refine G_iconst (i := 0) hC d_Mo_matches_193 ?_
                refine G_istore (lv' := [(8, vI 0), (7, vI 0), (0, .ref a), (1, .ref v), (2, .ref d), (3, vI dd), (4, vI k0), (5, vI n0), (6, .ref T0)]) hC (by rw [hN]; decide) rfl d_Mo_matches_194 ?_
                refine G_iconst (i := 0) hC d_Mo_matches_196 ?_
                refine G_istore (lv' := [(9, vI 0), (8, vI 0), (7, vI 0), (0, .ref a), (1, .ref v), (2, .ref d), (3, vI dd), (4, vI k0), (5, vI n0), (6, .ref T0)]) hC (by rw [hN]; decide) rfl d_Mo_matches_197 ?_
                have L199 : ∀ (N : Nat) (found : Int) (yes : Int) (k : Int), ((es.length : Int) - k).toNat < N → (0 ≤ k ∧ k ≤ es.length ∧ 0 ≤ found ∧ found ≤ k ∧ (yes = 0 ∨ yes = 1) ∧ (found = 0 → yes = 0) ∧ yes = 0) → ((decide (0 < found) || (es.drop k.toNat).any (isD 2 xT)) = hasD es 2 xT) → G E M123 0 0 [(0, .ref a), (1, .ref v), (2, .ref d), (3, vI dd), (4, vI k0), (5, vI n0), (6, .ref T0), (7, vI found), (8, vI yes), (9, vI k)] [] 199 := by
                  intro N
                  induction N with
                  | zero => intro found yes k hN199 hk hA; exact absurd hN199 (Nat.not_lt_zero _)
                  | succ N ih199 =>
                    intro found yes k hN199 hk hA
                    refine G_iload hC 9 rfl d_Mo_matches_199 ?_
                    refine G_aload_n hC 0 rfl rfl d_Mo_matches_201 ?_
                    refine G_get hC fl_Mo_73 h_55 rfl d_Mo_matches_202 ?_
                    refine G_icmp_ge hC 273 (by omega) (by omega) (by decide) d_Mo_matches_205 (fun c_59 => ?_) (fun c_59 => ?_)
                    · rw [List.drop_eq_nil_of_le (by omega), List.any_nil, Bool.or_false] at hA
                      refine G_iload hC 7 rfl d_Mo_matches_273 ?_
                      refine G_if_ne hC 299 (by omega) (by decide) d_Mo_matches_275 (fun c_60 => ?_) (fun c_60 => ?_)
                      · have hF := hA.symm.trans (decide_eq_true (by omega))
                        rw [if_neg (by rw [hF]; decide)] at hr
                        refine G_iload hC 4 rfl d_Mo_matches_299 ?_
                        refine G_iconst (i := 3) hC d_Mo_matches_301 ?_
                        refine G_icmp_ne hC 316 (by omega) (by decide) (by decide) d_Mo_matches_302 (fun c_61 => ?_) (fun c_61 => ?_)
                        · exact (show False from by omega).elim
                        · refine G_aload_n hC 0 rfl rfl d_Mo_matches_305 ?_
                          refine G_aload hC 6 rfl d_Mo_matches_306 ?_
                          refine G_iload hC 5 rfl d_Mo_matches_308 ?_
                          refine G_pV (rest := []) hC hR (c_Mo_exchanges h_55 h_57 hxT1 (by omega) (by omega) rfl) cv_Mo_235 ⟨_, _, h_55⟩ (by omega) (by omega) (by omega) rfl rfl (Nat.le_of_ble_eq_true rfl) d_Mo_matches_310 ?_
                          refine G_goto hC 318 (by decide) d_Mo_matches_313 ?_
                          have hres : excM (excL es xT fm n0 es) = excM R.1 := (by rw [← hr, hn1])
                          have hc2 : R.2 = (cn + 1, vo) := by rw [← hr]
                          have h_62 : M123 a = some (500, .inr (cMo, [.ref tp, vI tm, vI en, .ref ou, .ref sa, .ref aa, .ref na, .ref va, .ref lo, .ref dm, .int fm, vI st, .ref tg, vI R.2.1, vI R.2.2, .ref pc, vI k0, vI s0, vI f0, vI o0, vI n0, .int w0])) := by rw [hc2]; exact h_55
                          have h_63 := h_19.fr hfr123 (by intro u hu; simp only [List.mem_cons, List.not_mem_nil, or_false] at hu <;> omega)
                          exact G_iretX hC hQ (by omega) (by omega) d_Mo_matches_318 ⟨_, _, _, _, _, _, _, by rw [hres], h_62, hxT2, (TgA_cons hT0 hxT1 h_63), ((fr_16.up (T := ([500, 513, 514] ++ tgT lv)) (by intro u hu; simp only [List.mem_append, mem_tgT, List.mem_range, List.mem_cons, List.not_mem_nil, or_false, false_or] at hu ⊢ <;> omega)).tr' (T := ([500, 513, 514] ++ tgT lv)) hfr123 (fun _ z => z) (by intro u hu; simp only [List.mem_append, mem_tgT, List.mem_range, List.mem_cons, List.not_mem_nil, or_false, false_or] at hu ⊢ <;> omega))⟩
                      · have hF := hA.symm.trans (decide_eq_false (by omega))
                        rw [if_pos hF] at hr
                        refine G_aload_n hC 0 rfl rfl d_Mo_matches_278 ?_
                        refine G_dup hC rfl d_Mo_matches_279 ?_
                        refine G_get hC fl_Mo_115 h_55 rfl d_Mo_matches_280 ?_
                        refine G_iconst (i := 1) hC d_Mo_matches_283 ?_
                        refine G_iadd hC d_Mo_matches_284 ?_
                        refine G_putX (fs' := [.ref tp, vI tm, vI en, .ref ou, .ref sa, .ref aa, .ref na, .ref va, .ref lo, .ref dm, .int fm, vI st, .ref tg, vI (cn + 1), vI (vo + 1), .ref pc, vI k0, vI s0, vI f0, vI o0, vI n0, .int w0]) hC fl_Mo_115 ft_Mo fw_Mo_14 h_55 rfl rfl (Nat.le_of_ble_eq_true rfl) rfl d_Mo_matches_285 (fun M_64 h_65 fr_66 => ?_)
                        refine G_aload_n hC 0 rfl rfl d_Mo_matches_288 ?_
                        refine G_get hC fl_Mo_115 h_65 rfl d_Mo_matches_289 ?_
                        refine G_iconst (i := 2) hC d_Mo_matches_292 ?_
                        refine G_icmp_le hC 299 (by omega) (by decide) (by decide) d_Mo_matches_293 (fun c_67 => ?_) (fun c_67 => ?_)
                        · rw [if_neg (show ¬ 2 < vo + 1 by omega)] at hr
                          refine G_iload hC 4 rfl d_Mo_matches_299 ?_
                          refine G_iconst (i := 3) hC d_Mo_matches_301 ?_
                          refine G_icmp_ne hC 316 (by omega) (by decide) (by decide) d_Mo_matches_302 (fun c_68 => ?_) (fun c_68 => ?_)
                          · exact (show False from by omega).elim
                          · refine G_aload_n hC 0 rfl rfl d_Mo_matches_305 ?_
                            refine G_aload hC 6 rfl d_Mo_matches_306 ?_
                            refine G_iload hC 5 rfl d_Mo_matches_308 ?_
                            have h_69 := h_57.fr fr_66 (by intro u hu; simp only [List.mem_cons, List.not_mem_nil, or_false] at hu <;> omega)
                            have h_70 := hxT1.fr fr_66 (by simp only [List.mem_cons, List.not_mem_nil, or_false, not_or, not_false_eq_true]; try omega) (by simp only [List.mem_cons, List.not_mem_nil, or_false, not_or, not_false_eq_true]; try omega)
                            refine G_pV (rest := []) hC hR (c_Mo_exchanges h_65 h_69 h_70 (by omega) (by omega) rfl) cv_Mo_235 ⟨_, _, h_65⟩ (by omega) (by omega) (by omega) rfl rfl (Nat.le_of_ble_eq_true rfl) d_Mo_matches_310 ?_
                            refine G_goto hC 318 (by decide) d_Mo_matches_313 ?_
                            have hres : excM (excL es xT fm n0 es) = excM R.1 := (by rw [← hr, exc_none _ hF]; try rfl)
                            have hc2 : R.2 = (cn + 1, vo + 1) := by rw [← hr]
                            have h_71 : M_64 a = some (500, .inr (cMo, [.ref tp, vI tm, vI en, .ref ou, .ref sa, .ref aa, .ref na, .ref va, .ref lo, .ref dm, .int fm, vI st, .ref tg, vI R.2.1, vI R.2.2, .ref pc, vI k0, vI s0, vI f0, vI o0, vI n0, .int w0])) := by rw [hc2]; exact h_65
                            have h_72 := hxT2.fr fr_66 (by decide) (by decide)
                            have h_73 := h_19.fr hfr123 (by intro u hu; simp only [List.mem_cons, List.not_mem_nil, or_false] at hu <;> omega)
                            have h_74 := h_73.fr fr_66 (by intro u hu; simp only [List.mem_cons, List.not_mem_nil, or_false] at hu <;> omega)
                            exact G_iretX hC hQ (by omega) (by omega) d_Mo_matches_318 ⟨_, _, _, _, _, _, _, by rw [hres], h_71, h_72, (TgA_cons hT0 h_70 h_74), (((fr_16.up (T := ([500, 513, 514] ++ tgT lv)) (by intro u hu; simp only [List.mem_append, mem_tgT, List.mem_range, List.mem_cons, List.not_mem_nil, or_false, false_or] at hu ⊢ <;> omega)).tr' (T := ([500, 513, 514] ++ tgT lv)) hfr123 (fun _ z => z) (by intro u hu; simp only [List.mem_append, mem_tgT, List.mem_range, List.mem_cons, List.not_mem_nil, or_false, false_or] at hu ⊢ <;> omega)).tr' (T := ([500, 513, 514] ++ tgT lv)) fr_66 (fun _ z => z) (by intro u hu; simp only [List.mem_append, mem_tgT, List.mem_range, List.mem_cons, List.not_mem_nil, or_false, false_or] at hu ⊢ <;> omega))⟩
                        · refine G_bipush (j := 6) hC (by decide +kernel) d_Mo_matches_296 ?_
                          rw [if_pos (show 2 < vo + 1 by omega)] at hr
                          have hres : 6 = excM R.1 := (by rw [← hr]; rfl)
                          have hc2 : R.2 = (cn + 1, vo + 1) := by rw [← hr]
                          have h_75 : M_64 a = some (500, .inr (cMo, [.ref tp, vI tm, vI en, .ref ou, .ref sa, .ref aa, .ref na, .ref va, .ref lo, .ref dm, .int fm, vI st, .ref tg, vI R.2.1, vI R.2.2, .ref pc, vI k0, vI s0, vI f0, vI o0, vI n0, .int w0])) := by rw [hc2]; exact h_65
                          have h_76 := hxT2.fr fr_66 (by decide) (by decide)
                          have h_77 := h_19.fr hfr123 (by intro u hu; simp only [List.mem_cons, List.not_mem_nil, or_false] at hu <;> omega)
                          have h_78 := h_77.fr fr_66 (by intro u hu; simp only [List.mem_cons, List.not_mem_nil, or_false] at hu <;> omega)
                          have h_79 := hxT1.fr fr_66 (by simp only [List.mem_cons, List.not_mem_nil, or_false, not_or, not_false_eq_true]; try omega) (by simp only [List.mem_cons, List.not_mem_nil, or_false, not_or, not_false_eq_true]; try omega)
                          exact G_iretX hC hQ (by omega) (by omega) d_Mo_matches_298 ⟨_, _, _, _, _, _, _, by rw [hres], h_75, h_76, (TgA_cons hT0 h_79 h_78), (((fr_16.up (T := ([500, 513, 514] ++ tgT lv)) (by intro u hu; simp only [List.mem_append, mem_tgT, List.mem_range, List.mem_cons, List.not_mem_nil, or_false, false_or] at hu ⊢ <;> omega)).tr' (T := ([500, 513, 514] ++ tgT lv)) hfr123 (fun _ z => z) (by intro u hu; simp only [List.mem_append, mem_tgT, List.mem_range, List.mem_cons, List.not_mem_nil, or_false, false_or] at hu ⊢ <;> omega)).tr' (T := ([500, 513, 514] ++ tgT lv)) fr_66 (fun _ z => z) (by intro u hu; simp only [List.mem_append, mem_tgT, List.mem_range, List.mem_cons, List.not_mem_nil, or_false, false_or] at hu ⊢ <;> omega))⟩
                    · obtain ⟨x, hx1, hx2⟩ := get_of (es := es) (k := k) (by omega)
                      have hy6 := h_6 _ x hx1
                      refine G_aload_n hC 0 rfl rfl d_Mo_matches_208 ?_
                      refine G_iload hC 9 rfl d_Mo_matches_209 ?_
                      refine G_iload hC 4 rfl d_Mo_matches_211 ?_
                      refine G_iconst (i := 3) hC d_Mo_matches_213 ?_
                      refine G_icmp_ne hC 221 (by omega) (by decide) (by decide) d_Mo_matches_214 (fun c_80 => ?_) (fun c_80 => ?_)
                      · exact (show False from by omega).elim
                      · refine G_iconst (i := 2) hC d_Mo_matches_217 ?_
                        refine G_goto hC 222 (by decide) d_Mo_matches_218 ?_
                        refine G_aload hC 6 rfl d_Mo_matches_222 ?_
                        refine G_pV (rest := []) hC hR (c_Mo_isOf h_55 h_57 hxT1 (by omega) (by omega) hx2) cv_Mo_92 ⟨_, _, h_55⟩ (by omega) (by omega) (by omega) rfl rfl (Nat.le_of_ble_eq_true rfl) d_Mo_matches_224 ?_
                        refine G_if_ne hC 233 (by have := b2i_rng (isD 2 xT x); omega) (by decide) d_Mo_matches_227 (fun c_81 => ?_) (fun c_81 => ?_)
                        · have c_81 := b2i_ne0.mp c_81
                          refine G_iinc (lv' := [(7, vI (found + 1)), (0, .ref a), (1, .ref v), (2, .ref d), (3, vI dd), (4, vI k0), (5, vI n0), (6, .ref T0), (8, vI yes), (9, vI k)]) hC 7 rfl (by rw [hN]; decide) rfl d_Mo_matches_233 ?_
                          refine G_iload hC 5 rfl d_Mo_matches_236 ?_
                          refine G_iconst (i := 3) hC d_Mo_matches_238 ?_
                          refine G_icmp_eq hC 267 (by omega) (by decide) (by decide) d_Mo_matches_239 (fun c_82 => ?_) (fun c_82 => ?_)
                          · refine G_iinc (lv' := [(9, vI (k + 1)), (7, vI (found + 1)), (0, .ref a), (1, .ref v), (2, .ref d), (3, vI dd), (4, vI k0), (5, vI n0), (6, .ref T0), (8, vI yes)]) hC 9 rfl (by rw [hN]; decide) rfl d_Mo_matches_267 ?_
                            refine G_goto hC 199 (by decide) d_Mo_matches_270 ?_
                            refine G_lv [2, 3, 4, 5, 6, 7, 8, 1, 9, 0] rfl ?_
                            exact ih199 (found + 1) yes (k + 1) (by omega) (by omega) (by have z := any_step hx2 hA; rw [c_81, Bool.or_true, Bool.true_or] at z; rw [decide_eq_true (show 0 < found + 1 by omega), Bool.true_or]; exact z)
                          · exact (show False from by omega).elim
                        · have c_81 := b2i_eq0.mp c_81
                          refine G_goto hC 267 (by decide) d_Mo_matches_230 ?_
                          refine G_iinc (lv' := [(9, vI (k + 1)), (0, .ref a), (1, .ref v), (2, .ref d), (3, vI dd), (4, vI k0), (5, vI n0), (6, .ref T0), (7, vI found), (8, vI yes)]) hC 9 rfl (by rw [hN]; decide) rfl d_Mo_matches_267 ?_
                          refine G_goto hC 199 (by decide) d_Mo_matches_270 ?_
                          refine G_lv [1, 2, 3, 4, 5, 6, 7, 8, 9, 0] rfl ?_
                          exact ih199 found yes (k + 1) (by omega) (by omega) (by have z := any_step hx2 hA; rw [c_81, Bool.or_false] at z; exact z)
                refine G_lv [3, 4, 5, 6, 7, 8, 9, 2, 1, 0] rfl ?_
                exact L199 _ 0 0 0 (Nat.lt_succ_self _) (by omega) rfl
              · have c_58 := b2i_ne0.mp c_58
                refine G_iconst (i := 5) hC d_Mo_matches_188 ?_
                rw [if_pos c_58] at hr
                have hres : 5 = excM R.1 := (by rw [← hr]; rfl)
                have hc2 : R.2 = (cn + 1, vo) := by rw [← hr]
                have h_83 : M123 a = some (500, .inr (cMo, [.ref tp, vI tm, vI en, .ref ou, .ref sa, .ref aa, .ref na, .ref va, .ref lo, .ref dm, .int fm, vI st, .ref tg, vI R.2.1, vI R.2.2, .ref pc, vI k0, vI s0, vI f0, vI o0, vI n0, .int w0])) := by rw [hc2]; exact h_55
                have h_84 := h_19.fr hfr123 (by intro u hu; simp only [List.mem_cons, List.not_mem_nil, or_false] at hu <;> omega)
                exact G_iretX hC hQ (by omega) (by omega) d_Mo_matches_189 ⟨_, _, _, _, _, _, _, by rw [hres], h_83, hxT2, (TgA_cons hT0 hxT1 h_84), ((fr_16.up (T := ([500, 513, 514] ++ tgT lv)) (by intro u hu; simp only [List.mem_append, mem_tgT, List.mem_range, List.mem_cons, List.not_mem_nil, or_false, false_or] at hu ⊢ <;> omega)).tr' (T := ([500, 513, 514] ++ tgT lv)) hfr123 (fun _ z => z) (by intro u hu; simp only [List.mem_append, mem_tgT, List.mem_range, List.mem_cons, List.not_mem_nil, or_false, false_or] at hu ⊢ <;> omega))⟩
            · rw [mat_l (by omega), look_e hxT hkk h10] at hr
              try dsimp only at hr
              refine G_aload_n hC 0 rfl rfl d_Mo_matches_179 ?_
              refine G_aload hC 6 rfl d_Mo_matches_180 ?_
              have h_85 := hfr123.at h_15 (by simp only [List.mem_cons, List.not_mem_nil, or_false, not_or, not_false_eq_true]; try omega)
              have h_86 := h_Md_sa.fr fr_16 (by intro u hu; simp only [List.mem_cons, List.not_mem_nil, or_false] at hu <;> omega)
              have h_87 := h_86.fr hfr123 (by intro u hu; simp only [List.mem_cons, List.not_mem_nil, or_false] at hu <;> omega)
              refine G_pV (rest := []) hC hR (c_Mo_isTrouble h_85 h_87 hxT1 (by omega) rfl) cv_Mo_208 ⟨_, _, h_85⟩ (by omega) (by omega) (by omega) rfl rfl (Nat.le_of_ble_eq_true rfl) d_Mo_matches_182 ?_
              refine G_if_eq hC 190 (by have := b2i_rng (hasD es 3 xT); omega) (by decide) d_Mo_matches_185 (fun c_88 => ?_) (fun c_88 => ?_)
              · have c_88 := b2i_eq0.mp c_88
                rw [if_neg (nt c_88)] at hr
                refine G_iconst (i := 0) hC d_Mo_matches_190 ?_
                refine G_istore (lv' := [(7, vI 0), (0, .ref a), (1, .ref v), (2, .ref d), (3, vI dd), (4, vI k0), (5, vI n0), (6, .ref T0)]) hC (by rw [hN]; decide) rfl d_Mo_matches_191 ?_
                refine G_iconst (i := 0) hC d_Mo_matches_193 ?_
                refine G_istore (lv' := [(8, vI 0), (7, vI 0), (0, .ref a), (1, .ref v), (2, .ref d), (3, vI dd), (4, vI k0), (5, vI n0), (6, .ref T0)]) hC (by rw [hN]; decide) rfl d_Mo_matches_194 ?_
                refine G_iconst (i := 0) hC d_Mo_matches_196 ?_
                refine G_istore (lv' := [(9, vI 0), (8, vI 0), (7, vI 0), (0, .ref a), (1, .ref v), (2, .ref d), (3, vI dd), (4, vI k0), (5, vI n0), (6, .ref T0)]) hC (by rw [hN]; decide) rfl d_Mo_matches_197 ?_
                have L199 : ∀ (N : Nat) (found : Int) (yes : Int) (k : Int), ((es.length : Int) - k).toNat < N → (0 ≤ k ∧ k ≤ es.length ∧ 0 ≤ found ∧ found ≤ k ∧ (yes = 0 ∨ yes = 1) ∧ (found = 0 → yes = 0) ∧ (0 < found → yes = 1)) → ((decide (0 < found) || (es.drop k.toNat).any (isD 1 xT)) = hasD es 1 xT) → G E M123 0 0 [(0, .ref a), (1, .ref v), (2, .ref d), (3, vI dd), (4, vI k0), (5, vI n0), (6, .ref T0), (7, vI found), (8, vI yes), (9, vI k)] [] 199 := by
                  intro N
                  induction N with
                  | zero => intro found yes k hN199 hk hA; exact absurd hN199 (Nat.not_lt_zero _)
                  | succ N ih199 =>
                    intro found yes k hN199 hk hA
                    refine G_iload hC 9 rfl d_Mo_matches_199 ?_
                    refine G_aload_n hC 0 rfl rfl d_Mo_matches_201 ?_
                    refine G_get hC fl_Mo_73 h_85 rfl d_Mo_matches_202 ?_
                    refine G_icmp_ge hC 273 (by omega) (by omega) (by decide) d_Mo_matches_205 (fun c_89 => ?_) (fun c_89 => ?_)
                    · rw [List.drop_eq_nil_of_le (by omega), List.any_nil, Bool.or_false] at hA
                      refine G_iload hC 7 rfl d_Mo_matches_273 ?_
                      refine G_if_ne hC 299 (by omega) (by decide) d_Mo_matches_275 (fun c_90 => ?_) (fun c_90 => ?_)
                      · have hF := hA.symm.trans (decide_eq_true (by omega))
                        rw [if_neg (by rw [hF]; decide)] at hr
                        refine G_iload hC 4 rfl d_Mo_matches_299 ?_
                        refine G_iconst (i := 3) hC d_Mo_matches_301 ?_
                        refine G_icmp_ne hC 316 (by omega) (by decide) (by decide) d_Mo_matches_302 (fun c_91 => ?_) (fun c_91 => ?_)
                        · refine G_iload hC 8 rfl d_Mo_matches_316 ?_
                          have hres : yes = excM R.1 := (by rw [← hr, show yes = 1 by omega]; rfl)
                          have hc2 : R.2 = (cn + 1, vo) := by rw [← hr]
                          have h_92 : M123 a = some (500, .inr (cMo, [.ref tp, vI tm, vI en, .ref ou, .ref sa, .ref aa, .ref na, .ref va, .ref lo, .ref dm, .int fm, vI st, .ref tg, vI R.2.1, vI R.2.2, .ref pc, vI k0, vI s0, vI f0, vI o0, vI n0, .int w0])) := by rw [hc2]; exact h_85
                          have h_93 := h_19.fr hfr123 (by intro u hu; simp only [List.mem_cons, List.not_mem_nil, or_false] at hu <;> omega)
                          exact G_iretX hC hQ (by omega) (by omega) d_Mo_matches_318 ⟨_, _, _, _, _, _, _, by rw [hres], h_92, hxT2, (TgA_cons hT0 hxT1 h_93), ((fr_16.up (T := ([500, 513, 514] ++ tgT lv)) (by intro u hu; simp only [List.mem_append, mem_tgT, List.mem_range, List.mem_cons, List.not_mem_nil, or_false, false_or] at hu ⊢ <;> omega)).tr' (T := ([500, 513, 514] ++ tgT lv)) hfr123 (fun _ z => z) (by intro u hu; simp only [List.mem_append, mem_tgT, List.mem_range, List.mem_cons, List.not_mem_nil, or_false, false_or] at hu ⊢ <;> omega))⟩
                        · exact (show False from by omega).elim
                      · have hF := hA.symm.trans (decide_eq_false (by omega))
                        rw [if_pos hF] at hr
                        refine G_aload_n hC 0 rfl rfl d_Mo_matches_278 ?_
                        refine G_dup hC rfl d_Mo_matches_279 ?_
                        refine G_get hC fl_Mo_115 h_85 rfl d_Mo_matches_280 ?_
                        refine G_iconst (i := 1) hC d_Mo_matches_283 ?_
                        refine G_iadd hC d_Mo_matches_284 ?_
                        refine G_putX (fs' := [.ref tp, vI tm, vI en, .ref ou, .ref sa, .ref aa, .ref na, .ref va, .ref lo, .ref dm, .int fm, vI st, .ref tg, vI (cn + 1), vI (vo + 1), .ref pc, vI k0, vI s0, vI f0, vI o0, vI n0, .int w0]) hC fl_Mo_115 ft_Mo fw_Mo_14 h_85 rfl rfl (Nat.le_of_ble_eq_true rfl) rfl d_Mo_matches_285 (fun M_94 h_95 fr_96 => ?_)
                        refine G_aload_n hC 0 rfl rfl d_Mo_matches_288 ?_
                        refine G_get hC fl_Mo_115 h_95 rfl d_Mo_matches_289 ?_
                        refine G_iconst (i := 2) hC d_Mo_matches_292 ?_
                        refine G_icmp_le hC 299 (by omega) (by decide) (by decide) d_Mo_matches_293 (fun c_97 => ?_) (fun c_97 => ?_)
                        · rw [if_neg (show ¬ 2 < vo + 1 by omega)] at hr
                          refine G_iload hC 4 rfl d_Mo_matches_299 ?_
                          refine G_iconst (i := 3) hC d_Mo_matches_301 ?_
                          refine G_icmp_ne hC 316 (by omega) (by decide) (by decide) d_Mo_matches_302 (fun c_98 => ?_) (fun c_98 => ?_)
                          · refine G_iload hC 8 rfl d_Mo_matches_316 ?_
                            have hres : yes = excM R.1 := (by rw [← hr, show yes = 0 by omega]; rfl)
                            have hc2 : R.2 = (cn + 1, vo + 1) := by rw [← hr]
                            have h_99 : M_94 a = some (500, .inr (cMo, [.ref tp, vI tm, vI en, .ref ou, .ref sa, .ref aa, .ref na, .ref va, .ref lo, .ref dm, .int fm, vI st, .ref tg, vI R.2.1, vI R.2.2, .ref pc, vI k0, vI s0, vI f0, vI o0, vI n0, .int w0])) := by rw [hc2]; exact h_95
                            have h_100 := hxT2.fr fr_96 (by decide) (by decide)
                            have h_101 := h_19.fr hfr123 (by intro u hu; simp only [List.mem_cons, List.not_mem_nil, or_false] at hu <;> omega)
                            have h_102 := h_101.fr fr_96 (by intro u hu; simp only [List.mem_cons, List.not_mem_nil, or_false] at hu <;> omega)
                            have h_103 := hxT1.fr fr_96 (by simp only [List.mem_cons, List.not_mem_nil, or_false, not_or, not_false_eq_true]; try omega) (by simp only [List.mem_cons, List.not_mem_nil, or_false, not_or, not_false_eq_true]; try omega)
                            exact G_iretX hC hQ (by omega) (by omega) d_Mo_matches_318 ⟨_, _, _, _, _, _, _, by rw [hres], h_99, h_100, (TgA_cons hT0 h_103 h_102), (((fr_16.up (T := ([500, 513, 514] ++ tgT lv)) (by intro u hu; simp only [List.mem_append, mem_tgT, List.mem_range, List.mem_cons, List.not_mem_nil, or_false, false_or] at hu ⊢ <;> omega)).tr' (T := ([500, 513, 514] ++ tgT lv)) hfr123 (fun _ z => z) (by intro u hu; simp only [List.mem_append, mem_tgT, List.mem_range, List.mem_cons, List.not_mem_nil, or_false, false_or] at hu ⊢ <;> omega)).tr' (T := ([500, 513, 514] ++ tgT lv)) fr_96 (fun _ z => z) (by intro u hu; simp only [List.mem_append, mem_tgT, List.mem_range, List.mem_cons, List.not_mem_nil, or_false, false_or] at hu ⊢ <;> omega))⟩
                          · exact (show False from by omega).elim
                        · refine G_bipush (j := 6) hC (by decide +kernel) d_Mo_matches_296 ?_
                          rw [if_pos (show 2 < vo + 1 by omega)] at hr
                          have hres : 6 = excM R.1 := (by rw [← hr]; rfl)
                          have hc2 : R.2 = (cn + 1, vo + 1) := by rw [← hr]
                          have h_104 : M_94 a = some (500, .inr (cMo, [.ref tp, vI tm, vI en, .ref ou, .ref sa, .ref aa, .ref na, .ref va, .ref lo, .ref dm, .int fm, vI st, .ref tg, vI R.2.1, vI R.2.2, .ref pc, vI k0, vI s0, vI f0, vI o0, vI n0, .int w0])) := by rw [hc2]; exact h_95
                          have h_105 := hxT2.fr fr_96 (by decide) (by decide)
                          have h_106 := h_19.fr hfr123 (by intro u hu; simp only [List.mem_cons, List.not_mem_nil, or_false] at hu <;> omega)
                          have h_107 := h_106.fr fr_96 (by intro u hu; simp only [List.mem_cons, List.not_mem_nil, or_false] at hu <;> omega)
                          have h_108 := hxT1.fr fr_96 (by simp only [List.mem_cons, List.not_mem_nil, or_false, not_or, not_false_eq_true]; try omega) (by simp only [List.mem_cons, List.not_mem_nil, or_false, not_or, not_false_eq_true]; try omega)
                          exact G_iretX hC hQ (by omega) (by omega) d_Mo_matches_298 ⟨_, _, _, _, _, _, _, by rw [hres], h_104, h_105, (TgA_cons hT0 h_108 h_107), (((fr_16.up (T := ([500, 513, 514] ++ tgT lv)) (by intro u hu; simp only [List.mem_append, mem_tgT, List.mem_range, List.mem_cons, List.not_mem_nil, or_false, false_or] at hu ⊢ <;> omega)).tr' (T := ([500, 513, 514] ++ tgT lv)) hfr123 (fun _ z => z) (by intro u hu; simp only [List.mem_append, mem_tgT, List.mem_range, List.mem_cons, List.not_mem_nil, or_false, false_or] at hu ⊢ <;> omega)).tr' (T := ([500, 513, 514] ++ tgT lv)) fr_96 (fun _ z => z) (by intro u hu; simp only [List.mem_append, mem_tgT, List.mem_range, List.mem_cons, List.not_mem_nil, or_false, false_or] at hu ⊢ <;> omega))⟩
                    · obtain ⟨x, hx1, hx2⟩ := get_of (es := es) (k := k) (by omega)
                      have hy6 := h_6 _ x hx1
                      refine G_aload_n hC 0 rfl rfl d_Mo_matches_208 ?_
                      refine G_iload hC 9 rfl d_Mo_matches_209 ?_
                      refine G_iload hC 4 rfl d_Mo_matches_211 ?_
                      refine G_iconst (i := 3) hC d_Mo_matches_213 ?_
                      refine G_icmp_ne hC 221 (by omega) (by decide) (by decide) d_Mo_matches_214 (fun c_109 => ?_) (fun c_109 => ?_)
                      · refine G_iconst (i := 1) hC d_Mo_matches_221 ?_
                        refine G_aload hC 6 rfl d_Mo_matches_222 ?_
                        refine G_pV (rest := []) hC hR (c_Mo_isOf h_85 h_87 hxT1 (by omega) (by omega) hx2) cv_Mo_92 ⟨_, _, h_85⟩ (by omega) (by omega) (by omega) rfl rfl (Nat.le_of_ble_eq_true rfl) d_Mo_matches_224 ?_
                        refine G_if_ne hC 233 (by have := b2i_rng (isD 1 xT x); omega) (by decide) d_Mo_matches_227 (fun c_110 => ?_) (fun c_110 => ?_)
                        · have c_110 := b2i_ne0.mp c_110
                          refine G_iinc (lv' := [(7, vI (found + 1)), (0, .ref a), (1, .ref v), (2, .ref d), (3, vI dd), (4, vI k0), (5, vI n0), (6, .ref T0), (8, vI yes), (9, vI k)]) hC 7 rfl (by rw [hN]; decide) rfl d_Mo_matches_233 ?_
                          refine G_iload hC 5 rfl d_Mo_matches_236 ?_
                          refine G_iconst (i := 3) hC d_Mo_matches_238 ?_
                          refine G_icmp_eq hC 267 (by omega) (by decide) (by decide) d_Mo_matches_239 (fun c_111 => ?_) (fun c_111 => ?_)
                          · exact (show False from by omega).elim
                          · refine G_iload hC 5 rfl d_Mo_matches_242 ?_
                            refine G_iconst (i := 5) hC d_Mo_matches_244 ?_
                            refine G_icmp_eq hC 264 (by omega) (by decide) (by decide) d_Mo_matches_245 (fun c_112 => ?_) (fun c_112 => ?_)
                            · refine G_iconst (i := 1) hC d_Mo_matches_264 ?_
                              refine G_istore (lv' := [(8, vI 1), (7, vI (found + 1)), (0, .ref a), (1, .ref v), (2, .ref d), (3, vI dd), (4, vI k0), (5, vI n0), (6, .ref T0), (9, vI k)]) hC (by rw [hN]; decide) rfl d_Mo_matches_265 ?_
                              refine G_iinc (lv' := [(9, vI (k + 1)), (8, vI 1), (7, vI (found + 1)), (0, .ref a), (1, .ref v), (2, .ref d), (3, vI dd), (4, vI k0), (5, vI n0), (6, .ref T0)]) hC 9 rfl (by rw [hN]; decide) rfl d_Mo_matches_267 ?_
                              refine G_goto hC 199 (by decide) d_Mo_matches_270 ?_
                              refine G_lv [3, 4, 5, 6, 7, 8, 9, 2, 1, 0] rfl ?_
                              exact ih199 (found + 1) 1 (k + 1) (by omega) (by omega) (by have z := any_step hx2 hA; rw [c_110, Bool.or_true, Bool.true_or] at z; rw [decide_eq_true (show 0 < found + 1 by omega), Bool.true_or]; exact z)
                            · exact (show False from by omega).elim
                        · have c_110 := b2i_eq0.mp c_110
                          refine G_goto hC 267 (by decide) d_Mo_matches_230 ?_
                          refine G_iinc (lv' := [(9, vI (k + 1)), (0, .ref a), (1, .ref v), (2, .ref d), (3, vI dd), (4, vI k0), (5, vI n0), (6, .ref T0), (7, vI found), (8, vI yes)]) hC 9 rfl (by rw [hN]; decide) rfl d_Mo_matches_267 ?_
                          refine G_goto hC 199 (by decide) d_Mo_matches_270 ?_
                          refine G_lv [1, 2, 3, 4, 5, 6, 7, 8, 9, 0] rfl ?_
                          exact ih199 found yes (k + 1) (by omega) (by omega) (by have z := any_step hx2 hA; rw [c_110, Bool.or_false] at z; exact z)
                      · exact (show False from by omega).elim
                refine G_lv [3, 4, 5, 6, 7, 8, 9, 2, 1, 0] rfl ?_
                exact L199 _ 0 0 0 (Nat.lt_succ_self _) (by omega) rfl
              · have c_88 := b2i_ne0.mp c_88
                refine G_iconst (i := 5) hC d_Mo_matches_188 ?_
                rw [if_pos c_88] at hr
                have hres : 5 = excM R.1 := (by rw [← hr]; rfl)
                have hc2 : R.2 = (cn + 1, vo) := by rw [← hr]
                have h_113 : M123 a = some (500, .inr (cMo, [.ref tp, vI tm, vI en, .ref ou, .ref sa, .ref aa, .ref na, .ref va, .ref lo, .ref dm, .int fm, vI st, .ref tg, vI R.2.1, vI R.2.2, .ref pc, vI k0, vI s0, vI f0, vI o0, vI n0, .int w0])) := by rw [hc2]; exact h_85
                have h_114 := h_19.fr hfr123 (by intro u hu; simp only [List.mem_cons, List.not_mem_nil, or_false] at hu <;> omega)
                exact G_iretX hC hQ (by omega) (by omega) d_Mo_matches_189 ⟨_, _, _, _, _, _, _, by rw [hres], h_113, hxT2, (TgA_cons hT0 hxT1 h_114), ((fr_16.up (T := ([500, 513, 514] ++ tgT lv)) (by intro u hu; simp only [List.mem_append, mem_tgT, List.mem_range, List.mem_cons, List.not_mem_nil, or_false, false_or] at hu ⊢ <;> omega)).tr' (T := ([500, 513, 514] ++ tgT lv)) hfr123 (fun _ z => z) (by intro u hu; simp only [List.mem_append, mem_tgT, List.mem_range, List.mem_cons, List.not_mem_nil, or_false, false_or] at hu ⊢ <;> omega))⟩
          · have hk1 : te.1 = 1 := by omega
            obtain ⟨d9, hd9⟩ := htp.2.2.2 (Or.inl hk1)
            have hlv : lv < 10 := by omega
            rw [mat_in hk1 hd9 (decide_eq_true (by omega)) h10] at hr
            rw [tgQ_s hd9] at hxT
            rw [← hxT] at hr
            have hcv := chkS_cv es (ls, ds, fm) (11 - (lv + 1)) xT (cn + 1) vo (by omega)
            unfold cvP at hcv
            refine G_aload_n hC 0 rfl rfl d_Mo_matches_129 ?_
            refine G_aload hC 6 rfl d_Mo_matches_130 ?_
            refine G_iload_n hC 3 rfl rfl d_Mo_matches_132 ?_
            refine G_iconst (i := 1) hC d_Mo_matches_133 ?_
            refine G_iadd hC d_Mo_matches_134 ?_
            have h_115 := hfr123.at h_15 (by simp only [List.mem_cons, List.not_mem_nil, or_false, not_or, not_false_eq_true]; try omega)
            have h_116 := h_Md_sa.fr fr_16 (by intro u hu; simp only [List.mem_cons, List.not_mem_nil, or_false] at hu <;> omega)
            have h_117 := h_116.fr hfr123 (by intro u hu; simp only [List.mem_cons, List.not_mem_nil, or_false] at hu <;> omega)
            have h_118 := h_Tx_lo.fr fr_16 (by decide) (by decide)
            have h_119 := h_118.fr hfr123 (by simp only [List.mem_cons, List.not_mem_nil, or_false, not_or, not_false_eq_true]; try omega) (by simp only [List.mem_cons, List.not_mem_nil, or_false, not_or, not_false_eq_true]; try omega)
            have h_120 := h_Tx_dm.fr fr_16 (by decide) (by decide)
            have h_121 := h_120.fr hfr123 (by simp only [List.mem_cons, List.not_mem_nil, or_false, not_or, not_false_eq_true]; try omega) (by simp only [List.mem_cons, List.not_mem_nil, or_false, not_or, not_false_eq_true]; try omega)
            have h_122 := hfr123.at h_20 (by simp only [List.mem_cons, List.not_mem_nil, or_false, not_or, not_false_eq_true]; try omega)
            have h_123 := h_19.fr hfr123 (by intro u hu; simp only [List.mem_cons, List.not_mem_nil, or_false] at hu <;> omega)
            refine G_xV (rest := []) hC hR (IH (by omega) h_115 h_117 h_119 h_121 hxT2 h_122 h_123 hxT1 (by omega) hsn (by omega) (by omega) (by omega) (by omega) (by omega) rfl) cv_Mo_118 ⟨_, _, h_115⟩ (by omega) (by omega) (by omega) rfl rfl (Nat.le_of_ble_eq_true rfl) d_Mo_matches_135 (fun r_126 M_124 p_125 => ?_)
            obtain ⟨k9_127, s9_128, f9_129, o9_130, n9_131, w9_132, ps9_133, rfl, h_134, h_135, h_136, fr_137⟩ := p_125
            show G E M_124 (0 + 0) (0 + 0) [(0, .ref a), (1, .ref v), (2, .ref d), (3, vI dd), (4, vI k0), (5, vI n0), (6, .ref T0)] [vI ((chkS es (ls, ds, fm) (11 - (lv + 1)) xT (cn + 1) vo).1)] 138
            refine G_istore (lv' := [(7, vI ((chkS es (ls, ds, fm) (11 - (lv + 1)) xT (cn + 1) vo).1)), (0, .ref a), (1, .ref v), (2, .ref d), (3, vI dd), (4, vI k0), (5, vI n0), (6, .ref T0)]) hC (by rw [hN]; decide) rfl d_Mo_matches_138 ?_
            refine G_iload hC 0 rfl d_Mo_matches_140 ?_
            refine G_iconst (i := 2) hC d_Mo_matches_142 ?_
            refine G_icmp_ne hC 150 (by omega) (by decide) (by decide) d_Mo_matches_143 (fun c_138 => ?_) (fun c_138 => ?_)
            · refine G_iload hC 0 rfl d_Mo_matches_150 ?_
              refine G_iconst (i := 5) hC d_Mo_matches_152 ?_
              refine G_icmp_ne hC 160 (by omega) (by decide) (by decide) d_Mo_matches_153 (fun c_139 => ?_) (fun c_139 => ?_)
              · refine G_iload hC 0 rfl d_Mo_matches_160 ?_
                refine G_bipush (j := 6) hC (by decide +kernel) d_Mo_matches_162 ?_
                refine G_icmp_eq hC 172 (by omega) (by decide) (by decide) d_Mo_matches_164 (fun c_140 => ?_) (fun c_140 => ?_)
                · refine G_bipush (j := 6) hC (by decide +kernel) d_Mo_matches_172 ?_
                  refine G_goto hC 178 (by decide) d_Mo_matches_174 ?_
                  have hres : 6 = excM R.1 := (by rw [← hr]; dsimp only; unfold incS excM; (repeat' split); all_goals omega)
                  have hc2 : R.2 = ((chkS es (ls, ds, fm) (11 - (lv + 1)) xT (cn + 1) vo).2.1, (chkS es (ls, ds, fm) (11 - (lv + 1)) xT (cn + 1) vo).2.2) := by rw [← hr]
                  have h_141 : M_124 a = some (500, .inr (cMo, [.ref tp, vI tm, vI en, .ref ou, .ref sa, .ref aa, .ref na, .ref va, .ref lo, .ref dm, .int fm, vI st, .ref tg, vI R.2.1, vI R.2.2, .ref pc, vI k9_127, vI s9_128, vI f9_129, vI o9_130, vI n9_131, .int w9_132])) := by rw [hc2]; exact h_134
                  have h_142 := hxT1.fr fr_137 (by simp only [List.mem_append, mem_tgT, List.mem_range, List.mem_cons, List.not_mem_nil, or_false, false_or]; omega) (by simp only [List.mem_append, mem_tgT, List.mem_range, List.mem_cons, List.not_mem_nil, or_false, false_or]; omega)
                  exact G_iretX hC hQ (by omega) (by omega) d_Mo_matches_178 ⟨_, _, _, _, _, _, _, by rw [hres], h_141, h_135, (TgA_cons hT0 h_142 h_136), (((fr_16.up (T := ([500, 513, 514] ++ tgT lv)) (by intro u hu; simp only [List.mem_append, mem_tgT, List.mem_range, List.mem_cons, List.not_mem_nil, or_false, false_or] at hu ⊢ <;> omega)).tr' (T := ([500, 513, 514] ++ tgT lv)) hfr123 (fun _ z => z) (by intro u hu; simp only [List.mem_append, mem_tgT, List.mem_range, List.mem_cons, List.not_mem_nil, or_false, false_or] at hu ⊢ <;> omega)).tr' (T := ([500, 513, 514] ++ tgT lv)) fr_137 (fun _ z => z) (by intro u hu; simp only [List.mem_append, mem_tgT, List.mem_range, List.mem_cons, List.not_mem_nil, or_false, false_or] at hu ⊢ <;> omega))⟩
                · refine G_iload hC 0 rfl d_Mo_matches_167 ?_
                  refine G_if_ne hC 177 (by omega) (by decide) d_Mo_matches_169 (fun c_143 => ?_) (fun c_143 => ?_)
                  · refine G_iconst (i := 0) hC d_Mo_matches_177 ?_
                    have hres : 0 = excM R.1 := (by rw [← hr]; dsimp only; unfold incS excM; (repeat' split); all_goals omega)
                    have hc2 : R.2 = ((chkS es (ls, ds, fm) (11 - (lv + 1)) xT (cn + 1) vo).2.1, (chkS es (ls, ds, fm) (11 - (lv + 1)) xT (cn + 1) vo).2.2) := by rw [← hr]
                    have h_144 : M_124 a = some (500, .inr (cMo, [.ref tp, vI tm, vI en, .ref ou, .ref sa, .ref aa, .ref na, .ref va, .ref lo, .ref dm, .int fm, vI st, .ref tg, vI R.2.1, vI R.2.2, .ref pc, vI k9_127, vI s9_128, vI f9_129, vI o9_130, vI n9_131, .int w9_132])) := by rw [hc2]; exact h_134
                    have h_145 := hxT1.fr fr_137 (by simp only [List.mem_append, mem_tgT, List.mem_range, List.mem_cons, List.not_mem_nil, or_false, false_or]; omega) (by simp only [List.mem_append, mem_tgT, List.mem_range, List.mem_cons, List.not_mem_nil, or_false, false_or]; omega)
                    exact G_iretX hC hQ (by omega) (by omega) d_Mo_matches_178 ⟨_, _, _, _, _, _, _, by rw [hres], h_144, h_135, (TgA_cons hT0 h_145 h_136), (((fr_16.up (T := ([500, 513, 514] ++ tgT lv)) (by intro u hu; simp only [List.mem_append, mem_tgT, List.mem_range, List.mem_cons, List.not_mem_nil, or_false, false_or] at hu ⊢ <;> omega)).tr' (T := ([500, 513, 514] ++ tgT lv)) hfr123 (fun _ z => z) (by intro u hu; simp only [List.mem_append, mem_tgT, List.mem_range, List.mem_cons, List.not_mem_nil, or_false, false_or] at hu ⊢ <;> omega)).tr' (T := ([500, 513, 514] ++ tgT lv)) fr_137 (fun _ z => z) (by intro u hu; simp only [List.mem_append, mem_tgT, List.mem_range, List.mem_cons, List.not_mem_nil, or_false, false_or] at hu ⊢ <;> omega))⟩
                  · refine G_bipush (j := 6) hC (by decide +kernel) d_Mo_matches_172 ?_
                    refine G_goto hC 178 (by decide) d_Mo_matches_174 ?_
                    have hres : 6 = excM R.1 := (by rw [← hr]; dsimp only; unfold incS excM; (repeat' split); all_goals omega)
                    have hc2 : R.2 = ((chkS es (ls, ds, fm) (11 - (lv + 1)) xT (cn + 1) vo).2.1, (chkS es (ls, ds, fm) (11 - (lv + 1)) xT (cn + 1) vo).2.2) := by rw [← hr]
                    have h_146 : M_124 a = some (500, .inr (cMo, [.ref tp, vI tm, vI en, .ref ou, .ref sa, .ref aa, .ref na, .ref va, .ref lo, .ref dm, .int fm, vI st, .ref tg, vI R.2.1, vI R.2.2, .ref pc, vI k9_127, vI s9_128, vI f9_129, vI o9_130, vI n9_131, .int w9_132])) := by rw [hc2]; exact h_134
                    have h_147 := hxT1.fr fr_137 (by simp only [List.mem_append, mem_tgT, List.mem_range, List.mem_cons, List.not_mem_nil, or_false, false_or]; omega) (by simp only [List.mem_append, mem_tgT, List.mem_range, List.mem_cons, List.not_mem_nil, or_false, false_or]; omega)
                    exact G_iretX hC hQ (by omega) (by omega) d_Mo_matches_178 ⟨_, _, _, _, _, _, _, by rw [hres], h_146, h_135, (TgA_cons hT0 h_147 h_136), (((fr_16.up (T := ([500, 513, 514] ++ tgT lv)) (by intro u hu; simp only [List.mem_append, mem_tgT, List.mem_range, List.mem_cons, List.not_mem_nil, or_false, false_or] at hu ⊢ <;> omega)).tr' (T := ([500, 513, 514] ++ tgT lv)) hfr123 (fun _ z => z) (by intro u hu; simp only [List.mem_append, mem_tgT, List.mem_range, List.mem_cons, List.not_mem_nil, or_false, false_or] at hu ⊢ <;> omega)).tr' (T := ([500, 513, 514] ++ tgT lv)) fr_137 (fun _ z => z) (by intro u hu; simp only [List.mem_append, mem_tgT, List.mem_range, List.mem_cons, List.not_mem_nil, or_false, false_or] at hu ⊢ <;> omega))⟩
              · refine G_iconst (i := 5) hC d_Mo_matches_156 ?_
                refine G_goto hC 178 (by decide) d_Mo_matches_157 ?_
                have hres : 5 = excM R.1 := (by rw [← hr]; dsimp only; unfold incS excM; (repeat' split); all_goals omega)
                have hc2 : R.2 = ((chkS es (ls, ds, fm) (11 - (lv + 1)) xT (cn + 1) vo).2.1, (chkS es (ls, ds, fm) (11 - (lv + 1)) xT (cn + 1) vo).2.2) := by rw [← hr]
                have h_148 : M_124 a = some (500, .inr (cMo, [.ref tp, vI tm, vI en, .ref ou, .ref sa, .ref aa, .ref na, .ref va, .ref lo, .ref dm, .int fm, vI st, .ref tg, vI R.2.1, vI R.2.2, .ref pc, vI k9_127, vI s9_128, vI f9_129, vI o9_130, vI n9_131, .int w9_132])) := by rw [hc2]; exact h_134
                have h_149 := hxT1.fr fr_137 (by simp only [List.mem_append, mem_tgT, List.mem_range, List.mem_cons, List.not_mem_nil, or_false, false_or]; omega) (by simp only [List.mem_append, mem_tgT, List.mem_range, List.mem_cons, List.not_mem_nil, or_false, false_or]; omega)
                exact G_iretX hC hQ (by omega) (by omega) d_Mo_matches_178 ⟨_, _, _, _, _, _, _, by rw [hres], h_148, h_135, (TgA_cons hT0 h_149 h_136), (((fr_16.up (T := ([500, 513, 514] ++ tgT lv)) (by intro u hu; simp only [List.mem_append, mem_tgT, List.mem_range, List.mem_cons, List.not_mem_nil, or_false, false_or] at hu ⊢ <;> omega)).tr' (T := ([500, 513, 514] ++ tgT lv)) hfr123 (fun _ z => z) (by intro u hu; simp only [List.mem_append, mem_tgT, List.mem_range, List.mem_cons, List.not_mem_nil, or_false, false_or] at hu ⊢ <;> omega)).tr' (T := ([500, 513, 514] ++ tgT lv)) fr_137 (fun _ z => z) (by intro u hu; simp only [List.mem_append, mem_tgT, List.mem_range, List.mem_cons, List.not_mem_nil, or_false, false_or] at hu ⊢ <;> omega))⟩
            · refine G_iconst (i := 1) hC d_Mo_matches_146 ?_
              refine G_goto hC 178 (by decide) d_Mo_matches_147 ?_
              have hres : 1 = excM R.1 := (by rw [← hr]; dsimp only; unfold incS excM; (repeat' split); all_goals omega)
              have hc2 : R.2 = ((chkS es (ls, ds, fm) (11 - (lv + 1)) xT (cn + 1) vo).2.1, (chkS es (ls, ds, fm) (11 - (lv + 1)) xT (cn + 1) vo).2.2) := by rw [← hr]
              have h_150 : M_124 a = some (500, .inr (cMo, [.ref tp, vI tm, vI en, .ref ou, .ref sa, .ref aa, .ref na, .ref va, .ref lo, .ref dm, .int fm, vI st, .ref tg, vI R.2.1, vI R.2.2, .ref pc, vI k9_127, vI s9_128, vI f9_129, vI o9_130, vI n9_131, .int w9_132])) := by rw [hc2]; exact h_134
              have h_151 := hxT1.fr fr_137 (by simp only [List.mem_append, mem_tgT, List.mem_range, List.mem_cons, List.not_mem_nil, or_false, false_or]; omega) (by simp only [List.mem_append, mem_tgT, List.mem_range, List.mem_cons, List.not_mem_nil, or_false, false_or]; omega)
              exact G_iretX hC hQ (by omega) (by omega) d_Mo_matches_178 ⟨_, _, _, _, _, _, _, by rw [hres], h_150, h_135, (TgA_cons hT0 h_151 h_136), (((fr_16.up (T := ([500, 513, 514] ++ tgT lv)) (by intro u hu; simp only [List.mem_append, mem_tgT, List.mem_range, List.mem_cons, List.not_mem_nil, or_false, false_or] at hu ⊢ <;> omega)).tr' (T := ([500, 513, 514] ++ tgT lv)) hfr123 (fun _ z => z) (by intro u hu; simp only [List.mem_append, mem_tgT, List.mem_range, List.mem_cons, List.not_mem_nil, or_false, false_or] at hu ⊢ <;> omega)).tr' (T := ([500, 513, 514] ++ tgT lv)) fr_137 (fun _ z => z) (by intro u hu; simp only [List.mem_append, mem_tgT, List.mem_range, List.mem_cons, List.not_mem_nil, or_false, false_or] at hu ⊢ <;> omega))⟩
        refine G_aload_n hC 3 rfl rfl d_Mo_matches_80 ?_
        refine G_get hC fl_Mo_141 h_15 rfl d_Mo_matches_81 ?_
        refine G_if_ge hC 104 (by omega) (by decide) d_Mo_matches_84 (fun c_152 => ?_) (fun c_152 => ?_)
        · obtain ⟨d9, hd9, hdo⟩ := (rq_some hfl htp hst (by omega)).2.1 (by omega)
          have h_153 := h_Tx_v.fr fr_16 (by simp only [List.mem_cons, List.not_mem_nil, or_false, not_or, not_false_eq_true]; try omega) (by simp only [List.mem_cons, List.not_mem_nil, or_false, not_or, not_false_eq_true]; try omega)
          have g_157 := h_153.len
          obtain ⟨r_154, h_155, h_156⟩ := id h_153
          refine G_aload_n hC 3 rfl rfl d_Mo_matches_104 ?_
          refine G_aload_n hC 4 rfl rfl d_Mo_matches_105 ?_
          refine G_get hC fl_Mo_192 h_155 rfl d_Mo_matches_106 ?_
          refine G_aload_n hC 3 rfl rfl d_Mo_matches_109 ?_
          refine G_get hC fl_Mo_141 h_15 rfl d_Mo_matches_110 ?_
          refine G_aload_n hC 3 rfl rfl d_Mo_matches_113 ?_
          refine G_get hC fl_Mo_144 h_15 rfl d_Mo_matches_114 ?_
          refine G_aload_n hC 5 rfl rfl d_Mo_matches_117 ?_
          refine G_aload hC 0 rfl d_Mo_matches_118 ?_
          have h_158 := h_Tx_lo.fr fr_16 (by decide) (by decide)
          have h_159 := h_Tx_dm.fr fr_16 (by decide) (by decide)
          have h_160 := h_Tx_d.fr fr_16 (by simp only [List.mem_cons, List.not_mem_nil, or_false, not_or, not_false_eq_true]; try omega) (by simp only [List.mem_cons, List.not_mem_nil, or_false, not_or, not_false_eq_true]; try omega)
          have h_161 := h_Tx_pc.fr fr_16 (by decide) (by decide)
          refine G_xV (rest := []) hC hR (c_Mo_expand2 h_15 h_156 h_158 h_159 h_160 h_161 hT1 (by first | exact ht | (unfold tgP; omega)) (by first | exact htd | (unfold tdP; omega)) (by first | exact htr | (unfold trP; omega)) (by omega) hsn (by omega) hdo.2.2.2.2.2 rfl) cv_Mo_228 ⟨_, _, h_15⟩ (by omega) (by omega) (by omega) rfl rfl (Nat.le_of_ble_eq_true rfl) d_Mo_matches_120 (fun r_164 M_162 p_163 => ?_)
          obtain ⟨ps1_165, rfl, h_166, h_167, fr_168⟩ := p_163
          show G E M_162 (0 + 0) (0 + 0) [(6, .ref T0), (5, vI n0), (4, vI k0), (0, .ref a), (1, .ref v), (2, .ref d), (3, vI dd)] [] 123
          refine G_lv [3, 4, 5, 6, 2, 1, 0] rfl ?_
          exact J123 M_162 _ _ (fr_168.up (T := [513, 514, 520 + 2 * lv, 520 + 2 * lv + 1]) (by simp)) h_166 h_167 (by rw [tgQ_s hd9, tg_take, hdo.1, hdo.2.1])
        · have hDn := (rq_some hfl htp hst (by omega)).1 (by omega)
          have h_169 := h_Tx_d.fr fr_16 (by simp only [List.mem_cons, List.not_mem_nil, or_false, not_or, not_false_eq_true]; try omega) (by simp only [List.mem_cons, List.not_mem_nil, or_false, not_or, not_false_eq_true]; try omega)
          have g_173 := h_169.len
          obtain ⟨r_170, h_171, h_172⟩ := id h_169
          refine G_aload hC 0 rfl d_Mo_matches_87 ?_
          refine G_aload_n hC 5 rfl rfl d_Mo_matches_89 ?_
          refine G_get hC fl_Mo_192 h_171 rfl d_Mo_matches_90 ?_
          refine G_iconst (i := 0) hC d_Mo_matches_93 ?_
          refine G_aload_n hC 5 rfl rfl d_Mo_matches_94 ?_
          refine G_get hC fl_Mo_86 h_171 rfl d_Mo_matches_95 ?_
          refine G_xV (rest := []) hC hR (c_Tx_set hT1 h_172 (by omega) (by omega) (by omega)) cv_Mo_82 hT1.obj (by omega) (by omega) (by omega) rfl rfl (Nat.le_of_ble_eq_true rfl) d_Mo_matches_98 (fun r_176 M_174 p_175 => ?_)
          obtain ⟨rfl, h_177, fr_178⟩ := p_175
          show G E M_174 (0 + 0) (0 + 0) [(6, .ref T0), (5, vI n0), (4, vI k0), (0, .ref a), (1, .ref v), (2, .ref d), (3, vI dd)] [] 101
          refine G_goto hC 123 (by decide) d_Mo_matches_101 ?_
          refine G_lv [3, 4, 5, 6, 2, 1, 0] rfl ?_
          have h_179 := h_Tx_pc.fr fr_16 (by decide) (by decide)
          have h_180 := h_179.fr fr_178 (by simp only [List.mem_cons, List.not_mem_nil, or_false, not_or, not_false_eq_true]; try omega) (by simp only [List.mem_cons, List.not_mem_nil, or_false, not_or, not_false_eq_true]; try omega)
          exact J123 M_174 _ _ (fr_178.up (T := [513, 514, 520 + 2 * lv, 520 + 2 * lv + 1]) (by simp)) h_177 h_180 (by rw [tgQ_n hDn, List.nil_append, sl_all])
      · refine G_bipush (j := 6) hC (by decide +kernel) d_Mo_matches_69 ?_
        rw [mat_over hkd (by omega)] at hr
        have hres : 6 = excM R.1 := (by rw [← hr]; rfl)
        have hc2 : R.2 = (cn + 1, vo) := by rw [← hr]
        have h_181 : M_14 a = some (500, .inr (cMo, [.ref tp, vI tm, vI en, .ref ou, .ref sa, .ref aa, .ref na, .ref va, .ref lo, .ref dm, .int fm, vI st, .ref tg, vI R.2.1, vI R.2.2, .ref pc, vI k0, vI s0, vI f0, vI o0, vI n0, .int w0])) := by rw [hc2]; exact h_15
        have h_182 := h_Tx_pc.fr fr_16 (by decide) (by decide)
        have h_183 := h_TgA_ft.fr fr_16 (by intro u hu; simp only [List.mem_cons, List.not_mem_nil, or_false] at hu <;> omega)
        exact G_iretX hC hQ (by omega) (by omega) d_Mo_matches_71 ⟨_, _, _, _, _, _, _, by rw [hres], h_181, h_182, h_183, (fr_16.up (T := ([500, 513, 514] ++ tgT lv)) (by intro u hu; simp only [List.mem_append, mem_tgT, List.mem_range, List.mem_cons, List.not_mem_nil, or_false, false_or] at hu ⊢ <;> omega))⟩
    · have hn4 := hf2 (by omega)
      have hw4 := hf3 (by omega)
      refine G_aload_n hC 0 rfl rfl d_Mo_matches_17 ?_
      refine G_aload_n hC 0 rfl rfl d_Mo_matches_18 ?_
      refine G_get hC fl_Mo_132 h_obj_a rfl d_Mo_matches_19 ?_
      refine G_aload_n hC 0 rfl rfl d_Mo_matches_22 ?_
      refine G_get hC fl_Mo_147 h_obj_a rfl d_Mo_matches_23 ?_
      refine G_pV (rest := []) hC hR (c_Mo_isSender h_obj_a (by omega)) cv_Mo_231 ⟨_, _, h_obj_a⟩ (by omega) (by omega) (by omega) rfl rfl (Nat.le_of_ble_eq_true rfl) d_Mo_matches_26 ?_
      refine G_if_eq hC 36 (by have := b2i_rng (sbS w0 fm n0); omega) (by decide) d_Mo_matches_29 (fun c_184 => ?_) (fun c_184 => ?_)
      · have c_184 := b2i_eq0.mp c_184
        refine G_iconst (i := 0) hC d_Mo_matches_36 ?_
        rw [hn4, hw4] at c_184
        rw [mat_4 (by omega)] at hr
        dsimp only at hr
        rw [if_neg (nt c_184)] at hr
        have hres : 0 = excM R.1 := (by rw [← hr]; rfl)
        have hc2 : R.2 = (cn, vo) := by rw [← hr]
        have h_185 : M a = some (500, .inr (cMo, [.ref tp, vI tm, vI en, .ref ou, .ref sa, .ref aa, .ref na, .ref va, .ref lo, .ref dm, .int fm, vI st, .ref tg, vI R.2.1, vI R.2.2, .ref pc, vI k0, vI s0, vI f0, vI o0, vI n0, .int w0])) := by rw [hc2]; exact h_obj_a
        exact G_iretX hC hQ (by omega) (by omega) d_Mo_matches_37 ⟨_, _, _, _, _, _, _, by rw [hres], h_185, h_Tx_pc, h_TgA_ft, Fr.rf⟩
      · have c_184 := b2i_ne0.mp c_184
        refine G_iconst (i := 1) hC d_Mo_matches_32 ?_
        refine G_goto hC 37 (by decide) d_Mo_matches_33 ?_
        rw [hn4, hw4] at c_184
        rw [mat_4 (by omega)] at hr
        dsimp only at hr
        rw [if_pos c_184] at hr
        have hres : 1 = excM R.1 := (by rw [← hr]; rfl)
        have hc2 : R.2 = (cn, vo) := by rw [← hr]
        have h_186 : M a = some (500, .inr (cMo, [.ref tp, vI tm, vI en, .ref ou, .ref sa, .ref aa, .ref na, .ref va, .ref lo, .ref dm, .int fm, vI st, .ref tg, vI R.2.1, vI R.2.2, .ref pc, vI k0, vI s0, vI f0, vI o0, vI n0, .int w0])) := by rw [hc2]; exact h_obj_a
        exact G_iretX hC hQ (by omega) (by omega) d_Mo_matches_37 ⟨_, _, _, _, _, _, _, by rw [hres], h_186, h_Tx_pc, h_TgA_ft, Fr.rf⟩
  · refine G_iconst (i := 1) hC d_Mo_matches_7 ?_
    rw [mat_0 (by omega)] at hr
    have hres : 1 = excM R.1 := (by rw [← hr]; rfl)
    have hc2 : R.2 = (cn, vo) := by rw [← hr]
    have h_187 : M a = some (500, .inr (cMo, [.ref tp, vI tm, vI en, .ref ou, .ref sa, .ref aa, .ref na, .ref va, .ref lo, .ref dm, .int fm, vI st, .ref tg, vI R.2.1, vI R.2.2, .ref pc, vI k0, vI s0, vI f0, vI o0, vI n0, .int w0])) := by rw [hc2]; exact h_obj_a
    exact G_iretX hC hQ (by omega) (by omega) d_Mo_matches_8 ⟨_, _, _, _, _, _, _, by rw [hres], h_187, h_Tx_pc, h_TgA_ft, Fr.rf⟩
