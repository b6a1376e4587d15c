theorem fws_Po : ∀ w ∈ u_ws R_Po F_Po 6, w ∈ TB := by decide +kernel
theorem ft_Po : FT cPo t_Po := fun C T N h => by
  have h2 : some (R_Po, F_Po, 6) = some (C, T, N) := h
  cases h2
  exact ⟨by decide +kernel, by decide +kernel⟩
theorem fl_Po_49 : FL "SendPolicy" 49 cPo 5 := ⟨R_Po, F_Po, 6, rfl, fws_Po, (Nat.le_of_ble_eq_true rfl), (tb_in 214 (by decide +kernel) rfl)⟩
set_option maxRecDepth 100000 in
theorem mw_Ch_counted : MW y_Ch_counted b_Ch_counted 1 (some .int) 0 := ⟨tb_in 652 rfl rfl, (tb_in 36 (by decide +kernel) rfl), ⟨by decide +kernel, by decide +kernel, by decide +kernel⟩, (Nat.le_of_ble_eq_true rfl)⟩
theorem cv_Po_85 : CV "SendPolicy" 85 y_Ch_counted b_Ch_counted 1 (some .int) 0 cCh := ⟨mw_Ch_counted, (tb_in 649 (by decide +kernel) rfl), (tb_in 650 (by decide +kernel) rfl), (tb_in 651 (by decide +kernel) rfl), _, rfl, rfl⟩
set_option maxRecDepth 100000 in
theorem mw_Ch_voids : MW y_Ch_voids b_Ch_voids 1 (some .int) 0 := ⟨tb_in 656 rfl rfl, (tb_in 36 (by decide +kernel) rfl), ⟨by decide +kernel, by decide +kernel, by decide +kernel⟩, (Nat.le_of_ble_eq_true rfl)⟩
theorem cv_Po_88 : CV "SendPolicy" 88 y_Ch_voids b_Ch_voids 1 (some .int) 0 cCh := ⟨mw_Ch_voids, (tb_in 653 (by decide +kernel) rfl), (tb_in 654 (by decide +kernel) rfl), (tb_in 655 (by decide +kernel) rfl), _, rfl, rfl⟩
theorem fl_Po_14 : FL "SendPolicy" 14 cPo 0 := ⟨R_Po, F_Po, 6, rfl, fws_Po, (Nat.le_of_ble_eq_true rfl), (tb_in 209 (by decide +kernel) rfl)⟩
theorem cv_Po_53 : CV "SendPolicy" 53 y_By_size b_By_size 1 (some .int) 0 cBy := ⟨mw_By_size, (tb_in 232 (by decide +kernel) rfl), (tb_in 233 (by decide +kernel) rfl), (tb_in 234 (by decide +kernel) rfl), _, rfl, rfl⟩
theorem cv_Po_60 : CV "SendPolicy" 60 y_By_cut b_By_cut 2 none 1 cBy := ⟨mw_By_cut, (tb_in 262 (by decide +kernel) rfl), (tb_in 263 (by decide +kernel) rfl), (tb_in 264 (by decide +kernel) rfl), _, rfl, rfl⟩
theorem fl_Po_24 : FL "SendPolicy" 24 cPo 2 := ⟨R_Po, F_Po, 6, rfl, fws_Po, (Nat.le_of_ble_eq_true rfl), (tb_in 211 (by decide +kernel) rfl)⟩
theorem cv_Po_63 : CV "SendPolicy" 63 y_Di_size b_Di_size 1 (some .int) 0 cDi := ⟨mw_Di_size, (tb_in 270 (by decide +kernel) rfl), (tb_in 271 (by decide +kernel) rfl), (tb_in 272 (by decide +kernel) rfl), _, rfl, rfl⟩
set_option maxRecDepth 100000 in
theorem mw_Di_take : MW y_Di_take b_Di_take 7 (some .boolean) 3 := ⟨tb_in 277 rfl rfl, (tb_in 33 (by decide +kernel) rfl), ⟨by decide +kernel, by decide +kernel, by decide +kernel⟩, (Nat.le_of_ble_eq_true rfl)⟩
theorem cv_Po_64 : CV "SendPolicy" 64 y_Di_take b_Di_take 7 (some .boolean) 3 cDi := ⟨mw_Di_take, (tb_in 274 (by decide +kernel) rfl), (tb_in 275 (by decide +kernel) rfl), (tb_in 276 (by decide +kernel) rfl), _, rfl, rfl⟩
theorem fl_Po_31 : FL "SendPolicy" 31 cPo 3 := ⟨R_Po, F_Po, 6, rfl, fws_Po, (Nat.le_of_ble_eq_true rfl), (tb_in 212 (by decide +kernel) rfl)⟩
set_option maxRecDepth 100000 in
theorem mw_Se_isKnown : MW y_Se_isKnown b_Se_isKnown 1 (some .boolean) 0 := ⟨tb_in 376 rfl rfl, (tb_in 34 (by decide +kernel) rfl), ⟨by decide +kernel, by decide +kernel, by decide +kernel⟩, (Nat.le_of_ble_eq_true rfl)⟩
theorem cv_Po_74 : CV "SendPolicy" 74 y_Se_isKnown b_Se_isKnown 1 (some .boolean) 0 cSe := ⟨mw_Se_isKnown, (tb_in 373 (by decide +kernel) rfl), (tb_in 374 (by decide +kernel) rfl), (tb_in 375 (by decide +kernel) rfl), _, rfl, rfl⟩
theorem cs_Po_91 : CS "SendPolicy" 91 y_Ma_isTarget b_Ma_isTarget 6 (some .boolean) 3 := ⟨mw_Ma_isTarget, (tb_in 661 (by decide +kernel) rfl), (tb_in 496 (by decide +kernel) rfl)⟩
theorem fl_Po_18 : FL "SendPolicy" 18 cPo 1 := ⟨R_Po, F_Po, 6, rfl, fws_Po, (Nat.le_of_ble_eq_true rfl), (tb_in 210 (by decide +kernel) rfl)⟩
theorem fl_Po_40 : FL "SendPolicy" 40 cPo 4 := ⟨R_Po, F_Po, 6, rfl, fws_Po, (Nat.le_of_ble_eq_true rfl), (tb_in 213 (by decide +kernel) rfl)⟩
theorem cv_Po_95 : CV "SendPolicy" 95 y_Se_domain b_Se_domain 1 (some (.object "SendPolicy$Bytes")) 0 cSe := ⟨mw_Se_domain, (tb_in 662 (by decide +kernel) rfl), (tb_in 383 (by decide +kernel) rfl), (tb_in 384 (by decide +kernel) rfl), _, rfl, rfl⟩
theorem cv_Po_99 : CV "SendPolicy" 99 y_Ma_write b_Ma_write 12 none 5 cMa := ⟨mw_Ma_write, (tb_in 663 (by decide +kernel) rfl), (tb_in 590 (by decide +kernel) rfl), (tb_in 591 (by decide +kernel) rfl), _, rfl, rfl⟩
set_option maxRecDepth 100000 in
theorem mw_By_addFour : MW y_By_addFour b_By_addFour 2 none 1 := ⟨tb_in 239 rfl rfl, (tb_in 31 (by decide +kernel) rfl), ⟨by decide +kernel, by decide +kernel, by decide +kernel⟩, (Nat.le_of_ble_eq_true rfl)⟩
theorem cv_Po_57 : CV "SendPolicy" 57 y_By_addFour b_By_addFour 2 none 1 cBy := ⟨mw_By_addFour, (tb_in 236 (by decide +kernel) rfl), (tb_in 237 (by decide +kernel) rfl), (tb_in 238 (by decide +kernel) rfl), _, rfl, rfl⟩
set_option maxRecDepth 100000 in
theorem mw_Di_clear : MW y_Di_clear b_Di_clear 1 none 0 := ⟨tb_in 340 rfl rfl, (tb_in 33 (by decide +kernel) rfl), ⟨by decide +kernel, by decide +kernel, by decide +kernel⟩, (Nat.le_of_ble_eq_true rfl)⟩
theorem cv_Po_68 : CV "SendPolicy" 68 y_Di_clear b_Di_clear 1 none 0 cDi := ⟨mw_Di_clear, (tb_in 337 (by decide +kernel) rfl), (tb_in 338 (by decide +kernel) rfl), (tb_in 339 (by decide +kernel) rfl), _, rfl, rfl⟩
theorem lm_Po_3 : Cond.methodLink "SendPolicy" 3 ⟨"java/lang/Object", "<init>", "()V"⟩ ∈ TB := (tb_in 54 (by decide +kernel) rfl)
theorem kl_Po_9 : Cond.classLink "SendPolicy" 9 "SendPolicy$Bytes" ∈ TB := (tb_in 57 (by decide +kernel) rfl)
theorem nw_Po_9 : NewW "SendPolicy" 9 cBy 3 t_By := ⟨R_By, F_By, rfl, ft_By, fws_By, kl_Po_9, (tb_in 58 (by decide +kernel) rfl), (tb_in 31 (by decide +kernel) rfl)⟩
theorem ci_Po_11 : CI "SendPolicy" 11 y_By_init b_By_init 2 1 := ⟨mw_By_init, (tb_in 59 (by decide +kernel) rfl), (tb_in 60 (by decide +kernel) rfl), rfl⟩
theorem ff_Po_0 : FF "SendPolicy" cPo 0 := fun C T N h => by
  have h2 : some (R_Po, F_Po, 6) = some (C, T, N) := h
  cases h2
  exact ⟨rfl, rfl⟩
theorem ff_Po_1 : FF "SendPolicy" cPo 1 := fun C T N h => by
  have h2 : some (R_Po, F_Po, 6) = some (C, T, N) := h
  cases h2
  exact ⟨rfl, rfl⟩
theorem kl_Po_21 : Cond.classLink "SendPolicy" 21 "SendPolicy$Directory" ∈ TB := (tb_in 77 (by decide +kernel) rfl)
theorem nw_Po_21 : NewW "SendPolicy" 21 cDi 2 t_Di := ⟨R_Di, F_Di, rfl, ft_Di, fws_Di, kl_Po_21, (tb_in 78 (by decide +kernel) rfl), (tb_in 33 (by decide +kernel) rfl)⟩
set_option maxRecDepth 100000 in
theorem mw_Di_init : MW y_Di_init b_Di_init 1 none 0 := ⟨tb_in 81 rfl rfl, (tb_in 33 (by decide +kernel) rfl), ⟨by decide +kernel, by decide +kernel, by decide +kernel⟩, (Nat.le_of_ble_eq_true rfl)⟩
theorem ci_Po_23 : CI "SendPolicy" 23 y_Di_init b_Di_init 1 0 := ⟨mw_Di_init, (tb_in 79 (by decide +kernel) rfl), (tb_in 80 (by decide +kernel) rfl), rfl⟩
theorem ff_Po_2 : FF "SendPolicy" cPo 2 := fun C T N h => by
  have h2 : some (R_Po, F_Po, 6) = some (C, T, N) := h
  cases h2
  exact ⟨rfl, rfl⟩
theorem kl_Po_28 : Cond.classLink "SendPolicy" 28 "SendPolicy$Sender" ∈ TB := (tb_in 92 (by decide +kernel) rfl)
theorem nw_Po_28 : NewW "SendPolicy" 28 cSe 5 t_Se := ⟨R_Se, F_Se, rfl, ft_Se, fws_Se, kl_Po_28, (tb_in 93 (by decide +kernel) rfl), (tb_in 34 (by decide +kernel) rfl)⟩
set_option maxRecDepth 100000 in
theorem mw_Se_init : MW y_Se_init b_Se_init 1 none 0 := ⟨tb_in 96 rfl rfl, (tb_in 34 (by decide +kernel) rfl), ⟨by decide +kernel, by decide +kernel, by decide +kernel⟩, (Nat.le_of_ble_eq_true rfl)⟩
theorem ci_Po_30 : CI "SendPolicy" 30 y_Se_init b_Se_init 1 0 := ⟨mw_Se_init, (tb_in 94 (by decide +kernel) rfl), (tb_in 95 (by decide +kernel) rfl), rfl⟩
theorem ff_Po_3 : FF "SendPolicy" cPo 3 := fun C T N h => by
  have h2 : some (R_Po, F_Po, 6) = some (C, T, N) := h
  cases h2
  exact ⟨rfl, rfl⟩
theorem kl_Po_35 : Cond.classLink "SendPolicy" 35 "SendPolicy$Macros" ∈ TB := (tb_in 116 (by decide +kernel) rfl)
theorem nw_Po_35 : NewW "SendPolicy" 35 cMa 2 t_Ma := ⟨R_Ma, F_Ma, rfl, ft_Ma, fws_Ma, kl_Po_35, (tb_in 117 (by decide +kernel) rfl), (tb_in 35 (by decide +kernel) rfl)⟩
set_option maxRecDepth 100000 in
theorem mw_Ma_init : MW y_Ma_init b_Ma_init 2 none 1 := ⟨tb_in 120 rfl rfl, (tb_in 35 (by decide +kernel) rfl), ⟨by decide +kernel, by decide +kernel, by decide +kernel⟩, (Nat.le_of_ble_eq_true rfl)⟩
theorem ci_Po_37 : CI "SendPolicy" 37 y_Ma_init b_Ma_init 2 1 := ⟨mw_Ma_init, (tb_in 118 (by decide +kernel) rfl), (tb_in 119 (by decide +kernel) rfl), rfl⟩
theorem ff_Po_4 : FF "SendPolicy" cPo 4 := fun C T N h => by
  have h2 : some (R_Po, F_Po, 6) = some (C, T, N) := h
  cases h2
  exact ⟨rfl, rfl⟩
theorem kl_Po_44 : Cond.classLink "SendPolicy" 44 "SendPolicy$Checker" ∈ TB := (tb_in 130 (by decide +kernel) rfl)
theorem nw_Po_44 : NewW "SendPolicy" 44 cCh 7 t_Ch := ⟨R_Ch, F_Ch, rfl, ft_Ch, fws_Ch, kl_Po_44, (tb_in 131 (by decide +kernel) rfl), (tb_in 36 (by decide +kernel) rfl)⟩
set_option maxRecDepth 100000 in
theorem mw_Ch_init : MW y_Ch_init b_Ch_init 5 none 3 := ⟨tb_in 134 rfl rfl, (tb_in 36 (by decide +kernel) rfl), ⟨by decide +kernel, by decide +kernel, by decide +kernel⟩, (Nat.le_of_ble_eq_true rfl)⟩
theorem ci_Po_46 : CI "SendPolicy" 46 y_Ch_init b_Ch_init 5 3 := ⟨mw_Ch_init, (tb_in 132 (by decide +kernel) rfl), (tb_in 133 (by decide +kernel) rfl), rfl⟩
theorem ff_Po_5 : FF "SendPolicy" cPo 5 := fun C T N h => by
  have h2 : some (R_Po, F_Po, 6) = some (C, T, N) := h
  cases h2
  exact ⟨rfl, rfl⟩
theorem cv_Po_103 : CV "SendPolicy" 103 y_By_at b_By_at 2 (some .int) 1 cBy := ⟨mw_By_at, (tb_in 668 (by decide +kernel) rfl), (tb_in 284 (by decide +kernel) rfl), (tb_in 285 (by decide +kernel) rfl), _, rfl, rfl⟩
set_option maxRecDepth 100000 in
theorem mw_Ch_begin : MW y_Ch_begin b_Ch_begin 2 none 0 := ⟨tb_in 380 rfl rfl, (tb_in 36 (by decide +kernel) rfl), ⟨by decide +kernel, by decide +kernel, by decide +kernel⟩, (Nat.le_of_ble_eq_true rfl)⟩
theorem cv_Po_78 : CV "SendPolicy" 78 y_Ch_begin b_Ch_begin 2 none 0 cCh := ⟨mw_Ch_begin, (tb_in 377 (by decide +kernel) rfl), (tb_in 378 (by decide +kernel) rfl), (tb_in 379 (by decide +kernel) rfl), _, rfl, rfl⟩
theorem cv_Po_81 : CV "SendPolicy" 81 y_Ch_check b_Ch_check 6 (some .int) 1 cCh := ⟨mw_Ch_check, (tb_in 388 (by decide +kernel) rfl), (tb_in 389 (by decide +kernel) rfl), (tb_in 390 (by decide +kernel) rfl), _, rfl, rfl⟩
set_option maxRecDepth 100000 in
theorem mw_Se_take : MW y_Se_take b_Se_take 5 (some .boolean) 2 := ⟨tb_in 348 rfl rfl, (tb_in 34 (by decide +kernel) rfl), ⟨by decide +kernel, by decide +kernel, by decide +kernel⟩, (Nat.le_of_ble_eq_true rfl)⟩
theorem cv_Po_71 : CV "SendPolicy" 71 y_Se_take b_Se_take 5 (some .boolean) 2 cSe := ⟨mw_Se_take, (tb_in 345 (by decide +kernel) rfl), (tb_in 346 (by decide +kernel) rfl), (tb_in 347 (by decide +kernel) rfl), _, rfl, rfl⟩
/-! DECODE ROWS: printed by wip/gen/names.py -/
theorem d_Po_cost_0 : decode b_Po_cost 0 = .ok (.iload_n 1, 1) := by decide +kernel
theorem d_Po_cost_1 : decode b_Po_cost 1 = .ok (.ifCond .ne 11, 3) := by decide +kernel
theorem d_Po_cost_4 : decode b_Po_cost 4 = .ok (.aload_n 0, 1) := by decide +kernel
theorem d_Po_cost_5 : decode b_Po_cost 5 = .ok (.getfield 49, 3) := by decide +kernel
theorem d_Po_cost_8 : decode b_Po_cost 8 = .ok (.invokevirtual 85, 3) := by decide +kernel
theorem d_Po_cost_11 : decode b_Po_cost 11 = .ok (.ireturn, 1) := by decide +kernel
theorem d_Po_cost_12 : decode b_Po_cost 12 = .ok (.iload_n 1, 1) := by decide +kernel
theorem d_Po_cost_13 : decode b_Po_cost 13 = .ok (.iconst 1, 1) := by decide +kernel
theorem d_Po_cost_14 : decode b_Po_cost 14 = .ok (.if_icmp .ne 13, 3) := by decide +kernel
theorem d_Po_cost_17 : decode b_Po_cost 17 = .ok (.aload_n 0, 1) := by decide +kernel
theorem d_Po_cost_18 : decode b_Po_cost 18 = .ok (.getfield 49, 3) := by decide +kernel
theorem d_Po_cost_21 : decode b_Po_cost 21 = .ok (.invokevirtual 88, 3) := by decide +kernel
theorem d_Po_cost_24 : decode b_Po_cost 24 = .ok (.goto 4, 3) := by decide +kernel
theorem d_Po_cost_27 : decode b_Po_cost 27 = .ok (.iconst (-1), 1) := by decide +kernel
theorem d_Po_cost_28 : decode b_Po_cost 28 = .ok (.ireturn, 1) := by decide +kernel
theorem d_Po_end_0 : decode b_Po_end 0 = .ok (.iload_n 1, 1) := by decide +kernel
theorem d_Po_end_1 : decode b_Po_end 1 = .ok (.ifCond .lt 14, 3) := by decide +kernel
theorem d_Po_end_4 : decode b_Po_end 4 = .ok (.iload_n 1, 1) := by decide +kernel
theorem d_Po_end_5 : decode b_Po_end 5 = .ok (.aload_n 0, 1) := by decide +kernel
theorem d_Po_end_6 : decode b_Po_end 6 = .ok (.getfield 14, 3) := by decide +kernel
theorem d_Po_end_9 : decode b_Po_end 9 = .ok (.invokevirtual 53, 3) := by decide +kernel
theorem d_Po_end_12 : decode b_Po_end 12 = .ok (.if_icmp .le 5, 3) := by decide +kernel
theorem d_Po_end_15 : decode b_Po_end 15 = .ok (.iconst (-1), 1) := by decide +kernel
theorem d_Po_end_16 : decode b_Po_end 16 = .ok (.ireturn, 1) := by decide +kernel
theorem d_Po_end_17 : decode b_Po_end 17 = .ok (.aload_n 0, 1) := by decide +kernel
theorem d_Po_end_18 : decode b_Po_end 18 = .ok (.getfield 14, 3) := by decide +kernel
theorem d_Po_end_21 : decode b_Po_end 21 = .ok (.iload_n 1, 1) := by decide +kernel
theorem d_Po_end_22 : decode b_Po_end 22 = .ok (.invokevirtual 60, 3) := by decide +kernel
theorem d_Po_end_25 : decode b_Po_end 25 = .ok (.iload_n 1, 1) := by decide +kernel
theorem d_Po_end_26 : decode b_Po_end 26 = .ok (.ireturn, 1) := by decide +kernel
theorem d_Po_entry_0 : decode b_Po_entry 0 = .ok (.aload_n 0, 1) := by decide +kernel
theorem d_Po_entry_1 : decode b_Po_entry 1 = .ok (.getfield 24, 3) := by decide +kernel
theorem d_Po_entry_4 : decode b_Po_entry 4 = .ok (.invokevirtual 63, 3) := by decide +kernel
theorem d_Po_entry_7 : decode b_Po_entry 7 = .ok (.bipush 40, 2) := by decide +kernel
theorem d_Po_entry_9 : decode b_Po_entry 9 = .ok (.if_icmp .lt 7, 3) := by decide +kernel
theorem d_Po_entry_12 : decode b_Po_entry 12 = .ok (.iconst 1, 1) := by decide +kernel
theorem d_Po_entry_13 : decode b_Po_entry 13 = .ok (.goto 4, 3) := by decide +kernel
theorem d_Po_entry_16 : decode b_Po_entry 16 = .ok (.iconst 0, 1) := by decide +kernel
theorem d_Po_entry_17 : decode b_Po_entry 17 = .ok (.istore_n 3, 1) := by decide +kernel
theorem d_Po_entry_18 : decode b_Po_entry 18 = .ok (.iload_n 3, 1) := by decide +kernel
theorem d_Po_entry_19 : decode b_Po_entry 19 = .ok (.ifCond .ne 23, 3) := by decide +kernel
theorem d_Po_entry_22 : decode b_Po_entry 22 = .ok (.aload_n 0, 1) := by decide +kernel
theorem d_Po_entry_23 : decode b_Po_entry 23 = .ok (.getfield 24, 3) := by decide +kernel
theorem d_Po_entry_26 : decode b_Po_entry 26 = .ok (.iload_n 1, 1) := by decide +kernel
theorem d_Po_entry_27 : decode b_Po_entry 27 = .ok (.iload_n 2, 1) := by decide +kernel
theorem d_Po_entry_28 : decode b_Po_entry 28 = .ok (.aload_n 0, 1) := by decide +kernel
theorem d_Po_entry_29 : decode b_Po_entry 29 = .ok (.getfield 14, 3) := by decide +kernel
theorem d_Po_entry_32 : decode b_Po_entry 32 = .ok (.invokevirtual 64, 3) := by decide +kernel
theorem d_Po_entry_35 : decode b_Po_entry 35 = .ok (.ifCond .eq 7, 3) := by decide +kernel
theorem d_Po_entry_38 : decode b_Po_entry 38 = .ok (.iconst 1, 1) := by decide +kernel
theorem d_Po_entry_39 : decode b_Po_entry 39 = .ok (.goto 4, 3) := by decide +kernel
theorem d_Po_entry_42 : decode b_Po_entry 42 = .ok (.iconst 0, 1) := by decide +kernel
theorem d_Po_entry_43 : decode b_Po_entry 43 = .ok (.istore 4, 2) := by decide +kernel
theorem d_Po_entry_45 : decode b_Po_entry 45 = .ok (.aload_n 0, 1) := by decide +kernel
theorem d_Po_entry_46 : decode b_Po_entry 46 = .ok (.getfield 14, 3) := by decide +kernel
theorem d_Po_entry_49 : decode b_Po_entry 49 = .ok (.iconst 0, 1) := by decide +kernel
theorem d_Po_entry_50 : decode b_Po_entry 50 = .ok (.invokevirtual 60, 3) := by decide +kernel
theorem d_Po_entry_53 : decode b_Po_entry 53 = .ok (.iload_n 3, 1) := by decide +kernel
theorem d_Po_entry_54 : decode b_Po_entry 54 = .ok (.ifCond .eq 6, 3) := by decide +kernel
theorem d_Po_entry_57 : decode b_Po_entry 57 = .ok (.bipush (-3), 2) := by decide +kernel
theorem d_Po_entry_59 : decode b_Po_entry 59 = .ok (.ireturn, 1) := by decide +kernel
theorem d_Po_entry_60 : decode b_Po_entry 60 = .ok (.iload 4, 2) := by decide +kernel
theorem d_Po_entry_62 : decode b_Po_entry 62 = .ok (.ifCond .eq 13, 3) := by decide +kernel
theorem d_Po_entry_65 : decode b_Po_entry 65 = .ok (.aload_n 0, 1) := by decide +kernel
theorem d_Po_entry_66 : decode b_Po_entry 66 = .ok (.getfield 24, 3) := by decide +kernel
theorem d_Po_entry_69 : decode b_Po_entry 69 = .ok (.invokevirtual 63, 3) := by decide +kernel
theorem d_Po_entry_72 : decode b_Po_entry 72 = .ok (.goto 4, 3) := by decide +kernel
theorem d_Po_entry_75 : decode b_Po_entry 75 = .ok (.iconst (-1), 1) := by decide +kernel
theorem d_Po_entry_76 : decode b_Po_entry 76 = .ok (.ireturn, 1) := by decide +kernel
theorem d_Po_expand_0 : decode b_Po_expand 0 = .ok (.aload_n 0, 1) := by decide +kernel
theorem d_Po_expand_1 : decode b_Po_expand 1 = .ok (.getfield 31, 3) := by decide +kernel
theorem d_Po_expand_4 : decode b_Po_expand 4 = .ok (.invokevirtual 74, 3) := by decide +kernel
theorem d_Po_expand_7 : decode b_Po_expand 7 = .ok (.ifCond .eq 25, 3) := by decide +kernel
theorem d_Po_expand_10 : decode b_Po_expand 10 = .ok (.aload_n 0, 1) := by decide +kernel
theorem d_Po_expand_11 : decode b_Po_expand 11 = .ok (.getfield 14, 3) := by decide +kernel
theorem d_Po_expand_14 : decode b_Po_expand 14 = .ok (.iconst 0, 1) := by decide +kernel
theorem d_Po_expand_15 : decode b_Po_expand 15 = .ok (.aload_n 0, 1) := by decide +kernel
theorem d_Po_expand_16 : decode b_Po_expand 16 = .ok (.getfield 14, 3) := by decide +kernel
theorem d_Po_expand_19 : decode b_Po_expand 19 = .ok (.invokevirtual 53, 3) := by decide +kernel
theorem d_Po_expand_22 : decode b_Po_expand 22 = .ok (.invokestatic 91, 3) := by decide +kernel
theorem d_Po_expand_25 : decode b_Po_expand 25 = .ok (.ifCond .eq 7, 3) := by decide +kernel
theorem d_Po_expand_28 : decode b_Po_expand 28 = .ok (.iconst 1, 1) := by decide +kernel
theorem d_Po_expand_29 : decode b_Po_expand 29 = .ok (.goto 4, 3) := by decide +kernel
theorem d_Po_expand_32 : decode b_Po_expand 32 = .ok (.iconst 0, 1) := by decide +kernel
theorem d_Po_expand_33 : decode b_Po_expand 33 = .ok (.istore_n 1, 1) := by decide +kernel
theorem d_Po_expand_34 : decode b_Po_expand 34 = .ok (.iload_n 1, 1) := by decide +kernel
theorem d_Po_expand_35 : decode b_Po_expand 35 = .ok (.ifCond .eq 41, 3) := by decide +kernel
theorem d_Po_expand_38 : decode b_Po_expand 38 = .ok (.aload_n 0, 1) := by decide +kernel
theorem d_Po_expand_39 : decode b_Po_expand 39 = .ok (.getfield 18, 3) := by decide +kernel
theorem d_Po_expand_42 : decode b_Po_expand 42 = .ok (.iconst 0, 1) := by decide +kernel
theorem d_Po_expand_43 : decode b_Po_expand 43 = .ok (.invokevirtual 60, 3) := by decide +kernel
theorem d_Po_expand_46 : decode b_Po_expand 46 = .ok (.aload_n 0, 1) := by decide +kernel
theorem d_Po_expand_47 : decode b_Po_expand 47 = .ok (.getfield 40, 3) := by decide +kernel
theorem d_Po_expand_50 : decode b_Po_expand 50 = .ok (.aload_n 0, 1) := by decide +kernel
theorem d_Po_expand_51 : decode b_Po_expand 51 = .ok (.getfield 14, 3) := by decide +kernel
theorem d_Po_expand_54 : decode b_Po_expand 54 = .ok (.iconst 0, 1) := by decide +kernel
theorem d_Po_expand_55 : decode b_Po_expand 55 = .ok (.aload_n 0, 1) := by decide +kernel
theorem d_Po_expand_56 : decode b_Po_expand 56 = .ok (.getfield 14, 3) := by decide +kernel
theorem d_Po_expand_59 : decode b_Po_expand 59 = .ok (.invokevirtual 53, 3) := by decide +kernel
theorem d_Po_expand_62 : decode b_Po_expand 62 = .ok (.aload_n 0, 1) := by decide +kernel
theorem d_Po_expand_63 : decode b_Po_expand 63 = .ok (.getfield 31, 3) := by decide +kernel
theorem d_Po_expand_66 : decode b_Po_expand 66 = .ok (.invokevirtual 95, 3) := by decide +kernel
theorem d_Po_expand_69 : decode b_Po_expand 69 = .ok (.aload_n 0, 1) := by decide +kernel
theorem d_Po_expand_70 : decode b_Po_expand 70 = .ok (.getfield 18, 3) := by decide +kernel
theorem d_Po_expand_73 : decode b_Po_expand 73 = .ok (.invokevirtual 99, 3) := by decide +kernel
theorem d_Po_expand_76 : decode b_Po_expand 76 = .ok (.aload_n 0, 1) := by decide +kernel
theorem d_Po_expand_77 : decode b_Po_expand 77 = .ok (.getfield 14, 3) := by decide +kernel
theorem d_Po_expand_80 : decode b_Po_expand 80 = .ok (.iconst 0, 1) := by decide +kernel
theorem d_Po_expand_81 : decode b_Po_expand 81 = .ok (.invokevirtual 60, 3) := by decide +kernel
theorem d_Po_expand_84 : decode b_Po_expand 84 = .ok (.iload_n 1, 1) := by decide +kernel
theorem d_Po_expand_85 : decode b_Po_expand 85 = .ok (.ifCond .eq 13, 3) := by decide +kernel
theorem d_Po_expand_88 : decode b_Po_expand 88 = .ok (.aload_n 0, 1) := by decide +kernel
theorem d_Po_expand_89 : decode b_Po_expand 89 = .ok (.getfield 18, 3) := by decide +kernel
theorem d_Po_expand_92 : decode b_Po_expand 92 = .ok (.invokevirtual 53, 3) := by decide +kernel
theorem d_Po_expand_95 : decode b_Po_expand 95 = .ok (.goto 4, 3) := by decide +kernel
theorem d_Po_expand_98 : decode b_Po_expand 98 = .ok (.iconst (-1), 1) := by decide +kernel
theorem d_Po_expand_99 : decode b_Po_expand 99 = .ok (.ireturn, 1) := by decide +kernel
theorem d_Po_feed_0 : decode b_Po_feed 0 = .ok (.aload_n 0, 1) := by decide +kernel
theorem d_Po_feed_1 : decode b_Po_feed 1 = .ok (.getfield 14, 3) := by decide +kernel
theorem d_Po_feed_4 : decode b_Po_feed 4 = .ok (.invokevirtual 53, 3) := by decide +kernel
theorem d_Po_feed_7 : decode b_Po_feed 7 = .ok (.bipush 20, 2) := by decide +kernel
theorem d_Po_feed_9 : decode b_Po_feed 9 = .ok (.iadd, 1) := by decide +kernel
theorem d_Po_feed_10 : decode b_Po_feed 10 = .ok (.sipush 800, 3) := by decide +kernel
theorem d_Po_feed_13 : decode b_Po_feed 13 = .ok (.if_icmp .le 6, 3) := by decide +kernel
theorem d_Po_feed_16 : decode b_Po_feed 16 = .ok (.bipush (-3), 2) := by decide +kernel
theorem d_Po_feed_18 : decode b_Po_feed 18 = .ok (.ireturn, 1) := by decide +kernel
theorem d_Po_feed_19 : decode b_Po_feed 19 = .ok (.aload_n 0, 1) := by decide +kernel
theorem d_Po_feed_20 : decode b_Po_feed 20 = .ok (.getfield 14, 3) := by decide +kernel
theorem d_Po_feed_23 : decode b_Po_feed 23 = .ok (.iload_n 1, 1) := by decide +kernel
theorem d_Po_feed_24 : decode b_Po_feed 24 = .ok (.invokevirtual 57, 3) := by decide +kernel
theorem d_Po_feed_27 : decode b_Po_feed 27 = .ok (.aload_n 0, 1) := by decide +kernel
theorem d_Po_feed_28 : decode b_Po_feed 28 = .ok (.getfield 14, 3) := by decide +kernel
theorem d_Po_feed_31 : decode b_Po_feed 31 = .ok (.iload_n 2, 1) := by decide +kernel
theorem d_Po_feed_32 : decode b_Po_feed 32 = .ok (.invokevirtual 57, 3) := by decide +kernel
theorem d_Po_feed_35 : decode b_Po_feed 35 = .ok (.aload_n 0, 1) := by decide +kernel
theorem d_Po_feed_36 : decode b_Po_feed 36 = .ok (.getfield 14, 3) := by decide +kernel
theorem d_Po_feed_39 : decode b_Po_feed 39 = .ok (.iload_n 3, 1) := by decide +kernel
theorem d_Po_feed_40 : decode b_Po_feed 40 = .ok (.invokevirtual 57, 3) := by decide +kernel
theorem d_Po_feed_43 : decode b_Po_feed 43 = .ok (.aload_n 0, 1) := by decide +kernel
theorem d_Po_feed_44 : decode b_Po_feed 44 = .ok (.getfield 14, 3) := by decide +kernel
theorem d_Po_feed_47 : decode b_Po_feed 47 = .ok (.iload 4, 2) := by decide +kernel
theorem d_Po_feed_49 : decode b_Po_feed 49 = .ok (.invokevirtual 57, 3) := by decide +kernel
theorem d_Po_feed_52 : decode b_Po_feed 52 = .ok (.aload_n 0, 1) := by decide +kernel
theorem d_Po_feed_53 : decode b_Po_feed 53 = .ok (.getfield 14, 3) := by decide +kernel
theorem d_Po_feed_56 : decode b_Po_feed 56 = .ok (.iload 5, 2) := by decide +kernel
theorem d_Po_feed_58 : decode b_Po_feed 58 = .ok (.invokevirtual 57, 3) := by decide +kernel
theorem d_Po_feed_61 : decode b_Po_feed 61 = .ok (.aload_n 0, 1) := by decide +kernel
theorem d_Po_feed_62 : decode b_Po_feed 62 = .ok (.getfield 14, 3) := by decide +kernel
theorem d_Po_feed_65 : decode b_Po_feed 65 = .ok (.invokevirtual 53, 3) := by decide +kernel
theorem d_Po_feed_68 : decode b_Po_feed 68 = .ok (.ireturn, 1) := by decide +kernel
theorem d_Po_forget_0 : decode b_Po_forget 0 = .ok (.aload_n 0, 1) := by decide +kernel
theorem d_Po_forget_1 : decode b_Po_forget 1 = .ok (.getfield 24, 3) := by decide +kernel
theorem d_Po_forget_4 : decode b_Po_forget 4 = .ok (.invokevirtual 63, 3) := by decide +kernel
theorem d_Po_forget_7 : decode b_Po_forget 7 = .ok (.istore_n 1, 1) := by decide +kernel
theorem d_Po_forget_8 : decode b_Po_forget 8 = .ok (.aload_n 0, 1) := by decide +kernel
theorem d_Po_forget_9 : decode b_Po_forget 9 = .ok (.getfield 24, 3) := by decide +kernel
theorem d_Po_forget_12 : decode b_Po_forget 12 = .ok (.invokevirtual 68, 3) := by decide +kernel
theorem d_Po_forget_15 : decode b_Po_forget 15 = .ok (.iload_n 1, 1) := by decide +kernel
theorem d_Po_forget_16 : decode b_Po_forget 16 = .ok (.ireturn, 1) := by decide +kernel
theorem d_Po_init_0 : decode b_Po_init 0 = .ok (.aload_n 0, 1) := by decide +kernel
theorem d_Po_init_1 : decode b_Po_init 1 = .ok (.invokespecial 3, 3) := by decide +kernel
theorem d_Po_init_4 : decode b_Po_init 4 = .ok (.aload_n 0, 1) := by decide +kernel
theorem d_Po_init_5 : decode b_Po_init 5 = .ok (.new 9, 3) := by decide +kernel
theorem d_Po_init_8 : decode b_Po_init 8 = .ok (.dup, 1) := by decide +kernel
theorem d_Po_init_9 : decode b_Po_init 9 = .ok (.sipush 800, 3) := by decide +kernel
theorem d_Po_init_12 : decode b_Po_init 12 = .ok (.invokespecial 11, 3) := by decide +kernel
theorem d_Po_init_15 : decode b_Po_init 15 = .ok (.putfield 14, 3) := by decide +kernel
theorem d_Po_init_18 : decode b_Po_init 18 = .ok (.aload_n 0, 1) := by decide +kernel
theorem d_Po_init_19 : decode b_Po_init 19 = .ok (.new 9, 3) := by decide +kernel
theorem d_Po_init_22 : decode b_Po_init 22 = .ok (.dup, 1) := by decide +kernel
theorem d_Po_init_23 : decode b_Po_init 23 = .ok (.sipush 18200, 3) := by decide +kernel
theorem d_Po_init_26 : decode b_Po_init 26 = .ok (.invokespecial 11, 3) := by decide +kernel
theorem d_Po_init_29 : decode b_Po_init 29 = .ok (.putfield 18, 3) := by decide +kernel
theorem d_Po_init_32 : decode b_Po_init 32 = .ok (.aload_n 0, 1) := by decide +kernel
theorem d_Po_init_33 : decode b_Po_init 33 = .ok (.new 21, 3) := by decide +kernel
theorem d_Po_init_36 : decode b_Po_init 36 = .ok (.dup, 1) := by decide +kernel
theorem d_Po_init_37 : decode b_Po_init 37 = .ok (.invokespecial 23, 3) := by decide +kernel
theorem d_Po_init_40 : decode b_Po_init 40 = .ok (.putfield 24, 3) := by decide +kernel
theorem d_Po_init_43 : decode b_Po_init 43 = .ok (.aload_n 0, 1) := by decide +kernel
theorem d_Po_init_44 : decode b_Po_init 44 = .ok (.new 28, 3) := by decide +kernel
theorem d_Po_init_47 : decode b_Po_init 47 = .ok (.dup, 1) := by decide +kernel
theorem d_Po_init_48 : decode b_Po_init 48 = .ok (.invokespecial 30, 3) := by decide +kernel
theorem d_Po_init_51 : decode b_Po_init 51 = .ok (.putfield 31, 3) := by decide +kernel
theorem d_Po_init_54 : decode b_Po_init 54 = .ok (.aload_n 0, 1) := by decide +kernel
theorem d_Po_init_55 : decode b_Po_init 55 = .ok (.new 35, 3) := by decide +kernel
theorem d_Po_init_58 : decode b_Po_init 58 = .ok (.dup, 1) := by decide +kernel
theorem d_Po_init_59 : decode b_Po_init 59 = .ok (.aload_n 0, 1) := by decide +kernel
theorem d_Po_init_60 : decode b_Po_init 60 = .ok (.getfield 31, 3) := by decide +kernel
theorem d_Po_init_63 : decode b_Po_init 63 = .ok (.invokespecial 37, 3) := by decide +kernel
theorem d_Po_init_66 : decode b_Po_init 66 = .ok (.putfield 40, 3) := by decide +kernel
theorem d_Po_init_69 : decode b_Po_init 69 = .ok (.aload_n 0, 1) := by decide +kernel
theorem d_Po_init_70 : decode b_Po_init 70 = .ok (.new 44, 3) := by decide +kernel
theorem d_Po_init_73 : decode b_Po_init 73 = .ok (.dup, 1) := by decide +kernel
theorem d_Po_init_74 : decode b_Po_init 74 = .ok (.aload_n 0, 1) := by decide +kernel
theorem d_Po_init_75 : decode b_Po_init 75 = .ok (.getfield 24, 3) := by decide +kernel
theorem d_Po_init_78 : decode b_Po_init 78 = .ok (.aload_n 0, 1) := by decide +kernel
theorem d_Po_init_79 : decode b_Po_init 79 = .ok (.getfield 31, 3) := by decide +kernel
theorem d_Po_init_82 : decode b_Po_init 82 = .ok (.aload_n 0, 1) := by decide +kernel
theorem d_Po_init_83 : decode b_Po_init 83 = .ok (.getfield 40, 3) := by decide +kernel
theorem d_Po_init_86 : decode b_Po_init 86 = .ok (.invokespecial 46, 3) := by decide +kernel
theorem d_Po_init_89 : decode b_Po_init 89 = .ok (.putfield 49, 3) := by decide +kernel
theorem d_Po_init_92 : decode b_Po_init 92 = .ok (.return_, 1) := by decide +kernel
theorem d_Po_octet_0 : decode b_Po_octet 0 = .ok (.iload_n 1, 1) := by decide +kernel
theorem d_Po_octet_1 : decode b_Po_octet 1 = .ok (.iconst (-1), 1) := by decide +kernel
theorem d_Po_octet_2 : decode b_Po_octet 2 = .ok (.if_icmp .ne 11, 3) := by decide +kernel
theorem d_Po_octet_5 : decode b_Po_octet 5 = .ok (.aload_n 0, 1) := by decide +kernel
theorem d_Po_octet_6 : decode b_Po_octet 6 = .ok (.getfield 18, 3) := by decide +kernel
theorem d_Po_octet_9 : decode b_Po_octet 9 = .ok (.invokevirtual 53, 3) := by decide +kernel
theorem d_Po_octet_12 : decode b_Po_octet 12 = .ok (.ireturn, 1) := by decide +kernel
theorem d_Po_octet_13 : decode b_Po_octet 13 = .ok (.iload_n 1, 1) := by decide +kernel
theorem d_Po_octet_14 : decode b_Po_octet 14 = .ok (.ifCond .lt 14, 3) := by decide +kernel
theorem d_Po_octet_17 : decode b_Po_octet 17 = .ok (.iload_n 1, 1) := by decide +kernel
theorem d_Po_octet_18 : decode b_Po_octet 18 = .ok (.aload_n 0, 1) := by decide +kernel
theorem d_Po_octet_19 : decode b_Po_octet 19 = .ok (.getfield 18, 3) := by decide +kernel
theorem d_Po_octet_22 : decode b_Po_octet 22 = .ok (.invokevirtual 53, 3) := by decide +kernel
theorem d_Po_octet_25 : decode b_Po_octet 25 = .ok (.if_icmp .lt 8, 3) := by decide +kernel
theorem d_Po_octet_28 : decode b_Po_octet 28 = .ok (.bipush (-2), 2) := by decide +kernel
theorem d_Po_octet_30 : decode b_Po_octet 30 = .ok (.goto 11, 3) := by decide +kernel
theorem d_Po_octet_33 : decode b_Po_octet 33 = .ok (.aload_n 0, 1) := by decide +kernel
theorem d_Po_octet_34 : decode b_Po_octet 34 = .ok (.getfield 18, 3) := by decide +kernel
theorem d_Po_octet_37 : decode b_Po_octet 37 = .ok (.iload_n 1, 1) := by decide +kernel
theorem d_Po_octet_38 : decode b_Po_octet 38 = .ok (.invokevirtual 103, 3) := by decide +kernel
theorem d_Po_octet_41 : decode b_Po_octet 41 = .ok (.ireturn, 1) := by decide +kernel
theorem d_Po_permission_0 : decode b_Po_permission 0 = .ok (.aload_n 0, 1) := by decide +kernel
theorem d_Po_permission_1 : decode b_Po_permission 1 = .ok (.getfield 31, 3) := by decide +kernel
theorem d_Po_permission_4 : decode b_Po_permission 4 = .ok (.invokevirtual 74, 3) := by decide +kernel
theorem d_Po_permission_7 : decode b_Po_permission 7 = .ok (.ifCond .ne 5, 3) := by decide +kernel
theorem d_Po_permission_10 : decode b_Po_permission 10 = .ok (.iconst (-1), 1) := by decide +kernel
theorem d_Po_permission_11 : decode b_Po_permission 11 = .ok (.ireturn, 1) := by decide +kernel
theorem d_Po_permission_12 : decode b_Po_permission 12 = .ok (.aload_n 0, 1) := by decide +kernel
theorem d_Po_permission_13 : decode b_Po_permission 13 = .ok (.getfield 49, 3) := by decide +kernel
theorem d_Po_permission_16 : decode b_Po_permission 16 = .ok (.invokevirtual 78, 3) := by decide +kernel
theorem d_Po_permission_19 : decode b_Po_permission 19 = .ok (.aload_n 0, 1) := by decide +kernel
theorem d_Po_permission_20 : decode b_Po_permission 20 = .ok (.getfield 49, 3) := by decide +kernel
theorem d_Po_permission_23 : decode b_Po_permission 23 = .ok (.iconst 0, 1) := by decide +kernel
theorem d_Po_permission_24 : decode b_Po_permission 24 = .ok (.invokevirtual 81, 3) := by decide +kernel
theorem d_Po_permission_27 : decode b_Po_permission 27 = .ok (.ireturn, 1) := by decide +kernel
theorem d_Po_sender_0 : decode b_Po_sender 0 = .ok (.aload_n 0, 1) := by decide +kernel
theorem d_Po_sender_1 : decode b_Po_sender 1 = .ok (.getfield 31, 3) := by decide +kernel
theorem d_Po_sender_4 : decode b_Po_sender 4 = .ok (.iload_n 1, 1) := by decide +kernel
theorem d_Po_sender_5 : decode b_Po_sender 5 = .ok (.aload_n 0, 1) := by decide +kernel
theorem d_Po_sender_6 : decode b_Po_sender 6 = .ok (.getfield 14, 3) := by decide +kernel
theorem d_Po_sender_9 : decode b_Po_sender 9 = .ok (.invokevirtual 71, 3) := by decide +kernel
theorem d_Po_sender_12 : decode b_Po_sender 12 = .ok (.istore_n 2, 1) := by decide +kernel
theorem d_Po_sender_13 : decode b_Po_sender 13 = .ok (.aload_n 0, 1) := by decide +kernel
theorem d_Po_sender_14 : decode b_Po_sender 14 = .ok (.getfield 14, 3) := by decide +kernel
theorem d_Po_sender_17 : decode b_Po_sender 17 = .ok (.iconst 0, 1) := by decide +kernel
theorem d_Po_sender_18 : decode b_Po_sender 18 = .ok (.invokevirtual 60, 3) := by decide +kernel
theorem d_Po_sender_21 : decode b_Po_sender 21 = .ok (.iload_n 2, 1) := by decide +kernel
theorem d_Po_sender_22 : decode b_Po_sender 22 = .ok (.ifCond .eq 7, 3) := by decide +kernel
theorem d_Po_sender_25 : decode b_Po_sender 25 = .ok (.iconst 0, 1) := by decide +kernel
theorem d_Po_sender_26 : decode b_Po_sender 26 = .ok (.goto 4, 3) := by decide +kernel
theorem d_Po_sender_29 : decode b_Po_sender 29 = .ok (.iconst (-1), 1) := by decide +kernel
theorem d_Po_sender_30 : decode b_Po_sender 30 = .ok (.ireturn, 1) := by decide +kernel
