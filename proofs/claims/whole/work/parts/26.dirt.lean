theorem fws_Di : ∀ w ∈ u_ws R_Di F_Di 2, w ∈ TB := by decide +kernel
theorem ft_Di : FT cDi t_Di := fun C T N h => by
  have h2 : some (R_Di, F_Di, 2) = some (C, T, N) := h
  cases h2
  exact ⟨by decide +kernel, by decide +kernel⟩
theorem fl_Di_17 : FL "SendPolicy$Directory" 17 cDi 1 := ⟨R_Di, F_Di, 2, rfl, fws_Di, (Nat.le_of_ble_eq_true rfl), (tb_in 86 (by decide +kernel) rfl)⟩
theorem fw_Di_1 : FW cDi 1 := fun C T N h => by
  have h2 : some (R_Di, F_Di, 2) = some (C, T, N) := h
  cases h2
  rfl
theorem fl_Di_11 : FL "SendPolicy$Directory" 11 cDi 0 := ⟨R_Di, F_Di, 2, rfl, fws_Di, (Nat.le_of_ble_eq_true rfl), (tb_in 85 (by decide +kernel) rfl)⟩
theorem fws_En : ∀ w ∈ u_ws R_En F_En 4, w ∈ TB := by decide +kernel
theorem ft_En : FT cEn t_En := fun C T N h => by
  have h2 : some (R_En, F_En, 4) = some (C, T, N) := h
  cases h2
  exact ⟨by decide +kernel, by decide +kernel⟩
theorem fl_Di_60 : FL "SendPolicy$Directory" 60 cEn 0 := ⟨R_En, F_En, 4, rfl, fws_En, (Nat.le_of_ble_eq_true rfl), (tb_in 312 (by decide +kernel) rfl)⟩
theorem fl_Di_43 : FL "SendPolicy$Directory" 43 cEn 2 := ⟨R_En, F_En, 4, rfl, fws_En, (Nat.le_of_ble_eq_true rfl), (tb_in 316 (by decide +kernel) rfl)⟩
set_option maxRecDepth 100000 in
theorem mw_By_same : MW y_By_same b_By_same 3 (some .boolean) 1 := ⟨tb_in 399 rfl rfl, (tb_in 31 (by decide +kernel) rfl), ⟨by decide +kernel, by decide +kernel, by decide +kernel⟩, (Nat.le_of_ble_eq_true rfl)⟩
theorem cv_Di_63 : CV "SendPolicy$Directory" 63 y_By_same b_By_same 3 (some .boolean) 1 cBy := ⟨mw_By_same, (tb_in 396 (by decide +kernel) rfl), (tb_in 397 (by decide +kernel) rfl), (tb_in 398 (by decide +kernel) rfl), _, rfl, rfl⟩
theorem fl_Di_51 : FL "SendPolicy$Directory" 51 cEn 3 := ⟨R_En, F_En, 4, rfl, fws_En, (Nat.le_of_ble_eq_true rfl), (tb_in 318 (by decide +kernel) rfl)⟩
theorem lm_Di_3 : Cond.methodLink "SendPolicy$Directory" 3 ⟨"java/lang/Object", "<init>", "()V"⟩ ∈ TB := (tb_in 82 (by decide +kernel) rfl)
theorem kl_Di_9 : Cond.classLink "SendPolicy$Directory" 9 "SendPolicy$Entry" ∈ TB := (tb_in 83 (by decide +kernel) rfl)
theorem ff_Di_0 : FF "SendPolicy$Directory" cDi 0 := fun C T N h => by
  have h2 : some (R_Di, F_Di, 2) = some (C, T, N) := h
  cases h2
  exact ⟨rfl, rfl⟩
set_option maxRecDepth 100000 in
theorem mw_Si_isName : MW y_Si_isName b_Si_isName 6 (some .boolean) 3 := ⟨tb_in 292 rfl rfl, (tb_in 43 (by decide +kernel) rfl), ⟨by decide +kernel, by decide +kernel, by decide +kernel⟩, (Nat.le_of_ble_eq_true rfl)⟩
theorem cs_Di_54 : CS "SendPolicy$Directory" 54 y_Si_isName b_Si_isName 6 (some .boolean) 3 := ⟨mw_Si_isName, (tb_in 290 (by decide +kernel) rfl), (tb_in 291 (by decide +kernel) rfl)⟩
set_option maxRecDepth 100000 in
theorem mw_By_size : MW y_By_size b_By_size 1 (some .int) 0 := ⟨tb_in 235 rfl rfl, (tb_in 31 (by decide +kernel) rfl), ⟨by decide +kernel, by decide +kernel, by decide +kernel⟩, (Nat.le_of_ble_eq_true rfl)⟩
theorem cv_Di_21 : CV "SendPolicy$Directory" 21 y_By_size b_By_size 1 (some .int) 0 cBy := ⟨mw_By_size, (tb_in 278 (by decide +kernel) rfl), (tb_in 233 (by decide +kernel) rfl), (tb_in 234 (by decide +kernel) rfl), _, rfl, rfl⟩
set_option maxRecDepth 100000 in
theorem mw_En_isPolicyOf : MW y_En_isPolicyOf b_En_isPolicyOf 4 (some .boolean) 1 := ⟨tb_in 407 rfl rfl, (tb_in 44 (by decide +kernel) rfl), ⟨by decide +kernel, by decide +kernel, by decide +kernel⟩, (Nat.le_of_ble_eq_true rfl)⟩
theorem cv_Di_67 : CV "SendPolicy$Directory" 67 y_En_isPolicyOf b_En_isPolicyOf 4 (some .boolean) 1 cEn := ⟨mw_En_isPolicyOf, (tb_in 404 (by decide +kernel) rfl), (tb_in 405 (by decide +kernel) rfl), (tb_in 406 (by decide +kernel) rfl), _, rfl, rfl⟩
theorem fl_Di_70 : FL "SendPolicy$Directory" 70 cEn 1 := ⟨R_En, F_En, 4, rfl, fws_En, (Nat.le_of_ble_eq_true rfl), (tb_in 314 (by decide +kernel) rfl)⟩
set_option maxRecDepth 100000 in
theorem mw_Di_sameBits : MW y_Di_sameBits b_Di_sameBits 3 (some .boolean) 3 := ⟨tb_in 578 rfl rfl, (tb_in 33 (by decide +kernel) rfl), ⟨by decide +kernel, by decide +kernel, by decide +kernel⟩, (Nat.le_of_ble_eq_true rfl)⟩
theorem cs_Di_73 : CS "SendPolicy$Directory" 73 y_Di_sameBits b_Di_sameBits 3 (some .boolean) 3 := ⟨mw_Di_sameBits, (tb_in 631 (by decide +kernel) rfl), (tb_in 577 (by decide +kernel) rfl)⟩
set_option maxRecDepth 100000 in
theorem mw_By_find : MW y_By_find b_By_find 5 (some .int) 3 := ⟨tb_in 282 rfl rfl, (tb_in 31 (by decide +kernel) rfl), ⟨by decide +kernel, by decide +kernel, by decide +kernel⟩, (Nat.le_of_ble_eq_true rfl)⟩
theorem cv_Di_26 : CV "SendPolicy$Directory" 26 y_By_find b_By_find 5 (some .int) 3 cBy := ⟨mw_By_find, (tb_in 279 (by decide +kernel) rfl), (tb_in 280 (by decide +kernel) rfl), (tb_in 281 (by decide +kernel) rfl), _, rfl, rfl⟩
set_option maxRecDepth 100000 in
theorem mw_Di_isGood : MW y_Di_isGood b_Di_isGood 4 (some .boolean) 3 := ⟨tb_in 289 rfl rfl, (tb_in 33 (by decide +kernel) rfl), ⟨by decide +kernel, by decide +kernel, by decide +kernel⟩, (Nat.le_of_ble_eq_true rfl)⟩
theorem cs_Di_30 : CS "SendPolicy$Directory" 30 y_Di_isGood b_Di_isGood 4 (some .boolean) 3 := ⟨mw_Di_isGood, (tb_in 287 (by decide +kernel) rfl), (tb_in 288 (by decide +kernel) rfl)⟩
theorem lm_Di_34 : Cond.methodLink "SendPolicy$Directory" 34 ⟨"java/lang/Math", "min", "(II)I"⟩ ∈ TB := (tb_in 303 (by decide +kernel) rfl)
theorem nw_Di_9 : NewW "SendPolicy$Directory" 9 cEn 4 t_En := ⟨R_En, F_En, rfl, ft_En, fws_En, kl_Di_9, (tb_in 304 (by decide +kernel) rfl), (tb_in 44 (by decide +kernel) rfl)⟩
set_option maxRecDepth 100000 in
theorem mw_En_init : MW y_En_init b_En_init 5 none 4 := ⟨tb_in 307 rfl rfl, (tb_in 44 (by decide +kernel) rfl), ⟨by decide +kernel, by decide +kernel, by decide +kernel⟩, (Nat.le_of_ble_eq_true rfl)⟩
theorem ci_Di_40 : CI "SendPolicy$Directory" 40 y_En_init b_En_init 5 4 := ⟨mw_En_init, (tb_in 305 (by decide +kernel) rfl), (tb_in 306 (by decide +kernel) rfl), rfl⟩
set_option maxRecDepth 100000 in
theorem mw_By_addPart : MW y_By_addPart b_By_addPart 5 none 3 := ⟨tb_in 331 rfl rfl, (tb_in 31 (by decide +kernel) rfl), ⟨by decide +kernel, by decide +kernel, by decide +kernel⟩, (Nat.le_of_ble_eq_true rfl)⟩
theorem cv_Di_47 : CV "SendPolicy$Directory" 47 y_By_addPart b_By_addPart 5 none 3 cBy := ⟨mw_By_addPart, (tb_in 328 (by decide +kernel) rfl), (tb_in 329 (by decide +kernel) rfl), (tb_in 330 (by decide +kernel) rfl), _, rfl, rfl⟩
theorem lm_En_3 : Cond.methodLink "SendPolicy$Entry" 3 ⟨"java/lang/Object", "<init>", "()V"⟩ ∈ TB := (tb_in 308 (by decide +kernel) rfl)
theorem fl_En_9 : FL "SendPolicy$Entry" 9 cEn 0 := ⟨R_En, F_En, 4, rfl, fws_En, (Nat.le_of_ble_eq_true rfl), (tb_in 311 (by decide +kernel) rfl)⟩
theorem ff_En_0 : FF "SendPolicy$Entry" cEn 0 := fun C T N h => by
  have h2 : some (R_En, F_En, 4) = some (C, T, N) := h
  cases h2
  exact ⟨rfl, rfl⟩
theorem fl_En_15 : FL "SendPolicy$Entry" 15 cEn 1 := ⟨R_En, F_En, 4, rfl, fws_En, (Nat.le_of_ble_eq_true rfl), (tb_in 313 (by decide +kernel) rfl)⟩
theorem ff_En_1 : FF "SendPolicy$Entry" cEn 1 := fun C T N h => by
  have h2 : some (R_En, F_En, 4) = some (C, T, N) := h
  cases h2
  exact ⟨rfl, rfl⟩
theorem kl_En_18 : Cond.classLink "SendPolicy$Entry" 18 "SendPolicy$Bytes" ∈ TB := (tb_in 309 (by decide +kernel) rfl)
theorem nw_En_18 : NewW "SendPolicy$Entry" 18 cBy 3 t_By := ⟨R_By, F_By, rfl, ft_By, fws_By, kl_En_18, (tb_in 58 (by decide +kernel) rfl), (tb_in 31 (by decide +kernel) rfl)⟩
set_option maxRecDepth 100000 in
theorem mw_By_init : MW y_By_init b_By_init 2 none 1 := ⟨tb_in 61 rfl rfl, (tb_in 31 (by decide +kernel) rfl), ⟨by decide +kernel, by decide +kernel, by decide +kernel⟩, (Nat.le_of_ble_eq_true rfl)⟩
theorem ci_En_20 : CI "SendPolicy$Entry" 20 y_By_init b_By_init 2 1 := ⟨mw_By_init, (tb_in 310 (by decide +kernel) rfl), (tb_in 60 (by decide +kernel) rfl), rfl⟩
theorem fl_En_23 : FL "SendPolicy$Entry" 23 cEn 2 := ⟨R_En, F_En, 4, rfl, fws_En, (Nat.le_of_ble_eq_true rfl), (tb_in 315 (by decide +kernel) rfl)⟩
theorem ff_En_2 : FF "SendPolicy$Entry" cEn 2 := fun C T N h => by
  have h2 : some (R_En, F_En, 4) = some (C, T, N) := h
  cases h2
  exact ⟨rfl, rfl⟩
theorem fl_En_27 : FL "SendPolicy$Entry" 27 cEn 3 := ⟨R_En, F_En, 4, rfl, fws_En, (Nat.le_of_ble_eq_true rfl), (tb_in 317 (by decide +kernel) rfl)⟩
theorem ff_En_3 : FF "SendPolicy$Entry" cEn 3 := fun C T N h => by
  have h2 : some (R_En, F_En, 4) = some (C, T, N) := h
  cases h2
  exact ⟨rfl, rfl⟩
theorem cv_En_32 : CV "SendPolicy$Entry" 32 y_By_size b_By_size 1 (some .int) 0 cBy := ⟨mw_By_size, (tb_in 409 (by decide +kernel) rfl), (tb_in 233 (by decide +kernel) rfl), (tb_in 234 (by decide +kernel) rfl), _, rfl, rfl⟩
set_option maxRecDepth 100000 in
theorem mw_By_has : MW y_By_has b_By_has 5 (some .boolean) 3 := ⟨tb_in 413 rfl rfl, (tb_in 31 (by decide +kernel) rfl), ⟨by decide +kernel, by decide +kernel, by decide +kernel⟩, (Nat.le_of_ble_eq_true rfl)⟩
theorem cv_En_36 : CV "SendPolicy$Entry" 36 y_By_has b_By_has 5 (some .boolean) 3 cBy := ⟨mw_By_has, (tb_in 410 (by decide +kernel) rfl), (tb_in 411 (by decide +kernel) rfl), (tb_in 412 (by decide +kernel) rfl), _, rfl, rfl⟩
theorem ct_En_40 : CT "SendPolicy$Entry" 40 y_Str_length b_Str_length 1 (some .int) 0 := ⟨mw_Str_length, (tb_in 462 (by decide +kernel) rfl), (tb_in 415 (by decide +kernel) rfl), (tb_in 416 (by decide +kernel) rfl), rfl⟩
theorem cv_En_45 : CV "SendPolicy$Entry" 45 y_By_at b_By_at 2 (some .int) 1 cBy := ⟨mw_By_at, (tb_in 463 (by decide +kernel) rfl), (tb_in 284 (by decide +kernel) rfl), (tb_in 285 (by decide +kernel) rfl), _, rfl, rfl⟩
theorem cv_En_49 : CV "SendPolicy$Entry" 49 y_By_same b_By_same 3 (some .boolean) 1 cBy := ⟨mw_By_same, (tb_in 464 (by decide +kernel) rfl), (tb_in 397 (by decide +kernel) rfl), (tb_in 398 (by decide +kernel) rfl), _, rfl, rfl⟩
/-! DECODE ROWS: printed by wip/gen/names.py -/
theorem d_Di_clear_0 : decode b_Di_clear 0 = .ok (.aload_n 0, 1) := by decide +kernel
theorem d_Di_clear_1 : decode b_Di_clear 1 = .ok (.iconst 0, 1) := by decide +kernel
theorem d_Di_clear_2 : decode b_Di_clear 2 = .ok (.putfield 17, 3) := by decide +kernel
theorem d_Di_clear_5 : decode b_Di_clear 5 = .ok (.return_, 1) := by decide +kernel
theorem d_Di_exchangeAt_0 : decode b_Di_exchangeAt 0 = .ok (.iload_n 1, 1) := by decide +kernel
theorem d_Di_exchangeAt_1 : decode b_Di_exchangeAt 1 = .ok (.ifCond .lt 40, 3) := by decide +kernel
theorem d_Di_exchangeAt_4 : decode b_Di_exchangeAt 4 = .ok (.iload_n 1, 1) := by decide +kernel
theorem d_Di_exchangeAt_5 : decode b_Di_exchangeAt 5 = .ok (.aload_n 0, 1) := by decide +kernel
theorem d_Di_exchangeAt_6 : decode b_Di_exchangeAt 6 = .ok (.getfield 17, 3) := by decide +kernel
theorem d_Di_exchangeAt_9 : decode b_Di_exchangeAt 9 = .ok (.if_icmp .ge 32, 3) := by decide +kernel
theorem d_Di_exchangeAt_12 : decode b_Di_exchangeAt 12 = .ok (.aload_n 0, 1) := by decide +kernel
theorem d_Di_exchangeAt_13 : decode b_Di_exchangeAt 13 = .ok (.getfield 11, 3) := by decide +kernel
theorem d_Di_exchangeAt_16 : decode b_Di_exchangeAt 16 = .ok (.iload_n 1, 1) := by decide +kernel
theorem d_Di_exchangeAt_17 : decode b_Di_exchangeAt 17 = .ok (.aaload, 1) := by decide +kernel
theorem d_Di_exchangeAt_18 : decode b_Di_exchangeAt 18 = .ok (.getfield 60, 3) := by decide +kernel
theorem d_Di_exchangeAt_21 : decode b_Di_exchangeAt 21 = .ok (.iconst 2, 1) := by decide +kernel
theorem d_Di_exchangeAt_22 : decode b_Di_exchangeAt 22 = .ok (.if_icmp .ne 19, 3) := by decide +kernel
theorem d_Di_exchangeAt_25 : decode b_Di_exchangeAt 25 = .ok (.aload_n 0, 1) := by decide +kernel
theorem d_Di_exchangeAt_26 : decode b_Di_exchangeAt 26 = .ok (.getfield 11, 3) := by decide +kernel
theorem d_Di_exchangeAt_29 : decode b_Di_exchangeAt 29 = .ok (.iload_n 1, 1) := by decide +kernel
theorem d_Di_exchangeAt_30 : decode b_Di_exchangeAt 30 = .ok (.aaload, 1) := by decide +kernel
theorem d_Di_exchangeAt_31 : decode b_Di_exchangeAt 31 = .ok (.getfield 43, 3) := by decide +kernel
theorem d_Di_exchangeAt_34 : decode b_Di_exchangeAt 34 = .ok (.aload_n 2, 1) := by decide +kernel
theorem d_Di_exchangeAt_35 : decode b_Di_exchangeAt 35 = .ok (.invokevirtual 63, 3) := by decide +kernel
theorem d_Di_exchangeAt_38 : decode b_Di_exchangeAt 38 = .ok (.ifCond .ne 5, 3) := by decide +kernel
theorem d_Di_exchangeAt_41 : decode b_Di_exchangeAt 41 = .ok (.aconst_null, 1) := by decide +kernel
theorem d_Di_exchangeAt_42 : decode b_Di_exchangeAt 42 = .ok (.areturn, 1) := by decide +kernel
theorem d_Di_exchangeAt_43 : decode b_Di_exchangeAt 43 = .ok (.aload_n 0, 1) := by decide +kernel
theorem d_Di_exchangeAt_44 : decode b_Di_exchangeAt 44 = .ok (.getfield 11, 3) := by decide +kernel
theorem d_Di_exchangeAt_47 : decode b_Di_exchangeAt 47 = .ok (.iload_n 1, 1) := by decide +kernel
theorem d_Di_exchangeAt_48 : decode b_Di_exchangeAt 48 = .ok (.aaload, 1) := by decide +kernel
theorem d_Di_exchangeAt_49 : decode b_Di_exchangeAt 49 = .ok (.getfield 51, 3) := by decide +kernel
theorem d_Di_exchangeAt_52 : decode b_Di_exchangeAt 52 = .ok (.areturn, 1) := by decide +kernel
theorem d_Di_has_0 : decode b_Di_has 0 = .ok (.iconst 0, 1) := by decide +kernel
theorem d_Di_has_1 : decode b_Di_has 1 = .ok (.istore_n 3, 1) := by decide +kernel
theorem d_Di_has_2 : decode b_Di_has 2 = .ok (.iload_n 3, 1) := by decide +kernel
theorem d_Di_has_3 : decode b_Di_has 3 = .ok (.aload_n 0, 1) := by decide +kernel
theorem d_Di_has_4 : decode b_Di_has 4 = .ok (.getfield 17, 3) := by decide +kernel
theorem d_Di_has_7 : decode b_Di_has 7 = .ok (.if_icmp .ge 40, 3) := by decide +kernel
theorem d_Di_has_10 : decode b_Di_has 10 = .ok (.aload_n 0, 1) := by decide +kernel
theorem d_Di_has_11 : decode b_Di_has 11 = .ok (.getfield 11, 3) := by decide +kernel
theorem d_Di_has_14 : decode b_Di_has 14 = .ok (.iload_n 3, 1) := by decide +kernel
theorem d_Di_has_15 : decode b_Di_has 15 = .ok (.aaload, 1) := by decide +kernel
theorem d_Di_has_16 : decode b_Di_has 16 = .ok (.getfield 60, 3) := by decide +kernel
theorem d_Di_has_19 : decode b_Di_has 19 = .ok (.iload_n 1, 1) := by decide +kernel
theorem d_Di_has_20 : decode b_Di_has 20 = .ok (.if_icmp .ne 21, 3) := by decide +kernel
theorem d_Di_has_23 : decode b_Di_has 23 = .ok (.aload_n 0, 1) := by decide +kernel
theorem d_Di_has_24 : decode b_Di_has 24 = .ok (.getfield 11, 3) := by decide +kernel
theorem d_Di_has_27 : decode b_Di_has 27 = .ok (.iload_n 3, 1) := by decide +kernel
theorem d_Di_has_28 : decode b_Di_has 28 = .ok (.aaload, 1) := by decide +kernel
theorem d_Di_has_29 : decode b_Di_has 29 = .ok (.getfield 43, 3) := by decide +kernel
theorem d_Di_has_32 : decode b_Di_has 32 = .ok (.aload_n 2, 1) := by decide +kernel
theorem d_Di_has_33 : decode b_Di_has 33 = .ok (.invokevirtual 63, 3) := by decide +kernel
theorem d_Di_has_36 : decode b_Di_has 36 = .ok (.ifCond .eq 5, 3) := by decide +kernel
theorem d_Di_has_39 : decode b_Di_has 39 = .ok (.iconst 1, 1) := by decide +kernel
theorem d_Di_has_40 : decode b_Di_has 40 = .ok (.ireturn, 1) := by decide +kernel
theorem d_Di_has_41 : decode b_Di_has 41 = .ok (.iinc 3 1, 3) := by decide +kernel
theorem d_Di_has_44 : decode b_Di_has 44 = .ok (.goto (-42), 3) := by decide +kernel
theorem d_Di_has_47 : decode b_Di_has 47 = .ok (.iconst 0, 1) := by decide +kernel
theorem d_Di_has_48 : decode b_Di_has 48 = .ok (.ireturn, 1) := by decide +kernel
theorem d_Di_init_0 : decode b_Di_init 0 = .ok (.aload_n 0, 1) := by decide +kernel
theorem d_Di_init_1 : decode b_Di_init 1 = .ok (.invokespecial 3, 3) := by decide +kernel
theorem d_Di_init_4 : decode b_Di_init 4 = .ok (.aload_n 0, 1) := by decide +kernel
theorem d_Di_init_5 : decode b_Di_init 5 = .ok (.bipush 40, 2) := by decide +kernel
theorem d_Di_init_7 : decode b_Di_init 7 = .ok (.anewarray 9, 3) := by decide +kernel
theorem d_Di_init_10 : decode b_Di_init 10 = .ok (.putfield 11, 3) := by decide +kernel
theorem d_Di_init_13 : decode b_Di_init 13 = .ok (.aload_n 0, 1) := by decide +kernel
theorem d_Di_init_14 : decode b_Di_init 14 = .ok (.iconst 0, 1) := by decide +kernel
theorem d_Di_init_15 : decode b_Di_init 15 = .ok (.putfield 17, 3) := by decide +kernel
theorem d_Di_init_18 : decode b_Di_init 18 = .ok (.return_, 1) := by decide +kernel
theorem d_Di_isGood_0 : decode b_Di_isGood 0 = .ok (.aload_n 1, 1) := by decide +kernel
theorem d_Di_isGood_1 : decode b_Di_isGood 1 = .ok (.iconst 0, 1) := by decide +kernel
theorem d_Di_isGood_2 : decode b_Di_isGood 2 = .ok (.iload_n 2, 1) := by decide +kernel
theorem d_Di_isGood_3 : decode b_Di_isGood 3 = .ok (.invokestatic 54, 3) := by decide +kernel
theorem d_Di_isGood_6 : decode b_Di_isGood 6 = .ok (.ifCond .ne 5, 3) := by decide +kernel
theorem d_Di_isGood_9 : decode b_Di_isGood 9 = .ok (.iconst 0, 1) := by decide +kernel
theorem d_Di_isGood_10 : decode b_Di_isGood 10 = .ok (.ireturn, 1) := by decide +kernel
theorem d_Di_isGood_11 : decode b_Di_isGood 11 = .ok (.iload_n 2, 1) := by decide +kernel
theorem d_Di_isGood_12 : decode b_Di_isGood 12 = .ok (.aload_n 1, 1) := by decide +kernel
theorem d_Di_isGood_13 : decode b_Di_isGood 13 = .ok (.invokevirtual 21, 3) := by decide +kernel
theorem d_Di_isGood_16 : decode b_Di_isGood 16 = .ok (.if_icmp .ne 7, 3) := by decide +kernel
theorem d_Di_isGood_19 : decode b_Di_isGood 19 = .ok (.iconst 1, 1) := by decide +kernel
theorem d_Di_isGood_20 : decode b_Di_isGood 20 = .ok (.goto 4, 3) := by decide +kernel
theorem d_Di_isGood_23 : decode b_Di_isGood 23 = .ok (.iconst 0, 1) := by decide +kernel
theorem d_Di_isGood_24 : decode b_Di_isGood 24 = .ok (.istore_n 3, 1) := by decide +kernel
theorem d_Di_isGood_25 : decode b_Di_isGood 25 = .ok (.iload_n 0, 1) := by decide +kernel
theorem d_Di_isGood_26 : decode b_Di_isGood 26 = .ok (.tableswitch 80 0 3 #[30, 78, 54, 78], 30) := by decide +kernel
theorem d_Di_isGood_56 : decode b_Di_isGood 56 = .ok (.iload_n 3, 1) := by decide +kernel
theorem d_Di_isGood_57 : decode b_Di_isGood 57 = .ok (.ifCond .ne 21, 3) := by decide +kernel
theorem d_Di_isGood_60 : decode b_Di_isGood 60 = .ok (.aload_n 1, 1) := by decide +kernel
theorem d_Di_isGood_61 : decode b_Di_isGood 61 = .ok (.invokevirtual 21, 3) := by decide +kernel
theorem d_Di_isGood_64 : decode b_Di_isGood 64 = .ok (.iload_n 2, 1) := by decide +kernel
theorem d_Di_isGood_65 : decode b_Di_isGood 65 = .ok (.isub, 1) := by decide +kernel
theorem d_Di_isGood_66 : decode b_Di_isGood 66 = .ok (.iconst 1, 1) := by decide +kernel
theorem d_Di_isGood_67 : decode b_Di_isGood 67 = .ok (.isub, 1) := by decide +kernel
theorem d_Di_isGood_68 : decode b_Di_isGood 68 = .ok (.sipush 700, 3) := by decide +kernel
theorem d_Di_isGood_71 : decode b_Di_isGood 71 = .ok (.if_icmp .gt 7, 3) := by decide +kernel
theorem d_Di_isGood_74 : decode b_Di_isGood 74 = .ok (.iconst 1, 1) := by decide +kernel
theorem d_Di_isGood_75 : decode b_Di_isGood 75 = .ok (.goto 4, 3) := by decide +kernel
theorem d_Di_isGood_78 : decode b_Di_isGood 78 = .ok (.iconst 0, 1) := by decide +kernel
theorem d_Di_isGood_79 : decode b_Di_isGood 79 = .ok (.ireturn, 1) := by decide +kernel
theorem d_Di_isGood_80 : decode b_Di_isGood 80 = .ok (.iload_n 3, 1) := by decide +kernel
theorem d_Di_isGood_81 : decode b_Di_isGood 81 = .ok (.ifCond .ne 21, 3) := by decide +kernel
theorem d_Di_isGood_84 : decode b_Di_isGood 84 = .ok (.aload_n 1, 1) := by decide +kernel
theorem d_Di_isGood_85 : decode b_Di_isGood 85 = .ok (.iload_n 2, 1) := by decide +kernel
theorem d_Di_isGood_86 : decode b_Di_isGood 86 = .ok (.iconst 1, 1) := by decide +kernel
theorem d_Di_isGood_87 : decode b_Di_isGood 87 = .ok (.iadd, 1) := by decide +kernel
theorem d_Di_isGood_88 : decode b_Di_isGood 88 = .ok (.aload_n 1, 1) := by decide +kernel
theorem d_Di_isGood_89 : decode b_Di_isGood 89 = .ok (.invokevirtual 21, 3) := by decide +kernel
theorem d_Di_isGood_92 : decode b_Di_isGood 92 = .ok (.invokestatic 54, 3) := by decide +kernel
theorem d_Di_isGood_95 : decode b_Di_isGood 95 = .ok (.ifCond .eq 7, 3) := by decide +kernel
theorem d_Di_isGood_98 : decode b_Di_isGood 98 = .ok (.iconst 1, 1) := by decide +kernel
theorem d_Di_isGood_99 : decode b_Di_isGood 99 = .ok (.goto 4, 3) := by decide +kernel
theorem d_Di_isGood_102 : decode b_Di_isGood 102 = .ok (.iconst 0, 1) := by decide +kernel
theorem d_Di_isGood_103 : decode b_Di_isGood 103 = .ok (.ireturn, 1) := by decide +kernel
theorem d_Di_isGood_104 : decode b_Di_isGood 104 = .ok (.iload_n 3, 1) := by decide +kernel
theorem d_Di_isGood_105 : decode b_Di_isGood 105 = .ok (.ireturn, 1) := by decide +kernel
theorem d_Di_isGood_106 : decode b_Di_isGood 106 = .ok (.iconst 0, 1) := by decide +kernel
theorem d_Di_isGood_107 : decode b_Di_isGood 107 = .ok (.ireturn, 1) := by decide +kernel
theorem d_Di_policies_0 : decode b_Di_policies 0 = .ok (.iconst 0, 1) := by decide +kernel
theorem d_Di_policies_1 : decode b_Di_policies 1 = .ok (.istore_n 2, 1) := by decide +kernel
theorem d_Di_policies_2 : decode b_Di_policies 2 = .ok (.iconst 0, 1) := by decide +kernel
theorem d_Di_policies_3 : decode b_Di_policies 3 = .ok (.istore_n 3, 1) := by decide +kernel
theorem d_Di_policies_4 : decode b_Di_policies 4 = .ok (.iload_n 3, 1) := by decide +kernel
theorem d_Di_policies_5 : decode b_Di_policies 5 = .ok (.aload_n 0, 1) := by decide +kernel
theorem d_Di_policies_6 : decode b_Di_policies 6 = .ok (.getfield 17, 3) := by decide +kernel
theorem d_Di_policies_9 : decode b_Di_policies 9 = .ok (.if_icmp .ge 25, 3) := by decide +kernel
theorem d_Di_policies_12 : decode b_Di_policies 12 = .ok (.aload_n 0, 1) := by decide +kernel
theorem d_Di_policies_13 : decode b_Di_policies 13 = .ok (.getfield 11, 3) := by decide +kernel
theorem d_Di_policies_16 : decode b_Di_policies 16 = .ok (.iload_n 3, 1) := by decide +kernel
theorem d_Di_policies_17 : decode b_Di_policies 17 = .ok (.aaload, 1) := by decide +kernel
theorem d_Di_policies_18 : decode b_Di_policies 18 = .ok (.aload_n 1, 1) := by decide +kernel
theorem d_Di_policies_19 : decode b_Di_policies 19 = .ok (.invokevirtual 67, 3) := by decide +kernel
theorem d_Di_policies_22 : decode b_Di_policies 22 = .ok (.ifCond .eq 6, 3) := by decide +kernel
theorem d_Di_policies_25 : decode b_Di_policies 25 = .ok (.iinc 2 1, 3) := by decide +kernel
theorem d_Di_policies_28 : decode b_Di_policies 28 = .ok (.iinc 3 1, 3) := by decide +kernel
theorem d_Di_policies_31 : decode b_Di_policies 31 = .ok (.goto (-27), 3) := by decide +kernel
theorem d_Di_policies_34 : decode b_Di_policies 34 = .ok (.iload_n 2, 1) := by decide +kernel
theorem d_Di_policies_35 : decode b_Di_policies 35 = .ok (.ireturn, 1) := by decide +kernel
theorem d_Di_policy_0 : decode b_Di_policy 0 = .ok (.iconst 0, 1) := by decide +kernel
theorem d_Di_policy_1 : decode b_Di_policy 1 = .ok (.istore_n 2, 1) := by decide +kernel
theorem d_Di_policy_2 : decode b_Di_policy 2 = .ok (.iload_n 2, 1) := by decide +kernel
theorem d_Di_policy_3 : decode b_Di_policy 3 = .ok (.aload_n 0, 1) := by decide +kernel
theorem d_Di_policy_4 : decode b_Di_policy 4 = .ok (.getfield 17, 3) := by decide +kernel
theorem d_Di_policy_7 : decode b_Di_policy 7 = .ok (.if_icmp .ge 32, 3) := by decide +kernel
theorem d_Di_policy_10 : decode b_Di_policy 10 = .ok (.aload_n 0, 1) := by decide +kernel
theorem d_Di_policy_11 : decode b_Di_policy 11 = .ok (.getfield 11, 3) := by decide +kernel
theorem d_Di_policy_14 : decode b_Di_policy 14 = .ok (.iload_n 2, 1) := by decide +kernel
theorem d_Di_policy_15 : decode b_Di_policy 15 = .ok (.aaload, 1) := by decide +kernel
theorem d_Di_policy_16 : decode b_Di_policy 16 = .ok (.aload_n 1, 1) := by decide +kernel
theorem d_Di_policy_17 : decode b_Di_policy 17 = .ok (.invokevirtual 67, 3) := by decide +kernel
theorem d_Di_policy_20 : decode b_Di_policy 20 = .ok (.ifCond .eq 13, 3) := by decide +kernel
theorem d_Di_policy_23 : decode b_Di_policy 23 = .ok (.aload_n 0, 1) := by decide +kernel
theorem d_Di_policy_24 : decode b_Di_policy 24 = .ok (.getfield 11, 3) := by decide +kernel
theorem d_Di_policy_27 : decode b_Di_policy 27 = .ok (.iload_n 2, 1) := by decide +kernel
theorem d_Di_policy_28 : decode b_Di_policy 28 = .ok (.aaload, 1) := by decide +kernel
theorem d_Di_policy_29 : decode b_Di_policy 29 = .ok (.getfield 51, 3) := by decide +kernel
theorem d_Di_policy_32 : decode b_Di_policy 32 = .ok (.areturn, 1) := by decide +kernel
theorem d_Di_policy_33 : decode b_Di_policy 33 = .ok (.iinc 2 1, 3) := by decide +kernel
theorem d_Di_policy_36 : decode b_Di_policy 36 = .ok (.goto (-34), 3) := by decide +kernel
theorem d_Di_policy_39 : decode b_Di_policy 39 = .ok (.aconst_null, 1) := by decide +kernel
theorem d_Di_policy_40 : decode b_Di_policy 40 = .ok (.areturn, 1) := by decide +kernel
theorem d_Di_reaches_0 : decode b_Di_reaches 0 = .ok (.iconst 0, 1) := by decide +kernel
theorem d_Di_reaches_1 : decode b_Di_reaches 1 = .ok (.istore 4, 2) := by decide +kernel
theorem d_Di_reaches_3 : decode b_Di_reaches 3 = .ok (.iload 4, 2) := by decide +kernel
theorem d_Di_reaches_5 : decode b_Di_reaches 5 = .ok (.aload_n 0, 1) := by decide +kernel
theorem d_Di_reaches_6 : decode b_Di_reaches 6 = .ok (.getfield 17, 3) := by decide +kernel
theorem d_Di_reaches_9 : decode b_Di_reaches 9 = .ok (.if_icmp .ge 54, 3) := by decide +kernel
theorem d_Di_reaches_12 : decode b_Di_reaches 12 = .ok (.aload_n 0, 1) := by decide +kernel
theorem d_Di_reaches_13 : decode b_Di_reaches 13 = .ok (.getfield 11, 3) := by decide +kernel
theorem d_Di_reaches_16 : decode b_Di_reaches 16 = .ok (.iload 4, 2) := by decide +kernel
theorem d_Di_reaches_18 : decode b_Di_reaches 18 = .ok (.aaload, 1) := by decide +kernel
theorem d_Di_reaches_19 : decode b_Di_reaches 19 = .ok (.astore 5, 2) := by decide +kernel
theorem d_Di_reaches_21 : decode b_Di_reaches 21 = .ok (.aload 5, 2) := by decide +kernel
theorem d_Di_reaches_23 : decode b_Di_reaches 23 = .ok (.getfield 60, 3) := by decide +kernel
theorem d_Di_reaches_26 : decode b_Di_reaches 26 = .ok (.iconst 1, 1) := by decide +kernel
theorem d_Di_reaches_27 : decode b_Di_reaches 27 = .ok (.if_icmp .ne 30, 3) := by decide +kernel
theorem d_Di_reaches_30 : decode b_Di_reaches 30 = .ok (.aload 5, 2) := by decide +kernel
theorem d_Di_reaches_32 : decode b_Di_reaches 32 = .ok (.getfield 70, 3) := by decide +kernel
theorem d_Di_reaches_35 : decode b_Di_reaches 35 = .ok (.iload_n 2, 1) := by decide +kernel
theorem d_Di_reaches_36 : decode b_Di_reaches 36 = .ok (.iload_n 3, 1) := by decide +kernel
theorem d_Di_reaches_37 : decode b_Di_reaches 37 = .ok (.invokestatic 73, 3) := by decide +kernel
theorem d_Di_reaches_40 : decode b_Di_reaches 40 = .ok (.ifCond .eq 17, 3) := by decide +kernel
theorem d_Di_reaches_43 : decode b_Di_reaches 43 = .ok (.aload 5, 2) := by decide +kernel
theorem d_Di_reaches_45 : decode b_Di_reaches 45 = .ok (.getfield 43, 3) := by decide +kernel
theorem d_Di_reaches_48 : decode b_Di_reaches 48 = .ok (.aload_n 1, 1) := by decide +kernel
theorem d_Di_reaches_49 : decode b_Di_reaches 49 = .ok (.invokevirtual 63, 3) := by decide +kernel
theorem d_Di_reaches_52 : decode b_Di_reaches 52 = .ok (.ifCond .eq 5, 3) := by decide +kernel
theorem d_Di_reaches_55 : decode b_Di_reaches 55 = .ok (.iconst 1, 1) := by decide +kernel
theorem d_Di_reaches_56 : decode b_Di_reaches 56 = .ok (.ireturn, 1) := by decide +kernel
theorem d_Di_reaches_57 : decode b_Di_reaches 57 = .ok (.iinc 4 1, 3) := by decide +kernel
theorem d_Di_reaches_60 : decode b_Di_reaches 60 = .ok (.goto (-57), 3) := by decide +kernel
theorem d_Di_reaches_63 : decode b_Di_reaches 63 = .ok (.iconst 0, 1) := by decide +kernel
theorem d_Di_reaches_64 : decode b_Di_reaches 64 = .ok (.ireturn, 1) := by decide +kernel
theorem d_Di_sameBits_0 : decode b_Di_sameBits 0 = .ok (.iload_n 2, 1) := by decide +kernel
theorem d_Di_sameBits_1 : decode b_Di_sameBits 1 = .ok (.ifCond .le 14, 3) := by decide +kernel
theorem d_Di_sameBits_4 : decode b_Di_sameBits 4 = .ok (.iload_n 0, 1) := by decide +kernel
theorem d_Di_sameBits_5 : decode b_Di_sameBits 5 = .ok (.iload_n 1, 1) := by decide +kernel
theorem d_Di_sameBits_6 : decode b_Di_sameBits 6 = .ok (.ixor, 1) := by decide +kernel
theorem d_Di_sameBits_7 : decode b_Di_sameBits 7 = .ok (.bipush 32, 2) := by decide +kernel
theorem d_Di_sameBits_9 : decode b_Di_sameBits 9 = .ok (.iload_n 2, 1) := by decide +kernel
theorem d_Di_sameBits_10 : decode b_Di_sameBits 10 = .ok (.isub, 1) := by decide +kernel
theorem d_Di_sameBits_11 : decode b_Di_sameBits 11 = .ok (.iushr, 1) := by decide +kernel
theorem d_Di_sameBits_12 : decode b_Di_sameBits 12 = .ok (.ifCond .ne 7, 3) := by decide +kernel
theorem d_Di_sameBits_15 : decode b_Di_sameBits 15 = .ok (.iconst 1, 1) := by decide +kernel
theorem d_Di_sameBits_16 : decode b_Di_sameBits 16 = .ok (.goto 4, 3) := by decide +kernel
theorem d_Di_sameBits_19 : decode b_Di_sameBits 19 = .ok (.iconst 0, 1) := by decide +kernel
theorem d_Di_sameBits_20 : decode b_Di_sameBits 20 = .ok (.ireturn, 1) := by decide +kernel
theorem d_Di_size_0 : decode b_Di_size 0 = .ok (.aload_n 0, 1) := by decide +kernel
theorem d_Di_size_1 : decode b_Di_size 1 = .ok (.getfield 17, 3) := by decide +kernel
theorem d_Di_size_4 : decode b_Di_size 4 = .ok (.ireturn, 1) := by decide +kernel
theorem d_Di_take_0 : decode b_Di_take 0 = .ok (.aload_n 3, 1) := by decide +kernel
theorem d_Di_take_1 : decode b_Di_take 1 = .ok (.bipush 32, 2) := by decide +kernel
theorem d_Di_take_3 : decode b_Di_take 3 = .ok (.iconst 0, 1) := by decide +kernel
theorem d_Di_take_4 : decode b_Di_take 4 = .ok (.aload_n 3, 1) := by decide +kernel
theorem d_Di_take_5 : decode b_Di_take 5 = .ok (.invokevirtual 21, 3) := by decide +kernel
theorem d_Di_take_8 : decode b_Di_take 8 = .ok (.invokevirtual 26, 3) := by decide +kernel
theorem d_Di_take_11 : decode b_Di_take 11 = .ok (.istore 4, 2) := by decide +kernel
theorem d_Di_take_13 : decode b_Di_take 13 = .ok (.aload_n 0, 1) := by decide +kernel
theorem d_Di_take_14 : decode b_Di_take 14 = .ok (.getfield 17, 3) := by decide +kernel
theorem d_Di_take_17 : decode b_Di_take 17 = .ok (.aload_n 0, 1) := by decide +kernel
theorem d_Di_take_18 : decode b_Di_take 18 = .ok (.getfield 11, 3) := by decide +kernel
theorem d_Di_take_21 : decode b_Di_take 21 = .ok (.arraylength, 1) := by decide +kernel
theorem d_Di_take_22 : decode b_Di_take 22 = .ok (.if_icmp .ge 13, 3) := by decide +kernel
theorem d_Di_take_25 : decode b_Di_take 25 = .ok (.iload_n 1, 1) := by decide +kernel
theorem d_Di_take_26 : decode b_Di_take 26 = .ok (.aload_n 3, 1) := by decide +kernel
theorem d_Di_take_27 : decode b_Di_take 27 = .ok (.iload 4, 2) := by decide +kernel
theorem d_Di_take_29 : decode b_Di_take 29 = .ok (.invokestatic 30, 3) := by decide +kernel
theorem d_Di_take_32 : decode b_Di_take 32 = .ok (.ifCond .ne 5, 3) := by decide +kernel
theorem d_Di_take_35 : decode b_Di_take 35 = .ok (.iconst 0, 1) := by decide +kernel
theorem d_Di_take_36 : decode b_Di_take 36 = .ok (.ireturn, 1) := by decide +kernel
theorem d_Di_take_37 : decode b_Di_take 37 = .ok (.iload 4, 2) := by decide +kernel
theorem d_Di_take_39 : decode b_Di_take 39 = .ok (.iconst 1, 1) := by decide +kernel
theorem d_Di_take_40 : decode b_Di_take 40 = .ok (.iadd, 1) := by decide +kernel
theorem d_Di_take_41 : decode b_Di_take 41 = .ok (.aload_n 3, 1) := by decide +kernel
theorem d_Di_take_42 : decode b_Di_take 42 = .ok (.invokevirtual 21, 3) := by decide +kernel
theorem d_Di_take_45 : decode b_Di_take 45 = .ok (.invokestatic 34, 3) := by decide +kernel
theorem d_Di_take_48 : decode b_Di_take 48 = .ok (.istore 5, 2) := by decide +kernel
theorem d_Di_take_50 : decode b_Di_take 50 = .ok (.new 9, 3) := by decide +kernel
theorem d_Di_take_53 : decode b_Di_take 53 = .ok (.dup, 1) := by decide +kernel
theorem d_Di_take_54 : decode b_Di_take 54 = .ok (.iload_n 1, 1) := by decide +kernel
theorem d_Di_take_55 : decode b_Di_take 55 = .ok (.iload_n 2, 1) := by decide +kernel
theorem d_Di_take_56 : decode b_Di_take 56 = .ok (.iload 4, 2) := by decide +kernel
theorem d_Di_take_58 : decode b_Di_take 58 = .ok (.aload_n 3, 1) := by decide +kernel
theorem d_Di_take_59 : decode b_Di_take 59 = .ok (.invokevirtual 21, 3) := by decide +kernel
theorem d_Di_take_62 : decode b_Di_take 62 = .ok (.iload 5, 2) := by decide +kernel
theorem d_Di_take_64 : decode b_Di_take 64 = .ok (.isub, 1) := by decide +kernel
theorem d_Di_take_65 : decode b_Di_take 65 = .ok (.invokespecial 40, 3) := by decide +kernel
theorem d_Di_take_68 : decode b_Di_take 68 = .ok (.astore 6, 2) := by decide +kernel
theorem d_Di_take_70 : decode b_Di_take 70 = .ok (.aload 6, 2) := by decide +kernel
theorem d_Di_take_72 : decode b_Di_take 72 = .ok (.getfield 43, 3) := by decide +kernel
theorem d_Di_take_75 : decode b_Di_take 75 = .ok (.aload_n 3, 1) := by decide +kernel
theorem d_Di_take_76 : decode b_Di_take 76 = .ok (.iconst 0, 1) := by decide +kernel
theorem d_Di_take_77 : decode b_Di_take 77 = .ok (.iload 4, 2) := by decide +kernel
theorem d_Di_take_79 : decode b_Di_take 79 = .ok (.invokevirtual 47, 3) := by decide +kernel
theorem d_Di_take_82 : decode b_Di_take 82 = .ok (.aload 6, 2) := by decide +kernel
theorem d_Di_take_84 : decode b_Di_take 84 = .ok (.getfield 51, 3) := by decide +kernel
theorem d_Di_take_87 : decode b_Di_take 87 = .ok (.aload_n 3, 1) := by decide +kernel
theorem d_Di_take_88 : decode b_Di_take 88 = .ok (.iload 5, 2) := by decide +kernel
theorem d_Di_take_90 : decode b_Di_take 90 = .ok (.aload_n 3, 1) := by decide +kernel
theorem d_Di_take_91 : decode b_Di_take 91 = .ok (.invokevirtual 21, 3) := by decide +kernel
theorem d_Di_take_94 : decode b_Di_take 94 = .ok (.invokevirtual 47, 3) := by decide +kernel
theorem d_Di_take_97 : decode b_Di_take 97 = .ok (.aload_n 0, 1) := by decide +kernel
theorem d_Di_take_98 : decode b_Di_take 98 = .ok (.getfield 11, 3) := by decide +kernel
theorem d_Di_take_101 : decode b_Di_take 101 = .ok (.aload_n 0, 1) := by decide +kernel
theorem d_Di_take_102 : decode b_Di_take 102 = .ok (.getfield 17, 3) := by decide +kernel
theorem d_Di_take_105 : decode b_Di_take 105 = .ok (.aload 6, 2) := by decide +kernel
theorem d_Di_take_107 : decode b_Di_take 107 = .ok (.aastore, 1) := by decide +kernel
theorem d_Di_take_108 : decode b_Di_take 108 = .ok (.aload_n 0, 1) := by decide +kernel
theorem d_Di_take_109 : decode b_Di_take 109 = .ok (.dup, 1) := by decide +kernel
theorem d_Di_take_110 : decode b_Di_take 110 = .ok (.getfield 17, 3) := by decide +kernel
theorem d_Di_take_113 : decode b_Di_take 113 = .ok (.iconst 1, 1) := by decide +kernel
theorem d_Di_take_114 : decode b_Di_take 114 = .ok (.iadd, 1) := by decide +kernel
theorem d_Di_take_115 : decode b_Di_take 115 = .ok (.putfield 17, 3) := by decide +kernel
theorem d_Di_take_118 : decode b_Di_take 118 = .ok (.iconst 1, 1) := by decide +kernel
theorem d_Di_take_119 : decode b_Di_take 119 = .ok (.ireturn, 1) := by decide +kernel
theorem d_En_init_0 : decode b_En_init 0 = .ok (.aload_n 0, 1) := by decide +kernel
theorem d_En_init_1 : decode b_En_init 1 = .ok (.invokespecial 3, 3) := by decide +kernel
theorem d_En_init_4 : decode b_En_init 4 = .ok (.aload_n 0, 1) := by decide +kernel
theorem d_En_init_5 : decode b_En_init 5 = .ok (.iload_n 1, 1) := by decide +kernel
theorem d_En_init_6 : decode b_En_init 6 = .ok (.putfield 9, 3) := by decide +kernel
theorem d_En_init_9 : decode b_En_init 9 = .ok (.aload_n 0, 1) := by decide +kernel
theorem d_En_init_10 : decode b_En_init 10 = .ok (.iload_n 2, 1) := by decide +kernel
theorem d_En_init_11 : decode b_En_init 11 = .ok (.putfield 15, 3) := by decide +kernel
theorem d_En_init_14 : decode b_En_init 14 = .ok (.aload_n 0, 1) := by decide +kernel
theorem d_En_init_15 : decode b_En_init 15 = .ok (.new 18, 3) := by decide +kernel
theorem d_En_init_18 : decode b_En_init 18 = .ok (.dup, 1) := by decide +kernel
theorem d_En_init_19 : decode b_En_init 19 = .ok (.iload_n 3, 1) := by decide +kernel
theorem d_En_init_20 : decode b_En_init 20 = .ok (.invokespecial 20, 3) := by decide +kernel
theorem d_En_init_23 : decode b_En_init 23 = .ok (.putfield 23, 3) := by decide +kernel
theorem d_En_init_26 : decode b_En_init 26 = .ok (.aload_n 0, 1) := by decide +kernel
theorem d_En_init_27 : decode b_En_init 27 = .ok (.new 18, 3) := by decide +kernel
theorem d_En_init_30 : decode b_En_init 30 = .ok (.dup, 1) := by decide +kernel
theorem d_En_init_31 : decode b_En_init 31 = .ok (.iload 4, 2) := by decide +kernel
theorem d_En_init_33 : decode b_En_init 33 = .ok (.invokespecial 20, 3) := by decide +kernel
theorem d_En_init_36 : decode b_En_init 36 = .ok (.putfield 27, 3) := by decide +kernel
theorem d_En_init_39 : decode b_En_init 39 = .ok (.return_, 1) := by decide +kernel
theorem d_En_isPolicyOf_0 : decode b_En_isPolicyOf 0 = .ok (.aload_n 0, 1) := by decide +kernel
theorem d_En_isPolicyOf_1 : decode b_En_isPolicyOf 1 = .ok (.getfield 27, 3) := by decide +kernel
theorem d_En_isPolicyOf_4 : decode b_En_isPolicyOf 4 = .ok (.ldc 30, 2) := by decide +kernel
theorem d_En_isPolicyOf_6 : decode b_En_isPolicyOf 6 = .ok (.iconst 0, 1) := by decide +kernel
theorem d_En_isPolicyOf_7 : decode b_En_isPolicyOf 7 = .ok (.aload_n 0, 1) := by decide +kernel
theorem d_En_isPolicyOf_8 : decode b_En_isPolicyOf 8 = .ok (.getfield 27, 3) := by decide +kernel
theorem d_En_isPolicyOf_11 : decode b_En_isPolicyOf 11 = .ok (.invokevirtual 32, 3) := by decide +kernel
theorem d_En_isPolicyOf_14 : decode b_En_isPolicyOf 14 = .ok (.invokevirtual 36, 3) := by decide +kernel
theorem d_En_isPolicyOf_17 : decode b_En_isPolicyOf 17 = .ok (.istore_n 2, 1) := by decide +kernel
theorem d_En_isPolicyOf_18 : decode b_En_isPolicyOf 18 = .ok (.aload_n 0, 1) := by decide +kernel
theorem d_En_isPolicyOf_19 : decode b_En_isPolicyOf 19 = .ok (.getfield 27, 3) := by decide +kernel
theorem d_En_isPolicyOf_22 : decode b_En_isPolicyOf 22 = .ok (.invokevirtual 32, 3) := by decide +kernel
theorem d_En_isPolicyOf_25 : decode b_En_isPolicyOf 25 = .ok (.ldc 30, 2) := by decide +kernel
theorem d_En_isPolicyOf_27 : decode b_En_isPolicyOf 27 = .ok (.invokevirtual 40, 3) := by decide +kernel
theorem d_En_isPolicyOf_30 : decode b_En_isPolicyOf 30 = .ok (.if_icmp .eq 20, 3) := by decide +kernel
theorem d_En_isPolicyOf_33 : decode b_En_isPolicyOf 33 = .ok (.aload_n 0, 1) := by decide +kernel
theorem d_En_isPolicyOf_34 : decode b_En_isPolicyOf 34 = .ok (.getfield 27, 3) := by decide +kernel
theorem d_En_isPolicyOf_37 : decode b_En_isPolicyOf 37 = .ok (.ldc 30, 2) := by decide +kernel
theorem d_En_isPolicyOf_39 : decode b_En_isPolicyOf 39 = .ok (.invokevirtual 40, 3) := by decide +kernel
theorem d_En_isPolicyOf_42 : decode b_En_isPolicyOf 42 = .ok (.invokevirtual 45, 3) := by decide +kernel
theorem d_En_isPolicyOf_45 : decode b_En_isPolicyOf 45 = .ok (.bipush 32, 2) := by decide +kernel
theorem d_En_isPolicyOf_47 : decode b_En_isPolicyOf 47 = .ok (.if_icmp .ne 7, 3) := by decide +kernel
theorem d_En_isPolicyOf_50 : decode b_En_isPolicyOf 50 = .ok (.iconst 1, 1) := by decide +kernel
theorem d_En_isPolicyOf_51 : decode b_En_isPolicyOf 51 = .ok (.goto 4, 3) := by decide +kernel
theorem d_En_isPolicyOf_54 : decode b_En_isPolicyOf 54 = .ok (.iconst 0, 1) := by decide +kernel
theorem d_En_isPolicyOf_55 : decode b_En_isPolicyOf 55 = .ok (.istore_n 3, 1) := by decide +kernel
theorem d_En_isPolicyOf_56 : decode b_En_isPolicyOf 56 = .ok (.aload_n 0, 1) := by decide +kernel
theorem d_En_isPolicyOf_57 : decode b_En_isPolicyOf 57 = .ok (.getfield 9, 3) := by decide +kernel
theorem d_En_isPolicyOf_60 : decode b_En_isPolicyOf 60 = .ok (.ifCond .ne 26, 3) := by decide +kernel
theorem d_En_isPolicyOf_63 : decode b_En_isPolicyOf 63 = .ok (.iload_n 2, 1) := by decide +kernel
theorem d_En_isPolicyOf_64 : decode b_En_isPolicyOf 64 = .ok (.ifCond .eq 22, 3) := by decide +kernel
theorem d_En_isPolicyOf_67 : decode b_En_isPolicyOf 67 = .ok (.iload_n 3, 1) := by decide +kernel
theorem d_En_isPolicyOf_68 : decode b_En_isPolicyOf 68 = .ok (.ifCond .eq 18, 3) := by decide +kernel
theorem d_En_isPolicyOf_71 : decode b_En_isPolicyOf 71 = .ok (.aload_n 0, 1) := by decide +kernel
theorem d_En_isPolicyOf_72 : decode b_En_isPolicyOf 72 = .ok (.getfield 23, 3) := by decide +kernel
theorem d_En_isPolicyOf_75 : decode b_En_isPolicyOf 75 = .ok (.aload_n 1, 1) := by decide +kernel
theorem d_En_isPolicyOf_76 : decode b_En_isPolicyOf 76 = .ok (.invokevirtual 49, 3) := by decide +kernel
theorem d_En_isPolicyOf_79 : decode b_En_isPolicyOf 79 = .ok (.ifCond .eq 7, 3) := by decide +kernel
theorem d_En_isPolicyOf_82 : decode b_En_isPolicyOf 82 = .ok (.iconst 1, 1) := by decide +kernel
theorem d_En_isPolicyOf_83 : decode b_En_isPolicyOf 83 = .ok (.goto 4, 3) := by decide +kernel
theorem d_En_isPolicyOf_86 : decode b_En_isPolicyOf 86 = .ok (.iconst 0, 1) := by decide +kernel
theorem d_En_isPolicyOf_87 : decode b_En_isPolicyOf 87 = .ok (.ireturn, 1) := by decide +kernel
