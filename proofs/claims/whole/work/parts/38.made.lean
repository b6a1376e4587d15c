theorem fws_Le : ∀ w ∈ u_ws R_Le F_Le 4, w ∈ TB := by decide +kernel
theorem ft_Le : FT cLe t_Le := fun C T N h => by
  have h2 : some (R_Le, F_Le, 4) = some (C, T, N) := h
  cases h2
  exact ⟨by decide +kernel, by decide +kernel⟩
theorem fl_Le_31 : FL "SendPolicy$Level" 31 cLe 3 := ⟨R_Le, F_Le, 4, rfl, fws_Le, (Nat.le_of_ble_eq_true rfl), (tb_in 175 (by decide +kernel) rfl)⟩
theorem lm_Le_3 : Cond.methodLink "SendPolicy$Level" 3 ⟨"java/lang/Object", "<init>", "()V"⟩ ∈ TB := (tb_in 142 (by decide +kernel) rfl)
theorem kl_Le_9 : Cond.classLink "SendPolicy$Level" 9 "SendPolicy$Bytes" ∈ TB := (tb_in 143 (by decide +kernel) rfl)
theorem nw_Le_9 : NewW "SendPolicy$Level" 9 cBy 3 t_By := ⟨R_By, F_By, rfl, ft_By, fws_By, kl_Le_9, (tb_in 58 (by decide +kernel) rfl), (tb_in 31 (by decide +kernel) rfl)⟩
theorem ci_Le_11 : CI "SendPolicy$Level" 11 y_By_init b_By_init 2 1 := ⟨mw_By_init, (tb_in 144 (by decide +kernel) rfl), (tb_in 60 (by decide +kernel) rfl), rfl⟩
theorem fl_Le_14 : FL "SendPolicy$Level" 14 cLe 0 := ⟨R_Le, F_Le, 4, rfl, fws_Le, (Nat.le_of_ble_eq_true rfl), (tb_in 170 (by decide +kernel) rfl)⟩
theorem ff_Le_0 : FF "SendPolicy$Level" cLe 0 := fun C T N h => by
  have h2 : some (R_Le, F_Le, 4) = some (C, T, N) := h
  cases h2
  exact ⟨rfl, rfl⟩
theorem kl_Le_20 : Cond.classLink "SendPolicy$Level" 20 "SendPolicy$Term" ∈ TB := (tb_in 145 (by decide +kernel) rfl)
theorem nw_Le_20 : NewW "SendPolicy$Level" 20 cTe 6 t_Te := ⟨R_Te, F_Te, rfl, ft_Te, fws_Te, kl_Le_20, (tb_in 146 (by decide +kernel) rfl), (tb_in 38 (by decide +kernel) rfl)⟩
set_option maxRecDepth 100000 in
theorem mw_Te_init : MW y_Te_init b_Te_init 1 none 0 := ⟨tb_in 149 rfl rfl, (tb_in 38 (by decide +kernel) rfl), ⟨by decide +kernel, by decide +kernel, by decide +kernel⟩, (Nat.le_of_ble_eq_true rfl)⟩
theorem cm_Le_22 : CMi "SendPolicy$Level" 22 y_Te_init "SendPolicy" b_Te_init 1 0 := ⟨mw_Te_init, (tb_in 148 (by decide +kernel) rfl), rfl, by decide⟩
theorem fl_Le_23 : FL "SendPolicy$Level" 23 cLe 1 := ⟨R_Le, F_Le, 4, rfl, fws_Le, (Nat.le_of_ble_eq_true rfl), (tb_in 172 (by decide +kernel) rfl)⟩
theorem ff_Le_1 : FF "SendPolicy$Level" cLe 1 := fun C T N h => by
  have h2 : some (R_Le, F_Le, 4) = some (C, T, N) := h
  cases h2
  exact ⟨rfl, rfl⟩
theorem fl_Le_27 : FL "SendPolicy$Level" 27 cLe 2 := ⟨R_Le, F_Le, 4, rfl, fws_Le, (Nat.le_of_ble_eq_true rfl), (tb_in 174 (by decide +kernel) rfl)⟩
theorem fw_Le_2 : FW cLe 2 := fun C T N h => by
  have h2 : some (R_Le, F_Le, 4) = some (C, T, N) := h
  cases h2
  rfl
theorem fw_Le_3 : FW cLe 3 := fun C T N h => by
  have h2 : some (R_Le, F_Le, 4) = some (C, T, N) := h
  cases h2
  rfl
theorem cv_Le_34 : CV "SendPolicy$Level" 34 y_By_size b_By_size 1 (some .int) 0 cBy := ⟨mw_By_size, (tb_in 473 (by decide +kernel) rfl), (tb_in 233 (by decide +kernel) rfl), (tb_in 234 (by decide +kernel) rfl), _, rfl, rfl⟩
set_option maxRecDepth 100000 in
theorem mw_Te_startsAt : MW y_Te_startsAt b_Te_startsAt 2 (some .boolean) 2 := ⟨tb_in 476 rfl rfl, (tb_in 38 (by decide +kernel) rfl), ⟨by decide +kernel, by decide +kernel, by decide +kernel⟩, (Nat.le_of_ble_eq_true rfl)⟩
theorem cs_Le_38 : CS "SendPolicy$Level" 38 y_Te_startsAt b_Te_startsAt 2 (some .boolean) 2 := ⟨mw_Te_startsAt, (tb_in 474 (by decide +kernel) rfl), (tb_in 475 (by decide +kernel) rfl)⟩
set_option maxRecDepth 100000 in
theorem mw_Te_read : MW y_Te_read b_Te_read 7 (some .boolean) 2 := ⟨tb_in 481 rfl rfl, (tb_in 38 (by decide +kernel) rfl), ⟨by decide +kernel, by decide +kernel, by decide +kernel⟩, (Nat.le_of_ble_eq_true rfl)⟩
theorem cv_Le_42 : CV "SendPolicy$Level" 42 y_Te_read b_Te_read 7 (some .boolean) 2 cTe := ⟨mw_Te_read, (tb_in 478 (by decide +kernel) rfl), (tb_in 479 (by decide +kernel) rfl), (tb_in 480 (by decide +kernel) rfl), _, rfl, rfl⟩
set_option maxRecDepth 100000 in
theorem mw_Te_kind : MW y_Te_kind b_Te_kind 1 (some .int) 0 := ⟨tb_in 540 rfl rfl, (tb_in 38 (by decide +kernel) rfl), ⟨by decide +kernel, by decide +kernel, by decide +kernel⟩, (Nat.le_of_ble_eq_true rfl)⟩
theorem cv_Le_45 : CV "SendPolicy$Level" 45 y_Te_kind b_Te_kind 1 (some .int) 0 cTe := ⟨mw_Te_kind, (tb_in 537 (by decide +kernel) rfl), (tb_in 538 (by decide +kernel) rfl), (tb_in 539 (by decide +kernel) rfl), _, rfl, rfl⟩
set_option maxRecDepth 100000 in
theorem mw_Le_hasRedirect : MW y_Le_hasRedirect b_Le_hasRedirect 1 (some .boolean) 0 := ⟨tb_in 544 rfl rfl, (tb_in 37 (by decide +kernel) rfl), ⟨by decide +kernel, by decide +kernel, by decide +kernel⟩, (Nat.le_of_ble_eq_true rfl)⟩
theorem cv_Le_48 : CV "SendPolicy$Level" 48 y_Le_hasRedirect b_Le_hasRedirect 1 (some .boolean) 0 cLe := ⟨mw_Le_hasRedirect, (tb_in 541 (by decide +kernel) rfl), (tb_in 542 (by decide +kernel) rfl), (tb_in 543 (by decide +kernel) rfl), _, rfl, rfl⟩
set_option maxRecDepth 100000 in
theorem mw_Te_from : MW y_Te_from b_Te_from 1 (some .int) 0 := ⟨tb_in 548 rfl rfl, (tb_in 38 (by decide +kernel) rfl), ⟨by decide +kernel, by decide +kernel, by decide +kernel⟩, (Nat.le_of_ble_eq_true rfl)⟩
theorem cv_Le_52 : CV "SendPolicy$Level" 52 y_Te_from b_Te_from 1 (some .int) 0 cTe := ⟨mw_Te_from, (tb_in 545 (by decide +kernel) rfl), (tb_in 546 (by decide +kernel) rfl), (tb_in 547 (by decide +kernel) rfl), _, rfl, rfl⟩
set_option maxRecDepth 100000 in
theorem mw_Te_to : MW y_Te_to b_Te_to 1 (some .int) 0 := ⟨tb_in 552 rfl rfl, (tb_in 38 (by decide +kernel) rfl), ⟨by decide +kernel, by decide +kernel, by decide +kernel⟩, (Nat.le_of_ble_eq_true rfl)⟩
theorem cv_Le_55 : CV "SendPolicy$Level" 55 y_Te_to b_Te_to 1 (some .int) 0 cTe := ⟨mw_Te_to, (tb_in 549 (by decide +kernel) rfl), (tb_in 550 (by decide +kernel) rfl), (tb_in 551 (by decide +kernel) rfl), _, rfl, rfl⟩
theorem lm_Ma_3 : Cond.methodLink "SendPolicy$Macros" 3 ⟨"java/lang/Object", "<init>", "()V"⟩ ∈ TB := (tb_in 121 (by decide +kernel) rfl)
theorem fws_Ma : ∀ w ∈ u_ws R_Ma F_Ma 2, w ∈ TB := by decide +kernel
theorem ft_Ma : FT cMa t_Ma := fun C T N h => by
  have h2 : some (R_Ma, F_Ma, 2) = some (C, T, N) := h
  cases h2
  exact ⟨by decide +kernel, by decide +kernel⟩
theorem fl_Ma_9 : FL "SendPolicy$Macros" 9 cMa 0 := ⟨R_Ma, F_Ma, 2, rfl, fws_Ma, (Nat.le_of_ble_eq_true rfl), (tb_in 122 (by decide +kernel) rfl)⟩
theorem ff_Ma_0 : FF "SendPolicy$Macros" cMa 0 := fun C T N h => by
  have h2 : some (R_Ma, F_Ma, 2) = some (C, T, N) := h
  cases h2
  exact ⟨rfl, rfl⟩
theorem fl_Ma_15 : FL "SendPolicy$Macros" 15 cMa 1 := ⟨R_Ma, F_Ma, 2, rfl, fws_Ma, (Nat.le_of_ble_eq_true rfl), (tb_in 123 (by decide +kernel) rfl)⟩
theorem ff_Ma_1 : FF "SendPolicy$Macros" cMa 1 := fun C T N h => by
  have h2 : some (R_Ma, F_Ma, 2) = some (C, T, N) := h
  cases h2
  exact ⟨rfl, rfl⟩
theorem cv_Ma_36 : CV "SendPolicy$Macros" 36 y_By_add b_By_add 2 none 1 cBy := ⟨mw_By_add, (tb_in 593 (by decide +kernel) rfl), (tb_in 241 (by decide +kernel) rfl), (tb_in 242 (by decide +kernel) rfl), _, rfl, rfl⟩
set_option maxRecDepth 100000 in
theorem mw_Ma_writeSign : MW y_Ma_writeSign b_Ma_writeSign 2 none 2 := ⟨tb_in 596 rfl rfl, (tb_in 35 (by decide +kernel) rfl), ⟨by decide +kernel, by decide +kernel, by decide +kernel⟩, (Nat.le_of_ble_eq_true rfl)⟩
theorem cs_Ma_40 : CS "SendPolicy$Macros" 40 y_Ma_writeSign b_Ma_writeSign 2 none 2 := ⟨mw_Ma_writeSign, (tb_in 594 (by decide +kernel) rfl), (tb_in 595 (by decide +kernel) rfl)⟩
set_option maxRecDepth 100000 in
theorem mw_Se_source : MW y_Se_source b_Se_source 3 (some (.object "SendPolicy$Bytes")) 2 := ⟨tb_in 600 rfl rfl, (tb_in 34 (by decide +kernel) rfl), ⟨by decide +kernel, by decide +kernel, by decide +kernel⟩, (Nat.le_of_ble_eq_true rfl)⟩
theorem cv_Ma_44 : CV "SendPolicy$Macros" 44 y_Se_source b_Se_source 3 (some (.object "SendPolicy$Bytes")) 2 cSe := ⟨mw_Se_source, (tb_in 597 (by decide +kernel) rfl), (tb_in 598 (by decide +kernel) rfl), (tb_in 599 (by decide +kernel) rfl), _, rfl, rfl⟩
theorem cv_Ma_50 : CV "SendPolicy$Macros" 50 y_By_size b_By_size 1 (some .int) 0 cBy := ⟨mw_By_size, (tb_in 601 (by decide +kernel) rfl), (tb_in 233 (by decide +kernel) rfl), (tb_in 234 (by decide +kernel) rfl), _, rfl, rfl⟩
set_option maxRecDepth 100000 in
theorem mw_Ma_writeParts : MW y_Ma_writeParts b_Ma_writeParts 9 none 4 := ⟨tb_in 605 rfl rfl, (tb_in 35 (by decide +kernel) rfl), ⟨by decide +kernel, by decide +kernel, by decide +kernel⟩, (Nat.le_of_ble_eq_true rfl)⟩
theorem cv_Ma_54 : CV "SendPolicy$Macros" 54 y_Ma_writeParts b_Ma_writeParts 9 none 4 cMa := ⟨mw_Ma_writeParts, (tb_in 602 (by decide +kernel) rfl), (tb_in 604 (by decide +kernel) rfl), (tb_in 12 (by decide +kernel) rfl), _, rfl, rfl⟩
theorem lm_Ma_58 : Cond.methodLink "SendPolicy$Macros" 58 ⟨"java/lang/Math", "max", "(II)I"⟩ ∈ TB := (tb_in 606 (by decide +kernel) rfl)
theorem cv_Ma_64 : CV "SendPolicy$Macros" 64 y_By_addPart b_By_addPart 5 none 3 cBy := ⟨mw_By_addPart, (tb_in 609 (by decide +kernel) rfl), (tb_in 329 (by decide +kernel) rfl), (tb_in 330 (by decide +kernel) rfl), _, rfl, rfl⟩
theorem fws_Se : ∀ w ∈ u_ws R_Se F_Se 5, w ∈ TB := by decide +kernel
theorem ft_Se : FT cSe t_Se := fun C T N h => by
  have h2 : some (R_Se, F_Se, 5) = some (C, T, N) := h
  cases h2
  exact ⟨by decide +kernel, by decide +kernel⟩
theorem fl_Se_29 : FL "SendPolicy$Sender" 29 cSe 4 := ⟨R_Se, F_Se, 5, rfl, fws_Se, (Nat.le_of_ble_eq_true rfl), (tb_in 104 (by decide +kernel) rfl)⟩
theorem fl_Se_23 : FL "SendPolicy$Sender" 23 cSe 2 := ⟨R_Se, F_Se, 5, rfl, fws_Se, (Nat.le_of_ble_eq_true rfl), (tb_in 102 (by decide +kernel) rfl)⟩
theorem lm_Se_3 : Cond.methodLink "SendPolicy$Sender" 3 ⟨"java/lang/Object", "<init>", "()V"⟩ ∈ TB := (tb_in 97 (by decide +kernel) rfl)
theorem kl_Se_9 : Cond.classLink "SendPolicy$Sender" 9 "SendPolicy$Bytes" ∈ TB := (tb_in 98 (by decide +kernel) rfl)
theorem nw_Se_9 : NewW "SendPolicy$Sender" 9 cBy 3 t_By := ⟨R_By, F_By, rfl, ft_By, fws_By, kl_Se_9, (tb_in 58 (by decide +kernel) rfl), (tb_in 31 (by decide +kernel) rfl)⟩
theorem ci_Se_11 : CI "SendPolicy$Sender" 11 y_By_init b_By_init 2 1 := ⟨mw_By_init, (tb_in 99 (by decide +kernel) rfl), (tb_in 60 (by decide +kernel) rfl), rfl⟩
theorem fl_Se_14 : FL "SendPolicy$Sender" 14 cSe 0 := ⟨R_Se, F_Se, 5, rfl, fws_Se, (Nat.le_of_ble_eq_true rfl), (tb_in 100 (by decide +kernel) rfl)⟩
theorem ff_Se_0 : FF "SendPolicy$Sender" cSe 0 := fun C T N h => by
  have h2 : some (R_Se, F_Se, 5) = some (C, T, N) := h
  cases h2
  exact ⟨rfl, rfl⟩
theorem fl_Se_20 : FL "SendPolicy$Sender" 20 cSe 1 := ⟨R_Se, F_Se, 5, rfl, fws_Se, (Nat.le_of_ble_eq_true rfl), (tb_in 101 (by decide +kernel) rfl)⟩
theorem ff_Se_1 : FF "SendPolicy$Sender" cSe 1 := fun C T N h => by
  have h2 : some (R_Se, F_Se, 5) = some (C, T, N) := h
  cases h2
  exact ⟨rfl, rfl⟩
theorem ff_Se_2 : FF "SendPolicy$Sender" cSe 2 := fun C T N h => by
  have h2 : some (R_Se, F_Se, 5) = some (C, T, N) := h
  cases h2
  exact ⟨rfl, rfl⟩
theorem fl_Se_26 : FL "SendPolicy$Sender" 26 cSe 3 := ⟨R_Se, F_Se, 5, rfl, fws_Se, (Nat.le_of_ble_eq_true rfl), (tb_in 103 (by decide +kernel) rfl)⟩
theorem ff_Se_3 : FF "SendPolicy$Sender" cSe 3 := fun C T N h => by
  have h2 : some (R_Se, F_Se, 5) = some (C, T, N) := h
  cases h2
  exact ⟨rfl, rfl⟩
theorem fw_Se_4 : FW cSe 4 := fun C T N h => by
  have h2 : some (R_Se, F_Se, 5) = some (C, T, N) := h
  cases h2
  rfl
theorem cv_Se_33 : CV "SendPolicy$Sender" 33 y_By_size b_By_size 1 (some .int) 0 cBy := ⟨mw_By_size, (tb_in 349 (by decide +kernel) rfl), (tb_in 233 (by decide +kernel) rfl), (tb_in 234 (by decide +kernel) rfl), _, rfl, rfl⟩
set_option maxRecDepth 100000 in
theorem mw_By_cut : MW y_By_cut b_By_cut 2 none 1 := ⟨tb_in 265 rfl rfl, (tb_in 31 (by decide +kernel) rfl), ⟨by decide +kernel, by decide +kernel, by decide +kernel⟩, (Nat.le_of_ble_eq_true rfl)⟩
theorem cv_Se_57 : CV "SendPolicy$Sender" 57 y_By_cut b_By_cut 2 none 1 cBy := ⟨mw_By_cut, (tb_in 358 (by decide +kernel) rfl), (tb_in 263 (by decide +kernel) rfl), (tb_in 264 (by decide +kernel) rfl), _, rfl, rfl⟩
theorem cv_Se_60 : CV "SendPolicy$Sender" 60 y_By_addPart b_By_addPart 5 none 3 cBy := ⟨mw_By_addPart, (tb_in 359 (by decide +kernel) rfl), (tb_in 329 (by decide +kernel) rfl), (tb_in 330 (by decide +kernel) rfl), _, rfl, rfl⟩
theorem cv_Se_37 : CV "SendPolicy$Sender" 37 y_By_find b_By_find 5 (some .int) 3 cBy := ⟨mw_By_find, (tb_in 350 (by decide +kernel) rfl), (tb_in 280 (by decide +kernel) rfl), (tb_in 281 (by decide +kernel) rfl), _, rfl, rfl⟩
set_option maxRecDepth 100000 in
theorem mw_Si_isLocal : MW y_Si_isLocal b_Si_isLocal 5 (some .boolean) 3 := ⟨tb_in 353 rfl rfl, (tb_in 43 (by decide +kernel) rfl), ⟨by decide +kernel, by decide +kernel, by decide +kernel⟩, (Nat.le_of_ble_eq_true rfl)⟩
theorem cs_Se_41 : CS "SendPolicy$Sender" 41 y_Si_isLocal b_Si_isLocal 5 (some .boolean) 3 := ⟨mw_Si_isLocal, (tb_in 351 (by decide +kernel) rfl), (tb_in 352 (by decide +kernel) rfl)⟩
theorem cs_Se_47 : CS "SendPolicy$Sender" 47 y_Si_isName b_Si_isName 6 (some .boolean) 3 := ⟨mw_Si_isName, (tb_in 354 (by decide +kernel) rfl), (tb_in 291 (by decide +kernel) rfl)⟩
set_option maxRecDepth 100000 in
theorem mw_Se_refill : MW y_Se_refill b_Se_refill 4 none 4 := ⟨tb_in 357 rfl rfl, (tb_in 34 (by decide +kernel) rfl), ⟨by decide +kernel, by decide +kernel, by decide +kernel⟩, (Nat.le_of_ble_eq_true rfl)⟩
theorem cs_Se_50 : CS "SendPolicy$Sender" 50 y_Se_refill b_Se_refill 4 none 4 := ⟨mw_Se_refill, (tb_in 355 (by decide +kernel) rfl), (tb_in 356 (by decide +kernel) rfl)⟩
set_option maxRecDepth 100000 in
theorem mw_Se_writeDotted : MW y_Se_writeDotted b_Se_writeDotted 2 none 0 := ⟨tb_in 363 rfl rfl, (tb_in 34 (by decide +kernel) rfl), ⟨by decide +kernel, by decide +kernel, by decide +kernel⟩, (Nat.le_of_ble_eq_true rfl)⟩
theorem cv_Se_54 : CV "SendPolicy$Sender" 54 y_Se_writeDotted b_Se_writeDotted 2 none 0 cSe := ⟨mw_Se_writeDotted, (tb_in 360 (by decide +kernel) rfl), (tb_in 362 (by decide +kernel) rfl), (tb_in 0 (by decide +kernel) rfl), _, rfl, rfl⟩
set_option maxRecDepth 100000 in
theorem mw_By_addNumber : MW y_By_addNumber b_By_addNumber 2 none 1 := ⟨tb_in 367 rfl rfl, (tb_in 31 (by decide +kernel) rfl), ⟨by decide +kernel, by decide +kernel, by decide +kernel⟩, (Nat.le_of_ble_eq_true rfl)⟩
theorem cv_Se_64 : CV "SendPolicy$Sender" 64 y_By_addNumber b_By_addNumber 2 none 1 cBy := ⟨mw_By_addNumber, (tb_in 364 (by decide +kernel) rfl), (tb_in 365 (by decide +kernel) rfl), (tb_in 366 (by decide +kernel) rfl), _, rfl, rfl⟩
theorem cv_Se_67 : CV "SendPolicy$Sender" 67 y_By_add b_By_add 2 none 1 cBy := ⟨mw_By_add, (tb_in 368 (by decide +kernel) rfl), (tb_in 241 (by decide +kernel) rfl), (tb_in 242 (by decide +kernel) rfl), _, rfl, rfl⟩
/-! DECODE ROWS: printed by wip/gen/names.py -/
theorem d_Le_hasRedirect_0 : decode b_Le_hasRedirect 0 = .ok (.aload_n 0, 1) := by decide +kernel
theorem d_Le_hasRedirect_1 : decode b_Le_hasRedirect 1 = .ok (.getfield 31, 3) := by decide +kernel
theorem d_Le_hasRedirect_4 : decode b_Le_hasRedirect 4 = .ok (.ifCond .le 7, 3) := by decide +kernel
theorem d_Le_hasRedirect_7 : decode b_Le_hasRedirect 7 = .ok (.iconst 1, 1) := by decide +kernel
theorem d_Le_hasRedirect_8 : decode b_Le_hasRedirect 8 = .ok (.goto 4, 3) := by decide +kernel
theorem d_Le_hasRedirect_11 : decode b_Le_hasRedirect 11 = .ok (.iconst 0, 1) := by decide +kernel
theorem d_Le_hasRedirect_12 : decode b_Le_hasRedirect 12 = .ok (.ireturn, 1) := by decide +kernel
theorem d_Le_init_0 : decode b_Le_init 0 = .ok (.aload_n 0, 1) := by decide +kernel
theorem d_Le_init_1 : decode b_Le_init 1 = .ok (.invokespecial 3, 3) := by decide +kernel
theorem d_Le_init_4 : decode b_Le_init 4 = .ok (.aload_n 0, 1) := by decide +kernel
theorem d_Le_init_5 : decode b_Le_init 5 = .ok (.new 9, 3) := by decide +kernel
theorem d_Le_init_8 : decode b_Le_init 8 = .ok (.dup, 1) := by decide +kernel
theorem d_Le_init_9 : decode b_Le_init 9 = .ok (.bipush 61, 2) := by decide +kernel
theorem d_Le_init_11 : decode b_Le_init 11 = .ok (.invokespecial 11, 3) := by decide +kernel
theorem d_Le_init_14 : decode b_Le_init 14 = .ok (.putfield 14, 3) := by decide +kernel
theorem d_Le_init_17 : decode b_Le_init 17 = .ok (.aload_n 0, 1) := by decide +kernel
theorem d_Le_init_18 : decode b_Le_init 18 = .ok (.new 20, 3) := by decide +kernel
theorem d_Le_init_21 : decode b_Le_init 21 = .ok (.dup, 1) := by decide +kernel
theorem d_Le_init_22 : decode b_Le_init 22 = .ok (.invokespecial 22, 3) := by decide +kernel
theorem d_Le_init_25 : decode b_Le_init 25 = .ok (.putfield 23, 3) := by decide +kernel
theorem d_Le_init_28 : decode b_Le_init 28 = .ok (.aload_n 0, 1) := by decide +kernel
theorem d_Le_init_29 : decode b_Le_init 29 = .ok (.iconst 0, 1) := by decide +kernel
theorem d_Le_init_30 : decode b_Le_init 30 = .ok (.putfield 27, 3) := by decide +kernel
theorem d_Le_init_33 : decode b_Le_init 33 = .ok (.aload_n 0, 1) := by decide +kernel
theorem d_Le_init_34 : decode b_Le_init 34 = .ok (.iconst 0, 1) := by decide +kernel
theorem d_Le_init_35 : decode b_Le_init 35 = .ok (.putfield 31, 3) := by decide +kernel
theorem d_Le_init_38 : decode b_Le_init 38 = .ok (.return_, 1) := by decide +kernel
theorem d_Le_readTerms_0 : decode b_Le_readTerms 0 = .ok (.aload_n 0, 1) := by decide +kernel
theorem d_Le_readTerms_1 : decode b_Le_readTerms 1 = .ok (.iconst 0, 1) := by decide +kernel
theorem d_Le_readTerms_2 : decode b_Le_readTerms 2 = .ok (.putfield 27, 3) := by decide +kernel
theorem d_Le_readTerms_5 : decode b_Le_readTerms 5 = .ok (.aload_n 0, 1) := by decide +kernel
theorem d_Le_readTerms_6 : decode b_Le_readTerms 6 = .ok (.iconst 0, 1) := by decide +kernel
theorem d_Le_readTerms_7 : decode b_Le_readTerms 7 = .ok (.putfield 31, 3) := by decide +kernel
theorem d_Le_readTerms_10 : decode b_Le_readTerms 10 = .ok (.bipush 7, 2) := by decide +kernel
theorem d_Le_readTerms_12 : decode b_Le_readTerms 12 = .ok (.istore_n 2, 1) := by decide +kernel
theorem d_Le_readTerms_13 : decode b_Le_readTerms 13 = .ok (.iload_n 2, 1) := by decide +kernel
theorem d_Le_readTerms_14 : decode b_Le_readTerms 14 = .ok (.aload_n 1, 1) := by decide +kernel
theorem d_Le_readTerms_15 : decode b_Le_readTerms 15 = .ok (.invokevirtual 34, 3) := by decide +kernel
theorem d_Le_readTerms_18 : decode b_Le_readTerms 18 = .ok (.if_icmp .ge 77, 3) := by decide +kernel
theorem d_Le_readTerms_21 : decode b_Le_readTerms 21 = .ok (.aload_n 1, 1) := by decide +kernel
theorem d_Le_readTerms_22 : decode b_Le_readTerms 22 = .ok (.iload_n 2, 1) := by decide +kernel
theorem d_Le_readTerms_23 : decode b_Le_readTerms 23 = .ok (.invokestatic 38, 3) := by decide +kernel
theorem d_Le_readTerms_26 : decode b_Le_readTerms 26 = .ok (.ifCond .ne 6, 3) := by decide +kernel
theorem d_Le_readTerms_29 : decode b_Le_readTerms 29 = .ok (.goto 60, 3) := by decide +kernel
theorem d_Le_readTerms_32 : decode b_Le_readTerms 32 = .ok (.aload_n 0, 1) := by decide +kernel
theorem d_Le_readTerms_33 : decode b_Le_readTerms 33 = .ok (.getfield 23, 3) := by decide +kernel
theorem d_Le_readTerms_36 : decode b_Le_readTerms 36 = .ok (.aload_n 1, 1) := by decide +kernel
theorem d_Le_readTerms_37 : decode b_Le_readTerms 37 = .ok (.iload_n 2, 1) := by decide +kernel
theorem d_Le_readTerms_38 : decode b_Le_readTerms 38 = .ok (.invokevirtual 42, 3) := by decide +kernel
theorem d_Le_readTerms_41 : decode b_Le_readTerms 41 = .ok (.ifCond .ne 5, 3) := by decide +kernel
theorem d_Le_readTerms_44 : decode b_Le_readTerms 44 = .ok (.iconst 0, 1) := by decide +kernel
theorem d_Le_readTerms_45 : decode b_Le_readTerms 45 = .ok (.ireturn, 1) := by decide +kernel
theorem d_Le_readTerms_46 : decode b_Le_readTerms 46 = .ok (.aload_n 0, 1) := by decide +kernel
theorem d_Le_readTerms_47 : decode b_Le_readTerms 47 = .ok (.getfield 23, 3) := by decide +kernel
theorem d_Le_readTerms_50 : decode b_Le_readTerms 50 = .ok (.invokevirtual 45, 3) := by decide +kernel
theorem d_Le_readTerms_53 : decode b_Le_readTerms 53 = .ok (.bipush 6, 2) := by decide +kernel
theorem d_Le_readTerms_55 : decode b_Le_readTerms 55 = .ok (.if_icmp .ne 34, 3) := by decide +kernel
theorem d_Le_readTerms_58 : decode b_Le_readTerms 58 = .ok (.aload_n 0, 1) := by decide +kernel
theorem d_Le_readTerms_59 : decode b_Le_readTerms 59 = .ok (.invokevirtual 48, 3) := by decide +kernel
theorem d_Le_readTerms_62 : decode b_Le_readTerms 62 = .ok (.ifCond .eq 5, 3) := by decide +kernel
theorem d_Le_readTerms_65 : decode b_Le_readTerms 65 = .ok (.iconst 0, 1) := by decide +kernel
theorem d_Le_readTerms_66 : decode b_Le_readTerms 66 = .ok (.ireturn, 1) := by decide +kernel
theorem d_Le_readTerms_67 : decode b_Le_readTerms 67 = .ok (.aload_n 0, 1) := by decide +kernel
theorem d_Le_readTerms_68 : decode b_Le_readTerms 68 = .ok (.aload_n 0, 1) := by decide +kernel
theorem d_Le_readTerms_69 : decode b_Le_readTerms 69 = .ok (.getfield 23, 3) := by decide +kernel
theorem d_Le_readTerms_72 : decode b_Le_readTerms 72 = .ok (.invokevirtual 52, 3) := by decide +kernel
theorem d_Le_readTerms_75 : decode b_Le_readTerms 75 = .ok (.putfield 27, 3) := by decide +kernel
theorem d_Le_readTerms_78 : decode b_Le_readTerms 78 = .ok (.aload_n 0, 1) := by decide +kernel
theorem d_Le_readTerms_79 : decode b_Le_readTerms 79 = .ok (.aload_n 0, 1) := by decide +kernel
theorem d_Le_readTerms_80 : decode b_Le_readTerms 80 = .ok (.getfield 23, 3) := by decide +kernel
theorem d_Le_readTerms_83 : decode b_Le_readTerms 83 = .ok (.invokevirtual 55, 3) := by decide +kernel
theorem d_Le_readTerms_86 : decode b_Le_readTerms 86 = .ok (.putfield 31, 3) := by decide +kernel
theorem d_Le_readTerms_89 : decode b_Le_readTerms 89 = .ok (.iinc 2 1, 3) := by decide +kernel
theorem d_Le_readTerms_92 : decode b_Le_readTerms 92 = .ok (.goto (-79), 3) := by decide +kernel
theorem d_Le_readTerms_95 : decode b_Le_readTerms 95 = .ok (.iconst 1, 1) := by decide +kernel
theorem d_Le_readTerms_96 : decode b_Le_readTerms 96 = .ok (.ireturn, 1) := by decide +kernel
theorem d_Le_redirectFrom_0 : decode b_Le_redirectFrom 0 = .ok (.aload_n 0, 1) := by decide +kernel
theorem d_Le_redirectFrom_1 : decode b_Le_redirectFrom 1 = .ok (.getfield 27, 3) := by decide +kernel
theorem d_Le_redirectFrom_4 : decode b_Le_redirectFrom 4 = .ok (.ireturn, 1) := by decide +kernel
theorem d_Le_redirectTo_0 : decode b_Le_redirectTo 0 = .ok (.aload_n 0, 1) := by decide +kernel
theorem d_Le_redirectTo_1 : decode b_Le_redirectTo 1 = .ok (.getfield 31, 3) := by decide +kernel
theorem d_Le_redirectTo_4 : decode b_Le_redirectTo 4 = .ok (.ireturn, 1) := by decide +kernel
theorem d_Ma_init_0 : decode b_Ma_init 0 = .ok (.aload_n 0, 1) := by decide +kernel
theorem d_Ma_init_1 : decode b_Ma_init 1 = .ok (.invokespecial 3, 3) := by decide +kernel
theorem d_Ma_init_4 : decode b_Ma_init 4 = .ok (.aload_n 0, 1) := by decide +kernel
theorem d_Ma_init_5 : decode b_Ma_init 5 = .ok (.aload_n 1, 1) := by decide +kernel
theorem d_Ma_init_6 : decode b_Ma_init 6 = .ok (.putfield 9, 3) := by decide +kernel
theorem d_Ma_init_9 : decode b_Ma_init 9 = .ok (.aload_n 0, 1) := by decide +kernel
theorem d_Ma_init_10 : decode b_Ma_init 10 = .ok (.bipush 93, 2) := by decide +kernel
theorem d_Ma_init_12 : decode b_Ma_init 12 = .ok (.newarray .int, 2) := by decide +kernel
theorem d_Ma_init_14 : decode b_Ma_init 14 = .ok (.putfield 15, 3) := by decide +kernel
theorem d_Ma_init_17 : decode b_Ma_init 17 = .ok (.return_, 1) := by decide +kernel
theorem d_Ma_write_0 : decode b_Ma_write 0 = .ok (.iload_n 2, 1) := by decide +kernel
theorem d_Ma_write_1 : decode b_Ma_write 1 = .ok (.istore 6, 2) := by decide +kernel
theorem d_Ma_write_3 : decode b_Ma_write 3 = .ok (.iload 6, 2) := by decide +kernel
theorem d_Ma_write_5 : decode b_Ma_write 5 = .ok (.iload_n 3, 1) := by decide +kernel
theorem d_Ma_write_6 : decode b_Ma_write 6 = .ok (.if_icmp .ge 177, 3) := by decide +kernel
theorem d_Ma_write_9 : decode b_Ma_write 9 = .ok (.aload_n 1, 1) := by decide +kernel
theorem d_Ma_write_10 : decode b_Ma_write 10 = .ok (.iload 6, 2) := by decide +kernel
theorem d_Ma_write_12 : decode b_Ma_write 12 = .ok (.invokevirtual 19, 3) := by decide +kernel
theorem d_Ma_write_15 : decode b_Ma_write 15 = .ok (.istore 7, 2) := by decide +kernel
theorem d_Ma_write_17 : decode b_Ma_write 17 = .ok (.iload 7, 2) := by decide +kernel
theorem d_Ma_write_19 : decode b_Ma_write 19 = .ok (.bipush 37, 2) := by decide +kernel
theorem d_Ma_write_21 : decode b_Ma_write 21 = .ok (.if_icmp .ne 13, 3) := by decide +kernel
theorem d_Ma_write_24 : decode b_Ma_write 24 = .ok (.aload_n 1, 1) := by decide +kernel
theorem d_Ma_write_25 : decode b_Ma_write 25 = .ok (.iload 6, 2) := by decide +kernel
theorem d_Ma_write_27 : decode b_Ma_write 27 = .ok (.iload_n 3, 1) := by decide +kernel
theorem d_Ma_write_28 : decode b_Ma_write 28 = .ok (.invokestatic 25, 3) := by decide +kernel
theorem d_Ma_write_31 : decode b_Ma_write 31 = .ok (.goto 4, 3) := by decide +kernel
theorem d_Ma_write_34 : decode b_Ma_write 34 = .ok (.iconst 0, 1) := by decide +kernel
theorem d_Ma_write_35 : decode b_Ma_write 35 = .ok (.istore 8, 2) := by decide +kernel
theorem d_Ma_write_37 : decode b_Ma_write 37 = .ok (.iload 8, 2) := by decide +kernel
theorem d_Ma_write_39 : decode b_Ma_write 39 = .ok (.ifCond .ne 13, 3) := by decide +kernel
theorem d_Ma_write_42 : decode b_Ma_write 42 = .ok (.aload 5, 2) := by decide +kernel
theorem d_Ma_write_44 : decode b_Ma_write 44 = .ok (.iload 7, 2) := by decide +kernel
theorem d_Ma_write_46 : decode b_Ma_write 46 = .ok (.invokevirtual 36, 3) := by decide +kernel
theorem d_Ma_write_49 : decode b_Ma_write 49 = .ok (.goto 128, 3) := by decide +kernel
theorem d_Ma_write_52 : decode b_Ma_write 52 = .ok (.iload 8, 2) := by decide +kernel
theorem d_Ma_write_54 : decode b_Ma_write 54 = .ok (.iconst 2, 1) := by decide +kernel
theorem d_Ma_write_55 : decode b_Ma_write 55 = .ok (.if_icmp .ne 22, 3) := by decide +kernel
theorem d_Ma_write_58 : decode b_Ma_write 58 = .ok (.aload_n 1, 1) := by decide +kernel
theorem d_Ma_write_59 : decode b_Ma_write 59 = .ok (.iload 6, 2) := by decide +kernel
theorem d_Ma_write_61 : decode b_Ma_write 61 = .ok (.iconst 1, 1) := by decide +kernel
theorem d_Ma_write_62 : decode b_Ma_write 62 = .ok (.iadd, 1) := by decide +kernel
theorem d_Ma_write_63 : decode b_Ma_write 63 = .ok (.invokevirtual 19, 3) := by decide +kernel
theorem d_Ma_write_66 : decode b_Ma_write 66 = .ok (.aload 5, 2) := by decide +kernel
theorem d_Ma_write_68 : decode b_Ma_write 68 = .ok (.invokestatic 40, 3) := by decide +kernel
theorem d_Ma_write_71 : decode b_Ma_write 71 = .ok (.iinc 6 1, 3) := by decide +kernel
theorem d_Ma_write_74 : decode b_Ma_write 74 = .ok (.goto 103, 3) := by decide +kernel
theorem d_Ma_write_77 : decode b_Ma_write 77 = .ok (.aload_n 1, 1) := by decide +kernel
theorem d_Ma_write_78 : decode b_Ma_write 78 = .ok (.iload 6, 2) := by decide +kernel
theorem d_Ma_write_80 : decode b_Ma_write 80 = .ok (.iconst 3, 1) := by decide +kernel
theorem d_Ma_write_81 : decode b_Ma_write 81 = .ok (.iadd, 1) := by decide +kernel
theorem d_Ma_write_82 : decode b_Ma_write 82 = .ok (.invokevirtual 19, 3) := by decide +kernel
theorem d_Ma_write_85 : decode b_Ma_write 85 = .ok (.invokestatic 33, 3) := by decide +kernel
theorem d_Ma_write_88 : decode b_Ma_write 88 = .ok (.istore 9, 2) := by decide +kernel
theorem d_Ma_write_90 : decode b_Ma_write 90 = .ok (.aload_n 1, 1) := by decide +kernel
theorem d_Ma_write_91 : decode b_Ma_write 91 = .ok (.iload 6, 2) := by decide +kernel
theorem d_Ma_write_93 : decode b_Ma_write 93 = .ok (.iload 8, 2) := by decide +kernel
theorem d_Ma_write_95 : decode b_Ma_write 95 = .ok (.iadd, 1) := by decide +kernel
theorem d_Ma_write_96 : decode b_Ma_write 96 = .ok (.iconst 2, 1) := by decide +kernel
theorem d_Ma_write_97 : decode b_Ma_write 97 = .ok (.isub, 1) := by decide +kernel
theorem d_Ma_write_98 : decode b_Ma_write 98 = .ok (.invokevirtual 19, 3) := by decide +kernel
theorem d_Ma_write_101 : decode b_Ma_write 101 = .ok (.bipush 114, 2) := by decide +kernel
theorem d_Ma_write_103 : decode b_Ma_write 103 = .ok (.if_icmp .ne 7, 3) := by decide +kernel
theorem d_Ma_write_106 : decode b_Ma_write 106 = .ok (.iconst 1, 1) := by decide +kernel
theorem d_Ma_write_107 : decode b_Ma_write 107 = .ok (.goto 4, 3) := by decide +kernel
theorem d_Ma_write_110 : decode b_Ma_write 110 = .ok (.iconst 0, 1) := by decide +kernel
theorem d_Ma_write_111 : decode b_Ma_write 111 = .ok (.istore 10, 2) := by decide +kernel
theorem d_Ma_write_113 : decode b_Ma_write 113 = .ok (.aload_n 0, 1) := by decide +kernel
theorem d_Ma_write_114 : decode b_Ma_write 114 = .ok (.getfield 9, 3) := by decide +kernel
theorem d_Ma_write_117 : decode b_Ma_write 117 = .ok (.aload_n 1, 1) := by decide +kernel
theorem d_Ma_write_118 : decode b_Ma_write 118 = .ok (.iload 6, 2) := by decide +kernel
theorem d_Ma_write_120 : decode b_Ma_write 120 = .ok (.iconst 2, 1) := by decide +kernel
theorem d_Ma_write_121 : decode b_Ma_write 121 = .ok (.iadd, 1) := by decide +kernel
theorem d_Ma_write_122 : decode b_Ma_write 122 = .ok (.invokevirtual 19, 3) := by decide +kernel
theorem d_Ma_write_125 : decode b_Ma_write 125 = .ok (.aload 4, 2) := by decide +kernel
theorem d_Ma_write_127 : decode b_Ma_write 127 = .ok (.invokevirtual 44, 3) := by decide +kernel
theorem d_Ma_write_130 : decode b_Ma_write 130 = .ok (.astore 11, 2) := by decide +kernel
theorem d_Ma_write_132 : decode b_Ma_write 132 = .ok (.aload_n 0, 1) := by decide +kernel
theorem d_Ma_write_133 : decode b_Ma_write 133 = .ok (.aload 11, 2) := by decide +kernel
theorem d_Ma_write_135 : decode b_Ma_write 135 = .ok (.iload 9, 2) := by decide +kernel
theorem d_Ma_write_137 : decode b_Ma_write 137 = .ok (.ifCond .eq 17, 3) := by decide +kernel
theorem d_Ma_write_140 : decode b_Ma_write 140 = .ok (.aload_n 1, 1) := by decide +kernel
theorem d_Ma_write_141 : decode b_Ma_write 141 = .ok (.iload 6, 2) := by decide +kernel
theorem d_Ma_write_143 : decode b_Ma_write 143 = .ok (.iconst 3, 1) := by decide +kernel
theorem d_Ma_write_144 : decode b_Ma_write 144 = .ok (.iadd, 1) := by decide +kernel
theorem d_Ma_write_145 : decode b_Ma_write 145 = .ok (.invokevirtual 19, 3) := by decide +kernel
theorem d_Ma_write_148 : decode b_Ma_write 148 = .ok (.bipush 48, 2) := by decide +kernel
theorem d_Ma_write_150 : decode b_Ma_write 150 = .ok (.isub, 1) := by decide +kernel
theorem d_Ma_write_151 : decode b_Ma_write 151 = .ok (.goto 10, 3) := by decide +kernel
theorem d_Ma_write_154 : decode b_Ma_write 154 = .ok (.aload 11, 2) := by decide +kernel
theorem d_Ma_write_156 : decode b_Ma_write 156 = .ok (.invokevirtual 50, 3) := by decide +kernel
theorem d_Ma_write_159 : decode b_Ma_write 159 = .ok (.iconst 1, 1) := by decide +kernel
theorem d_Ma_write_160 : decode b_Ma_write 160 = .ok (.iadd, 1) := by decide +kernel
theorem d_Ma_write_161 : decode b_Ma_write 161 = .ok (.iload 10, 2) := by decide +kernel
theorem d_Ma_write_163 : decode b_Ma_write 163 = .ok (.aload 5, 2) := by decide +kernel
theorem d_Ma_write_165 : decode b_Ma_write 165 = .ok (.invokevirtual 54, 3) := by decide +kernel
theorem d_Ma_write_168 : decode b_Ma_write 168 = .ok (.iload 6, 2) := by decide +kernel
theorem d_Ma_write_170 : decode b_Ma_write 170 = .ok (.iload 8, 2) := by decide +kernel
theorem d_Ma_write_172 : decode b_Ma_write 172 = .ok (.iconst 1, 1) := by decide +kernel
theorem d_Ma_write_173 : decode b_Ma_write 173 = .ok (.isub, 1) := by decide +kernel
theorem d_Ma_write_174 : decode b_Ma_write 174 = .ok (.iadd, 1) := by decide +kernel
theorem d_Ma_write_175 : decode b_Ma_write 175 = .ok (.istore 6, 2) := by decide +kernel
theorem d_Ma_write_177 : decode b_Ma_write 177 = .ok (.iinc 6 1, 3) := by decide +kernel
theorem d_Ma_write_180 : decode b_Ma_write 180 = .ok (.goto (-177), 3) := by decide +kernel
theorem d_Ma_write_183 : decode b_Ma_write 183 = .ok (.return_, 1) := by decide +kernel
theorem d_Ma_writeParts_0 : decode b_Ma_writeParts 0 = .ok (.iconst 0, 1) := by decide +kernel
theorem d_Ma_writeParts_1 : decode b_Ma_writeParts 1 = .ok (.istore 5, 2) := by decide +kernel
theorem d_Ma_writeParts_3 : decode b_Ma_writeParts 3 = .ok (.aload_n 0, 1) := by decide +kernel
theorem d_Ma_writeParts_4 : decode b_Ma_writeParts 4 = .ok (.getfield 15, 3) := by decide +kernel
theorem d_Ma_writeParts_7 : decode b_Ma_writeParts 7 = .ok (.iconst 0, 1) := by decide +kernel
theorem d_Ma_writeParts_8 : decode b_Ma_writeParts 8 = .ok (.iconst 0, 1) := by decide +kernel
theorem d_Ma_writeParts_9 : decode b_Ma_writeParts 9 = .ok (.iastore, 1) := by decide +kernel
theorem d_Ma_writeParts_10 : decode b_Ma_writeParts 10 = .ok (.iconst 0, 1) := by decide +kernel
theorem d_Ma_writeParts_11 : decode b_Ma_writeParts 11 = .ok (.istore 6, 2) := by decide +kernel
theorem d_Ma_writeParts_13 : decode b_Ma_writeParts 13 = .ok (.iload 6, 2) := by decide +kernel
theorem d_Ma_writeParts_15 : decode b_Ma_writeParts 15 = .ok (.aload_n 1, 1) := by decide +kernel
theorem d_Ma_writeParts_16 : decode b_Ma_writeParts 16 = .ok (.invokevirtual 50, 3) := by decide +kernel
theorem d_Ma_writeParts_19 : decode b_Ma_writeParts 19 = .ok (.if_icmp .gt 55, 3) := by decide +kernel
theorem d_Ma_writeParts_22 : decode b_Ma_writeParts 22 = .ok (.iload 5, 2) := by decide +kernel
theorem d_Ma_writeParts_24 : decode b_Ma_writeParts 24 = .ok (.iconst 1, 1) := by decide +kernel
theorem d_Ma_writeParts_25 : decode b_Ma_writeParts 25 = .ok (.iadd, 1) := by decide +kernel
theorem d_Ma_writeParts_26 : decode b_Ma_writeParts 26 = .ok (.aload_n 0, 1) := by decide +kernel
theorem d_Ma_writeParts_27 : decode b_Ma_writeParts 27 = .ok (.getfield 15, 3) := by decide +kernel
theorem d_Ma_writeParts_30 : decode b_Ma_writeParts 30 = .ok (.arraylength, 1) := by decide +kernel
theorem d_Ma_writeParts_31 : decode b_Ma_writeParts 31 = .ok (.if_icmp .ge 43, 3) := by decide +kernel
theorem d_Ma_writeParts_34 : decode b_Ma_writeParts 34 = .ok (.iload 6, 2) := by decide +kernel
theorem d_Ma_writeParts_36 : decode b_Ma_writeParts 36 = .ok (.aload_n 1, 1) := by decide +kernel
theorem d_Ma_writeParts_37 : decode b_Ma_writeParts 37 = .ok (.invokevirtual 50, 3) := by decide +kernel
theorem d_Ma_writeParts_40 : decode b_Ma_writeParts 40 = .ok (.if_icmp .eq 14, 3) := by decide +kernel
theorem d_Ma_writeParts_43 : decode b_Ma_writeParts 43 = .ok (.aload_n 1, 1) := by decide +kernel
theorem d_Ma_writeParts_44 : decode b_Ma_writeParts 44 = .ok (.iload 6, 2) := by decide +kernel
theorem d_Ma_writeParts_46 : decode b_Ma_writeParts 46 = .ok (.invokevirtual 19, 3) := by decide +kernel
theorem d_Ma_writeParts_49 : decode b_Ma_writeParts 49 = .ok (.bipush 46, 2) := by decide +kernel
theorem d_Ma_writeParts_51 : decode b_Ma_writeParts 51 = .ok (.if_icmp .ne 17, 3) := by decide +kernel
theorem d_Ma_writeParts_54 : decode b_Ma_writeParts 54 = .ok (.iinc 5 1, 3) := by decide +kernel
theorem d_Ma_writeParts_57 : decode b_Ma_writeParts 57 = .ok (.aload_n 0, 1) := by decide +kernel
theorem d_Ma_writeParts_58 : decode b_Ma_writeParts 58 = .ok (.getfield 15, 3) := by decide +kernel
theorem d_Ma_writeParts_61 : decode b_Ma_writeParts 61 = .ok (.iload 5, 2) := by decide +kernel
theorem d_Ma_writeParts_63 : decode b_Ma_writeParts 63 = .ok (.iload 6, 2) := by decide +kernel
theorem d_Ma_writeParts_65 : decode b_Ma_writeParts 65 = .ok (.iconst 1, 1) := by decide +kernel
theorem d_Ma_writeParts_66 : decode b_Ma_writeParts 66 = .ok (.iadd, 1) := by decide +kernel
theorem d_Ma_writeParts_67 : decode b_Ma_writeParts 67 = .ok (.iastore, 1) := by decide +kernel
theorem d_Ma_writeParts_68 : decode b_Ma_writeParts 68 = .ok (.iinc 6 1, 3) := by decide +kernel
theorem d_Ma_writeParts_71 : decode b_Ma_writeParts 71 = .ok (.goto (-58), 3) := by decide +kernel
theorem d_Ma_writeParts_74 : decode b_Ma_writeParts 74 = .ok (.iconst 0, 1) := by decide +kernel
theorem d_Ma_writeParts_75 : decode b_Ma_writeParts 75 = .ok (.iload 5, 2) := by decide +kernel
theorem d_Ma_writeParts_77 : decode b_Ma_writeParts 77 = .ok (.iload_n 2, 1) := by decide +kernel
theorem d_Ma_writeParts_78 : decode b_Ma_writeParts 78 = .ok (.isub, 1) := by decide +kernel
theorem d_Ma_writeParts_79 : decode b_Ma_writeParts 79 = .ok (.invokestatic 58, 3) := by decide +kernel
theorem d_Ma_writeParts_82 : decode b_Ma_writeParts 82 = .ok (.istore 6, 2) := by decide +kernel
theorem d_Ma_writeParts_84 : decode b_Ma_writeParts 84 = .ok (.iload 6, 2) := by decide +kernel
theorem d_Ma_writeParts_86 : decode b_Ma_writeParts 86 = .ok (.istore 7, 2) := by decide +kernel
theorem d_Ma_writeParts_88 : decode b_Ma_writeParts 88 = .ok (.iload 7, 2) := by decide +kernel
theorem d_Ma_writeParts_90 : decode b_Ma_writeParts 90 = .ok (.iload 5, 2) := by decide +kernel
theorem d_Ma_writeParts_92 : decode b_Ma_writeParts 92 = .ok (.if_icmp .ge 65, 3) := by decide +kernel
theorem d_Ma_writeParts_95 : decode b_Ma_writeParts 95 = .ok (.iload_n 3, 1) := by decide +kernel
theorem d_Ma_writeParts_96 : decode b_Ma_writeParts 96 = .ok (.ifCond .eq 13, 3) := by decide +kernel
theorem d_Ma_writeParts_99 : decode b_Ma_writeParts 99 = .ok (.iload 5, 2) := by decide +kernel
theorem d_Ma_writeParts_101 : decode b_Ma_writeParts 101 = .ok (.iconst 1, 1) := by decide +kernel
theorem d_Ma_writeParts_102 : decode b_Ma_writeParts 102 = .ok (.isub, 1) := by decide +kernel
theorem d_Ma_writeParts_103 : decode b_Ma_writeParts 103 = .ok (.iload 7, 2) := by decide +kernel
theorem d_Ma_writeParts_105 : decode b_Ma_writeParts 105 = .ok (.isub, 1) := by decide +kernel
theorem d_Ma_writeParts_106 : decode b_Ma_writeParts 106 = .ok (.goto 5, 3) := by decide +kernel
theorem d_Ma_writeParts_109 : decode b_Ma_writeParts 109 = .ok (.iload 7, 2) := by decide +kernel
theorem d_Ma_writeParts_111 : decode b_Ma_writeParts 111 = .ok (.istore 8, 2) := by decide +kernel
theorem d_Ma_writeParts_113 : decode b_Ma_writeParts 113 = .ok (.iload 7, 2) := by decide +kernel
theorem d_Ma_writeParts_115 : decode b_Ma_writeParts 115 = .ok (.iload 6, 2) := by decide +kernel
theorem d_Ma_writeParts_117 : decode b_Ma_writeParts 117 = .ok (.if_icmp .le 10, 3) := by decide +kernel
theorem d_Ma_writeParts_120 : decode b_Ma_writeParts 120 = .ok (.aload 4, 2) := by decide +kernel
theorem d_Ma_writeParts_122 : decode b_Ma_writeParts 122 = .ok (.bipush 46, 2) := by decide +kernel
theorem d_Ma_writeParts_124 : decode b_Ma_writeParts 124 = .ok (.invokevirtual 36, 3) := by decide +kernel
theorem d_Ma_writeParts_127 : decode b_Ma_writeParts 127 = .ok (.aload 4, 2) := by decide +kernel
theorem d_Ma_writeParts_129 : decode b_Ma_writeParts 129 = .ok (.aload_n 1, 1) := by decide +kernel
theorem d_Ma_writeParts_130 : decode b_Ma_writeParts 130 = .ok (.aload_n 0, 1) := by decide +kernel
theorem d_Ma_writeParts_131 : decode b_Ma_writeParts 131 = .ok (.getfield 15, 3) := by decide +kernel
theorem d_Ma_writeParts_134 : decode b_Ma_writeParts 134 = .ok (.iload 8, 2) := by decide +kernel
theorem d_Ma_writeParts_136 : decode b_Ma_writeParts 136 = .ok (.iaload, 1) := by decide +kernel
theorem d_Ma_writeParts_137 : decode b_Ma_writeParts 137 = .ok (.aload_n 0, 1) := by decide +kernel
theorem d_Ma_writeParts_138 : decode b_Ma_writeParts 138 = .ok (.getfield 15, 3) := by decide +kernel
theorem d_Ma_writeParts_141 : decode b_Ma_writeParts 141 = .ok (.iload 8, 2) := by decide +kernel
theorem d_Ma_writeParts_143 : decode b_Ma_writeParts 143 = .ok (.iconst 1, 1) := by decide +kernel
theorem d_Ma_writeParts_144 : decode b_Ma_writeParts 144 = .ok (.iadd, 1) := by decide +kernel
theorem d_Ma_writeParts_145 : decode b_Ma_writeParts 145 = .ok (.iaload, 1) := by decide +kernel
theorem d_Ma_writeParts_146 : decode b_Ma_writeParts 146 = .ok (.iconst 1, 1) := by decide +kernel
theorem d_Ma_writeParts_147 : decode b_Ma_writeParts 147 = .ok (.isub, 1) := by decide +kernel
theorem d_Ma_writeParts_148 : decode b_Ma_writeParts 148 = .ok (.invokevirtual 64, 3) := by decide +kernel
theorem d_Ma_writeParts_151 : decode b_Ma_writeParts 151 = .ok (.iinc 7 1, 3) := by decide +kernel
theorem d_Ma_writeParts_154 : decode b_Ma_writeParts 154 = .ok (.goto (-66), 3) := by decide +kernel
theorem d_Ma_writeParts_157 : decode b_Ma_writeParts 157 = .ok (.return_, 1) := by decide +kernel
theorem d_Ma_writeSign_0 : decode b_Ma_writeSign 0 = .ok (.iload_n 0, 1) := by decide +kernel
theorem d_Ma_writeSign_1 : decode b_Ma_writeSign 1 = .ok (.bipush 37, 2) := by decide +kernel
theorem d_Ma_writeSign_3 : decode b_Ma_writeSign 3 = .ok (.if_icmp .ne 12, 3) := by decide +kernel
theorem d_Ma_writeSign_6 : decode b_Ma_writeSign 6 = .ok (.aload_n 1, 1) := by decide +kernel
theorem d_Ma_writeSign_7 : decode b_Ma_writeSign 7 = .ok (.bipush 37, 2) := by decide +kernel
theorem d_Ma_writeSign_9 : decode b_Ma_writeSign 9 = .ok (.invokevirtual 36, 3) := by decide +kernel
theorem d_Ma_writeSign_12 : decode b_Ma_writeSign 12 = .ok (.goto 36, 3) := by decide +kernel
theorem d_Ma_writeSign_15 : decode b_Ma_writeSign 15 = .ok (.iload_n 0, 1) := by decide +kernel
theorem d_Ma_writeSign_16 : decode b_Ma_writeSign 16 = .ok (.bipush 95, 2) := by decide +kernel
theorem d_Ma_writeSign_18 : decode b_Ma_writeSign 18 = .ok (.if_icmp .ne 12, 3) := by decide +kernel
theorem d_Ma_writeSign_21 : decode b_Ma_writeSign 21 = .ok (.aload_n 1, 1) := by decide +kernel
theorem d_Ma_writeSign_22 : decode b_Ma_writeSign 22 = .ok (.bipush 32, 2) := by decide +kernel
theorem d_Ma_writeSign_24 : decode b_Ma_writeSign 24 = .ok (.invokevirtual 36, 3) := by decide +kernel
theorem d_Ma_writeSign_27 : decode b_Ma_writeSign 27 = .ok (.goto 21, 3) := by decide +kernel
theorem d_Ma_writeSign_30 : decode b_Ma_writeSign 30 = .ok (.aload_n 1, 1) := by decide +kernel
theorem d_Ma_writeSign_31 : decode b_Ma_writeSign 31 = .ok (.bipush 37, 2) := by decide +kernel
theorem d_Ma_writeSign_33 : decode b_Ma_writeSign 33 = .ok (.invokevirtual 36, 3) := by decide +kernel
theorem d_Ma_writeSign_36 : decode b_Ma_writeSign 36 = .ok (.aload_n 1, 1) := by decide +kernel
theorem d_Ma_writeSign_37 : decode b_Ma_writeSign 37 = .ok (.bipush 50, 2) := by decide +kernel
theorem d_Ma_writeSign_39 : decode b_Ma_writeSign 39 = .ok (.invokevirtual 36, 3) := by decide +kernel
theorem d_Ma_writeSign_42 : decode b_Ma_writeSign 42 = .ok (.aload_n 1, 1) := by decide +kernel
theorem d_Ma_writeSign_43 : decode b_Ma_writeSign 43 = .ok (.bipush 48, 2) := by decide +kernel
theorem d_Ma_writeSign_45 : decode b_Ma_writeSign 45 = .ok (.invokevirtual 36, 3) := by decide +kernel
theorem d_Ma_writeSign_48 : decode b_Ma_writeSign 48 = .ok (.return_, 1) := by decide +kernel
theorem d_Se_address_0 : decode b_Se_address 0 = .ok (.aload_n 0, 1) := by decide +kernel
theorem d_Se_address_1 : decode b_Se_address 1 = .ok (.getfield 29, 3) := by decide +kernel
theorem d_Se_address_4 : decode b_Se_address 4 = .ok (.ireturn, 1) := by decide +kernel
theorem d_Se_domain_0 : decode b_Se_domain 0 = .ok (.aload_n 0, 1) := by decide +kernel
theorem d_Se_domain_1 : decode b_Se_domain 1 = .ok (.getfield 23, 3) := by decide +kernel
theorem d_Se_domain_4 : decode b_Se_domain 4 = .ok (.areturn, 1) := by decide +kernel
theorem d_Se_init_0 : decode b_Se_init 0 = .ok (.aload_n 0, 1) := by decide +kernel
theorem d_Se_init_1 : decode b_Se_init 1 = .ok (.invokespecial 3, 3) := by decide +kernel
theorem d_Se_init_4 : decode b_Se_init 4 = .ok (.aload_n 0, 1) := by decide +kernel
theorem d_Se_init_5 : decode b_Se_init 5 = .ok (.new 9, 3) := by decide +kernel
theorem d_Se_init_8 : decode b_Se_init 8 = .ok (.dup, 1) := by decide +kernel
theorem d_Se_init_9 : decode b_Se_init 9 = .ok (.bipush 91, 2) := by decide +kernel
theorem d_Se_init_11 : decode b_Se_init 11 = .ok (.invokespecial 11, 3) := by decide +kernel
theorem d_Se_init_14 : decode b_Se_init 14 = .ok (.putfield 14, 3) := by decide +kernel
theorem d_Se_init_17 : decode b_Se_init 17 = .ok (.aload_n 0, 1) := by decide +kernel
theorem d_Se_init_18 : decode b_Se_init 18 = .ok (.new 9, 3) := by decide +kernel
theorem d_Se_init_21 : decode b_Se_init 21 = .ok (.dup, 1) := by decide +kernel
theorem d_Se_init_22 : decode b_Se_init 22 = .ok (.bipush 30, 2) := by decide +kernel
theorem d_Se_init_24 : decode b_Se_init 24 = .ok (.invokespecial 11, 3) := by decide +kernel
theorem d_Se_init_27 : decode b_Se_init 27 = .ok (.putfield 20, 3) := by decide +kernel
theorem d_Se_init_30 : decode b_Se_init 30 = .ok (.aload_n 0, 1) := by decide +kernel
theorem d_Se_init_31 : decode b_Se_init 31 = .ok (.new 9, 3) := by decide +kernel
theorem d_Se_init_34 : decode b_Se_init 34 = .ok (.dup, 1) := by decide +kernel
theorem d_Se_init_35 : decode b_Se_init 35 = .ok (.bipush 60, 2) := by decide +kernel
theorem d_Se_init_37 : decode b_Se_init 37 = .ok (.invokespecial 11, 3) := by decide +kernel
theorem d_Se_init_40 : decode b_Se_init 40 = .ok (.putfield 23, 3) := by decide +kernel
theorem d_Se_init_43 : decode b_Se_init 43 = .ok (.aload_n 0, 1) := by decide +kernel
theorem d_Se_init_44 : decode b_Se_init 44 = .ok (.new 9, 3) := by decide +kernel
theorem d_Se_init_47 : decode b_Se_init 47 = .ok (.dup, 1) := by decide +kernel
theorem d_Se_init_48 : decode b_Se_init 48 = .ok (.bipush 15, 2) := by decide +kernel
theorem d_Se_init_50 : decode b_Se_init 50 = .ok (.invokespecial 11, 3) := by decide +kernel
theorem d_Se_init_53 : decode b_Se_init 53 = .ok (.putfield 26, 3) := by decide +kernel
theorem d_Se_init_56 : decode b_Se_init 56 = .ok (.aload_n 0, 1) := by decide +kernel
theorem d_Se_init_57 : decode b_Se_init 57 = .ok (.iconst 0, 1) := by decide +kernel
theorem d_Se_init_58 : decode b_Se_init 58 = .ok (.putfield 29, 3) := by decide +kernel
theorem d_Se_init_61 : decode b_Se_init 61 = .ok (.return_, 1) := by decide +kernel
theorem d_Se_isKnown_0 : decode b_Se_isKnown 0 = .ok (.aload_n 0, 1) := by decide +kernel
theorem d_Se_isKnown_1 : decode b_Se_isKnown 1 = .ok (.getfield 14, 3) := by decide +kernel
theorem d_Se_isKnown_4 : decode b_Se_isKnown 4 = .ok (.invokevirtual 33, 3) := by decide +kernel
theorem d_Se_isKnown_7 : decode b_Se_isKnown 7 = .ok (.ifCond .le 7, 3) := by decide +kernel
theorem d_Se_isKnown_10 : decode b_Se_isKnown 10 = .ok (.iconst 1, 1) := by decide +kernel
theorem d_Se_isKnown_11 : decode b_Se_isKnown 11 = .ok (.goto 4, 3) := by decide +kernel
theorem d_Se_isKnown_14 : decode b_Se_isKnown 14 = .ok (.iconst 0, 1) := by decide +kernel
theorem d_Se_isKnown_15 : decode b_Se_isKnown 15 = .ok (.ireturn, 1) := by decide +kernel
theorem d_Se_refill_0 : decode b_Se_refill 0 = .ok (.aload_n 0, 1) := by decide +kernel
theorem d_Se_refill_1 : decode b_Se_refill 1 = .ok (.iconst 0, 1) := by decide +kernel
theorem d_Se_refill_2 : decode b_Se_refill 2 = .ok (.invokevirtual 57, 3) := by decide +kernel
theorem d_Se_refill_5 : decode b_Se_refill 5 = .ok (.aload_n 0, 1) := by decide +kernel
theorem d_Se_refill_6 : decode b_Se_refill 6 = .ok (.aload_n 1, 1) := by decide +kernel
theorem d_Se_refill_7 : decode b_Se_refill 7 = .ok (.iload_n 2, 1) := by decide +kernel
theorem d_Se_refill_8 : decode b_Se_refill 8 = .ok (.iload_n 3, 1) := by decide +kernel
theorem d_Se_refill_9 : decode b_Se_refill 9 = .ok (.invokevirtual 60, 3) := by decide +kernel
theorem d_Se_refill_12 : decode b_Se_refill 12 = .ok (.return_, 1) := by decide +kernel
theorem d_Se_source_0 : decode b_Se_source 0 = .ok (.iload_n 1, 1) := by decide +kernel
theorem d_Se_source_1 : decode b_Se_source 1 = .ok (.lookupswitch 63 #[(105, 58), (108, 48), (111, 53), (115, 43)], 43) := by decide +kernel
theorem d_Se_source_44 : decode b_Se_source 44 = .ok (.aload_n 0, 1) := by decide +kernel
theorem d_Se_source_45 : decode b_Se_source 45 = .ok (.getfield 14, 3) := by decide +kernel
theorem d_Se_source_48 : decode b_Se_source 48 = .ok (.areturn, 1) := by decide +kernel
theorem d_Se_source_49 : decode b_Se_source 49 = .ok (.aload_n 0, 1) := by decide +kernel
theorem d_Se_source_50 : decode b_Se_source 50 = .ok (.getfield 20, 3) := by decide +kernel
theorem d_Se_source_53 : decode b_Se_source 53 = .ok (.areturn, 1) := by decide +kernel
theorem d_Se_source_54 : decode b_Se_source 54 = .ok (.aload_n 0, 1) := by decide +kernel
theorem d_Se_source_55 : decode b_Se_source 55 = .ok (.getfield 23, 3) := by decide +kernel
theorem d_Se_source_58 : decode b_Se_source 58 = .ok (.areturn, 1) := by decide +kernel
theorem d_Se_source_59 : decode b_Se_source 59 = .ok (.aload_n 0, 1) := by decide +kernel
theorem d_Se_source_60 : decode b_Se_source 60 = .ok (.getfield 26, 3) := by decide +kernel
theorem d_Se_source_63 : decode b_Se_source 63 = .ok (.areturn, 1) := by decide +kernel
theorem d_Se_source_64 : decode b_Se_source 64 = .ok (.aload_n 2, 1) := by decide +kernel
theorem d_Se_source_65 : decode b_Se_source 65 = .ok (.areturn, 1) := by decide +kernel
theorem d_Se_take_0 : decode b_Se_take 0 = .ok (.aload_n 2, 1) := by decide +kernel
theorem d_Se_take_1 : decode b_Se_take 1 = .ok (.invokevirtual 33, 3) := by decide +kernel
theorem d_Se_take_4 : decode b_Se_take 4 = .ok (.istore_n 3, 1) := by decide +kernel
theorem d_Se_take_5 : decode b_Se_take 5 = .ok (.aload_n 2, 1) := by decide +kernel
theorem d_Se_take_6 : decode b_Se_take 6 = .ok (.bipush 64, 2) := by decide +kernel
theorem d_Se_take_8 : decode b_Se_take 8 = .ok (.iconst 0, 1) := by decide +kernel
theorem d_Se_take_9 : decode b_Se_take 9 = .ok (.iload_n 3, 1) := by decide +kernel
theorem d_Se_take_10 : decode b_Se_take 10 = .ok (.invokevirtual 37, 3) := by decide +kernel
theorem d_Se_take_13 : decode b_Se_take 13 = .ok (.istore 4, 2) := by decide +kernel
theorem d_Se_take_15 : decode b_Se_take 15 = .ok (.aload_n 2, 1) := by decide +kernel
theorem d_Se_take_16 : decode b_Se_take 16 = .ok (.iconst 0, 1) := by decide +kernel
theorem d_Se_take_17 : decode b_Se_take 17 = .ok (.iload 4, 2) := by decide +kernel
theorem d_Se_take_19 : decode b_Se_take 19 = .ok (.invokestatic 41, 3) := by decide +kernel
theorem d_Se_take_22 : decode b_Se_take 22 = .ok (.ifCond .eq 15, 3) := by decide +kernel
theorem d_Se_take_25 : decode b_Se_take 25 = .ok (.aload_n 2, 1) := by decide +kernel
theorem d_Se_take_26 : decode b_Se_take 26 = .ok (.iload 4, 2) := by decide +kernel
theorem d_Se_take_28 : decode b_Se_take 28 = .ok (.iconst 1, 1) := by decide +kernel
theorem d_Se_take_29 : decode b_Se_take 29 = .ok (.iadd, 1) := by decide +kernel
theorem d_Se_take_30 : decode b_Se_take 30 = .ok (.iload_n 3, 1) := by decide +kernel
theorem d_Se_take_31 : decode b_Se_take 31 = .ok (.invokestatic 47, 3) := by decide +kernel
theorem d_Se_take_34 : decode b_Se_take 34 = .ok (.ifCond .ne 5, 3) := by decide +kernel
theorem d_Se_take_37 : decode b_Se_take 37 = .ok (.iconst 0, 1) := by decide +kernel
theorem d_Se_take_38 : decode b_Se_take 38 = .ok (.ireturn, 1) := by decide +kernel
theorem d_Se_take_39 : decode b_Se_take 39 = .ok (.aload_n 0, 1) := by decide +kernel
theorem d_Se_take_40 : decode b_Se_take 40 = .ok (.iload_n 1, 1) := by decide +kernel
theorem d_Se_take_41 : decode b_Se_take 41 = .ok (.putfield 29, 3) := by decide +kernel
theorem d_Se_take_44 : decode b_Se_take 44 = .ok (.aload_n 0, 1) := by decide +kernel
theorem d_Se_take_45 : decode b_Se_take 45 = .ok (.getfield 14, 3) := by decide +kernel
theorem d_Se_take_48 : decode b_Se_take 48 = .ok (.aload_n 2, 1) := by decide +kernel
theorem d_Se_take_49 : decode b_Se_take 49 = .ok (.iconst 0, 1) := by decide +kernel
theorem d_Se_take_50 : decode b_Se_take 50 = .ok (.iload_n 3, 1) := by decide +kernel
theorem d_Se_take_51 : decode b_Se_take 51 = .ok (.invokestatic 50, 3) := by decide +kernel
theorem d_Se_take_54 : decode b_Se_take 54 = .ok (.aload_n 0, 1) := by decide +kernel
theorem d_Se_take_55 : decode b_Se_take 55 = .ok (.getfield 20, 3) := by decide +kernel
theorem d_Se_take_58 : decode b_Se_take 58 = .ok (.aload_n 2, 1) := by decide +kernel
theorem d_Se_take_59 : decode b_Se_take 59 = .ok (.iconst 0, 1) := by decide +kernel
theorem d_Se_take_60 : decode b_Se_take 60 = .ok (.iload 4, 2) := by decide +kernel
theorem d_Se_take_62 : decode b_Se_take 62 = .ok (.invokestatic 50, 3) := by decide +kernel
theorem d_Se_take_65 : decode b_Se_take 65 = .ok (.aload_n 0, 1) := by decide +kernel
theorem d_Se_take_66 : decode b_Se_take 66 = .ok (.getfield 23, 3) := by decide +kernel
theorem d_Se_take_69 : decode b_Se_take 69 = .ok (.aload_n 2, 1) := by decide +kernel
theorem d_Se_take_70 : decode b_Se_take 70 = .ok (.iload 4, 2) := by decide +kernel
theorem d_Se_take_72 : decode b_Se_take 72 = .ok (.iconst 1, 1) := by decide +kernel
theorem d_Se_take_73 : decode b_Se_take 73 = .ok (.iadd, 1) := by decide +kernel
theorem d_Se_take_74 : decode b_Se_take 74 = .ok (.iload_n 3, 1) := by decide +kernel
theorem d_Se_take_75 : decode b_Se_take 75 = .ok (.invokestatic 50, 3) := by decide +kernel
theorem d_Se_take_78 : decode b_Se_take 78 = .ok (.aload_n 0, 1) := by decide +kernel
theorem d_Se_take_79 : decode b_Se_take 79 = .ok (.invokevirtual 54, 3) := by decide +kernel
theorem d_Se_take_82 : decode b_Se_take 82 = .ok (.iconst 1, 1) := by decide +kernel
theorem d_Se_take_83 : decode b_Se_take 83 = .ok (.ireturn, 1) := by decide +kernel
theorem d_Se_writeDotted_0 : decode b_Se_writeDotted 0 = .ok (.aload_n 0, 1) := by decide +kernel
theorem d_Se_writeDotted_1 : decode b_Se_writeDotted 1 = .ok (.getfield 26, 3) := by decide +kernel
theorem d_Se_writeDotted_4 : decode b_Se_writeDotted 4 = .ok (.iconst 0, 1) := by decide +kernel
theorem d_Se_writeDotted_5 : decode b_Se_writeDotted 5 = .ok (.invokevirtual 57, 3) := by decide +kernel
theorem d_Se_writeDotted_8 : decode b_Se_writeDotted 8 = .ok (.bipush 24, 2) := by decide +kernel
theorem d_Se_writeDotted_10 : decode b_Se_writeDotted 10 = .ok (.istore_n 1, 1) := by decide +kernel
theorem d_Se_writeDotted_11 : decode b_Se_writeDotted 11 = .ok (.iload_n 1, 1) := by decide +kernel
theorem d_Se_writeDotted_12 : decode b_Se_writeDotted 12 = .ok (.ifCond .lt 39, 3) := by decide +kernel
theorem d_Se_writeDotted_15 : decode b_Se_writeDotted 15 = .ok (.aload_n 0, 1) := by decide +kernel
theorem d_Se_writeDotted_16 : decode b_Se_writeDotted 16 = .ok (.getfield 26, 3) := by decide +kernel
theorem d_Se_writeDotted_19 : decode b_Se_writeDotted 19 = .ok (.aload_n 0, 1) := by decide +kernel
theorem d_Se_writeDotted_20 : decode b_Se_writeDotted 20 = .ok (.getfield 29, 3) := by decide +kernel
theorem d_Se_writeDotted_23 : decode b_Se_writeDotted 23 = .ok (.iload_n 1, 1) := by decide +kernel
theorem d_Se_writeDotted_24 : decode b_Se_writeDotted 24 = .ok (.iushr, 1) := by decide +kernel
theorem d_Se_writeDotted_25 : decode b_Se_writeDotted 25 = .ok (.sipush 255, 3) := by decide +kernel
theorem d_Se_writeDotted_28 : decode b_Se_writeDotted 28 = .ok (.iand, 1) := by decide +kernel
theorem d_Se_writeDotted_29 : decode b_Se_writeDotted 29 = .ok (.invokevirtual 64, 3) := by decide +kernel
theorem d_Se_writeDotted_32 : decode b_Se_writeDotted 32 = .ok (.iload_n 1, 1) := by decide +kernel
theorem d_Se_writeDotted_33 : decode b_Se_writeDotted 33 = .ok (.ifCond .le 12, 3) := by decide +kernel
theorem d_Se_writeDotted_36 : decode b_Se_writeDotted 36 = .ok (.aload_n 0, 1) := by decide +kernel
theorem d_Se_writeDotted_37 : decode b_Se_writeDotted 37 = .ok (.getfield 26, 3) := by decide +kernel
theorem d_Se_writeDotted_40 : decode b_Se_writeDotted 40 = .ok (.bipush 46, 2) := by decide +kernel
theorem d_Se_writeDotted_42 : decode b_Se_writeDotted 42 = .ok (.invokevirtual 67, 3) := by decide +kernel
theorem d_Se_writeDotted_45 : decode b_Se_writeDotted 45 = .ok (.iinc 1 (-8), 3) := by decide +kernel
theorem d_Se_writeDotted_48 : decode b_Se_writeDotted 48 = .ok (.goto (-37), 3) := by decide +kernel
theorem d_Se_writeDotted_51 : decode b_Se_writeDotted 51 = .ok (.return_, 1) := by decide +kernel
