theorem fws_Ch : ∀ w ∈ u_ws R_Ch F_Ch 7, w ∈ TB := by decide +kernel
theorem ft_Ch : FT cCh t_Ch := fun C T N h => by
  have h2 : some (R_Ch, F_Ch, 7) = some (C, T, N) := h
  cases h2
  exact ⟨by decide +kernel, by decide +kernel⟩
theorem fl_Ch_39 : FL "SendPolicy$Checker" 39 cCh 5 := ⟨R_Ch, F_Ch, 7, rfl, fws_Ch, (Nat.le_of_ble_eq_true rfl), (tb_in 192 (by decide +kernel) rfl)⟩
theorem fw_Ch_5 : FW cCh 5 := fun C T N h => by
  have h2 : some (R_Ch, F_Ch, 7) = some (C, T, N) := h
  cases h2
  rfl
theorem fl_Ch_43 : FL "SendPolicy$Checker" 43 cCh 6 := ⟨R_Ch, F_Ch, 7, rfl, fws_Ch, (Nat.le_of_ble_eq_true rfl), (tb_in 193 (by decide +kernel) rfl)⟩
theorem fw_Ch_6 : FW cCh 6 := fun C T N h => by
  have h2 : some (R_Ch, F_Ch, 7) = some (C, T, N) := h
  cases h2
  rfl
theorem fl_Ch_25 : FL "SendPolicy$Checker" 25 cCh 3 := ⟨R_Ch, F_Ch, 7, rfl, fws_Ch, (Nat.le_of_ble_eq_true rfl), (tb_in 190 (by decide +kernel) rfl)⟩
theorem fl_Ch_46 : FL "SendPolicy$Checker" 46 cLe 0 := ⟨R_Le, F_Le, 4, rfl, fws_Le, (Nat.le_of_ble_eq_true rfl), (tb_in 171 (by decide +kernel) rfl)⟩
theorem cv_Ch_49 : CV "SendPolicy$Checker" 49 y_By_cut b_By_cut 2 none 1 cBy := ⟨mw_By_cut, (tb_in 381 (by decide +kernel) rfl), (tb_in 263 (by decide +kernel) rfl), (tb_in 264 (by decide +kernel) rfl), _, rfl, rfl⟩
theorem fl_Ch_15 : FL "SendPolicy$Checker" 15 cCh 1 := ⟨R_Ch, F_Ch, 7, rfl, fws_Ch, (Nat.le_of_ble_eq_true rfl), (tb_in 188 (by decide +kernel) rfl)⟩
set_option maxRecDepth 100000 in
theorem mw_Se_domain : MW y_Se_domain b_Se_domain 1 (some (.object "SendPolicy$Bytes")) 0 := ⟨tb_in 385 rfl rfl, (tb_in 34 (by decide +kernel) rfl), ⟨by decide +kernel, by decide +kernel, by decide +kernel⟩, (Nat.le_of_ble_eq_true rfl)⟩
theorem cv_Ch_52 : CV "SendPolicy$Checker" 52 y_Se_domain b_Se_domain 1 (some (.object "SendPolicy$Bytes")) 0 cSe := ⟨mw_Se_domain, (tb_in 382 (by decide +kernel) rfl), (tb_in 383 (by decide +kernel) rfl), (tb_in 384 (by decide +kernel) rfl), _, rfl, rfl⟩
theorem cv_Ch_58 : CV "SendPolicy$Checker" 58 y_By_size b_By_size 1 (some .int) 0 cBy := ⟨mw_By_size, (tb_in 386 (by decide +kernel) rfl), (tb_in 233 (by decide +kernel) rfl), (tb_in 234 (by decide +kernel) rfl), _, rfl, rfl⟩
theorem cv_Ch_62 : CV "SendPolicy$Checker" 62 y_By_addPart b_By_addPart 5 none 3 cBy := ⟨mw_By_addPart, (tb_in 387 (by decide +kernel) rfl), (tb_in 329 (by decide +kernel) rfl), (tb_in 330 (by decide +kernel) rfl), _, rfl, rfl⟩
theorem fl_Ch_9 : FL "SendPolicy$Checker" 9 cCh 0 := ⟨R_Ch, F_Ch, 7, rfl, fws_Ch, (Nat.le_of_ble_eq_true rfl), (tb_in 187 (by decide +kernel) rfl)⟩
set_option maxRecDepth 100000 in
theorem mw_Di_has : MW y_Di_has b_Di_has 4 (some .boolean) 2 := ⟨tb_in 395 rfl rfl, (tb_in 33 (by decide +kernel) rfl), ⟨by decide +kernel, by decide +kernel, by decide +kernel⟩, (Nat.le_of_ble_eq_true rfl)⟩
theorem cv_Ch_66 : CV "SendPolicy$Checker" 66 y_Di_has b_Di_has 4 (some .boolean) 2 cDi := ⟨mw_Di_has, (tb_in 392 (by decide +kernel) rfl), (tb_in 393 (by decide +kernel) rfl), (tb_in 394 (by decide +kernel) rfl), _, rfl, rfl⟩
set_option maxRecDepth 100000 in
theorem mw_Di_policies : MW y_Di_policies b_Di_policies 4 (some .int) 1 := ⟨tb_in 403 rfl rfl, (tb_in 33 (by decide +kernel) rfl), ⟨by decide +kernel, by decide +kernel, by decide +kernel⟩, (Nat.le_of_ble_eq_true rfl)⟩
theorem cv_Ch_72 : CV "SendPolicy$Checker" 72 y_Di_policies b_Di_policies 4 (some .int) 1 cDi := ⟨mw_Di_policies, (tb_in 400 (by decide +kernel) rfl), (tb_in 401 (by decide +kernel) rfl), (tb_in 402 (by decide +kernel) rfl), _, rfl, rfl⟩
set_option maxRecDepth 100000 in
theorem mw_Di_policy : MW y_Di_policy b_Di_policy 3 (some (.object "SendPolicy$Bytes")) 1 := ⟨tb_in 468 rfl rfl, (tb_in 33 (by decide +kernel) rfl), ⟨by decide +kernel, by decide +kernel, by decide +kernel⟩, (Nat.le_of_ble_eq_true rfl)⟩
theorem cv_Ch_76 : CV "SendPolicy$Checker" 76 y_Di_policy b_Di_policy 3 (some (.object "SendPolicy$Bytes")) 1 cDi := ⟨mw_Di_policy, (tb_in 465 (by decide +kernel) rfl), (tb_in 466 (by decide +kernel) rfl), (tb_in 467 (by decide +kernel) rfl), _, rfl, rfl⟩
set_option maxRecDepth 100000 in
theorem mw_Le_readTerms : MW y_Le_readTerms b_Le_readTerms 3 (some .boolean) 1 := ⟨tb_in 472 rfl rfl, (tb_in 37 (by decide +kernel) rfl), ⟨by decide +kernel, by decide +kernel, by decide +kernel⟩, (Nat.le_of_ble_eq_true rfl)⟩
theorem cv_Ch_80 : CV "SendPolicy$Checker" 80 y_Le_readTerms b_Le_readTerms 3 (some .boolean) 1 cLe := ⟨mw_Le_readTerms, (tb_in 469 (by decide +kernel) rfl), (tb_in 470 (by decide +kernel) rfl), (tb_in 471 (by decide +kernel) rfl), _, rfl, rfl⟩
set_option maxRecDepth 100000 in
theorem mw_Ch_firstMatch : MW y_Ch_firstMatch b_Ch_firstMatch 6 (some .int) 2 := ⟨tb_in 556 rfl rfl, (tb_in 36 (by decide +kernel) rfl), ⟨by decide +kernel, by decide +kernel, by decide +kernel⟩, (Nat.le_of_ble_eq_true rfl)⟩
theorem cv_Ch_84 : CV "SendPolicy$Checker" 84 y_Ch_firstMatch b_Ch_firstMatch 6 (some .int) 2 cCh := ⟨mw_Ch_firstMatch, (tb_in 553 (by decide +kernel) rfl), (tb_in 555 (by decide +kernel) rfl), (tb_in 8 (by decide +kernel) rfl), _, rfl, rfl⟩
theorem cv_Ch_88 : CV "SendPolicy$Checker" 88 y_Le_hasRedirect b_Le_hasRedirect 1 (some .boolean) 0 cLe := ⟨mw_Le_hasRedirect, (tb_in 636 (by decide +kernel) rfl), (tb_in 542 (by decide +kernel) rfl), (tb_in 543 (by decide +kernel) rfl), _, rfl, rfl⟩
set_option maxRecDepth 100000 in
theorem mw_Le_redirectFrom : MW y_Le_redirectFrom b_Le_redirectFrom 1 (some .int) 0 := ⟨tb_in 640 rfl rfl, (tb_in 37 (by decide +kernel) rfl), ⟨by decide +kernel, by decide +kernel, by decide +kernel⟩, (Nat.le_of_ble_eq_true rfl)⟩
theorem cv_Ch_92 : CV "SendPolicy$Checker" 92 y_Le_redirectFrom b_Le_redirectFrom 1 (some .int) 0 cLe := ⟨mw_Le_redirectFrom, (tb_in 637 (by decide +kernel) rfl), (tb_in 638 (by decide +kernel) rfl), (tb_in 639 (by decide +kernel) rfl), _, rfl, rfl⟩
set_option maxRecDepth 100000 in
theorem mw_Le_redirectTo : MW y_Le_redirectTo b_Le_redirectTo 1 (some .int) 0 := ⟨tb_in 644 rfl rfl, (tb_in 37 (by decide +kernel) rfl), ⟨by decide +kernel, by decide +kernel, by decide +kernel⟩, (Nat.le_of_ble_eq_true rfl)⟩
theorem cv_Ch_95 : CV "SendPolicy$Checker" 95 y_Le_redirectTo b_Le_redirectTo 1 (some .int) 0 cLe := ⟨mw_Le_redirectTo, (tb_in 641 (by decide +kernel) rfl), (tb_in 642 (by decide +kernel) rfl), (tb_in 643 (by decide +kernel) rfl), _, rfl, rfl⟩
set_option maxRecDepth 100000 in
theorem mw_Ch_checkInside : MW y_Ch_checkInside b_Ch_checkInside 7 (some .int) 4 := ⟨tb_in 584 rfl rfl, (tb_in 36 (by decide +kernel) rfl), ⟨by decide +kernel, by decide +kernel, by decide +kernel⟩, (Nat.le_of_ble_eq_true rfl)⟩
theorem cv_Ch_98 : CV "SendPolicy$Checker" 98 y_Ch_checkInside b_Ch_checkInside 7 (some .int) 4 cCh := ⟨mw_Ch_checkInside, (tb_in 581 (by decide +kernel) rfl), (tb_in 583 (by decide +kernel) rfl), (tb_in 10 (by decide +kernel) rfl), _, rfl, rfl⟩
set_option maxRecDepth 100000 in
theorem mw_Ch_countOne : MW y_Ch_countOne b_Ch_countOne 1 (some .boolean) 0 := ⟨tb_in 588 rfl rfl, (tb_in 36 (by decide +kernel) rfl), ⟨by decide +kernel, by decide +kernel, by decide +kernel⟩, (Nat.le_of_ble_eq_true rfl)⟩
theorem cv_Ch_151 : CV "SendPolicy$Checker" 151 y_Ch_countOne b_Ch_countOne 1 (some .boolean) 0 cCh := ⟨mw_Ch_countOne, (tb_in 585 (by decide +kernel) rfl), (tb_in 587 (by decide +kernel) rfl), (tb_in 11 (by decide +kernel) rfl), _, rfl, rfl⟩
theorem fl_Ch_19 : FL "SendPolicy$Checker" 19 cCh 2 := ⟨R_Ch, F_Ch, 7, rfl, fws_Ch, (Nat.le_of_ble_eq_true rfl), (tb_in 189 (by decide +kernel) rfl)⟩
set_option maxRecDepth 100000 in
theorem mw_Ma_write : MW y_Ma_write b_Ma_write 12 none 5 := ⟨tb_in 592 rfl rfl, (tb_in 35 (by decide +kernel) rfl), ⟨by decide +kernel, by decide +kernel, by decide +kernel⟩, (Nat.le_of_ble_eq_true rfl)⟩
theorem cv_Ch_154 : CV "SendPolicy$Checker" 154 y_Ma_write b_Ma_write 12 none 5 cMa := ⟨mw_Ma_write, (tb_in 589 (by decide +kernel) rfl), (tb_in 590 (by decide +kernel) rfl), (tb_in 591 (by decide +kernel) rfl), _, rfl, rfl⟩
set_option maxRecDepth 100000 in
theorem mw_Ch_check : MW y_Ch_check b_Ch_check 6 (some .int) 1 := ⟨tb_in 391 rfl rfl, (tb_in 36 (by decide +kernel) rfl), ⟨by decide +kernel, by decide +kernel, by decide +kernel⟩, (Nat.le_of_ble_eq_true rfl)⟩
theorem cv_Ch_160 : CV "SendPolicy$Checker" 160 y_Ch_check b_Ch_check 6 (some .int) 1 cCh := ⟨mw_Ch_check, (tb_in 610 (by decide +kernel) rfl), (tb_in 389 (by decide +kernel) rfl), (tb_in 390 (by decide +kernel) rfl), _, rfl, rfl⟩
theorem fl_Ch_102 : FL "SendPolicy$Checker" 102 cLe 1 := ⟨R_Le, F_Le, 4, rfl, fws_Le, (Nat.le_of_ble_eq_true rfl), (tb_in 173 (by decide +kernel) rfl)⟩
theorem cs_Ch_106 : CS "SendPolicy$Checker" 106 y_Te_startsAt b_Te_startsAt 2 (some .boolean) 2 := ⟨mw_Te_startsAt, (tb_in 557 (by decide +kernel) rfl), (tb_in 475 (by decide +kernel) rfl)⟩
theorem cv_Ch_112 : CV "SendPolicy$Checker" 112 y_Te_read b_Te_read 7 (some .boolean) 2 cTe := ⟨mw_Te_read, (tb_in 558 (by decide +kernel) rfl), (tb_in 479 (by decide +kernel) rfl), (tb_in 480 (by decide +kernel) rfl), _, rfl, rfl⟩
set_option maxRecDepth 100000 in
theorem mw_Ch_match : MW y_Ch_match b_Ch_match 4 (some .int) 2 := ⟨tb_in 562 rfl rfl, (tb_in 36 (by decide +kernel) rfl), ⟨by decide +kernel, by decide +kernel, by decide +kernel⟩, (Nat.le_of_ble_eq_true rfl)⟩
theorem cv_Ch_115 : CV "SendPolicy$Checker" 115 y_Ch_match b_Ch_match 4 (some .int) 2 cCh := ⟨mw_Ch_match, (tb_in 559 (by decide +kernel) rfl), (tb_in 561 (by decide +kernel) rfl), (tb_in 9 (by decide +kernel) rfl), _, rfl, rfl⟩
set_option maxRecDepth 100000 in
theorem mw_Te_verdict : MW y_Te_verdict b_Te_verdict 1 (some .int) 0 := ⟨tb_in 635 rfl rfl, (tb_in 38 (by decide +kernel) rfl), ⟨by decide +kernel, by decide +kernel, by decide +kernel⟩, (Nat.le_of_ble_eq_true rfl)⟩
theorem cv_Ch_118 : CV "SendPolicy$Checker" 118 y_Te_verdict b_Te_verdict 1 (some .int) 0 cTe := ⟨mw_Te_verdict, (tb_in 632 (by decide +kernel) rfl), (tb_in 633 (by decide +kernel) rfl), (tb_in 634 (by decide +kernel) rfl), _, rfl, rfl⟩
theorem lm_Ch_3 : Cond.methodLink "SendPolicy$Checker" 3 ⟨"java/lang/Object", "<init>", "()V"⟩ ∈ TB := (tb_in 135 (by decide +kernel) rfl)
theorem ff_Ch_0 : FF "SendPolicy$Checker" cCh 0 := fun C T N h => by
  have h2 : some (R_Ch, F_Ch, 7) = some (C, T, N) := h
  cases h2
  exact ⟨rfl, rfl⟩
theorem ff_Ch_1 : FF "SendPolicy$Checker" cCh 1 := fun C T N h => by
  have h2 : some (R_Ch, F_Ch, 7) = some (C, T, N) := h
  cases h2
  exact ⟨rfl, rfl⟩
theorem ff_Ch_2 : FF "SendPolicy$Checker" cCh 2 := fun C T N h => by
  have h2 : some (R_Ch, F_Ch, 7) = some (C, T, N) := h
  cases h2
  exact ⟨rfl, rfl⟩
theorem kl_Ch_23 : Cond.classLink "SendPolicy$Checker" 23 "SendPolicy$Level" ∈ TB := (tb_in 136 (by decide +kernel) rfl)
theorem ff_Ch_3 : FF "SendPolicy$Checker" cCh 3 := fun C T N h => by
  have h2 : some (R_Ch, F_Ch, 7) = some (C, T, N) := h
  cases h2
  exact ⟨rfl, rfl⟩
theorem nw_Ch_23 : NewW "SendPolicy$Checker" 23 cLe 4 t_Le := ⟨R_Le, F_Le, rfl, ft_Le, fws_Le, kl_Ch_23, (tb_in 138 (by decide +kernel) rfl), (tb_in 37 (by decide +kernel) rfl)⟩
set_option maxRecDepth 100000 in
theorem mw_Le_init : MW y_Le_init b_Le_init 1 none 0 := ⟨tb_in 141 rfl rfl, (tb_in 37 (by decide +kernel) rfl), ⟨by decide +kernel, by decide +kernel, by decide +kernel⟩, (Nat.le_of_ble_eq_true rfl)⟩
theorem ci_Ch_29 : CI "SendPolicy$Checker" 29 y_Le_init b_Le_init 1 0 := ⟨mw_Le_init, (tb_in 139 (by decide +kernel) rfl), (tb_in 140 (by decide +kernel) rfl), rfl⟩
theorem kl_Ch_30 : Cond.classLink "SendPolicy$Checker" 30 "SendPolicy$Bytes" ∈ TB := (tb_in 185 (by decide +kernel) rfl)
theorem nw_Ch_30 : NewW "SendPolicy$Checker" 30 cBy 3 t_By := ⟨R_By, F_By, rfl, ft_By, fws_By, kl_Ch_30, (tb_in 58 (by decide +kernel) rfl), (tb_in 31 (by decide +kernel) rfl)⟩
theorem ci_Ch_32 : CI "SendPolicy$Checker" 32 y_By_init b_By_init 2 1 := ⟨mw_By_init, (tb_in 186 (by decide +kernel) rfl), (tb_in 60 (by decide +kernel) rfl), rfl⟩
theorem fl_Ch_35 : FL "SendPolicy$Checker" 35 cCh 4 := ⟨R_Ch, F_Ch, 7, rfl, fws_Ch, (Nat.le_of_ble_eq_true rfl), (tb_in 191 (by decide +kernel) rfl)⟩
theorem ff_Ch_4 : FF "SendPolicy$Checker" cCh 4 := fun C T N h => by
  have h2 : some (R_Ch, F_Ch, 7) = some (C, T, N) := h
  cases h2
  exact ⟨rfl, rfl⟩
theorem cv_Ch_137 : CV "SendPolicy$Checker" 137 y_Te_from b_Te_from 1 (some .int) 0 cTe := ⟨mw_Te_from, (tb_in 579 (by decide +kernel) rfl), (tb_in 546 (by decide +kernel) rfl), (tb_in 547 (by decide +kernel) rfl), _, rfl, rfl⟩
theorem cv_Ch_140 : CV "SendPolicy$Checker" 140 y_Te_to b_Te_to 1 (some .int) 0 cTe := ⟨mw_Te_to, (tb_in 580 (by decide +kernel) rfl), (tb_in 550 (by decide +kernel) rfl), (tb_in 551 (by decide +kernel) rfl), _, rfl, rfl⟩
theorem cv_Ch_121 : CV "SendPolicy$Checker" 121 y_Te_kind b_Te_kind 1 (some .int) 0 cTe := ⟨mw_Te_kind, (tb_in 563 (by decide +kernel) rfl), (tb_in 538 (by decide +kernel) rfl), (tb_in 539 (by decide +kernel) rfl), _, rfl, rfl⟩
set_option maxRecDepth 100000 in
theorem mw_Te_bits : MW y_Te_bits b_Te_bits 1 (some .int) 0 := ⟨tb_in 575 rfl rfl, (tb_in 38 (by decide +kernel) rfl), ⟨by decide +kernel, by decide +kernel, by decide +kernel⟩, (Nat.le_of_ble_eq_true rfl)⟩
theorem cv_Ch_130 : CV "SendPolicy$Checker" 130 y_Te_bits b_Te_bits 1 (some .int) 0 cTe := ⟨mw_Te_bits, (tb_in 572 (by decide +kernel) rfl), (tb_in 573 (by decide +kernel) rfl), (tb_in 574 (by decide +kernel) rfl), _, rfl, rfl⟩
set_option maxRecDepth 100000 in
theorem mw_Ch_tryExchanges : MW y_Ch_tryExchanges b_Ch_tryExchanges 4 (some .int) 1 := ⟨tb_in 621 rfl rfl, (tb_in 36 (by decide +kernel) rfl), ⟨by decide +kernel, by decide +kernel, by decide +kernel⟩, (Nat.le_of_ble_eq_true rfl)⟩
theorem cv_Ch_163 : CV "SendPolicy$Checker" 163 y_Ch_tryExchanges b_Ch_tryExchanges 4 (some .int) 1 cCh := ⟨mw_Ch_tryExchanges, (tb_in 618 (by decide +kernel) rfl), (tb_in 620 (by decide +kernel) rfl), (tb_in 14 (by decide +kernel) rfl), _, rfl, rfl⟩
set_option maxRecDepth 100000 in
theorem mw_Se_address : MW y_Se_address b_Se_address 1 (some .int) 0 := ⟨tb_in 571 rfl rfl, (tb_in 34 (by decide +kernel) rfl), ⟨by decide +kernel, by decide +kernel, by decide +kernel⟩, (Nat.le_of_ble_eq_true rfl)⟩
theorem cv_Ch_127 : CV "SendPolicy$Checker" 127 y_Se_address b_Se_address 1 (some .int) 0 cSe := ⟨mw_Se_address, (tb_in 568 (by decide +kernel) rfl), (tb_in 569 (by decide +kernel) rfl), (tb_in 570 (by decide +kernel) rfl), _, rfl, rfl⟩
set_option maxRecDepth 100000 in
theorem mw_Di_reaches : MW y_Di_reaches b_Di_reaches 6 (some .boolean) 3 := ⟨tb_in 630 rfl rfl, (tb_in 33 (by decide +kernel) rfl), ⟨by decide +kernel, by decide +kernel, by decide +kernel⟩, (Nat.le_of_ble_eq_true rfl)⟩
theorem cv_Ch_166 : CV "SendPolicy$Checker" 166 y_Di_reaches b_Di_reaches 6 (some .boolean) 3 cDi := ⟨mw_Di_reaches, (tb_in 627 (by decide +kernel) rfl), (tb_in 628 (by decide +kernel) rfl), (tb_in 629 (by decide +kernel) rfl), _, rfl, rfl⟩
set_option maxRecDepth 100000 in
theorem mw_Te_network : MW y_Te_network b_Te_network 1 (some .int) 0 := ⟨tb_in 567 rfl rfl, (tb_in 38 (by decide +kernel) rfl), ⟨by decide +kernel, by decide +kernel, by decide +kernel⟩, (Nat.le_of_ble_eq_true rfl)⟩
theorem cv_Ch_124 : CV "SendPolicy$Checker" 124 y_Te_network b_Te_network 1 (some .int) 0 cTe := ⟨mw_Te_network, (tb_in 564 (by decide +kernel) rfl), (tb_in 565 (by decide +kernel) rfl), (tb_in 566 (by decide +kernel) rfl), _, rfl, rfl⟩
theorem cs_Ch_133 : CS "SendPolicy$Checker" 133 y_Di_sameBits b_Di_sameBits 3 (some .boolean) 3 := ⟨mw_Di_sameBits, (tb_in 576 (by decide +kernel) rfl), (tb_in 577 (by decide +kernel) rfl)⟩
set_option maxRecDepth 100000 in
theorem mw_Ch_asIncluded : MW y_Ch_asIncluded b_Ch_asIncluded 1 (some .int) 1 := ⟨tb_in 613 rfl rfl, (tb_in 36 (by decide +kernel) rfl), ⟨by decide +kernel, by decide +kernel, by decide +kernel⟩, (Nat.le_of_ble_eq_true rfl)⟩
theorem cs_Ch_143 : CS "SendPolicy$Checker" 143 y_Ch_asIncluded b_Ch_asIncluded 1 (some .int) 1 := ⟨mw_Ch_asIncluded, (tb_in 611 (by decide +kernel) rfl), (tb_in 612 (by decide +kernel) rfl)⟩
set_option maxRecDepth 100000 in
theorem mw_Ch_lookUp : MW y_Ch_lookUp b_Ch_lookUp 5 (some .int) 3 := ⟨tb_in 617 rfl rfl, (tb_in 36 (by decide +kernel) rfl), ⟨by decide +kernel, by decide +kernel, by decide +kernel⟩, (Nat.le_of_ble_eq_true rfl)⟩
theorem cv_Ch_147 : CV "SendPolicy$Checker" 147 y_Ch_lookUp b_Ch_lookUp 5 (some .int) 3 cCh := ⟨mw_Ch_lookUp, (tb_in 614 (by decide +kernel) rfl), (tb_in 616 (by decide +kernel) rfl), (tb_in 13 (by decide +kernel) rfl), _, rfl, rfl⟩
set_option maxRecDepth 100000 in
theorem mw_Di_size : MW y_Di_size b_Di_size 1 (some .int) 0 := ⟨tb_in 273 rfl rfl, (tb_in 33 (by decide +kernel) rfl), ⟨by decide +kernel, by decide +kernel, by decide +kernel⟩, (Nat.le_of_ble_eq_true rfl)⟩
theorem cv_Ch_170 : CV "SendPolicy$Checker" 170 y_Di_size b_Di_size 1 (some .int) 0 cDi := ⟨mw_Di_size, (tb_in 622 (by decide +kernel) rfl), (tb_in 271 (by decide +kernel) rfl), (tb_in 272 (by decide +kernel) rfl), _, rfl, rfl⟩
set_option maxRecDepth 100000 in
theorem mw_Di_exchangeAt : MW y_Di_exchangeAt b_Di_exchangeAt 3 (some (.object "SendPolicy$Bytes")) 2 := ⟨tb_in 626 rfl rfl, (tb_in 33 (by decide +kernel) rfl), ⟨by decide +kernel, by decide +kernel, by decide +kernel⟩, (Nat.le_of_ble_eq_true rfl)⟩
theorem cv_Ch_171 : CV "SendPolicy$Checker" 171 y_Di_exchangeAt b_Di_exchangeAt 3 (some (.object "SendPolicy$Bytes")) 2 cDi := ⟨mw_Di_exchangeAt, (tb_in 623 (by decide +kernel) rfl), (tb_in 624 (by decide +kernel) rfl), (tb_in 625 (by decide +kernel) rfl), _, rfl, rfl⟩
/-! DECODE ROWS: printed by wip/gen/names.py -/
theorem d_Ch_asIncluded_0 : decode b_Ch_asIncluded 0 = .ok (.iload_n 0, 1) := by decide +kernel
theorem d_Ch_asIncluded_1 : decode b_Ch_asIncluded 1 = .ok (.iconst 5, 1) := by decide +kernel
theorem d_Ch_asIncluded_2 : decode b_Ch_asIncluded 2 = .ok (.if_icmp .eq 9, 3) := by decide +kernel
theorem d_Ch_asIncluded_5 : decode b_Ch_asIncluded 5 = .ok (.iload_n 0, 1) := by decide +kernel
theorem d_Ch_asIncluded_6 : decode b_Ch_asIncluded 6 = .ok (.bipush 6, 2) := by decide +kernel
theorem d_Ch_asIncluded_8 : decode b_Ch_asIncluded 8 = .ok (.if_icmp .ne 5, 3) := by decide +kernel
theorem d_Ch_asIncluded_11 : decode b_Ch_asIncluded 11 = .ok (.iload_n 0, 1) := by decide +kernel
theorem d_Ch_asIncluded_12 : decode b_Ch_asIncluded 12 = .ok (.ireturn, 1) := by decide +kernel
theorem d_Ch_asIncluded_13 : decode b_Ch_asIncluded 13 = .ok (.iload_n 0, 1) := by decide +kernel
theorem d_Ch_asIncluded_14 : decode b_Ch_asIncluded 14 = .ok (.iconst 2, 1) := by decide +kernel
theorem d_Ch_asIncluded_15 : decode b_Ch_asIncluded 15 = .ok (.if_icmp .ne 8, 3) := by decide +kernel
theorem d_Ch_asIncluded_18 : decode b_Ch_asIncluded 18 = .ok (.bipush (-2), 2) := by decide +kernel
theorem d_Ch_asIncluded_20 : decode b_Ch_asIncluded 20 = .ok (.goto 4, 3) := by decide +kernel
theorem d_Ch_asIncluded_23 : decode b_Ch_asIncluded 23 = .ok (.iconst (-1), 1) := by decide +kernel
theorem d_Ch_asIncluded_24 : decode b_Ch_asIncluded 24 = .ok (.ireturn, 1) := by decide +kernel
theorem d_Ch_begin_0 : decode b_Ch_begin 0 = .ok (.aload_n 0, 1) := by decide +kernel
theorem d_Ch_begin_1 : decode b_Ch_begin 1 = .ok (.iconst 0, 1) := by decide +kernel
theorem d_Ch_begin_2 : decode b_Ch_begin 2 = .ok (.putfield 39, 3) := by decide +kernel
theorem d_Ch_begin_5 : decode b_Ch_begin 5 = .ok (.aload_n 0, 1) := by decide +kernel
theorem d_Ch_begin_6 : decode b_Ch_begin 6 = .ok (.iconst 0, 1) := by decide +kernel
theorem d_Ch_begin_7 : decode b_Ch_begin 7 = .ok (.putfield 43, 3) := by decide +kernel
theorem d_Ch_begin_10 : decode b_Ch_begin 10 = .ok (.aload_n 0, 1) := by decide +kernel
theorem d_Ch_begin_11 : decode b_Ch_begin 11 = .ok (.getfield 25, 3) := by decide +kernel
theorem d_Ch_begin_14 : decode b_Ch_begin 14 = .ok (.iconst 0, 1) := by decide +kernel
theorem d_Ch_begin_15 : decode b_Ch_begin 15 = .ok (.aaload, 1) := by decide +kernel
theorem d_Ch_begin_16 : decode b_Ch_begin 16 = .ok (.getfield 46, 3) := by decide +kernel
theorem d_Ch_begin_19 : decode b_Ch_begin 19 = .ok (.astore_n 1, 1) := by decide +kernel
theorem d_Ch_begin_20 : decode b_Ch_begin 20 = .ok (.aload_n 1, 1) := by decide +kernel
theorem d_Ch_begin_21 : decode b_Ch_begin 21 = .ok (.iconst 0, 1) := by decide +kernel
theorem d_Ch_begin_22 : decode b_Ch_begin 22 = .ok (.invokevirtual 49, 3) := by decide +kernel
theorem d_Ch_begin_25 : decode b_Ch_begin 25 = .ok (.aload_n 1, 1) := by decide +kernel
theorem d_Ch_begin_26 : decode b_Ch_begin 26 = .ok (.aload_n 0, 1) := by decide +kernel
theorem d_Ch_begin_27 : decode b_Ch_begin 27 = .ok (.getfield 15, 3) := by decide +kernel
theorem d_Ch_begin_30 : decode b_Ch_begin 30 = .ok (.invokevirtual 52, 3) := by decide +kernel
theorem d_Ch_begin_33 : decode b_Ch_begin 33 = .ok (.iconst 0, 1) := by decide +kernel
theorem d_Ch_begin_34 : decode b_Ch_begin 34 = .ok (.aload_n 0, 1) := by decide +kernel
theorem d_Ch_begin_35 : decode b_Ch_begin 35 = .ok (.getfield 15, 3) := by decide +kernel
theorem d_Ch_begin_38 : decode b_Ch_begin 38 = .ok (.invokevirtual 52, 3) := by decide +kernel
theorem d_Ch_begin_41 : decode b_Ch_begin 41 = .ok (.invokevirtual 58, 3) := by decide +kernel
theorem d_Ch_begin_44 : decode b_Ch_begin 44 = .ok (.invokevirtual 62, 3) := by decide +kernel
theorem d_Ch_begin_47 : decode b_Ch_begin 47 = .ok (.return_, 1) := by decide +kernel
theorem d_Ch_check_0 : decode b_Ch_check 0 = .ok (.iload_n 1, 1) := by decide +kernel
theorem d_Ch_check_1 : decode b_Ch_check 1 = .ok (.ifCond .lt 12, 3) := by decide +kernel
theorem d_Ch_check_4 : decode b_Ch_check 4 = .ok (.iload_n 1, 1) := by decide +kernel
theorem d_Ch_check_5 : decode b_Ch_check 5 = .ok (.aload_n 0, 1) := by decide +kernel
theorem d_Ch_check_6 : decode b_Ch_check 6 = .ok (.getfield 25, 3) := by decide +kernel
theorem d_Ch_check_9 : decode b_Ch_check 9 = .ok (.arraylength, 1) := by decide +kernel
theorem d_Ch_check_10 : decode b_Ch_check 10 = .ok (.if_icmp .lt 6, 3) := by decide +kernel
theorem d_Ch_check_13 : decode b_Ch_check 13 = .ok (.bipush 6, 2) := by decide +kernel
theorem d_Ch_check_15 : decode b_Ch_check 15 = .ok (.ireturn, 1) := by decide +kernel
theorem d_Ch_check_16 : decode b_Ch_check 16 = .ok (.aload_n 0, 1) := by decide +kernel
theorem d_Ch_check_17 : decode b_Ch_check 17 = .ok (.getfield 25, 3) := by decide +kernel
theorem d_Ch_check_20 : decode b_Ch_check 20 = .ok (.iload_n 1, 1) := by decide +kernel
theorem d_Ch_check_21 : decode b_Ch_check 21 = .ok (.aaload, 1) := by decide +kernel
theorem d_Ch_check_22 : decode b_Ch_check 22 = .ok (.astore_n 2, 1) := by decide +kernel
theorem d_Ch_check_23 : decode b_Ch_check 23 = .ok (.aload_n 0, 1) := by decide +kernel
theorem d_Ch_check_24 : decode b_Ch_check 24 = .ok (.getfield 9, 3) := by decide +kernel
theorem d_Ch_check_27 : decode b_Ch_check 27 = .ok (.iconst 3, 1) := by decide +kernel
theorem d_Ch_check_28 : decode b_Ch_check 28 = .ok (.aload_n 2, 1) := by decide +kernel
theorem d_Ch_check_29 : decode b_Ch_check 29 = .ok (.getfield 46, 3) := by decide +kernel
theorem d_Ch_check_32 : decode b_Ch_check 32 = .ok (.invokevirtual 66, 3) := by decide +kernel
theorem d_Ch_check_35 : decode b_Ch_check 35 = .ok (.ifCond .eq 5, 3) := by decide +kernel
theorem d_Ch_check_38 : decode b_Ch_check 38 = .ok (.iconst 5, 1) := by decide +kernel
theorem d_Ch_check_39 : decode b_Ch_check 39 = .ok (.ireturn, 1) := by decide +kernel
theorem d_Ch_check_40 : decode b_Ch_check 40 = .ok (.aload_n 0, 1) := by decide +kernel
theorem d_Ch_check_41 : decode b_Ch_check 41 = .ok (.getfield 9, 3) := by decide +kernel
theorem d_Ch_check_44 : decode b_Ch_check 44 = .ok (.aload_n 2, 1) := by decide +kernel
theorem d_Ch_check_45 : decode b_Ch_check 45 = .ok (.getfield 46, 3) := by decide +kernel
theorem d_Ch_check_48 : decode b_Ch_check 48 = .ok (.invokevirtual 72, 3) := by decide +kernel
theorem d_Ch_check_51 : decode b_Ch_check 51 = .ok (.istore_n 3, 1) := by decide +kernel
theorem d_Ch_check_52 : decode b_Ch_check 52 = .ok (.aload_n 0, 1) := by decide +kernel
theorem d_Ch_check_53 : decode b_Ch_check 53 = .ok (.getfield 9, 3) := by decide +kernel
theorem d_Ch_check_56 : decode b_Ch_check 56 = .ok (.aload_n 2, 1) := by decide +kernel
theorem d_Ch_check_57 : decode b_Ch_check 57 = .ok (.getfield 46, 3) := by decide +kernel
theorem d_Ch_check_60 : decode b_Ch_check 60 = .ok (.invokevirtual 76, 3) := by decide +kernel
theorem d_Ch_check_63 : decode b_Ch_check 63 = .ok (.astore 4, 2) := by decide +kernel
theorem d_Ch_check_65 : decode b_Ch_check 65 = .ok (.iload_n 3, 1) := by decide +kernel
theorem d_Ch_check_66 : decode b_Ch_check 66 = .ok (.ifCond .eq 8, 3) := by decide +kernel
theorem d_Ch_check_69 : decode b_Ch_check 69 = .ok (.aload 4, 2) := by decide +kernel
theorem d_Ch_check_71 : decode b_Ch_check 71 = .ok (.ifnonnull 5, 3) := by decide +kernel
theorem d_Ch_check_74 : decode b_Ch_check 74 = .ok (.iconst 0, 1) := by decide +kernel
theorem d_Ch_check_75 : decode b_Ch_check 75 = .ok (.ireturn, 1) := by decide +kernel
theorem d_Ch_check_76 : decode b_Ch_check 76 = .ok (.iload_n 3, 1) := by decide +kernel
theorem d_Ch_check_77 : decode b_Ch_check 77 = .ok (.iconst 1, 1) := by decide +kernel
theorem d_Ch_check_78 : decode b_Ch_check 78 = .ok (.if_icmp .gt 12, 3) := by decide +kernel
theorem d_Ch_check_81 : decode b_Ch_check 81 = .ok (.aload_n 2, 1) := by decide +kernel
theorem d_Ch_check_82 : decode b_Ch_check 82 = .ok (.aload 4, 2) := by decide +kernel
theorem d_Ch_check_84 : decode b_Ch_check 84 = .ok (.invokevirtual 80, 3) := by decide +kernel
theorem d_Ch_check_87 : decode b_Ch_check 87 = .ok (.ifCond .ne 6, 3) := by decide +kernel
theorem d_Ch_check_90 : decode b_Ch_check 90 = .ok (.bipush 6, 2) := by decide +kernel
theorem d_Ch_check_92 : decode b_Ch_check 92 = .ok (.ireturn, 1) := by decide +kernel
theorem d_Ch_check_93 : decode b_Ch_check 93 = .ok (.aload_n 0, 1) := by decide +kernel
theorem d_Ch_check_94 : decode b_Ch_check 94 = .ok (.aload 4, 2) := by decide +kernel
theorem d_Ch_check_96 : decode b_Ch_check 96 = .ok (.iload_n 1, 1) := by decide +kernel
theorem d_Ch_check_97 : decode b_Ch_check 97 = .ok (.invokevirtual 84, 3) := by decide +kernel
theorem d_Ch_check_100 : decode b_Ch_check 100 = .ok (.istore 5, 2) := by decide +kernel
theorem d_Ch_check_102 : decode b_Ch_check 102 = .ok (.iload 5, 2) := by decide +kernel
theorem d_Ch_check_104 : decode b_Ch_check 104 = .ok (.iconst (-1), 1) := by decide +kernel
theorem d_Ch_check_105 : decode b_Ch_check 105 = .ok (.if_icmp .eq 6, 3) := by decide +kernel
theorem d_Ch_check_108 : decode b_Ch_check 108 = .ok (.iload 5, 2) := by decide +kernel
theorem d_Ch_check_110 : decode b_Ch_check 110 = .ok (.ireturn, 1) := by decide +kernel
theorem d_Ch_check_111 : decode b_Ch_check 111 = .ok (.aload_n 2, 1) := by decide +kernel
theorem d_Ch_check_112 : decode b_Ch_check 112 = .ok (.invokevirtual 88, 3) := by decide +kernel
theorem d_Ch_check_115 : decode b_Ch_check 115 = .ok (.ifCond .ne 5, 3) := by decide +kernel
theorem d_Ch_check_118 : decode b_Ch_check 118 = .ok (.iconst 1, 1) := by decide +kernel
theorem d_Ch_check_119 : decode b_Ch_check 119 = .ok (.ireturn, 1) := by decide +kernel
theorem d_Ch_check_120 : decode b_Ch_check 120 = .ok (.aload_n 0, 1) := by decide +kernel
theorem d_Ch_check_121 : decode b_Ch_check 121 = .ok (.aload 4, 2) := by decide +kernel
theorem d_Ch_check_123 : decode b_Ch_check 123 = .ok (.aload_n 2, 1) := by decide +kernel
theorem d_Ch_check_124 : decode b_Ch_check 124 = .ok (.invokevirtual 92, 3) := by decide +kernel
theorem d_Ch_check_127 : decode b_Ch_check 127 = .ok (.aload_n 2, 1) := by decide +kernel
theorem d_Ch_check_128 : decode b_Ch_check 128 = .ok (.invokevirtual 95, 3) := by decide +kernel
theorem d_Ch_check_131 : decode b_Ch_check 131 = .ok (.iload_n 1, 1) := by decide +kernel
theorem d_Ch_check_132 : decode b_Ch_check 132 = .ok (.invokevirtual 98, 3) := by decide +kernel
theorem d_Ch_check_135 : decode b_Ch_check 135 = .ok (.ireturn, 1) := by decide +kernel
theorem d_Ch_checkInside_0 : decode b_Ch_checkInside 0 = .ok (.aload_n 0, 1) := by decide +kernel
theorem d_Ch_checkInside_1 : decode b_Ch_checkInside 1 = .ok (.invokevirtual 151, 3) := by decide +kernel
theorem d_Ch_checkInside_4 : decode b_Ch_checkInside 4 = .ok (.ifCond .eq 15, 3) := by decide +kernel
theorem d_Ch_checkInside_7 : decode b_Ch_checkInside 7 = .ok (.iload 4, 2) := by decide +kernel
theorem d_Ch_checkInside_9 : decode b_Ch_checkInside 9 = .ok (.iconst 1, 1) := by decide +kernel
theorem d_Ch_checkInside_10 : decode b_Ch_checkInside 10 = .ok (.iadd, 1) := by decide +kernel
theorem d_Ch_checkInside_11 : decode b_Ch_checkInside 11 = .ok (.aload_n 0, 1) := by decide +kernel
theorem d_Ch_checkInside_12 : decode b_Ch_checkInside 12 = .ok (.getfield 25, 3) := by decide +kernel
theorem d_Ch_checkInside_15 : decode b_Ch_checkInside 15 = .ok (.arraylength, 1) := by decide +kernel
theorem d_Ch_checkInside_16 : decode b_Ch_checkInside 16 = .ok (.if_icmp .lt 6, 3) := by decide +kernel
theorem d_Ch_checkInside_19 : decode b_Ch_checkInside 19 = .ok (.bipush 6, 2) := by decide +kernel
theorem d_Ch_checkInside_21 : decode b_Ch_checkInside 21 = .ok (.ireturn, 1) := by decide +kernel
theorem d_Ch_checkInside_22 : decode b_Ch_checkInside 22 = .ok (.aload_n 0, 1) := by decide +kernel
theorem d_Ch_checkInside_23 : decode b_Ch_checkInside 23 = .ok (.getfield 25, 3) := by decide +kernel
theorem d_Ch_checkInside_26 : decode b_Ch_checkInside 26 = .ok (.iload 4, 2) := by decide +kernel
theorem d_Ch_checkInside_28 : decode b_Ch_checkInside 28 = .ok (.iconst 1, 1) := by decide +kernel
theorem d_Ch_checkInside_29 : decode b_Ch_checkInside 29 = .ok (.iadd, 1) := by decide +kernel
theorem d_Ch_checkInside_30 : decode b_Ch_checkInside 30 = .ok (.aaload, 1) := by decide +kernel
theorem d_Ch_checkInside_31 : decode b_Ch_checkInside 31 = .ok (.getfield 46, 3) := by decide +kernel
theorem d_Ch_checkInside_34 : decode b_Ch_checkInside 34 = .ok (.astore 5, 2) := by decide +kernel
theorem d_Ch_checkInside_36 : decode b_Ch_checkInside 36 = .ok (.aload 5, 2) := by decide +kernel
theorem d_Ch_checkInside_38 : decode b_Ch_checkInside 38 = .ok (.iconst 0, 1) := by decide +kernel
theorem d_Ch_checkInside_39 : decode b_Ch_checkInside 39 = .ok (.invokevirtual 49, 3) := by decide +kernel
theorem d_Ch_checkInside_42 : decode b_Ch_checkInside 42 = .ok (.aload_n 0, 1) := by decide +kernel
theorem d_Ch_checkInside_43 : decode b_Ch_checkInside 43 = .ok (.getfield 19, 3) := by decide +kernel
theorem d_Ch_checkInside_46 : decode b_Ch_checkInside 46 = .ok (.aload_n 1, 1) := by decide +kernel
theorem d_Ch_checkInside_47 : decode b_Ch_checkInside 47 = .ok (.iload_n 2, 1) := by decide +kernel
theorem d_Ch_checkInside_48 : decode b_Ch_checkInside 48 = .ok (.iload_n 3, 1) := by decide +kernel
theorem d_Ch_checkInside_49 : decode b_Ch_checkInside 49 = .ok (.aload_n 0, 1) := by decide +kernel
theorem d_Ch_checkInside_50 : decode b_Ch_checkInside 50 = .ok (.getfield 25, 3) := by decide +kernel
theorem d_Ch_checkInside_53 : decode b_Ch_checkInside 53 = .ok (.iload 4, 2) := by decide +kernel
theorem d_Ch_checkInside_55 : decode b_Ch_checkInside 55 = .ok (.aaload, 1) := by decide +kernel
theorem d_Ch_checkInside_56 : decode b_Ch_checkInside 56 = .ok (.getfield 46, 3) := by decide +kernel
theorem d_Ch_checkInside_59 : decode b_Ch_checkInside 59 = .ok (.aload 5, 2) := by decide +kernel
theorem d_Ch_checkInside_61 : decode b_Ch_checkInside 61 = .ok (.invokevirtual 154, 3) := by decide +kernel
theorem d_Ch_checkInside_64 : decode b_Ch_checkInside 64 = .ok (.aload_n 0, 1) := by decide +kernel
theorem d_Ch_checkInside_65 : decode b_Ch_checkInside 65 = .ok (.iload 4, 2) := by decide +kernel
theorem d_Ch_checkInside_67 : decode b_Ch_checkInside 67 = .ok (.iconst 1, 1) := by decide +kernel
theorem d_Ch_checkInside_68 : decode b_Ch_checkInside 68 = .ok (.iadd, 1) := by decide +kernel
theorem d_Ch_checkInside_69 : decode b_Ch_checkInside 69 = .ok (.invokevirtual 160, 3) := by decide +kernel
theorem d_Ch_checkInside_72 : decode b_Ch_checkInside 72 = .ok (.istore 6, 2) := by decide +kernel
theorem d_Ch_checkInside_74 : decode b_Ch_checkInside 74 = .ok (.iload 6, 2) := by decide +kernel
theorem d_Ch_checkInside_76 : decode b_Ch_checkInside 76 = .ok (.ifCond .ne 8, 3) := by decide +kernel
theorem d_Ch_checkInside_79 : decode b_Ch_checkInside 79 = .ok (.bipush 6, 2) := by decide +kernel
theorem d_Ch_checkInside_81 : decode b_Ch_checkInside 81 = .ok (.goto 5, 3) := by decide +kernel
theorem d_Ch_checkInside_84 : decode b_Ch_checkInside 84 = .ok (.iload 6, 2) := by decide +kernel
theorem d_Ch_checkInside_86 : decode b_Ch_checkInside 86 = .ok (.ireturn, 1) := by decide +kernel
theorem d_Ch_countOne_0 : decode b_Ch_countOne 0 = .ok (.aload_n 0, 1) := by decide +kernel
theorem d_Ch_countOne_1 : decode b_Ch_countOne 1 = .ok (.dup, 1) := by decide +kernel
theorem d_Ch_countOne_2 : decode b_Ch_countOne 2 = .ok (.getfield 39, 3) := by decide +kernel
theorem d_Ch_countOne_5 : decode b_Ch_countOne 5 = .ok (.iconst 1, 1) := by decide +kernel
theorem d_Ch_countOne_6 : decode b_Ch_countOne 6 = .ok (.iadd, 1) := by decide +kernel
theorem d_Ch_countOne_7 : decode b_Ch_countOne 7 = .ok (.putfield 39, 3) := by decide +kernel
theorem d_Ch_countOne_10 : decode b_Ch_countOne 10 = .ok (.aload_n 0, 1) := by decide +kernel
theorem d_Ch_countOne_11 : decode b_Ch_countOne 11 = .ok (.getfield 39, 3) := by decide +kernel
theorem d_Ch_countOne_14 : decode b_Ch_countOne 14 = .ok (.bipush 10, 2) := by decide +kernel
theorem d_Ch_countOne_16 : decode b_Ch_countOne 16 = .ok (.if_icmp .gt 7, 3) := by decide +kernel
theorem d_Ch_countOne_19 : decode b_Ch_countOne 19 = .ok (.iconst 1, 1) := by decide +kernel
theorem d_Ch_countOne_20 : decode b_Ch_countOne 20 = .ok (.goto 4, 3) := by decide +kernel
theorem d_Ch_countOne_23 : decode b_Ch_countOne 23 = .ok (.iconst 0, 1) := by decide +kernel
theorem d_Ch_countOne_24 : decode b_Ch_countOne 24 = .ok (.ireturn, 1) := by decide +kernel
theorem d_Ch_counted_0 : decode b_Ch_counted 0 = .ok (.aload_n 0, 1) := by decide +kernel
theorem d_Ch_counted_1 : decode b_Ch_counted 1 = .ok (.getfield 39, 3) := by decide +kernel
theorem d_Ch_counted_4 : decode b_Ch_counted 4 = .ok (.ireturn, 1) := by decide +kernel
theorem d_Ch_firstMatch_0 : decode b_Ch_firstMatch 0 = .ok (.aload_n 0, 1) := by decide +kernel
theorem d_Ch_firstMatch_1 : decode b_Ch_firstMatch 1 = .ok (.getfield 25, 3) := by decide +kernel
theorem d_Ch_firstMatch_4 : decode b_Ch_firstMatch 4 = .ok (.iload_n 2, 1) := by decide +kernel
theorem d_Ch_firstMatch_5 : decode b_Ch_firstMatch 5 = .ok (.aaload, 1) := by decide +kernel
theorem d_Ch_firstMatch_6 : decode b_Ch_firstMatch 6 = .ok (.getfield 102, 3) := by decide +kernel
theorem d_Ch_firstMatch_9 : decode b_Ch_firstMatch 9 = .ok (.astore_n 3, 1) := by decide +kernel
theorem d_Ch_firstMatch_10 : decode b_Ch_firstMatch 10 = .ok (.bipush 7, 2) := by decide +kernel
theorem d_Ch_firstMatch_12 : decode b_Ch_firstMatch 12 = .ok (.istore 4, 2) := by decide +kernel
theorem d_Ch_firstMatch_14 : decode b_Ch_firstMatch 14 = .ok (.iload 4, 2) := by decide +kernel
theorem d_Ch_firstMatch_16 : decode b_Ch_firstMatch 16 = .ok (.aload_n 1, 1) := by decide +kernel
theorem d_Ch_firstMatch_17 : decode b_Ch_firstMatch 17 = .ok (.invokevirtual 58, 3) := by decide +kernel
theorem d_Ch_firstMatch_20 : decode b_Ch_firstMatch 20 = .ok (.if_icmp .ge 62, 3) := by decide +kernel
theorem d_Ch_firstMatch_23 : decode b_Ch_firstMatch 23 = .ok (.aload_n 1, 1) := by decide +kernel
theorem d_Ch_firstMatch_24 : decode b_Ch_firstMatch 24 = .ok (.iload 4, 2) := by decide +kernel
theorem d_Ch_firstMatch_26 : decode b_Ch_firstMatch 26 = .ok (.invokestatic 106, 3) := by decide +kernel
theorem d_Ch_firstMatch_29 : decode b_Ch_firstMatch 29 = .ok (.ifCond .eq 47, 3) := by decide +kernel
theorem d_Ch_firstMatch_32 : decode b_Ch_firstMatch 32 = .ok (.aload_n 3, 1) := by decide +kernel
theorem d_Ch_firstMatch_33 : decode b_Ch_firstMatch 33 = .ok (.aload_n 1, 1) := by decide +kernel
theorem d_Ch_firstMatch_34 : decode b_Ch_firstMatch 34 = .ok (.iload 4, 2) := by decide +kernel
theorem d_Ch_firstMatch_36 : decode b_Ch_firstMatch 36 = .ok (.invokevirtual 112, 3) := by decide +kernel
theorem d_Ch_firstMatch_39 : decode b_Ch_firstMatch 39 = .ok (.ifCond .ne 6, 3) := by decide +kernel
theorem d_Ch_firstMatch_42 : decode b_Ch_firstMatch 42 = .ok (.goto 34, 3) := by decide +kernel
theorem d_Ch_firstMatch_45 : decode b_Ch_firstMatch 45 = .ok (.aload_n 0, 1) := by decide +kernel
theorem d_Ch_firstMatch_46 : decode b_Ch_firstMatch 46 = .ok (.aload_n 1, 1) := by decide +kernel
theorem d_Ch_firstMatch_47 : decode b_Ch_firstMatch 47 = .ok (.iload_n 2, 1) := by decide +kernel
theorem d_Ch_firstMatch_48 : decode b_Ch_firstMatch 48 = .ok (.invokevirtual 115, 3) := by decide +kernel
theorem d_Ch_firstMatch_51 : decode b_Ch_firstMatch 51 = .ok (.istore 5, 2) := by decide +kernel
theorem d_Ch_firstMatch_53 : decode b_Ch_firstMatch 53 = .ok (.iload 5, 2) := by decide +kernel
theorem d_Ch_firstMatch_55 : decode b_Ch_firstMatch 55 = .ok (.iconst (-1), 1) := by decide +kernel
theorem d_Ch_firstMatch_56 : decode b_Ch_firstMatch 56 = .ok (.if_icmp .eq 20, 3) := by decide +kernel
theorem d_Ch_firstMatch_59 : decode b_Ch_firstMatch 59 = .ok (.iload 5, 2) := by decide +kernel
theorem d_Ch_firstMatch_61 : decode b_Ch_firstMatch 61 = .ok (.bipush (-2), 2) := by decide +kernel
theorem d_Ch_firstMatch_63 : decode b_Ch_firstMatch 63 = .ok (.if_icmp .ne 10, 3) := by decide +kernel
theorem d_Ch_firstMatch_66 : decode b_Ch_firstMatch 66 = .ok (.aload_n 3, 1) := by decide +kernel
theorem d_Ch_firstMatch_67 : decode b_Ch_firstMatch 67 = .ok (.invokevirtual 118, 3) := by decide +kernel
theorem d_Ch_firstMatch_70 : decode b_Ch_firstMatch 70 = .ok (.goto 5, 3) := by decide +kernel
theorem d_Ch_firstMatch_73 : decode b_Ch_firstMatch 73 = .ok (.iload 5, 2) := by decide +kernel
theorem d_Ch_firstMatch_75 : decode b_Ch_firstMatch 75 = .ok (.ireturn, 1) := by decide +kernel
theorem d_Ch_firstMatch_76 : decode b_Ch_firstMatch 76 = .ok (.iinc 4 1, 3) := by decide +kernel
theorem d_Ch_firstMatch_79 : decode b_Ch_firstMatch 79 = .ok (.goto (-65), 3) := by decide +kernel
theorem d_Ch_firstMatch_82 : decode b_Ch_firstMatch 82 = .ok (.iconst (-1), 1) := by decide +kernel
theorem d_Ch_firstMatch_83 : decode b_Ch_firstMatch 83 = .ok (.ireturn, 1) := by decide +kernel
theorem d_Ch_init_0 : decode b_Ch_init 0 = .ok (.aload_n 0, 1) := by decide +kernel
theorem d_Ch_init_1 : decode b_Ch_init 1 = .ok (.invokespecial 3, 3) := by decide +kernel
theorem d_Ch_init_4 : decode b_Ch_init 4 = .ok (.aload_n 0, 1) := by decide +kernel
theorem d_Ch_init_5 : decode b_Ch_init 5 = .ok (.aload_n 1, 1) := by decide +kernel
theorem d_Ch_init_6 : decode b_Ch_init 6 = .ok (.putfield 9, 3) := by decide +kernel
theorem d_Ch_init_9 : decode b_Ch_init 9 = .ok (.aload_n 0, 1) := by decide +kernel
theorem d_Ch_init_10 : decode b_Ch_init 10 = .ok (.aload_n 2, 1) := by decide +kernel
theorem d_Ch_init_11 : decode b_Ch_init 11 = .ok (.putfield 15, 3) := by decide +kernel
theorem d_Ch_init_14 : decode b_Ch_init 14 = .ok (.aload_n 0, 1) := by decide +kernel
theorem d_Ch_init_15 : decode b_Ch_init 15 = .ok (.aload_n 3, 1) := by decide +kernel
theorem d_Ch_init_16 : decode b_Ch_init 16 = .ok (.putfield 19, 3) := by decide +kernel
theorem d_Ch_init_19 : decode b_Ch_init 19 = .ok (.aload_n 0, 1) := by decide +kernel
theorem d_Ch_init_20 : decode b_Ch_init 20 = .ok (.bipush 11, 2) := by decide +kernel
theorem d_Ch_init_22 : decode b_Ch_init 22 = .ok (.anewarray 23, 3) := by decide +kernel
theorem d_Ch_init_25 : decode b_Ch_init 25 = .ok (.putfield 25, 3) := by decide +kernel
theorem d_Ch_init_28 : decode b_Ch_init 28 = .ok (.iconst 0, 1) := by decide +kernel
theorem d_Ch_init_29 : decode b_Ch_init 29 = .ok (.istore 4, 2) := by decide +kernel
theorem d_Ch_init_31 : decode b_Ch_init 31 = .ok (.iload 4, 2) := by decide +kernel
theorem d_Ch_init_33 : decode b_Ch_init 33 = .ok (.bipush 11, 2) := by decide +kernel
theorem d_Ch_init_35 : decode b_Ch_init 35 = .ok (.if_icmp .ge 23, 3) := by decide +kernel
theorem d_Ch_init_38 : decode b_Ch_init 38 = .ok (.aload_n 0, 1) := by decide +kernel
theorem d_Ch_init_39 : decode b_Ch_init 39 = .ok (.getfield 25, 3) := by decide +kernel
theorem d_Ch_init_42 : decode b_Ch_init 42 = .ok (.iload 4, 2) := by decide +kernel
theorem d_Ch_init_44 : decode b_Ch_init 44 = .ok (.new 23, 3) := by decide +kernel
theorem d_Ch_init_47 : decode b_Ch_init 47 = .ok (.dup, 1) := by decide +kernel
theorem d_Ch_init_48 : decode b_Ch_init 48 = .ok (.invokespecial 29, 3) := by decide +kernel
theorem d_Ch_init_51 : decode b_Ch_init 51 = .ok (.aastore, 1) := by decide +kernel
theorem d_Ch_init_52 : decode b_Ch_init 52 = .ok (.iinc 4 1, 3) := by decide +kernel
theorem d_Ch_init_55 : decode b_Ch_init 55 = .ok (.goto (-24), 3) := by decide +kernel
theorem d_Ch_init_58 : decode b_Ch_init 58 = .ok (.aload_n 0, 1) := by decide +kernel
theorem d_Ch_init_59 : decode b_Ch_init 59 = .ok (.new 30, 3) := by decide +kernel
theorem d_Ch_init_62 : decode b_Ch_init 62 = .ok (.dup, 1) := by decide +kernel
theorem d_Ch_init_63 : decode b_Ch_init 63 = .ok (.bipush 61, 2) := by decide +kernel
theorem d_Ch_init_65 : decode b_Ch_init 65 = .ok (.invokespecial 32, 3) := by decide +kernel
theorem d_Ch_init_68 : decode b_Ch_init 68 = .ok (.putfield 35, 3) := by decide +kernel
theorem d_Ch_init_71 : decode b_Ch_init 71 = .ok (.aload_n 0, 1) := by decide +kernel
theorem d_Ch_init_72 : decode b_Ch_init 72 = .ok (.iconst 0, 1) := by decide +kernel
theorem d_Ch_init_73 : decode b_Ch_init 73 = .ok (.putfield 39, 3) := by decide +kernel
theorem d_Ch_init_76 : decode b_Ch_init 76 = .ok (.aload_n 0, 1) := by decide +kernel
theorem d_Ch_init_77 : decode b_Ch_init 77 = .ok (.iconst 0, 1) := by decide +kernel
theorem d_Ch_init_78 : decode b_Ch_init 78 = .ok (.putfield 43, 3) := by decide +kernel
theorem d_Ch_init_81 : decode b_Ch_init 81 = .ok (.return_, 1) := by decide +kernel
theorem d_Ch_lookUp_0 : decode b_Ch_lookUp 0 = .ok (.aload_n 0, 1) := by decide +kernel
theorem d_Ch_lookUp_1 : decode b_Ch_lookUp 1 = .ok (.invokevirtual 151, 3) := by decide +kernel
theorem d_Ch_lookUp_4 : decode b_Ch_lookUp 4 = .ok (.ifCond .ne 6, 3) := by decide +kernel
theorem d_Ch_lookUp_7 : decode b_Ch_lookUp 7 = .ok (.bipush 6, 2) := by decide +kernel
theorem d_Ch_lookUp_9 : decode b_Ch_lookUp 9 = .ok (.ireturn, 1) := by decide +kernel
theorem d_Ch_lookUp_10 : decode b_Ch_lookUp 10 = .ok (.aload_n 0, 1) := by decide +kernel
theorem d_Ch_lookUp_11 : decode b_Ch_lookUp 11 = .ok (.getfield 35, 3) := by decide +kernel
theorem d_Ch_lookUp_14 : decode b_Ch_lookUp 14 = .ok (.iconst 0, 1) := by decide +kernel
theorem d_Ch_lookUp_15 : decode b_Ch_lookUp 15 = .ok (.invokevirtual 49, 3) := by decide +kernel
theorem d_Ch_lookUp_18 : decode b_Ch_lookUp 18 = .ok (.aload_n 2, 1) := by decide +kernel
theorem d_Ch_lookUp_19 : decode b_Ch_lookUp 19 = .ok (.invokevirtual 137, 3) := by decide +kernel
theorem d_Ch_lookUp_22 : decode b_Ch_lookUp 22 = .ok (.aload_n 2, 1) := by decide +kernel
theorem d_Ch_lookUp_23 : decode b_Ch_lookUp 23 = .ok (.invokevirtual 140, 3) := by decide +kernel
theorem d_Ch_lookUp_26 : decode b_Ch_lookUp 26 = .ok (.if_icmp .ge 27, 3) := by decide +kernel
theorem d_Ch_lookUp_29 : decode b_Ch_lookUp 29 = .ok (.aload_n 0, 1) := by decide +kernel
theorem d_Ch_lookUp_30 : decode b_Ch_lookUp 30 = .ok (.getfield 19, 3) := by decide +kernel
theorem d_Ch_lookUp_33 : decode b_Ch_lookUp 33 = .ok (.aload_n 1, 1) := by decide +kernel
theorem d_Ch_lookUp_34 : decode b_Ch_lookUp 34 = .ok (.aload_n 2, 1) := by decide +kernel
theorem d_Ch_lookUp_35 : decode b_Ch_lookUp 35 = .ok (.invokevirtual 137, 3) := by decide +kernel
theorem d_Ch_lookUp_38 : decode b_Ch_lookUp 38 = .ok (.aload_n 2, 1) := by decide +kernel
theorem d_Ch_lookUp_39 : decode b_Ch_lookUp 39 = .ok (.invokevirtual 140, 3) := by decide +kernel
theorem d_Ch_lookUp_42 : decode b_Ch_lookUp 42 = .ok (.aload_n 3, 1) := by decide +kernel
theorem d_Ch_lookUp_43 : decode b_Ch_lookUp 43 = .ok (.aload_n 0, 1) := by decide +kernel
theorem d_Ch_lookUp_44 : decode b_Ch_lookUp 44 = .ok (.getfield 35, 3) := by decide +kernel
theorem d_Ch_lookUp_47 : decode b_Ch_lookUp 47 = .ok (.invokevirtual 154, 3) := by decide +kernel
theorem d_Ch_lookUp_50 : decode b_Ch_lookUp 50 = .ok (.goto 16, 3) := by decide +kernel
theorem d_Ch_lookUp_53 : decode b_Ch_lookUp 53 = .ok (.aload_n 0, 1) := by decide +kernel
theorem d_Ch_lookUp_54 : decode b_Ch_lookUp 54 = .ok (.getfield 35, 3) := by decide +kernel
theorem d_Ch_lookUp_57 : decode b_Ch_lookUp 57 = .ok (.aload_n 3, 1) := by decide +kernel
theorem d_Ch_lookUp_58 : decode b_Ch_lookUp 58 = .ok (.iconst 0, 1) := by decide +kernel
theorem d_Ch_lookUp_59 : decode b_Ch_lookUp 59 = .ok (.aload_n 3, 1) := by decide +kernel
theorem d_Ch_lookUp_60 : decode b_Ch_lookUp 60 = .ok (.invokevirtual 58, 3) := by decide +kernel
theorem d_Ch_lookUp_63 : decode b_Ch_lookUp 63 = .ok (.invokevirtual 62, 3) := by decide +kernel
theorem d_Ch_lookUp_66 : decode b_Ch_lookUp 66 = .ok (.aload_n 0, 1) := by decide +kernel
theorem d_Ch_lookUp_67 : decode b_Ch_lookUp 67 = .ok (.getfield 9, 3) := by decide +kernel
theorem d_Ch_lookUp_70 : decode b_Ch_lookUp 70 = .ok (.iconst 3, 1) := by decide +kernel
theorem d_Ch_lookUp_71 : decode b_Ch_lookUp 71 = .ok (.aload_n 0, 1) := by decide +kernel
theorem d_Ch_lookUp_72 : decode b_Ch_lookUp 72 = .ok (.getfield 35, 3) := by decide +kernel
theorem d_Ch_lookUp_75 : decode b_Ch_lookUp 75 = .ok (.invokevirtual 66, 3) := by decide +kernel
theorem d_Ch_lookUp_78 : decode b_Ch_lookUp 78 = .ok (.ifCond .eq 5, 3) := by decide +kernel
theorem d_Ch_lookUp_81 : decode b_Ch_lookUp 81 = .ok (.iconst 5, 1) := by decide +kernel
theorem d_Ch_lookUp_82 : decode b_Ch_lookUp 82 = .ok (.ireturn, 1) := by decide +kernel
theorem d_Ch_lookUp_83 : decode b_Ch_lookUp 83 = .ok (.aload_n 0, 1) := by decide +kernel
theorem d_Ch_lookUp_84 : decode b_Ch_lookUp 84 = .ok (.getfield 9, 3) := by decide +kernel
theorem d_Ch_lookUp_87 : decode b_Ch_lookUp 87 = .ok (.aload_n 2, 1) := by decide +kernel
theorem d_Ch_lookUp_88 : decode b_Ch_lookUp 88 = .ok (.invokevirtual 121, 3) := by decide +kernel
theorem d_Ch_lookUp_91 : decode b_Ch_lookUp 91 = .ok (.iconst 3, 1) := by decide +kernel
theorem d_Ch_lookUp_92 : decode b_Ch_lookUp 92 = .ok (.if_icmp .ne 7, 3) := by decide +kernel
theorem d_Ch_lookUp_95 : decode b_Ch_lookUp 95 = .ok (.iconst 2, 1) := by decide +kernel
theorem d_Ch_lookUp_96 : decode b_Ch_lookUp 96 = .ok (.goto 4, 3) := by decide +kernel
theorem d_Ch_lookUp_99 : decode b_Ch_lookUp 99 = .ok (.iconst 1, 1) := by decide +kernel
theorem d_Ch_lookUp_100 : decode b_Ch_lookUp 100 = .ok (.aload_n 0, 1) := by decide +kernel
theorem d_Ch_lookUp_101 : decode b_Ch_lookUp 101 = .ok (.getfield 35, 3) := by decide +kernel
theorem d_Ch_lookUp_104 : decode b_Ch_lookUp 104 = .ok (.invokevirtual 66, 3) := by decide +kernel
theorem d_Ch_lookUp_107 : decode b_Ch_lookUp 107 = .ok (.ifCond .ne 28, 3) := by decide +kernel
theorem d_Ch_lookUp_110 : decode b_Ch_lookUp 110 = .ok (.aload_n 0, 1) := by decide +kernel
theorem d_Ch_lookUp_111 : decode b_Ch_lookUp 111 = .ok (.dup, 1) := by decide +kernel
theorem d_Ch_lookUp_112 : decode b_Ch_lookUp 112 = .ok (.getfield 43, 3) := by decide +kernel
theorem d_Ch_lookUp_115 : decode b_Ch_lookUp 115 = .ok (.iconst 1, 1) := by decide +kernel
theorem d_Ch_lookUp_116 : decode b_Ch_lookUp 116 = .ok (.iadd, 1) := by decide +kernel
theorem d_Ch_lookUp_117 : decode b_Ch_lookUp 117 = .ok (.putfield 43, 3) := by decide +kernel
theorem d_Ch_lookUp_120 : decode b_Ch_lookUp 120 = .ok (.aload_n 0, 1) := by decide +kernel
theorem d_Ch_lookUp_121 : decode b_Ch_lookUp 121 = .ok (.getfield 43, 3) := by decide +kernel
theorem d_Ch_lookUp_124 : decode b_Ch_lookUp 124 = .ok (.iconst 2, 1) := by decide +kernel
theorem d_Ch_lookUp_125 : decode b_Ch_lookUp 125 = .ok (.if_icmp .le 8, 3) := by decide +kernel
theorem d_Ch_lookUp_128 : decode b_Ch_lookUp 128 = .ok (.bipush 6, 2) := by decide +kernel
theorem d_Ch_lookUp_130 : decode b_Ch_lookUp 130 = .ok (.goto 4, 3) := by decide +kernel
theorem d_Ch_lookUp_133 : decode b_Ch_lookUp 133 = .ok (.iconst (-1), 1) := by decide +kernel
theorem d_Ch_lookUp_134 : decode b_Ch_lookUp 134 = .ok (.ireturn, 1) := by decide +kernel
theorem d_Ch_lookUp_135 : decode b_Ch_lookUp 135 = .ok (.aload_n 2, 1) := by decide +kernel
theorem d_Ch_lookUp_136 : decode b_Ch_lookUp 136 = .ok (.invokevirtual 121, 3) := by decide +kernel
theorem d_Ch_lookUp_139 : decode b_Ch_lookUp 139 = .ok (.iconst 3, 1) := by decide +kernel
theorem d_Ch_lookUp_140 : decode b_Ch_lookUp 140 = .ok (.if_icmp .ne 12, 3) := by decide +kernel
theorem d_Ch_lookUp_143 : decode b_Ch_lookUp 143 = .ok (.aload_n 0, 1) := by decide +kernel
theorem d_Ch_lookUp_144 : decode b_Ch_lookUp 144 = .ok (.aload_n 2, 1) := by decide +kernel
theorem d_Ch_lookUp_145 : decode b_Ch_lookUp 145 = .ok (.invokevirtual 130, 3) := by decide +kernel
theorem d_Ch_lookUp_148 : decode b_Ch_lookUp 148 = .ok (.invokevirtual 163, 3) := by decide +kernel
theorem d_Ch_lookUp_151 : decode b_Ch_lookUp 151 = .ok (.ireturn, 1) := by decide +kernel
theorem d_Ch_lookUp_152 : decode b_Ch_lookUp 152 = .ok (.aload_n 2, 1) := by decide +kernel
theorem d_Ch_lookUp_153 : decode b_Ch_lookUp 153 = .ok (.invokevirtual 121, 3) := by decide +kernel
theorem d_Ch_lookUp_156 : decode b_Ch_lookUp 156 = .ok (.iconst 5, 1) := by decide +kernel
theorem d_Ch_lookUp_157 : decode b_Ch_lookUp 157 = .ok (.if_icmp .eq 28, 3) := by decide +kernel
theorem d_Ch_lookUp_160 : decode b_Ch_lookUp 160 = .ok (.aload_n 0, 1) := by decide +kernel
theorem d_Ch_lookUp_161 : decode b_Ch_lookUp 161 = .ok (.getfield 9, 3) := by decide +kernel
theorem d_Ch_lookUp_164 : decode b_Ch_lookUp 164 = .ok (.aload_n 0, 1) := by decide +kernel
theorem d_Ch_lookUp_165 : decode b_Ch_lookUp 165 = .ok (.getfield 35, 3) := by decide +kernel
theorem d_Ch_lookUp_168 : decode b_Ch_lookUp 168 = .ok (.aload_n 0, 1) := by decide +kernel
theorem d_Ch_lookUp_169 : decode b_Ch_lookUp 169 = .ok (.getfield 15, 3) := by decide +kernel
theorem d_Ch_lookUp_172 : decode b_Ch_lookUp 172 = .ok (.invokevirtual 127, 3) := by decide +kernel
theorem d_Ch_lookUp_175 : decode b_Ch_lookUp 175 = .ok (.aload_n 2, 1) := by decide +kernel
theorem d_Ch_lookUp_176 : decode b_Ch_lookUp 176 = .ok (.invokevirtual 130, 3) := by decide +kernel
theorem d_Ch_lookUp_179 : decode b_Ch_lookUp 179 = .ok (.invokevirtual 166, 3) := by decide +kernel
theorem d_Ch_lookUp_182 : decode b_Ch_lookUp 182 = .ok (.ifCond .eq 7, 3) := by decide +kernel
theorem d_Ch_lookUp_185 : decode b_Ch_lookUp 185 = .ok (.iconst 1, 1) := by decide +kernel
theorem d_Ch_lookUp_186 : decode b_Ch_lookUp 186 = .ok (.goto 4, 3) := by decide +kernel
theorem d_Ch_lookUp_189 : decode b_Ch_lookUp 189 = .ok (.iconst 0, 1) := by decide +kernel
theorem d_Ch_lookUp_190 : decode b_Ch_lookUp 190 = .ok (.istore 4, 2) := by decide +kernel
theorem d_Ch_lookUp_192 : decode b_Ch_lookUp 192 = .ok (.iload 4, 2) := by decide +kernel
theorem d_Ch_lookUp_194 : decode b_Ch_lookUp 194 = .ok (.ifCond .eq 8, 3) := by decide +kernel
theorem d_Ch_lookUp_197 : decode b_Ch_lookUp 197 = .ok (.bipush (-2), 2) := by decide +kernel
theorem d_Ch_lookUp_199 : decode b_Ch_lookUp 199 = .ok (.goto 4, 3) := by decide +kernel
theorem d_Ch_lookUp_202 : decode b_Ch_lookUp 202 = .ok (.iconst (-1), 1) := by decide +kernel
theorem d_Ch_lookUp_203 : decode b_Ch_lookUp 203 = .ok (.ireturn, 1) := by decide +kernel
theorem d_Ch_match_0 : decode b_Ch_match 0 = .ok (.aload_n 0, 1) := by decide +kernel
theorem d_Ch_match_1 : decode b_Ch_match 1 = .ok (.getfield 25, 3) := by decide +kernel
theorem d_Ch_match_4 : decode b_Ch_match 4 = .ok (.iload_n 2, 1) := by decide +kernel
theorem d_Ch_match_5 : decode b_Ch_match 5 = .ok (.aaload, 1) := by decide +kernel
theorem d_Ch_match_6 : decode b_Ch_match 6 = .ok (.getfield 102, 3) := by decide +kernel
theorem d_Ch_match_9 : decode b_Ch_match 9 = .ok (.astore_n 3, 1) := by decide +kernel
theorem d_Ch_match_10 : decode b_Ch_match 10 = .ok (.aload_n 3, 1) := by decide +kernel
theorem d_Ch_match_11 : decode b_Ch_match 11 = .ok (.invokevirtual 121, 3) := by decide +kernel
theorem d_Ch_match_14 : decode b_Ch_match 14 = .ok (.tableswitch 103 0 5 #[38, 69, 87, 87, 41, 87], 38) := by decide +kernel
theorem d_Ch_match_52 : decode b_Ch_match 52 = .ok (.bipush (-2), 2) := by decide +kernel
theorem d_Ch_match_54 : decode b_Ch_match 54 = .ok (.ireturn, 1) := by decide +kernel
theorem d_Ch_match_55 : decode b_Ch_match 55 = .ok (.aload_n 3, 1) := by decide +kernel
theorem d_Ch_match_56 : decode b_Ch_match 56 = .ok (.invokevirtual 124, 3) := by decide +kernel
theorem d_Ch_match_59 : decode b_Ch_match 59 = .ok (.aload_n 0, 1) := by decide +kernel
theorem d_Ch_match_60 : decode b_Ch_match 60 = .ok (.getfield 15, 3) := by decide +kernel
theorem d_Ch_match_63 : decode b_Ch_match 63 = .ok (.invokevirtual 127, 3) := by decide +kernel
theorem d_Ch_match_66 : decode b_Ch_match 66 = .ok (.aload_n 3, 1) := by decide +kernel
theorem d_Ch_match_67 : decode b_Ch_match 67 = .ok (.invokevirtual 130, 3) := by decide +kernel
theorem d_Ch_match_70 : decode b_Ch_match 70 = .ok (.invokestatic 133, 3) := by decide +kernel
theorem d_Ch_match_73 : decode b_Ch_match 73 = .ok (.ifCond .eq 8, 3) := by decide +kernel
theorem d_Ch_match_76 : decode b_Ch_match 76 = .ok (.bipush (-2), 2) := by decide +kernel
theorem d_Ch_match_78 : decode b_Ch_match 78 = .ok (.goto 4, 3) := by decide +kernel
theorem d_Ch_match_81 : decode b_Ch_match 81 = .ok (.iconst (-1), 1) := by decide +kernel
theorem d_Ch_match_82 : decode b_Ch_match 82 = .ok (.ireturn, 1) := by decide +kernel
theorem d_Ch_match_83 : decode b_Ch_match 83 = .ok (.aload_n 0, 1) := by decide +kernel
theorem d_Ch_match_84 : decode b_Ch_match 84 = .ok (.aload_n 1, 1) := by decide +kernel
theorem d_Ch_match_85 : decode b_Ch_match 85 = .ok (.aload_n 3, 1) := by decide +kernel
theorem d_Ch_match_86 : decode b_Ch_match 86 = .ok (.invokevirtual 137, 3) := by decide +kernel
theorem d_Ch_match_89 : decode b_Ch_match 89 = .ok (.aload_n 3, 1) := by decide +kernel
theorem d_Ch_match_90 : decode b_Ch_match 90 = .ok (.invokevirtual 140, 3) := by decide +kernel
theorem d_Ch_match_93 : decode b_Ch_match 93 = .ok (.iload_n 2, 1) := by decide +kernel
theorem d_Ch_match_94 : decode b_Ch_match 94 = .ok (.invokevirtual 98, 3) := by decide +kernel
theorem d_Ch_match_97 : decode b_Ch_match 97 = .ok (.invokestatic 143, 3) := by decide +kernel
theorem d_Ch_match_100 : decode b_Ch_match 100 = .ok (.ireturn, 1) := by decide +kernel
theorem d_Ch_match_101 : decode b_Ch_match 101 = .ok (.aload_n 0, 1) := by decide +kernel
theorem d_Ch_match_102 : decode b_Ch_match 102 = .ok (.aload_n 1, 1) := by decide +kernel
theorem d_Ch_match_103 : decode b_Ch_match 103 = .ok (.aload_n 3, 1) := by decide +kernel
theorem d_Ch_match_104 : decode b_Ch_match 104 = .ok (.aload_n 0, 1) := by decide +kernel
theorem d_Ch_match_105 : decode b_Ch_match 105 = .ok (.getfield 25, 3) := by decide +kernel
theorem d_Ch_match_108 : decode b_Ch_match 108 = .ok (.iload_n 2, 1) := by decide +kernel
theorem d_Ch_match_109 : decode b_Ch_match 109 = .ok (.aaload, 1) := by decide +kernel
theorem d_Ch_match_110 : decode b_Ch_match 110 = .ok (.getfield 46, 3) := by decide +kernel
theorem d_Ch_match_113 : decode b_Ch_match 113 = .ok (.invokevirtual 147, 3) := by decide +kernel
theorem d_Ch_match_116 : decode b_Ch_match 116 = .ok (.ireturn, 1) := by decide +kernel
theorem d_Ch_match_117 : decode b_Ch_match 117 = .ok (.iconst (-1), 1) := by decide +kernel
theorem d_Ch_match_118 : decode b_Ch_match 118 = .ok (.ireturn, 1) := by decide +kernel
theorem d_Ch_tryExchanges_0 : decode b_Ch_tryExchanges 0 = .ok (.iconst 0, 1) := by decide +kernel
theorem d_Ch_tryExchanges_1 : decode b_Ch_tryExchanges 1 = .ok (.istore_n 2, 1) := by decide +kernel
theorem d_Ch_tryExchanges_2 : decode b_Ch_tryExchanges 2 = .ok (.iload_n 2, 1) := by decide +kernel
theorem d_Ch_tryExchanges_3 : decode b_Ch_tryExchanges 3 = .ok (.aload_n 0, 1) := by decide +kernel
theorem d_Ch_tryExchanges_4 : decode b_Ch_tryExchanges 4 = .ok (.getfield 9, 3) := by decide +kernel
theorem d_Ch_tryExchanges_7 : decode b_Ch_tryExchanges 7 = .ok (.invokevirtual 170, 3) := by decide +kernel
theorem d_Ch_tryExchanges_10 : decode b_Ch_tryExchanges 10 = .ok (.if_icmp .ge 65, 3) := by decide +kernel
theorem d_Ch_tryExchanges_13 : decode b_Ch_tryExchanges 13 = .ok (.aload_n 0, 1) := by decide +kernel
theorem d_Ch_tryExchanges_14 : decode b_Ch_tryExchanges 14 = .ok (.getfield 9, 3) := by decide +kernel
theorem d_Ch_tryExchanges_17 : decode b_Ch_tryExchanges 17 = .ok (.iload_n 2, 1) := by decide +kernel
theorem d_Ch_tryExchanges_18 : decode b_Ch_tryExchanges 18 = .ok (.aload_n 0, 1) := by decide +kernel
theorem d_Ch_tryExchanges_19 : decode b_Ch_tryExchanges 19 = .ok (.getfield 35, 3) := by decide +kernel
theorem d_Ch_tryExchanges_22 : decode b_Ch_tryExchanges 22 = .ok (.invokevirtual 171, 3) := by decide +kernel
theorem d_Ch_tryExchanges_25 : decode b_Ch_tryExchanges 25 = .ok (.astore_n 3, 1) := by decide +kernel
theorem d_Ch_tryExchanges_26 : decode b_Ch_tryExchanges 26 = .ok (.aload_n 3, 1) := by decide +kernel
theorem d_Ch_tryExchanges_27 : decode b_Ch_tryExchanges 27 = .ok (.ifnonnull 6, 3) := by decide +kernel
theorem d_Ch_tryExchanges_30 : decode b_Ch_tryExchanges 30 = .ok (.goto 39, 3) := by decide +kernel
theorem d_Ch_tryExchanges_33 : decode b_Ch_tryExchanges 33 = .ok (.aload_n 0, 1) := by decide +kernel
theorem d_Ch_tryExchanges_34 : decode b_Ch_tryExchanges 34 = .ok (.getfield 9, 3) := by decide +kernel
theorem d_Ch_tryExchanges_37 : decode b_Ch_tryExchanges 37 = .ok (.iconst 3, 1) := by decide +kernel
theorem d_Ch_tryExchanges_38 : decode b_Ch_tryExchanges 38 = .ok (.aload_n 3, 1) := by decide +kernel
theorem d_Ch_tryExchanges_39 : decode b_Ch_tryExchanges 39 = .ok (.invokevirtual 66, 3) := by decide +kernel
theorem d_Ch_tryExchanges_42 : decode b_Ch_tryExchanges 42 = .ok (.ifCond .eq 5, 3) := by decide +kernel
theorem d_Ch_tryExchanges_45 : decode b_Ch_tryExchanges 45 = .ok (.iconst 5, 1) := by decide +kernel
theorem d_Ch_tryExchanges_46 : decode b_Ch_tryExchanges 46 = .ok (.ireturn, 1) := by decide +kernel
theorem d_Ch_tryExchanges_47 : decode b_Ch_tryExchanges 47 = .ok (.aload_n 0, 1) := by decide +kernel
theorem d_Ch_tryExchanges_48 : decode b_Ch_tryExchanges 48 = .ok (.getfield 9, 3) := by decide +kernel
theorem d_Ch_tryExchanges_51 : decode b_Ch_tryExchanges 51 = .ok (.aload_n 3, 1) := by decide +kernel
theorem d_Ch_tryExchanges_52 : decode b_Ch_tryExchanges 52 = .ok (.aload_n 0, 1) := by decide +kernel
theorem d_Ch_tryExchanges_53 : decode b_Ch_tryExchanges 53 = .ok (.getfield 15, 3) := by decide +kernel
theorem d_Ch_tryExchanges_56 : decode b_Ch_tryExchanges 56 = .ok (.invokevirtual 127, 3) := by decide +kernel
theorem d_Ch_tryExchanges_59 : decode b_Ch_tryExchanges 59 = .ok (.iload_n 1, 1) := by decide +kernel
theorem d_Ch_tryExchanges_60 : decode b_Ch_tryExchanges 60 = .ok (.invokevirtual 166, 3) := by decide +kernel
theorem d_Ch_tryExchanges_63 : decode b_Ch_tryExchanges 63 = .ok (.ifCond .eq 6, 3) := by decide +kernel
theorem d_Ch_tryExchanges_66 : decode b_Ch_tryExchanges 66 = .ok (.bipush (-2), 2) := by decide +kernel
theorem d_Ch_tryExchanges_68 : decode b_Ch_tryExchanges 68 = .ok (.ireturn, 1) := by decide +kernel
theorem d_Ch_tryExchanges_69 : decode b_Ch_tryExchanges 69 = .ok (.iinc 2 1, 3) := by decide +kernel
theorem d_Ch_tryExchanges_72 : decode b_Ch_tryExchanges 72 = .ok (.goto (-70), 3) := by decide +kernel
theorem d_Ch_tryExchanges_75 : decode b_Ch_tryExchanges 75 = .ok (.iconst (-1), 1) := by decide +kernel
theorem d_Ch_tryExchanges_76 : decode b_Ch_tryExchanges 76 = .ok (.ireturn, 1) := by decide +kernel
theorem d_Ch_voids_0 : decode b_Ch_voids 0 = .ok (.aload_n 0, 1) := by decide +kernel
theorem d_Ch_voids_1 : decode b_Ch_voids 1 = .ok (.getfield 43, 3) := by decide +kernel
theorem d_Ch_voids_4 : decode b_Ch_voids 4 = .ok (.ireturn, 1) := by decide +kernel
