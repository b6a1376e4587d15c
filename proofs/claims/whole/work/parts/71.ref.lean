theorem ct_Mo_1 : CT "SendPolicyModel" 1 y_Str_length b_Str_length 1 (some .int) 0 := ⟨mw_Str_length, (tb_in 841 (by decide +kernel) rfl), (tb_in 415 (by decide +kernel) rfl), (tb_in 416 (by decide +kernel) rfl), rfl⟩
set_option maxRecDepth 100000 in
theorem mw_Mo_is : MW y_Mo_is b_Mo_is 5 (some .boolean) 4 := ⟨tb_in 840 rfl rfl, (tb_in 39 (by decide +kernel) rfl), ⟨by decide +kernel, by decide +kernel, by decide +kernel⟩, (Nat.le_of_ble_eq_true rfl)⟩
theorem cs_Mo_11 : CS "SendPolicyModel" 11 y_Mo_is b_Mo_is 5 (some .boolean) 4 := ⟨mw_Mo_is, (tb_in 838 (by decide +kernel) rfl), (tb_in 839 (by decide +kernel) rfl)⟩
theorem lc_Mo_130 : Cond.constantLong "SendPolicyModel" 130 (Int64.ofInt 2) ∈ TB := tb_in 875 (by decide +kernel) rfl
theorem cs_Mo_66 : CS "SendPolicyModel" 66 y_Mo_in b_Mo_in 6 (some .boolean) 3 := ⟨mw_Mo_in, (tb_in 766 (by decide +kernel) rfl), (tb_in 767 (by decide +kernel) rfl)⟩
theorem cs_Mo_102 : CS "SendPolicyModel" 102 y_Mo_isDigit b_Mo_isDigit 1 (some .boolean) 1 := ⟨mw_Mo_isDigit, (tb_in 808 (by decide +kernel) rfl), (tb_in 787 (by decide +kernel) rfl)⟩
theorem fl_Mo_86 : FL "SendPolicyModel" 86 cTx 1 := ⟨R_Tx, F_Tx, 2, rfl, fws_Tx, (Nat.le_of_ble_eq_true rfl), (tb_in 684 (by decide +kernel) rfl)⟩
theorem fl_Mo_192 : FL "SendPolicyModel" 192 cTx 0 := ⟨R_Tx, F_Tx, 2, rfl, fws_Tx, (Nat.le_of_ble_eq_true rfl), (tb_in 682 (by decide +kernel) rfl)⟩
set_option maxRecDepth 100000 in
theorem mw_Mo_isTrouble : MW y_Mo_isTrouble b_Mo_isTrouble 3 (some .boolean) 1 := ⟨tb_in 820 rfl rfl, (tb_in 39 (by decide +kernel) rfl), ⟨by decide +kernel, by decide +kernel, by decide +kernel⟩, (Nat.le_of_ble_eq_true rfl)⟩
theorem cv_Mo_208 : CV "SendPolicyModel" 208 y_Mo_isTrouble b_Mo_isTrouble 3 (some .boolean) 1 cMo := ⟨mw_Mo_isTrouble, (tb_in 817 (by decide +kernel) rfl), (tb_in 819 (by decide +kernel) rfl), (tb_in 17 (by decide +kernel) rfl), _, rfl, rfl⟩
set_option maxRecDepth 100000 in
theorem mw_Mo_recordOf : MW y_Mo_recordOf b_Mo_recordOf 5 (some .int) 1 := ⟨tb_in 836 rfl rfl, (tb_in 39 (by decide +kernel) rfl), ⟨by decide +kernel, by decide +kernel, by decide +kernel⟩, (Nat.le_of_ble_eq_true rfl)⟩
theorem cv_Mo_211 : CV "SendPolicyModel" 211 y_Mo_recordOf b_Mo_recordOf 5 (some .int) 1 cMo := ⟨mw_Mo_recordOf, (tb_in 833 (by decide +kernel) rfl), (tb_in 835 (by decide +kernel) rfl), (tb_in 19 (by decide +kernel) rfl), _, rfl, rfl⟩
theorem fws_Mo : ∀ w ∈ u_ws R_Mo F_Mo 22, w ∈ TB := by decide +kernel
theorem ft_Mo : FT cMo t_Mo := fun C T N h => by
  have h2 : some (R_Mo, F_Mo, 22) = some (C, T, N) := h
  cases h2
  exact ⟨by decide +kernel, by decide +kernel⟩
theorem fl_Mo_47 : FL "SendPolicyModel" 47 cMo 7 := ⟨R_Mo, F_Mo, 22, rfl, fws_Mo, (Nat.le_of_ble_eq_true rfl), (tb_in 698 (by decide +kernel) rfl)⟩
set_option maxRecDepth 100000 in
theorem mw_Mo_blankFrom : MW y_Mo_blankFrom b_Mo_blankFrom 3 (some .int) 2 := ⟨tb_in 849 rfl rfl, (tb_in 39 (by decide +kernel) rfl), ⟨by decide +kernel, by decide +kernel, by decide +kernel⟩, (Nat.le_of_ble_eq_true rfl)⟩
theorem cs_Mo_215 : CS "SendPolicyModel" 215 y_Mo_blankFrom b_Mo_blankFrom 3 (some .int) 2 := ⟨mw_Mo_blankFrom, (tb_in 847 (by decide +kernel) rfl), (tb_in 848 (by decide +kernel) rfl)⟩
set_option maxRecDepth 100000 in
theorem mw_Mo_wordEnd : MW y_Mo_wordEnd b_Mo_wordEnd 3 (some .int) 2 := ⟨tb_in 852 rfl rfl, (tb_in 39 (by decide +kernel) rfl), ⟨by decide +kernel, by decide +kernel, by decide +kernel⟩, (Nat.le_of_ble_eq_true rfl)⟩
theorem cs_Mo_218 : CS "SendPolicyModel" 218 y_Mo_wordEnd b_Mo_wordEnd 3 (some .int) 2 := ⟨mw_Mo_wordEnd, (tb_in 850 (by decide +kernel) rfl), (tb_in 851 (by decide +kernel) rfl)⟩
set_option maxRecDepth 100000 in
theorem mw_Mo_readTerm : MW y_Mo_readTerm b_Mo_readTerm 7 none 3 := ⟨tb_in 856 rfl rfl, (tb_in 39 (by decide +kernel) rfl), ⟨by decide +kernel, by decide +kernel, by decide +kernel⟩, (Nat.le_of_ble_eq_true rfl)⟩
theorem cv_Mo_221 : CV "SendPolicyModel" 221 y_Mo_readTerm b_Mo_readTerm 7 none 3 cMo := ⟨mw_Mo_readTerm, (tb_in 853 (by decide +kernel) rfl), (tb_in 855 (by decide +kernel) rfl), (tb_in 20 (by decide +kernel) rfl), _, rfl, rfl⟩
theorem fl_Mo_138 : FL "SendPolicyModel" 138 cMo 16 := ⟨R_Mo, F_Mo, 22, rfl, fws_Mo, (Nat.le_of_ble_eq_true rfl), (tb_in 707 (by decide +kernel) rfl)⟩
theorem fl_Mo_135 : FL "SendPolicyModel" 135 cMo 17 := ⟨R_Mo, F_Mo, 22, rfl, fws_Mo, (Nat.le_of_ble_eq_true rfl), (tb_in 708 (by decide +kernel) rfl)⟩
set_option maxRecDepth 100000 in
theorem mw_Mo_matches : MW y_Mo_matches b_Mo_matches 10 (some .int) 3 := ⟨tb_in 890 rfl rfl, (tb_in 39 (by decide +kernel) rfl), ⟨by decide +kernel, by decide +kernel, by decide +kernel⟩, (Nat.le_of_ble_eq_true rfl)⟩
theorem cv_Mo_224 : CV "SendPolicyModel" 224 y_Mo_matches b_Mo_matches 10 (some .int) 3 cMo := ⟨mw_Mo_matches, (tb_in 887 (by decide +kernel) rfl), (tb_in 889 (by decide +kernel) rfl), (tb_in 23 (by decide +kernel) rfl), _, rfl, rfl⟩
theorem fl_Mo_112 : FL "SendPolicyModel" 112 cMo 13 := ⟨R_Mo, F_Mo, 22, rfl, fws_Mo, (Nat.le_of_ble_eq_true rfl), (tb_in 704 (by decide +kernel) rfl)⟩
theorem fw_Mo_13 : FW cMo 13 := fun C T N h => by
  have h2 : some (R_Mo, F_Mo, 22) = some (C, T, N) := h
  cases h2
  rfl
theorem fl_Mo_141 : FL "SendPolicyModel" 141 cMo 18 := ⟨R_Mo, F_Mo, 22, rfl, fws_Mo, (Nat.le_of_ble_eq_true rfl), (tb_in 709 (by decide +kernel) rfl)⟩
theorem fl_Mo_144 : FL "SendPolicyModel" 144 cMo 19 := ⟨R_Mo, F_Mo, 22, rfl, fws_Mo, (Nat.le_of_ble_eq_true rfl), (tb_in 710 (by decide +kernel) rfl)⟩
theorem fl_Mo_56 : FL "SendPolicyModel" 56 cMo 12 := ⟨R_Mo, F_Mo, 22, rfl, fws_Mo, (Nat.le_of_ble_eq_true rfl), (tb_in 703 (by decide +kernel) rfl)⟩
set_option maxRecDepth 100000 in
theorem mw_Mo_expand2 : MW y_Mo_expand2 b_Mo_expand2 8 none 5 := ⟨tb_in 898 rfl rfl, (tb_in 39 (by decide +kernel) rfl), ⟨by decide +kernel, by decide +kernel, by decide +kernel⟩, (Nat.le_of_ble_eq_true rfl)⟩
theorem cv_Mo_228 : CV "SendPolicyModel" 228 y_Mo_expand2 b_Mo_expand2 8 none 5 cMo := ⟨mw_Mo_expand2, (tb_in 895 (by decide +kernel) rfl), (tb_in 897 (by decide +kernel) rfl), (tb_in 25 (by decide +kernel) rfl), _, rfl, rfl⟩
set_option maxRecDepth 100000 in
theorem mw_Mo_check : MW y_Mo_check b_Mo_check 10 (some .int) 2 := ⟨tb_in 816 rfl rfl, (tb_in 39 (by decide +kernel) rfl), ⟨by decide +kernel, by decide +kernel, by decide +kernel⟩, (Nat.le_of_ble_eq_true rfl)⟩
theorem cv_Mo_118 : CV "SendPolicyModel" 118 y_Mo_check b_Mo_check 10 (some .int) 2 cMo := ⟨mw_Mo_check, (tb_in 813 (by decide +kernel) rfl), (tb_in 815 (by decide +kernel) rfl), (tb_in 16 (by decide +kernel) rfl), _, rfl, rfl⟩
theorem fl_Mo_115 : FL "SendPolicyModel" 115 cMo 14 := ⟨R_Mo, F_Mo, 22, rfl, fws_Mo, (Nat.le_of_ble_eq_true rfl), (tb_in 705 (by decide +kernel) rfl)⟩
theorem fl_Mo_62 : FL "SendPolicyModel" 62 cMo 1 := ⟨R_Mo, F_Mo, 22, rfl, fws_Mo, (Nat.le_of_ble_eq_true rfl), (tb_in 692 (by decide +kernel) rfl)⟩
theorem fw_Mo_1 : FW cMo 1 := fun C T N h => by
  have h2 : some (R_Mo, F_Mo, 22) = some (C, T, N) := h
  cases h2
  rfl
set_option maxRecDepth 100000 in
theorem mw_Mo_used : MW y_Mo_used b_Mo_used 2 (some .int) 0 := ⟨tb_in 776 rfl rfl, (tb_in 39 (by decide +kernel) rfl), ⟨by decide +kernel, by decide +kernel, by decide +kernel⟩, (Nat.le_of_ble_eq_true rfl)⟩
theorem cv_Mo_70 : CV "SendPolicyModel" 70 y_Mo_used b_Mo_used 2 (some .int) 0 cMo := ⟨mw_Mo_used, (tb_in 773 (by decide +kernel) rfl), (tb_in 775 (by decide +kernel) rfl), (tb_in 15 (by decide +kernel) rfl), _, rfl, rfl⟩
theorem fl_Mo_73 : FL "SendPolicyModel" 73 cMo 2 := ⟨R_Mo, F_Mo, 22, rfl, fws_Mo, (Nat.le_of_ble_eq_true rfl), (tb_in 693 (by decide +kernel) rfl)⟩
theorem lc_Mo_76 : Cond.constantLong "SendPolicyModel" 76 (Int64.ofInt 3) ∈ TB := tb_in 777 (by decide +kernel) rfl
theorem fl_Mo_23 : FL "SendPolicyModel" 23 cMo 0 := ⟨R_Mo, F_Mo, 22, rfl, fws_Mo, (Nat.le_of_ble_eq_true rfl), (tb_in 691 (by decide +kernel) rfl)⟩
set_option maxRecDepth 100000 in
theorem mw_Tx_isName : MW y_Tx_isName b_Tx_isName 6 (some .boolean) 3 := ⟨tb_in 780 rfl rfl, (tb_in 40 (by decide +kernel) rfl), ⟨by decide +kernel, by decide +kernel, by decide +kernel⟩, (Nat.le_of_ble_eq_true rfl)⟩
theorem cs_Mo_78 : CS "SendPolicyModel" 78 y_Tx_isName b_Tx_isName 6 (some .boolean) 3 := ⟨mw_Tx_isName, (tb_in 778 (by decide +kernel) rfl), (tb_in 779 (by decide +kernel) rfl)⟩
theorem fl_Mo_36 : FL "SendPolicyModel" 36 cMo 4 := ⟨R_Mo, F_Mo, 22, rfl, fws_Mo, (Nat.le_of_ble_eq_true rfl), (tb_in 695 (by decide +kernel) rfl)⟩
theorem fl_Mo_40 : FL "SendPolicyModel" 40 cMo 5 := ⟨R_Mo, F_Mo, 22, rfl, fws_Mo, (Nat.le_of_ble_eq_true rfl), (tb_in 696 (by decide +kernel) rfl)⟩
theorem fl_Mo_43 : FL "SendPolicyModel" 43 cMo 6 := ⟨R_Mo, F_Mo, 22, rfl, fws_Mo, (Nat.le_of_ble_eq_true rfl), (tb_in 697 (by decide +kernel) rfl)⟩
set_option maxRecDepth 100000 in
theorem mw_Tx_set : MW y_Tx_set b_Tx_set 4 none 3 := ⟨tb_in 792 rfl rfl, (tb_in 40 (by decide +kernel) rfl), ⟨by decide +kernel, by decide +kernel, by decide +kernel⟩, (Nat.le_of_ble_eq_true rfl)⟩
theorem cv_Mo_82 : CV "SendPolicyModel" 82 y_Tx_set b_Tx_set 4 none 3 cTx := ⟨mw_Tx_set, (tb_in 789 (by decide +kernel) rfl), (tb_in 790 (by decide +kernel) rfl), (tb_in 791 (by decide +kernel) rfl), _, rfl, rfl⟩
theorem fw_Mo_2 : FW cMo 2 := fun C T N h => by
  have h2 : some (R_Mo, F_Mo, 22) = some (C, T, N) := h
  cases h2
  rfl
set_option maxRecDepth 100000 in
theorem mw_Mo_isOf : MW y_Mo_isOf b_Mo_isOf 4 (some .boolean) 3 := ⟨tb_in 824 rfl rfl, (tb_in 39 (by decide +kernel) rfl), ⟨by decide +kernel, by decide +kernel, by decide +kernel⟩, (Nat.le_of_ble_eq_true rfl)⟩
theorem cv_Mo_92 : CV "SendPolicyModel" 92 y_Mo_isOf b_Mo_isOf 4 (some .boolean) 3 cMo := ⟨mw_Mo_isOf, (tb_in 821 (by decide +kernel) rfl), (tb_in 823 (by decide +kernel) rfl), (tb_in 18 (by decide +kernel) rfl), _, rfl, rfl⟩
set_option maxRecDepth 100000 in
theorem mw_Mo_isSender : MW y_Mo_isSender b_Mo_isSender 3 (some .boolean) 2 := ⟨tb_in 894 rfl rfl, (tb_in 39 (by decide +kernel) rfl), ⟨by decide +kernel, by decide +kernel, by decide +kernel⟩, (Nat.le_of_ble_eq_true rfl)⟩
theorem cv_Mo_231 : CV "SendPolicyModel" 231 y_Mo_isSender b_Mo_isSender 3 (some .boolean) 2 cMo := ⟨mw_Mo_isSender, (tb_in 891 (by decide +kernel) rfl), (tb_in 893 (by decide +kernel) rfl), (tb_in 24 (by decide +kernel) rfl), _, rfl, rfl⟩
theorem fl_Mo_108 : FL "SendPolicyModel" 108 cMo 11 := ⟨R_Mo, F_Mo, 22, rfl, fws_Mo, (Nat.le_of_ble_eq_true rfl), (tb_in 702 (by decide +kernel) rfl)⟩
set_option maxRecDepth 100000 in
theorem mw_Mo_isD : MW y_Mo_isD b_Mo_isD 6 (some .boolean) 4 := ⟨tb_in 861 rfl rfl, (tb_in 39 (by decide +kernel) rfl), ⟨by decide +kernel, by decide +kernel, by decide +kernel⟩, (Nat.le_of_ble_eq_true rfl)⟩
theorem cs_Mo_157 : CS "SendPolicyModel" 157 y_Mo_isD b_Mo_isD 6 (some .boolean) 4 := ⟨mw_Mo_isD, (tb_in 859 (by decide +kernel) rfl), (tb_in 860 (by decide +kernel) rfl)⟩
theorem fl_Mo_53 : FL "SendPolicyModel" 53 cMo 9 := ⟨R_Mo, F_Mo, 22, rfl, fws_Mo, (Nat.le_of_ble_eq_true rfl), (tb_in 700 (by decide +kernel) rfl)⟩
theorem fl_Mo_32 : FL "SendPolicyModel" 32 cMo 3 := ⟨R_Mo, F_Mo, 22, rfl, fws_Mo, (Nat.le_of_ble_eq_true rfl), (tb_in 694 (by decide +kernel) rfl)⟩
set_option maxRecDepth 100000 in
theorem mw_Mo_put : MW y_Mo_put b_Mo_put 2 none 2 := ⟨tb_in 901 rfl rfl, (tb_in 39 (by decide +kernel) rfl), ⟨by decide +kernel, by decide +kernel, by decide +kernel⟩, (Nat.le_of_ble_eq_true rfl)⟩
theorem cs_Mo_184 : CS "SendPolicyModel" 184 y_Mo_put b_Mo_put 2 none 2 := ⟨mw_Mo_put, (tb_in 899 (by decide +kernel) rfl), (tb_in 900 (by decide +kernel) rfl)⟩
set_option maxRecDepth 100000 in
theorem mw_Mo_macro : MW y_Mo_macro b_Mo_macro 6 (some .int) 3 := ⟨tb_in 866 rfl rfl, (tb_in 39 (by decide +kernel) rfl), ⟨by decide +kernel, by decide +kernel, by decide +kernel⟩, (Nat.le_of_ble_eq_true rfl)⟩
theorem cs_Mo_126 : CS "SendPolicyModel" 126 y_Mo_macro b_Mo_macro 6 (some .int) 3 := ⟨mw_Mo_macro, (tb_in 864 (by decide +kernel) rfl), (tb_in 865 (by decide +kernel) rfl)⟩
set_option maxRecDepth 100000 in
theorem mw_Mo_macroValue : MW y_Mo_macroValue b_Mo_macroValue 12 none 5 := ⟨tb_in 909 rfl rfl, (tb_in 39 (by decide +kernel) rfl), ⟨by decide +kernel, by decide +kernel, by decide +kernel⟩, (Nat.le_of_ble_eq_true rfl)⟩
theorem cv_Mo_188 : CV "SendPolicyModel" 188 y_Mo_macroValue b_Mo_macroValue 12 none 5 cMo := ⟨mw_Mo_macroValue, (tb_in 906 (by decide +kernel) rfl), (tb_in 908 (by decide +kernel) rfl), (tb_in 26 (by decide +kernel) rfl), _, rfl, rfl⟩
theorem lm_Mo_17 : Cond.methodLink "SendPolicyModel" 17 ⟨"java/lang/Object", "<init>", "()V"⟩ ∈ TB := (tb_in 674 (by decide +kernel) rfl)
theorem ff_Mo_0 : FF "SendPolicyModel" cMo 0 := fun C T N h => by
  have h2 : some (R_Mo, F_Mo, 22) = some (C, T, N) := h
  cases h2
  exact ⟨rfl, rfl⟩
theorem kl_Mo_27 : Cond.classLink "SendPolicyModel" 27 "SendPolicyModel$Text" ∈ TB := (tb_in 675 (by decide +kernel) rfl)
theorem nw_Mo_27 : NewW "SendPolicyModel" 27 cTx 2 t_Tx := ⟨R_Tx, F_Tx, rfl, ft_Tx, fws_Tx, kl_Mo_27, (tb_in 676 (by decide +kernel) rfl), (tb_in 40 (by decide +kernel) rfl)⟩
set_option maxRecDepth 100000 in
theorem mw_Tx_init : MW y_Tx_init b_Tx_init 2 none 1 := ⟨tb_in 679 rfl rfl, (tb_in 40 (by decide +kernel) rfl), ⟨by decide +kernel, by decide +kernel, by decide +kernel⟩, (Nat.le_of_ble_eq_true rfl)⟩
theorem ci_Mo_29 : CI "SendPolicyModel" 29 y_Tx_init b_Tx_init 2 1 := ⟨mw_Tx_init, (tb_in 677 (by decide +kernel) rfl), (tb_in 678 (by decide +kernel) rfl), rfl⟩
theorem ff_Mo_3 : FF "SendPolicyModel" cMo 3 := fun C T N h => by
  have h2 : some (R_Mo, F_Mo, 22) = some (C, T, N) := h
  cases h2
  exact ⟨rfl, rfl⟩
theorem ff_Mo_4 : FF "SendPolicyModel" cMo 4 := fun C T N h => by
  have h2 : some (R_Mo, F_Mo, 22) = some (C, T, N) := h
  cases h2
  exact ⟨rfl, rfl⟩
theorem ff_Mo_5 : FF "SendPolicyModel" cMo 5 := fun C T N h => by
  have h2 : some (R_Mo, F_Mo, 22) = some (C, T, N) := h
  cases h2
  exact ⟨rfl, rfl⟩
theorem ff_Mo_6 : FF "SendPolicyModel" cMo 6 := fun C T N h => by
  have h2 : some (R_Mo, F_Mo, 22) = some (C, T, N) := h
  cases h2
  exact ⟨rfl, rfl⟩
theorem ff_Mo_7 : FF "SendPolicyModel" cMo 7 := fun C T N h => by
  have h2 : some (R_Mo, F_Mo, 22) = some (C, T, N) := h
  cases h2
  exact ⟨rfl, rfl⟩
theorem fl_Mo_50 : FL "SendPolicyModel" 50 cMo 8 := ⟨R_Mo, F_Mo, 22, rfl, fws_Mo, (Nat.le_of_ble_eq_true rfl), (tb_in 699 (by decide +kernel) rfl)⟩
theorem ff_Mo_8 : FF "SendPolicyModel" cMo 8 := fun C T N h => by
  have h2 : some (R_Mo, F_Mo, 22) = some (C, T, N) := h
  cases h2
  exact ⟨rfl, rfl⟩
theorem ff_Mo_9 : FF "SendPolicyModel" cMo 9 := fun C T N h => by
  have h2 : some (R_Mo, F_Mo, 22) = some (C, T, N) := h
  cases h2
  exact ⟨rfl, rfl⟩
theorem ff_Mo_12 : FF "SendPolicyModel" cMo 12 := fun C T N h => by
  have h2 : some (R_Mo, F_Mo, 22) = some (C, T, N) := h
  cases h2
  exact ⟨rfl, rfl⟩
theorem fl_Mo_59 : FL "SendPolicyModel" 59 cMo 15 := ⟨R_Mo, F_Mo, 22, rfl, fws_Mo, (Nat.le_of_ble_eq_true rfl), (tb_in 706 (by decide +kernel) rfl)⟩
theorem ff_Mo_15 : FF "SendPolicyModel" cMo 15 := fun C T N h => by
  have h2 : some (R_Mo, F_Mo, 22) = some (C, T, N) := h
  cases h2
  exact ⟨rfl, rfl⟩
theorem ct_Mo_7 : CT "SendPolicyModel" 7 y_Str_charAt b_Str_charAt 2 (some .char) 1 := ⟨mw_Str_charAt, (tb_in 842 (by decide +kernel) rfl), (tb_in 425 (by decide +kernel) rfl), (tb_in 426 (by decide +kernel) rfl), rfl⟩
theorem lc_Mo_122 : Cond.constantLong "SendPolicyModel" 122 (Int64.ofInt 33) ∈ TB := tb_in 862 (by decide +kernel) rfl
theorem lc_Mo_124 : Cond.constantLong "SendPolicyModel" 124 (Int64.ofInt 126) ∈ TB := tb_in 863 (by decide +kernel) rfl
set_option maxRecDepth 100000 in
theorem mw_Tx_is2 : MW y_Tx_is2 b_Tx_is2 2 (some .boolean) 1 := ⟨tb_in 828 rfl rfl, (tb_in 40 (by decide +kernel) rfl), ⟨by decide +kernel, by decide +kernel, by decide +kernel⟩, (Nat.le_of_ble_eq_true rfl)⟩
theorem cv_Mo_89 : CV "SendPolicyModel" 89 y_Tx_is2 b_Tx_is2 2 (some .boolean) 1 cTx := ⟨mw_Tx_is2, (tb_in 825 (by decide +kernel) rfl), (tb_in 826 (by decide +kernel) rfl), (tb_in 827 (by decide +kernel) rfl), _, rfl, rfl⟩
theorem fl_Mo_132 : FL "SendPolicyModel" 132 cMo 21 := ⟨R_Mo, F_Mo, 22, rfl, fws_Mo, (Nat.le_of_ble_eq_true rfl), (tb_in 712 (by decide +kernel) rfl)⟩
theorem fw_Mo_21 : FW cMo 21 := fun C T N h => by
  have h2 : some (R_Mo, F_Mo, 22) = some (C, T, N) := h
  cases h2
  rfl
theorem fl_Mo_105 : FL "SendPolicyModel" 105 cMo 10 := ⟨R_Mo, F_Mo, 22, rfl, fws_Mo, (Nat.le_of_ble_eq_true rfl), (tb_in 701 (by decide +kernel) rfl)⟩
theorem cv_Mo_198 : CV "SendPolicyModel" 198 y_Tx_add2 b_Tx_add2 4 none 3 cTx := ⟨mw_Tx_add2, (tb_in 910 (by decide +kernel) rfl), (tb_in 794 (by decide +kernel) rfl), (tb_in 795 (by decide +kernel) rfl), _, rfl, rfl⟩
set_option maxRecDepth 100000 in
theorem mw_Tx_add1 : MW y_Tx_add1 b_Tx_add1 2 none 1 := ⟨tb_in 905 rfl rfl, (tb_in 40 (by decide +kernel) rfl), ⟨by decide +kernel, by decide +kernel, by decide +kernel⟩, (Nat.le_of_ble_eq_true rfl)⟩
theorem cv_Mo_195 : CV "SendPolicyModel" 195 y_Tx_add1 b_Tx_add1 2 none 1 cTx := ⟨mw_Tx_add1, (tb_in 902 (by decide +kernel) rfl), (tb_in 903 (by decide +kernel) rfl), (tb_in 904 (by decide +kernel) rfl), _, rfl, rfl⟩
set_option maxRecDepth 100000 in
theorem mw_Mo_part : MW y_Mo_part b_Mo_part 5 none 2 := ⟨tb_in 914 rfl rfl, (tb_in 39 (by decide +kernel) rfl), ⟨by decide +kernel, by decide +kernel, by decide +kernel⟩, (Nat.le_of_ble_eq_true rfl)⟩
theorem cv_Mo_200 : CV "SendPolicyModel" 200 y_Mo_part b_Mo_part 5 none 2 cMo := ⟨mw_Mo_part, (tb_in 911 (by decide +kernel) rfl), (tb_in 913 (by decide +kernel) rfl), (tb_in 27 (by decide +kernel) rfl), _, rfl, rfl⟩
theorem fl_Mo_147 : FL "SendPolicyModel" 147 cMo 20 := ⟨R_Mo, F_Mo, 22, rfl, fws_Mo, (Nat.le_of_ble_eq_true rfl), (tb_in 711 (by decide +kernel) rfl)⟩
theorem fw_Mo_14 : FW cMo 14 := fun C T N h => by
  have h2 : some (R_Mo, F_Mo, 22) = some (C, T, N) := h
  cases h2
  rfl
set_option maxRecDepth 100000 in
theorem mw_Mo_exchanges : MW y_Mo_exchanges b_Mo_exchanges 5 (some .int) 2 := ⟨tb_in 918 rfl rfl, (tb_in 39 (by decide +kernel) rfl), ⟨by decide +kernel, by decide +kernel, by decide +kernel⟩, (Nat.le_of_ble_eq_true rfl)⟩
theorem cv_Mo_235 : CV "SendPolicyModel" 235 y_Mo_exchanges b_Mo_exchanges 5 (some .int) 2 cMo := ⟨mw_Mo_exchanges, (tb_in 915 (by decide +kernel) rfl), (tb_in 917 (by decide +kernel) rfl), (tb_in 28 (by decide +kernel) rfl), _, rfl, rfl⟩
theorem lc_Mo_238 : Cond.constantLong "SendPolicyModel" 238 (Int64.ofInt (-1)) ∈ TB := tb_in 931 (by decide +kernel) rfl
set_option maxRecDepth 100000 in
theorem mw_Mo_slashOf : MW y_Mo_slashOf b_Mo_slashOf 4 (some .int) 3 := ⟨tb_in 871 rfl rfl, (tb_in 39 (by decide +kernel) rfl), ⟨by decide +kernel, by decide +kernel, by decide +kernel⟩, (Nat.le_of_ble_eq_true rfl)⟩
theorem cs_Mo_165 : CS "SendPolicyModel" 165 y_Mo_slashOf b_Mo_slashOf 4 (some .int) 3 := ⟨mw_Mo_slashOf, (tb_in 869 (by decide +kernel) rfl), (tb_in 870 (by decide +kernel) rfl)⟩
set_option maxRecDepth 100000 in
theorem mw_Mo_bits : MW y_Mo_bits b_Mo_bits 5 (some .int) 3 := ⟨tb_in 874 rfl rfl, (tb_in 39 (by decide +kernel) rfl), ⟨by decide +kernel, by decide +kernel, by decide +kernel⟩, (Nat.le_of_ble_eq_true rfl)⟩
theorem cs_Mo_168 : CS "SendPolicyModel" 168 y_Mo_bits b_Mo_bits 5 (some .int) 3 := ⟨mw_Mo_bits, (tb_in 872 (by decide +kernel) rfl), (tb_in 873 (by decide +kernel) rfl)⟩
theorem fw_Mo_20 : FW cMo 20 := fun C T N h => by
  have h2 : some (R_Mo, F_Mo, 22) = some (C, T, N) := h
  cases h2
  rfl
theorem fw_Mo_18 : FW cMo 18 := fun C T N h => by
  have h2 : some (R_Mo, F_Mo, 22) = some (C, T, N) := h
  cases h2
  rfl
theorem fw_Mo_19 : FW cMo 19 := fun C T N h => by
  have h2 : some (R_Mo, F_Mo, 22) = some (C, T, N) := h
  cases h2
  rfl
theorem fw_Mo_16 : FW cMo 16 := fun C T N h => by
  have h2 : some (R_Mo, F_Mo, 22) = some (C, T, N) := h
  cases h2
  rfl
theorem fw_Mo_17 : FW cMo 17 := fun C T N h => by
  have h2 : some (R_Mo, F_Mo, 22) = some (C, T, N) := h
  cases h2
  rfl
set_option maxRecDepth 100000 in
theorem mw_Mo_begins : MW y_Mo_begins b_Mo_begins 4 (some .boolean) 4 := ⟨tb_in 846 rfl rfl, (tb_in 39 (by decide +kernel) rfl), ⟨by decide +kernel, by decide +kernel, by decide +kernel⟩, (Nat.le_of_ble_eq_true rfl)⟩
theorem cs_Mo_154 : CS "SendPolicyModel" 154 y_Mo_begins b_Mo_begins 4 (some .boolean) 4 := ⟨mw_Mo_begins, (tb_in 844 (by decide +kernel) rfl), (tb_in 845 (by decide +kernel) rfl)⟩
set_option maxRecDepth 100000 in
theorem mw_Mo_isQuad : MW y_Mo_isQuad b_Mo_isQuad 8 (some .boolean) 3 := ⟨tb_in 879 rfl rfl, (tb_in 39 (by decide +kernel) rfl), ⟨by decide +kernel, by decide +kernel, by decide +kernel⟩, (Nat.le_of_ble_eq_true rfl)⟩
theorem cv_Mo_171 : CV "SendPolicyModel" 171 y_Mo_isQuad b_Mo_isQuad 8 (some .boolean) 3 cMo := ⟨mw_Mo_isQuad, (tb_in 876 (by decide +kernel) rfl), (tb_in 878 (by decide +kernel) rfl), (tb_in 21 (by decide +kernel) rfl), _, rfl, rfl⟩
set_option maxRecDepth 100000 in
theorem mw_Mo_readHost : MW y_Mo_readHost b_Mo_readHost 6 none 4 := ⟨tb_in 884 rfl rfl, (tb_in 39 (by decide +kernel) rfl), ⟨by decide +kernel, by decide +kernel, by decide +kernel⟩, (Nat.le_of_ble_eq_true rfl)⟩
theorem cv_Mo_176 : CV "SendPolicyModel" 176 y_Mo_readHost b_Mo_readHost 6 none 4 cMo := ⟨mw_Mo_readHost, (tb_in 881 (by decide +kernel) rfl), (tb_in 883 (by decide +kernel) rfl), (tb_in 22 (by decide +kernel) rfl), _, rfl, rfl⟩
theorem cs_Mo_98 : CS "SendPolicyModel" 98 y_Mo_isSmall b_Mo_isSmall 1 (some .boolean) 1 := ⟨mw_Mo_isSmall, (tb_in 807 (by decide +kernel) rfl), (tb_in 784 (by decide +kernel) rfl)⟩
theorem lc_Mo_96 : Cond.constantLong "SendPolicyModel" 96 (Int64.ofInt 30) ∈ TB := tb_in 806 (by decide +kernel) rfl
theorem fw_Mo_10 : FW cMo 10 := fun C T N h => by
  have h2 : some (R_Mo, F_Mo, 22) = some (C, T, N) := h
  cases h2
  rfl
theorem fw_Mo_11 : FW cMo 11 := fun C T N h => by
  have h2 : some (R_Mo, F_Mo, 22) = some (C, T, N) := h
  cases h2
  rfl
/-! DECODE ROWS: printed by wip/gen/names.py -/
theorem d_Mo_begins_0 : decode b_Mo_begins 0 = .ok (.iload_n 2, 1) := by decide +kernel
theorem d_Mo_begins_1 : decode b_Mo_begins 1 = .ok (.iload_n 1, 1) := by decide +kernel
theorem d_Mo_begins_2 : decode b_Mo_begins 2 = .ok (.isub, 1) := by decide +kernel
theorem d_Mo_begins_3 : decode b_Mo_begins 3 = .ok (.aload_n 3, 1) := by decide +kernel
theorem d_Mo_begins_4 : decode b_Mo_begins 4 = .ok (.invokevirtual 1, 3) := by decide +kernel
theorem d_Mo_begins_7 : decode b_Mo_begins 7 = .ok (.if_icmp .lt 22, 3) := by decide +kernel
theorem d_Mo_begins_10 : decode b_Mo_begins 10 = .ok (.aload_n 0, 1) := by decide +kernel
theorem d_Mo_begins_11 : decode b_Mo_begins 11 = .ok (.iload_n 1, 1) := by decide +kernel
theorem d_Mo_begins_12 : decode b_Mo_begins 12 = .ok (.iload_n 1, 1) := by decide +kernel
theorem d_Mo_begins_13 : decode b_Mo_begins 13 = .ok (.aload_n 3, 1) := by decide +kernel
theorem d_Mo_begins_14 : decode b_Mo_begins 14 = .ok (.invokevirtual 1, 3) := by decide +kernel
theorem d_Mo_begins_17 : decode b_Mo_begins 17 = .ok (.iadd, 1) := by decide +kernel
theorem d_Mo_begins_18 : decode b_Mo_begins 18 = .ok (.aload_n 3, 1) := by decide +kernel
theorem d_Mo_begins_19 : decode b_Mo_begins 19 = .ok (.invokestatic 11, 3) := by decide +kernel
theorem d_Mo_begins_22 : decode b_Mo_begins 22 = .ok (.ifCond .eq 7, 3) := by decide +kernel
theorem d_Mo_begins_25 : decode b_Mo_begins 25 = .ok (.iconst 1, 1) := by decide +kernel
theorem d_Mo_begins_26 : decode b_Mo_begins 26 = .ok (.goto 4, 3) := by decide +kernel
theorem d_Mo_begins_29 : decode b_Mo_begins 29 = .ok (.iconst 0, 1) := by decide +kernel
theorem d_Mo_begins_30 : decode b_Mo_begins 30 = .ok (.ireturn, 1) := by decide +kernel
theorem d_Mo_bits_0 : decode b_Mo_bits 0 = .ok (.iload_n 2, 1) := by decide +kernel
theorem d_Mo_bits_1 : decode b_Mo_bits 1 = .ok (.iload_n 1, 1) := by decide +kernel
theorem d_Mo_bits_2 : decode b_Mo_bits 2 = .ok (.isub, 1) := by decide +kernel
theorem d_Mo_bits_3 : decode b_Mo_bits 3 = .ok (.i2l, 1) := by decide +kernel
theorem d_Mo_bits_4 : decode b_Mo_bits 4 = .ok (.lconst 1, 1) := by decide +kernel
theorem d_Mo_bits_5 : decode b_Mo_bits 5 = .ok (.ldc2_w 130, 3) := by decide +kernel
theorem d_Mo_bits_8 : decode b_Mo_bits 8 = .ok (.invokestatic 66, 3) := by decide +kernel
theorem d_Mo_bits_11 : decode b_Mo_bits 11 = .ok (.ifCond .ne 5, 3) := by decide +kernel
theorem d_Mo_bits_14 : decode b_Mo_bits 14 = .ok (.iconst (-1), 1) := by decide +kernel
theorem d_Mo_bits_15 : decode b_Mo_bits 15 = .ok (.ireturn, 1) := by decide +kernel
theorem d_Mo_bits_16 : decode b_Mo_bits 16 = .ok (.iconst 0, 1) := by decide +kernel
theorem d_Mo_bits_17 : decode b_Mo_bits 17 = .ok (.istore_n 3, 1) := by decide +kernel
theorem d_Mo_bits_18 : decode b_Mo_bits 18 = .ok (.iload_n 1, 1) := by decide +kernel
theorem d_Mo_bits_19 : decode b_Mo_bits 19 = .ok (.istore 4, 2) := by decide +kernel
theorem d_Mo_bits_21 : decode b_Mo_bits 21 = .ok (.iload 4, 2) := by decide +kernel
theorem d_Mo_bits_23 : decode b_Mo_bits 23 = .ok (.iload_n 2, 1) := by decide +kernel
theorem d_Mo_bits_24 : decode b_Mo_bits 24 = .ok (.if_icmp .ge 34, 3) := by decide +kernel
theorem d_Mo_bits_27 : decode b_Mo_bits 27 = .ok (.aload_n 0, 1) := by decide +kernel
theorem d_Mo_bits_28 : decode b_Mo_bits 28 = .ok (.iload 4, 2) := by decide +kernel
theorem d_Mo_bits_30 : decode b_Mo_bits 30 = .ok (.baload, 1) := by decide +kernel
theorem d_Mo_bits_31 : decode b_Mo_bits 31 = .ok (.invokestatic 102, 3) := by decide +kernel
theorem d_Mo_bits_34 : decode b_Mo_bits 34 = .ok (.ifCond .ne 5, 3) := by decide +kernel
theorem d_Mo_bits_37 : decode b_Mo_bits 37 = .ok (.iconst (-1), 1) := by decide +kernel
theorem d_Mo_bits_38 : decode b_Mo_bits 38 = .ok (.ireturn, 1) := by decide +kernel
theorem d_Mo_bits_39 : decode b_Mo_bits 39 = .ok (.bipush 10, 2) := by decide +kernel
theorem d_Mo_bits_41 : decode b_Mo_bits 41 = .ok (.iload_n 3, 1) := by decide +kernel
theorem d_Mo_bits_42 : decode b_Mo_bits 42 = .ok (.imul, 1) := by decide +kernel
theorem d_Mo_bits_43 : decode b_Mo_bits 43 = .ok (.aload_n 0, 1) := by decide +kernel
theorem d_Mo_bits_44 : decode b_Mo_bits 44 = .ok (.iload 4, 2) := by decide +kernel
theorem d_Mo_bits_46 : decode b_Mo_bits 46 = .ok (.baload, 1) := by decide +kernel
theorem d_Mo_bits_47 : decode b_Mo_bits 47 = .ok (.iadd, 1) := by decide +kernel
theorem d_Mo_bits_48 : decode b_Mo_bits 48 = .ok (.bipush 48, 2) := by decide +kernel
theorem d_Mo_bits_50 : decode b_Mo_bits 50 = .ok (.isub, 1) := by decide +kernel
theorem d_Mo_bits_51 : decode b_Mo_bits 51 = .ok (.istore_n 3, 1) := by decide +kernel
theorem d_Mo_bits_52 : decode b_Mo_bits 52 = .ok (.iinc 4 1, 3) := by decide +kernel
theorem d_Mo_bits_55 : decode b_Mo_bits 55 = .ok (.goto (-34), 3) := by decide +kernel
theorem d_Mo_bits_58 : decode b_Mo_bits 58 = .ok (.iload_n 3, 1) := by decide +kernel
theorem d_Mo_bits_59 : decode b_Mo_bits 59 = .ok (.bipush 32, 2) := by decide +kernel
theorem d_Mo_bits_61 : decode b_Mo_bits 61 = .ok (.if_icmp .gt 7, 3) := by decide +kernel
theorem d_Mo_bits_64 : decode b_Mo_bits 64 = .ok (.iload_n 3, 1) := by decide +kernel
theorem d_Mo_bits_65 : decode b_Mo_bits 65 = .ok (.goto 4, 3) := by decide +kernel
theorem d_Mo_bits_68 : decode b_Mo_bits 68 = .ok (.iconst (-1), 1) := by decide +kernel
theorem d_Mo_bits_69 : decode b_Mo_bits 69 = .ok (.ireturn, 1) := by decide +kernel
theorem d_Mo_blankFrom_0 : decode b_Mo_blankFrom 0 = .ok (.iload_n 1, 1) := by decide +kernel
theorem d_Mo_blankFrom_1 : decode b_Mo_blankFrom 1 = .ok (.istore_n 2, 1) := by decide +kernel
theorem d_Mo_blankFrom_2 : decode b_Mo_blankFrom 2 = .ok (.iload_n 2, 1) := by decide +kernel
theorem d_Mo_blankFrom_3 : decode b_Mo_blankFrom 3 = .ok (.aload_n 0, 1) := by decide +kernel
theorem d_Mo_blankFrom_4 : decode b_Mo_blankFrom 4 = .ok (.getfield 86, 3) := by decide +kernel
theorem d_Mo_blankFrom_7 : decode b_Mo_blankFrom 7 = .ok (.if_icmp .ge 20, 3) := by decide +kernel
theorem d_Mo_blankFrom_10 : decode b_Mo_blankFrom 10 = .ok (.aload_n 0, 1) := by decide +kernel
theorem d_Mo_blankFrom_11 : decode b_Mo_blankFrom 11 = .ok (.getfield 192, 3) := by decide +kernel
theorem d_Mo_blankFrom_14 : decode b_Mo_blankFrom 14 = .ok (.iload_n 2, 1) := by decide +kernel
theorem d_Mo_blankFrom_15 : decode b_Mo_blankFrom 15 = .ok (.baload, 1) := by decide +kernel
theorem d_Mo_blankFrom_16 : decode b_Mo_blankFrom 16 = .ok (.bipush 32, 2) := by decide +kernel
theorem d_Mo_blankFrom_18 : decode b_Mo_blankFrom 18 = .ok (.if_icmp .ne 9, 3) := by decide +kernel
theorem d_Mo_blankFrom_21 : decode b_Mo_blankFrom 21 = .ok (.iinc 2 1, 3) := by decide +kernel
theorem d_Mo_blankFrom_24 : decode b_Mo_blankFrom 24 = .ok (.goto (-22), 3) := by decide +kernel
theorem d_Mo_blankFrom_27 : decode b_Mo_blankFrom 27 = .ok (.iload_n 2, 1) := by decide +kernel
theorem d_Mo_blankFrom_28 : decode b_Mo_blankFrom 28 = .ok (.ireturn, 1) := by decide +kernel
theorem d_Mo_check_0 : decode b_Mo_check 0 = .ok (.aload_n 0, 1) := by decide +kernel
theorem d_Mo_check_1 : decode b_Mo_check 1 = .ok (.aload_n 1, 1) := by decide +kernel
theorem d_Mo_check_2 : decode b_Mo_check 2 = .ok (.invokevirtual 208, 3) := by decide +kernel
theorem d_Mo_check_5 : decode b_Mo_check 5 = .ok (.ifCond .eq 5, 3) := by decide +kernel
theorem d_Mo_check_8 : decode b_Mo_check 8 = .ok (.iconst 5, 1) := by decide +kernel
theorem d_Mo_check_9 : decode b_Mo_check 9 = .ok (.ireturn, 1) := by decide +kernel
theorem d_Mo_check_10 : decode b_Mo_check 10 = .ok (.aload_n 0, 1) := by decide +kernel
theorem d_Mo_check_11 : decode b_Mo_check 11 = .ok (.aload_n 1, 1) := by decide +kernel
theorem d_Mo_check_12 : decode b_Mo_check 12 = .ok (.invokevirtual 211, 3) := by decide +kernel
theorem d_Mo_check_15 : decode b_Mo_check 15 = .ok (.istore_n 3, 1) := by decide +kernel
theorem d_Mo_check_16 : decode b_Mo_check 16 = .ok (.iload_n 3, 1) := by decide +kernel
theorem d_Mo_check_17 : decode b_Mo_check 17 = .ok (.ifCond .ge 15, 3) := by decide +kernel
theorem d_Mo_check_20 : decode b_Mo_check 20 = .ok (.iload_n 3, 1) := by decide +kernel
theorem d_Mo_check_21 : decode b_Mo_check 21 = .ok (.iconst (-1), 1) := by decide +kernel
theorem d_Mo_check_22 : decode b_Mo_check 22 = .ok (.if_icmp .ne 7, 3) := by decide +kernel
theorem d_Mo_check_25 : decode b_Mo_check 25 = .ok (.iconst 0, 1) := by decide +kernel
theorem d_Mo_check_26 : decode b_Mo_check 26 = .ok (.goto 5, 3) := by decide +kernel
theorem d_Mo_check_29 : decode b_Mo_check 29 = .ok (.bipush 6, 2) := by decide +kernel
theorem d_Mo_check_31 : decode b_Mo_check 31 = .ok (.ireturn, 1) := by decide +kernel
theorem d_Mo_check_32 : decode b_Mo_check 32 = .ok (.aload_n 0, 1) := by decide +kernel
theorem d_Mo_check_33 : decode b_Mo_check 33 = .ok (.getfield 47, 3) := by decide +kernel
theorem d_Mo_check_36 : decode b_Mo_check 36 = .ok (.iload_n 3, 1) := by decide +kernel
theorem d_Mo_check_37 : decode b_Mo_check 37 = .ok (.aaload, 1) := by decide +kernel
theorem d_Mo_check_38 : decode b_Mo_check 38 = .ok (.astore 4, 2) := by decide +kernel
theorem d_Mo_check_40 : decode b_Mo_check 40 = .ok (.iconst 0, 1) := by decide +kernel
theorem d_Mo_check_41 : decode b_Mo_check 41 = .ok (.istore 5, 2) := by decide +kernel
theorem d_Mo_check_43 : decode b_Mo_check 43 = .ok (.iconst (-1), 1) := by decide +kernel
theorem d_Mo_check_44 : decode b_Mo_check 44 = .ok (.istore 6, 2) := by decide +kernel
theorem d_Mo_check_46 : decode b_Mo_check 46 = .ok (.aload 4, 2) := by decide +kernel
theorem d_Mo_check_48 : decode b_Mo_check 48 = .ok (.bipush 6, 2) := by decide +kernel
theorem d_Mo_check_50 : decode b_Mo_check 50 = .ok (.invokestatic 215, 3) := by decide +kernel
theorem d_Mo_check_53 : decode b_Mo_check 53 = .ok (.istore 7, 2) := by decide +kernel
theorem d_Mo_check_55 : decode b_Mo_check 55 = .ok (.iload 7, 2) := by decide +kernel
theorem d_Mo_check_57 : decode b_Mo_check 57 = .ok (.aload 4, 2) := by decide +kernel
theorem d_Mo_check_59 : decode b_Mo_check 59 = .ok (.getfield 86, 3) := by decide +kernel
theorem d_Mo_check_62 : decode b_Mo_check 62 = .ok (.if_icmp .ge 94, 3) := by decide +kernel
theorem d_Mo_check_65 : decode b_Mo_check 65 = .ok (.aload_n 0, 1) := by decide +kernel
theorem d_Mo_check_66 : decode b_Mo_check 66 = .ok (.aload 4, 2) := by decide +kernel
theorem d_Mo_check_68 : decode b_Mo_check 68 = .ok (.getfield 192, 3) := by decide +kernel
theorem d_Mo_check_71 : decode b_Mo_check 71 = .ok (.iload 7, 2) := by decide +kernel
theorem d_Mo_check_73 : decode b_Mo_check 73 = .ok (.aload 4, 2) := by decide +kernel
theorem d_Mo_check_75 : decode b_Mo_check 75 = .ok (.iload 7, 2) := by decide +kernel
theorem d_Mo_check_77 : decode b_Mo_check 77 = .ok (.invokestatic 218, 3) := by decide +kernel
theorem d_Mo_check_80 : decode b_Mo_check 80 = .ok (.invokevirtual 221, 3) := by decide +kernel
theorem d_Mo_check_83 : decode b_Mo_check 83 = .ok (.aload_n 0, 1) := by decide +kernel
theorem d_Mo_check_84 : decode b_Mo_check 84 = .ok (.getfield 138, 3) := by decide +kernel
theorem d_Mo_check_87 : decode b_Mo_check 87 = .ok (.bipush 8, 2) := by decide +kernel
theorem d_Mo_check_89 : decode b_Mo_check 89 = .ok (.if_icmp .eq 17, 3) := by decide +kernel
theorem d_Mo_check_92 : decode b_Mo_check 92 = .ok (.aload_n 0, 1) := by decide +kernel
theorem d_Mo_check_93 : decode b_Mo_check 93 = .ok (.getfield 138, 3) := by decide +kernel
theorem d_Mo_check_96 : decode b_Mo_check 96 = .ok (.bipush 6, 2) := by decide +kernel
theorem d_Mo_check_98 : decode b_Mo_check 98 = .ok (.if_icmp .ne 11, 3) := by decide +kernel
theorem d_Mo_check_101 : decode b_Mo_check 101 = .ok (.iload 6, 2) := by decide +kernel
theorem d_Mo_check_103 : decode b_Mo_check 103 = .ok (.ifCond .lt 6, 3) := by decide +kernel
theorem d_Mo_check_106 : decode b_Mo_check 106 = .ok (.bipush 6, 2) := by decide +kernel
theorem d_Mo_check_108 : decode b_Mo_check 108 = .ok (.ireturn, 1) := by decide +kernel
theorem d_Mo_check_109 : decode b_Mo_check 109 = .ok (.aload_n 0, 1) := by decide +kernel
theorem d_Mo_check_110 : decode b_Mo_check 110 = .ok (.getfield 138, 3) := by decide +kernel
theorem d_Mo_check_113 : decode b_Mo_check 113 = .ok (.bipush 6, 2) := by decide +kernel
theorem d_Mo_check_115 : decode b_Mo_check 115 = .ok (.if_icmp .ne 7, 3) := by decide +kernel
theorem d_Mo_check_118 : decode b_Mo_check 118 = .ok (.iload 7, 2) := by decide +kernel
theorem d_Mo_check_120 : decode b_Mo_check 120 = .ok (.istore 6, 2) := by decide +kernel
theorem d_Mo_check_122 : decode b_Mo_check 122 = .ok (.iload 5, 2) := by decide +kernel
theorem d_Mo_check_124 : decode b_Mo_check 124 = .ok (.aload_n 0, 1) := by decide +kernel
theorem d_Mo_check_125 : decode b_Mo_check 125 = .ok (.getfield 138, 3) := by decide +kernel
theorem d_Mo_check_128 : decode b_Mo_check 128 = .ok (.ifCond .ne 7, 3) := by decide +kernel
theorem d_Mo_check_131 : decode b_Mo_check 131 = .ok (.iconst 1, 1) := by decide +kernel
theorem d_Mo_check_132 : decode b_Mo_check 132 = .ok (.goto 4, 3) := by decide +kernel
theorem d_Mo_check_135 : decode b_Mo_check 135 = .ok (.iconst 0, 1) := by decide +kernel
theorem d_Mo_check_136 : decode b_Mo_check 136 = .ok (.ior, 1) := by decide +kernel
theorem d_Mo_check_137 : decode b_Mo_check 137 = .ok (.istore 5, 2) := by decide +kernel
theorem d_Mo_check_139 : decode b_Mo_check 139 = .ok (.aload 4, 2) := by decide +kernel
theorem d_Mo_check_141 : decode b_Mo_check 141 = .ok (.aload 4, 2) := by decide +kernel
theorem d_Mo_check_143 : decode b_Mo_check 143 = .ok (.iload 7, 2) := by decide +kernel
theorem d_Mo_check_145 : decode b_Mo_check 145 = .ok (.invokestatic 218, 3) := by decide +kernel
theorem d_Mo_check_148 : decode b_Mo_check 148 = .ok (.invokestatic 215, 3) := by decide +kernel
theorem d_Mo_check_151 : decode b_Mo_check 151 = .ok (.istore 7, 2) := by decide +kernel
theorem d_Mo_check_153 : decode b_Mo_check 153 = .ok (.goto (-98), 3) := by decide +kernel
theorem d_Mo_check_156 : decode b_Mo_check 156 = .ok (.aload 4, 2) := by decide +kernel
theorem d_Mo_check_158 : decode b_Mo_check 158 = .ok (.bipush 6, 2) := by decide +kernel
theorem d_Mo_check_160 : decode b_Mo_check 160 = .ok (.invokestatic 215, 3) := by decide +kernel
theorem d_Mo_check_163 : decode b_Mo_check 163 = .ok (.istore 7, 2) := by decide +kernel
theorem d_Mo_check_165 : decode b_Mo_check 165 = .ok (.iload 7, 2) := by decide +kernel
theorem d_Mo_check_167 : decode b_Mo_check 167 = .ok (.aload 4, 2) := by decide +kernel
theorem d_Mo_check_169 : decode b_Mo_check 169 = .ok (.getfield 86, 3) := by decide +kernel
theorem d_Mo_check_172 : decode b_Mo_check 172 = .ok (.if_icmp .ge 116, 3) := by decide +kernel
theorem d_Mo_check_175 : decode b_Mo_check 175 = .ok (.aload_n 0, 1) := by decide +kernel
theorem d_Mo_check_176 : decode b_Mo_check 176 = .ok (.aload 4, 2) := by decide +kernel
theorem d_Mo_check_178 : decode b_Mo_check 178 = .ok (.getfield 192, 3) := by decide +kernel
theorem d_Mo_check_181 : decode b_Mo_check 181 = .ok (.iload 7, 2) := by decide +kernel
theorem d_Mo_check_183 : decode b_Mo_check 183 = .ok (.aload 4, 2) := by decide +kernel
theorem d_Mo_check_185 : decode b_Mo_check 185 = .ok (.iload 7, 2) := by decide +kernel
theorem d_Mo_check_187 : decode b_Mo_check 187 = .ok (.invokestatic 218, 3) := by decide +kernel
theorem d_Mo_check_190 : decode b_Mo_check 190 = .ok (.invokevirtual 221, 3) := by decide +kernel
theorem d_Mo_check_193 : decode b_Mo_check 193 = .ok (.aload_n 0, 1) := by decide +kernel
theorem d_Mo_check_194 : decode b_Mo_check 194 = .ok (.getfield 138, 3) := by decide +kernel
theorem d_Mo_check_197 : decode b_Mo_check 197 = .ok (.bipush 6, 2) := by decide +kernel
theorem d_Mo_check_199 : decode b_Mo_check 199 = .ok (.if_icmp .lt 6, 3) := by decide +kernel
theorem d_Mo_check_202 : decode b_Mo_check 202 = .ok (.goto 69, 3) := by decide +kernel
theorem d_Mo_check_205 : decode b_Mo_check 205 = .ok (.aload_n 0, 1) := by decide +kernel
theorem d_Mo_check_206 : decode b_Mo_check 206 = .ok (.getfield 135, 3) := by decide +kernel
theorem d_Mo_check_209 : decode b_Mo_check 209 = .ok (.istore 8, 2) := by decide +kernel
theorem d_Mo_check_211 : decode b_Mo_check 211 = .ok (.aload_n 0, 1) := by decide +kernel
theorem d_Mo_check_212 : decode b_Mo_check 212 = .ok (.aload 4, 2) := by decide +kernel
theorem d_Mo_check_214 : decode b_Mo_check 214 = .ok (.aload_n 1, 1) := by decide +kernel
theorem d_Mo_check_215 : decode b_Mo_check 215 = .ok (.iload_n 2, 1) := by decide +kernel
theorem d_Mo_check_216 : decode b_Mo_check 216 = .ok (.invokevirtual 224, 3) := by decide +kernel
theorem d_Mo_check_219 : decode b_Mo_check 219 = .ok (.istore 9, 2) := by decide +kernel
theorem d_Mo_check_221 : decode b_Mo_check 221 = .ok (.iload 9, 2) := by decide +kernel
theorem d_Mo_check_223 : decode b_Mo_check 223 = .ok (.iconst 1, 1) := by decide +kernel
theorem d_Mo_check_224 : decode b_Mo_check 224 = .ok (.if_icmp .le 6, 3) := by decide +kernel
theorem d_Mo_check_227 : decode b_Mo_check 227 = .ok (.iload 9, 2) := by decide +kernel
theorem d_Mo_check_229 : decode b_Mo_check 229 = .ok (.ireturn, 1) := by decide +kernel
theorem d_Mo_check_230 : decode b_Mo_check 230 = .ok (.iload 9, 2) := by decide +kernel
theorem d_Mo_check_232 : decode b_Mo_check 232 = .ok (.iconst 1, 1) := by decide +kernel
theorem d_Mo_check_233 : decode b_Mo_check 233 = .ok (.if_icmp .ne 38, 3) := by decide +kernel
theorem d_Mo_check_236 : decode b_Mo_check 236 = .ok (.iload 8, 2) := by decide +kernel
theorem d_Mo_check_238 : decode b_Mo_check 238 = .ok (.bipush 43, 2) := by decide +kernel
theorem d_Mo_check_240 : decode b_Mo_check 240 = .ok (.if_icmp .ne 7, 3) := by decide +kernel
theorem d_Mo_check_243 : decode b_Mo_check 243 = .ok (.iconst 2, 1) := by decide +kernel
theorem d_Mo_check_244 : decode b_Mo_check 244 = .ok (.goto 26, 3) := by decide +kernel
theorem d_Mo_check_247 : decode b_Mo_check 247 = .ok (.iload 8, 2) := by decide +kernel
theorem d_Mo_check_249 : decode b_Mo_check 249 = .ok (.bipush 63, 2) := by decide +kernel
theorem d_Mo_check_251 : decode b_Mo_check 251 = .ok (.if_icmp .ne 7, 3) := by decide +kernel
theorem d_Mo_check_254 : decode b_Mo_check 254 = .ok (.iconst 1, 1) := by decide +kernel
theorem d_Mo_check_255 : decode b_Mo_check 255 = .ok (.goto 15, 3) := by decide +kernel
theorem d_Mo_check_258 : decode b_Mo_check 258 = .ok (.iload 8, 2) := by decide +kernel
theorem d_Mo_check_260 : decode b_Mo_check 260 = .ok (.bipush 126, 2) := by decide +kernel
theorem d_Mo_check_262 : decode b_Mo_check 262 = .ok (.if_icmp .ne 7, 3) := by decide +kernel
theorem d_Mo_check_265 : decode b_Mo_check 265 = .ok (.iconst 4, 1) := by decide +kernel
theorem d_Mo_check_266 : decode b_Mo_check 266 = .ok (.goto 4, 3) := by decide +kernel
theorem d_Mo_check_269 : decode b_Mo_check 269 = .ok (.iconst 3, 1) := by decide +kernel
theorem d_Mo_check_270 : decode b_Mo_check 270 = .ok (.ireturn, 1) := by decide +kernel
theorem d_Mo_check_271 : decode b_Mo_check 271 = .ok (.aload 4, 2) := by decide +kernel
theorem d_Mo_check_273 : decode b_Mo_check 273 = .ok (.aload 4, 2) := by decide +kernel
theorem d_Mo_check_275 : decode b_Mo_check 275 = .ok (.iload 7, 2) := by decide +kernel
theorem d_Mo_check_277 : decode b_Mo_check 277 = .ok (.invokestatic 218, 3) := by decide +kernel
theorem d_Mo_check_280 : decode b_Mo_check 280 = .ok (.invokestatic 215, 3) := by decide +kernel
theorem d_Mo_check_283 : decode b_Mo_check 283 = .ok (.istore 7, 2) := by decide +kernel
theorem d_Mo_check_285 : decode b_Mo_check 285 = .ok (.goto (-120), 3) := by decide +kernel
theorem d_Mo_check_288 : decode b_Mo_check 288 = .ok (.iload 6, 2) := by decide +kernel
theorem d_Mo_check_290 : decode b_Mo_check 290 = .ok (.ifCond .lt 8, 3) := by decide +kernel
theorem d_Mo_check_293 : decode b_Mo_check 293 = .ok (.iload 5, 2) := by decide +kernel
theorem d_Mo_check_295 : decode b_Mo_check 295 = .ok (.ifCond .eq 5, 3) := by decide +kernel
theorem d_Mo_check_298 : decode b_Mo_check 298 = .ok (.iconst 1, 1) := by decide +kernel
theorem d_Mo_check_299 : decode b_Mo_check 299 = .ok (.ireturn, 1) := by decide +kernel
theorem d_Mo_check_300 : decode b_Mo_check 300 = .ok (.aload_n 0, 1) := by decide +kernel
theorem d_Mo_check_301 : decode b_Mo_check 301 = .ok (.aload 4, 2) := by decide +kernel
theorem d_Mo_check_303 : decode b_Mo_check 303 = .ok (.getfield 192, 3) := by decide +kernel
theorem d_Mo_check_306 : decode b_Mo_check 306 = .ok (.iload 6, 2) := by decide +kernel
theorem d_Mo_check_308 : decode b_Mo_check 308 = .ok (.aload 4, 2) := by decide +kernel
theorem d_Mo_check_310 : decode b_Mo_check 310 = .ok (.iload 6, 2) := by decide +kernel
theorem d_Mo_check_312 : decode b_Mo_check 312 = .ok (.invokestatic 218, 3) := by decide +kernel
theorem d_Mo_check_315 : decode b_Mo_check 315 = .ok (.invokevirtual 221, 3) := by decide +kernel
theorem d_Mo_check_318 : decode b_Mo_check 318 = .ok (.aload_n 0, 1) := by decide +kernel
theorem d_Mo_check_319 : decode b_Mo_check 319 = .ok (.dup, 1) := by decide +kernel
theorem d_Mo_check_320 : decode b_Mo_check 320 = .ok (.getfield 112, 3) := by decide +kernel
theorem d_Mo_check_323 : decode b_Mo_check 323 = .ok (.iconst 1, 1) := by decide +kernel
theorem d_Mo_check_324 : decode b_Mo_check 324 = .ok (.iadd, 1) := by decide +kernel
theorem d_Mo_check_325 : decode b_Mo_check 325 = .ok (.putfield 112, 3) := by decide +kernel
theorem d_Mo_check_328 : decode b_Mo_check 328 = .ok (.aload_n 0, 1) := by decide +kernel
theorem d_Mo_check_329 : decode b_Mo_check 329 = .ok (.getfield 112, 3) := by decide +kernel
theorem d_Mo_check_332 : decode b_Mo_check 332 = .ok (.bipush 10, 2) := by decide +kernel
theorem d_Mo_check_334 : decode b_Mo_check 334 = .ok (.if_icmp .le 6, 3) := by decide +kernel
theorem d_Mo_check_337 : decode b_Mo_check 337 = .ok (.bipush 6, 2) := by decide +kernel
theorem d_Mo_check_339 : decode b_Mo_check 339 = .ok (.ireturn, 1) := by decide +kernel
theorem d_Mo_check_340 : decode b_Mo_check 340 = .ok (.aload_n 0, 1) := by decide +kernel
theorem d_Mo_check_341 : decode b_Mo_check 341 = .ok (.aload 4, 2) := by decide +kernel
theorem d_Mo_check_343 : decode b_Mo_check 343 = .ok (.getfield 192, 3) := by decide +kernel
theorem d_Mo_check_346 : decode b_Mo_check 346 = .ok (.aload_n 0, 1) := by decide +kernel
theorem d_Mo_check_347 : decode b_Mo_check 347 = .ok (.getfield 141, 3) := by decide +kernel
theorem d_Mo_check_350 : decode b_Mo_check 350 = .ok (.aload_n 0, 1) := by decide +kernel
theorem d_Mo_check_351 : decode b_Mo_check 351 = .ok (.getfield 144, 3) := by decide +kernel
theorem d_Mo_check_354 : decode b_Mo_check 354 = .ok (.aload_n 1, 1) := by decide +kernel
theorem d_Mo_check_355 : decode b_Mo_check 355 = .ok (.aload_n 0, 1) := by decide +kernel
theorem d_Mo_check_356 : decode b_Mo_check 356 = .ok (.getfield 56, 3) := by decide +kernel
theorem d_Mo_check_359 : decode b_Mo_check 359 = .ok (.iload_n 2, 1) := by decide +kernel
theorem d_Mo_check_360 : decode b_Mo_check 360 = .ok (.aaload, 1) := by decide +kernel
theorem d_Mo_check_361 : decode b_Mo_check 361 = .ok (.invokevirtual 228, 3) := by decide +kernel
theorem d_Mo_check_364 : decode b_Mo_check 364 = .ok (.aload_n 0, 1) := by decide +kernel
theorem d_Mo_check_365 : decode b_Mo_check 365 = .ok (.aload_n 0, 1) := by decide +kernel
theorem d_Mo_check_366 : decode b_Mo_check 366 = .ok (.getfield 56, 3) := by decide +kernel
theorem d_Mo_check_369 : decode b_Mo_check 369 = .ok (.iload_n 2, 1) := by decide +kernel
theorem d_Mo_check_370 : decode b_Mo_check 370 = .ok (.aaload, 1) := by decide +kernel
theorem d_Mo_check_371 : decode b_Mo_check 371 = .ok (.iload_n 2, 1) := by decide +kernel
theorem d_Mo_check_372 : decode b_Mo_check 372 = .ok (.iconst 1, 1) := by decide +kernel
theorem d_Mo_check_373 : decode b_Mo_check 373 = .ok (.iadd, 1) := by decide +kernel
theorem d_Mo_check_374 : decode b_Mo_check 374 = .ok (.invokevirtual 118, 3) := by decide +kernel
theorem d_Mo_check_377 : decode b_Mo_check 377 = .ok (.istore 7, 2) := by decide +kernel
theorem d_Mo_check_379 : decode b_Mo_check 379 = .ok (.iload 7, 2) := by decide +kernel
theorem d_Mo_check_381 : decode b_Mo_check 381 = .ok (.ifCond .ne 8, 3) := by decide +kernel
theorem d_Mo_check_384 : decode b_Mo_check 384 = .ok (.bipush 6, 2) := by decide +kernel
theorem d_Mo_check_386 : decode b_Mo_check 386 = .ok (.goto 5, 3) := by decide +kernel
theorem d_Mo_check_389 : decode b_Mo_check 389 = .ok (.iload 7, 2) := by decide +kernel
theorem d_Mo_check_391 : decode b_Mo_check 391 = .ok (.ireturn, 1) := by decide +kernel
theorem d_Mo_cost_0 : decode b_Mo_cost 0 = .ok (.iload_n 1, 1) := by decide +kernel
theorem d_Mo_cost_1 : decode b_Mo_cost 1 = .ok (.ifCond .ne 10, 3) := by decide +kernel
theorem d_Mo_cost_4 : decode b_Mo_cost 4 = .ok (.aload_n 0, 1) := by decide +kernel
theorem d_Mo_cost_5 : decode b_Mo_cost 5 = .ok (.getfield 112, 3) := by decide +kernel
theorem d_Mo_cost_8 : decode b_Mo_cost 8 = .ok (.goto 16, 3) := by decide +kernel
theorem d_Mo_cost_11 : decode b_Mo_cost 11 = .ok (.iload_n 1, 1) := by decide +kernel
theorem d_Mo_cost_12 : decode b_Mo_cost 12 = .ok (.iconst 1, 1) := by decide +kernel
theorem d_Mo_cost_13 : decode b_Mo_cost 13 = .ok (.if_icmp .ne 10, 3) := by decide +kernel
theorem d_Mo_cost_16 : decode b_Mo_cost 16 = .ok (.aload_n 0, 1) := by decide +kernel
theorem d_Mo_cost_17 : decode b_Mo_cost 17 = .ok (.getfield 115, 3) := by decide +kernel
theorem d_Mo_cost_20 : decode b_Mo_cost 20 = .ok (.goto 4, 3) := by decide +kernel
theorem d_Mo_cost_23 : decode b_Mo_cost 23 = .ok (.iconst (-1), 1) := by decide +kernel
theorem d_Mo_cost_24 : decode b_Mo_cost 24 = .ok (.ireturn, 1) := by decide +kernel
theorem d_Mo_end_0 : decode b_Mo_end 0 = .ok (.iload_n 1, 1) := by decide +kernel
theorem d_Mo_end_1 : decode b_Mo_end 1 = .ok (.i2l, 1) := by decide +kernel
theorem d_Mo_end_2 : decode b_Mo_end 2 = .ok (.lconst 0, 1) := by decide +kernel
theorem d_Mo_end_3 : decode b_Mo_end 3 = .ok (.aload_n 0, 1) := by decide +kernel
theorem d_Mo_end_4 : decode b_Mo_end 4 = .ok (.getfield 62, 3) := by decide +kernel
theorem d_Mo_end_7 : decode b_Mo_end 7 = .ok (.i2l, 1) := by decide +kernel
theorem d_Mo_end_8 : decode b_Mo_end 8 = .ok (.invokestatic 66, 3) := by decide +kernel
theorem d_Mo_end_11 : decode b_Mo_end 11 = .ok (.ifCond .ne 5, 3) := by decide +kernel
theorem d_Mo_end_14 : decode b_Mo_end 14 = .ok (.iconst (-1), 1) := by decide +kernel
theorem d_Mo_end_15 : decode b_Mo_end 15 = .ok (.ireturn, 1) := by decide +kernel
theorem d_Mo_end_16 : decode b_Mo_end 16 = .ok (.aload_n 0, 1) := by decide +kernel
theorem d_Mo_end_17 : decode b_Mo_end 17 = .ok (.iload_n 1, 1) := by decide +kernel
theorem d_Mo_end_18 : decode b_Mo_end 18 = .ok (.putfield 62, 3) := by decide +kernel
theorem d_Mo_end_21 : decode b_Mo_end 21 = .ok (.iload_n 1, 1) := by decide +kernel
theorem d_Mo_end_22 : decode b_Mo_end 22 = .ok (.ireturn, 1) := by decide +kernel
theorem d_Mo_entry_0 : decode b_Mo_entry 0 = .ok (.aload_n 0, 1) := by decide +kernel
theorem d_Mo_entry_1 : decode b_Mo_entry 1 = .ok (.invokevirtual 70, 3) := by decide +kernel
theorem d_Mo_entry_4 : decode b_Mo_entry 4 = .ok (.istore_n 3, 1) := by decide +kernel
theorem d_Mo_entry_5 : decode b_Mo_entry 5 = .ok (.iconst 0, 1) := by decide +kernel
theorem d_Mo_entry_6 : decode b_Mo_entry 6 = .ok (.istore 4, 2) := by decide +kernel
theorem d_Mo_entry_8 : decode b_Mo_entry 8 = .ok (.aload_n 0, 1) := by decide +kernel
theorem d_Mo_entry_9 : decode b_Mo_entry 9 = .ok (.getfield 73, 3) := by decide +kernel
theorem d_Mo_entry_12 : decode b_Mo_entry 12 = .ok (.bipush 40, 2) := by decide +kernel
theorem d_Mo_entry_14 : decode b_Mo_entry 14 = .ok (.if_icmp .ne 6, 3) := by decide +kernel
theorem d_Mo_entry_17 : decode b_Mo_entry 17 = .ok (.bipush (-3), 2) := by decide +kernel
theorem d_Mo_entry_19 : decode b_Mo_entry 19 = .ok (.ireturn, 1) := by decide +kernel
theorem d_Mo_entry_20 : decode b_Mo_entry 20 = .ok (.iload_n 1, 1) := by decide +kernel
theorem d_Mo_entry_21 : decode b_Mo_entry 21 = .ok (.i2l, 1) := by decide +kernel
theorem d_Mo_entry_22 : decode b_Mo_entry 22 = .ok (.lconst 0, 1) := by decide +kernel
theorem d_Mo_entry_23 : decode b_Mo_entry 23 = .ok (.ldc2_w 76, 3) := by decide +kernel
theorem d_Mo_entry_26 : decode b_Mo_entry 26 = .ok (.invokestatic 66, 3) := by decide +kernel
theorem d_Mo_entry_29 : decode b_Mo_entry 29 = .ok (.ifCond .ne 5, 3) := by decide +kernel
theorem d_Mo_entry_32 : decode b_Mo_entry 32 = .ok (.iconst (-1), 1) := by decide +kernel
theorem d_Mo_entry_33 : decode b_Mo_entry 33 = .ok (.ireturn, 1) := by decide +kernel
theorem d_Mo_entry_34 : decode b_Mo_entry 34 = .ok (.iload_n 1, 1) := by decide +kernel
theorem d_Mo_entry_35 : decode b_Mo_entry 35 = .ok (.ifCond .eq 8, 3) := by decide +kernel
theorem d_Mo_entry_38 : decode b_Mo_entry 38 = .ok (.iload_n 1, 1) := by decide +kernel
theorem d_Mo_entry_39 : decode b_Mo_entry 39 = .ok (.iconst 2, 1) := by decide +kernel
theorem d_Mo_entry_40 : decode b_Mo_entry 40 = .ok (.if_icmp .ne 7, 3) := by decide +kernel
theorem d_Mo_entry_43 : decode b_Mo_entry 43 = .ok (.iconst 1, 1) := by decide +kernel
theorem d_Mo_entry_44 : decode b_Mo_entry 44 = .ok (.goto 4, 3) := by decide +kernel
theorem d_Mo_entry_47 : decode b_Mo_entry 47 = .ok (.iconst 0, 1) := by decide +kernel
theorem d_Mo_entry_48 : decode b_Mo_entry 48 = .ok (.istore 5, 2) := by decide +kernel
theorem d_Mo_entry_50 : decode b_Mo_entry 50 = .ok (.iload 5, 2) := by decide +kernel
theorem d_Mo_entry_52 : decode b_Mo_entry 52 = .ok (.ifCond .eq 27, 3) := by decide +kernel
theorem d_Mo_entry_55 : decode b_Mo_entry 55 = .ok (.iload 4, 2) := by decide +kernel
theorem d_Mo_entry_57 : decode b_Mo_entry 57 = .ok (.iload_n 3, 1) := by decide +kernel
theorem d_Mo_entry_58 : decode b_Mo_entry 58 = .ok (.if_icmp .ge 21, 3) := by decide +kernel
theorem d_Mo_entry_61 : decode b_Mo_entry 61 = .ok (.aload_n 0, 1) := by decide +kernel
theorem d_Mo_entry_62 : decode b_Mo_entry 62 = .ok (.getfield 23, 3) := by decide +kernel
theorem d_Mo_entry_65 : decode b_Mo_entry 65 = .ok (.iload 4, 2) := by decide +kernel
theorem d_Mo_entry_67 : decode b_Mo_entry 67 = .ok (.baload, 1) := by decide +kernel
theorem d_Mo_entry_68 : decode b_Mo_entry 68 = .ok (.bipush 32, 2) := by decide +kernel
theorem d_Mo_entry_70 : decode b_Mo_entry 70 = .ok (.if_icmp .eq 9, 3) := by decide +kernel
theorem d_Mo_entry_73 : decode b_Mo_entry 73 = .ok (.iinc 4 1, 3) := by decide +kernel
theorem d_Mo_entry_76 : decode b_Mo_entry 76 = .ok (.goto (-26), 3) := by decide +kernel
theorem d_Mo_entry_79 : decode b_Mo_entry 79 = .ok (.iload 5, 2) := by decide +kernel
theorem d_Mo_entry_81 : decode b_Mo_entry 81 = .ok (.ifCond .eq 8, 3) := by decide +kernel
theorem d_Mo_entry_84 : decode b_Mo_entry 84 = .ok (.iload 4, 2) := by decide +kernel
theorem d_Mo_entry_86 : decode b_Mo_entry 86 = .ok (.goto 4, 3) := by decide +kernel
theorem d_Mo_entry_89 : decode b_Mo_entry 89 = .ok (.iload_n 3, 1) := by decide +kernel
theorem d_Mo_entry_90 : decode b_Mo_entry 90 = .ok (.istore 6, 2) := by decide +kernel
theorem d_Mo_entry_92 : decode b_Mo_entry 92 = .ok (.iload 5, 2) := by decide +kernel
theorem d_Mo_entry_94 : decode b_Mo_entry 94 = .ok (.ifCond .eq 9, 3) := by decide +kernel
theorem d_Mo_entry_97 : decode b_Mo_entry 97 = .ok (.iload 4, 2) := by decide +kernel
theorem d_Mo_entry_99 : decode b_Mo_entry 99 = .ok (.iload_n 3, 1) := by decide +kernel
theorem d_Mo_entry_100 : decode b_Mo_entry 100 = .ok (.if_icmp .eq 16, 3) := by decide +kernel
theorem d_Mo_entry_103 : decode b_Mo_entry 103 = .ok (.aload_n 0, 1) := by decide +kernel
theorem d_Mo_entry_104 : decode b_Mo_entry 104 = .ok (.getfield 23, 3) := by decide +kernel
theorem d_Mo_entry_107 : decode b_Mo_entry 107 = .ok (.iconst 0, 1) := by decide +kernel
theorem d_Mo_entry_108 : decode b_Mo_entry 108 = .ok (.iload 6, 2) := by decide +kernel
theorem d_Mo_entry_110 : decode b_Mo_entry 110 = .ok (.invokestatic 78, 3) := by decide +kernel
theorem d_Mo_entry_113 : decode b_Mo_entry 113 = .ok (.ifCond .ne 5, 3) := by decide +kernel
theorem d_Mo_entry_116 : decode b_Mo_entry 116 = .ok (.iconst (-1), 1) := by decide +kernel
theorem d_Mo_entry_117 : decode b_Mo_entry 117 = .ok (.ireturn, 1) := by decide +kernel
theorem d_Mo_entry_118 : decode b_Mo_entry 118 = .ok (.iload_n 1, 1) := by decide +kernel
theorem d_Mo_entry_119 : decode b_Mo_entry 119 = .ok (.iconst 2, 1) := by decide +kernel
theorem d_Mo_entry_120 : decode b_Mo_entry 120 = .ok (.if_icmp .ne 18, 3) := by decide +kernel
theorem d_Mo_entry_123 : decode b_Mo_entry 123 = .ok (.aload_n 0, 1) := by decide +kernel
theorem d_Mo_entry_124 : decode b_Mo_entry 124 = .ok (.getfield 23, 3) := by decide +kernel
theorem d_Mo_entry_127 : decode b_Mo_entry 127 = .ok (.iload 4, 2) := by decide +kernel
theorem d_Mo_entry_129 : decode b_Mo_entry 129 = .ok (.iconst 1, 1) := by decide +kernel
theorem d_Mo_entry_130 : decode b_Mo_entry 130 = .ok (.iadd, 1) := by decide +kernel
theorem d_Mo_entry_131 : decode b_Mo_entry 131 = .ok (.iload_n 3, 1) := by decide +kernel
theorem d_Mo_entry_132 : decode b_Mo_entry 132 = .ok (.invokestatic 78, 3) := by decide +kernel
theorem d_Mo_entry_135 : decode b_Mo_entry 135 = .ok (.ifCond .eq 19, 3) := by decide +kernel
theorem d_Mo_entry_138 : decode b_Mo_entry 138 = .ok (.iload_n 1, 1) := by decide +kernel
theorem d_Mo_entry_139 : decode b_Mo_entry 139 = .ok (.ifCond .ne 17, 3) := by decide +kernel
theorem d_Mo_entry_142 : decode b_Mo_entry 142 = .ok (.iload_n 3, 1) := by decide +kernel
theorem d_Mo_entry_143 : decode b_Mo_entry 143 = .ok (.iload 4, 2) := by decide +kernel
theorem d_Mo_entry_145 : decode b_Mo_entry 145 = .ok (.isub, 1) := by decide +kernel
theorem d_Mo_entry_146 : decode b_Mo_entry 146 = .ok (.iconst 1, 1) := by decide +kernel
theorem d_Mo_entry_147 : decode b_Mo_entry 147 = .ok (.isub, 1) := by decide +kernel
theorem d_Mo_entry_148 : decode b_Mo_entry 148 = .ok (.sipush 700, 3) := by decide +kernel
theorem d_Mo_entry_151 : decode b_Mo_entry 151 = .ok (.if_icmp .le 5, 3) := by decide +kernel
theorem d_Mo_entry_154 : decode b_Mo_entry 154 = .ok (.iconst (-1), 1) := by decide +kernel
theorem d_Mo_entry_155 : decode b_Mo_entry 155 = .ok (.ireturn, 1) := by decide +kernel
theorem d_Mo_entry_156 : decode b_Mo_entry 156 = .ok (.aload_n 0, 1) := by decide +kernel
theorem d_Mo_entry_157 : decode b_Mo_entry 157 = .ok (.getfield 36, 3) := by decide +kernel
theorem d_Mo_entry_160 : decode b_Mo_entry 160 = .ok (.aload_n 0, 1) := by decide +kernel
theorem d_Mo_entry_161 : decode b_Mo_entry 161 = .ok (.getfield 73, 3) := by decide +kernel
theorem d_Mo_entry_164 : decode b_Mo_entry 164 = .ok (.iload_n 1, 1) := by decide +kernel
theorem d_Mo_entry_165 : decode b_Mo_entry 165 = .ok (.iastore, 1) := by decide +kernel
theorem d_Mo_entry_166 : decode b_Mo_entry 166 = .ok (.aload_n 0, 1) := by decide +kernel
theorem d_Mo_entry_167 : decode b_Mo_entry 167 = .ok (.getfield 40, 3) := by decide +kernel
theorem d_Mo_entry_170 : decode b_Mo_entry 170 = .ok (.aload_n 0, 1) := by decide +kernel
theorem d_Mo_entry_171 : decode b_Mo_entry 171 = .ok (.getfield 73, 3) := by decide +kernel
theorem d_Mo_entry_174 : decode b_Mo_entry 174 = .ok (.iload_n 2, 1) := by decide +kernel
theorem d_Mo_entry_175 : decode b_Mo_entry 175 = .ok (.iastore, 1) := by decide +kernel
theorem d_Mo_entry_176 : decode b_Mo_entry 176 = .ok (.aload_n 0, 1) := by decide +kernel
theorem d_Mo_entry_177 : decode b_Mo_entry 177 = .ok (.getfield 43, 3) := by decide +kernel
theorem d_Mo_entry_180 : decode b_Mo_entry 180 = .ok (.aload_n 0, 1) := by decide +kernel
theorem d_Mo_entry_181 : decode b_Mo_entry 181 = .ok (.getfield 73, 3) := by decide +kernel
theorem d_Mo_entry_184 : decode b_Mo_entry 184 = .ok (.aaload, 1) := by decide +kernel
theorem d_Mo_entry_185 : decode b_Mo_entry 185 = .ok (.aload_n 0, 1) := by decide +kernel
theorem d_Mo_entry_186 : decode b_Mo_entry 186 = .ok (.getfield 23, 3) := by decide +kernel
theorem d_Mo_entry_189 : decode b_Mo_entry 189 = .ok (.iconst 0, 1) := by decide +kernel
theorem d_Mo_entry_190 : decode b_Mo_entry 190 = .ok (.iload 6, 2) := by decide +kernel
theorem d_Mo_entry_192 : decode b_Mo_entry 192 = .ok (.invokevirtual 82, 3) := by decide +kernel
theorem d_Mo_entry_195 : decode b_Mo_entry 195 = .ok (.aload_n 0, 1) := by decide +kernel
theorem d_Mo_entry_196 : decode b_Mo_entry 196 = .ok (.getfield 47, 3) := by decide +kernel
theorem d_Mo_entry_199 : decode b_Mo_entry 199 = .ok (.aload_n 0, 1) := by decide +kernel
theorem d_Mo_entry_200 : decode b_Mo_entry 200 = .ok (.getfield 73, 3) := by decide +kernel
theorem d_Mo_entry_203 : decode b_Mo_entry 203 = .ok (.aaload, 1) := by decide +kernel
theorem d_Mo_entry_204 : decode b_Mo_entry 204 = .ok (.iconst 0, 1) := by decide +kernel
theorem d_Mo_entry_205 : decode b_Mo_entry 205 = .ok (.putfield 86, 3) := by decide +kernel
theorem d_Mo_entry_208 : decode b_Mo_entry 208 = .ok (.iload 5, 2) := by decide +kernel
theorem d_Mo_entry_210 : decode b_Mo_entry 210 = .ok (.ifCond .eq 24, 3) := by decide +kernel
theorem d_Mo_entry_213 : decode b_Mo_entry 213 = .ok (.aload_n 0, 1) := by decide +kernel
theorem d_Mo_entry_214 : decode b_Mo_entry 214 = .ok (.getfield 47, 3) := by decide +kernel
theorem d_Mo_entry_217 : decode b_Mo_entry 217 = .ok (.aload_n 0, 1) := by decide +kernel
theorem d_Mo_entry_218 : decode b_Mo_entry 218 = .ok (.getfield 73, 3) := by decide +kernel
theorem d_Mo_entry_221 : decode b_Mo_entry 221 = .ok (.aaload, 1) := by decide +kernel
theorem d_Mo_entry_222 : decode b_Mo_entry 222 = .ok (.aload_n 0, 1) := by decide +kernel
theorem d_Mo_entry_223 : decode b_Mo_entry 223 = .ok (.getfield 23, 3) := by decide +kernel
theorem d_Mo_entry_226 : decode b_Mo_entry 226 = .ok (.iload 4, 2) := by decide +kernel
theorem d_Mo_entry_228 : decode b_Mo_entry 228 = .ok (.iconst 1, 1) := by decide +kernel
theorem d_Mo_entry_229 : decode b_Mo_entry 229 = .ok (.iadd, 1) := by decide +kernel
theorem d_Mo_entry_230 : decode b_Mo_entry 230 = .ok (.iload_n 3, 1) := by decide +kernel
theorem d_Mo_entry_231 : decode b_Mo_entry 231 = .ok (.invokevirtual 82, 3) := by decide +kernel
theorem d_Mo_entry_234 : decode b_Mo_entry 234 = .ok (.aload_n 0, 1) := by decide +kernel
theorem d_Mo_entry_235 : decode b_Mo_entry 235 = .ok (.dup, 1) := by decide +kernel
theorem d_Mo_entry_236 : decode b_Mo_entry 236 = .ok (.getfield 73, 3) := by decide +kernel
theorem d_Mo_entry_239 : decode b_Mo_entry 239 = .ok (.iconst 1, 1) := by decide +kernel
theorem d_Mo_entry_240 : decode b_Mo_entry 240 = .ok (.iadd, 1) := by decide +kernel
theorem d_Mo_entry_241 : decode b_Mo_entry 241 = .ok (.putfield 73, 3) := by decide +kernel
theorem d_Mo_entry_244 : decode b_Mo_entry 244 = .ok (.aload_n 0, 1) := by decide +kernel
theorem d_Mo_entry_245 : decode b_Mo_entry 245 = .ok (.getfield 73, 3) := by decide +kernel
theorem d_Mo_entry_248 : decode b_Mo_entry 248 = .ok (.ireturn, 1) := by decide +kernel
theorem d_Mo_exchanges_0 : decode b_Mo_exchanges 0 = .ok (.iconst 0, 1) := by decide +kernel
theorem d_Mo_exchanges_1 : decode b_Mo_exchanges 1 = .ok (.istore_n 3, 1) := by decide +kernel
theorem d_Mo_exchanges_2 : decode b_Mo_exchanges 2 = .ok (.iload_n 3, 1) := by decide +kernel
theorem d_Mo_exchanges_3 : decode b_Mo_exchanges 3 = .ok (.aload_n 0, 1) := by decide +kernel
theorem d_Mo_exchanges_4 : decode b_Mo_exchanges 4 = .ok (.getfield 73, 3) := by decide +kernel
theorem d_Mo_exchanges_7 : decode b_Mo_exchanges 7 = .ok (.if_icmp .ge 88, 3) := by decide +kernel
theorem d_Mo_exchanges_10 : decode b_Mo_exchanges 10 = .ok (.aload_n 0, 1) := by decide +kernel
theorem d_Mo_exchanges_11 : decode b_Mo_exchanges 11 = .ok (.iload_n 3, 1) := by decide +kernel
theorem d_Mo_exchanges_12 : decode b_Mo_exchanges 12 = .ok (.iconst 2, 1) := by decide +kernel
theorem d_Mo_exchanges_13 : decode b_Mo_exchanges 13 = .ok (.aload_n 1, 1) := by decide +kernel
theorem d_Mo_exchanges_14 : decode b_Mo_exchanges 14 = .ok (.invokevirtual 92, 3) := by decide +kernel
theorem d_Mo_exchanges_17 : decode b_Mo_exchanges 17 = .ok (.ifCond .ne 6, 3) := by decide +kernel
theorem d_Mo_exchanges_20 : decode b_Mo_exchanges 20 = .ok (.goto 69, 3) := by decide +kernel
theorem d_Mo_exchanges_23 : decode b_Mo_exchanges 23 = .ok (.aload_n 0, 1) := by decide +kernel
theorem d_Mo_exchanges_24 : decode b_Mo_exchanges 24 = .ok (.aload_n 0, 1) := by decide +kernel
theorem d_Mo_exchanges_25 : decode b_Mo_exchanges 25 = .ok (.getfield 47, 3) := by decide +kernel
theorem d_Mo_exchanges_28 : decode b_Mo_exchanges 28 = .ok (.iload_n 3, 1) := by decide +kernel
theorem d_Mo_exchanges_29 : decode b_Mo_exchanges 29 = .ok (.aaload, 1) := by decide +kernel
theorem d_Mo_exchanges_30 : decode b_Mo_exchanges 30 = .ok (.invokevirtual 208, 3) := by decide +kernel
theorem d_Mo_exchanges_33 : decode b_Mo_exchanges 33 = .ok (.ifCond .eq 5, 3) := by decide +kernel
theorem d_Mo_exchanges_36 : decode b_Mo_exchanges 36 = .ok (.iconst 5, 1) := by decide +kernel
theorem d_Mo_exchanges_37 : decode b_Mo_exchanges 37 = .ok (.ireturn, 1) := by decide +kernel
theorem d_Mo_exchanges_38 : decode b_Mo_exchanges 38 = .ok (.iconst 0, 1) := by decide +kernel
theorem d_Mo_exchanges_39 : decode b_Mo_exchanges 39 = .ok (.istore 4, 2) := by decide +kernel
theorem d_Mo_exchanges_41 : decode b_Mo_exchanges 41 = .ok (.iload 4, 2) := by decide +kernel
theorem d_Mo_exchanges_43 : decode b_Mo_exchanges 43 = .ok (.aload_n 0, 1) := by decide +kernel
theorem d_Mo_exchanges_44 : decode b_Mo_exchanges 44 = .ok (.getfield 73, 3) := by decide +kernel
theorem d_Mo_exchanges_47 : decode b_Mo_exchanges 47 = .ok (.if_icmp .ge 42, 3) := by decide +kernel
theorem d_Mo_exchanges_50 : decode b_Mo_exchanges 50 = .ok (.aload_n 0, 1) := by decide +kernel
theorem d_Mo_exchanges_51 : decode b_Mo_exchanges 51 = .ok (.iload 4, 2) := by decide +kernel
theorem d_Mo_exchanges_53 : decode b_Mo_exchanges 53 = .ok (.iconst 1, 1) := by decide +kernel
theorem d_Mo_exchanges_54 : decode b_Mo_exchanges 54 = .ok (.aload_n 0, 1) := by decide +kernel
theorem d_Mo_exchanges_55 : decode b_Mo_exchanges 55 = .ok (.getfield 47, 3) := by decide +kernel
theorem d_Mo_exchanges_58 : decode b_Mo_exchanges 58 = .ok (.iload_n 3, 1) := by decide +kernel
theorem d_Mo_exchanges_59 : decode b_Mo_exchanges 59 = .ok (.aaload, 1) := by decide +kernel
theorem d_Mo_exchanges_60 : decode b_Mo_exchanges 60 = .ok (.invokevirtual 92, 3) := by decide +kernel
theorem d_Mo_exchanges_63 : decode b_Mo_exchanges 63 = .ok (.ifCond .eq 20, 3) := by decide +kernel
theorem d_Mo_exchanges_66 : decode b_Mo_exchanges 66 = .ok (.aload_n 0, 1) := by decide +kernel
theorem d_Mo_exchanges_67 : decode b_Mo_exchanges 67 = .ok (.aload_n 0, 1) := by decide +kernel
theorem d_Mo_exchanges_68 : decode b_Mo_exchanges 68 = .ok (.getfield 40, 3) := by decide +kernel
theorem d_Mo_exchanges_71 : decode b_Mo_exchanges 71 = .ok (.iload 4, 2) := by decide +kernel
theorem d_Mo_exchanges_73 : decode b_Mo_exchanges 73 = .ok (.iaload, 1) := by decide +kernel
theorem d_Mo_exchanges_74 : decode b_Mo_exchanges 74 = .ok (.iload_n 2, 1) := by decide +kernel
theorem d_Mo_exchanges_75 : decode b_Mo_exchanges 75 = .ok (.invokevirtual 231, 3) := by decide +kernel
theorem d_Mo_exchanges_78 : decode b_Mo_exchanges 78 = .ok (.ifCond .eq 5, 3) := by decide +kernel
theorem d_Mo_exchanges_81 : decode b_Mo_exchanges 81 = .ok (.iconst 1, 1) := by decide +kernel
theorem d_Mo_exchanges_82 : decode b_Mo_exchanges 82 = .ok (.ireturn, 1) := by decide +kernel
theorem d_Mo_exchanges_83 : decode b_Mo_exchanges 83 = .ok (.iinc 4 1, 3) := by decide +kernel
theorem d_Mo_exchanges_86 : decode b_Mo_exchanges 86 = .ok (.goto (-45), 3) := by decide +kernel
theorem d_Mo_exchanges_89 : decode b_Mo_exchanges 89 = .ok (.iinc 3 1, 3) := by decide +kernel
theorem d_Mo_exchanges_92 : decode b_Mo_exchanges 92 = .ok (.goto (-90), 3) := by decide +kernel
theorem d_Mo_exchanges_95 : decode b_Mo_exchanges 95 = .ok (.iconst 0, 1) := by decide +kernel
theorem d_Mo_exchanges_96 : decode b_Mo_exchanges 96 = .ok (.ireturn, 1) := by decide +kernel
theorem d_Mo_expand1_0 : decode b_Mo_expand1 0 = .ok (.aload_n 0, 1) := by decide +kernel
theorem d_Mo_expand1_1 : decode b_Mo_expand1 1 = .ok (.invokevirtual 70, 3) := by decide +kernel
theorem d_Mo_expand1_4 : decode b_Mo_expand1 4 = .ok (.istore_n 1, 1) := by decide +kernel
theorem d_Mo_expand1_5 : decode b_Mo_expand1 5 = .ok (.aload_n 0, 1) := by decide +kernel
theorem d_Mo_expand1_6 : decode b_Mo_expand1 6 = .ok (.getfield 108, 3) := by decide +kernel
theorem d_Mo_expand1_9 : decode b_Mo_expand1 9 = .ok (.ifCond .eq 16, 3) := by decide +kernel
theorem d_Mo_expand1_12 : decode b_Mo_expand1 12 = .ok (.aload_n 0, 1) := by decide +kernel
theorem d_Mo_expand1_13 : decode b_Mo_expand1 13 = .ok (.getfield 23, 3) := by decide +kernel
theorem d_Mo_expand1_16 : decode b_Mo_expand1 16 = .ok (.iconst 0, 1) := by decide +kernel
theorem d_Mo_expand1_17 : decode b_Mo_expand1 17 = .ok (.iload_n 1, 1) := by decide +kernel
theorem d_Mo_expand1_18 : decode b_Mo_expand1 18 = .ok (.iconst 1, 1) := by decide +kernel
theorem d_Mo_expand1_19 : decode b_Mo_expand1 19 = .ok (.invokestatic 157, 3) := by decide +kernel
theorem d_Mo_expand1_22 : decode b_Mo_expand1 22 = .ok (.ifCond .ne 5, 3) := by decide +kernel
theorem d_Mo_expand1_25 : decode b_Mo_expand1 25 = .ok (.iconst (-1), 1) := by decide +kernel
theorem d_Mo_expand1_26 : decode b_Mo_expand1 26 = .ok (.ireturn, 1) := by decide +kernel
theorem d_Mo_expand1_27 : decode b_Mo_expand1 27 = .ok (.aload_n 0, 1) := by decide +kernel
theorem d_Mo_expand1_28 : decode b_Mo_expand1 28 = .ok (.aload_n 0, 1) := by decide +kernel
theorem d_Mo_expand1_29 : decode b_Mo_expand1 29 = .ok (.getfield 23, 3) := by decide +kernel
theorem d_Mo_expand1_32 : decode b_Mo_expand1 32 = .ok (.iconst 0, 1) := by decide +kernel
theorem d_Mo_expand1_33 : decode b_Mo_expand1 33 = .ok (.iload_n 1, 1) := by decide +kernel
theorem d_Mo_expand1_34 : decode b_Mo_expand1 34 = .ok (.aload_n 0, 1) := by decide +kernel
theorem d_Mo_expand1_35 : decode b_Mo_expand1 35 = .ok (.getfield 53, 3) := by decide +kernel
theorem d_Mo_expand1_38 : decode b_Mo_expand1 38 = .ok (.aload_n 0, 1) := by decide +kernel
theorem d_Mo_expand1_39 : decode b_Mo_expand1 39 = .ok (.getfield 32, 3) := by decide +kernel
theorem d_Mo_expand1_42 : decode b_Mo_expand1 42 = .ok (.invokevirtual 228, 3) := by decide +kernel
theorem d_Mo_expand1_45 : decode b_Mo_expand1 45 = .ok (.aload_n 0, 1) := by decide +kernel
theorem d_Mo_expand1_46 : decode b_Mo_expand1 46 = .ok (.getfield 32, 3) := by decide +kernel
theorem d_Mo_expand1_49 : decode b_Mo_expand1 49 = .ok (.getfield 86, 3) := by decide +kernel
theorem d_Mo_expand1_52 : decode b_Mo_expand1 52 = .ok (.ireturn, 1) := by decide +kernel
theorem d_Mo_expand2_0 : decode b_Mo_expand2 0 = .ok (.aload 5, 2) := by decide +kernel
theorem d_Mo_expand2_2 : decode b_Mo_expand2 2 = .ok (.iconst 0, 1) := by decide +kernel
theorem d_Mo_expand2_3 : decode b_Mo_expand2 3 = .ok (.putfield 86, 3) := by decide +kernel
theorem d_Mo_expand2_6 : decode b_Mo_expand2 6 = .ok (.iload_n 2, 1) := by decide +kernel
theorem d_Mo_expand2_7 : decode b_Mo_expand2 7 = .ok (.istore 6, 2) := by decide +kernel
theorem d_Mo_expand2_9 : decode b_Mo_expand2 9 = .ok (.iload 6, 2) := by decide +kernel
theorem d_Mo_expand2_11 : decode b_Mo_expand2 11 = .ok (.iload_n 3, 1) := by decide +kernel
theorem d_Mo_expand2_12 : decode b_Mo_expand2 12 = .ok (.if_icmp .ge 156, 3) := by decide +kernel
theorem d_Mo_expand2_15 : decode b_Mo_expand2 15 = .ok (.aload_n 1, 1) := by decide +kernel
theorem d_Mo_expand2_16 : decode b_Mo_expand2 16 = .ok (.iload 6, 2) := by decide +kernel
theorem d_Mo_expand2_18 : decode b_Mo_expand2 18 = .ok (.baload, 1) := by decide +kernel
theorem d_Mo_expand2_19 : decode b_Mo_expand2 19 = .ok (.bipush 37, 2) := by decide +kernel
theorem d_Mo_expand2_21 : decode b_Mo_expand2 21 = .ok (.if_icmp .eq 15, 3) := by decide +kernel
theorem d_Mo_expand2_24 : decode b_Mo_expand2 24 = .ok (.aload 5, 2) := by decide +kernel
theorem d_Mo_expand2_26 : decode b_Mo_expand2 26 = .ok (.aload_n 1, 1) := by decide +kernel
theorem d_Mo_expand2_27 : decode b_Mo_expand2 27 = .ok (.iload 6, 2) := by decide +kernel
theorem d_Mo_expand2_29 : decode b_Mo_expand2 29 = .ok (.baload, 1) := by decide +kernel
theorem d_Mo_expand2_30 : decode b_Mo_expand2 30 = .ok (.invokestatic 184, 3) := by decide +kernel
theorem d_Mo_expand2_33 : decode b_Mo_expand2 33 = .ok (.goto 129, 3) := by decide +kernel
theorem d_Mo_expand2_36 : decode b_Mo_expand2 36 = .ok (.aload_n 1, 1) := by decide +kernel
theorem d_Mo_expand2_37 : decode b_Mo_expand2 37 = .ok (.iload 6, 2) := by decide +kernel
theorem d_Mo_expand2_39 : decode b_Mo_expand2 39 = .ok (.iload_n 3, 1) := by decide +kernel
theorem d_Mo_expand2_40 : decode b_Mo_expand2 40 = .ok (.invokestatic 126, 3) := by decide +kernel
theorem d_Mo_expand2_43 : decode b_Mo_expand2 43 = .ok (.istore 7, 2) := by decide +kernel
theorem d_Mo_expand2_45 : decode b_Mo_expand2 45 = .ok (.aload_n 1, 1) := by decide +kernel
theorem d_Mo_expand2_46 : decode b_Mo_expand2 46 = .ok (.iload 6, 2) := by decide +kernel
theorem d_Mo_expand2_48 : decode b_Mo_expand2 48 = .ok (.iconst 1, 1) := by decide +kernel
theorem d_Mo_expand2_49 : decode b_Mo_expand2 49 = .ok (.iadd, 1) := by decide +kernel
theorem d_Mo_expand2_50 : decode b_Mo_expand2 50 = .ok (.baload, 1) := by decide +kernel
theorem d_Mo_expand2_51 : decode b_Mo_expand2 51 = .ok (.bipush 37, 2) := by decide +kernel
theorem d_Mo_expand2_53 : decode b_Mo_expand2 53 = .ok (.if_icmp .ne 13, 3) := by decide +kernel
theorem d_Mo_expand2_56 : decode b_Mo_expand2 56 = .ok (.aload 5, 2) := by decide +kernel
theorem d_Mo_expand2_58 : decode b_Mo_expand2 58 = .ok (.bipush 37, 2) := by decide +kernel
theorem d_Mo_expand2_60 : decode b_Mo_expand2 60 = .ok (.invokestatic 184, 3) := by decide +kernel
theorem d_Mo_expand2_63 : decode b_Mo_expand2 63 = .ok (.goto 65, 3) := by decide +kernel
theorem d_Mo_expand2_66 : decode b_Mo_expand2 66 = .ok (.aload_n 1, 1) := by decide +kernel
theorem d_Mo_expand2_67 : decode b_Mo_expand2 67 = .ok (.iload 6, 2) := by decide +kernel
theorem d_Mo_expand2_69 : decode b_Mo_expand2 69 = .ok (.iconst 1, 1) := by decide +kernel
theorem d_Mo_expand2_70 : decode b_Mo_expand2 70 = .ok (.iadd, 1) := by decide +kernel
theorem d_Mo_expand2_71 : decode b_Mo_expand2 71 = .ok (.baload, 1) := by decide +kernel
theorem d_Mo_expand2_72 : decode b_Mo_expand2 72 = .ok (.bipush 95, 2) := by decide +kernel
theorem d_Mo_expand2_74 : decode b_Mo_expand2 74 = .ok (.if_icmp .ne 13, 3) := by decide +kernel
theorem d_Mo_expand2_77 : decode b_Mo_expand2 77 = .ok (.aload 5, 2) := by decide +kernel
theorem d_Mo_expand2_79 : decode b_Mo_expand2 79 = .ok (.bipush 32, 2) := by decide +kernel
theorem d_Mo_expand2_81 : decode b_Mo_expand2 81 = .ok (.invokestatic 184, 3) := by decide +kernel
theorem d_Mo_expand2_84 : decode b_Mo_expand2 84 = .ok (.goto 44, 3) := by decide +kernel
theorem d_Mo_expand2_87 : decode b_Mo_expand2 87 = .ok (.aload_n 1, 1) := by decide +kernel
theorem d_Mo_expand2_88 : decode b_Mo_expand2 88 = .ok (.iload 6, 2) := by decide +kernel
theorem d_Mo_expand2_90 : decode b_Mo_expand2 90 = .ok (.iconst 1, 1) := by decide +kernel
theorem d_Mo_expand2_91 : decode b_Mo_expand2 91 = .ok (.iadd, 1) := by decide +kernel
theorem d_Mo_expand2_92 : decode b_Mo_expand2 92 = .ok (.baload, 1) := by decide +kernel
theorem d_Mo_expand2_93 : decode b_Mo_expand2 93 = .ok (.bipush 45, 2) := by decide +kernel
theorem d_Mo_expand2_95 : decode b_Mo_expand2 95 = .ok (.if_icmp .ne 13, 3) := by decide +kernel
theorem d_Mo_expand2_98 : decode b_Mo_expand2 98 = .ok (.aload 5, 2) := by decide +kernel
theorem d_Mo_expand2_100 : decode b_Mo_expand2 100 = .ok (.bipush 37, 2) := by decide +kernel
theorem d_Mo_expand2_102 : decode b_Mo_expand2 102 = .ok (.invokestatic 184, 3) := by decide +kernel
theorem d_Mo_expand2_105 : decode b_Mo_expand2 105 = .ok (.goto 23, 3) := by decide +kernel
theorem d_Mo_expand2_108 : decode b_Mo_expand2 108 = .ok (.aload_n 0, 1) := by decide +kernel
theorem d_Mo_expand2_109 : decode b_Mo_expand2 109 = .ok (.aload_n 1, 1) := by decide +kernel
theorem d_Mo_expand2_110 : decode b_Mo_expand2 110 = .ok (.iload 6, 2) := by decide +kernel
theorem d_Mo_expand2_112 : decode b_Mo_expand2 112 = .ok (.iconst 2, 1) := by decide +kernel
theorem d_Mo_expand2_113 : decode b_Mo_expand2 113 = .ok (.iadd, 1) := by decide +kernel
theorem d_Mo_expand2_114 : decode b_Mo_expand2 114 = .ok (.iload 6, 2) := by decide +kernel
theorem d_Mo_expand2_116 : decode b_Mo_expand2 116 = .ok (.iload 7, 2) := by decide +kernel
theorem d_Mo_expand2_118 : decode b_Mo_expand2 118 = .ok (.iadd, 1) := by decide +kernel
theorem d_Mo_expand2_119 : decode b_Mo_expand2 119 = .ok (.iconst 1, 1) := by decide +kernel
theorem d_Mo_expand2_120 : decode b_Mo_expand2 120 = .ok (.isub, 1) := by decide +kernel
theorem d_Mo_expand2_121 : decode b_Mo_expand2 121 = .ok (.aload 4, 2) := by decide +kernel
theorem d_Mo_expand2_123 : decode b_Mo_expand2 123 = .ok (.aload 5, 2) := by decide +kernel
theorem d_Mo_expand2_125 : decode b_Mo_expand2 125 = .ok (.invokevirtual 188, 3) := by decide +kernel
theorem d_Mo_expand2_128 : decode b_Mo_expand2 128 = .ok (.aload_n 1, 1) := by decide +kernel
theorem d_Mo_expand2_129 : decode b_Mo_expand2 129 = .ok (.iload 6, 2) := by decide +kernel
theorem d_Mo_expand2_131 : decode b_Mo_expand2 131 = .ok (.iconst 1, 1) := by decide +kernel
theorem d_Mo_expand2_132 : decode b_Mo_expand2 132 = .ok (.iadd, 1) := by decide +kernel
theorem d_Mo_expand2_133 : decode b_Mo_expand2 133 = .ok (.baload, 1) := by decide +kernel
theorem d_Mo_expand2_134 : decode b_Mo_expand2 134 = .ok (.bipush 45, 2) := by decide +kernel
theorem d_Mo_expand2_136 : decode b_Mo_expand2 136 = .ok (.if_icmp .ne 17, 3) := by decide +kernel
theorem d_Mo_expand2_139 : decode b_Mo_expand2 139 = .ok (.aload 5, 2) := by decide +kernel
theorem d_Mo_expand2_141 : decode b_Mo_expand2 141 = .ok (.bipush 50, 2) := by decide +kernel
theorem d_Mo_expand2_143 : decode b_Mo_expand2 143 = .ok (.invokestatic 184, 3) := by decide +kernel
theorem d_Mo_expand2_146 : decode b_Mo_expand2 146 = .ok (.aload 5, 2) := by decide +kernel
theorem d_Mo_expand2_148 : decode b_Mo_expand2 148 = .ok (.bipush 48, 2) := by decide +kernel
theorem d_Mo_expand2_150 : decode b_Mo_expand2 150 = .ok (.invokestatic 184, 3) := by decide +kernel
theorem d_Mo_expand2_153 : decode b_Mo_expand2 153 = .ok (.iload 6, 2) := by decide +kernel
theorem d_Mo_expand2_155 : decode b_Mo_expand2 155 = .ok (.iload 7, 2) := by decide +kernel
theorem d_Mo_expand2_157 : decode b_Mo_expand2 157 = .ok (.iconst 1, 1) := by decide +kernel
theorem d_Mo_expand2_158 : decode b_Mo_expand2 158 = .ok (.isub, 1) := by decide +kernel
theorem d_Mo_expand2_159 : decode b_Mo_expand2 159 = .ok (.iadd, 1) := by decide +kernel
theorem d_Mo_expand2_160 : decode b_Mo_expand2 160 = .ok (.istore 6, 2) := by decide +kernel
theorem d_Mo_expand2_162 : decode b_Mo_expand2 162 = .ok (.iinc 6 1, 3) := by decide +kernel
theorem d_Mo_expand2_165 : decode b_Mo_expand2 165 = .ok (.goto (-156), 3) := by decide +kernel
theorem d_Mo_expand2_168 : decode b_Mo_expand2 168 = .ok (.return_, 1) := by decide +kernel
theorem d_Mo_feed_0 : decode b_Mo_feed 0 = .ok (.aload_n 0, 1) := by decide +kernel
theorem d_Mo_feed_1 : decode b_Mo_feed 1 = .ok (.getfield 62, 3) := by decide +kernel
theorem d_Mo_feed_4 : decode b_Mo_feed 4 = .ok (.bipush 20, 2) := by decide +kernel
theorem d_Mo_feed_6 : decode b_Mo_feed 6 = .ok (.iadd, 1) := by decide +kernel
theorem d_Mo_feed_7 : decode b_Mo_feed 7 = .ok (.sipush 800, 3) := by decide +kernel
theorem d_Mo_feed_10 : decode b_Mo_feed 10 = .ok (.if_icmp .le 6, 3) := by decide +kernel
theorem d_Mo_feed_13 : decode b_Mo_feed 13 = .ok (.bipush (-3), 2) := by decide +kernel
theorem d_Mo_feed_15 : decode b_Mo_feed 15 = .ok (.ireturn, 1) := by decide +kernel
theorem d_Mo_feed_16 : decode b_Mo_feed 16 = .ok (.iconst 5, 1) := by decide +kernel
theorem d_Mo_feed_17 : decode b_Mo_feed 17 = .ok (.newarray .int, 2) := by decide +kernel
theorem d_Mo_feed_19 : decode b_Mo_feed 19 = .ok (.dup, 1) := by decide +kernel
theorem d_Mo_feed_20 : decode b_Mo_feed 20 = .ok (.iconst 0, 1) := by decide +kernel
theorem d_Mo_feed_21 : decode b_Mo_feed 21 = .ok (.iload_n 1, 1) := by decide +kernel
theorem d_Mo_feed_22 : decode b_Mo_feed 22 = .ok (.iastore, 1) := by decide +kernel
theorem d_Mo_feed_23 : decode b_Mo_feed 23 = .ok (.dup, 1) := by decide +kernel
theorem d_Mo_feed_24 : decode b_Mo_feed 24 = .ok (.iconst 1, 1) := by decide +kernel
theorem d_Mo_feed_25 : decode b_Mo_feed 25 = .ok (.iload_n 2, 1) := by decide +kernel
theorem d_Mo_feed_26 : decode b_Mo_feed 26 = .ok (.iastore, 1) := by decide +kernel
theorem d_Mo_feed_27 : decode b_Mo_feed 27 = .ok (.dup, 1) := by decide +kernel
theorem d_Mo_feed_28 : decode b_Mo_feed 28 = .ok (.iconst 2, 1) := by decide +kernel
theorem d_Mo_feed_29 : decode b_Mo_feed 29 = .ok (.iload_n 3, 1) := by decide +kernel
theorem d_Mo_feed_30 : decode b_Mo_feed 30 = .ok (.iastore, 1) := by decide +kernel
theorem d_Mo_feed_31 : decode b_Mo_feed 31 = .ok (.dup, 1) := by decide +kernel
theorem d_Mo_feed_32 : decode b_Mo_feed 32 = .ok (.iconst 3, 1) := by decide +kernel
theorem d_Mo_feed_33 : decode b_Mo_feed 33 = .ok (.iload 4, 2) := by decide +kernel
theorem d_Mo_feed_35 : decode b_Mo_feed 35 = .ok (.iastore, 1) := by decide +kernel
theorem d_Mo_feed_36 : decode b_Mo_feed 36 = .ok (.dup, 1) := by decide +kernel
theorem d_Mo_feed_37 : decode b_Mo_feed 37 = .ok (.iconst 4, 1) := by decide +kernel
theorem d_Mo_feed_38 : decode b_Mo_feed 38 = .ok (.iload 5, 2) := by decide +kernel
theorem d_Mo_feed_40 : decode b_Mo_feed 40 = .ok (.iastore, 1) := by decide +kernel
theorem d_Mo_feed_41 : decode b_Mo_feed 41 = .ok (.astore 6, 2) := by decide +kernel
theorem d_Mo_feed_43 : decode b_Mo_feed 43 = .ok (.iconst 0, 1) := by decide +kernel
theorem d_Mo_feed_44 : decode b_Mo_feed 44 = .ok (.istore 7, 2) := by decide +kernel
theorem d_Mo_feed_46 : decode b_Mo_feed 46 = .ok (.iload 7, 2) := by decide +kernel
theorem d_Mo_feed_48 : decode b_Mo_feed 48 = .ok (.bipush 20, 2) := by decide +kernel
theorem d_Mo_feed_50 : decode b_Mo_feed 50 = .ok (.if_icmp .ge 40, 3) := by decide +kernel
theorem d_Mo_feed_53 : decode b_Mo_feed 53 = .ok (.aload_n 0, 1) := by decide +kernel
theorem d_Mo_feed_54 : decode b_Mo_feed 54 = .ok (.getfield 23, 3) := by decide +kernel
theorem d_Mo_feed_57 : decode b_Mo_feed 57 = .ok (.aload_n 0, 1) := by decide +kernel
theorem d_Mo_feed_58 : decode b_Mo_feed 58 = .ok (.getfield 62, 3) := by decide +kernel
theorem d_Mo_feed_61 : decode b_Mo_feed 61 = .ok (.iload 7, 2) := by decide +kernel
theorem d_Mo_feed_63 : decode b_Mo_feed 63 = .ok (.iadd, 1) := by decide +kernel
theorem d_Mo_feed_64 : decode b_Mo_feed 64 = .ok (.aload 6, 2) := by decide +kernel
theorem d_Mo_feed_66 : decode b_Mo_feed 66 = .ok (.iload 7, 2) := by decide +kernel
theorem d_Mo_feed_68 : decode b_Mo_feed 68 = .ok (.iconst 4, 1) := by decide +kernel
theorem d_Mo_feed_69 : decode b_Mo_feed 69 = .ok (.idiv, 1) := by decide +kernel
theorem d_Mo_feed_70 : decode b_Mo_feed 70 = .ok (.iaload, 1) := by decide +kernel
theorem d_Mo_feed_71 : decode b_Mo_feed 71 = .ok (.bipush 24, 2) := by decide +kernel
theorem d_Mo_feed_73 : decode b_Mo_feed 73 = .ok (.bipush 8, 2) := by decide +kernel
theorem d_Mo_feed_75 : decode b_Mo_feed 75 = .ok (.iload 7, 2) := by decide +kernel
theorem d_Mo_feed_77 : decode b_Mo_feed 77 = .ok (.iconst 4, 1) := by decide +kernel
theorem d_Mo_feed_78 : decode b_Mo_feed 78 = .ok (.irem, 1) := by decide +kernel
theorem d_Mo_feed_79 : decode b_Mo_feed 79 = .ok (.imul, 1) := by decide +kernel
theorem d_Mo_feed_80 : decode b_Mo_feed 80 = .ok (.isub, 1) := by decide +kernel
theorem d_Mo_feed_81 : decode b_Mo_feed 81 = .ok (.ishr, 1) := by decide +kernel
theorem d_Mo_feed_82 : decode b_Mo_feed 82 = .ok (.i2b, 1) := by decide +kernel
theorem d_Mo_feed_83 : decode b_Mo_feed 83 = .ok (.bastore, 1) := by decide +kernel
theorem d_Mo_feed_84 : decode b_Mo_feed 84 = .ok (.iinc 7 1, 3) := by decide +kernel
theorem d_Mo_feed_87 : decode b_Mo_feed 87 = .ok (.goto (-41), 3) := by decide +kernel
theorem d_Mo_feed_90 : decode b_Mo_feed 90 = .ok (.aload_n 0, 1) := by decide +kernel
theorem d_Mo_feed_91 : decode b_Mo_feed 91 = .ok (.dup, 1) := by decide +kernel
theorem d_Mo_feed_92 : decode b_Mo_feed 92 = .ok (.getfield 62, 3) := by decide +kernel
theorem d_Mo_feed_95 : decode b_Mo_feed 95 = .ok (.bipush 20, 2) := by decide +kernel
theorem d_Mo_feed_97 : decode b_Mo_feed 97 = .ok (.iadd, 1) := by decide +kernel
theorem d_Mo_feed_98 : decode b_Mo_feed 98 = .ok (.putfield 62, 3) := by decide +kernel
theorem d_Mo_feed_101 : decode b_Mo_feed 101 = .ok (.aload_n 0, 1) := by decide +kernel
theorem d_Mo_feed_102 : decode b_Mo_feed 102 = .ok (.getfield 62, 3) := by decide +kernel
theorem d_Mo_feed_105 : decode b_Mo_feed 105 = .ok (.ireturn, 1) := by decide +kernel
theorem d_Mo_forget_0 : decode b_Mo_forget 0 = .ok (.aload_n 0, 1) := by decide +kernel
theorem d_Mo_forget_1 : decode b_Mo_forget 1 = .ok (.getfield 73, 3) := by decide +kernel
theorem d_Mo_forget_4 : decode b_Mo_forget 4 = .ok (.istore_n 1, 1) := by decide +kernel
theorem d_Mo_forget_5 : decode b_Mo_forget 5 = .ok (.aload_n 0, 1) := by decide +kernel
theorem d_Mo_forget_6 : decode b_Mo_forget 6 = .ok (.iconst 0, 1) := by decide +kernel
theorem d_Mo_forget_7 : decode b_Mo_forget 7 = .ok (.putfield 73, 3) := by decide +kernel
theorem d_Mo_forget_10 : decode b_Mo_forget 10 = .ok (.iload_n 1, 1) := by decide +kernel
theorem d_Mo_forget_11 : decode b_Mo_forget 11 = .ok (.ireturn, 1) := by decide +kernel
theorem d_Mo_init_0 : decode b_Mo_init 0 = .ok (.aload_n 0, 1) := by decide +kernel
theorem d_Mo_init_1 : decode b_Mo_init 1 = .ok (.invokespecial 17, 3) := by decide +kernel
theorem d_Mo_init_4 : decode b_Mo_init 4 = .ok (.aload_n 0, 1) := by decide +kernel
theorem d_Mo_init_5 : decode b_Mo_init 5 = .ok (.sipush 800, 3) := by decide +kernel
theorem d_Mo_init_8 : decode b_Mo_init 8 = .ok (.newarray .byte, 2) := by decide +kernel
theorem d_Mo_init_10 : decode b_Mo_init 10 = .ok (.putfield 23, 3) := by decide +kernel
theorem d_Mo_init_13 : decode b_Mo_init 13 = .ok (.aload_n 0, 1) := by decide +kernel
theorem d_Mo_init_14 : decode b_Mo_init 14 = .ok (.new 27, 3) := by decide +kernel
theorem d_Mo_init_17 : decode b_Mo_init 17 = .ok (.dup, 1) := by decide +kernel
theorem d_Mo_init_18 : decode b_Mo_init 18 = .ok (.sipush 20000, 3) := by decide +kernel
theorem d_Mo_init_21 : decode b_Mo_init 21 = .ok (.invokespecial 29, 3) := by decide +kernel
theorem d_Mo_init_24 : decode b_Mo_init 24 = .ok (.putfield 32, 3) := by decide +kernel
theorem d_Mo_init_27 : decode b_Mo_init 27 = .ok (.aload_n 0, 1) := by decide +kernel
theorem d_Mo_init_28 : decode b_Mo_init 28 = .ok (.bipush 40, 2) := by decide +kernel
theorem d_Mo_init_30 : decode b_Mo_init 30 = .ok (.newarray .int, 2) := by decide +kernel
theorem d_Mo_init_32 : decode b_Mo_init 32 = .ok (.putfield 36, 3) := by decide +kernel
theorem d_Mo_init_35 : decode b_Mo_init 35 = .ok (.aload_n 0, 1) := by decide +kernel
theorem d_Mo_init_36 : decode b_Mo_init 36 = .ok (.bipush 40, 2) := by decide +kernel
theorem d_Mo_init_38 : decode b_Mo_init 38 = .ok (.newarray .int, 2) := by decide +kernel
theorem d_Mo_init_40 : decode b_Mo_init 40 = .ok (.putfield 40, 3) := by decide +kernel
theorem d_Mo_init_43 : decode b_Mo_init 43 = .ok (.aload_n 0, 1) := by decide +kernel
theorem d_Mo_init_44 : decode b_Mo_init 44 = .ok (.bipush 40, 2) := by decide +kernel
theorem d_Mo_init_46 : decode b_Mo_init 46 = .ok (.anewarray 27, 3) := by decide +kernel
theorem d_Mo_init_49 : decode b_Mo_init 49 = .ok (.putfield 43, 3) := by decide +kernel
theorem d_Mo_init_52 : decode b_Mo_init 52 = .ok (.aload_n 0, 1) := by decide +kernel
theorem d_Mo_init_53 : decode b_Mo_init 53 = .ok (.bipush 40, 2) := by decide +kernel
theorem d_Mo_init_55 : decode b_Mo_init 55 = .ok (.anewarray 27, 3) := by decide +kernel
theorem d_Mo_init_58 : decode b_Mo_init 58 = .ok (.putfield 47, 3) := by decide +kernel
theorem d_Mo_init_61 : decode b_Mo_init 61 = .ok (.aload_n 0, 1) := by decide +kernel
theorem d_Mo_init_62 : decode b_Mo_init 62 = .ok (.new 27, 3) := by decide +kernel
theorem d_Mo_init_65 : decode b_Mo_init 65 = .ok (.dup, 1) := by decide +kernel
theorem d_Mo_init_66 : decode b_Mo_init 66 = .ok (.bipush 30, 2) := by decide +kernel
theorem d_Mo_init_68 : decode b_Mo_init 68 = .ok (.invokespecial 29, 3) := by decide +kernel
theorem d_Mo_init_71 : decode b_Mo_init 71 = .ok (.putfield 50, 3) := by decide +kernel
theorem d_Mo_init_74 : decode b_Mo_init 74 = .ok (.aload_n 0, 1) := by decide +kernel
theorem d_Mo_init_75 : decode b_Mo_init 75 = .ok (.new 27, 3) := by decide +kernel
theorem d_Mo_init_78 : decode b_Mo_init 78 = .ok (.dup, 1) := by decide +kernel
theorem d_Mo_init_79 : decode b_Mo_init 79 = .ok (.bipush 60, 2) := by decide +kernel
theorem d_Mo_init_81 : decode b_Mo_init 81 = .ok (.invokespecial 29, 3) := by decide +kernel
theorem d_Mo_init_84 : decode b_Mo_init 84 = .ok (.putfield 53, 3) := by decide +kernel
theorem d_Mo_init_87 : decode b_Mo_init 87 = .ok (.aload_n 0, 1) := by decide +kernel
theorem d_Mo_init_88 : decode b_Mo_init 88 = .ok (.bipush 13, 2) := by decide +kernel
theorem d_Mo_init_90 : decode b_Mo_init 90 = .ok (.anewarray 27, 3) := by decide +kernel
theorem d_Mo_init_93 : decode b_Mo_init 93 = .ok (.putfield 56, 3) := by decide +kernel
theorem d_Mo_init_96 : decode b_Mo_init 96 = .ok (.aload_n 0, 1) := by decide +kernel
theorem d_Mo_init_97 : decode b_Mo_init 97 = .ok (.new 27, 3) := by decide +kernel
theorem d_Mo_init_100 : decode b_Mo_init 100 = .ok (.dup, 1) := by decide +kernel
theorem d_Mo_init_101 : decode b_Mo_init 101 = .ok (.bipush 100, 2) := by decide +kernel
theorem d_Mo_init_103 : decode b_Mo_init 103 = .ok (.invokespecial 29, 3) := by decide +kernel
theorem d_Mo_init_106 : decode b_Mo_init 106 = .ok (.putfield 59, 3) := by decide +kernel
theorem d_Mo_init_109 : decode b_Mo_init 109 = .ok (.iconst 0, 1) := by decide +kernel
theorem d_Mo_init_110 : decode b_Mo_init 110 = .ok (.istore_n 1, 1) := by decide +kernel
theorem d_Mo_init_111 : decode b_Mo_init 111 = .ok (.iload_n 1, 1) := by decide +kernel
theorem d_Mo_init_112 : decode b_Mo_init 112 = .ok (.bipush 40, 2) := by decide +kernel
theorem d_Mo_init_114 : decode b_Mo_init 114 = .ok (.if_icmp .ge 40, 3) := by decide +kernel
theorem d_Mo_init_117 : decode b_Mo_init 117 = .ok (.aload_n 0, 1) := by decide +kernel
theorem d_Mo_init_118 : decode b_Mo_init 118 = .ok (.getfield 43, 3) := by decide +kernel
theorem d_Mo_init_121 : decode b_Mo_init 121 = .ok (.iload_n 1, 1) := by decide +kernel
theorem d_Mo_init_122 : decode b_Mo_init 122 = .ok (.new 27, 3) := by decide +kernel
theorem d_Mo_init_125 : decode b_Mo_init 125 = .ok (.dup, 1) := by decide +kernel
theorem d_Mo_init_126 : decode b_Mo_init 126 = .ok (.bipush 60, 2) := by decide +kernel
theorem d_Mo_init_128 : decode b_Mo_init 128 = .ok (.invokespecial 29, 3) := by decide +kernel
theorem d_Mo_init_131 : decode b_Mo_init 131 = .ok (.aastore, 1) := by decide +kernel
theorem d_Mo_init_132 : decode b_Mo_init 132 = .ok (.aload_n 0, 1) := by decide +kernel
theorem d_Mo_init_133 : decode b_Mo_init 133 = .ok (.getfield 47, 3) := by decide +kernel
theorem d_Mo_init_136 : decode b_Mo_init 136 = .ok (.iload_n 1, 1) := by decide +kernel
theorem d_Mo_init_137 : decode b_Mo_init 137 = .ok (.new 27, 3) := by decide +kernel
theorem d_Mo_init_140 : decode b_Mo_init 140 = .ok (.dup, 1) := by decide +kernel
theorem d_Mo_init_141 : decode b_Mo_init 141 = .ok (.sipush 700, 3) := by decide +kernel
theorem d_Mo_init_144 : decode b_Mo_init 144 = .ok (.invokespecial 29, 3) := by decide +kernel
theorem d_Mo_init_147 : decode b_Mo_init 147 = .ok (.aastore, 1) := by decide +kernel
theorem d_Mo_init_148 : decode b_Mo_init 148 = .ok (.iinc 1 1, 3) := by decide +kernel
theorem d_Mo_init_151 : decode b_Mo_init 151 = .ok (.goto (-40), 3) := by decide +kernel
theorem d_Mo_init_154 : decode b_Mo_init 154 = .ok (.iconst 0, 1) := by decide +kernel
theorem d_Mo_init_155 : decode b_Mo_init 155 = .ok (.istore_n 1, 1) := by decide +kernel
theorem d_Mo_init_156 : decode b_Mo_init 156 = .ok (.iload_n 1, 1) := by decide +kernel
theorem d_Mo_init_157 : decode b_Mo_init 157 = .ok (.bipush 13, 2) := by decide +kernel
theorem d_Mo_init_159 : decode b_Mo_init 159 = .ok (.if_icmp .ge 24, 3) := by decide +kernel
theorem d_Mo_init_162 : decode b_Mo_init 162 = .ok (.aload_n 0, 1) := by decide +kernel
theorem d_Mo_init_163 : decode b_Mo_init 163 = .ok (.getfield 56, 3) := by decide +kernel
theorem d_Mo_init_166 : decode b_Mo_init 166 = .ok (.iload_n 1, 1) := by decide +kernel
theorem d_Mo_init_167 : decode b_Mo_init 167 = .ok (.new 27, 3) := by decide +kernel
theorem d_Mo_init_170 : decode b_Mo_init 170 = .ok (.dup, 1) := by decide +kernel
theorem d_Mo_init_171 : decode b_Mo_init 171 = .ok (.bipush 61, 2) := by decide +kernel
theorem d_Mo_init_173 : decode b_Mo_init 173 = .ok (.invokespecial 29, 3) := by decide +kernel
theorem d_Mo_init_176 : decode b_Mo_init 176 = .ok (.aastore, 1) := by decide +kernel
theorem d_Mo_init_177 : decode b_Mo_init 177 = .ok (.iinc 1 1, 3) := by decide +kernel
theorem d_Mo_init_180 : decode b_Mo_init 180 = .ok (.goto (-24), 3) := by decide +kernel
theorem d_Mo_init_183 : decode b_Mo_init 183 = .ok (.return_, 1) := by decide +kernel
theorem d_Mo_is_0 : decode b_Mo_is 0 = .ok (.iload_n 2, 1) := by decide +kernel
theorem d_Mo_is_1 : decode b_Mo_is 1 = .ok (.iload_n 1, 1) := by decide +kernel
theorem d_Mo_is_2 : decode b_Mo_is 2 = .ok (.isub, 1) := by decide +kernel
theorem d_Mo_is_3 : decode b_Mo_is 3 = .ok (.aload_n 3, 1) := by decide +kernel
theorem d_Mo_is_4 : decode b_Mo_is 4 = .ok (.invokevirtual 1, 3) := by decide +kernel
theorem d_Mo_is_7 : decode b_Mo_is 7 = .ok (.if_icmp .eq 5, 3) := by decide +kernel
theorem d_Mo_is_10 : decode b_Mo_is 10 = .ok (.iconst 0, 1) := by decide +kernel
theorem d_Mo_is_11 : decode b_Mo_is 11 = .ok (.ireturn, 1) := by decide +kernel
theorem d_Mo_is_12 : decode b_Mo_is 12 = .ok (.iconst 0, 1) := by decide +kernel
theorem d_Mo_is_13 : decode b_Mo_is 13 = .ok (.istore 4, 2) := by decide +kernel
theorem d_Mo_is_15 : decode b_Mo_is 15 = .ok (.iload 4, 2) := by decide +kernel
theorem d_Mo_is_17 : decode b_Mo_is 17 = .ok (.aload_n 3, 1) := by decide +kernel
theorem d_Mo_is_18 : decode b_Mo_is 18 = .ok (.invokevirtual 1, 3) := by decide +kernel
theorem d_Mo_is_21 : decode b_Mo_is 21 = .ok (.if_icmp .ge 26, 3) := by decide +kernel
theorem d_Mo_is_24 : decode b_Mo_is 24 = .ok (.aload_n 0, 1) := by decide +kernel
theorem d_Mo_is_25 : decode b_Mo_is 25 = .ok (.iload_n 1, 1) := by decide +kernel
theorem d_Mo_is_26 : decode b_Mo_is 26 = .ok (.iload 4, 2) := by decide +kernel
theorem d_Mo_is_28 : decode b_Mo_is 28 = .ok (.iadd, 1) := by decide +kernel
theorem d_Mo_is_29 : decode b_Mo_is 29 = .ok (.baload, 1) := by decide +kernel
theorem d_Mo_is_30 : decode b_Mo_is 30 = .ok (.aload_n 3, 1) := by decide +kernel
theorem d_Mo_is_31 : decode b_Mo_is 31 = .ok (.iload 4, 2) := by decide +kernel
theorem d_Mo_is_33 : decode b_Mo_is 33 = .ok (.invokevirtual 7, 3) := by decide +kernel
theorem d_Mo_is_36 : decode b_Mo_is 36 = .ok (.if_icmp .eq 5, 3) := by decide +kernel
theorem d_Mo_is_39 : decode b_Mo_is 39 = .ok (.iconst 0, 1) := by decide +kernel
theorem d_Mo_is_40 : decode b_Mo_is 40 = .ok (.ireturn, 1) := by decide +kernel
theorem d_Mo_is_41 : decode b_Mo_is 41 = .ok (.iinc 4 1, 3) := by decide +kernel
theorem d_Mo_is_44 : decode b_Mo_is 44 = .ok (.goto (-29), 3) := by decide +kernel
theorem d_Mo_is_47 : decode b_Mo_is 47 = .ok (.iconst 1, 1) := by decide +kernel
theorem d_Mo_is_48 : decode b_Mo_is 48 = .ok (.ireturn, 1) := by decide +kernel
theorem d_Mo_isD_0 : decode b_Mo_isD 0 = .ok (.iload_n 1, 1) := by decide +kernel
theorem d_Mo_isD_1 : decode b_Mo_isD 1 = .ok (.iload_n 2, 1) := by decide +kernel
theorem d_Mo_isD_2 : decode b_Mo_isD 2 = .ok (.if_icmp .lt 5, 3) := by decide +kernel
theorem d_Mo_isD_5 : decode b_Mo_isD 5 = .ok (.iconst 0, 1) := by decide +kernel
theorem d_Mo_isD_6 : decode b_Mo_isD 6 = .ok (.ireturn, 1) := by decide +kernel
theorem d_Mo_isD_7 : decode b_Mo_isD 7 = .ok (.iload_n 1, 1) := by decide +kernel
theorem d_Mo_isD_8 : decode b_Mo_isD 8 = .ok (.istore 4, 2) := by decide +kernel
theorem d_Mo_isD_10 : decode b_Mo_isD 10 = .ok (.iload 4, 2) := by decide +kernel
theorem d_Mo_isD_12 : decode b_Mo_isD 12 = .ok (.iload_n 2, 1) := by decide +kernel
theorem d_Mo_isD_13 : decode b_Mo_isD 13 = .ok (.if_icmp .ge 78, 3) := by decide +kernel
theorem d_Mo_isD_16 : decode b_Mo_isD 16 = .ok (.aload_n 0, 1) := by decide +kernel
theorem d_Mo_isD_17 : decode b_Mo_isD 17 = .ok (.iload 4, 2) := by decide +kernel
theorem d_Mo_isD_19 : decode b_Mo_isD 19 = .ok (.baload, 1) := by decide +kernel
theorem d_Mo_isD_20 : decode b_Mo_isD 20 = .ok (.i2l, 1) := by decide +kernel
theorem d_Mo_isD_21 : decode b_Mo_isD 21 = .ok (.ldc2_w 122, 3) := by decide +kernel
theorem d_Mo_isD_24 : decode b_Mo_isD 24 = .ok (.ldc2_w 124, 3) := by decide +kernel
theorem d_Mo_isD_27 : decode b_Mo_isD 27 = .ok (.invokestatic 66, 3) := by decide +kernel
theorem d_Mo_isD_30 : decode b_Mo_isD 30 = .ok (.ifCond .eq 16, 3) := by decide +kernel
theorem d_Mo_isD_33 : decode b_Mo_isD 33 = .ok (.iload_n 3, 1) := by decide +kernel
theorem d_Mo_isD_34 : decode b_Mo_isD 34 = .ok (.ifCond .ne 14, 3) := by decide +kernel
theorem d_Mo_isD_37 : decode b_Mo_isD 37 = .ok (.aload_n 0, 1) := by decide +kernel
theorem d_Mo_isD_38 : decode b_Mo_isD 38 = .ok (.iload 4, 2) := by decide +kernel
theorem d_Mo_isD_40 : decode b_Mo_isD 40 = .ok (.baload, 1) := by decide +kernel
theorem d_Mo_isD_41 : decode b_Mo_isD 41 = .ok (.bipush 47, 2) := by decide +kernel
theorem d_Mo_isD_43 : decode b_Mo_isD 43 = .ok (.if_icmp .ne 5, 3) := by decide +kernel
theorem d_Mo_isD_46 : decode b_Mo_isD 46 = .ok (.iconst 0, 1) := by decide +kernel
theorem d_Mo_isD_47 : decode b_Mo_isD 47 = .ok (.ireturn, 1) := by decide +kernel
theorem d_Mo_isD_48 : decode b_Mo_isD 48 = .ok (.aload_n 0, 1) := by decide +kernel
theorem d_Mo_isD_49 : decode b_Mo_isD 49 = .ok (.iload 4, 2) := by decide +kernel
theorem d_Mo_isD_51 : decode b_Mo_isD 51 = .ok (.baload, 1) := by decide +kernel
theorem d_Mo_isD_52 : decode b_Mo_isD 52 = .ok (.bipush 37, 2) := by decide +kernel
theorem d_Mo_isD_54 : decode b_Mo_isD 54 = .ok (.if_icmp .eq 6, 3) := by decide +kernel
theorem d_Mo_isD_57 : decode b_Mo_isD 57 = .ok (.goto 28, 3) := by decide +kernel
theorem d_Mo_isD_60 : decode b_Mo_isD 60 = .ok (.aload_n 0, 1) := by decide +kernel
theorem d_Mo_isD_61 : decode b_Mo_isD 61 = .ok (.iload 4, 2) := by decide +kernel
theorem d_Mo_isD_63 : decode b_Mo_isD 63 = .ok (.iload_n 2, 1) := by decide +kernel
theorem d_Mo_isD_64 : decode b_Mo_isD 64 = .ok (.invokestatic 126, 3) := by decide +kernel
theorem d_Mo_isD_67 : decode b_Mo_isD 67 = .ok (.istore 5, 2) := by decide +kernel
theorem d_Mo_isD_69 : decode b_Mo_isD 69 = .ok (.iload 5, 2) := by decide +kernel
theorem d_Mo_isD_71 : decode b_Mo_isD 71 = .ok (.ifCond .ne 5, 3) := by decide +kernel
theorem d_Mo_isD_74 : decode b_Mo_isD 74 = .ok (.iconst 0, 1) := by decide +kernel
theorem d_Mo_isD_75 : decode b_Mo_isD 75 = .ok (.ireturn, 1) := by decide +kernel
theorem d_Mo_isD_76 : decode b_Mo_isD 76 = .ok (.iload 4, 2) := by decide +kernel
theorem d_Mo_isD_78 : decode b_Mo_isD 78 = .ok (.iload 5, 2) := by decide +kernel
theorem d_Mo_isD_80 : decode b_Mo_isD 80 = .ok (.iconst 1, 1) := by decide +kernel
theorem d_Mo_isD_81 : decode b_Mo_isD 81 = .ok (.isub, 1) := by decide +kernel
theorem d_Mo_isD_82 : decode b_Mo_isD 82 = .ok (.iadd, 1) := by decide +kernel
theorem d_Mo_isD_83 : decode b_Mo_isD 83 = .ok (.istore 4, 2) := by decide +kernel
theorem d_Mo_isD_85 : decode b_Mo_isD 85 = .ok (.iinc 4 1, 3) := by decide +kernel
theorem d_Mo_isD_88 : decode b_Mo_isD 88 = .ok (.goto (-78), 3) := by decide +kernel
theorem d_Mo_isD_91 : decode b_Mo_isD 91 = .ok (.iconst 1, 1) := by decide +kernel
theorem d_Mo_isD_92 : decode b_Mo_isD 92 = .ok (.ireturn, 1) := by decide +kernel
theorem d_Mo_isOf_0 : decode b_Mo_isOf 0 = .ok (.aload_n 0, 1) := by decide +kernel
theorem d_Mo_isOf_1 : decode b_Mo_isOf 1 = .ok (.getfield 36, 3) := by decide +kernel
theorem d_Mo_isOf_4 : decode b_Mo_isOf 4 = .ok (.iload_n 1, 1) := by decide +kernel
theorem d_Mo_isOf_5 : decode b_Mo_isOf 5 = .ok (.iaload, 1) := by decide +kernel
theorem d_Mo_isOf_6 : decode b_Mo_isOf 6 = .ok (.iload_n 2, 1) := by decide +kernel
theorem d_Mo_isOf_7 : decode b_Mo_isOf 7 = .ok (.if_icmp .ne 20, 3) := by decide +kernel
theorem d_Mo_isOf_10 : decode b_Mo_isOf 10 = .ok (.aload_n 0, 1) := by decide +kernel
theorem d_Mo_isOf_11 : decode b_Mo_isOf 11 = .ok (.getfield 43, 3) := by decide +kernel
theorem d_Mo_isOf_14 : decode b_Mo_isOf 14 = .ok (.iload_n 1, 1) := by decide +kernel
theorem d_Mo_isOf_15 : decode b_Mo_isOf 15 = .ok (.aaload, 1) := by decide +kernel
theorem d_Mo_isOf_16 : decode b_Mo_isOf 16 = .ok (.aload_n 3, 1) := by decide +kernel
theorem d_Mo_isOf_17 : decode b_Mo_isOf 17 = .ok (.invokevirtual 89, 3) := by decide +kernel
theorem d_Mo_isOf_20 : decode b_Mo_isOf 20 = .ok (.ifCond .eq 7, 3) := by decide +kernel
theorem d_Mo_isOf_23 : decode b_Mo_isOf 23 = .ok (.iconst 1, 1) := by decide +kernel
theorem d_Mo_isOf_24 : decode b_Mo_isOf 24 = .ok (.goto 4, 3) := by decide +kernel
theorem d_Mo_isOf_27 : decode b_Mo_isOf 27 = .ok (.iconst 0, 1) := by decide +kernel
theorem d_Mo_isOf_28 : decode b_Mo_isOf 28 = .ok (.ireturn, 1) := by decide +kernel
theorem d_Mo_isQuad_0 : decode b_Mo_isQuad 0 = .ok (.iconst 0, 1) := by decide +kernel
theorem d_Mo_isQuad_1 : decode b_Mo_isQuad 1 = .ok (.istore 4, 2) := by decide +kernel
theorem d_Mo_isQuad_3 : decode b_Mo_isQuad 3 = .ok (.iconst 0, 1) := by decide +kernel
theorem d_Mo_isQuad_4 : decode b_Mo_isQuad 4 = .ok (.istore 5, 2) := by decide +kernel
theorem d_Mo_isQuad_6 : decode b_Mo_isQuad 6 = .ok (.iconst 0, 1) := by decide +kernel
theorem d_Mo_isQuad_7 : decode b_Mo_isQuad 7 = .ok (.istore 6, 2) := by decide +kernel
theorem d_Mo_isQuad_9 : decode b_Mo_isQuad 9 = .ok (.aload_n 0, 1) := by decide +kernel
theorem d_Mo_isQuad_10 : decode b_Mo_isQuad 10 = .ok (.iconst 0, 1) := by decide +kernel
theorem d_Mo_isQuad_11 : decode b_Mo_isQuad 11 = .ok (.putfield 132, 3) := by decide +kernel
theorem d_Mo_isQuad_14 : decode b_Mo_isQuad 14 = .ok (.iload_n 2, 1) := by decide +kernel
theorem d_Mo_isQuad_15 : decode b_Mo_isQuad 15 = .ok (.istore 7, 2) := by decide +kernel
theorem d_Mo_isQuad_17 : decode b_Mo_isQuad 17 = .ok (.iload 7, 2) := by decide +kernel
theorem d_Mo_isQuad_19 : decode b_Mo_isQuad 19 = .ok (.iload_n 3, 1) := by decide +kernel
theorem d_Mo_isQuad_20 : decode b_Mo_isQuad 20 = .ok (.if_icmp .gt 104, 3) := by decide +kernel
theorem d_Mo_isQuad_23 : decode b_Mo_isQuad 23 = .ok (.iload 7, 2) := by decide +kernel
theorem d_Mo_isQuad_25 : decode b_Mo_isQuad 25 = .ok (.iload_n 3, 1) := by decide +kernel
theorem d_Mo_isQuad_26 : decode b_Mo_isQuad 26 = .ok (.if_icmp .ge 39, 3) := by decide +kernel
theorem d_Mo_isQuad_29 : decode b_Mo_isQuad 29 = .ok (.aload_n 1, 1) := by decide +kernel
theorem d_Mo_isQuad_30 : decode b_Mo_isQuad 30 = .ok (.iload 7, 2) := by decide +kernel
theorem d_Mo_isQuad_32 : decode b_Mo_isQuad 32 = .ok (.baload, 1) := by decide +kernel
theorem d_Mo_isQuad_33 : decode b_Mo_isQuad 33 = .ok (.invokestatic 102, 3) := by decide +kernel
theorem d_Mo_isQuad_36 : decode b_Mo_isQuad 36 = .ok (.ifCond .eq 29, 3) := by decide +kernel
theorem d_Mo_isQuad_39 : decode b_Mo_isQuad 39 = .ok (.bipush 10, 2) := by decide +kernel
theorem d_Mo_isQuad_41 : decode b_Mo_isQuad 41 = .ok (.iload 6, 2) := by decide +kernel
theorem d_Mo_isQuad_43 : decode b_Mo_isQuad 43 = .ok (.imul, 1) := by decide +kernel
theorem d_Mo_isQuad_44 : decode b_Mo_isQuad 44 = .ok (.aload_n 1, 1) := by decide +kernel
theorem d_Mo_isQuad_45 : decode b_Mo_isQuad 45 = .ok (.iload 7, 2) := by decide +kernel
theorem d_Mo_isQuad_47 : decode b_Mo_isQuad 47 = .ok (.baload, 1) := by decide +kernel
theorem d_Mo_isQuad_48 : decode b_Mo_isQuad 48 = .ok (.iadd, 1) := by decide +kernel
theorem d_Mo_isQuad_49 : decode b_Mo_isQuad 49 = .ok (.bipush 48, 2) := by decide +kernel
theorem d_Mo_isQuad_51 : decode b_Mo_isQuad 51 = .ok (.isub, 1) := by decide +kernel
theorem d_Mo_isQuad_52 : decode b_Mo_isQuad 52 = .ok (.istore 6, 2) := by decide +kernel
theorem d_Mo_isQuad_54 : decode b_Mo_isQuad 54 = .ok (.iinc 5 1, 3) := by decide +kernel
theorem d_Mo_isQuad_57 : decode b_Mo_isQuad 57 = .ok (.iload 5, 2) := by decide +kernel
theorem d_Mo_isQuad_59 : decode b_Mo_isQuad 59 = .ok (.iconst 3, 1) := by decide +kernel
theorem d_Mo_isQuad_60 : decode b_Mo_isQuad 60 = .ok (.if_icmp .le 58, 3) := by decide +kernel
theorem d_Mo_isQuad_63 : decode b_Mo_isQuad 63 = .ok (.iconst 0, 1) := by decide +kernel
theorem d_Mo_isQuad_64 : decode b_Mo_isQuad 64 = .ok (.ireturn, 1) := by decide +kernel
theorem d_Mo_isQuad_65 : decode b_Mo_isQuad 65 = .ok (.iload 7, 2) := by decide +kernel
theorem d_Mo_isQuad_67 : decode b_Mo_isQuad 67 = .ok (.iload_n 3, 1) := by decide +kernel
theorem d_Mo_isQuad_68 : decode b_Mo_isQuad 68 = .ok (.if_icmp .ge 12, 3) := by decide +kernel
theorem d_Mo_isQuad_71 : decode b_Mo_isQuad 71 = .ok (.aload_n 1, 1) := by decide +kernel
theorem d_Mo_isQuad_72 : decode b_Mo_isQuad 72 = .ok (.iload 7, 2) := by decide +kernel
theorem d_Mo_isQuad_74 : decode b_Mo_isQuad 74 = .ok (.baload, 1) := by decide +kernel
theorem d_Mo_isQuad_75 : decode b_Mo_isQuad 75 = .ok (.bipush 46, 2) := by decide +kernel
theorem d_Mo_isQuad_77 : decode b_Mo_isQuad 77 = .ok (.if_icmp .ne 16, 3) := by decide +kernel
theorem d_Mo_isQuad_80 : decode b_Mo_isQuad 80 = .ok (.iload 5, 2) := by decide +kernel
theorem d_Mo_isQuad_82 : decode b_Mo_isQuad 82 = .ok (.ifCond .eq 11, 3) := by decide +kernel
theorem d_Mo_isQuad_85 : decode b_Mo_isQuad 85 = .ok (.iload 6, 2) := by decide +kernel
theorem d_Mo_isQuad_87 : decode b_Mo_isQuad 87 = .ok (.sipush 255, 3) := by decide +kernel
theorem d_Mo_isQuad_90 : decode b_Mo_isQuad 90 = .ok (.if_icmp .le 5, 3) := by decide +kernel
theorem d_Mo_isQuad_93 : decode b_Mo_isQuad 93 = .ok (.iconst 0, 1) := by decide +kernel
theorem d_Mo_isQuad_94 : decode b_Mo_isQuad 94 = .ok (.ireturn, 1) := by decide +kernel
theorem d_Mo_isQuad_95 : decode b_Mo_isQuad 95 = .ok (.aload_n 0, 1) := by decide +kernel
theorem d_Mo_isQuad_96 : decode b_Mo_isQuad 96 = .ok (.aload_n 0, 1) := by decide +kernel
theorem d_Mo_isQuad_97 : decode b_Mo_isQuad 97 = .ok (.getfield 132, 3) := by decide +kernel
theorem d_Mo_isQuad_100 : decode b_Mo_isQuad 100 = .ok (.bipush 8, 2) := by decide +kernel
theorem d_Mo_isQuad_102 : decode b_Mo_isQuad 102 = .ok (.ishl, 1) := by decide +kernel
theorem d_Mo_isQuad_103 : decode b_Mo_isQuad 103 = .ok (.iload 6, 2) := by decide +kernel
theorem d_Mo_isQuad_105 : decode b_Mo_isQuad 105 = .ok (.ior, 1) := by decide +kernel
theorem d_Mo_isQuad_106 : decode b_Mo_isQuad 106 = .ok (.putfield 132, 3) := by decide +kernel
theorem d_Mo_isQuad_109 : decode b_Mo_isQuad 109 = .ok (.iinc 4 1, 3) := by decide +kernel
theorem d_Mo_isQuad_112 : decode b_Mo_isQuad 112 = .ok (.iconst 0, 1) := by decide +kernel
theorem d_Mo_isQuad_113 : decode b_Mo_isQuad 113 = .ok (.istore 5, 2) := by decide +kernel
theorem d_Mo_isQuad_115 : decode b_Mo_isQuad 115 = .ok (.iconst 0, 1) := by decide +kernel
theorem d_Mo_isQuad_116 : decode b_Mo_isQuad 116 = .ok (.istore 6, 2) := by decide +kernel
theorem d_Mo_isQuad_118 : decode b_Mo_isQuad 118 = .ok (.iinc 7 1, 3) := by decide +kernel
theorem d_Mo_isQuad_121 : decode b_Mo_isQuad 121 = .ok (.goto (-104), 3) := by decide +kernel
theorem d_Mo_isQuad_124 : decode b_Mo_isQuad 124 = .ok (.iload 4, 2) := by decide +kernel
theorem d_Mo_isQuad_126 : decode b_Mo_isQuad 126 = .ok (.iconst 4, 1) := by decide +kernel
theorem d_Mo_isQuad_127 : decode b_Mo_isQuad 127 = .ok (.if_icmp .ne 7, 3) := by decide +kernel
theorem d_Mo_isQuad_130 : decode b_Mo_isQuad 130 = .ok (.iconst 1, 1) := by decide +kernel
theorem d_Mo_isQuad_131 : decode b_Mo_isQuad 131 = .ok (.goto 4, 3) := by decide +kernel
theorem d_Mo_isQuad_134 : decode b_Mo_isQuad 134 = .ok (.iconst 0, 1) := by decide +kernel
theorem d_Mo_isQuad_135 : decode b_Mo_isQuad 135 = .ok (.ireturn, 1) := by decide +kernel
theorem d_Mo_isSender_0 : decode b_Mo_isSender 0 = .ok (.iload_n 2, 1) := by decide +kernel
theorem d_Mo_isSender_1 : decode b_Mo_isSender 1 = .ok (.ifCond .eq 17, 3) := by decide +kernel
theorem d_Mo_isSender_4 : decode b_Mo_isSender 4 = .ok (.iload_n 1, 1) := by decide +kernel
theorem d_Mo_isSender_5 : decode b_Mo_isSender 5 = .ok (.aload_n 0, 1) := by decide +kernel
theorem d_Mo_isSender_6 : decode b_Mo_isSender 6 = .ok (.getfield 105, 3) := by decide +kernel
theorem d_Mo_isSender_9 : decode b_Mo_isSender 9 = .ok (.ixor, 1) := by decide +kernel
theorem d_Mo_isSender_10 : decode b_Mo_isSender 10 = .ok (.bipush 32, 2) := by decide +kernel
theorem d_Mo_isSender_12 : decode b_Mo_isSender 12 = .ok (.iload_n 2, 1) := by decide +kernel
theorem d_Mo_isSender_13 : decode b_Mo_isSender 13 = .ok (.isub, 1) := by decide +kernel
theorem d_Mo_isSender_14 : decode b_Mo_isSender 14 = .ok (.iushr, 1) := by decide +kernel
theorem d_Mo_isSender_15 : decode b_Mo_isSender 15 = .ok (.ifCond .ne 7, 3) := by decide +kernel
theorem d_Mo_isSender_18 : decode b_Mo_isSender 18 = .ok (.iconst 1, 1) := by decide +kernel
theorem d_Mo_isSender_19 : decode b_Mo_isSender 19 = .ok (.goto 4, 3) := by decide +kernel
theorem d_Mo_isSender_22 : decode b_Mo_isSender 22 = .ok (.iconst 0, 1) := by decide +kernel
theorem d_Mo_isSender_23 : decode b_Mo_isSender 23 = .ok (.ireturn, 1) := by decide +kernel
theorem d_Mo_isTrouble_0 : decode b_Mo_isTrouble 0 = .ok (.iconst 0, 1) := by decide +kernel
theorem d_Mo_isTrouble_1 : decode b_Mo_isTrouble 1 = .ok (.istore_n 2, 1) := by decide +kernel
theorem d_Mo_isTrouble_2 : decode b_Mo_isTrouble 2 = .ok (.iload_n 2, 1) := by decide +kernel
theorem d_Mo_isTrouble_3 : decode b_Mo_isTrouble 3 = .ok (.aload_n 0, 1) := by decide +kernel
theorem d_Mo_isTrouble_4 : decode b_Mo_isTrouble 4 = .ok (.getfield 73, 3) := by decide +kernel
theorem d_Mo_isTrouble_7 : decode b_Mo_isTrouble 7 = .ok (.if_icmp .ge 21, 3) := by decide +kernel
theorem d_Mo_isTrouble_10 : decode b_Mo_isTrouble 10 = .ok (.aload_n 0, 1) := by decide +kernel
theorem d_Mo_isTrouble_11 : decode b_Mo_isTrouble 11 = .ok (.iload_n 2, 1) := by decide +kernel
theorem d_Mo_isTrouble_12 : decode b_Mo_isTrouble 12 = .ok (.iconst 3, 1) := by decide +kernel
theorem d_Mo_isTrouble_13 : decode b_Mo_isTrouble 13 = .ok (.aload_n 1, 1) := by decide +kernel
theorem d_Mo_isTrouble_14 : decode b_Mo_isTrouble 14 = .ok (.invokevirtual 92, 3) := by decide +kernel
theorem d_Mo_isTrouble_17 : decode b_Mo_isTrouble 17 = .ok (.ifCond .eq 5, 3) := by decide +kernel
theorem d_Mo_isTrouble_20 : decode b_Mo_isTrouble 20 = .ok (.iconst 1, 1) := by decide +kernel
theorem d_Mo_isTrouble_21 : decode b_Mo_isTrouble 21 = .ok (.ireturn, 1) := by decide +kernel
theorem d_Mo_isTrouble_22 : decode b_Mo_isTrouble 22 = .ok (.iinc 2 1, 3) := by decide +kernel
theorem d_Mo_isTrouble_25 : decode b_Mo_isTrouble 25 = .ok (.goto (-23), 3) := by decide +kernel
theorem d_Mo_isTrouble_28 : decode b_Mo_isTrouble 28 = .ok (.iconst 0, 1) := by decide +kernel
theorem d_Mo_isTrouble_29 : decode b_Mo_isTrouble 29 = .ok (.ireturn, 1) := by decide +kernel
theorem d_Mo_macro_0 : decode b_Mo_macro 0 = .ok (.iload_n 1, 1) := by decide +kernel
theorem d_Mo_macro_1 : decode b_Mo_macro 1 = .ok (.iconst 1, 1) := by decide +kernel
theorem d_Mo_macro_2 : decode b_Mo_macro 2 = .ok (.iadd, 1) := by decide +kernel
theorem d_Mo_macro_3 : decode b_Mo_macro 3 = .ok (.iload_n 2, 1) := by decide +kernel
theorem d_Mo_macro_4 : decode b_Mo_macro 4 = .ok (.if_icmp .lt 5, 3) := by decide +kernel
theorem d_Mo_macro_7 : decode b_Mo_macro 7 = .ok (.iconst 0, 1) := by decide +kernel
theorem d_Mo_macro_8 : decode b_Mo_macro 8 = .ok (.ireturn, 1) := by decide +kernel
theorem d_Mo_macro_9 : decode b_Mo_macro 9 = .ok (.aload_n 0, 1) := by decide +kernel
theorem d_Mo_macro_10 : decode b_Mo_macro 10 = .ok (.iload_n 1, 1) := by decide +kernel
theorem d_Mo_macro_11 : decode b_Mo_macro 11 = .ok (.iconst 1, 1) := by decide +kernel
theorem d_Mo_macro_12 : decode b_Mo_macro 12 = .ok (.iadd, 1) := by decide +kernel
theorem d_Mo_macro_13 : decode b_Mo_macro 13 = .ok (.baload, 1) := by decide +kernel
theorem d_Mo_macro_14 : decode b_Mo_macro 14 = .ok (.istore_n 3, 1) := by decide +kernel
theorem d_Mo_macro_15 : decode b_Mo_macro 15 = .ok (.iload_n 3, 1) := by decide +kernel
theorem d_Mo_macro_16 : decode b_Mo_macro 16 = .ok (.bipush 37, 2) := by decide +kernel
theorem d_Mo_macro_18 : decode b_Mo_macro 18 = .ok (.if_icmp .eq 15, 3) := by decide +kernel
theorem d_Mo_macro_21 : decode b_Mo_macro 21 = .ok (.iload_n 3, 1) := by decide +kernel
theorem d_Mo_macro_22 : decode b_Mo_macro 22 = .ok (.bipush 95, 2) := by decide +kernel
theorem d_Mo_macro_24 : decode b_Mo_macro 24 = .ok (.if_icmp .eq 9, 3) := by decide +kernel
theorem d_Mo_macro_27 : decode b_Mo_macro 27 = .ok (.iload_n 3, 1) := by decide +kernel
theorem d_Mo_macro_28 : decode b_Mo_macro 28 = .ok (.bipush 45, 2) := by decide +kernel
theorem d_Mo_macro_30 : decode b_Mo_macro 30 = .ok (.if_icmp .ne 5, 3) := by decide +kernel
theorem d_Mo_macro_33 : decode b_Mo_macro 33 = .ok (.iconst 2, 1) := by decide +kernel
theorem d_Mo_macro_34 : decode b_Mo_macro 34 = .ok (.ireturn, 1) := by decide +kernel
theorem d_Mo_macro_35 : decode b_Mo_macro 35 = .ok (.iload_n 3, 1) := by decide +kernel
theorem d_Mo_macro_36 : decode b_Mo_macro 36 = .ok (.bipush 123, 2) := by decide +kernel
theorem d_Mo_macro_38 : decode b_Mo_macro 38 = .ok (.if_icmp .ne 10, 3) := by decide +kernel
theorem d_Mo_macro_41 : decode b_Mo_macro 41 = .ok (.iload_n 1, 1) := by decide +kernel
theorem d_Mo_macro_42 : decode b_Mo_macro 42 = .ok (.iconst 2, 1) := by decide +kernel
theorem d_Mo_macro_43 : decode b_Mo_macro 43 = .ok (.iadd, 1) := by decide +kernel
theorem d_Mo_macro_44 : decode b_Mo_macro 44 = .ok (.iload_n 2, 1) := by decide +kernel
theorem d_Mo_macro_45 : decode b_Mo_macro 45 = .ok (.if_icmp .lt 5, 3) := by decide +kernel
theorem d_Mo_macro_48 : decode b_Mo_macro 48 = .ok (.iconst 0, 1) := by decide +kernel
theorem d_Mo_macro_49 : decode b_Mo_macro 49 = .ok (.ireturn, 1) := by decide +kernel
theorem d_Mo_macro_50 : decode b_Mo_macro 50 = .ok (.aload_n 0, 1) := by decide +kernel
theorem d_Mo_macro_51 : decode b_Mo_macro 51 = .ok (.iload_n 1, 1) := by decide +kernel
theorem d_Mo_macro_52 : decode b_Mo_macro 52 = .ok (.iconst 2, 1) := by decide +kernel
theorem d_Mo_macro_53 : decode b_Mo_macro 53 = .ok (.iadd, 1) := by decide +kernel
theorem d_Mo_macro_54 : decode b_Mo_macro 54 = .ok (.baload, 1) := by decide +kernel
theorem d_Mo_macro_55 : decode b_Mo_macro 55 = .ok (.istore 4, 2) := by decide +kernel
theorem d_Mo_macro_57 : decode b_Mo_macro 57 = .ok (.iload_n 1, 1) := by decide +kernel
theorem d_Mo_macro_58 : decode b_Mo_macro 58 = .ok (.iconst 3, 1) := by decide +kernel
theorem d_Mo_macro_59 : decode b_Mo_macro 59 = .ok (.iadd, 1) := by decide +kernel
theorem d_Mo_macro_60 : decode b_Mo_macro 60 = .ok (.istore 5, 2) := by decide +kernel
theorem d_Mo_macro_62 : decode b_Mo_macro 62 = .ok (.iload 4, 2) := by decide +kernel
theorem d_Mo_macro_64 : decode b_Mo_macro 64 = .ok (.bipush 115, 2) := by decide +kernel
theorem d_Mo_macro_66 : decode b_Mo_macro 66 = .ok (.if_icmp .eq 33, 3) := by decide +kernel
theorem d_Mo_macro_69 : decode b_Mo_macro 69 = .ok (.iload 4, 2) := by decide +kernel
theorem d_Mo_macro_71 : decode b_Mo_macro 71 = .ok (.bipush 108, 2) := by decide +kernel
theorem d_Mo_macro_73 : decode b_Mo_macro 73 = .ok (.if_icmp .eq 26, 3) := by decide +kernel
theorem d_Mo_macro_76 : decode b_Mo_macro 76 = .ok (.iload 4, 2) := by decide +kernel
theorem d_Mo_macro_78 : decode b_Mo_macro 78 = .ok (.bipush 111, 2) := by decide +kernel
theorem d_Mo_macro_80 : decode b_Mo_macro 80 = .ok (.if_icmp .eq 19, 3) := by decide +kernel
theorem d_Mo_macro_83 : decode b_Mo_macro 83 = .ok (.iload 4, 2) := by decide +kernel
theorem d_Mo_macro_85 : decode b_Mo_macro 85 = .ok (.bipush 100, 2) := by decide +kernel
theorem d_Mo_macro_87 : decode b_Mo_macro 87 = .ok (.if_icmp .eq 12, 3) := by decide +kernel
theorem d_Mo_macro_90 : decode b_Mo_macro 90 = .ok (.iload 4, 2) := by decide +kernel
theorem d_Mo_macro_92 : decode b_Mo_macro 92 = .ok (.bipush 105, 2) := by decide +kernel
theorem d_Mo_macro_94 : decode b_Mo_macro 94 = .ok (.if_icmp .eq 5, 3) := by decide +kernel
theorem d_Mo_macro_97 : decode b_Mo_macro 97 = .ok (.iconst 0, 1) := by decide +kernel
theorem d_Mo_macro_98 : decode b_Mo_macro 98 = .ok (.ireturn, 1) := by decide +kernel
theorem d_Mo_macro_99 : decode b_Mo_macro 99 = .ok (.iload 5, 2) := by decide +kernel
theorem d_Mo_macro_101 : decode b_Mo_macro 101 = .ok (.iload_n 2, 1) := by decide +kernel
theorem d_Mo_macro_102 : decode b_Mo_macro 102 = .ok (.if_icmp .ge 24, 3) := by decide +kernel
theorem d_Mo_macro_105 : decode b_Mo_macro 105 = .ok (.aload_n 0, 1) := by decide +kernel
theorem d_Mo_macro_106 : decode b_Mo_macro 106 = .ok (.iload 5, 2) := by decide +kernel
theorem d_Mo_macro_108 : decode b_Mo_macro 108 = .ok (.baload, 1) := by decide +kernel
theorem d_Mo_macro_109 : decode b_Mo_macro 109 = .ok (.bipush 49, 2) := by decide +kernel
theorem d_Mo_macro_111 : decode b_Mo_macro 111 = .ok (.if_icmp .lt 15, 3) := by decide +kernel
theorem d_Mo_macro_114 : decode b_Mo_macro 114 = .ok (.aload_n 0, 1) := by decide +kernel
theorem d_Mo_macro_115 : decode b_Mo_macro 115 = .ok (.iload 5, 2) := by decide +kernel
theorem d_Mo_macro_117 : decode b_Mo_macro 117 = .ok (.baload, 1) := by decide +kernel
theorem d_Mo_macro_118 : decode b_Mo_macro 118 = .ok (.bipush 57, 2) := by decide +kernel
theorem d_Mo_macro_120 : decode b_Mo_macro 120 = .ok (.if_icmp .gt 6, 3) := by decide +kernel
theorem d_Mo_macro_123 : decode b_Mo_macro 123 = .ok (.iinc 5 1, 3) := by decide +kernel
theorem d_Mo_macro_126 : decode b_Mo_macro 126 = .ok (.iload 5, 2) := by decide +kernel
theorem d_Mo_macro_128 : decode b_Mo_macro 128 = .ok (.iload_n 2, 1) := by decide +kernel
theorem d_Mo_macro_129 : decode b_Mo_macro 129 = .ok (.if_icmp .ge 15, 3) := by decide +kernel
theorem d_Mo_macro_132 : decode b_Mo_macro 132 = .ok (.aload_n 0, 1) := by decide +kernel
theorem d_Mo_macro_133 : decode b_Mo_macro 133 = .ok (.iload 5, 2) := by decide +kernel
theorem d_Mo_macro_135 : decode b_Mo_macro 135 = .ok (.baload, 1) := by decide +kernel
theorem d_Mo_macro_136 : decode b_Mo_macro 136 = .ok (.bipush 114, 2) := by decide +kernel
theorem d_Mo_macro_138 : decode b_Mo_macro 138 = .ok (.if_icmp .ne 6, 3) := by decide +kernel
theorem d_Mo_macro_141 : decode b_Mo_macro 141 = .ok (.iinc 5 1, 3) := by decide +kernel
theorem d_Mo_macro_144 : decode b_Mo_macro 144 = .ok (.iload 5, 2) := by decide +kernel
theorem d_Mo_macro_146 : decode b_Mo_macro 146 = .ok (.iload_n 2, 1) := by decide +kernel
theorem d_Mo_macro_147 : decode b_Mo_macro 147 = .ok (.if_icmp .ge 21, 3) := by decide +kernel
theorem d_Mo_macro_150 : decode b_Mo_macro 150 = .ok (.aload_n 0, 1) := by decide +kernel
theorem d_Mo_macro_151 : decode b_Mo_macro 151 = .ok (.iload 5, 2) := by decide +kernel
theorem d_Mo_macro_153 : decode b_Mo_macro 153 = .ok (.baload, 1) := by decide +kernel
theorem d_Mo_macro_154 : decode b_Mo_macro 154 = .ok (.bipush 125, 2) := by decide +kernel
theorem d_Mo_macro_156 : decode b_Mo_macro 156 = .ok (.if_icmp .ne 12, 3) := by decide +kernel
theorem d_Mo_macro_159 : decode b_Mo_macro 159 = .ok (.iload 5, 2) := by decide +kernel
theorem d_Mo_macro_161 : decode b_Mo_macro 161 = .ok (.iconst 1, 1) := by decide +kernel
theorem d_Mo_macro_162 : decode b_Mo_macro 162 = .ok (.iadd, 1) := by decide +kernel
theorem d_Mo_macro_163 : decode b_Mo_macro 163 = .ok (.iload_n 1, 1) := by decide +kernel
theorem d_Mo_macro_164 : decode b_Mo_macro 164 = .ok (.isub, 1) := by decide +kernel
theorem d_Mo_macro_165 : decode b_Mo_macro 165 = .ok (.goto 4, 3) := by decide +kernel
theorem d_Mo_macro_168 : decode b_Mo_macro 168 = .ok (.iconst 0, 1) := by decide +kernel
theorem d_Mo_macro_169 : decode b_Mo_macro 169 = .ok (.ireturn, 1) := by decide +kernel
theorem d_Mo_macroValue_0 : decode b_Mo_macroValue 0 = .ok (.aload_n 1, 1) := by decide +kernel
theorem d_Mo_macroValue_1 : decode b_Mo_macroValue 1 = .ok (.iload_n 2, 1) := by decide +kernel
theorem d_Mo_macroValue_2 : decode b_Mo_macroValue 2 = .ok (.baload, 1) := by decide +kernel
theorem d_Mo_macroValue_3 : decode b_Mo_macroValue 3 = .ok (.istore 6, 2) := by decide +kernel
theorem d_Mo_macroValue_5 : decode b_Mo_macroValue 5 = .ok (.iconst 0, 1) := by decide +kernel
theorem d_Mo_macroValue_6 : decode b_Mo_macroValue 6 = .ok (.istore 7, 2) := by decide +kernel
theorem d_Mo_macroValue_8 : decode b_Mo_macroValue 8 = .ok (.iconst 0, 1) := by decide +kernel
theorem d_Mo_macroValue_9 : decode b_Mo_macroValue 9 = .ok (.istore 8, 2) := by decide +kernel
theorem d_Mo_macroValue_11 : decode b_Mo_macroValue 11 = .ok (.aload_n 1, 1) := by decide +kernel
theorem d_Mo_macroValue_12 : decode b_Mo_macroValue 12 = .ok (.iload_n 3, 1) := by decide +kernel
theorem d_Mo_macroValue_13 : decode b_Mo_macroValue 13 = .ok (.iconst 1, 1) := by decide +kernel
theorem d_Mo_macroValue_14 : decode b_Mo_macroValue 14 = .ok (.isub, 1) := by decide +kernel
theorem d_Mo_macroValue_15 : decode b_Mo_macroValue 15 = .ok (.baload, 1) := by decide +kernel
theorem d_Mo_macroValue_16 : decode b_Mo_macroValue 16 = .ok (.bipush 114, 2) := by decide +kernel
theorem d_Mo_macroValue_18 : decode b_Mo_macroValue 18 = .ok (.if_icmp .ne 14, 3) := by decide +kernel
theorem d_Mo_macroValue_21 : decode b_Mo_macroValue 21 = .ok (.iload_n 3, 1) := by decide +kernel
theorem d_Mo_macroValue_22 : decode b_Mo_macroValue 22 = .ok (.iconst 1, 1) := by decide +kernel
theorem d_Mo_macroValue_23 : decode b_Mo_macroValue 23 = .ok (.isub, 1) := by decide +kernel
theorem d_Mo_macroValue_24 : decode b_Mo_macroValue 24 = .ok (.iload_n 2, 1) := by decide +kernel
theorem d_Mo_macroValue_25 : decode b_Mo_macroValue 25 = .ok (.if_icmp .le 7, 3) := by decide +kernel
theorem d_Mo_macroValue_28 : decode b_Mo_macroValue 28 = .ok (.iconst 1, 1) := by decide +kernel
theorem d_Mo_macroValue_29 : decode b_Mo_macroValue 29 = .ok (.goto 4, 3) := by decide +kernel
theorem d_Mo_macroValue_32 : decode b_Mo_macroValue 32 = .ok (.iconst 0, 1) := by decide +kernel
theorem d_Mo_macroValue_33 : decode b_Mo_macroValue 33 = .ok (.istore 9, 2) := by decide +kernel
theorem d_Mo_macroValue_35 : decode b_Mo_macroValue 35 = .ok (.iload_n 2, 1) := by decide +kernel
theorem d_Mo_macroValue_36 : decode b_Mo_macroValue 36 = .ok (.iconst 1, 1) := by decide +kernel
theorem d_Mo_macroValue_37 : decode b_Mo_macroValue 37 = .ok (.iadd, 1) := by decide +kernel
theorem d_Mo_macroValue_38 : decode b_Mo_macroValue 38 = .ok (.istore 10, 2) := by decide +kernel
theorem d_Mo_macroValue_40 : decode b_Mo_macroValue 40 = .ok (.iload 10, 2) := by decide +kernel
theorem d_Mo_macroValue_42 : decode b_Mo_macroValue 42 = .ok (.iload_n 3, 1) := by decide +kernel
theorem d_Mo_macroValue_43 : decode b_Mo_macroValue 43 = .ok (.if_icmp .ge 28, 3) := by decide +kernel
theorem d_Mo_macroValue_46 : decode b_Mo_macroValue 46 = .ok (.aload_n 1, 1) := by decide +kernel
theorem d_Mo_macroValue_47 : decode b_Mo_macroValue 47 = .ok (.iload 10, 2) := by decide +kernel
theorem d_Mo_macroValue_49 : decode b_Mo_macroValue 49 = .ok (.baload, 1) := by decide +kernel
theorem d_Mo_macroValue_50 : decode b_Mo_macroValue 50 = .ok (.invokestatic 102, 3) := by decide +kernel
theorem d_Mo_macroValue_53 : decode b_Mo_macroValue 53 = .ok (.ifCond .eq 12, 3) := by decide +kernel
theorem d_Mo_macroValue_56 : decode b_Mo_macroValue 56 = .ok (.aload_n 1, 1) := by decide +kernel
theorem d_Mo_macroValue_57 : decode b_Mo_macroValue 57 = .ok (.iload 10, 2) := by decide +kernel
theorem d_Mo_macroValue_59 : decode b_Mo_macroValue 59 = .ok (.baload, 1) := by decide +kernel
theorem d_Mo_macroValue_60 : decode b_Mo_macroValue 60 = .ok (.bipush 48, 2) := by decide +kernel
theorem d_Mo_macroValue_62 : decode b_Mo_macroValue 62 = .ok (.isub, 1) := by decide +kernel
theorem d_Mo_macroValue_63 : decode b_Mo_macroValue 63 = .ok (.istore 8, 2) := by decide +kernel
theorem d_Mo_macroValue_65 : decode b_Mo_macroValue 65 = .ok (.iinc 10 1, 3) := by decide +kernel
theorem d_Mo_macroValue_68 : decode b_Mo_macroValue 68 = .ok (.goto (-28), 3) := by decide +kernel
theorem d_Mo_macroValue_71 : decode b_Mo_macroValue 71 = .ok (.aload_n 0, 1) := by decide +kernel
theorem d_Mo_macroValue_72 : decode b_Mo_macroValue 72 = .ok (.getfield 59, 3) := by decide +kernel
theorem d_Mo_macroValue_75 : decode b_Mo_macroValue 75 = .ok (.iconst 0, 1) := by decide +kernel
theorem d_Mo_macroValue_76 : decode b_Mo_macroValue 76 = .ok (.putfield 86, 3) := by decide +kernel
theorem d_Mo_macroValue_79 : decode b_Mo_macroValue 79 = .ok (.iload 6, 2) := by decide +kernel
theorem d_Mo_macroValue_81 : decode b_Mo_macroValue 81 = .ok (.bipush 115, 2) := by decide +kernel
theorem d_Mo_macroValue_83 : decode b_Mo_macroValue 83 = .ok (.if_icmp .eq 10, 3) := by decide +kernel
theorem d_Mo_macroValue_86 : decode b_Mo_macroValue 86 = .ok (.iload 6, 2) := by decide +kernel
theorem d_Mo_macroValue_88 : decode b_Mo_macroValue 88 = .ok (.bipush 108, 2) := by decide +kernel
theorem d_Mo_macroValue_90 : decode b_Mo_macroValue 90 = .ok (.if_icmp .ne 25, 3) := by decide +kernel
theorem d_Mo_macroValue_93 : decode b_Mo_macroValue 93 = .ok (.aload_n 0, 1) := by decide +kernel
theorem d_Mo_macroValue_94 : decode b_Mo_macroValue 94 = .ok (.getfield 59, 3) := by decide +kernel
theorem d_Mo_macroValue_97 : decode b_Mo_macroValue 97 = .ok (.aload_n 0, 1) := by decide +kernel
theorem d_Mo_macroValue_98 : decode b_Mo_macroValue 98 = .ok (.getfield 50, 3) := by decide +kernel
theorem d_Mo_macroValue_101 : decode b_Mo_macroValue 101 = .ok (.getfield 192, 3) := by decide +kernel
theorem d_Mo_macroValue_104 : decode b_Mo_macroValue 104 = .ok (.iconst 0, 1) := by decide +kernel
theorem d_Mo_macroValue_105 : decode b_Mo_macroValue 105 = .ok (.aload_n 0, 1) := by decide +kernel
theorem d_Mo_macroValue_106 : decode b_Mo_macroValue 106 = .ok (.getfield 50, 3) := by decide +kernel
theorem d_Mo_macroValue_109 : decode b_Mo_macroValue 109 = .ok (.getfield 86, 3) := by decide +kernel
theorem d_Mo_macroValue_112 : decode b_Mo_macroValue 112 = .ok (.invokevirtual 198, 3) := by decide +kernel
theorem d_Mo_macroValue_115 : decode b_Mo_macroValue 115 = .ok (.iload 6, 2) := by decide +kernel
theorem d_Mo_macroValue_117 : decode b_Mo_macroValue 117 = .ok (.bipush 115, 2) := by decide +kernel
theorem d_Mo_macroValue_119 : decode b_Mo_macroValue 119 = .ok (.if_icmp .ne 12, 3) := by decide +kernel
theorem d_Mo_macroValue_122 : decode b_Mo_macroValue 122 = .ok (.aload_n 0, 1) := by decide +kernel
theorem d_Mo_macroValue_123 : decode b_Mo_macroValue 123 = .ok (.getfield 59, 3) := by decide +kernel
theorem d_Mo_macroValue_126 : decode b_Mo_macroValue 126 = .ok (.bipush 64, 2) := by decide +kernel
theorem d_Mo_macroValue_128 : decode b_Mo_macroValue 128 = .ok (.invokevirtual 195, 3) := by decide +kernel
theorem d_Mo_macroValue_131 : decode b_Mo_macroValue 131 = .ok (.iload 6, 2) := by decide +kernel
theorem d_Mo_macroValue_133 : decode b_Mo_macroValue 133 = .ok (.bipush 115, 2) := by decide +kernel
theorem d_Mo_macroValue_135 : decode b_Mo_macroValue 135 = .ok (.if_icmp .eq 10, 3) := by decide +kernel
theorem d_Mo_macroValue_138 : decode b_Mo_macroValue 138 = .ok (.iload 6, 2) := by decide +kernel
theorem d_Mo_macroValue_140 : decode b_Mo_macroValue 140 = .ok (.bipush 111, 2) := by decide +kernel
theorem d_Mo_macroValue_142 : decode b_Mo_macroValue 142 = .ok (.if_icmp .ne 25, 3) := by decide +kernel
theorem d_Mo_macroValue_145 : decode b_Mo_macroValue 145 = .ok (.aload_n 0, 1) := by decide +kernel
theorem d_Mo_macroValue_146 : decode b_Mo_macroValue 146 = .ok (.getfield 59, 3) := by decide +kernel
theorem d_Mo_macroValue_149 : decode b_Mo_macroValue 149 = .ok (.aload_n 0, 1) := by decide +kernel
theorem d_Mo_macroValue_150 : decode b_Mo_macroValue 150 = .ok (.getfield 53, 3) := by decide +kernel
theorem d_Mo_macroValue_153 : decode b_Mo_macroValue 153 = .ok (.getfield 192, 3) := by decide +kernel
theorem d_Mo_macroValue_156 : decode b_Mo_macroValue 156 = .ok (.iconst 0, 1) := by decide +kernel
theorem d_Mo_macroValue_157 : decode b_Mo_macroValue 157 = .ok (.aload_n 0, 1) := by decide +kernel
theorem d_Mo_macroValue_158 : decode b_Mo_macroValue 158 = .ok (.getfield 53, 3) := by decide +kernel
theorem d_Mo_macroValue_161 : decode b_Mo_macroValue 161 = .ok (.getfield 86, 3) := by decide +kernel
theorem d_Mo_macroValue_164 : decode b_Mo_macroValue 164 = .ok (.invokevirtual 198, 3) := by decide +kernel
theorem d_Mo_macroValue_167 : decode b_Mo_macroValue 167 = .ok (.iload 6, 2) := by decide +kernel
theorem d_Mo_macroValue_169 : decode b_Mo_macroValue 169 = .ok (.bipush 100, 2) := by decide +kernel
theorem d_Mo_macroValue_171 : decode b_Mo_macroValue 171 = .ok (.if_icmp .ne 21, 3) := by decide +kernel
theorem d_Mo_macroValue_174 : decode b_Mo_macroValue 174 = .ok (.aload_n 0, 1) := by decide +kernel
theorem d_Mo_macroValue_175 : decode b_Mo_macroValue 175 = .ok (.getfield 59, 3) := by decide +kernel
theorem d_Mo_macroValue_178 : decode b_Mo_macroValue 178 = .ok (.aload 4, 2) := by decide +kernel
theorem d_Mo_macroValue_180 : decode b_Mo_macroValue 180 = .ok (.getfield 192, 3) := by decide +kernel
theorem d_Mo_macroValue_183 : decode b_Mo_macroValue 183 = .ok (.iconst 0, 1) := by decide +kernel
theorem d_Mo_macroValue_184 : decode b_Mo_macroValue 184 = .ok (.aload 4, 2) := by decide +kernel
theorem d_Mo_macroValue_186 : decode b_Mo_macroValue 186 = .ok (.getfield 86, 3) := by decide +kernel
theorem d_Mo_macroValue_189 : decode b_Mo_macroValue 189 = .ok (.invokevirtual 198, 3) := by decide +kernel
theorem d_Mo_macroValue_192 : decode b_Mo_macroValue 192 = .ok (.bipush 24, 2) := by decide +kernel
theorem d_Mo_macroValue_194 : decode b_Mo_macroValue 194 = .ok (.istore 10, 2) := by decide +kernel
theorem d_Mo_macroValue_196 : decode b_Mo_macroValue 196 = .ok (.iload 6, 2) := by decide +kernel
theorem d_Mo_macroValue_198 : decode b_Mo_macroValue 198 = .ok (.bipush 105, 2) := by decide +kernel
theorem d_Mo_macroValue_200 : decode b_Mo_macroValue 200 = .ok (.if_icmp .ne 103, 3) := by decide +kernel
theorem d_Mo_macroValue_203 : decode b_Mo_macroValue 203 = .ok (.iload 10, 2) := by decide +kernel
theorem d_Mo_macroValue_205 : decode b_Mo_macroValue 205 = .ok (.ifCond .lt 98, 3) := by decide +kernel
theorem d_Mo_macroValue_208 : decode b_Mo_macroValue 208 = .ok (.aload_n 0, 1) := by decide +kernel
theorem d_Mo_macroValue_209 : decode b_Mo_macroValue 209 = .ok (.getfield 105, 3) := by decide +kernel
theorem d_Mo_macroValue_212 : decode b_Mo_macroValue 212 = .ok (.iload 10, 2) := by decide +kernel
theorem d_Mo_macroValue_214 : decode b_Mo_macroValue 214 = .ok (.ishr, 1) := by decide +kernel
theorem d_Mo_macroValue_215 : decode b_Mo_macroValue 215 = .ok (.sipush 255, 3) := by decide +kernel
theorem d_Mo_macroValue_218 : decode b_Mo_macroValue 218 = .ok (.iand, 1) := by decide +kernel
theorem d_Mo_macroValue_219 : decode b_Mo_macroValue 219 = .ok (.istore 11, 2) := by decide +kernel
theorem d_Mo_macroValue_221 : decode b_Mo_macroValue 221 = .ok (.iload 11, 2) := by decide +kernel
theorem d_Mo_macroValue_223 : decode b_Mo_macroValue 223 = .ok (.bipush 99, 2) := by decide +kernel
theorem d_Mo_macroValue_225 : decode b_Mo_macroValue 225 = .ok (.if_icmp .le 18, 3) := by decide +kernel
theorem d_Mo_macroValue_228 : decode b_Mo_macroValue 228 = .ok (.aload_n 0, 1) := by decide +kernel
theorem d_Mo_macroValue_229 : decode b_Mo_macroValue 229 = .ok (.getfield 59, 3) := by decide +kernel
theorem d_Mo_macroValue_232 : decode b_Mo_macroValue 232 = .ok (.bipush 48, 2) := by decide +kernel
theorem d_Mo_macroValue_234 : decode b_Mo_macroValue 234 = .ok (.iload 11, 2) := by decide +kernel
theorem d_Mo_macroValue_236 : decode b_Mo_macroValue 236 = .ok (.bipush 100, 2) := by decide +kernel
theorem d_Mo_macroValue_238 : decode b_Mo_macroValue 238 = .ok (.idiv, 1) := by decide +kernel
theorem d_Mo_macroValue_239 : decode b_Mo_macroValue 239 = .ok (.iadd, 1) := by decide +kernel
theorem d_Mo_macroValue_240 : decode b_Mo_macroValue 240 = .ok (.invokevirtual 195, 3) := by decide +kernel
theorem d_Mo_macroValue_243 : decode b_Mo_macroValue 243 = .ok (.iload 11, 2) := by decide +kernel
theorem d_Mo_macroValue_245 : decode b_Mo_macroValue 245 = .ok (.bipush 9, 2) := by decide +kernel
theorem d_Mo_macroValue_247 : decode b_Mo_macroValue 247 = .ok (.if_icmp .le 21, 3) := by decide +kernel
theorem d_Mo_macroValue_250 : decode b_Mo_macroValue 250 = .ok (.aload_n 0, 1) := by decide +kernel
theorem d_Mo_macroValue_251 : decode b_Mo_macroValue 251 = .ok (.getfield 59, 3) := by decide +kernel
theorem d_Mo_macroValue_254 : decode b_Mo_macroValue 254 = .ok (.bipush 48, 2) := by decide +kernel
theorem d_Mo_macroValue_256 : decode b_Mo_macroValue 256 = .ok (.iload 11, 2) := by decide +kernel
theorem d_Mo_macroValue_258 : decode b_Mo_macroValue 258 = .ok (.bipush 10, 2) := by decide +kernel
theorem d_Mo_macroValue_260 : decode b_Mo_macroValue 260 = .ok (.idiv, 1) := by decide +kernel
theorem d_Mo_macroValue_261 : decode b_Mo_macroValue 261 = .ok (.bipush 10, 2) := by decide +kernel
theorem d_Mo_macroValue_263 : decode b_Mo_macroValue 263 = .ok (.irem, 1) := by decide +kernel
theorem d_Mo_macroValue_264 : decode b_Mo_macroValue 264 = .ok (.iadd, 1) := by decide +kernel
theorem d_Mo_macroValue_265 : decode b_Mo_macroValue 265 = .ok (.invokevirtual 195, 3) := by decide +kernel
theorem d_Mo_macroValue_268 : decode b_Mo_macroValue 268 = .ok (.aload_n 0, 1) := by decide +kernel
theorem d_Mo_macroValue_269 : decode b_Mo_macroValue 269 = .ok (.getfield 59, 3) := by decide +kernel
theorem d_Mo_macroValue_272 : decode b_Mo_macroValue 272 = .ok (.bipush 48, 2) := by decide +kernel
theorem d_Mo_macroValue_274 : decode b_Mo_macroValue 274 = .ok (.iload 11, 2) := by decide +kernel
theorem d_Mo_macroValue_276 : decode b_Mo_macroValue 276 = .ok (.bipush 10, 2) := by decide +kernel
theorem d_Mo_macroValue_278 : decode b_Mo_macroValue 278 = .ok (.irem, 1) := by decide +kernel
theorem d_Mo_macroValue_279 : decode b_Mo_macroValue 279 = .ok (.iadd, 1) := by decide +kernel
theorem d_Mo_macroValue_280 : decode b_Mo_macroValue 280 = .ok (.invokevirtual 195, 3) := by decide +kernel
theorem d_Mo_macroValue_283 : decode b_Mo_macroValue 283 = .ok (.iload 10, 2) := by decide +kernel
theorem d_Mo_macroValue_285 : decode b_Mo_macroValue 285 = .ok (.ifCond .le 12, 3) := by decide +kernel
theorem d_Mo_macroValue_288 : decode b_Mo_macroValue 288 = .ok (.aload_n 0, 1) := by decide +kernel
theorem d_Mo_macroValue_289 : decode b_Mo_macroValue 289 = .ok (.getfield 59, 3) := by decide +kernel
theorem d_Mo_macroValue_292 : decode b_Mo_macroValue 292 = .ok (.bipush 46, 2) := by decide +kernel
theorem d_Mo_macroValue_294 : decode b_Mo_macroValue 294 = .ok (.invokevirtual 195, 3) := by decide +kernel
theorem d_Mo_macroValue_297 : decode b_Mo_macroValue 297 = .ok (.iinc 10 (-8), 3) := by decide +kernel
theorem d_Mo_macroValue_300 : decode b_Mo_macroValue 300 = .ok (.goto (-104), 3) := by decide +kernel
theorem d_Mo_macroValue_303 : decode b_Mo_macroValue 303 = .ok (.iconst 1, 1) := by decide +kernel
theorem d_Mo_macroValue_304 : decode b_Mo_macroValue 304 = .ok (.istore 7, 2) := by decide +kernel
theorem d_Mo_macroValue_306 : decode b_Mo_macroValue 306 = .ok (.iconst 0, 1) := by decide +kernel
theorem d_Mo_macroValue_307 : decode b_Mo_macroValue 307 = .ok (.istore 10, 2) := by decide +kernel
theorem d_Mo_macroValue_309 : decode b_Mo_macroValue 309 = .ok (.iload 10, 2) := by decide +kernel
theorem d_Mo_macroValue_311 : decode b_Mo_macroValue 311 = .ok (.aload_n 0, 1) := by decide +kernel
theorem d_Mo_macroValue_312 : decode b_Mo_macroValue 312 = .ok (.getfield 59, 3) := by decide +kernel
theorem d_Mo_macroValue_315 : decode b_Mo_macroValue 315 = .ok (.getfield 86, 3) := by decide +kernel
theorem d_Mo_macroValue_318 : decode b_Mo_macroValue 318 = .ok (.if_icmp .ge 27, 3) := by decide +kernel
theorem d_Mo_macroValue_321 : decode b_Mo_macroValue 321 = .ok (.aload_n 0, 1) := by decide +kernel
theorem d_Mo_macroValue_322 : decode b_Mo_macroValue 322 = .ok (.getfield 59, 3) := by decide +kernel
theorem d_Mo_macroValue_325 : decode b_Mo_macroValue 325 = .ok (.getfield 192, 3) := by decide +kernel
theorem d_Mo_macroValue_328 : decode b_Mo_macroValue 328 = .ok (.iload 10, 2) := by decide +kernel
theorem d_Mo_macroValue_330 : decode b_Mo_macroValue 330 = .ok (.baload, 1) := by decide +kernel
theorem d_Mo_macroValue_331 : decode b_Mo_macroValue 331 = .ok (.bipush 46, 2) := by decide +kernel
theorem d_Mo_macroValue_333 : decode b_Mo_macroValue 333 = .ok (.if_icmp .ne 6, 3) := by decide +kernel
theorem d_Mo_macroValue_336 : decode b_Mo_macroValue 336 = .ok (.iinc 7 1, 3) := by decide +kernel
theorem d_Mo_macroValue_339 : decode b_Mo_macroValue 339 = .ok (.iinc 10 1, 3) := by decide +kernel
theorem d_Mo_macroValue_342 : decode b_Mo_macroValue 342 = .ok (.goto (-33), 3) := by decide +kernel
theorem d_Mo_macroValue_345 : decode b_Mo_macroValue 345 = .ok (.iload 8, 2) := by decide +kernel
theorem d_Mo_macroValue_347 : decode b_Mo_macroValue 347 = .ok (.ifCond .eq 10, 3) := by decide +kernel
theorem d_Mo_macroValue_350 : decode b_Mo_macroValue 350 = .ok (.iload 8, 2) := by decide +kernel
theorem d_Mo_macroValue_352 : decode b_Mo_macroValue 352 = .ok (.iload 7, 2) := by decide +kernel
theorem d_Mo_macroValue_354 : decode b_Mo_macroValue 354 = .ok (.if_icmp .lt 7, 3) := by decide +kernel
theorem d_Mo_macroValue_357 : decode b_Mo_macroValue 357 = .ok (.iconst 0, 1) := by decide +kernel
theorem d_Mo_macroValue_358 : decode b_Mo_macroValue 358 = .ok (.goto 8, 3) := by decide +kernel
theorem d_Mo_macroValue_361 : decode b_Mo_macroValue 361 = .ok (.iload 7, 2) := by decide +kernel
theorem d_Mo_macroValue_363 : decode b_Mo_macroValue 363 = .ok (.iload 8, 2) := by decide +kernel
theorem d_Mo_macroValue_365 : decode b_Mo_macroValue 365 = .ok (.isub, 1) := by decide +kernel
theorem d_Mo_macroValue_366 : decode b_Mo_macroValue 366 = .ok (.istore 10, 2) := by decide +kernel
theorem d_Mo_macroValue_368 : decode b_Mo_macroValue 368 = .ok (.iload 10, 2) := by decide +kernel
theorem d_Mo_macroValue_370 : decode b_Mo_macroValue 370 = .ok (.istore 11, 2) := by decide +kernel
theorem d_Mo_macroValue_372 : decode b_Mo_macroValue 372 = .ok (.iload 11, 2) := by decide +kernel
theorem d_Mo_macroValue_374 : decode b_Mo_macroValue 374 = .ok (.iload 7, 2) := by decide +kernel
theorem d_Mo_macroValue_376 : decode b_Mo_macroValue 376 = .ok (.if_icmp .ge 46, 3) := by decide +kernel
theorem d_Mo_macroValue_379 : decode b_Mo_macroValue 379 = .ok (.iload 11, 2) := by decide +kernel
theorem d_Mo_macroValue_381 : decode b_Mo_macroValue 381 = .ok (.iload 10, 2) := by decide +kernel
theorem d_Mo_macroValue_383 : decode b_Mo_macroValue 383 = .ok (.if_icmp .le 10, 3) := by decide +kernel
theorem d_Mo_macroValue_386 : decode b_Mo_macroValue 386 = .ok (.aload 5, 2) := by decide +kernel
theorem d_Mo_macroValue_388 : decode b_Mo_macroValue 388 = .ok (.bipush 46, 2) := by decide +kernel
theorem d_Mo_macroValue_390 : decode b_Mo_macroValue 390 = .ok (.invokestatic 184, 3) := by decide +kernel
theorem d_Mo_macroValue_393 : decode b_Mo_macroValue 393 = .ok (.aload_n 0, 1) := by decide +kernel
theorem d_Mo_macroValue_394 : decode b_Mo_macroValue 394 = .ok (.iload 9, 2) := by decide +kernel
theorem d_Mo_macroValue_396 : decode b_Mo_macroValue 396 = .ok (.ifCond .eq 13, 3) := by decide +kernel
theorem d_Mo_macroValue_399 : decode b_Mo_macroValue 399 = .ok (.iload 7, 2) := by decide +kernel
theorem d_Mo_macroValue_401 : decode b_Mo_macroValue 401 = .ok (.iconst 1, 1) := by decide +kernel
theorem d_Mo_macroValue_402 : decode b_Mo_macroValue 402 = .ok (.isub, 1) := by decide +kernel
theorem d_Mo_macroValue_403 : decode b_Mo_macroValue 403 = .ok (.iload 11, 2) := by decide +kernel
theorem d_Mo_macroValue_405 : decode b_Mo_macroValue 405 = .ok (.isub, 1) := by decide +kernel
theorem d_Mo_macroValue_406 : decode b_Mo_macroValue 406 = .ok (.goto 5, 3) := by decide +kernel
theorem d_Mo_macroValue_409 : decode b_Mo_macroValue 409 = .ok (.iload 11, 2) := by decide +kernel
theorem d_Mo_macroValue_411 : decode b_Mo_macroValue 411 = .ok (.aload 5, 2) := by decide +kernel
theorem d_Mo_macroValue_413 : decode b_Mo_macroValue 413 = .ok (.invokevirtual 200, 3) := by decide +kernel
theorem d_Mo_macroValue_416 : decode b_Mo_macroValue 416 = .ok (.iinc 11 1, 3) := by decide +kernel
theorem d_Mo_macroValue_419 : decode b_Mo_macroValue 419 = .ok (.goto (-47), 3) := by decide +kernel
theorem d_Mo_macroValue_422 : decode b_Mo_macroValue 422 = .ok (.return_, 1) := by decide +kernel
theorem d_Mo_matches_0 : decode b_Mo_matches 0 = .ok (.aload_n 0, 1) := by decide +kernel
theorem d_Mo_matches_1 : decode b_Mo_matches 1 = .ok (.getfield 138, 3) := by decide +kernel
theorem d_Mo_matches_4 : decode b_Mo_matches 4 = .ok (.ifCond .ne 5, 3) := by decide +kernel
theorem d_Mo_matches_7 : decode b_Mo_matches 7 = .ok (.iconst 1, 1) := by decide +kernel
theorem d_Mo_matches_8 : decode b_Mo_matches 8 = .ok (.ireturn, 1) := by decide +kernel
theorem d_Mo_matches_9 : decode b_Mo_matches 9 = .ok (.aload_n 0, 1) := by decide +kernel
theorem d_Mo_matches_10 : decode b_Mo_matches 10 = .ok (.getfield 138, 3) := by decide +kernel
theorem d_Mo_matches_13 : decode b_Mo_matches 13 = .ok (.iconst 4, 1) := by decide +kernel
theorem d_Mo_matches_14 : decode b_Mo_matches 14 = .ok (.if_icmp .ne 24, 3) := by decide +kernel
theorem d_Mo_matches_17 : decode b_Mo_matches 17 = .ok (.aload_n 0, 1) := by decide +kernel
theorem d_Mo_matches_18 : decode b_Mo_matches 18 = .ok (.aload_n 0, 1) := by decide +kernel
theorem d_Mo_matches_19 : decode b_Mo_matches 19 = .ok (.getfield 132, 3) := by decide +kernel
theorem d_Mo_matches_22 : decode b_Mo_matches 22 = .ok (.aload_n 0, 1) := by decide +kernel
theorem d_Mo_matches_23 : decode b_Mo_matches 23 = .ok (.getfield 147, 3) := by decide +kernel
theorem d_Mo_matches_26 : decode b_Mo_matches 26 = .ok (.invokevirtual 231, 3) := by decide +kernel
theorem d_Mo_matches_29 : decode b_Mo_matches 29 = .ok (.ifCond .eq 7, 3) := by decide +kernel
theorem d_Mo_matches_32 : decode b_Mo_matches 32 = .ok (.iconst 1, 1) := by decide +kernel
theorem d_Mo_matches_33 : decode b_Mo_matches 33 = .ok (.goto 4, 3) := by decide +kernel
theorem d_Mo_matches_36 : decode b_Mo_matches 36 = .ok (.iconst 0, 1) := by decide +kernel
theorem d_Mo_matches_37 : decode b_Mo_matches 37 = .ok (.ireturn, 1) := by decide +kernel
theorem d_Mo_matches_38 : decode b_Mo_matches 38 = .ok (.aload_n 0, 1) := by decide +kernel
theorem d_Mo_matches_39 : decode b_Mo_matches 39 = .ok (.getfield 138, 3) := by decide +kernel
theorem d_Mo_matches_42 : decode b_Mo_matches 42 = .ok (.istore 4, 2) := by decide +kernel
theorem d_Mo_matches_44 : decode b_Mo_matches 44 = .ok (.aload_n 0, 1) := by decide +kernel
theorem d_Mo_matches_45 : decode b_Mo_matches 45 = .ok (.getfield 147, 3) := by decide +kernel
theorem d_Mo_matches_48 : decode b_Mo_matches 48 = .ok (.istore 5, 2) := by decide +kernel
theorem d_Mo_matches_50 : decode b_Mo_matches 50 = .ok (.aload_n 0, 1) := by decide +kernel
theorem d_Mo_matches_51 : decode b_Mo_matches 51 = .ok (.dup, 1) := by decide +kernel
theorem d_Mo_matches_52 : decode b_Mo_matches 52 = .ok (.getfield 112, 3) := by decide +kernel
theorem d_Mo_matches_55 : decode b_Mo_matches 55 = .ok (.iconst 1, 1) := by decide +kernel
theorem d_Mo_matches_56 : decode b_Mo_matches 56 = .ok (.iadd, 1) := by decide +kernel
theorem d_Mo_matches_57 : decode b_Mo_matches 57 = .ok (.putfield 112, 3) := by decide +kernel
theorem d_Mo_matches_60 : decode b_Mo_matches 60 = .ok (.aload_n 0, 1) := by decide +kernel
theorem d_Mo_matches_61 : decode b_Mo_matches 61 = .ok (.getfield 112, 3) := by decide +kernel
theorem d_Mo_matches_64 : decode b_Mo_matches 64 = .ok (.bipush 10, 2) := by decide +kernel
theorem d_Mo_matches_66 : decode b_Mo_matches 66 = .ok (.if_icmp .le 6, 3) := by decide +kernel
theorem d_Mo_matches_69 : decode b_Mo_matches 69 = .ok (.bipush 6, 2) := by decide +kernel
theorem d_Mo_matches_71 : decode b_Mo_matches 71 = .ok (.ireturn, 1) := by decide +kernel
theorem d_Mo_matches_72 : decode b_Mo_matches 72 = .ok (.aload_n 0, 1) := by decide +kernel
theorem d_Mo_matches_73 : decode b_Mo_matches 73 = .ok (.getfield 56, 3) := by decide +kernel
theorem d_Mo_matches_76 : decode b_Mo_matches 76 = .ok (.iload_n 3, 1) := by decide +kernel
theorem d_Mo_matches_77 : decode b_Mo_matches 77 = .ok (.aaload, 1) := by decide +kernel
theorem d_Mo_matches_78 : decode b_Mo_matches 78 = .ok (.astore 6, 2) := by decide +kernel
theorem d_Mo_matches_80 : decode b_Mo_matches 80 = .ok (.aload_n 0, 1) := by decide +kernel
theorem d_Mo_matches_81 : decode b_Mo_matches 81 = .ok (.getfield 141, 3) := by decide +kernel
theorem d_Mo_matches_84 : decode b_Mo_matches 84 = .ok (.ifCond .ge 20, 3) := by decide +kernel
theorem d_Mo_matches_87 : decode b_Mo_matches 87 = .ok (.aload 6, 2) := by decide +kernel
theorem d_Mo_matches_89 : decode b_Mo_matches 89 = .ok (.aload_n 2, 1) := by decide +kernel
theorem d_Mo_matches_90 : decode b_Mo_matches 90 = .ok (.getfield 192, 3) := by decide +kernel
theorem d_Mo_matches_93 : decode b_Mo_matches 93 = .ok (.iconst 0, 1) := by decide +kernel
theorem d_Mo_matches_94 : decode b_Mo_matches 94 = .ok (.aload_n 2, 1) := by decide +kernel
theorem d_Mo_matches_95 : decode b_Mo_matches 95 = .ok (.getfield 86, 3) := by decide +kernel
theorem d_Mo_matches_98 : decode b_Mo_matches 98 = .ok (.invokevirtual 82, 3) := by decide +kernel
theorem d_Mo_matches_101 : decode b_Mo_matches 101 = .ok (.goto 22, 3) := by decide +kernel
theorem d_Mo_matches_104 : decode b_Mo_matches 104 = .ok (.aload_n 0, 1) := by decide +kernel
theorem d_Mo_matches_105 : decode b_Mo_matches 105 = .ok (.aload_n 1, 1) := by decide +kernel
theorem d_Mo_matches_106 : decode b_Mo_matches 106 = .ok (.getfield 192, 3) := by decide +kernel
theorem d_Mo_matches_109 : decode b_Mo_matches 109 = .ok (.aload_n 0, 1) := by decide +kernel
theorem d_Mo_matches_110 : decode b_Mo_matches 110 = .ok (.getfield 141, 3) := by decide +kernel
theorem d_Mo_matches_113 : decode b_Mo_matches 113 = .ok (.aload_n 0, 1) := by decide +kernel
theorem d_Mo_matches_114 : decode b_Mo_matches 114 = .ok (.getfield 144, 3) := by decide +kernel
theorem d_Mo_matches_117 : decode b_Mo_matches 117 = .ok (.aload_n 2, 1) := by decide +kernel
theorem d_Mo_matches_118 : decode b_Mo_matches 118 = .ok (.aload 6, 2) := by decide +kernel
theorem d_Mo_matches_120 : decode b_Mo_matches 120 = .ok (.invokevirtual 228, 3) := by decide +kernel
theorem d_Mo_matches_123 : decode b_Mo_matches 123 = .ok (.iload 4, 2) := by decide +kernel
theorem d_Mo_matches_125 : decode b_Mo_matches 125 = .ok (.iconst 1, 1) := by decide +kernel
theorem d_Mo_matches_126 : decode b_Mo_matches 126 = .ok (.if_icmp .ne 53, 3) := by decide +kernel
theorem d_Mo_matches_129 : decode b_Mo_matches 129 = .ok (.aload_n 0, 1) := by decide +kernel
theorem d_Mo_matches_130 : decode b_Mo_matches 130 = .ok (.aload 6, 2) := by decide +kernel
theorem d_Mo_matches_132 : decode b_Mo_matches 132 = .ok (.iload_n 3, 1) := by decide +kernel
theorem d_Mo_matches_133 : decode b_Mo_matches 133 = .ok (.iconst 1, 1) := by decide +kernel
theorem d_Mo_matches_134 : decode b_Mo_matches 134 = .ok (.iadd, 1) := by decide +kernel
theorem d_Mo_matches_135 : decode b_Mo_matches 135 = .ok (.invokevirtual 118, 3) := by decide +kernel
theorem d_Mo_matches_138 : decode b_Mo_matches 138 = .ok (.istore 7, 2) := by decide +kernel
theorem d_Mo_matches_140 : decode b_Mo_matches 140 = .ok (.iload 7, 2) := by decide +kernel
theorem d_Mo_matches_142 : decode b_Mo_matches 142 = .ok (.iconst 2, 1) := by decide +kernel
theorem d_Mo_matches_143 : decode b_Mo_matches 143 = .ok (.if_icmp .ne 7, 3) := by decide +kernel
theorem d_Mo_matches_146 : decode b_Mo_matches 146 = .ok (.iconst 1, 1) := by decide +kernel
theorem d_Mo_matches_147 : decode b_Mo_matches 147 = .ok (.goto 31, 3) := by decide +kernel
theorem d_Mo_matches_150 : decode b_Mo_matches 150 = .ok (.iload 7, 2) := by decide +kernel
theorem d_Mo_matches_152 : decode b_Mo_matches 152 = .ok (.iconst 5, 1) := by decide +kernel
theorem d_Mo_matches_153 : decode b_Mo_matches 153 = .ok (.if_icmp .ne 7, 3) := by decide +kernel
theorem d_Mo_matches_156 : decode b_Mo_matches 156 = .ok (.iconst 5, 1) := by decide +kernel
theorem d_Mo_matches_157 : decode b_Mo_matches 157 = .ok (.goto 21, 3) := by decide +kernel
theorem d_Mo_matches_160 : decode b_Mo_matches 160 = .ok (.iload 7, 2) := by decide +kernel
theorem d_Mo_matches_162 : decode b_Mo_matches 162 = .ok (.bipush 6, 2) := by decide +kernel
theorem d_Mo_matches_164 : decode b_Mo_matches 164 = .ok (.if_icmp .eq 8, 3) := by decide +kernel
theorem d_Mo_matches_167 : decode b_Mo_matches 167 = .ok (.iload 7, 2) := by decide +kernel
theorem d_Mo_matches_169 : decode b_Mo_matches 169 = .ok (.ifCond .ne 8, 3) := by decide +kernel
theorem d_Mo_matches_172 : decode b_Mo_matches 172 = .ok (.bipush 6, 2) := by decide +kernel
theorem d_Mo_matches_174 : decode b_Mo_matches 174 = .ok (.goto 4, 3) := by decide +kernel
theorem d_Mo_matches_177 : decode b_Mo_matches 177 = .ok (.iconst 0, 1) := by decide +kernel
theorem d_Mo_matches_178 : decode b_Mo_matches 178 = .ok (.ireturn, 1) := by decide +kernel
theorem d_Mo_matches_179 : decode b_Mo_matches 179 = .ok (.aload_n 0, 1) := by decide +kernel
theorem d_Mo_matches_180 : decode b_Mo_matches 180 = .ok (.aload 6, 2) := by decide +kernel
theorem d_Mo_matches_182 : decode b_Mo_matches 182 = .ok (.invokevirtual 208, 3) := by decide +kernel
theorem d_Mo_matches_185 : decode b_Mo_matches 185 = .ok (.ifCond .eq 5, 3) := by decide +kernel
theorem d_Mo_matches_188 : decode b_Mo_matches 188 = .ok (.iconst 5, 1) := by decide +kernel
theorem d_Mo_matches_189 : decode b_Mo_matches 189 = .ok (.ireturn, 1) := by decide +kernel
theorem d_Mo_matches_190 : decode b_Mo_matches 190 = .ok (.iconst 0, 1) := by decide +kernel
theorem d_Mo_matches_191 : decode b_Mo_matches 191 = .ok (.istore 7, 2) := by decide +kernel
theorem d_Mo_matches_193 : decode b_Mo_matches 193 = .ok (.iconst 0, 1) := by decide +kernel
theorem d_Mo_matches_194 : decode b_Mo_matches 194 = .ok (.istore 8, 2) := by decide +kernel
theorem d_Mo_matches_196 : decode b_Mo_matches 196 = .ok (.iconst 0, 1) := by decide +kernel
theorem d_Mo_matches_197 : decode b_Mo_matches 197 = .ok (.istore 9, 2) := by decide +kernel
theorem d_Mo_matches_199 : decode b_Mo_matches 199 = .ok (.iload 9, 2) := by decide +kernel
theorem d_Mo_matches_201 : decode b_Mo_matches 201 = .ok (.aload_n 0, 1) := by decide +kernel
theorem d_Mo_matches_202 : decode b_Mo_matches 202 = .ok (.getfield 73, 3) := by decide +kernel
theorem d_Mo_matches_205 : decode b_Mo_matches 205 = .ok (.if_icmp .ge 68, 3) := by decide +kernel
theorem d_Mo_matches_208 : decode b_Mo_matches 208 = .ok (.aload_n 0, 1) := by decide +kernel
theorem d_Mo_matches_209 : decode b_Mo_matches 209 = .ok (.iload 9, 2) := by decide +kernel
theorem d_Mo_matches_211 : decode b_Mo_matches 211 = .ok (.iload 4, 2) := by decide +kernel
theorem d_Mo_matches_213 : decode b_Mo_matches 213 = .ok (.iconst 3, 1) := by decide +kernel
theorem d_Mo_matches_214 : decode b_Mo_matches 214 = .ok (.if_icmp .ne 7, 3) := by decide +kernel
theorem d_Mo_matches_217 : decode b_Mo_matches 217 = .ok (.iconst 2, 1) := by decide +kernel
theorem d_Mo_matches_218 : decode b_Mo_matches 218 = .ok (.goto 4, 3) := by decide +kernel
theorem d_Mo_matches_221 : decode b_Mo_matches 221 = .ok (.iconst 1, 1) := by decide +kernel
theorem d_Mo_matches_222 : decode b_Mo_matches 222 = .ok (.aload 6, 2) := by decide +kernel
theorem d_Mo_matches_224 : decode b_Mo_matches 224 = .ok (.invokevirtual 92, 3) := by decide +kernel
theorem d_Mo_matches_227 : decode b_Mo_matches 227 = .ok (.ifCond .ne 6, 3) := by decide +kernel
theorem d_Mo_matches_230 : decode b_Mo_matches 230 = .ok (.goto 37, 3) := by decide +kernel
theorem d_Mo_matches_233 : decode b_Mo_matches 233 = .ok (.iinc 7 1, 3) := by decide +kernel
theorem d_Mo_matches_236 : decode b_Mo_matches 236 = .ok (.iload 4, 2) := by decide +kernel
theorem d_Mo_matches_238 : decode b_Mo_matches 238 = .ok (.iconst 3, 1) := by decide +kernel
theorem d_Mo_matches_239 : decode b_Mo_matches 239 = .ok (.if_icmp .eq 28, 3) := by decide +kernel
theorem d_Mo_matches_242 : decode b_Mo_matches 242 = .ok (.iload 4, 2) := by decide +kernel
theorem d_Mo_matches_244 : decode b_Mo_matches 244 = .ok (.iconst 5, 1) := by decide +kernel
theorem d_Mo_matches_245 : decode b_Mo_matches 245 = .ok (.if_icmp .eq 19, 3) := by decide +kernel
theorem d_Mo_matches_248 : decode b_Mo_matches 248 = .ok (.aload_n 0, 1) := by decide +kernel
theorem d_Mo_matches_249 : decode b_Mo_matches 249 = .ok (.aload_n 0, 1) := by decide +kernel
theorem d_Mo_matches_250 : decode b_Mo_matches 250 = .ok (.getfield 40, 3) := by decide +kernel
theorem d_Mo_matches_253 : decode b_Mo_matches 253 = .ok (.iload 9, 2) := by decide +kernel
theorem d_Mo_matches_255 : decode b_Mo_matches 255 = .ok (.iaload, 1) := by decide +kernel
theorem d_Mo_matches_256 : decode b_Mo_matches 256 = .ok (.iload 5, 2) := by decide +kernel
theorem d_Mo_matches_258 : decode b_Mo_matches 258 = .ok (.invokevirtual 231, 3) := by decide +kernel
theorem d_Mo_matches_261 : decode b_Mo_matches 261 = .ok (.ifCond .eq 6, 3) := by decide +kernel
theorem d_Mo_matches_264 : decode b_Mo_matches 264 = .ok (.iconst 1, 1) := by decide +kernel
theorem d_Mo_matches_265 : decode b_Mo_matches 265 = .ok (.istore 8, 2) := by decide +kernel
theorem d_Mo_matches_267 : decode b_Mo_matches 267 = .ok (.iinc 9 1, 3) := by decide +kernel
theorem d_Mo_matches_270 : decode b_Mo_matches 270 = .ok (.goto (-71), 3) := by decide +kernel
theorem d_Mo_matches_273 : decode b_Mo_matches 273 = .ok (.iload 7, 2) := by decide +kernel
theorem d_Mo_matches_275 : decode b_Mo_matches 275 = .ok (.ifCond .ne 24, 3) := by decide +kernel
theorem d_Mo_matches_278 : decode b_Mo_matches 278 = .ok (.aload_n 0, 1) := by decide +kernel
theorem d_Mo_matches_279 : decode b_Mo_matches 279 = .ok (.dup, 1) := by decide +kernel
theorem d_Mo_matches_280 : decode b_Mo_matches 280 = .ok (.getfield 115, 3) := by decide +kernel
theorem d_Mo_matches_283 : decode b_Mo_matches 283 = .ok (.iconst 1, 1) := by decide +kernel
theorem d_Mo_matches_284 : decode b_Mo_matches 284 = .ok (.iadd, 1) := by decide +kernel
theorem d_Mo_matches_285 : decode b_Mo_matches 285 = .ok (.putfield 115, 3) := by decide +kernel
theorem d_Mo_matches_288 : decode b_Mo_matches 288 = .ok (.aload_n 0, 1) := by decide +kernel
theorem d_Mo_matches_289 : decode b_Mo_matches 289 = .ok (.getfield 115, 3) := by decide +kernel
theorem d_Mo_matches_292 : decode b_Mo_matches 292 = .ok (.iconst 2, 1) := by decide +kernel
theorem d_Mo_matches_293 : decode b_Mo_matches 293 = .ok (.if_icmp .le 6, 3) := by decide +kernel
theorem d_Mo_matches_296 : decode b_Mo_matches 296 = .ok (.bipush 6, 2) := by decide +kernel
theorem d_Mo_matches_298 : decode b_Mo_matches 298 = .ok (.ireturn, 1) := by decide +kernel
theorem d_Mo_matches_299 : decode b_Mo_matches 299 = .ok (.iload 4, 2) := by decide +kernel
theorem d_Mo_matches_301 : decode b_Mo_matches 301 = .ok (.iconst 3, 1) := by decide +kernel
theorem d_Mo_matches_302 : decode b_Mo_matches 302 = .ok (.if_icmp .ne 14, 3) := by decide +kernel
theorem d_Mo_matches_305 : decode b_Mo_matches 305 = .ok (.aload_n 0, 1) := by decide +kernel
theorem d_Mo_matches_306 : decode b_Mo_matches 306 = .ok (.aload 6, 2) := by decide +kernel
theorem d_Mo_matches_308 : decode b_Mo_matches 308 = .ok (.iload 5, 2) := by decide +kernel
theorem d_Mo_matches_310 : decode b_Mo_matches 310 = .ok (.invokevirtual 235, 3) := by decide +kernel
theorem d_Mo_matches_313 : decode b_Mo_matches 313 = .ok (.goto 5, 3) := by decide +kernel
theorem d_Mo_matches_316 : decode b_Mo_matches 316 = .ok (.iload 8, 2) := by decide +kernel
theorem d_Mo_matches_318 : decode b_Mo_matches 318 = .ok (.ireturn, 1) := by decide +kernel
theorem d_Mo_octet_0 : decode b_Mo_octet 0 = .ok (.iload_n 1, 1) := by decide +kernel
theorem d_Mo_octet_1 : decode b_Mo_octet 1 = .ok (.i2l, 1) := by decide +kernel
theorem d_Mo_octet_2 : decode b_Mo_octet 2 = .ok (.ldc2_w 238, 3) := by decide +kernel
theorem d_Mo_octet_5 : decode b_Mo_octet 5 = .ok (.aload_n 0, 1) := by decide +kernel
theorem d_Mo_octet_6 : decode b_Mo_octet 6 = .ok (.getfield 32, 3) := by decide +kernel
theorem d_Mo_octet_9 : decode b_Mo_octet 9 = .ok (.getfield 86, 3) := by decide +kernel
theorem d_Mo_octet_12 : decode b_Mo_octet 12 = .ok (.iconst 1, 1) := by decide +kernel
theorem d_Mo_octet_13 : decode b_Mo_octet 13 = .ok (.isub, 1) := by decide +kernel
theorem d_Mo_octet_14 : decode b_Mo_octet 14 = .ok (.i2l, 1) := by decide +kernel
theorem d_Mo_octet_15 : decode b_Mo_octet 15 = .ok (.invokestatic 66, 3) := by decide +kernel
theorem d_Mo_octet_18 : decode b_Mo_octet 18 = .ok (.ifCond .ne 6, 3) := by decide +kernel
theorem d_Mo_octet_21 : decode b_Mo_octet 21 = .ok (.bipush (-2), 2) := by decide +kernel
theorem d_Mo_octet_23 : decode b_Mo_octet 23 = .ok (.ireturn, 1) := by decide +kernel
theorem d_Mo_octet_24 : decode b_Mo_octet 24 = .ok (.iload_n 1, 1) := by decide +kernel
theorem d_Mo_octet_25 : decode b_Mo_octet 25 = .ok (.ifCond .ge 13, 3) := by decide +kernel
theorem d_Mo_octet_28 : decode b_Mo_octet 28 = .ok (.aload_n 0, 1) := by decide +kernel
theorem d_Mo_octet_29 : decode b_Mo_octet 29 = .ok (.getfield 32, 3) := by decide +kernel
theorem d_Mo_octet_32 : decode b_Mo_octet 32 = .ok (.getfield 86, 3) := by decide +kernel
theorem d_Mo_octet_35 : decode b_Mo_octet 35 = .ok (.goto 16, 3) := by decide +kernel
theorem d_Mo_octet_38 : decode b_Mo_octet 38 = .ok (.aload_n 0, 1) := by decide +kernel
theorem d_Mo_octet_39 : decode b_Mo_octet 39 = .ok (.getfield 32, 3) := by decide +kernel
theorem d_Mo_octet_42 : decode b_Mo_octet 42 = .ok (.getfield 192, 3) := by decide +kernel
theorem d_Mo_octet_45 : decode b_Mo_octet 45 = .ok (.iload_n 1, 1) := by decide +kernel
theorem d_Mo_octet_46 : decode b_Mo_octet 46 = .ok (.baload, 1) := by decide +kernel
theorem d_Mo_octet_47 : decode b_Mo_octet 47 = .ok (.sipush 255, 3) := by decide +kernel
theorem d_Mo_octet_50 : decode b_Mo_octet 50 = .ok (.iand, 1) := by decide +kernel
theorem d_Mo_octet_51 : decode b_Mo_octet 51 = .ok (.ireturn, 1) := by decide +kernel
theorem d_Mo_part_0 : decode b_Mo_part 0 = .ok (.iconst 0, 1) := by decide +kernel
theorem d_Mo_part_1 : decode b_Mo_part 1 = .ok (.istore_n 3, 1) := by decide +kernel
theorem d_Mo_part_2 : decode b_Mo_part 2 = .ok (.iconst 0, 1) := by decide +kernel
theorem d_Mo_part_3 : decode b_Mo_part 3 = .ok (.istore 4, 2) := by decide +kernel
theorem d_Mo_part_5 : decode b_Mo_part 5 = .ok (.iload 4, 2) := by decide +kernel
theorem d_Mo_part_7 : decode b_Mo_part 7 = .ok (.iload_n 1, 1) := by decide +kernel
theorem d_Mo_part_8 : decode b_Mo_part 8 = .ok (.if_icmp .ge 26, 3) := by decide +kernel
theorem d_Mo_part_11 : decode b_Mo_part 11 = .ok (.aload_n 0, 1) := by decide +kernel
theorem d_Mo_part_12 : decode b_Mo_part 12 = .ok (.getfield 59, 3) := by decide +kernel
theorem d_Mo_part_15 : decode b_Mo_part 15 = .ok (.getfield 192, 3) := by decide +kernel
theorem d_Mo_part_18 : decode b_Mo_part 18 = .ok (.iload_n 3, 1) := by decide +kernel
theorem d_Mo_part_19 : decode b_Mo_part 19 = .ok (.baload, 1) := by decide +kernel
theorem d_Mo_part_20 : decode b_Mo_part 20 = .ok (.bipush 46, 2) := by decide +kernel
theorem d_Mo_part_22 : decode b_Mo_part 22 = .ok (.if_icmp .ne 6, 3) := by decide +kernel
theorem d_Mo_part_25 : decode b_Mo_part 25 = .ok (.iinc 4 1, 3) := by decide +kernel
theorem d_Mo_part_28 : decode b_Mo_part 28 = .ok (.iinc 3 1, 3) := by decide +kernel
theorem d_Mo_part_31 : decode b_Mo_part 31 = .ok (.goto (-26), 3) := by decide +kernel
theorem d_Mo_part_34 : decode b_Mo_part 34 = .ok (.iload_n 3, 1) := by decide +kernel
theorem d_Mo_part_35 : decode b_Mo_part 35 = .ok (.aload_n 0, 1) := by decide +kernel
theorem d_Mo_part_36 : decode b_Mo_part 36 = .ok (.getfield 59, 3) := by decide +kernel
theorem d_Mo_part_39 : decode b_Mo_part 39 = .ok (.getfield 86, 3) := by decide +kernel
theorem d_Mo_part_42 : decode b_Mo_part 42 = .ok (.if_icmp .ge 36, 3) := by decide +kernel
theorem d_Mo_part_45 : decode b_Mo_part 45 = .ok (.aload_n 0, 1) := by decide +kernel
theorem d_Mo_part_46 : decode b_Mo_part 46 = .ok (.getfield 59, 3) := by decide +kernel
theorem d_Mo_part_49 : decode b_Mo_part 49 = .ok (.getfield 192, 3) := by decide +kernel
theorem d_Mo_part_52 : decode b_Mo_part 52 = .ok (.iload_n 3, 1) := by decide +kernel
theorem d_Mo_part_53 : decode b_Mo_part 53 = .ok (.baload, 1) := by decide +kernel
theorem d_Mo_part_54 : decode b_Mo_part 54 = .ok (.bipush 46, 2) := by decide +kernel
theorem d_Mo_part_56 : decode b_Mo_part 56 = .ok (.if_icmp .eq 22, 3) := by decide +kernel
theorem d_Mo_part_59 : decode b_Mo_part 59 = .ok (.aload_n 2, 1) := by decide +kernel
theorem d_Mo_part_60 : decode b_Mo_part 60 = .ok (.aload_n 0, 1) := by decide +kernel
theorem d_Mo_part_61 : decode b_Mo_part 61 = .ok (.getfield 59, 3) := by decide +kernel
theorem d_Mo_part_64 : decode b_Mo_part 64 = .ok (.getfield 192, 3) := by decide +kernel
theorem d_Mo_part_67 : decode b_Mo_part 67 = .ok (.iload_n 3, 1) := by decide +kernel
theorem d_Mo_part_68 : decode b_Mo_part 68 = .ok (.baload, 1) := by decide +kernel
theorem d_Mo_part_69 : decode b_Mo_part 69 = .ok (.invokestatic 184, 3) := by decide +kernel
theorem d_Mo_part_72 : decode b_Mo_part 72 = .ok (.iinc 3 1, 3) := by decide +kernel
theorem d_Mo_part_75 : decode b_Mo_part 75 = .ok (.goto (-41), 3) := by decide +kernel
theorem d_Mo_part_78 : decode b_Mo_part 78 = .ok (.return_, 1) := by decide +kernel
theorem d_Mo_permission_0 : decode b_Mo_permission 0 = .ok (.aload_n 0, 1) := by decide +kernel
theorem d_Mo_permission_1 : decode b_Mo_permission 1 = .ok (.getfield 108, 3) := by decide +kernel
theorem d_Mo_permission_4 : decode b_Mo_permission 4 = .ok (.ifCond .ne 5, 3) := by decide +kernel
theorem d_Mo_permission_7 : decode b_Mo_permission 7 = .ok (.iconst (-1), 1) := by decide +kernel
theorem d_Mo_permission_8 : decode b_Mo_permission 8 = .ok (.ireturn, 1) := by decide +kernel
theorem d_Mo_permission_9 : decode b_Mo_permission 9 = .ok (.aload_n 0, 1) := by decide +kernel
theorem d_Mo_permission_10 : decode b_Mo_permission 10 = .ok (.iconst 0, 1) := by decide +kernel
theorem d_Mo_permission_11 : decode b_Mo_permission 11 = .ok (.putfield 112, 3) := by decide +kernel
theorem d_Mo_permission_14 : decode b_Mo_permission 14 = .ok (.aload_n 0, 1) := by decide +kernel
theorem d_Mo_permission_15 : decode b_Mo_permission 15 = .ok (.iconst 0, 1) := by decide +kernel
theorem d_Mo_permission_16 : decode b_Mo_permission 16 = .ok (.putfield 115, 3) := by decide +kernel
theorem d_Mo_permission_19 : decode b_Mo_permission 19 = .ok (.aload_n 0, 1) := by decide +kernel
theorem d_Mo_permission_20 : decode b_Mo_permission 20 = .ok (.aload_n 0, 1) := by decide +kernel
theorem d_Mo_permission_21 : decode b_Mo_permission 21 = .ok (.getfield 53, 3) := by decide +kernel
theorem d_Mo_permission_24 : decode b_Mo_permission 24 = .ok (.iconst 0, 1) := by decide +kernel
theorem d_Mo_permission_25 : decode b_Mo_permission 25 = .ok (.invokevirtual 118, 3) := by decide +kernel
theorem d_Mo_permission_28 : decode b_Mo_permission 28 = .ok (.ireturn, 1) := by decide +kernel
theorem d_Mo_put_0 : decode b_Mo_put 0 = .ok (.aload_n 0, 1) := by decide +kernel
theorem d_Mo_put_1 : decode b_Mo_put 1 = .ok (.getfield 86, 3) := by decide +kernel
theorem d_Mo_put_4 : decode b_Mo_put 4 = .ok (.aload_n 0, 1) := by decide +kernel
theorem d_Mo_put_5 : decode b_Mo_put 5 = .ok (.getfield 192, 3) := by decide +kernel
theorem d_Mo_put_8 : decode b_Mo_put 8 = .ok (.arraylength, 1) := by decide +kernel
theorem d_Mo_put_9 : decode b_Mo_put 9 = .ok (.if_icmp .ge 8, 3) := by decide +kernel
theorem d_Mo_put_12 : decode b_Mo_put 12 = .ok (.aload_n 0, 1) := by decide +kernel
theorem d_Mo_put_13 : decode b_Mo_put 13 = .ok (.iload_n 1, 1) := by decide +kernel
theorem d_Mo_put_14 : decode b_Mo_put 14 = .ok (.invokevirtual 195, 3) := by decide +kernel
theorem d_Mo_put_17 : decode b_Mo_put 17 = .ok (.return_, 1) := by decide +kernel
theorem d_Mo_readHost_0 : decode b_Mo_readHost 0 = .ok (.aload_n 1, 1) := by decide +kernel
theorem d_Mo_readHost_1 : decode b_Mo_readHost 1 = .ok (.iload_n 2, 1) := by decide +kernel
theorem d_Mo_readHost_2 : decode b_Mo_readHost 2 = .ok (.iload_n 3, 1) := by decide +kernel
theorem d_Mo_readHost_3 : decode b_Mo_readHost 3 = .ok (.invokestatic 165, 3) := by decide +kernel
theorem d_Mo_readHost_6 : decode b_Mo_readHost 6 = .ok (.istore 5, 2) := by decide +kernel
theorem d_Mo_readHost_8 : decode b_Mo_readHost 8 = .ok (.iload 5, 2) := by decide +kernel
theorem d_Mo_readHost_10 : decode b_Mo_readHost 10 = .ok (.iload_n 3, 1) := by decide +kernel
theorem d_Mo_readHost_11 : decode b_Mo_readHost 11 = .ok (.if_icmp .ge 16, 3) := by decide +kernel
theorem d_Mo_readHost_14 : decode b_Mo_readHost 14 = .ok (.aload_n 0, 1) := by decide +kernel
theorem d_Mo_readHost_15 : decode b_Mo_readHost 15 = .ok (.aload_n 1, 1) := by decide +kernel
theorem d_Mo_readHost_16 : decode b_Mo_readHost 16 = .ok (.iload 5, 2) := by decide +kernel
theorem d_Mo_readHost_18 : decode b_Mo_readHost 18 = .ok (.iconst 1, 1) := by decide +kernel
theorem d_Mo_readHost_19 : decode b_Mo_readHost 19 = .ok (.iadd, 1) := by decide +kernel
theorem d_Mo_readHost_20 : decode b_Mo_readHost 20 = .ok (.iload_n 3, 1) := by decide +kernel
theorem d_Mo_readHost_21 : decode b_Mo_readHost 21 = .ok (.invokestatic 168, 3) := by decide +kernel
theorem d_Mo_readHost_24 : decode b_Mo_readHost 24 = .ok (.putfield 147, 3) := by decide +kernel
theorem d_Mo_readHost_27 : decode b_Mo_readHost 27 = .ok (.aload_n 0, 1) := by decide +kernel
theorem d_Mo_readHost_28 : decode b_Mo_readHost 28 = .ok (.getfield 147, 3) := by decide +kernel
theorem d_Mo_readHost_31 : decode b_Mo_readHost 31 = .ok (.ifCond .ge 4, 3) := by decide +kernel
theorem d_Mo_readHost_34 : decode b_Mo_readHost 34 = .ok (.return_, 1) := by decide +kernel
theorem d_Mo_readHost_35 : decode b_Mo_readHost 35 = .ok (.iload 5, 2) := by decide +kernel
theorem d_Mo_readHost_37 : decode b_Mo_readHost 37 = .ok (.iload_n 2, 1) := by decide +kernel
theorem d_Mo_readHost_38 : decode b_Mo_readHost 38 = .ok (.if_icmp .le 41, 3) := by decide +kernel
theorem d_Mo_readHost_41 : decode b_Mo_readHost 41 = .ok (.aload_n 0, 1) := by decide +kernel
theorem d_Mo_readHost_42 : decode b_Mo_readHost 42 = .ok (.iload_n 2, 1) := by decide +kernel
theorem d_Mo_readHost_43 : decode b_Mo_readHost 43 = .ok (.iconst 1, 1) := by decide +kernel
theorem d_Mo_readHost_44 : decode b_Mo_readHost 44 = .ok (.iadd, 1) := by decide +kernel
theorem d_Mo_readHost_45 : decode b_Mo_readHost 45 = .ok (.putfield 141, 3) := by decide +kernel
theorem d_Mo_readHost_48 : decode b_Mo_readHost 48 = .ok (.aload_n 0, 1) := by decide +kernel
theorem d_Mo_readHost_49 : decode b_Mo_readHost 49 = .ok (.iload 5, 2) := by decide +kernel
theorem d_Mo_readHost_51 : decode b_Mo_readHost 51 = .ok (.putfield 144, 3) := by decide +kernel
theorem d_Mo_readHost_54 : decode b_Mo_readHost 54 = .ok (.aload_n 1, 1) := by decide +kernel
theorem d_Mo_readHost_55 : decode b_Mo_readHost 55 = .ok (.iload_n 2, 1) := by decide +kernel
theorem d_Mo_readHost_56 : decode b_Mo_readHost 56 = .ok (.baload, 1) := by decide +kernel
theorem d_Mo_readHost_57 : decode b_Mo_readHost 57 = .ok (.bipush 58, 2) := by decide +kernel
theorem d_Mo_readHost_59 : decode b_Mo_readHost 59 = .ok (.if_icmp .ne 19, 3) := by decide +kernel
theorem d_Mo_readHost_62 : decode b_Mo_readHost 62 = .ok (.aload_n 1, 1) := by decide +kernel
theorem d_Mo_readHost_63 : decode b_Mo_readHost 63 = .ok (.aload_n 0, 1) := by decide +kernel
theorem d_Mo_readHost_64 : decode b_Mo_readHost 64 = .ok (.getfield 141, 3) := by decide +kernel
theorem d_Mo_readHost_67 : decode b_Mo_readHost 67 = .ok (.aload_n 0, 1) := by decide +kernel
theorem d_Mo_readHost_68 : decode b_Mo_readHost 68 = .ok (.getfield 144, 3) := by decide +kernel
theorem d_Mo_readHost_71 : decode b_Mo_readHost 71 = .ok (.iconst 0, 1) := by decide +kernel
theorem d_Mo_readHost_72 : decode b_Mo_readHost 72 = .ok (.invokestatic 157, 3) := by decide +kernel
theorem d_Mo_readHost_75 : decode b_Mo_readHost 75 = .ok (.ifCond .ne 4, 3) := by decide +kernel
theorem d_Mo_readHost_78 : decode b_Mo_readHost 78 = .ok (.return_, 1) := by decide +kernel
theorem d_Mo_readHost_79 : decode b_Mo_readHost 79 = .ok (.aload_n 0, 1) := by decide +kernel
theorem d_Mo_readHost_80 : decode b_Mo_readHost 80 = .ok (.iload 4, 2) := by decide +kernel
theorem d_Mo_readHost_82 : decode b_Mo_readHost 82 = .ok (.putfield 138, 3) := by decide +kernel
theorem d_Mo_readHost_85 : decode b_Mo_readHost 85 = .ok (.return_, 1) := by decide +kernel
theorem d_Mo_readTerm_0 : decode b_Mo_readTerm 0 = .ok (.iload_n 2, 1) := by decide +kernel
theorem d_Mo_readTerm_1 : decode b_Mo_readTerm 1 = .ok (.istore 4, 2) := by decide +kernel
theorem d_Mo_readTerm_3 : decode b_Mo_readTerm 3 = .ok (.aload_n 0, 1) := by decide +kernel
theorem d_Mo_readTerm_4 : decode b_Mo_readTerm 4 = .ok (.bipush 43, 2) := by decide +kernel
theorem d_Mo_readTerm_6 : decode b_Mo_readTerm 6 = .ok (.putfield 135, 3) := by decide +kernel
theorem d_Mo_readTerm_9 : decode b_Mo_readTerm 9 = .ok (.aload_n 0, 1) := by decide +kernel
theorem d_Mo_readTerm_10 : decode b_Mo_readTerm 10 = .ok (.bipush 8, 2) := by decide +kernel
theorem d_Mo_readTerm_12 : decode b_Mo_readTerm 12 = .ok (.putfield 138, 3) := by decide +kernel
theorem d_Mo_readTerm_15 : decode b_Mo_readTerm 15 = .ok (.aload_n 0, 1) := by decide +kernel
theorem d_Mo_readTerm_16 : decode b_Mo_readTerm 16 = .ok (.iconst (-1), 1) := by decide +kernel
theorem d_Mo_readTerm_17 : decode b_Mo_readTerm 17 = .ok (.putfield 141, 3) := by decide +kernel
theorem d_Mo_readTerm_20 : decode b_Mo_readTerm 20 = .ok (.aload_n 0, 1) := by decide +kernel
theorem d_Mo_readTerm_21 : decode b_Mo_readTerm 21 = .ok (.iconst (-1), 1) := by decide +kernel
theorem d_Mo_readTerm_22 : decode b_Mo_readTerm 22 = .ok (.putfield 144, 3) := by decide +kernel
theorem d_Mo_readTerm_25 : decode b_Mo_readTerm 25 = .ok (.aload_n 0, 1) := by decide +kernel
theorem d_Mo_readTerm_26 : decode b_Mo_readTerm 26 = .ok (.bipush 32, 2) := by decide +kernel
theorem d_Mo_readTerm_28 : decode b_Mo_readTerm 28 = .ok (.putfield 147, 3) := by decide +kernel
theorem d_Mo_readTerm_31 : decode b_Mo_readTerm 31 = .ok (.aload_n 1, 1) := by decide +kernel
theorem d_Mo_readTerm_32 : decode b_Mo_readTerm 32 = .ok (.iload 4, 2) := by decide +kernel
theorem d_Mo_readTerm_34 : decode b_Mo_readTerm 34 = .ok (.baload, 1) := by decide +kernel
theorem d_Mo_readTerm_35 : decode b_Mo_readTerm 35 = .ok (.bipush 43, 2) := by decide +kernel
theorem d_Mo_readTerm_37 : decode b_Mo_readTerm 37 = .ok (.if_icmp .eq 30, 3) := by decide +kernel
theorem d_Mo_readTerm_40 : decode b_Mo_readTerm 40 = .ok (.aload_n 1, 1) := by decide +kernel
theorem d_Mo_readTerm_41 : decode b_Mo_readTerm 41 = .ok (.iload 4, 2) := by decide +kernel
theorem d_Mo_readTerm_43 : decode b_Mo_readTerm 43 = .ok (.baload, 1) := by decide +kernel
theorem d_Mo_readTerm_44 : decode b_Mo_readTerm 44 = .ok (.bipush 63, 2) := by decide +kernel
theorem d_Mo_readTerm_46 : decode b_Mo_readTerm 46 = .ok (.if_icmp .eq 21, 3) := by decide +kernel
theorem d_Mo_readTerm_49 : decode b_Mo_readTerm 49 = .ok (.aload_n 1, 1) := by decide +kernel
theorem d_Mo_readTerm_50 : decode b_Mo_readTerm 50 = .ok (.iload 4, 2) := by decide +kernel
theorem d_Mo_readTerm_52 : decode b_Mo_readTerm 52 = .ok (.baload, 1) := by decide +kernel
theorem d_Mo_readTerm_53 : decode b_Mo_readTerm 53 = .ok (.bipush 126, 2) := by decide +kernel
theorem d_Mo_readTerm_55 : decode b_Mo_readTerm 55 = .ok (.if_icmp .eq 12, 3) := by decide +kernel
theorem d_Mo_readTerm_58 : decode b_Mo_readTerm 58 = .ok (.aload_n 1, 1) := by decide +kernel
theorem d_Mo_readTerm_59 : decode b_Mo_readTerm 59 = .ok (.iload 4, 2) := by decide +kernel
theorem d_Mo_readTerm_61 : decode b_Mo_readTerm 61 = .ok (.baload, 1) := by decide +kernel
theorem d_Mo_readTerm_62 : decode b_Mo_readTerm 62 = .ok (.bipush 45, 2) := by decide +kernel
theorem d_Mo_readTerm_64 : decode b_Mo_readTerm 64 = .ok (.if_icmp .ne 7, 3) := by decide +kernel
theorem d_Mo_readTerm_67 : decode b_Mo_readTerm 67 = .ok (.iconst 1, 1) := by decide +kernel
theorem d_Mo_readTerm_68 : decode b_Mo_readTerm 68 = .ok (.goto 4, 3) := by decide +kernel
theorem d_Mo_readTerm_71 : decode b_Mo_readTerm 71 = .ok (.iconst 0, 1) := by decide +kernel
theorem d_Mo_readTerm_72 : decode b_Mo_readTerm 72 = .ok (.istore 5, 2) := by decide +kernel
theorem d_Mo_readTerm_74 : decode b_Mo_readTerm 74 = .ok (.iload 5, 2) := by decide +kernel
theorem d_Mo_readTerm_76 : decode b_Mo_readTerm 76 = .ok (.ifCond .eq 14, 3) := by decide +kernel
theorem d_Mo_readTerm_79 : decode b_Mo_readTerm 79 = .ok (.aload_n 0, 1) := by decide +kernel
theorem d_Mo_readTerm_80 : decode b_Mo_readTerm 80 = .ok (.aload_n 1, 1) := by decide +kernel
theorem d_Mo_readTerm_81 : decode b_Mo_readTerm 81 = .ok (.iload 4, 2) := by decide +kernel
theorem d_Mo_readTerm_83 : decode b_Mo_readTerm 83 = .ok (.baload, 1) := by decide +kernel
theorem d_Mo_readTerm_84 : decode b_Mo_readTerm 84 = .ok (.putfield 135, 3) := by decide +kernel
theorem d_Mo_readTerm_87 : decode b_Mo_readTerm 87 = .ok (.iinc 4 1, 3) := by decide +kernel
theorem d_Mo_readTerm_90 : decode b_Mo_readTerm 90 = .ok (.aload_n 1, 1) := by decide +kernel
theorem d_Mo_readTerm_91 : decode b_Mo_readTerm 91 = .ok (.iload 4, 2) := by decide +kernel
theorem d_Mo_readTerm_93 : decode b_Mo_readTerm 93 = .ok (.iload_n 3, 1) := by decide +kernel
theorem d_Mo_readTerm_94 : decode b_Mo_readTerm 94 = .ok (.ldc 150, 2) := by decide +kernel
theorem d_Mo_readTerm_96 : decode b_Mo_readTerm 96 = .ok (.invokestatic 11, 3) := by decide +kernel
theorem d_Mo_readTerm_99 : decode b_Mo_readTerm 99 = .ok (.ifCond .eq 11, 3) := by decide +kernel
theorem d_Mo_readTerm_102 : decode b_Mo_readTerm 102 = .ok (.aload_n 0, 1) := by decide +kernel
theorem d_Mo_readTerm_103 : decode b_Mo_readTerm 103 = .ok (.iconst 0, 1) := by decide +kernel
theorem d_Mo_readTerm_104 : decode b_Mo_readTerm 104 = .ok (.putfield 138, 3) := by decide +kernel
theorem d_Mo_readTerm_107 : decode b_Mo_readTerm 107 = .ok (.goto 281, 3) := by decide +kernel
theorem d_Mo_readTerm_110 : decode b_Mo_readTerm 110 = .ok (.aload_n 1, 1) := by decide +kernel
theorem d_Mo_readTerm_111 : decode b_Mo_readTerm 111 = .ok (.iload 4, 2) := by decide +kernel
theorem d_Mo_readTerm_113 : decode b_Mo_readTerm 113 = .ok (.iload_n 3, 1) := by decide +kernel
theorem d_Mo_readTerm_114 : decode b_Mo_readTerm 114 = .ok (.ldc 152, 2) := by decide +kernel
theorem d_Mo_readTerm_116 : decode b_Mo_readTerm 116 = .ok (.invokestatic 154, 3) := by decide +kernel
theorem d_Mo_readTerm_119 : decode b_Mo_readTerm 119 = .ok (.ifCond .eq 41, 3) := by decide +kernel
theorem d_Mo_readTerm_122 : decode b_Mo_readTerm 122 = .ok (.aload_n 0, 1) := by decide +kernel
theorem d_Mo_readTerm_123 : decode b_Mo_readTerm 123 = .ok (.iload 4, 2) := by decide +kernel
theorem d_Mo_readTerm_125 : decode b_Mo_readTerm 125 = .ok (.bipush 8, 2) := by decide +kernel
theorem d_Mo_readTerm_127 : decode b_Mo_readTerm 127 = .ok (.iadd, 1) := by decide +kernel
theorem d_Mo_readTerm_128 : decode b_Mo_readTerm 128 = .ok (.putfield 141, 3) := by decide +kernel
theorem d_Mo_readTerm_131 : decode b_Mo_readTerm 131 = .ok (.aload_n 0, 1) := by decide +kernel
theorem d_Mo_readTerm_132 : decode b_Mo_readTerm 132 = .ok (.iload_n 3, 1) := by decide +kernel
theorem d_Mo_readTerm_133 : decode b_Mo_readTerm 133 = .ok (.putfield 144, 3) := by decide +kernel
theorem d_Mo_readTerm_136 : decode b_Mo_readTerm 136 = .ok (.aload_n 1, 1) := by decide +kernel
theorem d_Mo_readTerm_137 : decode b_Mo_readTerm 137 = .ok (.aload_n 0, 1) := by decide +kernel
theorem d_Mo_readTerm_138 : decode b_Mo_readTerm 138 = .ok (.getfield 141, 3) := by decide +kernel
theorem d_Mo_readTerm_141 : decode b_Mo_readTerm 141 = .ok (.aload_n 0, 1) := by decide +kernel
theorem d_Mo_readTerm_142 : decode b_Mo_readTerm 142 = .ok (.getfield 144, 3) := by decide +kernel
theorem d_Mo_readTerm_145 : decode b_Mo_readTerm 145 = .ok (.iconst 1, 1) := by decide +kernel
theorem d_Mo_readTerm_146 : decode b_Mo_readTerm 146 = .ok (.invokestatic 157, 3) := by decide +kernel
theorem d_Mo_readTerm_149 : decode b_Mo_readTerm 149 = .ok (.ifCond .eq 239, 3) := by decide +kernel
theorem d_Mo_readTerm_152 : decode b_Mo_readTerm 152 = .ok (.aload_n 0, 1) := by decide +kernel
theorem d_Mo_readTerm_153 : decode b_Mo_readTerm 153 = .ok (.iconst 1, 1) := by decide +kernel
theorem d_Mo_readTerm_154 : decode b_Mo_readTerm 154 = .ok (.putfield 138, 3) := by decide +kernel
theorem d_Mo_readTerm_157 : decode b_Mo_readTerm 157 = .ok (.goto 231, 3) := by decide +kernel
theorem d_Mo_readTerm_160 : decode b_Mo_readTerm 160 = .ok (.aload_n 1, 1) := by decide +kernel
theorem d_Mo_readTerm_161 : decode b_Mo_readTerm 161 = .ok (.iload 4, 2) := by decide +kernel
theorem d_Mo_readTerm_163 : decode b_Mo_readTerm 163 = .ok (.iload_n 3, 1) := by decide +kernel
theorem d_Mo_readTerm_164 : decode b_Mo_readTerm 164 = .ok (.ldc 161, 2) := by decide +kernel
theorem d_Mo_readTerm_166 : decode b_Mo_readTerm 166 = .ok (.invokestatic 154, 3) := by decide +kernel
theorem d_Mo_readTerm_169 : decode b_Mo_readTerm 169 = .ok (.ifCond .eq 41, 3) := by decide +kernel
theorem d_Mo_readTerm_172 : decode b_Mo_readTerm 172 = .ok (.aload_n 0, 1) := by decide +kernel
theorem d_Mo_readTerm_173 : decode b_Mo_readTerm 173 = .ok (.iload 4, 2) := by decide +kernel
theorem d_Mo_readTerm_175 : decode b_Mo_readTerm 175 = .ok (.bipush 7, 2) := by decide +kernel
theorem d_Mo_readTerm_177 : decode b_Mo_readTerm 177 = .ok (.iadd, 1) := by decide +kernel
theorem d_Mo_readTerm_178 : decode b_Mo_readTerm 178 = .ok (.putfield 141, 3) := by decide +kernel
theorem d_Mo_readTerm_181 : decode b_Mo_readTerm 181 = .ok (.aload_n 0, 1) := by decide +kernel
theorem d_Mo_readTerm_182 : decode b_Mo_readTerm 182 = .ok (.iload_n 3, 1) := by decide +kernel
theorem d_Mo_readTerm_183 : decode b_Mo_readTerm 183 = .ok (.putfield 144, 3) := by decide +kernel
theorem d_Mo_readTerm_186 : decode b_Mo_readTerm 186 = .ok (.aload_n 1, 1) := by decide +kernel
theorem d_Mo_readTerm_187 : decode b_Mo_readTerm 187 = .ok (.aload_n 0, 1) := by decide +kernel
theorem d_Mo_readTerm_188 : decode b_Mo_readTerm 188 = .ok (.getfield 141, 3) := by decide +kernel
theorem d_Mo_readTerm_191 : decode b_Mo_readTerm 191 = .ok (.aload_n 0, 1) := by decide +kernel
theorem d_Mo_readTerm_192 : decode b_Mo_readTerm 192 = .ok (.getfield 144, 3) := by decide +kernel
theorem d_Mo_readTerm_195 : decode b_Mo_readTerm 195 = .ok (.iconst 1, 1) := by decide +kernel
theorem d_Mo_readTerm_196 : decode b_Mo_readTerm 196 = .ok (.invokestatic 157, 3) := by decide +kernel
theorem d_Mo_readTerm_199 : decode b_Mo_readTerm 199 = .ok (.ifCond .eq 189, 3) := by decide +kernel
theorem d_Mo_readTerm_202 : decode b_Mo_readTerm 202 = .ok (.aload_n 0, 1) := by decide +kernel
theorem d_Mo_readTerm_203 : decode b_Mo_readTerm 203 = .ok (.iconst 5, 1) := by decide +kernel
theorem d_Mo_readTerm_204 : decode b_Mo_readTerm 204 = .ok (.putfield 138, 3) := by decide +kernel
theorem d_Mo_readTerm_207 : decode b_Mo_readTerm 207 = .ok (.goto 181, 3) := by decide +kernel
theorem d_Mo_readTerm_210 : decode b_Mo_readTerm 210 = .ok (.aload_n 1, 1) := by decide +kernel
theorem d_Mo_readTerm_211 : decode b_Mo_readTerm 211 = .ok (.iload 4, 2) := by decide +kernel
theorem d_Mo_readTerm_213 : decode b_Mo_readTerm 213 = .ok (.iload_n 3, 1) := by decide +kernel
theorem d_Mo_readTerm_214 : decode b_Mo_readTerm 214 = .ok (.ldc 163, 2) := by decide +kernel
theorem d_Mo_readTerm_216 : decode b_Mo_readTerm 216 = .ok (.invokestatic 154, 3) := by decide +kernel
theorem d_Mo_readTerm_219 : decode b_Mo_readTerm 219 = .ok (.ifCond .eq 60, 3) := by decide +kernel
theorem d_Mo_readTerm_222 : decode b_Mo_readTerm 222 = .ok (.aload_n 1, 1) := by decide +kernel
theorem d_Mo_readTerm_223 : decode b_Mo_readTerm 223 = .ok (.iload 4, 2) := by decide +kernel
theorem d_Mo_readTerm_225 : decode b_Mo_readTerm 225 = .ok (.iload_n 3, 1) := by decide +kernel
theorem d_Mo_readTerm_226 : decode b_Mo_readTerm 226 = .ok (.invokestatic 165, 3) := by decide +kernel
theorem d_Mo_readTerm_229 : decode b_Mo_readTerm 229 = .ok (.istore 6, 2) := by decide +kernel
theorem d_Mo_readTerm_231 : decode b_Mo_readTerm 231 = .ok (.iload 6, 2) := by decide +kernel
theorem d_Mo_readTerm_233 : decode b_Mo_readTerm 233 = .ok (.iload_n 3, 1) := by decide +kernel
theorem d_Mo_readTerm_234 : decode b_Mo_readTerm 234 = .ok (.if_icmp .ge 16, 3) := by decide +kernel
theorem d_Mo_readTerm_237 : decode b_Mo_readTerm 237 = .ok (.aload_n 0, 1) := by decide +kernel
theorem d_Mo_readTerm_238 : decode b_Mo_readTerm 238 = .ok (.aload_n 1, 1) := by decide +kernel
theorem d_Mo_readTerm_239 : decode b_Mo_readTerm 239 = .ok (.iload 6, 2) := by decide +kernel
theorem d_Mo_readTerm_241 : decode b_Mo_readTerm 241 = .ok (.iconst 1, 1) := by decide +kernel
theorem d_Mo_readTerm_242 : decode b_Mo_readTerm 242 = .ok (.iadd, 1) := by decide +kernel
theorem d_Mo_readTerm_243 : decode b_Mo_readTerm 243 = .ok (.iload_n 3, 1) := by decide +kernel
theorem d_Mo_readTerm_244 : decode b_Mo_readTerm 244 = .ok (.invokestatic 168, 3) := by decide +kernel
theorem d_Mo_readTerm_247 : decode b_Mo_readTerm 247 = .ok (.putfield 147, 3) := by decide +kernel
theorem d_Mo_readTerm_250 : decode b_Mo_readTerm 250 = .ok (.aload_n 0, 1) := by decide +kernel
theorem d_Mo_readTerm_251 : decode b_Mo_readTerm 251 = .ok (.aload_n 1, 1) := by decide +kernel
theorem d_Mo_readTerm_252 : decode b_Mo_readTerm 252 = .ok (.iload 4, 2) := by decide +kernel
theorem d_Mo_readTerm_254 : decode b_Mo_readTerm 254 = .ok (.iconst 4, 1) := by decide +kernel
theorem d_Mo_readTerm_255 : decode b_Mo_readTerm 255 = .ok (.iadd, 1) := by decide +kernel
theorem d_Mo_readTerm_256 : decode b_Mo_readTerm 256 = .ok (.iload 6, 2) := by decide +kernel
theorem d_Mo_readTerm_258 : decode b_Mo_readTerm 258 = .ok (.invokevirtual 171, 3) := by decide +kernel
theorem d_Mo_readTerm_261 : decode b_Mo_readTerm 261 = .ok (.ifCond .eq 15, 3) := by decide +kernel
theorem d_Mo_readTerm_264 : decode b_Mo_readTerm 264 = .ok (.aload_n 0, 1) := by decide +kernel
theorem d_Mo_readTerm_265 : decode b_Mo_readTerm 265 = .ok (.getfield 147, 3) := by decide +kernel
theorem d_Mo_readTerm_268 : decode b_Mo_readTerm 268 = .ok (.ifCond .lt 8, 3) := by decide +kernel
theorem d_Mo_readTerm_271 : decode b_Mo_readTerm 271 = .ok (.aload_n 0, 1) := by decide +kernel
theorem d_Mo_readTerm_272 : decode b_Mo_readTerm 272 = .ok (.iconst 4, 1) := by decide +kernel
theorem d_Mo_readTerm_273 : decode b_Mo_readTerm 273 = .ok (.putfield 138, 3) := by decide +kernel
theorem d_Mo_readTerm_276 : decode b_Mo_readTerm 276 = .ok (.goto 112, 3) := by decide +kernel
theorem d_Mo_readTerm_279 : decode b_Mo_readTerm 279 = .ok (.aload_n 1, 1) := by decide +kernel
theorem d_Mo_readTerm_280 : decode b_Mo_readTerm 280 = .ok (.iload 4, 2) := by decide +kernel
theorem d_Mo_readTerm_282 : decode b_Mo_readTerm 282 = .ok (.iload_n 3, 1) := by decide +kernel
theorem d_Mo_readTerm_283 : decode b_Mo_readTerm 283 = .ok (.ldc 174, 2) := by decide +kernel
theorem d_Mo_readTerm_285 : decode b_Mo_readTerm 285 = .ok (.invokestatic 154, 3) := by decide +kernel
theorem d_Mo_readTerm_288 : decode b_Mo_readTerm 288 = .ok (.ifCond .eq 47, 3) := by decide +kernel
theorem d_Mo_readTerm_291 : decode b_Mo_readTerm 291 = .ok (.iload_n 3, 1) := by decide +kernel
theorem d_Mo_readTerm_292 : decode b_Mo_readTerm 292 = .ok (.iload 4, 2) := by decide +kernel
theorem d_Mo_readTerm_294 : decode b_Mo_readTerm 294 = .ok (.iconst 1, 1) := by decide +kernel
theorem d_Mo_readTerm_295 : decode b_Mo_readTerm 295 = .ok (.iadd, 1) := by decide +kernel
theorem d_Mo_readTerm_296 : decode b_Mo_readTerm 296 = .ok (.if_icmp .eq 25, 3) := by decide +kernel
theorem d_Mo_readTerm_299 : decode b_Mo_readTerm 299 = .ok (.aload_n 1, 1) := by decide +kernel
theorem d_Mo_readTerm_300 : decode b_Mo_readTerm 300 = .ok (.iload 4, 2) := by decide +kernel
theorem d_Mo_readTerm_302 : decode b_Mo_readTerm 302 = .ok (.iconst 1, 1) := by decide +kernel
theorem d_Mo_readTerm_303 : decode b_Mo_readTerm 303 = .ok (.iadd, 1) := by decide +kernel
theorem d_Mo_readTerm_304 : decode b_Mo_readTerm 304 = .ok (.baload, 1) := by decide +kernel
theorem d_Mo_readTerm_305 : decode b_Mo_readTerm 305 = .ok (.bipush 58, 2) := by decide +kernel
theorem d_Mo_readTerm_307 : decode b_Mo_readTerm 307 = .ok (.if_icmp .eq 14, 3) := by decide +kernel
theorem d_Mo_readTerm_310 : decode b_Mo_readTerm 310 = .ok (.aload_n 1, 1) := by decide +kernel
theorem d_Mo_readTerm_311 : decode b_Mo_readTerm 311 = .ok (.iload 4, 2) := by decide +kernel
theorem d_Mo_readTerm_313 : decode b_Mo_readTerm 313 = .ok (.iconst 1, 1) := by decide +kernel
theorem d_Mo_readTerm_314 : decode b_Mo_readTerm 314 = .ok (.iadd, 1) := by decide +kernel
theorem d_Mo_readTerm_315 : decode b_Mo_readTerm 315 = .ok (.baload, 1) := by decide +kernel
theorem d_Mo_readTerm_316 : decode b_Mo_readTerm 316 = .ok (.bipush 47, 2) := by decide +kernel
theorem d_Mo_readTerm_318 : decode b_Mo_readTerm 318 = .ok (.if_icmp .ne 17, 3) := by decide +kernel
theorem d_Mo_readTerm_321 : decode b_Mo_readTerm 321 = .ok (.aload_n 0, 1) := by decide +kernel
theorem d_Mo_readTerm_322 : decode b_Mo_readTerm 322 = .ok (.aload_n 1, 1) := by decide +kernel
theorem d_Mo_readTerm_323 : decode b_Mo_readTerm 323 = .ok (.iload 4, 2) := by decide +kernel
theorem d_Mo_readTerm_325 : decode b_Mo_readTerm 325 = .ok (.iconst 1, 1) := by decide +kernel
theorem d_Mo_readTerm_326 : decode b_Mo_readTerm 326 = .ok (.iadd, 1) := by decide +kernel
theorem d_Mo_readTerm_327 : decode b_Mo_readTerm 327 = .ok (.iload_n 3, 1) := by decide +kernel
theorem d_Mo_readTerm_328 : decode b_Mo_readTerm 328 = .ok (.iconst 2, 1) := by decide +kernel
theorem d_Mo_readTerm_329 : decode b_Mo_readTerm 329 = .ok (.invokevirtual 176, 3) := by decide +kernel
theorem d_Mo_readTerm_332 : decode b_Mo_readTerm 332 = .ok (.goto 56, 3) := by decide +kernel
theorem d_Mo_readTerm_335 : decode b_Mo_readTerm 335 = .ok (.aload_n 1, 1) := by decide +kernel
theorem d_Mo_readTerm_336 : decode b_Mo_readTerm 336 = .ok (.iload 4, 2) := by decide +kernel
theorem d_Mo_readTerm_338 : decode b_Mo_readTerm 338 = .ok (.iload_n 3, 1) := by decide +kernel
theorem d_Mo_readTerm_339 : decode b_Mo_readTerm 339 = .ok (.ldc 180, 2) := by decide +kernel
theorem d_Mo_readTerm_341 : decode b_Mo_readTerm 341 = .ok (.invokestatic 154, 3) := by decide +kernel
theorem d_Mo_readTerm_344 : decode b_Mo_readTerm 344 = .ok (.ifCond .eq 44, 3) := by decide +kernel
theorem d_Mo_readTerm_347 : decode b_Mo_readTerm 347 = .ok (.iload_n 3, 1) := by decide +kernel
theorem d_Mo_readTerm_348 : decode b_Mo_readTerm 348 = .ok (.iload 4, 2) := by decide +kernel
theorem d_Mo_readTerm_350 : decode b_Mo_readTerm 350 = .ok (.iconst 2, 1) := by decide +kernel
theorem d_Mo_readTerm_351 : decode b_Mo_readTerm 351 = .ok (.iadd, 1) := by decide +kernel
theorem d_Mo_readTerm_352 : decode b_Mo_readTerm 352 = .ok (.if_icmp .eq 25, 3) := by decide +kernel
theorem d_Mo_readTerm_355 : decode b_Mo_readTerm 355 = .ok (.aload_n 1, 1) := by decide +kernel
theorem d_Mo_readTerm_356 : decode b_Mo_readTerm 356 = .ok (.iload 4, 2) := by decide +kernel
theorem d_Mo_readTerm_358 : decode b_Mo_readTerm 358 = .ok (.iconst 2, 1) := by decide +kernel
theorem d_Mo_readTerm_359 : decode b_Mo_readTerm 359 = .ok (.iadd, 1) := by decide +kernel
theorem d_Mo_readTerm_360 : decode b_Mo_readTerm 360 = .ok (.baload, 1) := by decide +kernel
theorem d_Mo_readTerm_361 : decode b_Mo_readTerm 361 = .ok (.bipush 58, 2) := by decide +kernel
theorem d_Mo_readTerm_363 : decode b_Mo_readTerm 363 = .ok (.if_icmp .eq 14, 3) := by decide +kernel
theorem d_Mo_readTerm_366 : decode b_Mo_readTerm 366 = .ok (.aload_n 1, 1) := by decide +kernel
theorem d_Mo_readTerm_367 : decode b_Mo_readTerm 367 = .ok (.iload 4, 2) := by decide +kernel
theorem d_Mo_readTerm_369 : decode b_Mo_readTerm 369 = .ok (.iconst 2, 1) := by decide +kernel
theorem d_Mo_readTerm_370 : decode b_Mo_readTerm 370 = .ok (.iadd, 1) := by decide +kernel
theorem d_Mo_readTerm_371 : decode b_Mo_readTerm 371 = .ok (.baload, 1) := by decide +kernel
theorem d_Mo_readTerm_372 : decode b_Mo_readTerm 372 = .ok (.bipush 47, 2) := by decide +kernel
theorem d_Mo_readTerm_374 : decode b_Mo_readTerm 374 = .ok (.if_icmp .ne 14, 3) := by decide +kernel
theorem d_Mo_readTerm_377 : decode b_Mo_readTerm 377 = .ok (.aload_n 0, 1) := by decide +kernel
theorem d_Mo_readTerm_378 : decode b_Mo_readTerm 378 = .ok (.aload_n 1, 1) := by decide +kernel
theorem d_Mo_readTerm_379 : decode b_Mo_readTerm 379 = .ok (.iload 4, 2) := by decide +kernel
theorem d_Mo_readTerm_381 : decode b_Mo_readTerm 381 = .ok (.iconst 2, 1) := by decide +kernel
theorem d_Mo_readTerm_382 : decode b_Mo_readTerm 382 = .ok (.iadd, 1) := by decide +kernel
theorem d_Mo_readTerm_383 : decode b_Mo_readTerm 383 = .ok (.iload_n 3, 1) := by decide +kernel
theorem d_Mo_readTerm_384 : decode b_Mo_readTerm 384 = .ok (.iconst 3, 1) := by decide +kernel
theorem d_Mo_readTerm_385 : decode b_Mo_readTerm 385 = .ok (.invokevirtual 176, 3) := by decide +kernel
theorem d_Mo_readTerm_388 : decode b_Mo_readTerm 388 = .ok (.aload_n 0, 1) := by decide +kernel
theorem d_Mo_readTerm_389 : decode b_Mo_readTerm 389 = .ok (.getfield 138, 3) := by decide +kernel
theorem d_Mo_readTerm_392 : decode b_Mo_readTerm 392 = .ok (.bipush 8, 2) := by decide +kernel
theorem d_Mo_readTerm_394 : decode b_Mo_readTerm 394 = .ok (.if_icmp .ne 8, 3) := by decide +kernel
theorem d_Mo_readTerm_397 : decode b_Mo_readTerm 397 = .ok (.iload 5, 2) := by decide +kernel
theorem d_Mo_readTerm_399 : decode b_Mo_readTerm 399 = .ok (.ifCond .eq 4, 3) := by decide +kernel
theorem d_Mo_readTerm_402 : decode b_Mo_readTerm 402 = .ok (.return_, 1) := by decide +kernel
theorem d_Mo_readTerm_403 : decode b_Mo_readTerm 403 = .ok (.aload_n 1, 1) := by decide +kernel
theorem d_Mo_readTerm_404 : decode b_Mo_readTerm 404 = .ok (.iload 4, 2) := by decide +kernel
theorem d_Mo_readTerm_406 : decode b_Mo_readTerm 406 = .ok (.iload_n 3, 1) := by decide +kernel
theorem d_Mo_readTerm_407 : decode b_Mo_readTerm 407 = .ok (.ldc 182, 2) := by decide +kernel
theorem d_Mo_readTerm_409 : decode b_Mo_readTerm 409 = .ok (.invokestatic 154, 3) := by decide +kernel
theorem d_Mo_readTerm_412 : decode b_Mo_readTerm 412 = .ok (.ifCond .eq 40, 3) := by decide +kernel
theorem d_Mo_readTerm_415 : decode b_Mo_readTerm 415 = .ok (.aload_n 0, 1) := by decide +kernel
theorem d_Mo_readTerm_416 : decode b_Mo_readTerm 416 = .ok (.iload 4, 2) := by decide +kernel
theorem d_Mo_readTerm_418 : decode b_Mo_readTerm 418 = .ok (.bipush 9, 2) := by decide +kernel
theorem d_Mo_readTerm_420 : decode b_Mo_readTerm 420 = .ok (.iadd, 1) := by decide +kernel
theorem d_Mo_readTerm_421 : decode b_Mo_readTerm 421 = .ok (.putfield 141, 3) := by decide +kernel
theorem d_Mo_readTerm_424 : decode b_Mo_readTerm 424 = .ok (.aload_n 0, 1) := by decide +kernel
theorem d_Mo_readTerm_425 : decode b_Mo_readTerm 425 = .ok (.iload_n 3, 1) := by decide +kernel
theorem d_Mo_readTerm_426 : decode b_Mo_readTerm 426 = .ok (.putfield 144, 3) := by decide +kernel
theorem d_Mo_readTerm_429 : decode b_Mo_readTerm 429 = .ok (.aload_n 1, 1) := by decide +kernel
theorem d_Mo_readTerm_430 : decode b_Mo_readTerm 430 = .ok (.aload_n 0, 1) := by decide +kernel
theorem d_Mo_readTerm_431 : decode b_Mo_readTerm 431 = .ok (.getfield 141, 3) := by decide +kernel
theorem d_Mo_readTerm_434 : decode b_Mo_readTerm 434 = .ok (.aload_n 0, 1) := by decide +kernel
theorem d_Mo_readTerm_435 : decode b_Mo_readTerm 435 = .ok (.getfield 144, 3) := by decide +kernel
theorem d_Mo_readTerm_438 : decode b_Mo_readTerm 438 = .ok (.iconst 1, 1) := by decide +kernel
theorem d_Mo_readTerm_439 : decode b_Mo_readTerm 439 = .ok (.invokestatic 157, 3) := by decide +kernel
theorem d_Mo_readTerm_442 : decode b_Mo_readTerm 442 = .ok (.ifCond .eq 9, 3) := by decide +kernel
theorem d_Mo_readTerm_445 : decode b_Mo_readTerm 445 = .ok (.aload_n 0, 1) := by decide +kernel
theorem d_Mo_readTerm_446 : decode b_Mo_readTerm 446 = .ok (.bipush 6, 2) := by decide +kernel
theorem d_Mo_readTerm_448 : decode b_Mo_readTerm 448 = .ok (.putfield 138, 3) := by decide +kernel
theorem d_Mo_readTerm_451 : decode b_Mo_readTerm 451 = .ok (.return_, 1) := by decide +kernel
theorem d_Mo_readTerm_452 : decode b_Mo_readTerm 452 = .ok (.iload 4, 2) := by decide +kernel
theorem d_Mo_readTerm_454 : decode b_Mo_readTerm 454 = .ok (.istore 6, 2) := by decide +kernel
theorem d_Mo_readTerm_456 : decode b_Mo_readTerm 456 = .ok (.iload 6, 2) := by decide +kernel
theorem d_Mo_readTerm_458 : decode b_Mo_readTerm 458 = .ok (.iload_n 3, 1) := by decide +kernel
theorem d_Mo_readTerm_459 : decode b_Mo_readTerm 459 = .ok (.if_icmp .ge 63, 3) := by decide +kernel
theorem d_Mo_readTerm_462 : decode b_Mo_readTerm 462 = .ok (.aload_n 1, 1) := by decide +kernel
theorem d_Mo_readTerm_463 : decode b_Mo_readTerm 463 = .ok (.iload 6, 2) := by decide +kernel
theorem d_Mo_readTerm_465 : decode b_Mo_readTerm 465 = .ok (.baload, 1) := by decide +kernel
theorem d_Mo_readTerm_466 : decode b_Mo_readTerm 466 = .ok (.invokestatic 98, 3) := by decide +kernel
theorem d_Mo_readTerm_469 : decode b_Mo_readTerm 469 = .ok (.ifCond .ne 47, 3) := by decide +kernel
theorem d_Mo_readTerm_472 : decode b_Mo_readTerm 472 = .ok (.iload 6, 2) := by decide +kernel
theorem d_Mo_readTerm_474 : decode b_Mo_readTerm 474 = .ok (.iload 4, 2) := by decide +kernel
theorem d_Mo_readTerm_476 : decode b_Mo_readTerm 476 = .ok (.if_icmp .le 46, 3) := by decide +kernel
theorem d_Mo_readTerm_479 : decode b_Mo_readTerm 479 = .ok (.aload_n 1, 1) := by decide +kernel
theorem d_Mo_readTerm_480 : decode b_Mo_readTerm 480 = .ok (.iload 6, 2) := by decide +kernel
theorem d_Mo_readTerm_482 : decode b_Mo_readTerm 482 = .ok (.baload, 1) := by decide +kernel
theorem d_Mo_readTerm_483 : decode b_Mo_readTerm 483 = .ok (.invokestatic 102, 3) := by decide +kernel
theorem d_Mo_readTerm_486 : decode b_Mo_readTerm 486 = .ok (.ifCond .ne 30, 3) := by decide +kernel
theorem d_Mo_readTerm_489 : decode b_Mo_readTerm 489 = .ok (.aload_n 1, 1) := by decide +kernel
theorem d_Mo_readTerm_490 : decode b_Mo_readTerm 490 = .ok (.iload 6, 2) := by decide +kernel
theorem d_Mo_readTerm_492 : decode b_Mo_readTerm 492 = .ok (.baload, 1) := by decide +kernel
theorem d_Mo_readTerm_493 : decode b_Mo_readTerm 493 = .ok (.bipush 45, 2) := by decide +kernel
theorem d_Mo_readTerm_495 : decode b_Mo_readTerm 495 = .ok (.if_icmp .eq 21, 3) := by decide +kernel
theorem d_Mo_readTerm_498 : decode b_Mo_readTerm 498 = .ok (.aload_n 1, 1) := by decide +kernel
theorem d_Mo_readTerm_499 : decode b_Mo_readTerm 499 = .ok (.iload 6, 2) := by decide +kernel
theorem d_Mo_readTerm_501 : decode b_Mo_readTerm 501 = .ok (.baload, 1) := by decide +kernel
theorem d_Mo_readTerm_502 : decode b_Mo_readTerm 502 = .ok (.bipush 95, 2) := by decide +kernel
theorem d_Mo_readTerm_504 : decode b_Mo_readTerm 504 = .ok (.if_icmp .eq 12, 3) := by decide +kernel
theorem d_Mo_readTerm_507 : decode b_Mo_readTerm 507 = .ok (.aload_n 1, 1) := by decide +kernel
theorem d_Mo_readTerm_508 : decode b_Mo_readTerm 508 = .ok (.iload 6, 2) := by decide +kernel
theorem d_Mo_readTerm_510 : decode b_Mo_readTerm 510 = .ok (.baload, 1) := by decide +kernel
theorem d_Mo_readTerm_511 : decode b_Mo_readTerm 511 = .ok (.bipush 46, 2) := by decide +kernel
theorem d_Mo_readTerm_513 : decode b_Mo_readTerm 513 = .ok (.if_icmp .ne 9, 3) := by decide +kernel
theorem d_Mo_readTerm_516 : decode b_Mo_readTerm 516 = .ok (.iinc 6 1, 3) := by decide +kernel
theorem d_Mo_readTerm_519 : decode b_Mo_readTerm 519 = .ok (.goto (-63), 3) := by decide +kernel
theorem d_Mo_readTerm_522 : decode b_Mo_readTerm 522 = .ok (.iload 6, 2) := by decide +kernel
theorem d_Mo_readTerm_524 : decode b_Mo_readTerm 524 = .ok (.iload 4, 2) := by decide +kernel
theorem d_Mo_readTerm_526 : decode b_Mo_readTerm 526 = .ok (.if_icmp .le 24, 3) := by decide +kernel
theorem d_Mo_readTerm_529 : decode b_Mo_readTerm 529 = .ok (.iload 6, 2) := by decide +kernel
theorem d_Mo_readTerm_531 : decode b_Mo_readTerm 531 = .ok (.iload_n 3, 1) := by decide +kernel
theorem d_Mo_readTerm_532 : decode b_Mo_readTerm 532 = .ok (.if_icmp .ge 18, 3) := by decide +kernel
theorem d_Mo_readTerm_535 : decode b_Mo_readTerm 535 = .ok (.aload_n 1, 1) := by decide +kernel
theorem d_Mo_readTerm_536 : decode b_Mo_readTerm 536 = .ok (.iload 6, 2) := by decide +kernel
theorem d_Mo_readTerm_538 : decode b_Mo_readTerm 538 = .ok (.baload, 1) := by decide +kernel
theorem d_Mo_readTerm_539 : decode b_Mo_readTerm 539 = .ok (.bipush 61, 2) := by decide +kernel
theorem d_Mo_readTerm_541 : decode b_Mo_readTerm 541 = .ok (.if_icmp .ne 9, 3) := by decide +kernel
theorem d_Mo_readTerm_544 : decode b_Mo_readTerm 544 = .ok (.aload_n 0, 1) := by decide +kernel
theorem d_Mo_readTerm_545 : decode b_Mo_readTerm 545 = .ok (.bipush 7, 2) := by decide +kernel
theorem d_Mo_readTerm_547 : decode b_Mo_readTerm 547 = .ok (.putfield 138, 3) := by decide +kernel
theorem d_Mo_readTerm_550 : decode b_Mo_readTerm 550 = .ok (.return_, 1) := by decide +kernel
theorem d_Mo_recordOf_0 : decode b_Mo_recordOf 0 = .ok (.iconst (-1), 1) := by decide +kernel
theorem d_Mo_recordOf_1 : decode b_Mo_recordOf 1 = .ok (.istore_n 2, 1) := by decide +kernel
theorem d_Mo_recordOf_2 : decode b_Mo_recordOf 2 = .ok (.iconst 0, 1) := by decide +kernel
theorem d_Mo_recordOf_3 : decode b_Mo_recordOf 3 = .ok (.istore_n 3, 1) := by decide +kernel
theorem d_Mo_recordOf_4 : decode b_Mo_recordOf 4 = .ok (.iload_n 3, 1) := by decide +kernel
theorem d_Mo_recordOf_5 : decode b_Mo_recordOf 5 = .ok (.aload_n 0, 1) := by decide +kernel
theorem d_Mo_recordOf_6 : decode b_Mo_recordOf 6 = .ok (.getfield 73, 3) := by decide +kernel
theorem d_Mo_recordOf_9 : decode b_Mo_recordOf 9 = .ok (.if_icmp .ge 80, 3) := by decide +kernel
theorem d_Mo_recordOf_12 : decode b_Mo_recordOf 12 = .ok (.aload_n 0, 1) := by decide +kernel
theorem d_Mo_recordOf_13 : decode b_Mo_recordOf 13 = .ok (.iload_n 3, 1) := by decide +kernel
theorem d_Mo_recordOf_14 : decode b_Mo_recordOf 14 = .ok (.iconst 0, 1) := by decide +kernel
theorem d_Mo_recordOf_15 : decode b_Mo_recordOf 15 = .ok (.aload_n 1, 1) := by decide +kernel
theorem d_Mo_recordOf_16 : decode b_Mo_recordOf 16 = .ok (.invokevirtual 92, 3) := by decide +kernel
theorem d_Mo_recordOf_19 : decode b_Mo_recordOf 19 = .ok (.ifCond .ne 6, 3) := by decide +kernel
theorem d_Mo_recordOf_22 : decode b_Mo_recordOf 22 = .ok (.goto 61, 3) := by decide +kernel
theorem d_Mo_recordOf_25 : decode b_Mo_recordOf 25 = .ok (.aload_n 0, 1) := by decide +kernel
theorem d_Mo_recordOf_26 : decode b_Mo_recordOf 26 = .ok (.getfield 47, 3) := by decide +kernel
theorem d_Mo_recordOf_29 : decode b_Mo_recordOf 29 = .ok (.iload_n 3, 1) := by decide +kernel
theorem d_Mo_recordOf_30 : decode b_Mo_recordOf 30 = .ok (.aaload, 1) := by decide +kernel
theorem d_Mo_recordOf_31 : decode b_Mo_recordOf 31 = .ok (.astore 4, 2) := by decide +kernel
theorem d_Mo_recordOf_33 : decode b_Mo_recordOf 33 = .ok (.aload 4, 2) := by decide +kernel
theorem d_Mo_recordOf_35 : decode b_Mo_recordOf 35 = .ok (.getfield 192, 3) := by decide +kernel
theorem d_Mo_recordOf_38 : decode b_Mo_recordOf 38 = .ok (.iconst 0, 1) := by decide +kernel
theorem d_Mo_recordOf_39 : decode b_Mo_recordOf 39 = .ok (.aload 4, 2) := by decide +kernel
theorem d_Mo_recordOf_41 : decode b_Mo_recordOf 41 = .ok (.getfield 86, 3) := by decide +kernel
theorem d_Mo_recordOf_44 : decode b_Mo_recordOf 44 = .ok (.ldc 204, 2) := by decide +kernel
theorem d_Mo_recordOf_46 : decode b_Mo_recordOf 46 = .ok (.invokestatic 11, 3) := by decide +kernel
theorem d_Mo_recordOf_49 : decode b_Mo_recordOf 49 = .ok (.ifCond .ne 25, 3) := by decide +kernel
theorem d_Mo_recordOf_52 : decode b_Mo_recordOf 52 = .ok (.aload 4, 2) := by decide +kernel
theorem d_Mo_recordOf_54 : decode b_Mo_recordOf 54 = .ok (.getfield 192, 3) := by decide +kernel
theorem d_Mo_recordOf_57 : decode b_Mo_recordOf 57 = .ok (.iconst 0, 1) := by decide +kernel
theorem d_Mo_recordOf_58 : decode b_Mo_recordOf 58 = .ok (.aload 4, 2) := by decide +kernel
theorem d_Mo_recordOf_60 : decode b_Mo_recordOf 60 = .ok (.getfield 86, 3) := by decide +kernel
theorem d_Mo_recordOf_63 : decode b_Mo_recordOf 63 = .ok (.ldc 206, 2) := by decide +kernel
theorem d_Mo_recordOf_65 : decode b_Mo_recordOf 65 = .ok (.invokestatic 154, 3) := by decide +kernel
theorem d_Mo_recordOf_68 : decode b_Mo_recordOf 68 = .ok (.ifCond .ne 6, 3) := by decide +kernel
theorem d_Mo_recordOf_71 : decode b_Mo_recordOf 71 = .ok (.goto 12, 3) := by decide +kernel
theorem d_Mo_recordOf_74 : decode b_Mo_recordOf 74 = .ok (.iload_n 2, 1) := by decide +kernel
theorem d_Mo_recordOf_75 : decode b_Mo_recordOf 75 = .ok (.ifCond .lt 6, 3) := by decide +kernel
theorem d_Mo_recordOf_78 : decode b_Mo_recordOf 78 = .ok (.bipush (-2), 2) := by decide +kernel
theorem d_Mo_recordOf_80 : decode b_Mo_recordOf 80 = .ok (.ireturn, 1) := by decide +kernel
theorem d_Mo_recordOf_81 : decode b_Mo_recordOf 81 = .ok (.iload_n 3, 1) := by decide +kernel
theorem d_Mo_recordOf_82 : decode b_Mo_recordOf 82 = .ok (.istore_n 2, 1) := by decide +kernel
theorem d_Mo_recordOf_83 : decode b_Mo_recordOf 83 = .ok (.iinc 3 1, 3) := by decide +kernel
theorem d_Mo_recordOf_86 : decode b_Mo_recordOf 86 = .ok (.goto (-82), 3) := by decide +kernel
theorem d_Mo_recordOf_89 : decode b_Mo_recordOf 89 = .ok (.iload_n 2, 1) := by decide +kernel
theorem d_Mo_recordOf_90 : decode b_Mo_recordOf 90 = .ok (.ireturn, 1) := by decide +kernel
theorem d_Mo_sender_0 : decode b_Mo_sender 0 = .ok (.aload_n 0, 1) := by decide +kernel
theorem d_Mo_sender_1 : decode b_Mo_sender 1 = .ok (.invokevirtual 70, 3) := by decide +kernel
theorem d_Mo_sender_4 : decode b_Mo_sender 4 = .ok (.istore_n 2, 1) := by decide +kernel
theorem d_Mo_sender_5 : decode b_Mo_sender 5 = .ok (.iconst 0, 1) := by decide +kernel
theorem d_Mo_sender_6 : decode b_Mo_sender 6 = .ok (.istore_n 3, 1) := by decide +kernel
theorem d_Mo_sender_7 : decode b_Mo_sender 7 = .ok (.iload_n 3, 1) := by decide +kernel
theorem d_Mo_sender_8 : decode b_Mo_sender 8 = .ok (.iload_n 2, 1) := by decide +kernel
theorem d_Mo_sender_9 : decode b_Mo_sender 9 = .ok (.if_icmp .ge 20, 3) := by decide +kernel
theorem d_Mo_sender_12 : decode b_Mo_sender 12 = .ok (.aload_n 0, 1) := by decide +kernel
theorem d_Mo_sender_13 : decode b_Mo_sender 13 = .ok (.getfield 23, 3) := by decide +kernel
theorem d_Mo_sender_16 : decode b_Mo_sender 16 = .ok (.iload_n 3, 1) := by decide +kernel
theorem d_Mo_sender_17 : decode b_Mo_sender 17 = .ok (.baload, 1) := by decide +kernel
theorem d_Mo_sender_18 : decode b_Mo_sender 18 = .ok (.bipush 64, 2) := by decide +kernel
theorem d_Mo_sender_20 : decode b_Mo_sender 20 = .ok (.if_icmp .eq 9, 3) := by decide +kernel
theorem d_Mo_sender_23 : decode b_Mo_sender 23 = .ok (.iinc 3 1, 3) := by decide +kernel
theorem d_Mo_sender_26 : decode b_Mo_sender 26 = .ok (.goto (-19), 3) := by decide +kernel
theorem d_Mo_sender_29 : decode b_Mo_sender 29 = .ok (.iload_n 3, 1) := by decide +kernel
theorem d_Mo_sender_30 : decode b_Mo_sender 30 = .ok (.iload_n 2, 1) := by decide +kernel
theorem d_Mo_sender_31 : decode b_Mo_sender 31 = .ok (.if_icmp .eq 29, 3) := by decide +kernel
theorem d_Mo_sender_34 : decode b_Mo_sender 34 = .ok (.iload_n 3, 1) := by decide +kernel
theorem d_Mo_sender_35 : decode b_Mo_sender 35 = .ok (.i2l, 1) := by decide +kernel
theorem d_Mo_sender_36 : decode b_Mo_sender 36 = .ok (.lconst 1, 1) := by decide +kernel
theorem d_Mo_sender_37 : decode b_Mo_sender 37 = .ok (.ldc2_w 96, 3) := by decide +kernel
theorem d_Mo_sender_40 : decode b_Mo_sender 40 = .ok (.invokestatic 66, 3) := by decide +kernel
theorem d_Mo_sender_43 : decode b_Mo_sender 43 = .ok (.ifCond .eq 17, 3) := by decide +kernel
theorem d_Mo_sender_46 : decode b_Mo_sender 46 = .ok (.aload_n 0, 1) := by decide +kernel
theorem d_Mo_sender_47 : decode b_Mo_sender 47 = .ok (.getfield 23, 3) := by decide +kernel
theorem d_Mo_sender_50 : decode b_Mo_sender 50 = .ok (.iload_n 3, 1) := by decide +kernel
theorem d_Mo_sender_51 : decode b_Mo_sender 51 = .ok (.iconst 1, 1) := by decide +kernel
theorem d_Mo_sender_52 : decode b_Mo_sender 52 = .ok (.iadd, 1) := by decide +kernel
theorem d_Mo_sender_53 : decode b_Mo_sender 53 = .ok (.iload_n 2, 1) := by decide +kernel
theorem d_Mo_sender_54 : decode b_Mo_sender 54 = .ok (.invokestatic 78, 3) := by decide +kernel
theorem d_Mo_sender_57 : decode b_Mo_sender 57 = .ok (.ifCond .ne 5, 3) := by decide +kernel
theorem d_Mo_sender_60 : decode b_Mo_sender 60 = .ok (.iconst (-1), 1) := by decide +kernel
theorem d_Mo_sender_61 : decode b_Mo_sender 61 = .ok (.ireturn, 1) := by decide +kernel
theorem d_Mo_sender_62 : decode b_Mo_sender 62 = .ok (.iconst 0, 1) := by decide +kernel
theorem d_Mo_sender_63 : decode b_Mo_sender 63 = .ok (.istore 4, 2) := by decide +kernel
theorem d_Mo_sender_65 : decode b_Mo_sender 65 = .ok (.iload 4, 2) := by decide +kernel
theorem d_Mo_sender_67 : decode b_Mo_sender 67 = .ok (.iload_n 3, 1) := by decide +kernel
theorem d_Mo_sender_68 : decode b_Mo_sender 68 = .ok (.if_icmp .ge 64, 3) := by decide +kernel
theorem d_Mo_sender_71 : decode b_Mo_sender 71 = .ok (.aload_n 0, 1) := by decide +kernel
theorem d_Mo_sender_72 : decode b_Mo_sender 72 = .ok (.getfield 23, 3) := by decide +kernel
theorem d_Mo_sender_75 : decode b_Mo_sender 75 = .ok (.iload 4, 2) := by decide +kernel
theorem d_Mo_sender_77 : decode b_Mo_sender 77 = .ok (.baload, 1) := by decide +kernel
theorem d_Mo_sender_78 : decode b_Mo_sender 78 = .ok (.istore 5, 2) := by decide +kernel
theorem d_Mo_sender_80 : decode b_Mo_sender 80 = .ok (.iload 5, 2) := by decide +kernel
theorem d_Mo_sender_82 : decode b_Mo_sender 82 = .ok (.invokestatic 98, 3) := by decide +kernel
theorem d_Mo_sender_85 : decode b_Mo_sender 85 = .ok (.ifCond .ne 41, 3) := by decide +kernel
theorem d_Mo_sender_88 : decode b_Mo_sender 88 = .ok (.iload 5, 2) := by decide +kernel
theorem d_Mo_sender_90 : decode b_Mo_sender 90 = .ok (.invokestatic 102, 3) := by decide +kernel
theorem d_Mo_sender_93 : decode b_Mo_sender 93 = .ok (.ifCond .ne 33, 3) := by decide +kernel
theorem d_Mo_sender_96 : decode b_Mo_sender 96 = .ok (.iload 5, 2) := by decide +kernel
theorem d_Mo_sender_98 : decode b_Mo_sender 98 = .ok (.bipush 46, 2) := by decide +kernel
theorem d_Mo_sender_100 : decode b_Mo_sender 100 = .ok (.if_icmp .eq 26, 3) := by decide +kernel
theorem d_Mo_sender_103 : decode b_Mo_sender 103 = .ok (.iload 5, 2) := by decide +kernel
theorem d_Mo_sender_105 : decode b_Mo_sender 105 = .ok (.bipush 45, 2) := by decide +kernel
theorem d_Mo_sender_107 : decode b_Mo_sender 107 = .ok (.if_icmp .eq 19, 3) := by decide +kernel
theorem d_Mo_sender_110 : decode b_Mo_sender 110 = .ok (.iload 5, 2) := by decide +kernel
theorem d_Mo_sender_112 : decode b_Mo_sender 112 = .ok (.bipush 95, 2) := by decide +kernel
theorem d_Mo_sender_114 : decode b_Mo_sender 114 = .ok (.if_icmp .eq 12, 3) := by decide +kernel
theorem d_Mo_sender_117 : decode b_Mo_sender 117 = .ok (.iload 5, 2) := by decide +kernel
theorem d_Mo_sender_119 : decode b_Mo_sender 119 = .ok (.bipush 43, 2) := by decide +kernel
theorem d_Mo_sender_121 : decode b_Mo_sender 121 = .ok (.if_icmp .eq 5, 3) := by decide +kernel
theorem d_Mo_sender_124 : decode b_Mo_sender 124 = .ok (.iconst (-1), 1) := by decide +kernel
theorem d_Mo_sender_125 : decode b_Mo_sender 125 = .ok (.ireturn, 1) := by decide +kernel
theorem d_Mo_sender_126 : decode b_Mo_sender 126 = .ok (.iinc 4 1, 3) := by decide +kernel
theorem d_Mo_sender_129 : decode b_Mo_sender 129 = .ok (.goto (-64), 3) := by decide +kernel
theorem d_Mo_sender_132 : decode b_Mo_sender 132 = .ok (.aload_n 0, 1) := by decide +kernel
theorem d_Mo_sender_133 : decode b_Mo_sender 133 = .ok (.getfield 50, 3) := by decide +kernel
theorem d_Mo_sender_136 : decode b_Mo_sender 136 = .ok (.aload_n 0, 1) := by decide +kernel
theorem d_Mo_sender_137 : decode b_Mo_sender 137 = .ok (.getfield 23, 3) := by decide +kernel
theorem d_Mo_sender_140 : decode b_Mo_sender 140 = .ok (.iconst 0, 1) := by decide +kernel
theorem d_Mo_sender_141 : decode b_Mo_sender 141 = .ok (.iload_n 3, 1) := by decide +kernel
theorem d_Mo_sender_142 : decode b_Mo_sender 142 = .ok (.invokevirtual 82, 3) := by decide +kernel
theorem d_Mo_sender_145 : decode b_Mo_sender 145 = .ok (.aload_n 0, 1) := by decide +kernel
theorem d_Mo_sender_146 : decode b_Mo_sender 146 = .ok (.getfield 53, 3) := by decide +kernel
theorem d_Mo_sender_149 : decode b_Mo_sender 149 = .ok (.aload_n 0, 1) := by decide +kernel
theorem d_Mo_sender_150 : decode b_Mo_sender 150 = .ok (.getfield 23, 3) := by decide +kernel
theorem d_Mo_sender_153 : decode b_Mo_sender 153 = .ok (.iload_n 3, 1) := by decide +kernel
theorem d_Mo_sender_154 : decode b_Mo_sender 154 = .ok (.iconst 1, 1) := by decide +kernel
theorem d_Mo_sender_155 : decode b_Mo_sender 155 = .ok (.iadd, 1) := by decide +kernel
theorem d_Mo_sender_156 : decode b_Mo_sender 156 = .ok (.iload_n 2, 1) := by decide +kernel
theorem d_Mo_sender_157 : decode b_Mo_sender 157 = .ok (.invokevirtual 82, 3) := by decide +kernel
theorem d_Mo_sender_160 : decode b_Mo_sender 160 = .ok (.aload_n 0, 1) := by decide +kernel
theorem d_Mo_sender_161 : decode b_Mo_sender 161 = .ok (.iload_n 1, 1) := by decide +kernel
theorem d_Mo_sender_162 : decode b_Mo_sender 162 = .ok (.putfield 105, 3) := by decide +kernel
theorem d_Mo_sender_165 : decode b_Mo_sender 165 = .ok (.aload_n 0, 1) := by decide +kernel
theorem d_Mo_sender_166 : decode b_Mo_sender 166 = .ok (.iconst 1, 1) := by decide +kernel
theorem d_Mo_sender_167 : decode b_Mo_sender 167 = .ok (.putfield 108, 3) := by decide +kernel
theorem d_Mo_sender_170 : decode b_Mo_sender 170 = .ok (.iconst 0, 1) := by decide +kernel
theorem d_Mo_sender_171 : decode b_Mo_sender 171 = .ok (.ireturn, 1) := by decide +kernel
theorem d_Mo_slashOf_0 : decode b_Mo_slashOf 0 = .ok (.iload_n 1, 1) := by decide +kernel
theorem d_Mo_slashOf_1 : decode b_Mo_slashOf 1 = .ok (.istore_n 3, 1) := by decide +kernel
theorem d_Mo_slashOf_2 : decode b_Mo_slashOf 2 = .ok (.iload_n 3, 1) := by decide +kernel
theorem d_Mo_slashOf_3 : decode b_Mo_slashOf 3 = .ok (.iload_n 2, 1) := by decide +kernel
theorem d_Mo_slashOf_4 : decode b_Mo_slashOf 4 = .ok (.if_icmp .ge 17, 3) := by decide +kernel
theorem d_Mo_slashOf_7 : decode b_Mo_slashOf 7 = .ok (.aload_n 0, 1) := by decide +kernel
theorem d_Mo_slashOf_8 : decode b_Mo_slashOf 8 = .ok (.iload_n 3, 1) := by decide +kernel
theorem d_Mo_slashOf_9 : decode b_Mo_slashOf 9 = .ok (.baload, 1) := by decide +kernel
theorem d_Mo_slashOf_10 : decode b_Mo_slashOf 10 = .ok (.bipush 47, 2) := by decide +kernel
theorem d_Mo_slashOf_12 : decode b_Mo_slashOf 12 = .ok (.if_icmp .eq 9, 3) := by decide +kernel
theorem d_Mo_slashOf_15 : decode b_Mo_slashOf 15 = .ok (.iinc 3 1, 3) := by decide +kernel
theorem d_Mo_slashOf_18 : decode b_Mo_slashOf 18 = .ok (.goto (-16), 3) := by decide +kernel
theorem d_Mo_slashOf_21 : decode b_Mo_slashOf 21 = .ok (.iload_n 3, 1) := by decide +kernel
theorem d_Mo_slashOf_22 : decode b_Mo_slashOf 22 = .ok (.ireturn, 1) := by decide +kernel
theorem d_Mo_used_0 : decode b_Mo_used 0 = .ok (.aload_n 0, 1) := by decide +kernel
theorem d_Mo_used_1 : decode b_Mo_used 1 = .ok (.getfield 62, 3) := by decide +kernel
theorem d_Mo_used_4 : decode b_Mo_used 4 = .ok (.istore_n 1, 1) := by decide +kernel
theorem d_Mo_used_5 : decode b_Mo_used 5 = .ok (.aload_n 0, 1) := by decide +kernel
theorem d_Mo_used_6 : decode b_Mo_used 6 = .ok (.iconst 0, 1) := by decide +kernel
theorem d_Mo_used_7 : decode b_Mo_used 7 = .ok (.putfield 62, 3) := by decide +kernel
theorem d_Mo_used_10 : decode b_Mo_used 10 = .ok (.iload_n 1, 1) := by decide +kernel
theorem d_Mo_used_11 : decode b_Mo_used 11 = .ok (.ireturn, 1) := by decide +kernel
theorem d_Mo_wordEnd_0 : decode b_Mo_wordEnd 0 = .ok (.iload_n 1, 1) := by decide +kernel
theorem d_Mo_wordEnd_1 : decode b_Mo_wordEnd 1 = .ok (.istore_n 2, 1) := by decide +kernel
theorem d_Mo_wordEnd_2 : decode b_Mo_wordEnd 2 = .ok (.iload_n 2, 1) := by decide +kernel
theorem d_Mo_wordEnd_3 : decode b_Mo_wordEnd 3 = .ok (.aload_n 0, 1) := by decide +kernel
theorem d_Mo_wordEnd_4 : decode b_Mo_wordEnd 4 = .ok (.getfield 86, 3) := by decide +kernel
theorem d_Mo_wordEnd_7 : decode b_Mo_wordEnd 7 = .ok (.if_icmp .ge 20, 3) := by decide +kernel
theorem d_Mo_wordEnd_10 : decode b_Mo_wordEnd 10 = .ok (.aload_n 0, 1) := by decide +kernel
theorem d_Mo_wordEnd_11 : decode b_Mo_wordEnd 11 = .ok (.getfield 192, 3) := by decide +kernel
theorem d_Mo_wordEnd_14 : decode b_Mo_wordEnd 14 = .ok (.iload_n 2, 1) := by decide +kernel
theorem d_Mo_wordEnd_15 : decode b_Mo_wordEnd 15 = .ok (.baload, 1) := by decide +kernel
theorem d_Mo_wordEnd_16 : decode b_Mo_wordEnd 16 = .ok (.bipush 32, 2) := by decide +kernel
theorem d_Mo_wordEnd_18 : decode b_Mo_wordEnd 18 = .ok (.if_icmp .eq 9, 3) := by decide +kernel
theorem d_Mo_wordEnd_21 : decode b_Mo_wordEnd 21 = .ok (.iinc 2 1, 3) := by decide +kernel
theorem d_Mo_wordEnd_24 : decode b_Mo_wordEnd 24 = .ok (.goto (-22), 3) := by decide +kernel
theorem d_Mo_wordEnd_27 : decode b_Mo_wordEnd 27 = .ok (.iload_n 2, 1) := by decide +kernel
theorem d_Mo_wordEnd_28 : decode b_Mo_wordEnd 28 = .ok (.ireturn, 1) := by decide +kernel
