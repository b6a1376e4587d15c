theorem fws_Tx : ∀ w ∈ u_ws R_Tx F_Tx 2, w ∈ TB := by decide +kernel
theorem ft_Tx : FT cTx t_Tx := fun C T N h => by
  have h2 : some (R_Tx, F_Tx, 2) = some (C, T, N) := h
  cases h2
  exact ⟨by decide +kernel, by decide +kernel⟩
theorem fl_Tx_9 : FL "SendPolicyModel$Text" 9 cTx 0 := ⟨R_Tx, F_Tx, 2, rfl, fws_Tx, (Nat.le_of_ble_eq_true rfl), (tb_in 681 (by decide +kernel) rfl)⟩
theorem fl_Tx_15 : FL "SendPolicyModel$Text" 15 cTx 1 := ⟨R_Tx, F_Tx, 2, rfl, fws_Tx, (Nat.le_of_ble_eq_true rfl), (tb_in 683 (by decide +kernel) rfl)⟩
theorem fw_Tx_1 : FW cTx 1 := fun C T N h => by
  have h2 : some (R_Tx, F_Tx, 2) = some (C, T, N) := h
  cases h2
  rfl
theorem lm_Tx_19 : Cond.methodLink "SendPolicyModel$Text" 19 ⟨"java/lang/System", "arraycopy", "(Ljava/lang/Object;ILjava/lang/Object;II)V"⟩ ∈ TB := (tb_in 797 (by decide +kernel) rfl)
theorem lm_Tx_3 : Cond.methodLink "SendPolicyModel$Text" 3 ⟨"java/lang/Object", "<init>", "()V"⟩ ∈ TB := (tb_in 680 (by decide +kernel) rfl)
theorem ff_Tx_0 : FF "SendPolicyModel$Text" cTx 0 := fun C T N h => by
  have h2 : some (R_Tx, F_Tx, 2) = some (C, T, N) := h
  cases h2
  exact ⟨rfl, rfl⟩
set_option maxRecDepth 100000 in
theorem mw_Tx_is1 : MW y_Tx_is1 b_Tx_is1 5 (some .boolean) 3 := ⟨tb_in 832 rfl rfl, (tb_in 40 (by decide +kernel) rfl), ⟨by decide +kernel, by decide +kernel, by decide +kernel⟩, (Nat.le_of_ble_eq_true rfl)⟩
theorem cv_Tx_29 : CV "SendPolicyModel$Text" 29 y_Tx_is1 b_Tx_is1 5 (some .boolean) 3 cTx := ⟨mw_Tx_is1, (tb_in 829 (by decide +kernel) rfl), (tb_in 830 (by decide +kernel) rfl), (tb_in 831 (by decide +kernel) rfl), _, rfl, rfl⟩
theorem lc_Tx_33 : Cond.constantLong "SendPolicyModel$Text" 33 (Int64.ofInt 60) ∈ TB := tb_in 781 (by decide +kernel) rfl
set_option maxRecDepth 100000 in
theorem mw_Mo_in : MW y_Mo_in b_Mo_in 6 (some .boolean) 3 := ⟨tb_in 768 rfl rfl, (tb_in 39 (by decide +kernel) rfl), ⟨by decide +kernel, by decide +kernel, by decide +kernel⟩, (Nat.le_of_ble_eq_true rfl)⟩
theorem cn_Tx_35 : CN "SendPolicyModel$Text" 35 y_Mo_in "SendPolicyModel" b_Mo_in 6 (some .boolean) 3 := ⟨mw_Mo_in, (tb_in 767 (by decide +kernel) rfl), by decide⟩
set_option maxRecDepth 100000 in
theorem mw_Mo_isSmall : MW y_Mo_isSmall b_Mo_isSmall 1 (some .boolean) 1 := ⟨tb_in 785 rfl rfl, (tb_in 39 (by decide +kernel) rfl), ⟨by decide +kernel, by decide +kernel, by decide +kernel⟩, (Nat.le_of_ble_eq_true rfl)⟩
theorem cn_Tx_39 : CN "SendPolicyModel$Text" 39 y_Mo_isSmall "SendPolicyModel" b_Mo_isSmall 1 (some .boolean) 1 := ⟨mw_Mo_isSmall, (tb_in 784 (by decide +kernel) rfl), by decide⟩
set_option maxRecDepth 100000 in
theorem mw_Mo_isDigit : MW y_Mo_isDigit b_Mo_isDigit 1 (some .boolean) 1 := ⟨tb_in 788 rfl rfl, (tb_in 39 (by decide +kernel) rfl), ⟨by decide +kernel, by decide +kernel, by decide +kernel⟩, (Nat.le_of_ble_eq_true rfl)⟩
theorem cn_Tx_43 : CN "SendPolicyModel$Text" 43 y_Mo_isDigit "SendPolicyModel" b_Mo_isDigit 1 (some .boolean) 1 := ⟨mw_Mo_isDigit, (tb_in 787 (by decide +kernel) rfl), by decide⟩
set_option maxRecDepth 100000 in
theorem mw_Tx_add2 : MW y_Tx_add2 b_Tx_add2 4 none 3 := ⟨tb_in 796 rfl rfl, (tb_in 40 (by decide +kernel) rfl), ⟨by decide +kernel, by decide +kernel, by decide +kernel⟩, (Nat.le_of_ble_eq_true rfl)⟩
theorem cv_Tx_25 : CV "SendPolicyModel$Text" 25 y_Tx_add2 b_Tx_add2 4 none 3 cTx := ⟨mw_Tx_add2, (tb_in 793 (by decide +kernel) rfl), (tb_in 794 (by decide +kernel) rfl), (tb_in 795 (by decide +kernel) rfl), _, rfl, rfl⟩
/-! DECODE ROWS: printed by wip/gen/names.py -/
theorem d_Tx_add1_0 : decode b_Tx_add1 0 = .ok (.aload_n 0, 1) := by decide +kernel
theorem d_Tx_add1_1 : decode b_Tx_add1 1 = .ok (.getfield 9, 3) := by decide +kernel
theorem d_Tx_add1_4 : decode b_Tx_add1 4 = .ok (.aload_n 0, 1) := by decide +kernel
theorem d_Tx_add1_5 : decode b_Tx_add1 5 = .ok (.getfield 15, 3) := by decide +kernel
theorem d_Tx_add1_8 : decode b_Tx_add1 8 = .ok (.iload_n 1, 1) := by decide +kernel
theorem d_Tx_add1_9 : decode b_Tx_add1 9 = .ok (.i2b, 1) := by decide +kernel
theorem d_Tx_add1_10 : decode b_Tx_add1 10 = .ok (.bastore, 1) := by decide +kernel
theorem d_Tx_add1_11 : decode b_Tx_add1 11 = .ok (.aload_n 0, 1) := by decide +kernel
theorem d_Tx_add1_12 : decode b_Tx_add1 12 = .ok (.dup, 1) := by decide +kernel
theorem d_Tx_add1_13 : decode b_Tx_add1 13 = .ok (.getfield 15, 3) := by decide +kernel
theorem d_Tx_add1_16 : decode b_Tx_add1 16 = .ok (.iconst 1, 1) := by decide +kernel
theorem d_Tx_add1_17 : decode b_Tx_add1 17 = .ok (.iadd, 1) := by decide +kernel
theorem d_Tx_add1_18 : decode b_Tx_add1 18 = .ok (.putfield 15, 3) := by decide +kernel
theorem d_Tx_add1_21 : decode b_Tx_add1 21 = .ok (.return_, 1) := by decide +kernel
theorem d_Tx_add2_0 : decode b_Tx_add2 0 = .ok (.aload_n 1, 1) := by decide +kernel
theorem d_Tx_add2_1 : decode b_Tx_add2 1 = .ok (.iload_n 2, 1) := by decide +kernel
theorem d_Tx_add2_2 : decode b_Tx_add2 2 = .ok (.aload_n 0, 1) := by decide +kernel
theorem d_Tx_add2_3 : decode b_Tx_add2 3 = .ok (.getfield 9, 3) := by decide +kernel
theorem d_Tx_add2_6 : decode b_Tx_add2 6 = .ok (.aload_n 0, 1) := by decide +kernel
theorem d_Tx_add2_7 : decode b_Tx_add2 7 = .ok (.getfield 15, 3) := by decide +kernel
theorem d_Tx_add2_10 : decode b_Tx_add2 10 = .ok (.iload_n 3, 1) := by decide +kernel
theorem d_Tx_add2_11 : decode b_Tx_add2 11 = .ok (.iload_n 2, 1) := by decide +kernel
theorem d_Tx_add2_12 : decode b_Tx_add2 12 = .ok (.isub, 1) := by decide +kernel
theorem d_Tx_add2_13 : decode b_Tx_add2 13 = .ok (.invokestatic 19, 3) := by decide +kernel
theorem d_Tx_add2_16 : decode b_Tx_add2 16 = .ok (.aload_n 0, 1) := by decide +kernel
theorem d_Tx_add2_17 : decode b_Tx_add2 17 = .ok (.dup, 1) := by decide +kernel
theorem d_Tx_add2_18 : decode b_Tx_add2 18 = .ok (.getfield 15, 3) := by decide +kernel
theorem d_Tx_add2_21 : decode b_Tx_add2 21 = .ok (.iload_n 3, 1) := by decide +kernel
theorem d_Tx_add2_22 : decode b_Tx_add2 22 = .ok (.iload_n 2, 1) := by decide +kernel
theorem d_Tx_add2_23 : decode b_Tx_add2 23 = .ok (.isub, 1) := by decide +kernel
theorem d_Tx_add2_24 : decode b_Tx_add2 24 = .ok (.iadd, 1) := by decide +kernel
theorem d_Tx_add2_25 : decode b_Tx_add2 25 = .ok (.putfield 15, 3) := by decide +kernel
theorem d_Tx_add2_28 : decode b_Tx_add2 28 = .ok (.return_, 1) := by decide +kernel
theorem d_Tx_init_0 : decode b_Tx_init 0 = .ok (.aload_n 0, 1) := by decide +kernel
theorem d_Tx_init_1 : decode b_Tx_init 1 = .ok (.invokespecial 3, 3) := by decide +kernel
theorem d_Tx_init_4 : decode b_Tx_init 4 = .ok (.aload_n 0, 1) := by decide +kernel
theorem d_Tx_init_5 : decode b_Tx_init 5 = .ok (.iload_n 1, 1) := by decide +kernel
theorem d_Tx_init_6 : decode b_Tx_init 6 = .ok (.newarray .byte, 2) := by decide +kernel
theorem d_Tx_init_8 : decode b_Tx_init 8 = .ok (.putfield 9, 3) := by decide +kernel
theorem d_Tx_init_11 : decode b_Tx_init 11 = .ok (.return_, 1) := by decide +kernel
theorem d_Tx_is1_0 : decode b_Tx_is1 0 = .ok (.iload_n 3, 1) := by decide +kernel
theorem d_Tx_is1_1 : decode b_Tx_is1 1 = .ok (.iload_n 2, 1) := by decide +kernel
theorem d_Tx_is1_2 : decode b_Tx_is1 2 = .ok (.isub, 1) := by decide +kernel
theorem d_Tx_is1_3 : decode b_Tx_is1 3 = .ok (.aload_n 0, 1) := by decide +kernel
theorem d_Tx_is1_4 : decode b_Tx_is1 4 = .ok (.getfield 15, 3) := by decide +kernel
theorem d_Tx_is1_7 : decode b_Tx_is1 7 = .ok (.if_icmp .eq 5, 3) := by decide +kernel
theorem d_Tx_is1_10 : decode b_Tx_is1 10 = .ok (.iconst 0, 1) := by decide +kernel
theorem d_Tx_is1_11 : decode b_Tx_is1 11 = .ok (.ireturn, 1) := by decide +kernel
theorem d_Tx_is1_12 : decode b_Tx_is1 12 = .ok (.iconst 0, 1) := by decide +kernel
theorem d_Tx_is1_13 : decode b_Tx_is1 13 = .ok (.istore 4, 2) := by decide +kernel
theorem d_Tx_is1_15 : decode b_Tx_is1 15 = .ok (.iload 4, 2) := by decide +kernel
theorem d_Tx_is1_17 : decode b_Tx_is1 17 = .ok (.aload_n 0, 1) := by decide +kernel
theorem d_Tx_is1_18 : decode b_Tx_is1 18 = .ok (.getfield 15, 3) := by decide +kernel
theorem d_Tx_is1_21 : decode b_Tx_is1 21 = .ok (.if_icmp .ge 27, 3) := by decide +kernel
theorem d_Tx_is1_24 : decode b_Tx_is1 24 = .ok (.aload_n 0, 1) := by decide +kernel
theorem d_Tx_is1_25 : decode b_Tx_is1 25 = .ok (.getfield 9, 3) := by decide +kernel
theorem d_Tx_is1_28 : decode b_Tx_is1 28 = .ok (.iload 4, 2) := by decide +kernel
theorem d_Tx_is1_30 : decode b_Tx_is1 30 = .ok (.baload, 1) := by decide +kernel
theorem d_Tx_is1_31 : decode b_Tx_is1 31 = .ok (.aload_n 1, 1) := by decide +kernel
theorem d_Tx_is1_32 : decode b_Tx_is1 32 = .ok (.iload_n 2, 1) := by decide +kernel
theorem d_Tx_is1_33 : decode b_Tx_is1 33 = .ok (.iload 4, 2) := by decide +kernel
theorem d_Tx_is1_35 : decode b_Tx_is1 35 = .ok (.iadd, 1) := by decide +kernel
theorem d_Tx_is1_36 : decode b_Tx_is1 36 = .ok (.baload, 1) := by decide +kernel
theorem d_Tx_is1_37 : decode b_Tx_is1 37 = .ok (.if_icmp .eq 5, 3) := by decide +kernel
theorem d_Tx_is1_40 : decode b_Tx_is1 40 = .ok (.iconst 0, 1) := by decide +kernel
theorem d_Tx_is1_41 : decode b_Tx_is1 41 = .ok (.ireturn, 1) := by decide +kernel
theorem d_Tx_is1_42 : decode b_Tx_is1 42 = .ok (.iinc 4 1, 3) := by decide +kernel
theorem d_Tx_is1_45 : decode b_Tx_is1 45 = .ok (.goto (-30), 3) := by decide +kernel
theorem d_Tx_is1_48 : decode b_Tx_is1 48 = .ok (.iconst 1, 1) := by decide +kernel
theorem d_Tx_is1_49 : decode b_Tx_is1 49 = .ok (.ireturn, 1) := by decide +kernel
theorem d_Tx_is2_0 : decode b_Tx_is2 0 = .ok (.aload_n 0, 1) := by decide +kernel
theorem d_Tx_is2_1 : decode b_Tx_is2 1 = .ok (.aload_n 1, 1) := by decide +kernel
theorem d_Tx_is2_2 : decode b_Tx_is2 2 = .ok (.getfield 9, 3) := by decide +kernel
theorem d_Tx_is2_5 : decode b_Tx_is2 5 = .ok (.iconst 0, 1) := by decide +kernel
theorem d_Tx_is2_6 : decode b_Tx_is2 6 = .ok (.aload_n 1, 1) := by decide +kernel
theorem d_Tx_is2_7 : decode b_Tx_is2 7 = .ok (.getfield 15, 3) := by decide +kernel
theorem d_Tx_is2_10 : decode b_Tx_is2 10 = .ok (.invokevirtual 29, 3) := by decide +kernel
theorem d_Tx_is2_13 : decode b_Tx_is2 13 = .ok (.ireturn, 1) := by decide +kernel
theorem d_Tx_isName_0 : decode b_Tx_isName 0 = .ok (.iload_n 2, 1) := by decide +kernel
theorem d_Tx_isName_1 : decode b_Tx_isName 1 = .ok (.iload_n 1, 1) := by decide +kernel
theorem d_Tx_isName_2 : decode b_Tx_isName 2 = .ok (.isub, 1) := by decide +kernel
theorem d_Tx_isName_3 : decode b_Tx_isName 3 = .ok (.i2l, 1) := by decide +kernel
theorem d_Tx_isName_4 : decode b_Tx_isName 4 = .ok (.lconst 1, 1) := by decide +kernel
theorem d_Tx_isName_5 : decode b_Tx_isName 5 = .ok (.ldc2_w 33, 3) := by decide +kernel
theorem d_Tx_isName_8 : decode b_Tx_isName 8 = .ok (.invokestatic 35, 3) := by decide +kernel
theorem d_Tx_isName_11 : decode b_Tx_isName 11 = .ok (.ifCond .ne 5, 3) := by decide +kernel
theorem d_Tx_isName_14 : decode b_Tx_isName 14 = .ok (.iconst 0, 1) := by decide +kernel
theorem d_Tx_isName_15 : decode b_Tx_isName 15 = .ok (.ireturn, 1) := by decide +kernel
theorem d_Tx_isName_16 : decode b_Tx_isName 16 = .ok (.iconst 0, 1) := by decide +kernel
theorem d_Tx_isName_17 : decode b_Tx_isName 17 = .ok (.istore_n 3, 1) := by decide +kernel
theorem d_Tx_isName_18 : decode b_Tx_isName 18 = .ok (.iload_n 1, 1) := by decide +kernel
theorem d_Tx_isName_19 : decode b_Tx_isName 19 = .ok (.istore 4, 2) := by decide +kernel
theorem d_Tx_isName_21 : decode b_Tx_isName 21 = .ok (.iload 4, 2) := by decide +kernel
theorem d_Tx_isName_23 : decode b_Tx_isName 23 = .ok (.iload_n 2, 1) := by decide +kernel
theorem d_Tx_isName_24 : decode b_Tx_isName 24 = .ok (.if_icmp .ge 74, 3) := by decide +kernel
theorem d_Tx_isName_27 : decode b_Tx_isName 27 = .ok (.aload_n 0, 1) := by decide +kernel
theorem d_Tx_isName_28 : decode b_Tx_isName 28 = .ok (.iload 4, 2) := by decide +kernel
theorem d_Tx_isName_30 : decode b_Tx_isName 30 = .ok (.baload, 1) := by decide +kernel
theorem d_Tx_isName_31 : decode b_Tx_isName 31 = .ok (.istore 5, 2) := by decide +kernel
theorem d_Tx_isName_33 : decode b_Tx_isName 33 = .ok (.iload 5, 2) := by decide +kernel
theorem d_Tx_isName_35 : decode b_Tx_isName 35 = .ok (.bipush 46, 2) := by decide +kernel
theorem d_Tx_isName_37 : decode b_Tx_isName 37 = .ok (.if_icmp .ne 14, 3) := by decide +kernel
theorem d_Tx_isName_40 : decode b_Tx_isName 40 = .ok (.iload_n 3, 1) := by decide +kernel
theorem d_Tx_isName_41 : decode b_Tx_isName 41 = .ok (.ifCond .ne 5, 3) := by decide +kernel
theorem d_Tx_isName_44 : decode b_Tx_isName 44 = .ok (.iconst 0, 1) := by decide +kernel
theorem d_Tx_isName_45 : decode b_Tx_isName 45 = .ok (.ireturn, 1) := by decide +kernel
theorem d_Tx_isName_46 : decode b_Tx_isName 46 = .ok (.iconst 0, 1) := by decide +kernel
theorem d_Tx_isName_47 : decode b_Tx_isName 47 = .ok (.istore_n 3, 1) := by decide +kernel
theorem d_Tx_isName_48 : decode b_Tx_isName 48 = .ok (.goto 44, 3) := by decide +kernel
theorem d_Tx_isName_51 : decode b_Tx_isName 51 = .ok (.iload 5, 2) := by decide +kernel
theorem d_Tx_isName_53 : decode b_Tx_isName 53 = .ok (.invokestatic 39, 3) := by decide +kernel
theorem d_Tx_isName_56 : decode b_Tx_isName 56 = .ok (.ifCond .ne 25, 3) := by decide +kernel
theorem d_Tx_isName_59 : decode b_Tx_isName 59 = .ok (.iload 5, 2) := by decide +kernel
theorem d_Tx_isName_61 : decode b_Tx_isName 61 = .ok (.invokestatic 43, 3) := by decide +kernel
theorem d_Tx_isName_64 : decode b_Tx_isName 64 = .ok (.ifCond .ne 17, 3) := by decide +kernel
theorem d_Tx_isName_67 : decode b_Tx_isName 67 = .ok (.iload 5, 2) := by decide +kernel
theorem d_Tx_isName_69 : decode b_Tx_isName 69 = .ok (.bipush 45, 2) := by decide +kernel
theorem d_Tx_isName_71 : decode b_Tx_isName 71 = .ok (.if_icmp .eq 10, 3) := by decide +kernel
theorem d_Tx_isName_74 : decode b_Tx_isName 74 = .ok (.iload 5, 2) := by decide +kernel
theorem d_Tx_isName_76 : decode b_Tx_isName 76 = .ok (.bipush 95, 2) := by decide +kernel
theorem d_Tx_isName_78 : decode b_Tx_isName 78 = .ok (.if_icmp .ne 9, 3) := by decide +kernel
theorem d_Tx_isName_81 : decode b_Tx_isName 81 = .ok (.iload_n 3, 1) := by decide +kernel
theorem d_Tx_isName_82 : decode b_Tx_isName 82 = .ok (.bipush 20, 2) := by decide +kernel
theorem d_Tx_isName_84 : decode b_Tx_isName 84 = .ok (.if_icmp .ne 5, 3) := by decide +kernel
theorem d_Tx_isName_87 : decode b_Tx_isName 87 = .ok (.iconst 0, 1) := by decide +kernel
theorem d_Tx_isName_88 : decode b_Tx_isName 88 = .ok (.ireturn, 1) := by decide +kernel
theorem d_Tx_isName_89 : decode b_Tx_isName 89 = .ok (.iinc 3 1, 3) := by decide +kernel
theorem d_Tx_isName_92 : decode b_Tx_isName 92 = .ok (.iinc 4 1, 3) := by decide +kernel
theorem d_Tx_isName_95 : decode b_Tx_isName 95 = .ok (.goto (-74), 3) := by decide +kernel
theorem d_Tx_isName_98 : decode b_Tx_isName 98 = .ok (.iload_n 3, 1) := by decide +kernel
theorem d_Tx_isName_99 : decode b_Tx_isName 99 = .ok (.ifCond .le 7, 3) := by decide +kernel
theorem d_Tx_isName_102 : decode b_Tx_isName 102 = .ok (.iconst 1, 1) := by decide +kernel
theorem d_Tx_isName_103 : decode b_Tx_isName 103 = .ok (.goto 4, 3) := by decide +kernel
theorem d_Tx_isName_106 : decode b_Tx_isName 106 = .ok (.iconst 0, 1) := by decide +kernel
theorem d_Tx_isName_107 : decode b_Tx_isName 107 = .ok (.ireturn, 1) := by decide +kernel
theorem d_Tx_set_0 : decode b_Tx_set 0 = .ok (.aload_n 0, 1) := by decide +kernel
theorem d_Tx_set_1 : decode b_Tx_set 1 = .ok (.iconst 0, 1) := by decide +kernel
theorem d_Tx_set_2 : decode b_Tx_set 2 = .ok (.putfield 15, 3) := by decide +kernel
theorem d_Tx_set_5 : decode b_Tx_set 5 = .ok (.aload_n 0, 1) := by decide +kernel
theorem d_Tx_set_6 : decode b_Tx_set 6 = .ok (.aload_n 1, 1) := by decide +kernel
theorem d_Tx_set_7 : decode b_Tx_set 7 = .ok (.iload_n 2, 1) := by decide +kernel
theorem d_Tx_set_8 : decode b_Tx_set 8 = .ok (.iload_n 3, 1) := by decide +kernel
theorem d_Tx_set_9 : decode b_Tx_set 9 = .ok (.invokevirtual 25, 3) := by decide +kernel
theorem d_Tx_set_12 : decode b_Tx_set 12 = .ok (.return_, 1) := by decide +kernel
theorem d_Mo_in_0 : decode b_Mo_in 0 = .ok (.lload_n 0, 1) := by decide +kernel
theorem d_Mo_in_1 : decode b_Mo_in 1 = .ok (.lload_n 2, 1) := by decide +kernel
theorem d_Mo_in_2 : decode b_Mo_in 2 = .ok (.lcmp, 1) := by decide +kernel
theorem d_Mo_in_3 : decode b_Mo_in 3 = .ok (.ifCond .lt 14, 3) := by decide +kernel
theorem d_Mo_in_6 : decode b_Mo_in 6 = .ok (.lload_n 0, 1) := by decide +kernel
theorem d_Mo_in_7 : decode b_Mo_in 7 = .ok (.lload 4, 2) := by decide +kernel
theorem d_Mo_in_9 : decode b_Mo_in 9 = .ok (.lcmp, 1) := by decide +kernel
theorem d_Mo_in_10 : decode b_Mo_in 10 = .ok (.ifCond .gt 7, 3) := by decide +kernel
theorem d_Mo_in_13 : decode b_Mo_in 13 = .ok (.iconst 1, 1) := by decide +kernel
theorem d_Mo_in_14 : decode b_Mo_in 14 = .ok (.goto 4, 3) := by decide +kernel
theorem d_Mo_in_17 : decode b_Mo_in 17 = .ok (.iconst 0, 1) := by decide +kernel
theorem d_Mo_in_18 : decode b_Mo_in 18 = .ok (.ireturn, 1) := by decide +kernel
theorem d_Mo_isSmall_0 : decode b_Mo_isSmall 0 = .ok (.iload_n 0, 1) := by decide +kernel
theorem d_Mo_isSmall_1 : decode b_Mo_isSmall 1 = .ok (.bipush 97, 2) := by decide +kernel
theorem d_Mo_isSmall_3 : decode b_Mo_isSmall 3 = .ok (.if_icmp .lt 13, 3) := by decide +kernel
theorem d_Mo_isSmall_6 : decode b_Mo_isSmall 6 = .ok (.iload_n 0, 1) := by decide +kernel
theorem d_Mo_isSmall_7 : decode b_Mo_isSmall 7 = .ok (.bipush 122, 2) := by decide +kernel
theorem d_Mo_isSmall_9 : decode b_Mo_isSmall 9 = .ok (.if_icmp .gt 7, 3) := by decide +kernel
theorem d_Mo_isSmall_12 : decode b_Mo_isSmall 12 = .ok (.iconst 1, 1) := by decide +kernel
theorem d_Mo_isSmall_13 : decode b_Mo_isSmall 13 = .ok (.goto 4, 3) := by decide +kernel
theorem d_Mo_isSmall_16 : decode b_Mo_isSmall 16 = .ok (.iconst 0, 1) := by decide +kernel
theorem d_Mo_isSmall_17 : decode b_Mo_isSmall 17 = .ok (.ireturn, 1) := by decide +kernel
theorem d_Mo_isDigit_0 : decode b_Mo_isDigit 0 = .ok (.iload_n 0, 1) := by decide +kernel
theorem d_Mo_isDigit_1 : decode b_Mo_isDigit 1 = .ok (.bipush 48, 2) := by decide +kernel
theorem d_Mo_isDigit_3 : decode b_Mo_isDigit 3 = .ok (.if_icmp .lt 13, 3) := by decide +kernel
theorem d_Mo_isDigit_6 : decode b_Mo_isDigit 6 = .ok (.iload_n 0, 1) := by decide +kernel
theorem d_Mo_isDigit_7 : decode b_Mo_isDigit 7 = .ok (.bipush 57, 2) := by decide +kernel
theorem d_Mo_isDigit_9 : decode b_Mo_isDigit 9 = .ok (.if_icmp .gt 7, 3) := by decide +kernel
theorem d_Mo_isDigit_12 : decode b_Mo_isDigit 12 = .ok (.iconst 1, 1) := by decide +kernel
theorem d_Mo_isDigit_13 : decode b_Mo_isDigit 13 = .ok (.goto 4, 3) := by decide +kernel
theorem d_Mo_isDigit_16 : decode b_Mo_isDigit 16 = .ok (.iconst 0, 1) := by decide +kernel
theorem d_Mo_isDigit_17 : decode b_Mo_isDigit 17 = .ok (.ireturn, 1) := by decide +kernel
