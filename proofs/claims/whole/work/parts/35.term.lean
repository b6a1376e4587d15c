theorem fws_Te : ∀ w ∈ u_ws R_Te F_Te 6, w ∈ TB := by decide +kernel
theorem ft_Te : FT cTe t_Te := fun C T N h => by
  have h2 : some (R_Te, F_Te, 6) = some (C, T, N) := h
  cases h2
  exact ⟨by decide +kernel, by decide +kernel⟩
theorem fl_Te_15 : FL "SendPolicy$Term" 15 cTe 2 := ⟨R_Te, F_Te, 6, rfl, fws_Te, (Nat.le_of_ble_eq_true rfl), (tb_in 153 (by decide +kernel) rfl)⟩
theorem fl_Te_21 : FL "SendPolicy$Term" 21 cTe 4 := ⟨R_Te, F_Te, 6, rfl, fws_Te, (Nat.le_of_ble_eq_true rfl), (tb_in 155 (by decide +kernel) rfl)⟩
theorem lm_Te_3 : Cond.methodLink "SendPolicy$Term" 3 ⟨"java/lang/Object", "<init>", "()V"⟩ ∈ TB := (tb_in 150 (by decide +kernel) rfl)
theorem fl_Te_9 : FL "SendPolicy$Term" 9 cTe 0 := ⟨R_Te, F_Te, 6, rfl, fws_Te, (Nat.le_of_ble_eq_true rfl), (tb_in 151 (by decide +kernel) rfl)⟩
theorem fl_Te_18 : FL "SendPolicy$Term" 18 cTe 3 := ⟨R_Te, F_Te, 6, rfl, fws_Te, (Nat.le_of_ble_eq_true rfl), (tb_in 154 (by decide +kernel) rfl)⟩
theorem cv_Te_36 : CV "SendPolicy$Term" 36 y_By_size b_By_size 1 (some .int) 0 cBy := ⟨mw_By_size, (tb_in 482 (by decide +kernel) rfl), (tb_in 233 (by decide +kernel) rfl), (tb_in 234 (by decide +kernel) rfl), _, rfl, rfl⟩
theorem cv_Te_40 : CV "SendPolicy$Term" 40 y_By_find b_By_find 5 (some .int) 3 cBy := ⟨mw_By_find, (tb_in 483 (by decide +kernel) rfl), (tb_in 280 (by decide +kernel) rfl), (tb_in 281 (by decide +kernel) rfl), _, rfl, rfl⟩
theorem cv_Te_30 : CV "SendPolicy$Term" 30 y_By_at b_By_at 2 (some .int) 1 cBy := ⟨mw_By_at, (tb_in 477 (by decide +kernel) rfl), (tb_in 284 (by decide +kernel) rfl), (tb_in 285 (by decide +kernel) rfl), _, rfl, rfl⟩
theorem fl_Te_27 : FL "SendPolicy$Term" 27 cTe 1 := ⟨R_Te, F_Te, 6, rfl, fws_Te, (Nat.le_of_ble_eq_true rfl), (tb_in 152 (by decide +kernel) rfl)⟩
theorem fw_Te_1 : FW cTe 1 := fun C T N h => by
  have h2 : some (R_Te, F_Te, 6) = some (C, T, N) := h
  cases h2
  rfl
theorem fw_Te_2 : FW cTe 2 := fun C T N h => by
  have h2 : some (R_Te, F_Te, 6) = some (C, T, N) := h
  cases h2
  rfl
theorem fw_Te_4 : FW cTe 4 := fun C T N h => by
  have h2 : some (R_Te, F_Te, 6) = some (C, T, N) := h
  cases h2
  rfl
theorem fl_Te_24 : FL "SendPolicy$Term" 24 cTe 5 := ⟨R_Te, F_Te, 6, rfl, fws_Te, (Nat.le_of_ble_eq_true rfl), (tb_in 156 (by decide +kernel) rfl)⟩
theorem fw_Te_5 : FW cTe 5 := fun C T N h => by
  have h2 : some (R_Te, F_Te, 6) = some (C, T, N) := h
  cases h2
  rfl
set_option maxRecDepth 100000 in
theorem mw_Te_readAll : MW y_Te_readAll b_Te_readAll 4 (some .boolean) 3 := ⟨tb_in 487 rfl rfl, (tb_in 38 (by decide +kernel) rfl), ⟨by decide +kernel, by decide +kernel, by decide +kernel⟩, (Nat.le_of_ble_eq_true rfl)⟩
theorem cv_Te_44 : CV "SendPolicy$Term" 44 y_Te_readAll b_Te_readAll 4 (some .boolean) 3 cTe := ⟨mw_Te_readAll, (tb_in 484 (by decide +kernel) rfl), (tb_in 486 (by decide +kernel) rfl), (tb_in 1 (by decide +kernel) rfl), _, rfl, rfl⟩
theorem cv_Te_50 : CV "SendPolicy$Term" 50 y_By_has b_By_has 5 (some .boolean) 3 cBy := ⟨mw_By_has, (tb_in 489 (by decide +kernel) rfl), (tb_in 411 (by decide +kernel) rfl), (tb_in 412 (by decide +kernel) rfl), _, rfl, rfl⟩
set_option maxRecDepth 100000 in
theorem mw_Te_readTarget : MW y_Te_readTarget b_Te_readTarget 5 (some .boolean) 4 := ⟨tb_in 494 rfl rfl, (tb_in 38 (by decide +kernel) rfl), ⟨by decide +kernel, by decide +kernel, by decide +kernel⟩, (Nat.le_of_ble_eq_true rfl)⟩
theorem cv_Te_54 : CV "SendPolicy$Term" 54 y_Te_readTarget b_Te_readTarget 5 (some .boolean) 4 cTe := ⟨mw_Te_readTarget, (tb_in 491 (by decide +kernel) rfl), (tb_in 493 (by decide +kernel) rfl), (tb_in 2 (by decide +kernel) rfl), _, rfl, rfl⟩
set_option maxRecDepth 100000 in
theorem mw_Te_readHost : MW y_Te_readHost b_Te_readHost 6 (some .boolean) 4 := ⟨tb_in 512 rfl rfl, (tb_in 38 (by decide +kernel) rfl), ⟨by decide +kernel, by decide +kernel, by decide +kernel⟩, (Nat.le_of_ble_eq_true rfl)⟩
theorem cv_Te_60 : CV "SendPolicy$Term" 60 y_Te_readHost b_Te_readHost 6 (some .boolean) 4 cTe := ⟨mw_Te_readHost, (tb_in 509 (by decide +kernel) rfl), (tb_in 511 (by decide +kernel) rfl), (tb_in 3 (by decide +kernel) rfl), _, rfl, rfl⟩
set_option maxRecDepth 100000 in
theorem mw_Te_readNetwork : MW y_Te_readNetwork b_Te_readNetwork 5 (some .boolean) 3 := ⟨tb_in 523 rfl rfl, (tb_in 38 (by decide +kernel) rfl), ⟨by decide +kernel, by decide +kernel, by decide +kernel⟩, (Nat.le_of_ble_eq_true rfl)⟩
theorem cv_Te_67 : CV "SendPolicy$Term" 67 y_Te_readNetwork b_Te_readNetwork 5 (some .boolean) 3 cTe := ⟨mw_Te_readNetwork, (tb_in 520 (by decide +kernel) rfl), (tb_in 522 (by decide +kernel) rfl), (tb_in 5 (by decide +kernel) rfl), _, rfl, rfl⟩
set_option maxRecDepth 100000 in
theorem mw_Te_readOther : MW y_Te_readOther b_Te_readOther 5 (some .boolean) 3 := ⟨tb_in 533 rfl rfl, (tb_in 38 (by decide +kernel) rfl), ⟨by decide +kernel, by decide +kernel, by decide +kernel⟩, (Nat.le_of_ble_eq_true rfl)⟩
theorem cv_Te_74 : CV "SendPolicy$Term" 74 y_Te_readOther b_Te_readOther 5 (some .boolean) 3 cTe := ⟨mw_Te_readOther, (tb_in 530 (by decide +kernel) rfl), (tb_in 532 (by decide +kernel) rfl), (tb_in 7 (by decide +kernel) rfl), _, rfl, rfl⟩
theorem fw_Te_0 : FW cTe 0 := fun C T N h => by
  have h2 : some (R_Te, F_Te, 6) = some (C, T, N) := h
  cases h2
  rfl
theorem cs_Te_95 : CS "SendPolicy$Term" 95 y_Si_isDigit b_Si_isDigit 1 (some .boolean) 1 := ⟨mw_Si_isDigit, (tb_in 517 (by decide +kernel) rfl), (tb_in 301 (by decide +kernel) rfl)⟩
theorem fw_Te_3 : FW cTe 3 := fun C T N h => by
  have h2 : some (R_Te, F_Te, 6) = some (C, T, N) := h
  cases h2
  rfl
set_option maxRecDepth 100000 in
theorem mw_Ma_isTarget : MW y_Ma_isTarget b_Ma_isTarget 6 (some .boolean) 3 := ⟨tb_in 497 rfl rfl, (tb_in 35 (by decide +kernel) rfl), ⟨by decide +kernel, by decide +kernel, by decide +kernel⟩, (Nat.le_of_ble_eq_true rfl)⟩
theorem cs_Te_84 : CS "SendPolicy$Term" 84 y_Ma_isTarget b_Ma_isTarget 6 (some .boolean) 3 := ⟨mw_Ma_isTarget, (tb_in 495 (by decide +kernel) rfl), (tb_in 496 (by decide +kernel) rfl)⟩
set_option maxRecDepth 100000 in
theorem mw_Te_readBits : MW y_Te_readBits b_Te_readBits 5 (some .boolean) 3 := ⟨tb_in 516 rfl rfl, (tb_in 38 (by decide +kernel) rfl), ⟨by decide +kernel, by decide +kernel, by decide +kernel⟩, (Nat.le_of_ble_eq_true rfl)⟩
theorem cv_Te_89 : CV "SendPolicy$Term" 89 y_Te_readBits b_Te_readBits 5 (some .boolean) 3 cTe := ⟨mw_Te_readBits, (tb_in 513 (by decide +kernel) rfl), (tb_in 515 (by decide +kernel) rfl), (tb_in 4 (by decide +kernel) rfl), _, rfl, rfl⟩
set_option maxRecDepth 100000 in
theorem mw_Te_readFour : MW y_Te_readFour b_Te_readFour 9 (some .boolean) 3 := ⟨tb_in 527 rfl rfl, (tb_in 38 (by decide +kernel) rfl), ⟨by decide +kernel, by decide +kernel, by decide +kernel⟩, (Nat.le_of_ble_eq_true rfl)⟩
theorem cv_Te_92 : CV "SendPolicy$Term" 92 y_Te_readFour b_Te_readFour 9 (some .boolean) 3 cTe := ⟨mw_Te_readFour, (tb_in 524 (by decide +kernel) rfl), (tb_in 526 (by decide +kernel) rfl), (tb_in 6 (by decide +kernel) rfl), _, rfl, rfl⟩
set_option maxRecDepth 100000 in
theorem mw_Si_isWord : MW y_Si_isWord b_Si_isWord 4 (some .boolean) 3 := ⟨tb_in 536 rfl rfl, (tb_in 43 (by decide +kernel) rfl), ⟨by decide +kernel, by decide +kernel, by decide +kernel⟩, (Nat.le_of_ble_eq_true rfl)⟩
theorem cs_Te_79 : CS "SendPolicy$Term" 79 y_Si_isWord b_Si_isWord 4 (some .boolean) 3 := ⟨mw_Si_isWord, (tb_in 534 (by decide +kernel) rfl), (tb_in 535 (by decide +kernel) rfl)⟩
/-! DECODE ROWS: printed by wip/gen/names.py -/
theorem d_Te_bits_0 : decode b_Te_bits 0 = .ok (.aload_n 0, 1) := by decide +kernel
theorem d_Te_bits_1 : decode b_Te_bits 1 = .ok (.getfield 15, 3) := by decide +kernel
theorem d_Te_bits_4 : decode b_Te_bits 4 = .ok (.ireturn, 1) := by decide +kernel
theorem d_Te_from_0 : decode b_Te_from 0 = .ok (.aload_n 0, 1) := by decide +kernel
theorem d_Te_from_1 : decode b_Te_from 1 = .ok (.getfield 21, 3) := by decide +kernel
theorem d_Te_from_4 : decode b_Te_from 4 = .ok (.ireturn, 1) := by decide +kernel
theorem d_Te_init_0 : decode b_Te_init 0 = .ok (.aload_n 0, 1) := by decide +kernel
theorem d_Te_init_1 : decode b_Te_init 1 = .ok (.invokespecial 3, 3) := by decide +kernel
theorem d_Te_init_4 : decode b_Te_init 4 = .ok (.return_, 1) := by decide +kernel
theorem d_Te_kind_0 : decode b_Te_kind 0 = .ok (.aload_n 0, 1) := by decide +kernel
theorem d_Te_kind_1 : decode b_Te_kind 1 = .ok (.getfield 9, 3) := by decide +kernel
theorem d_Te_kind_4 : decode b_Te_kind 4 = .ok (.ireturn, 1) := by decide +kernel
theorem d_Te_network_0 : decode b_Te_network 0 = .ok (.aload_n 0, 1) := by decide +kernel
theorem d_Te_network_1 : decode b_Te_network 1 = .ok (.getfield 18, 3) := by decide +kernel
theorem d_Te_network_4 : decode b_Te_network 4 = .ok (.ireturn, 1) := by decide +kernel
theorem d_Te_read_0 : decode b_Te_read 0 = .ok (.aload_n 1, 1) := by decide +kernel
theorem d_Te_read_1 : decode b_Te_read 1 = .ok (.bipush 32, 2) := by decide +kernel
theorem d_Te_read_3 : decode b_Te_read 3 = .ok (.iload_n 2, 1) := by decide +kernel
theorem d_Te_read_4 : decode b_Te_read 4 = .ok (.aload_n 1, 1) := by decide +kernel
theorem d_Te_read_5 : decode b_Te_read 5 = .ok (.invokevirtual 36, 3) := by decide +kernel
theorem d_Te_read_8 : decode b_Te_read 8 = .ok (.invokevirtual 40, 3) := by decide +kernel
theorem d_Te_read_11 : decode b_Te_read 11 = .ok (.istore_n 3, 1) := by decide +kernel
theorem d_Te_read_12 : decode b_Te_read 12 = .ok (.aload_n 1, 1) := by decide +kernel
theorem d_Te_read_13 : decode b_Te_read 13 = .ok (.iload_n 2, 1) := by decide +kernel
theorem d_Te_read_14 : decode b_Te_read 14 = .ok (.invokevirtual 30, 3) := by decide +kernel
theorem d_Te_read_17 : decode b_Te_read 17 = .ok (.istore 4, 2) := by decide +kernel
theorem d_Te_read_19 : decode b_Te_read 19 = .ok (.iload 4, 2) := by decide +kernel
theorem d_Te_read_21 : decode b_Te_read 21 = .ok (.bipush 43, 2) := by decide +kernel
theorem d_Te_read_23 : decode b_Te_read 23 = .ok (.if_icmp .eq 24, 3) := by decide +kernel
theorem d_Te_read_26 : decode b_Te_read 26 = .ok (.iload 4, 2) := by decide +kernel
theorem d_Te_read_28 : decode b_Te_read 28 = .ok (.bipush 63, 2) := by decide +kernel
theorem d_Te_read_30 : decode b_Te_read 30 = .ok (.if_icmp .eq 17, 3) := by decide +kernel
theorem d_Te_read_33 : decode b_Te_read 33 = .ok (.iload 4, 2) := by decide +kernel
theorem d_Te_read_35 : decode b_Te_read 35 = .ok (.bipush 126, 2) := by decide +kernel
theorem d_Te_read_37 : decode b_Te_read 37 = .ok (.if_icmp .eq 10, 3) := by decide +kernel
theorem d_Te_read_40 : decode b_Te_read 40 = .ok (.iload 4, 2) := by decide +kernel
theorem d_Te_read_42 : decode b_Te_read 42 = .ok (.bipush 45, 2) := by decide +kernel
theorem d_Te_read_44 : decode b_Te_read 44 = .ok (.if_icmp .ne 7, 3) := by decide +kernel
theorem d_Te_read_47 : decode b_Te_read 47 = .ok (.iconst 1, 1) := by decide +kernel
theorem d_Te_read_48 : decode b_Te_read 48 = .ok (.goto 4, 3) := by decide +kernel
theorem d_Te_read_51 : decode b_Te_read 51 = .ok (.iconst 0, 1) := by decide +kernel
theorem d_Te_read_52 : decode b_Te_read 52 = .ok (.istore 5, 2) := by decide +kernel
theorem d_Te_read_54 : decode b_Te_read 54 = .ok (.iload 5, 2) := by decide +kernel
theorem d_Te_read_56 : decode b_Te_read 56 = .ok (.ifCond .eq 9, 3) := by decide +kernel
theorem d_Te_read_59 : decode b_Te_read 59 = .ok (.iload_n 2, 1) := by decide +kernel
theorem d_Te_read_60 : decode b_Te_read 60 = .ok (.iconst 1, 1) := by decide +kernel
theorem d_Te_read_61 : decode b_Te_read 61 = .ok (.iadd, 1) := by decide +kernel
theorem d_Te_read_62 : decode b_Te_read 62 = .ok (.goto 4, 3) := by decide +kernel
theorem d_Te_read_65 : decode b_Te_read 65 = .ok (.iload_n 2, 1) := by decide +kernel
theorem d_Te_read_66 : decode b_Te_read 66 = .ok (.istore 6, 2) := by decide +kernel
theorem d_Te_read_68 : decode b_Te_read 68 = .ok (.aload_n 0, 1) := by decide +kernel
theorem d_Te_read_69 : decode b_Te_read 69 = .ok (.iload 5, 2) := by decide +kernel
theorem d_Te_read_71 : decode b_Te_read 71 = .ok (.ifCond .eq 8, 3) := by decide +kernel
theorem d_Te_read_74 : decode b_Te_read 74 = .ok (.iload 4, 2) := by decide +kernel
theorem d_Te_read_76 : decode b_Te_read 76 = .ok (.goto 5, 3) := by decide +kernel
theorem d_Te_read_79 : decode b_Te_read 79 = .ok (.bipush 43, 2) := by decide +kernel
theorem d_Te_read_81 : decode b_Te_read 81 = .ok (.putfield 27, 3) := by decide +kernel
theorem d_Te_read_84 : decode b_Te_read 84 = .ok (.aload_n 0, 1) := by decide +kernel
theorem d_Te_read_85 : decode b_Te_read 85 = .ok (.bipush 32, 2) := by decide +kernel
theorem d_Te_read_87 : decode b_Te_read 87 = .ok (.putfield 15, 3) := by decide +kernel
theorem d_Te_read_90 : decode b_Te_read 90 = .ok (.aload_n 0, 1) := by decide +kernel
theorem d_Te_read_91 : decode b_Te_read 91 = .ok (.iload_n 3, 1) := by decide +kernel
theorem d_Te_read_92 : decode b_Te_read 92 = .ok (.putfield 21, 3) := by decide +kernel
theorem d_Te_read_95 : decode b_Te_read 95 = .ok (.aload_n 0, 1) := by decide +kernel
theorem d_Te_read_96 : decode b_Te_read 96 = .ok (.iload_n 3, 1) := by decide +kernel
theorem d_Te_read_97 : decode b_Te_read 97 = .ok (.putfield 24, 3) := by decide +kernel
theorem d_Te_read_100 : decode b_Te_read 100 = .ok (.aload_n 0, 1) := by decide +kernel
theorem d_Te_read_101 : decode b_Te_read 101 = .ok (.aload_n 1, 1) := by decide +kernel
theorem d_Te_read_102 : decode b_Te_read 102 = .ok (.iload 6, 2) := by decide +kernel
theorem d_Te_read_104 : decode b_Te_read 104 = .ok (.iload_n 3, 1) := by decide +kernel
theorem d_Te_read_105 : decode b_Te_read 105 = .ok (.invokevirtual 44, 3) := by decide +kernel
theorem d_Te_read_108 : decode b_Te_read 108 = .ok (.ifCond .ne 183, 3) := by decide +kernel
theorem d_Te_read_111 : decode b_Te_read 111 = .ok (.aload_n 1, 1) := by decide +kernel
theorem d_Te_read_112 : decode b_Te_read 112 = .ok (.ldc 48, 2) := by decide +kernel
theorem d_Te_read_114 : decode b_Te_read 114 = .ok (.iload 6, 2) := by decide +kernel
theorem d_Te_read_116 : decode b_Te_read 116 = .ok (.iload_n 3, 1) := by decide +kernel
theorem d_Te_read_117 : decode b_Te_read 117 = .ok (.invokevirtual 50, 3) := by decide +kernel
theorem d_Te_read_120 : decode b_Te_read 120 = .ok (.ifCond .eq 18, 3) := by decide +kernel
theorem d_Te_read_123 : decode b_Te_read 123 = .ok (.aload_n 0, 1) := by decide +kernel
theorem d_Te_read_124 : decode b_Te_read 124 = .ok (.iconst 1, 1) := by decide +kernel
theorem d_Te_read_125 : decode b_Te_read 125 = .ok (.aload_n 1, 1) := by decide +kernel
theorem d_Te_read_126 : decode b_Te_read 126 = .ok (.iload 6, 2) := by decide +kernel
theorem d_Te_read_128 : decode b_Te_read 128 = .ok (.bipush 8, 2) := by decide +kernel
theorem d_Te_read_130 : decode b_Te_read 130 = .ok (.iadd, 1) := by decide +kernel
theorem d_Te_read_131 : decode b_Te_read 131 = .ok (.iload_n 3, 1) := by decide +kernel
theorem d_Te_read_132 : decode b_Te_read 132 = .ok (.invokevirtual 54, 3) := by decide +kernel
theorem d_Te_read_135 : decode b_Te_read 135 = .ok (.ifCond .ne 156, 3) := by decide +kernel
theorem d_Te_read_138 : decode b_Te_read 138 = .ok (.aload_n 1, 1) := by decide +kernel
theorem d_Te_read_139 : decode b_Te_read 139 = .ok (.ldc 58, 2) := by decide +kernel
theorem d_Te_read_141 : decode b_Te_read 141 = .ok (.iload 6, 2) := by decide +kernel
theorem d_Te_read_143 : decode b_Te_read 143 = .ok (.iload_n 3, 1) := by decide +kernel
theorem d_Te_read_144 : decode b_Te_read 144 = .ok (.invokevirtual 50, 3) := by decide +kernel
theorem d_Te_read_147 : decode b_Te_read 147 = .ok (.ifCond .eq 17, 3) := by decide +kernel
theorem d_Te_read_150 : decode b_Te_read 150 = .ok (.aload_n 0, 1) := by decide +kernel
theorem d_Te_read_151 : decode b_Te_read 151 = .ok (.iconst 2, 1) := by decide +kernel
theorem d_Te_read_152 : decode b_Te_read 152 = .ok (.aload_n 1, 1) := by decide +kernel
theorem d_Te_read_153 : decode b_Te_read 153 = .ok (.iload 6, 2) := by decide +kernel
theorem d_Te_read_155 : decode b_Te_read 155 = .ok (.iconst 1, 1) := by decide +kernel
theorem d_Te_read_156 : decode b_Te_read 156 = .ok (.iadd, 1) := by decide +kernel
theorem d_Te_read_157 : decode b_Te_read 157 = .ok (.iload_n 3, 1) := by decide +kernel
theorem d_Te_read_158 : decode b_Te_read 158 = .ok (.invokevirtual 60, 3) := by decide +kernel
theorem d_Te_read_161 : decode b_Te_read 161 = .ok (.ifCond .ne 130, 3) := by decide +kernel
theorem d_Te_read_164 : decode b_Te_read 164 = .ok (.aload_n 1, 1) := by decide +kernel
theorem d_Te_read_165 : decode b_Te_read 165 = .ok (.ldc 63, 2) := by decide +kernel
theorem d_Te_read_167 : decode b_Te_read 167 = .ok (.iload 6, 2) := by decide +kernel
theorem d_Te_read_169 : decode b_Te_read 169 = .ok (.iload_n 3, 1) := by decide +kernel
theorem d_Te_read_170 : decode b_Te_read 170 = .ok (.invokevirtual 50, 3) := by decide +kernel
theorem d_Te_read_173 : decode b_Te_read 173 = .ok (.ifCond .eq 17, 3) := by decide +kernel
theorem d_Te_read_176 : decode b_Te_read 176 = .ok (.aload_n 0, 1) := by decide +kernel
theorem d_Te_read_177 : decode b_Te_read 177 = .ok (.iconst 3, 1) := by decide +kernel
theorem d_Te_read_178 : decode b_Te_read 178 = .ok (.aload_n 1, 1) := by decide +kernel
theorem d_Te_read_179 : decode b_Te_read 179 = .ok (.iload 6, 2) := by decide +kernel
theorem d_Te_read_181 : decode b_Te_read 181 = .ok (.iconst 2, 1) := by decide +kernel
theorem d_Te_read_182 : decode b_Te_read 182 = .ok (.iadd, 1) := by decide +kernel
theorem d_Te_read_183 : decode b_Te_read 183 = .ok (.iload_n 3, 1) := by decide +kernel
theorem d_Te_read_184 : decode b_Te_read 184 = .ok (.invokevirtual 60, 3) := by decide +kernel
theorem d_Te_read_187 : decode b_Te_read 187 = .ok (.ifCond .ne 104, 3) := by decide +kernel
theorem d_Te_read_190 : decode b_Te_read 190 = .ok (.aload_n 1, 1) := by decide +kernel
theorem d_Te_read_191 : decode b_Te_read 191 = .ok (.ldc 65, 2) := by decide +kernel
theorem d_Te_read_193 : decode b_Te_read 193 = .ok (.iload 6, 2) := by decide +kernel
theorem d_Te_read_195 : decode b_Te_read 195 = .ok (.iload_n 3, 1) := by decide +kernel
theorem d_Te_read_196 : decode b_Te_read 196 = .ok (.invokevirtual 50, 3) := by decide +kernel
theorem d_Te_read_199 : decode b_Te_read 199 = .ok (.ifCond .eq 16, 3) := by decide +kernel
theorem d_Te_read_202 : decode b_Te_read 202 = .ok (.aload_n 0, 1) := by decide +kernel
theorem d_Te_read_203 : decode b_Te_read 203 = .ok (.aload_n 1, 1) := by decide +kernel
theorem d_Te_read_204 : decode b_Te_read 204 = .ok (.iload 6, 2) := by decide +kernel
theorem d_Te_read_206 : decode b_Te_read 206 = .ok (.iconst 4, 1) := by decide +kernel
theorem d_Te_read_207 : decode b_Te_read 207 = .ok (.iadd, 1) := by decide +kernel
theorem d_Te_read_208 : decode b_Te_read 208 = .ok (.iload_n 3, 1) := by decide +kernel
theorem d_Te_read_209 : decode b_Te_read 209 = .ok (.invokevirtual 67, 3) := by decide +kernel
theorem d_Te_read_212 : decode b_Te_read 212 = .ok (.ifCond .ne 79, 3) := by decide +kernel
theorem d_Te_read_215 : decode b_Te_read 215 = .ok (.aload_n 1, 1) := by decide +kernel
theorem d_Te_read_216 : decode b_Te_read 216 = .ok (.ldc 70, 2) := by decide +kernel
theorem d_Te_read_218 : decode b_Te_read 218 = .ok (.iload 6, 2) := by decide +kernel
theorem d_Te_read_220 : decode b_Te_read 220 = .ok (.iload_n 3, 1) := by decide +kernel
theorem d_Te_read_221 : decode b_Te_read 221 = .ok (.invokevirtual 50, 3) := by decide +kernel
theorem d_Te_read_224 : decode b_Te_read 224 = .ok (.ifCond .eq 18, 3) := by decide +kernel
theorem d_Te_read_227 : decode b_Te_read 227 = .ok (.aload_n 0, 1) := by decide +kernel
theorem d_Te_read_228 : decode b_Te_read 228 = .ok (.iconst 5, 1) := by decide +kernel
theorem d_Te_read_229 : decode b_Te_read 229 = .ok (.aload_n 1, 1) := by decide +kernel
theorem d_Te_read_230 : decode b_Te_read 230 = .ok (.iload 6, 2) := by decide +kernel
theorem d_Te_read_232 : decode b_Te_read 232 = .ok (.bipush 7, 2) := by decide +kernel
theorem d_Te_read_234 : decode b_Te_read 234 = .ok (.iadd, 1) := by decide +kernel
theorem d_Te_read_235 : decode b_Te_read 235 = .ok (.iload_n 3, 1) := by decide +kernel
theorem d_Te_read_236 : decode b_Te_read 236 = .ok (.invokevirtual 54, 3) := by decide +kernel
theorem d_Te_read_239 : decode b_Te_read 239 = .ok (.ifCond .ne 52, 3) := by decide +kernel
theorem d_Te_read_242 : decode b_Te_read 242 = .ok (.iload 5, 2) := by decide +kernel
theorem d_Te_read_244 : decode b_Te_read 244 = .ok (.ifCond .ne 31, 3) := by decide +kernel
theorem d_Te_read_247 : decode b_Te_read 247 = .ok (.aload_n 1, 1) := by decide +kernel
theorem d_Te_read_248 : decode b_Te_read 248 = .ok (.ldc 72, 2) := by decide +kernel
theorem d_Te_read_250 : decode b_Te_read 250 = .ok (.iload 6, 2) := by decide +kernel
theorem d_Te_read_252 : decode b_Te_read 252 = .ok (.iload_n 3, 1) := by decide +kernel
theorem d_Te_read_253 : decode b_Te_read 253 = .ok (.invokevirtual 50, 3) := by decide +kernel
theorem d_Te_read_256 : decode b_Te_read 256 = .ok (.ifCond .eq 19, 3) := by decide +kernel
theorem d_Te_read_259 : decode b_Te_read 259 = .ok (.aload_n 0, 1) := by decide +kernel
theorem d_Te_read_260 : decode b_Te_read 260 = .ok (.bipush 6, 2) := by decide +kernel
theorem d_Te_read_262 : decode b_Te_read 262 = .ok (.aload_n 1, 1) := by decide +kernel
theorem d_Te_read_263 : decode b_Te_read 263 = .ok (.iload 6, 2) := by decide +kernel
theorem d_Te_read_265 : decode b_Te_read 265 = .ok (.bipush 9, 2) := by decide +kernel
theorem d_Te_read_267 : decode b_Te_read 267 = .ok (.iadd, 1) := by decide +kernel
theorem d_Te_read_268 : decode b_Te_read 268 = .ok (.iload_n 3, 1) := by decide +kernel
theorem d_Te_read_269 : decode b_Te_read 269 = .ok (.invokevirtual 54, 3) := by decide +kernel
theorem d_Te_read_272 : decode b_Te_read 272 = .ok (.ifCond .ne 19, 3) := by decide +kernel
theorem d_Te_read_275 : decode b_Te_read 275 = .ok (.iload 5, 2) := by decide +kernel
theorem d_Te_read_277 : decode b_Te_read 277 = .ok (.ifCond .ne 18, 3) := by decide +kernel
theorem d_Te_read_280 : decode b_Te_read 280 = .ok (.aload_n 0, 1) := by decide +kernel
theorem d_Te_read_281 : decode b_Te_read 281 = .ok (.aload_n 1, 1) := by decide +kernel
theorem d_Te_read_282 : decode b_Te_read 282 = .ok (.iload 6, 2) := by decide +kernel
theorem d_Te_read_284 : decode b_Te_read 284 = .ok (.iload_n 3, 1) := by decide +kernel
theorem d_Te_read_285 : decode b_Te_read 285 = .ok (.invokevirtual 74, 3) := by decide +kernel
theorem d_Te_read_288 : decode b_Te_read 288 = .ok (.ifCond .eq 7, 3) := by decide +kernel
theorem d_Te_read_291 : decode b_Te_read 291 = .ok (.iconst 1, 1) := by decide +kernel
theorem d_Te_read_292 : decode b_Te_read 292 = .ok (.goto 4, 3) := by decide +kernel
theorem d_Te_read_295 : decode b_Te_read 295 = .ok (.iconst 0, 1) := by decide +kernel
theorem d_Te_read_296 : decode b_Te_read 296 = .ok (.ireturn, 1) := by decide +kernel
theorem d_Te_readAll_0 : decode b_Te_readAll 0 = .ok (.aload_n 0, 1) := by decide +kernel
theorem d_Te_readAll_1 : decode b_Te_readAll 1 = .ok (.iconst 0, 1) := by decide +kernel
theorem d_Te_readAll_2 : decode b_Te_readAll 2 = .ok (.putfield 9, 3) := by decide +kernel
theorem d_Te_readAll_5 : decode b_Te_readAll 5 = .ok (.iload_n 3, 1) := by decide +kernel
theorem d_Te_readAll_6 : decode b_Te_readAll 6 = .ok (.iload_n 2, 1) := by decide +kernel
theorem d_Te_readAll_7 : decode b_Te_readAll 7 = .ok (.isub, 1) := by decide +kernel
theorem d_Te_readAll_8 : decode b_Te_readAll 8 = .ok (.iconst 3, 1) := by decide +kernel
theorem d_Te_readAll_9 : decode b_Te_readAll 9 = .ok (.if_icmp .ne 18, 3) := by decide +kernel
theorem d_Te_readAll_12 : decode b_Te_readAll 12 = .ok (.aload_n 1, 1) := by decide +kernel
theorem d_Te_readAll_13 : decode b_Te_readAll 13 = .ok (.ldc 77, 2) := by decide +kernel
theorem d_Te_readAll_15 : decode b_Te_readAll 15 = .ok (.iload_n 2, 1) := by decide +kernel
theorem d_Te_readAll_16 : decode b_Te_readAll 16 = .ok (.iload_n 3, 1) := by decide +kernel
theorem d_Te_readAll_17 : decode b_Te_readAll 17 = .ok (.invokevirtual 50, 3) := by decide +kernel
theorem d_Te_readAll_20 : decode b_Te_readAll 20 = .ok (.ifCond .eq 7, 3) := by decide +kernel
theorem d_Te_readAll_23 : decode b_Te_readAll 23 = .ok (.iconst 1, 1) := by decide +kernel
theorem d_Te_readAll_24 : decode b_Te_readAll 24 = .ok (.goto 4, 3) := by decide +kernel
theorem d_Te_readAll_27 : decode b_Te_readAll 27 = .ok (.iconst 0, 1) := by decide +kernel
theorem d_Te_readAll_28 : decode b_Te_readAll 28 = .ok (.ireturn, 1) := by decide +kernel
theorem d_Te_readBits_0 : decode b_Te_readBits 0 = .ok (.iload_n 3, 1) := by decide +kernel
theorem d_Te_readBits_1 : decode b_Te_readBits 1 = .ok (.iload_n 2, 1) := by decide +kernel
theorem d_Te_readBits_2 : decode b_Te_readBits 2 = .ok (.if_icmp .le 10, 3) := by decide +kernel
theorem d_Te_readBits_5 : decode b_Te_readBits 5 = .ok (.iload_n 3, 1) := by decide +kernel
theorem d_Te_readBits_6 : decode b_Te_readBits 6 = .ok (.iload_n 2, 1) := by decide +kernel
theorem d_Te_readBits_7 : decode b_Te_readBits 7 = .ok (.isub, 1) := by decide +kernel
theorem d_Te_readBits_8 : decode b_Te_readBits 8 = .ok (.iconst 2, 1) := by decide +kernel
theorem d_Te_readBits_9 : decode b_Te_readBits 9 = .ok (.if_icmp .le 5, 3) := by decide +kernel
theorem d_Te_readBits_12 : decode b_Te_readBits 12 = .ok (.iconst 0, 1) := by decide +kernel
theorem d_Te_readBits_13 : decode b_Te_readBits 13 = .ok (.ireturn, 1) := by decide +kernel
theorem d_Te_readBits_14 : decode b_Te_readBits 14 = .ok (.aload_n 0, 1) := by decide +kernel
theorem d_Te_readBits_15 : decode b_Te_readBits 15 = .ok (.iconst 0, 1) := by decide +kernel
theorem d_Te_readBits_16 : decode b_Te_readBits 16 = .ok (.putfield 15, 3) := by decide +kernel
theorem d_Te_readBits_19 : decode b_Te_readBits 19 = .ok (.iload_n 2, 1) := by decide +kernel
theorem d_Te_readBits_20 : decode b_Te_readBits 20 = .ok (.istore 4, 2) := by decide +kernel
theorem d_Te_readBits_22 : decode b_Te_readBits 22 = .ok (.iload 4, 2) := by decide +kernel
theorem d_Te_readBits_24 : decode b_Te_readBits 24 = .ok (.iload_n 3, 1) := by decide +kernel
theorem d_Te_readBits_25 : decode b_Te_readBits 25 = .ok (.if_icmp .ge 44, 3) := by decide +kernel
theorem d_Te_readBits_28 : decode b_Te_readBits 28 = .ok (.aload_n 1, 1) := by decide +kernel
theorem d_Te_readBits_29 : decode b_Te_readBits 29 = .ok (.iload 4, 2) := by decide +kernel
theorem d_Te_readBits_31 : decode b_Te_readBits 31 = .ok (.invokevirtual 30, 3) := by decide +kernel
theorem d_Te_readBits_34 : decode b_Te_readBits 34 = .ok (.invokestatic 95, 3) := by decide +kernel
theorem d_Te_readBits_37 : decode b_Te_readBits 37 = .ok (.ifCond .ne 5, 3) := by decide +kernel
theorem d_Te_readBits_40 : decode b_Te_readBits 40 = .ok (.iconst 0, 1) := by decide +kernel
theorem d_Te_readBits_41 : decode b_Te_readBits 41 = .ok (.ireturn, 1) := by decide +kernel
theorem d_Te_readBits_42 : decode b_Te_readBits 42 = .ok (.aload_n 0, 1) := by decide +kernel
theorem d_Te_readBits_43 : decode b_Te_readBits 43 = .ok (.aload_n 0, 1) := by decide +kernel
theorem d_Te_readBits_44 : decode b_Te_readBits 44 = .ok (.getfield 15, 3) := by decide +kernel
theorem d_Te_readBits_47 : decode b_Te_readBits 47 = .ok (.bipush 10, 2) := by decide +kernel
theorem d_Te_readBits_49 : decode b_Te_readBits 49 = .ok (.imul, 1) := by decide +kernel
theorem d_Te_readBits_50 : decode b_Te_readBits 50 = .ok (.aload_n 1, 1) := by decide +kernel
theorem d_Te_readBits_51 : decode b_Te_readBits 51 = .ok (.iload 4, 2) := by decide +kernel
theorem d_Te_readBits_53 : decode b_Te_readBits 53 = .ok (.invokevirtual 30, 3) := by decide +kernel
theorem d_Te_readBits_56 : decode b_Te_readBits 56 = .ok (.iadd, 1) := by decide +kernel
theorem d_Te_readBits_57 : decode b_Te_readBits 57 = .ok (.bipush 48, 2) := by decide +kernel
theorem d_Te_readBits_59 : decode b_Te_readBits 59 = .ok (.isub, 1) := by decide +kernel
theorem d_Te_readBits_60 : decode b_Te_readBits 60 = .ok (.putfield 15, 3) := by decide +kernel
theorem d_Te_readBits_63 : decode b_Te_readBits 63 = .ok (.iinc 4 1, 3) := by decide +kernel
theorem d_Te_readBits_66 : decode b_Te_readBits 66 = .ok (.goto (-44), 3) := by decide +kernel
theorem d_Te_readBits_69 : decode b_Te_readBits 69 = .ok (.aload_n 0, 1) := by decide +kernel
theorem d_Te_readBits_70 : decode b_Te_readBits 70 = .ok (.getfield 15, 3) := by decide +kernel
theorem d_Te_readBits_73 : decode b_Te_readBits 73 = .ok (.bipush 32, 2) := by decide +kernel
theorem d_Te_readBits_75 : decode b_Te_readBits 75 = .ok (.if_icmp .gt 7, 3) := by decide +kernel
theorem d_Te_readBits_78 : decode b_Te_readBits 78 = .ok (.iconst 1, 1) := by decide +kernel
theorem d_Te_readBits_79 : decode b_Te_readBits 79 = .ok (.goto 4, 3) := by decide +kernel
theorem d_Te_readBits_82 : decode b_Te_readBits 82 = .ok (.iconst 0, 1) := by decide +kernel
theorem d_Te_readBits_83 : decode b_Te_readBits 83 = .ok (.ireturn, 1) := by decide +kernel
theorem d_Te_readFour_0 : decode b_Te_readFour 0 = .ok (.iconst 0, 1) := by decide +kernel
theorem d_Te_readFour_1 : decode b_Te_readFour 1 = .ok (.istore 4, 2) := by decide +kernel
theorem d_Te_readFour_3 : decode b_Te_readFour 3 = .ok (.iconst 0, 1) := by decide +kernel
theorem d_Te_readFour_4 : decode b_Te_readFour 4 = .ok (.istore 5, 2) := by decide +kernel
theorem d_Te_readFour_6 : decode b_Te_readFour 6 = .ok (.iconst 0, 1) := by decide +kernel
theorem d_Te_readFour_7 : decode b_Te_readFour 7 = .ok (.istore 6, 2) := by decide +kernel
theorem d_Te_readFour_9 : decode b_Te_readFour 9 = .ok (.aload_n 0, 1) := by decide +kernel
theorem d_Te_readFour_10 : decode b_Te_readFour 10 = .ok (.iconst 0, 1) := by decide +kernel
theorem d_Te_readFour_11 : decode b_Te_readFour 11 = .ok (.putfield 18, 3) := by decide +kernel
theorem d_Te_readFour_14 : decode b_Te_readFour 14 = .ok (.iload_n 2, 1) := by decide +kernel
theorem d_Te_readFour_15 : decode b_Te_readFour 15 = .ok (.istore 7, 2) := by decide +kernel
theorem d_Te_readFour_17 : decode b_Te_readFour 17 = .ok (.iload 7, 2) := by decide +kernel
theorem d_Te_readFour_19 : decode b_Te_readFour 19 = .ok (.iload_n 3, 1) := by decide +kernel
theorem d_Te_readFour_20 : decode b_Te_readFour 20 = .ok (.if_icmp .ge 106, 3) := by decide +kernel
theorem d_Te_readFour_23 : decode b_Te_readFour 23 = .ok (.aload_n 1, 1) := by decide +kernel
theorem d_Te_readFour_24 : decode b_Te_readFour 24 = .ok (.iload 7, 2) := by decide +kernel
theorem d_Te_readFour_26 : decode b_Te_readFour 26 = .ok (.invokevirtual 30, 3) := by decide +kernel
theorem d_Te_readFour_29 : decode b_Te_readFour 29 = .ok (.istore 8, 2) := by decide +kernel
theorem d_Te_readFour_31 : decode b_Te_readFour 31 = .ok (.iload 8, 2) := by decide +kernel
theorem d_Te_readFour_33 : decode b_Te_readFour 33 = .ok (.invokestatic 95, 3) := by decide +kernel
theorem d_Te_readFour_36 : decode b_Te_readFour 36 = .ok (.ifCond .eq 28, 3) := by decide +kernel
theorem d_Te_readFour_39 : decode b_Te_readFour 39 = .ok (.iload 5, 2) := by decide +kernel
theorem d_Te_readFour_41 : decode b_Te_readFour 41 = .ok (.iconst 3, 1) := by decide +kernel
theorem d_Te_readFour_42 : decode b_Te_readFour 42 = .ok (.if_icmp .ge 22, 3) := by decide +kernel
theorem d_Te_readFour_45 : decode b_Te_readFour 45 = .ok (.iinc 5 1, 3) := by decide +kernel
theorem d_Te_readFour_48 : decode b_Te_readFour 48 = .ok (.iload 6, 2) := by decide +kernel
theorem d_Te_readFour_50 : decode b_Te_readFour 50 = .ok (.bipush 10, 2) := by decide +kernel
theorem d_Te_readFour_52 : decode b_Te_readFour 52 = .ok (.imul, 1) := by decide +kernel
theorem d_Te_readFour_53 : decode b_Te_readFour 53 = .ok (.iload 8, 2) := by decide +kernel
theorem d_Te_readFour_55 : decode b_Te_readFour 55 = .ok (.iadd, 1) := by decide +kernel
theorem d_Te_readFour_56 : decode b_Te_readFour 56 = .ok (.bipush 48, 2) := by decide +kernel
theorem d_Te_readFour_58 : decode b_Te_readFour 58 = .ok (.isub, 1) := by decide +kernel
theorem d_Te_readFour_59 : decode b_Te_readFour 59 = .ok (.istore 6, 2) := by decide +kernel
theorem d_Te_readFour_61 : decode b_Te_readFour 61 = .ok (.goto 49, 3) := by decide +kernel
theorem d_Te_readFour_64 : decode b_Te_readFour 64 = .ok (.iload 8, 2) := by decide +kernel
theorem d_Te_readFour_66 : decode b_Te_readFour 66 = .ok (.bipush 46, 2) := by decide +kernel
theorem d_Te_readFour_68 : decode b_Te_readFour 68 = .ok (.if_icmp .ne 40, 3) := by decide +kernel
theorem d_Te_readFour_71 : decode b_Te_readFour 71 = .ok (.iload 5, 2) := by decide +kernel
theorem d_Te_readFour_73 : decode b_Te_readFour 73 = .ok (.ifCond .le 35, 3) := by decide +kernel
theorem d_Te_readFour_76 : decode b_Te_readFour 76 = .ok (.iload 4, 2) := by decide +kernel
theorem d_Te_readFour_78 : decode b_Te_readFour 78 = .ok (.iconst 3, 1) := by decide +kernel
theorem d_Te_readFour_79 : decode b_Te_readFour 79 = .ok (.if_icmp .ge 29, 3) := by decide +kernel
theorem d_Te_readFour_82 : decode b_Te_readFour 82 = .ok (.aload_n 0, 1) := by decide +kernel
theorem d_Te_readFour_83 : decode b_Te_readFour 83 = .ok (.aload_n 0, 1) := by decide +kernel
theorem d_Te_readFour_84 : decode b_Te_readFour 84 = .ok (.getfield 18, 3) := by decide +kernel
theorem d_Te_readFour_87 : decode b_Te_readFour 87 = .ok (.bipush 8, 2) := by decide +kernel
theorem d_Te_readFour_89 : decode b_Te_readFour 89 = .ok (.ishl, 1) := by decide +kernel
theorem d_Te_readFour_90 : decode b_Te_readFour 90 = .ok (.iload 6, 2) := by decide +kernel
theorem d_Te_readFour_92 : decode b_Te_readFour 92 = .ok (.ior, 1) := by decide +kernel
theorem d_Te_readFour_93 : decode b_Te_readFour 93 = .ok (.putfield 18, 3) := by decide +kernel
theorem d_Te_readFour_96 : decode b_Te_readFour 96 = .ok (.iinc 4 1, 3) := by decide +kernel
theorem d_Te_readFour_99 : decode b_Te_readFour 99 = .ok (.iconst 0, 1) := by decide +kernel
theorem d_Te_readFour_100 : decode b_Te_readFour 100 = .ok (.istore 5, 2) := by decide +kernel
theorem d_Te_readFour_102 : decode b_Te_readFour 102 = .ok (.iconst 0, 1) := by decide +kernel
theorem d_Te_readFour_103 : decode b_Te_readFour 103 = .ok (.istore 6, 2) := by decide +kernel
theorem d_Te_readFour_105 : decode b_Te_readFour 105 = .ok (.goto 5, 3) := by decide +kernel
theorem d_Te_readFour_108 : decode b_Te_readFour 108 = .ok (.iconst 0, 1) := by decide +kernel
theorem d_Te_readFour_109 : decode b_Te_readFour 109 = .ok (.ireturn, 1) := by decide +kernel
theorem d_Te_readFour_110 : decode b_Te_readFour 110 = .ok (.iload 6, 2) := by decide +kernel
theorem d_Te_readFour_112 : decode b_Te_readFour 112 = .ok (.sipush 255, 3) := by decide +kernel
theorem d_Te_readFour_115 : decode b_Te_readFour 115 = .ok (.if_icmp .le 5, 3) := by decide +kernel
theorem d_Te_readFour_118 : decode b_Te_readFour 118 = .ok (.iconst 0, 1) := by decide +kernel
theorem d_Te_readFour_119 : decode b_Te_readFour 119 = .ok (.ireturn, 1) := by decide +kernel
theorem d_Te_readFour_120 : decode b_Te_readFour 120 = .ok (.iinc 7 1, 3) := by decide +kernel
theorem d_Te_readFour_123 : decode b_Te_readFour 123 = .ok (.goto (-106), 3) := by decide +kernel
theorem d_Te_readFour_126 : decode b_Te_readFour 126 = .ok (.aload_n 0, 1) := by decide +kernel
theorem d_Te_readFour_127 : decode b_Te_readFour 127 = .ok (.aload_n 0, 1) := by decide +kernel
theorem d_Te_readFour_128 : decode b_Te_readFour 128 = .ok (.getfield 18, 3) := by decide +kernel
theorem d_Te_readFour_131 : decode b_Te_readFour 131 = .ok (.bipush 8, 2) := by decide +kernel
theorem d_Te_readFour_133 : decode b_Te_readFour 133 = .ok (.ishl, 1) := by decide +kernel
theorem d_Te_readFour_134 : decode b_Te_readFour 134 = .ok (.iload 6, 2) := by decide +kernel
theorem d_Te_readFour_136 : decode b_Te_readFour 136 = .ok (.ior, 1) := by decide +kernel
theorem d_Te_readFour_137 : decode b_Te_readFour 137 = .ok (.putfield 18, 3) := by decide +kernel
theorem d_Te_readFour_140 : decode b_Te_readFour 140 = .ok (.iload 4, 2) := by decide +kernel
theorem d_Te_readFour_142 : decode b_Te_readFour 142 = .ok (.iconst 3, 1) := by decide +kernel
theorem d_Te_readFour_143 : decode b_Te_readFour 143 = .ok (.if_icmp .ne 12, 3) := by decide +kernel
theorem d_Te_readFour_146 : decode b_Te_readFour 146 = .ok (.iload 5, 2) := by decide +kernel
theorem d_Te_readFour_148 : decode b_Te_readFour 148 = .ok (.ifCond .le 7, 3) := by decide +kernel
theorem d_Te_readFour_151 : decode b_Te_readFour 151 = .ok (.iconst 1, 1) := by decide +kernel
theorem d_Te_readFour_152 : decode b_Te_readFour 152 = .ok (.goto 4, 3) := by decide +kernel
theorem d_Te_readFour_155 : decode b_Te_readFour 155 = .ok (.iconst 0, 1) := by decide +kernel
theorem d_Te_readFour_156 : decode b_Te_readFour 156 = .ok (.ireturn, 1) := by decide +kernel
theorem d_Te_readHost_0 : decode b_Te_readHost 0 = .ok (.aload_n 0, 1) := by decide +kernel
theorem d_Te_readHost_1 : decode b_Te_readHost 1 = .ok (.iload_n 1, 1) := by decide +kernel
theorem d_Te_readHost_2 : decode b_Te_readHost 2 = .ok (.putfield 9, 3) := by decide +kernel
theorem d_Te_readHost_5 : decode b_Te_readHost 5 = .ok (.aload_n 2, 1) := by decide +kernel
theorem d_Te_readHost_6 : decode b_Te_readHost 6 = .ok (.bipush 47, 2) := by decide +kernel
theorem d_Te_readHost_8 : decode b_Te_readHost 8 = .ok (.iload_n 3, 1) := by decide +kernel
theorem d_Te_readHost_9 : decode b_Te_readHost 9 = .ok (.iload 4, 2) := by decide +kernel
theorem d_Te_readHost_11 : decode b_Te_readHost 11 = .ok (.invokevirtual 40, 3) := by decide +kernel
theorem d_Te_readHost_14 : decode b_Te_readHost 14 = .ok (.istore 5, 2) := by decide +kernel
theorem d_Te_readHost_16 : decode b_Te_readHost 16 = .ok (.iload_n 3, 1) := by decide +kernel
theorem d_Te_readHost_17 : decode b_Te_readHost 17 = .ok (.iload 5, 2) := by decide +kernel
theorem d_Te_readHost_19 : decode b_Te_readHost 19 = .ok (.if_icmp .ge 43, 3) := by decide +kernel
theorem d_Te_readHost_22 : decode b_Te_readHost 22 = .ok (.aload_n 0, 1) := by decide +kernel
theorem d_Te_readHost_23 : decode b_Te_readHost 23 = .ok (.iload_n 3, 1) := by decide +kernel
theorem d_Te_readHost_24 : decode b_Te_readHost 24 = .ok (.iconst 1, 1) := by decide +kernel
theorem d_Te_readHost_25 : decode b_Te_readHost 25 = .ok (.iadd, 1) := by decide +kernel
theorem d_Te_readHost_26 : decode b_Te_readHost 26 = .ok (.putfield 21, 3) := by decide +kernel
theorem d_Te_readHost_29 : decode b_Te_readHost 29 = .ok (.aload_n 0, 1) := by decide +kernel
theorem d_Te_readHost_30 : decode b_Te_readHost 30 = .ok (.iload 5, 2) := by decide +kernel
theorem d_Te_readHost_32 : decode b_Te_readHost 32 = .ok (.putfield 24, 3) := by decide +kernel
theorem d_Te_readHost_35 : decode b_Te_readHost 35 = .ok (.aload_n 2, 1) := by decide +kernel
theorem d_Te_readHost_36 : decode b_Te_readHost 36 = .ok (.iload_n 3, 1) := by decide +kernel
theorem d_Te_readHost_37 : decode b_Te_readHost 37 = .ok (.invokevirtual 30, 3) := by decide +kernel
theorem d_Te_readHost_40 : decode b_Te_readHost 40 = .ok (.bipush 58, 2) := by decide +kernel
theorem d_Te_readHost_42 : decode b_Te_readHost 42 = .ok (.if_icmp .ne 18, 3) := by decide +kernel
theorem d_Te_readHost_45 : decode b_Te_readHost 45 = .ok (.aload_n 2, 1) := by decide +kernel
theorem d_Te_readHost_46 : decode b_Te_readHost 46 = .ok (.aload_n 0, 1) := by decide +kernel
theorem d_Te_readHost_47 : decode b_Te_readHost 47 = .ok (.getfield 21, 3) := by decide +kernel
theorem d_Te_readHost_50 : decode b_Te_readHost 50 = .ok (.aload_n 0, 1) := by decide +kernel
theorem d_Te_readHost_51 : decode b_Te_readHost 51 = .ok (.getfield 24, 3) := by decide +kernel
theorem d_Te_readHost_54 : decode b_Te_readHost 54 = .ok (.invokestatic 84, 3) := by decide +kernel
theorem d_Te_readHost_57 : decode b_Te_readHost 57 = .ok (.ifCond .ne 5, 3) := by decide +kernel
theorem d_Te_readHost_60 : decode b_Te_readHost 60 = .ok (.iconst 0, 1) := by decide +kernel
theorem d_Te_readHost_61 : decode b_Te_readHost 61 = .ok (.ireturn, 1) := by decide +kernel
theorem d_Te_readHost_62 : decode b_Te_readHost 62 = .ok (.iload 5, 2) := by decide +kernel
theorem d_Te_readHost_64 : decode b_Te_readHost 64 = .ok (.iload 4, 2) := by decide +kernel
theorem d_Te_readHost_66 : decode b_Te_readHost 66 = .ok (.if_icmp .eq 17, 3) := by decide +kernel
theorem d_Te_readHost_69 : decode b_Te_readHost 69 = .ok (.aload_n 0, 1) := by decide +kernel
theorem d_Te_readHost_70 : decode b_Te_readHost 70 = .ok (.aload_n 2, 1) := by decide +kernel
theorem d_Te_readHost_71 : decode b_Te_readHost 71 = .ok (.iload 5, 2) := by decide +kernel
theorem d_Te_readHost_73 : decode b_Te_readHost 73 = .ok (.iconst 1, 1) := by decide +kernel
theorem d_Te_readHost_74 : decode b_Te_readHost 74 = .ok (.iadd, 1) := by decide +kernel
theorem d_Te_readHost_75 : decode b_Te_readHost 75 = .ok (.iload 4, 2) := by decide +kernel
theorem d_Te_readHost_77 : decode b_Te_readHost 77 = .ok (.invokevirtual 89, 3) := by decide +kernel
theorem d_Te_readHost_80 : decode b_Te_readHost 80 = .ok (.ifCond .eq 7, 3) := by decide +kernel
theorem d_Te_readHost_83 : decode b_Te_readHost 83 = .ok (.iconst 1, 1) := by decide +kernel
theorem d_Te_readHost_84 : decode b_Te_readHost 84 = .ok (.goto 4, 3) := by decide +kernel
theorem d_Te_readHost_87 : decode b_Te_readHost 87 = .ok (.iconst 0, 1) := by decide +kernel
theorem d_Te_readHost_88 : decode b_Te_readHost 88 = .ok (.ireturn, 1) := by decide +kernel
theorem d_Te_readNetwork_0 : decode b_Te_readNetwork 0 = .ok (.aload_n 0, 1) := by decide +kernel
theorem d_Te_readNetwork_1 : decode b_Te_readNetwork 1 = .ok (.iconst 4, 1) := by decide +kernel
theorem d_Te_readNetwork_2 : decode b_Te_readNetwork 2 = .ok (.putfield 9, 3) := by decide +kernel
theorem d_Te_readNetwork_5 : decode b_Te_readNetwork 5 = .ok (.aload_n 1, 1) := by decide +kernel
theorem d_Te_readNetwork_6 : decode b_Te_readNetwork 6 = .ok (.bipush 47, 2) := by decide +kernel
theorem d_Te_readNetwork_8 : decode b_Te_readNetwork 8 = .ok (.iload_n 2, 1) := by decide +kernel
theorem d_Te_readNetwork_9 : decode b_Te_readNetwork 9 = .ok (.iload_n 3, 1) := by decide +kernel
theorem d_Te_readNetwork_10 : decode b_Te_readNetwork 10 = .ok (.invokevirtual 40, 3) := by decide +kernel
theorem d_Te_readNetwork_13 : decode b_Te_readNetwork 13 = .ok (.istore 4, 2) := by decide +kernel
theorem d_Te_readNetwork_15 : decode b_Te_readNetwork 15 = .ok (.aload_n 0, 1) := by decide +kernel
theorem d_Te_readNetwork_16 : decode b_Te_readNetwork 16 = .ok (.aload_n 1, 1) := by decide +kernel
theorem d_Te_readNetwork_17 : decode b_Te_readNetwork 17 = .ok (.iload_n 2, 1) := by decide +kernel
theorem d_Te_readNetwork_18 : decode b_Te_readNetwork 18 = .ok (.iload 4, 2) := by decide +kernel
theorem d_Te_readNetwork_20 : decode b_Te_readNetwork 20 = .ok (.invokevirtual 92, 3) := by decide +kernel
theorem d_Te_readNetwork_23 : decode b_Te_readNetwork 23 = .ok (.ifCond .eq 26, 3) := by decide +kernel
theorem d_Te_readNetwork_26 : decode b_Te_readNetwork 26 = .ok (.iload 4, 2) := by decide +kernel
theorem d_Te_readNetwork_28 : decode b_Te_readNetwork 28 = .ok (.iload_n 3, 1) := by decide +kernel
theorem d_Te_readNetwork_29 : decode b_Te_readNetwork 29 = .ok (.if_icmp .eq 16, 3) := by decide +kernel
theorem d_Te_readNetwork_32 : decode b_Te_readNetwork 32 = .ok (.aload_n 0, 1) := by decide +kernel
theorem d_Te_readNetwork_33 : decode b_Te_readNetwork 33 = .ok (.aload_n 1, 1) := by decide +kernel
theorem d_Te_readNetwork_34 : decode b_Te_readNetwork 34 = .ok (.iload 4, 2) := by decide +kernel
theorem d_Te_readNetwork_36 : decode b_Te_readNetwork 36 = .ok (.iconst 1, 1) := by decide +kernel
theorem d_Te_readNetwork_37 : decode b_Te_readNetwork 37 = .ok (.iadd, 1) := by decide +kernel
theorem d_Te_readNetwork_38 : decode b_Te_readNetwork 38 = .ok (.iload_n 3, 1) := by decide +kernel
theorem d_Te_readNetwork_39 : decode b_Te_readNetwork 39 = .ok (.invokevirtual 89, 3) := by decide +kernel
theorem d_Te_readNetwork_42 : decode b_Te_readNetwork 42 = .ok (.ifCond .eq 7, 3) := by decide +kernel
theorem d_Te_readNetwork_45 : decode b_Te_readNetwork 45 = .ok (.iconst 1, 1) := by decide +kernel
theorem d_Te_readNetwork_46 : decode b_Te_readNetwork 46 = .ok (.goto 4, 3) := by decide +kernel
theorem d_Te_readNetwork_49 : decode b_Te_readNetwork 49 = .ok (.iconst 0, 1) := by decide +kernel
theorem d_Te_readNetwork_50 : decode b_Te_readNetwork 50 = .ok (.ireturn, 1) := by decide +kernel
theorem d_Te_readOther_0 : decode b_Te_readOther 0 = .ok (.aload_n 0, 1) := by decide +kernel
theorem d_Te_readOther_1 : decode b_Te_readOther 1 = .ok (.bipush 7, 2) := by decide +kernel
theorem d_Te_readOther_3 : decode b_Te_readOther 3 = .ok (.putfield 9, 3) := by decide +kernel
theorem d_Te_readOther_6 : decode b_Te_readOther 6 = .ok (.aload_n 1, 1) := by decide +kernel
theorem d_Te_readOther_7 : decode b_Te_readOther 7 = .ok (.bipush 61, 2) := by decide +kernel
theorem d_Te_readOther_9 : decode b_Te_readOther 9 = .ok (.iload_n 2, 1) := by decide +kernel
theorem d_Te_readOther_10 : decode b_Te_readOther 10 = .ok (.iload_n 3, 1) := by decide +kernel
theorem d_Te_readOther_11 : decode b_Te_readOther 11 = .ok (.invokevirtual 40, 3) := by decide +kernel
theorem d_Te_readOther_14 : decode b_Te_readOther 14 = .ok (.istore 4, 2) := by decide +kernel
theorem d_Te_readOther_16 : decode b_Te_readOther 16 = .ok (.iload 4, 2) := by decide +kernel
theorem d_Te_readOther_18 : decode b_Te_readOther 18 = .ok (.iload_n 3, 1) := by decide +kernel
theorem d_Te_readOther_19 : decode b_Te_readOther 19 = .ok (.if_icmp .ge 28, 3) := by decide +kernel
theorem d_Te_readOther_22 : decode b_Te_readOther 22 = .ok (.aload_n 1, 1) := by decide +kernel
theorem d_Te_readOther_23 : decode b_Te_readOther 23 = .ok (.iload_n 2, 1) := by decide +kernel
theorem d_Te_readOther_24 : decode b_Te_readOther 24 = .ok (.iload 4, 2) := by decide +kernel
theorem d_Te_readOther_26 : decode b_Te_readOther 26 = .ok (.invokestatic 79, 3) := by decide +kernel
theorem d_Te_readOther_29 : decode b_Te_readOther 29 = .ok (.ifCond .eq 18, 3) := by decide +kernel
theorem d_Te_readOther_32 : decode b_Te_readOther 32 = .ok (.aload_n 1, 1) := by decide +kernel
theorem d_Te_readOther_33 : decode b_Te_readOther 33 = .ok (.ldc 72, 2) := by decide +kernel
theorem d_Te_readOther_35 : decode b_Te_readOther 35 = .ok (.iload_n 2, 1) := by decide +kernel
theorem d_Te_readOther_36 : decode b_Te_readOther 36 = .ok (.iload_n 3, 1) := by decide +kernel
theorem d_Te_readOther_37 : decode b_Te_readOther 37 = .ok (.invokevirtual 50, 3) := by decide +kernel
theorem d_Te_readOther_40 : decode b_Te_readOther 40 = .ok (.ifCond .ne 7, 3) := by decide +kernel
theorem d_Te_readOther_43 : decode b_Te_readOther 43 = .ok (.iconst 1, 1) := by decide +kernel
theorem d_Te_readOther_44 : decode b_Te_readOther 44 = .ok (.goto 4, 3) := by decide +kernel
theorem d_Te_readOther_47 : decode b_Te_readOther 47 = .ok (.iconst 0, 1) := by decide +kernel
theorem d_Te_readOther_48 : decode b_Te_readOther 48 = .ok (.ireturn, 1) := by decide +kernel
theorem d_Te_readTarget_0 : decode b_Te_readTarget 0 = .ok (.aload_n 0, 1) := by decide +kernel
theorem d_Te_readTarget_1 : decode b_Te_readTarget 1 = .ok (.iload_n 1, 1) := by decide +kernel
theorem d_Te_readTarget_2 : decode b_Te_readTarget 2 = .ok (.putfield 9, 3) := by decide +kernel
theorem d_Te_readTarget_5 : decode b_Te_readTarget 5 = .ok (.aload_n 0, 1) := by decide +kernel
theorem d_Te_readTarget_6 : decode b_Te_readTarget 6 = .ok (.iload_n 3, 1) := by decide +kernel
theorem d_Te_readTarget_7 : decode b_Te_readTarget 7 = .ok (.putfield 21, 3) := by decide +kernel
theorem d_Te_readTarget_10 : decode b_Te_readTarget 10 = .ok (.aload_n 0, 1) := by decide +kernel
theorem d_Te_readTarget_11 : decode b_Te_readTarget 11 = .ok (.iload 4, 2) := by decide +kernel
theorem d_Te_readTarget_13 : decode b_Te_readTarget 13 = .ok (.putfield 24, 3) := by decide +kernel
theorem d_Te_readTarget_16 : decode b_Te_readTarget 16 = .ok (.aload_n 2, 1) := by decide +kernel
theorem d_Te_readTarget_17 : decode b_Te_readTarget 17 = .ok (.iload_n 3, 1) := by decide +kernel
theorem d_Te_readTarget_18 : decode b_Te_readTarget 18 = .ok (.iload 4, 2) := by decide +kernel
theorem d_Te_readTarget_20 : decode b_Te_readTarget 20 = .ok (.invokestatic 84, 3) := by decide +kernel
theorem d_Te_readTarget_23 : decode b_Te_readTarget 23 = .ok (.ireturn, 1) := by decide +kernel
theorem d_Te_startsAt_0 : decode b_Te_startsAt 0 = .ok (.aload_n 0, 1) := by decide +kernel
theorem d_Te_startsAt_1 : decode b_Te_startsAt 1 = .ok (.iload_n 1, 1) := by decide +kernel
theorem d_Te_startsAt_2 : decode b_Te_startsAt 2 = .ok (.invokevirtual 30, 3) := by decide +kernel
theorem d_Te_startsAt_5 : decode b_Te_startsAt 5 = .ok (.bipush 32, 2) := by decide +kernel
theorem d_Te_startsAt_7 : decode b_Te_startsAt 7 = .ok (.if_icmp .eq 19, 3) := by decide +kernel
theorem d_Te_startsAt_10 : decode b_Te_startsAt 10 = .ok (.aload_n 0, 1) := by decide +kernel
theorem d_Te_startsAt_11 : decode b_Te_startsAt 11 = .ok (.iload_n 1, 1) := by decide +kernel
theorem d_Te_startsAt_12 : decode b_Te_startsAt 12 = .ok (.iconst 1, 1) := by decide +kernel
theorem d_Te_startsAt_13 : decode b_Te_startsAt 13 = .ok (.isub, 1) := by decide +kernel
theorem d_Te_startsAt_14 : decode b_Te_startsAt 14 = .ok (.invokevirtual 30, 3) := by decide +kernel
theorem d_Te_startsAt_17 : decode b_Te_startsAt 17 = .ok (.bipush 32, 2) := by decide +kernel
theorem d_Te_startsAt_19 : decode b_Te_startsAt 19 = .ok (.if_icmp .ne 7, 3) := by decide +kernel
theorem d_Te_startsAt_22 : decode b_Te_startsAt 22 = .ok (.iconst 1, 1) := by decide +kernel
theorem d_Te_startsAt_23 : decode b_Te_startsAt 23 = .ok (.goto 4, 3) := by decide +kernel
theorem d_Te_startsAt_26 : decode b_Te_startsAt 26 = .ok (.iconst 0, 1) := by decide +kernel
theorem d_Te_startsAt_27 : decode b_Te_startsAt 27 = .ok (.ireturn, 1) := by decide +kernel
theorem d_Te_to_0 : decode b_Te_to 0 = .ok (.aload_n 0, 1) := by decide +kernel
theorem d_Te_to_1 : decode b_Te_to 1 = .ok (.getfield 24, 3) := by decide +kernel
theorem d_Te_to_4 : decode b_Te_to 4 = .ok (.ireturn, 1) := by decide +kernel
theorem d_Te_verdict_0 : decode b_Te_verdict 0 = .ok (.aload_n 0, 1) := by decide +kernel
theorem d_Te_verdict_1 : decode b_Te_verdict 1 = .ok (.getfield 27, 3) := by decide +kernel
theorem d_Te_verdict_4 : decode b_Te_verdict 4 = .ok (.lookupswitch 42 #[(45, 36), (63, 40), (126, 38)], 36) := by decide +kernel
theorem d_Te_verdict_40 : decode b_Te_verdict 40 = .ok (.iconst 3, 1) := by decide +kernel
theorem d_Te_verdict_41 : decode b_Te_verdict 41 = .ok (.ireturn, 1) := by decide +kernel
theorem d_Te_verdict_42 : decode b_Te_verdict 42 = .ok (.iconst 4, 1) := by decide +kernel
theorem d_Te_verdict_43 : decode b_Te_verdict 43 = .ok (.ireturn, 1) := by decide +kernel
theorem d_Te_verdict_44 : decode b_Te_verdict 44 = .ok (.iconst 1, 1) := by decide +kernel
theorem d_Te_verdict_45 : decode b_Te_verdict 45 = .ok (.ireturn, 1) := by decide +kernel
theorem d_Te_verdict_46 : decode b_Te_verdict 46 = .ok (.iconst 2, 1) := by decide +kernel
theorem d_Te_verdict_47 : decode b_Te_verdict 47 = .ok (.ireturn, 1) := by decide +kernel
