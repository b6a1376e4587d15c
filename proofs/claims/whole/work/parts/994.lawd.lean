theorem kl_La_7 : Cond.classLink "SendPolicyLaw" 7 "SendPolicy" ∈ TB := (tb_in 49 (by decide +kernel) rfl)
theorem nw_La_7 : NewW "SendPolicyLaw" 7 cPo 6 t_Po := ⟨R_Po, F_Po, rfl, ft_Po, fws_Po, kl_La_7, (tb_in 50 (by decide +kernel) rfl), (tb_in 30 (by decide +kernel) rfl)⟩
set_option maxRecDepth 100000 in
theorem mw_Po_init : MW y_Po_init b_Po_init 1 none 0 := ⟨tb_in 53 rfl rfl, (tb_in 30 (by decide +kernel) rfl), ⟨by decide +kernel, by decide +kernel, by decide +kernel⟩, (Nat.le_of_ble_eq_true rfl)⟩
theorem ci_La_9 : CI "SendPolicyLaw" 9 y_Po_init b_Po_init 1 0 := ⟨mw_Po_init, (tb_in 51 (by decide +kernel) rfl), (tb_in 52 (by decide +kernel) rfl), rfl⟩
theorem kl_La_10 : Cond.classLink "SendPolicyLaw" 10 "SendPolicyModel" ∈ TB := (tb_in 669 (by decide +kernel) rfl)
theorem nw_La_10 : NewW "SendPolicyLaw" 10 cMo 22 t_Mo := ⟨R_Mo, F_Mo, rfl, ft_Mo, fws_Mo, kl_La_10, (tb_in 670 (by decide +kernel) rfl), (tb_in 39 (by decide +kernel) rfl)⟩
set_option maxRecDepth 100000 in
theorem mw_Mo_init : MW y_Mo_init b_Mo_init 2 none 0 := ⟨tb_in 673 rfl rfl, (tb_in 39 (by decide +kernel) rfl), ⟨by decide +kernel, by decide +kernel, by decide +kernel⟩, (Nat.le_of_ble_eq_true rfl)⟩
theorem ci_La_12 : CI "SendPolicyLaw" 12 y_Mo_init b_Mo_init 2 0 := ⟨mw_Mo_init, (tb_in 671 (by decide +kernel) rfl), (tb_in 672 (by decide +kernel) rfl), rfl⟩
set_option maxRecDepth 100000 in
theorem mw_Po_feed : MW y_Po_feed b_Po_feed 6 (some .int) 5 := ⟨tb_in 231 rfl rfl, (tb_in 30 (by decide +kernel) rfl), ⟨by decide +kernel, by decide +kernel, by decide +kernel⟩, (Nat.le_of_ble_eq_true rfl)⟩
theorem cv_La_13 : CV "SendPolicyLaw" 13 y_Po_feed b_Po_feed 6 (some .int) 5 cPo := ⟨mw_Po_feed, (tb_in 228 (by decide +kernel) rfl), (tb_in 229 (by decide +kernel) rfl), (tb_in 230 (by decide +kernel) rfl), _, rfl, rfl⟩
set_option maxRecDepth 100000 in
theorem mw_Mo_feed : MW y_Mo_feed b_Mo_feed 8 (some .int) 5 := ⟨tb_in 761 rfl rfl, (tb_in 39 (by decide +kernel) rfl), ⟨by decide +kernel, by decide +kernel, by decide +kernel⟩, (Nat.le_of_ble_eq_true rfl)⟩
theorem cv_La_17 : CV "SendPolicyLaw" 17 y_Mo_feed b_Mo_feed 8 (some .int) 5 cMo := ⟨mw_Mo_feed, (tb_in 758 (by decide +kernel) rfl), (tb_in 759 (by decide +kernel) rfl), (tb_in 760 (by decide +kernel) rfl), _, rfl, rfl⟩
set_option maxRecDepth 100000 in
theorem mw_Po_end : MW y_Po_end b_Po_end 2 (some .int) 1 := ⟨tb_in 261 rfl rfl, (tb_in 30 (by decide +kernel) rfl), ⟨by decide +kernel, by decide +kernel, by decide +kernel⟩, (Nat.le_of_ble_eq_true rfl)⟩
theorem cv_La_18 : CV "SendPolicyLaw" 18 y_Po_end b_Po_end 2 (some .int) 1 cPo := ⟨mw_Po_end, (tb_in 258 (by decide +kernel) rfl), (tb_in 259 (by decide +kernel) rfl), (tb_in 260 (by decide +kernel) rfl), _, rfl, rfl⟩
set_option maxRecDepth 100000 in
theorem mw_Mo_end : MW y_Mo_end b_Mo_end 2 (some .int) 1 := ⟨tb_in 765 rfl rfl, (tb_in 39 (by decide +kernel) rfl), ⟨by decide +kernel, by decide +kernel, by decide +kernel⟩, (Nat.le_of_ble_eq_true rfl)⟩
theorem cv_La_22 : CV "SendPolicyLaw" 22 y_Mo_end b_Mo_end 2 (some .int) 1 cMo := ⟨mw_Mo_end, (tb_in 762 (by decide +kernel) rfl), (tb_in 763 (by decide +kernel) rfl), (tb_in 764 (by decide +kernel) rfl), _, rfl, rfl⟩
set_option maxRecDepth 100000 in
theorem mw_Po_entry : MW y_Po_entry b_Po_entry 5 (some .int) 2 := ⟨tb_in 269 rfl rfl, (tb_in 30 (by decide +kernel) rfl), ⟨by decide +kernel, by decide +kernel, by decide +kernel⟩, (Nat.le_of_ble_eq_true rfl)⟩
theorem cv_La_23 : CV "SendPolicyLaw" 23 y_Po_entry b_Po_entry 5 (some .int) 2 cPo := ⟨mw_Po_entry, (tb_in 266 (by decide +kernel) rfl), (tb_in 267 (by decide +kernel) rfl), (tb_in 268 (by decide +kernel) rfl), _, rfl, rfl⟩
set_option maxRecDepth 100000 in
theorem mw_Mo_entry : MW y_Mo_entry b_Mo_entry 7 (some .int) 2 := ⟨tb_in 772 rfl rfl, (tb_in 39 (by decide +kernel) rfl), ⟨by decide +kernel, by decide +kernel, by decide +kernel⟩, (Nat.le_of_ble_eq_true rfl)⟩
theorem cv_La_27 : CV "SendPolicyLaw" 27 y_Mo_entry b_Mo_entry 7 (some .int) 2 cMo := ⟨mw_Mo_entry, (tb_in 769 (by decide +kernel) rfl), (tb_in 770 (by decide +kernel) rfl), (tb_in 771 (by decide +kernel) rfl), _, rfl, rfl⟩
set_option maxRecDepth 100000 in
theorem mw_Po_forget : MW y_Po_forget b_Po_forget 2 (some .int) 0 := ⟨tb_in 336 rfl rfl, (tb_in 30 (by decide +kernel) rfl), ⟨by decide +kernel, by decide +kernel, by decide +kernel⟩, (Nat.le_of_ble_eq_true rfl)⟩
theorem cv_La_28 : CV "SendPolicyLaw" 28 y_Po_forget b_Po_forget 2 (some .int) 0 cPo := ⟨mw_Po_forget, (tb_in 333 (by decide +kernel) rfl), (tb_in 334 (by decide +kernel) rfl), (tb_in 335 (by decide +kernel) rfl), _, rfl, rfl⟩
set_option maxRecDepth 100000 in
theorem mw_Mo_forget : MW y_Mo_forget b_Mo_forget 2 (some .int) 0 := ⟨tb_in 801 rfl rfl, (tb_in 39 (by decide +kernel) rfl), ⟨by decide +kernel, by decide +kernel, by decide +kernel⟩, (Nat.le_of_ble_eq_true rfl)⟩
theorem cv_La_32 : CV "SendPolicyLaw" 32 y_Mo_forget b_Mo_forget 2 (some .int) 0 cMo := ⟨mw_Mo_forget, (tb_in 798 (by decide +kernel) rfl), (tb_in 799 (by decide +kernel) rfl), (tb_in 800 (by decide +kernel) rfl), _, rfl, rfl⟩
set_option maxRecDepth 100000 in
theorem mw_Po_sender : MW y_Po_sender b_Po_sender 3 (some .int) 1 := ⟨tb_in 344 rfl rfl, (tb_in 30 (by decide +kernel) rfl), ⟨by decide +kernel, by decide +kernel, by decide +kernel⟩, (Nat.le_of_ble_eq_true rfl)⟩
theorem cv_La_33 : CV "SendPolicyLaw" 33 y_Po_sender b_Po_sender 3 (some .int) 1 cPo := ⟨mw_Po_sender, (tb_in 341 (by decide +kernel) rfl), (tb_in 342 (by decide +kernel) rfl), (tb_in 343 (by decide +kernel) rfl), _, rfl, rfl⟩
set_option maxRecDepth 100000 in
theorem mw_Mo_sender : MW y_Mo_sender b_Mo_sender 6 (some .int) 1 := ⟨tb_in 805 rfl rfl, (tb_in 39 (by decide +kernel) rfl), ⟨by decide +kernel, by decide +kernel, by decide +kernel⟩, (Nat.le_of_ble_eq_true rfl)⟩
theorem cv_La_36 : CV "SendPolicyLaw" 36 y_Mo_sender b_Mo_sender 6 (some .int) 1 cMo := ⟨mw_Mo_sender, (tb_in 802 (by decide +kernel) rfl), (tb_in 803 (by decide +kernel) rfl), (tb_in 804 (by decide +kernel) rfl), _, rfl, rfl⟩
set_option maxRecDepth 100000 in
theorem mw_Po_permission : MW y_Po_permission b_Po_permission 1 (some .int) 0 := ⟨tb_in 372 rfl rfl, (tb_in 30 (by decide +kernel) rfl), ⟨by decide +kernel, by decide +kernel, by decide +kernel⟩, (Nat.le_of_ble_eq_true rfl)⟩
theorem cv_La_37 : CV "SendPolicyLaw" 37 y_Po_permission b_Po_permission 1 (some .int) 0 cPo := ⟨mw_Po_permission, (tb_in 369 (by decide +kernel) rfl), (tb_in 370 (by decide +kernel) rfl), (tb_in 371 (by decide +kernel) rfl), _, rfl, rfl⟩
set_option maxRecDepth 100000 in
theorem mw_Mo_permission : MW y_Mo_permission b_Mo_permission 1 (some .int) 0 := ⟨tb_in 812 rfl rfl, (tb_in 39 (by decide +kernel) rfl), ⟨by decide +kernel, by decide +kernel, by decide +kernel⟩, (Nat.le_of_ble_eq_true rfl)⟩
theorem cv_La_40 : CV "SendPolicyLaw" 40 y_Mo_permission b_Mo_permission 1 (some .int) 0 cMo := ⟨mw_Mo_permission, (tb_in 809 (by decide +kernel) rfl), (tb_in 810 (by decide +kernel) rfl), (tb_in 811 (by decide +kernel) rfl), _, rfl, rfl⟩
set_option maxRecDepth 100000 in
theorem mw_Po_cost : MW y_Po_cost b_Po_cost 2 (some .int) 1 := ⟨tb_in 648 rfl rfl, (tb_in 30 (by decide +kernel) rfl), ⟨by decide +kernel, by decide +kernel, by decide +kernel⟩, (Nat.le_of_ble_eq_true rfl)⟩
theorem cv_La_41 : CV "SendPolicyLaw" 41 y_Po_cost b_Po_cost 2 (some .int) 1 cPo := ⟨mw_Po_cost, (tb_in 645 (by decide +kernel) rfl), (tb_in 646 (by decide +kernel) rfl), (tb_in 647 (by decide +kernel) rfl), _, rfl, rfl⟩
set_option maxRecDepth 100000 in
theorem mw_Mo_cost : MW y_Mo_cost b_Mo_cost 2 (some .int) 1 := ⟨tb_in 922 rfl rfl, (tb_in 39 (by decide +kernel) rfl), ⟨by decide +kernel, by decide +kernel, by decide +kernel⟩, (Nat.le_of_ble_eq_true rfl)⟩
theorem cv_La_44 : CV "SendPolicyLaw" 44 y_Mo_cost b_Mo_cost 2 (some .int) 1 cMo := ⟨mw_Mo_cost, (tb_in 919 (by decide +kernel) rfl), (tb_in 920 (by decide +kernel) rfl), (tb_in 921 (by decide +kernel) rfl), _, rfl, rfl⟩
set_option maxRecDepth 100000 in
theorem mw_Po_expand : MW y_Po_expand b_Po_expand 2 (some .int) 0 := ⟨tb_in 660 rfl rfl, (tb_in 30 (by decide +kernel) rfl), ⟨by decide +kernel, by decide +kernel, by decide +kernel⟩, (Nat.le_of_ble_eq_true rfl)⟩
theorem cv_La_45 : CV "SendPolicyLaw" 45 y_Po_expand b_Po_expand 2 (some .int) 0 cPo := ⟨mw_Po_expand, (tb_in 657 (by decide +kernel) rfl), (tb_in 658 (by decide +kernel) rfl), (tb_in 659 (by decide +kernel) rfl), _, rfl, rfl⟩
set_option maxRecDepth 100000 in
theorem mw_Mo_expand1 : MW y_Mo_expand1 b_Mo_expand1 2 (some .int) 0 := ⟨tb_in 926 rfl rfl, (tb_in 39 (by decide +kernel) rfl), ⟨by decide +kernel, by decide +kernel, by decide +kernel⟩, (Nat.le_of_ble_eq_true rfl)⟩
theorem cv_La_48 : CV "SendPolicyLaw" 48 y_Mo_expand1 b_Mo_expand1 2 (some .int) 0 cMo := ⟨mw_Mo_expand1, (tb_in 923 (by decide +kernel) rfl), (tb_in 924 (by decide +kernel) rfl), (tb_in 925 (by decide +kernel) rfl), _, rfl, rfl⟩
set_option maxRecDepth 100000 in
theorem mw_Po_octet : MW y_Po_octet b_Po_octet 2 (some .int) 1 := ⟨tb_in 667 rfl rfl, (tb_in 30 (by decide +kernel) rfl), ⟨by decide +kernel, by decide +kernel, by decide +kernel⟩, (Nat.le_of_ble_eq_true rfl)⟩
theorem cv_La_49 : CV "SendPolicyLaw" 49 y_Po_octet b_Po_octet 2 (some .int) 1 cPo := ⟨mw_Po_octet, (tb_in 664 (by decide +kernel) rfl), (tb_in 665 (by decide +kernel) rfl), (tb_in 666 (by decide +kernel) rfl), _, rfl, rfl⟩
set_option maxRecDepth 100000 in
theorem mw_Mo_octet : MW y_Mo_octet b_Mo_octet 2 (some .int) 1 := ⟨tb_in 930 rfl rfl, (tb_in 39 (by decide +kernel) rfl), ⟨by decide +kernel, by decide +kernel, by decide +kernel⟩, (Nat.le_of_ble_eq_true rfl)⟩
theorem cv_La_52 : CV "SendPolicyLaw" 52 y_Mo_octet b_Mo_octet 2 (some .int) 1 cMo := ⟨mw_Mo_octet, (tb_in 927 (by decide +kernel) rfl), (tb_in 928 (by decide +kernel) rfl), (tb_in 929 (by decide +kernel) rfl), _, rfl, rfl⟩
/-! DECODE ROWS: printed by wip/gen/names.py -/
theorem d_La_law_0 : decode b_La_law 0 = .ok (.new 7, 3) := by decide +kernel
theorem d_La_law_3 : decode b_La_law 3 = .ok (.dup, 1) := by decide +kernel
theorem d_La_law_4 : decode b_La_law 4 = .ok (.invokespecial 9, 3) := by decide +kernel
theorem d_La_law_7 : decode b_La_law 7 = .ok (.astore_n 1, 1) := by decide +kernel
theorem d_La_law_8 : decode b_La_law 8 = .ok (.new 10, 3) := by decide +kernel
theorem d_La_law_11 : decode b_La_law 11 = .ok (.dup, 1) := by decide +kernel
theorem d_La_law_12 : decode b_La_law 12 = .ok (.invokespecial 12, 3) := by decide +kernel
theorem d_La_law_15 : decode b_La_law 15 = .ok (.astore_n 2, 1) := by decide +kernel
theorem d_La_law_16 : decode b_La_law 16 = .ok (.iconst 0, 1) := by decide +kernel
theorem d_La_law_17 : decode b_La_law 17 = .ok (.istore_n 3, 1) := by decide +kernel
theorem d_La_law_18 : decode b_La_law 18 = .ok (.iload_n 3, 1) := by decide +kernel
theorem d_La_law_19 : decode b_La_law 19 = .ok (.aload_n 0, 1) := by decide +kernel
theorem d_La_law_20 : decode b_La_law 20 = .ok (.arraylength, 1) := by decide +kernel
theorem d_La_law_21 : decode b_La_law 21 = .ok (.bipush 6, 2) := by decide +kernel
theorem d_La_law_23 : decode b_La_law 23 = .ok (.isub, 1) := by decide +kernel
theorem d_La_law_24 : decode b_La_law 24 = .ok (.if_icmp .gt 293, 3) := by decide +kernel
theorem d_La_law_27 : decode b_La_law 27 = .ok (.aload_n 0, 1) := by decide +kernel
theorem d_La_law_28 : decode b_La_law 28 = .ok (.iload_n 3, 1) := by decide +kernel
theorem d_La_law_29 : decode b_La_law 29 = .ok (.iaload, 1) := by decide +kernel
theorem d_La_law_30 : decode b_La_law 30 = .ok (.bipush 15, 2) := by decide +kernel
theorem d_La_law_32 : decode b_La_law 32 = .ok (.iand, 1) := by decide +kernel
theorem d_La_law_33 : decode b_La_law 33 = .ok (.tableswitch 278 0 8 #[51, 114, 137, 170, 183, 206, 219, 242, 255], 51) := by decide +kernel
theorem d_La_law_84 : decode b_La_law 84 = .ok (.aload_n 1, 1) := by decide +kernel
theorem d_La_law_85 : decode b_La_law 85 = .ok (.aload_n 0, 1) := by decide +kernel
theorem d_La_law_86 : decode b_La_law 86 = .ok (.iload_n 3, 1) := by decide +kernel
theorem d_La_law_87 : decode b_La_law 87 = .ok (.iconst 1, 1) := by decide +kernel
theorem d_La_law_88 : decode b_La_law 88 = .ok (.iadd, 1) := by decide +kernel
theorem d_La_law_89 : decode b_La_law 89 = .ok (.iaload, 1) := by decide +kernel
theorem d_La_law_90 : decode b_La_law 90 = .ok (.aload_n 0, 1) := by decide +kernel
theorem d_La_law_91 : decode b_La_law 91 = .ok (.iload_n 3, 1) := by decide +kernel
theorem d_La_law_92 : decode b_La_law 92 = .ok (.iconst 2, 1) := by decide +kernel
theorem d_La_law_93 : decode b_La_law 93 = .ok (.iadd, 1) := by decide +kernel
theorem d_La_law_94 : decode b_La_law 94 = .ok (.iaload, 1) := by decide +kernel
theorem d_La_law_95 : decode b_La_law 95 = .ok (.aload_n 0, 1) := by decide +kernel
theorem d_La_law_96 : decode b_La_law 96 = .ok (.iload_n 3, 1) := by decide +kernel
theorem d_La_law_97 : decode b_La_law 97 = .ok (.iconst 3, 1) := by decide +kernel
theorem d_La_law_98 : decode b_La_law 98 = .ok (.iadd, 1) := by decide +kernel
theorem d_La_law_99 : decode b_La_law 99 = .ok (.iaload, 1) := by decide +kernel
theorem d_La_law_100 : decode b_La_law 100 = .ok (.aload_n 0, 1) := by decide +kernel
theorem d_La_law_101 : decode b_La_law 101 = .ok (.iload_n 3, 1) := by decide +kernel
theorem d_La_law_102 : decode b_La_law 102 = .ok (.iconst 4, 1) := by decide +kernel
theorem d_La_law_103 : decode b_La_law 103 = .ok (.iadd, 1) := by decide +kernel
theorem d_La_law_104 : decode b_La_law 104 = .ok (.iaload, 1) := by decide +kernel
theorem d_La_law_105 : decode b_La_law 105 = .ok (.aload_n 0, 1) := by decide +kernel
theorem d_La_law_106 : decode b_La_law 106 = .ok (.iload_n 3, 1) := by decide +kernel
theorem d_La_law_107 : decode b_La_law 107 = .ok (.iconst 5, 1) := by decide +kernel
theorem d_La_law_108 : decode b_La_law 108 = .ok (.iadd, 1) := by decide +kernel
theorem d_La_law_109 : decode b_La_law 109 = .ok (.iaload, 1) := by decide +kernel
theorem d_La_law_110 : decode b_La_law 110 = .ok (.invokevirtual 13, 3) := by decide +kernel
theorem d_La_law_113 : decode b_La_law 113 = .ok (.aload_n 2, 1) := by decide +kernel
theorem d_La_law_114 : decode b_La_law 114 = .ok (.aload_n 0, 1) := by decide +kernel
theorem d_La_law_115 : decode b_La_law 115 = .ok (.iload_n 3, 1) := by decide +kernel
theorem d_La_law_116 : decode b_La_law 116 = .ok (.iconst 1, 1) := by decide +kernel
theorem d_La_law_117 : decode b_La_law 117 = .ok (.iadd, 1) := by decide +kernel
theorem d_La_law_118 : decode b_La_law 118 = .ok (.iaload, 1) := by decide +kernel
theorem d_La_law_119 : decode b_La_law 119 = .ok (.aload_n 0, 1) := by decide +kernel
theorem d_La_law_120 : decode b_La_law 120 = .ok (.iload_n 3, 1) := by decide +kernel
theorem d_La_law_121 : decode b_La_law 121 = .ok (.iconst 2, 1) := by decide +kernel
theorem d_La_law_122 : decode b_La_law 122 = .ok (.iadd, 1) := by decide +kernel
theorem d_La_law_123 : decode b_La_law 123 = .ok (.iaload, 1) := by decide +kernel
theorem d_La_law_124 : decode b_La_law 124 = .ok (.aload_n 0, 1) := by decide +kernel
theorem d_La_law_125 : decode b_La_law 125 = .ok (.iload_n 3, 1) := by decide +kernel
theorem d_La_law_126 : decode b_La_law 126 = .ok (.iconst 3, 1) := by decide +kernel
theorem d_La_law_127 : decode b_La_law 127 = .ok (.iadd, 1) := by decide +kernel
theorem d_La_law_128 : decode b_La_law 128 = .ok (.iaload, 1) := by decide +kernel
theorem d_La_law_129 : decode b_La_law 129 = .ok (.aload_n 0, 1) := by decide +kernel
theorem d_La_law_130 : decode b_La_law 130 = .ok (.iload_n 3, 1) := by decide +kernel
theorem d_La_law_131 : decode b_La_law 131 = .ok (.iconst 4, 1) := by decide +kernel
theorem d_La_law_132 : decode b_La_law 132 = .ok (.iadd, 1) := by decide +kernel
theorem d_La_law_133 : decode b_La_law 133 = .ok (.iaload, 1) := by decide +kernel
theorem d_La_law_134 : decode b_La_law 134 = .ok (.aload_n 0, 1) := by decide +kernel
theorem d_La_law_135 : decode b_La_law 135 = .ok (.iload_n 3, 1) := by decide +kernel
theorem d_La_law_136 : decode b_La_law 136 = .ok (.iconst 5, 1) := by decide +kernel
theorem d_La_law_137 : decode b_La_law 137 = .ok (.iadd, 1) := by decide +kernel
theorem d_La_law_138 : decode b_La_law 138 = .ok (.iaload, 1) := by decide +kernel
theorem d_La_law_139 : decode b_La_law 139 = .ok (.invokevirtual 17, 3) := by decide +kernel
theorem d_La_law_142 : decode b_La_law 142 = .ok (.if_icmp .eq 169, 3) := by decide +kernel
theorem d_La_law_145 : decode b_La_law 145 = .ok (.iconst 0, 1) := by decide +kernel
theorem d_La_law_146 : decode b_La_law 146 = .ok (.ireturn, 1) := by decide +kernel
theorem d_La_law_147 : decode b_La_law 147 = .ok (.aload_n 1, 1) := by decide +kernel
theorem d_La_law_148 : decode b_La_law 148 = .ok (.aload_n 0, 1) := by decide +kernel
theorem d_La_law_149 : decode b_La_law 149 = .ok (.iload_n 3, 1) := by decide +kernel
theorem d_La_law_150 : decode b_La_law 150 = .ok (.iconst 1, 1) := by decide +kernel
theorem d_La_law_151 : decode b_La_law 151 = .ok (.iadd, 1) := by decide +kernel
theorem d_La_law_152 : decode b_La_law 152 = .ok (.iaload, 1) := by decide +kernel
theorem d_La_law_153 : decode b_La_law 153 = .ok (.invokevirtual 18, 3) := by decide +kernel
theorem d_La_law_156 : decode b_La_law 156 = .ok (.aload_n 2, 1) := by decide +kernel
theorem d_La_law_157 : decode b_La_law 157 = .ok (.aload_n 0, 1) := by decide +kernel
theorem d_La_law_158 : decode b_La_law 158 = .ok (.iload_n 3, 1) := by decide +kernel
theorem d_La_law_159 : decode b_La_law 159 = .ok (.iconst 1, 1) := by decide +kernel
theorem d_La_law_160 : decode b_La_law 160 = .ok (.iadd, 1) := by decide +kernel
theorem d_La_law_161 : decode b_La_law 161 = .ok (.iaload, 1) := by decide +kernel
theorem d_La_law_162 : decode b_La_law 162 = .ok (.invokevirtual 22, 3) := by decide +kernel
theorem d_La_law_165 : decode b_La_law 165 = .ok (.if_icmp .eq 146, 3) := by decide +kernel
theorem d_La_law_168 : decode b_La_law 168 = .ok (.iconst 0, 1) := by decide +kernel
theorem d_La_law_169 : decode b_La_law 169 = .ok (.ireturn, 1) := by decide +kernel
theorem d_La_law_170 : decode b_La_law 170 = .ok (.aload_n 1, 1) := by decide +kernel
theorem d_La_law_171 : decode b_La_law 171 = .ok (.aload_n 0, 1) := by decide +kernel
theorem d_La_law_172 : decode b_La_law 172 = .ok (.iload_n 3, 1) := by decide +kernel
theorem d_La_law_173 : decode b_La_law 173 = .ok (.iconst 1, 1) := by decide +kernel
theorem d_La_law_174 : decode b_La_law 174 = .ok (.iadd, 1) := by decide +kernel
theorem d_La_law_175 : decode b_La_law 175 = .ok (.iaload, 1) := by decide +kernel
theorem d_La_law_176 : decode b_La_law 176 = .ok (.aload_n 0, 1) := by decide +kernel
theorem d_La_law_177 : decode b_La_law 177 = .ok (.iload_n 3, 1) := by decide +kernel
theorem d_La_law_178 : decode b_La_law 178 = .ok (.iconst 2, 1) := by decide +kernel
theorem d_La_law_179 : decode b_La_law 179 = .ok (.iadd, 1) := by decide +kernel
theorem d_La_law_180 : decode b_La_law 180 = .ok (.iaload, 1) := by decide +kernel
theorem d_La_law_181 : decode b_La_law 181 = .ok (.invokevirtual 23, 3) := by decide +kernel
theorem d_La_law_184 : decode b_La_law 184 = .ok (.aload_n 2, 1) := by decide +kernel
theorem d_La_law_185 : decode b_La_law 185 = .ok (.aload_n 0, 1) := by decide +kernel
theorem d_La_law_186 : decode b_La_law 186 = .ok (.iload_n 3, 1) := by decide +kernel
theorem d_La_law_187 : decode b_La_law 187 = .ok (.iconst 1, 1) := by decide +kernel
theorem d_La_law_188 : decode b_La_law 188 = .ok (.iadd, 1) := by decide +kernel
theorem d_La_law_189 : decode b_La_law 189 = .ok (.iaload, 1) := by decide +kernel
theorem d_La_law_190 : decode b_La_law 190 = .ok (.aload_n 0, 1) := by decide +kernel
theorem d_La_law_191 : decode b_La_law 191 = .ok (.iload_n 3, 1) := by decide +kernel
theorem d_La_law_192 : decode b_La_law 192 = .ok (.iconst 2, 1) := by decide +kernel
theorem d_La_law_193 : decode b_La_law 193 = .ok (.iadd, 1) := by decide +kernel
theorem d_La_law_194 : decode b_La_law 194 = .ok (.iaload, 1) := by decide +kernel
theorem d_La_law_195 : decode b_La_law 195 = .ok (.invokevirtual 27, 3) := by decide +kernel
theorem d_La_law_198 : decode b_La_law 198 = .ok (.if_icmp .eq 113, 3) := by decide +kernel
theorem d_La_law_201 : decode b_La_law 201 = .ok (.iconst 0, 1) := by decide +kernel
theorem d_La_law_202 : decode b_La_law 202 = .ok (.ireturn, 1) := by decide +kernel
theorem d_La_law_203 : decode b_La_law 203 = .ok (.aload_n 1, 1) := by decide +kernel
theorem d_La_law_204 : decode b_La_law 204 = .ok (.invokevirtual 28, 3) := by decide +kernel
theorem d_La_law_207 : decode b_La_law 207 = .ok (.aload_n 2, 1) := by decide +kernel
theorem d_La_law_208 : decode b_La_law 208 = .ok (.invokevirtual 32, 3) := by decide +kernel
theorem d_La_law_211 : decode b_La_law 211 = .ok (.if_icmp .eq 100, 3) := by decide +kernel
theorem d_La_law_214 : decode b_La_law 214 = .ok (.iconst 0, 1) := by decide +kernel
theorem d_La_law_215 : decode b_La_law 215 = .ok (.ireturn, 1) := by decide +kernel
theorem d_La_law_216 : decode b_La_law 216 = .ok (.aload_n 1, 1) := by decide +kernel
theorem d_La_law_217 : decode b_La_law 217 = .ok (.aload_n 0, 1) := by decide +kernel
theorem d_La_law_218 : decode b_La_law 218 = .ok (.iload_n 3, 1) := by decide +kernel
theorem d_La_law_219 : decode b_La_law 219 = .ok (.iconst 1, 1) := by decide +kernel
theorem d_La_law_220 : decode b_La_law 220 = .ok (.iadd, 1) := by decide +kernel
theorem d_La_law_221 : decode b_La_law 221 = .ok (.iaload, 1) := by decide +kernel
theorem d_La_law_222 : decode b_La_law 222 = .ok (.invokevirtual 33, 3) := by decide +kernel
theorem d_La_law_225 : decode b_La_law 225 = .ok (.aload_n 2, 1) := by decide +kernel
theorem d_La_law_226 : decode b_La_law 226 = .ok (.aload_n 0, 1) := by decide +kernel
theorem d_La_law_227 : decode b_La_law 227 = .ok (.iload_n 3, 1) := by decide +kernel
theorem d_La_law_228 : decode b_La_law 228 = .ok (.iconst 1, 1) := by decide +kernel
theorem d_La_law_229 : decode b_La_law 229 = .ok (.iadd, 1) := by decide +kernel
theorem d_La_law_230 : decode b_La_law 230 = .ok (.iaload, 1) := by decide +kernel
theorem d_La_law_231 : decode b_La_law 231 = .ok (.invokevirtual 36, 3) := by decide +kernel
theorem d_La_law_234 : decode b_La_law 234 = .ok (.if_icmp .eq 77, 3) := by decide +kernel
theorem d_La_law_237 : decode b_La_law 237 = .ok (.iconst 0, 1) := by decide +kernel
theorem d_La_law_238 : decode b_La_law 238 = .ok (.ireturn, 1) := by decide +kernel
theorem d_La_law_239 : decode b_La_law 239 = .ok (.aload_n 1, 1) := by decide +kernel
theorem d_La_law_240 : decode b_La_law 240 = .ok (.invokevirtual 37, 3) := by decide +kernel
theorem d_La_law_243 : decode b_La_law 243 = .ok (.aload_n 2, 1) := by decide +kernel
theorem d_La_law_244 : decode b_La_law 244 = .ok (.invokevirtual 40, 3) := by decide +kernel
theorem d_La_law_247 : decode b_La_law 247 = .ok (.if_icmp .eq 64, 3) := by decide +kernel
theorem d_La_law_250 : decode b_La_law 250 = .ok (.iconst 0, 1) := by decide +kernel
theorem d_La_law_251 : decode b_La_law 251 = .ok (.ireturn, 1) := by decide +kernel
theorem d_La_law_252 : decode b_La_law 252 = .ok (.aload_n 1, 1) := by decide +kernel
theorem d_La_law_253 : decode b_La_law 253 = .ok (.aload_n 0, 1) := by decide +kernel
theorem d_La_law_254 : decode b_La_law 254 = .ok (.iload_n 3, 1) := by decide +kernel
theorem d_La_law_255 : decode b_La_law 255 = .ok (.iconst 1, 1) := by decide +kernel
theorem d_La_law_256 : decode b_La_law 256 = .ok (.iadd, 1) := by decide +kernel
theorem d_La_law_257 : decode b_La_law 257 = .ok (.iaload, 1) := by decide +kernel
theorem d_La_law_258 : decode b_La_law 258 = .ok (.invokevirtual 41, 3) := by decide +kernel
theorem d_La_law_261 : decode b_La_law 261 = .ok (.aload_n 2, 1) := by decide +kernel
theorem d_La_law_262 : decode b_La_law 262 = .ok (.aload_n 0, 1) := by decide +kernel
theorem d_La_law_263 : decode b_La_law 263 = .ok (.iload_n 3, 1) := by decide +kernel
theorem d_La_law_264 : decode b_La_law 264 = .ok (.iconst 1, 1) := by decide +kernel
theorem d_La_law_265 : decode b_La_law 265 = .ok (.iadd, 1) := by decide +kernel
theorem d_La_law_266 : decode b_La_law 266 = .ok (.iaload, 1) := by decide +kernel
theorem d_La_law_267 : decode b_La_law 267 = .ok (.invokevirtual 44, 3) := by decide +kernel
theorem d_La_law_270 : decode b_La_law 270 = .ok (.if_icmp .eq 41, 3) := by decide +kernel
theorem d_La_law_273 : decode b_La_law 273 = .ok (.iconst 0, 1) := by decide +kernel
theorem d_La_law_274 : decode b_La_law 274 = .ok (.ireturn, 1) := by decide +kernel
theorem d_La_law_275 : decode b_La_law 275 = .ok (.aload_n 1, 1) := by decide +kernel
theorem d_La_law_276 : decode b_La_law 276 = .ok (.invokevirtual 45, 3) := by decide +kernel
theorem d_La_law_279 : decode b_La_law 279 = .ok (.aload_n 2, 1) := by decide +kernel
theorem d_La_law_280 : decode b_La_law 280 = .ok (.invokevirtual 48, 3) := by decide +kernel
theorem d_La_law_283 : decode b_La_law 283 = .ok (.if_icmp .eq 28, 3) := by decide +kernel
theorem d_La_law_286 : decode b_La_law 286 = .ok (.iconst 0, 1) := by decide +kernel
theorem d_La_law_287 : decode b_La_law 287 = .ok (.ireturn, 1) := by decide +kernel
theorem d_La_law_288 : decode b_La_law 288 = .ok (.aload_n 1, 1) := by decide +kernel
theorem d_La_law_289 : decode b_La_law 289 = .ok (.aload_n 0, 1) := by decide +kernel
theorem d_La_law_290 : decode b_La_law 290 = .ok (.iload_n 3, 1) := by decide +kernel
theorem d_La_law_291 : decode b_La_law 291 = .ok (.iconst 1, 1) := by decide +kernel
theorem d_La_law_292 : decode b_La_law 292 = .ok (.iadd, 1) := by decide +kernel
theorem d_La_law_293 : decode b_La_law 293 = .ok (.iaload, 1) := by decide +kernel
theorem d_La_law_294 : decode b_La_law 294 = .ok (.invokevirtual 49, 3) := by decide +kernel
theorem d_La_law_297 : decode b_La_law 297 = .ok (.aload_n 2, 1) := by decide +kernel
theorem d_La_law_298 : decode b_La_law 298 = .ok (.aload_n 0, 1) := by decide +kernel
theorem d_La_law_299 : decode b_La_law 299 = .ok (.iload_n 3, 1) := by decide +kernel
theorem d_La_law_300 : decode b_La_law 300 = .ok (.iconst 1, 1) := by decide +kernel
theorem d_La_law_301 : decode b_La_law 301 = .ok (.iadd, 1) := by decide +kernel
theorem d_La_law_302 : decode b_La_law 302 = .ok (.iaload, 1) := by decide +kernel
theorem d_La_law_303 : decode b_La_law 303 = .ok (.invokevirtual 52, 3) := by decide +kernel
theorem d_La_law_306 : decode b_La_law 306 = .ok (.if_icmp .eq 5, 3) := by decide +kernel
theorem d_La_law_309 : decode b_La_law 309 = .ok (.iconst 0, 1) := by decide +kernel
theorem d_La_law_310 : decode b_La_law 310 = .ok (.ireturn, 1) := by decide +kernel
theorem d_La_law_311 : decode b_La_law 311 = .ok (.iinc 3 6, 3) := by decide +kernel
theorem d_La_law_314 : decode b_La_law 314 = .ok (.goto (-296), 3) := by decide +kernel
theorem d_La_law_317 : decode b_La_law 317 = .ok (.iconst 1, 1) := by decide +kernel
theorem d_La_law_318 : decode b_La_law 318 = .ok (.ireturn, 1) := by decide +kernel
