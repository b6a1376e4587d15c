/-! DECODE ROWS: printed by wip/gen/names.py -/
theorem d_Arr_copyOf_0 : decode b_Arr_copyOf 0 = .ok (.iload_n 1, 1) := by decide +kernel
theorem d_Arr_copyOf_1 : decode b_Arr_copyOf 1 = .ok (.aload_n 0, 1) := by decide +kernel
theorem d_Arr_copyOf_2 : decode b_Arr_copyOf 2 = .ok (.arraylength, 1) := by decide +kernel
theorem d_Arr_copyOf_3 : decode b_Arr_copyOf 3 = .ok (.if_icmp .ne 11, 3) := by decide +kernel
theorem d_Arr_copyOf_6 : decode b_Arr_copyOf 6 = .ok (.aload_n 0, 1) := by decide +kernel
theorem d_Arr_copyOf_7 : decode b_Arr_copyOf 7 = .ok (.invokevirtual 310, 3) := by decide +kernel
theorem d_Arr_copyOf_10 : decode b_Arr_copyOf 10 = .ok (.checkcast 311, 3) := by decide +kernel
theorem d_Arr_copyOf_13 : decode b_Arr_copyOf 13 = .ok (.areturn, 1) := by decide +kernel
theorem d_Arr_copyOf_14 : decode b_Arr_copyOf 14 = .ok (.iload_n 1, 1) := by decide +kernel
theorem d_Arr_copyOf_15 : decode b_Arr_copyOf 15 = .ok (.newarray .byte, 2) := by decide +kernel
theorem d_Arr_copyOf_17 : decode b_Arr_copyOf 17 = .ok (.astore_n 2, 1) := by decide +kernel
theorem d_Arr_copyOf_18 : decode b_Arr_copyOf 18 = .ok (.aload_n 0, 1) := by decide +kernel
theorem d_Arr_copyOf_19 : decode b_Arr_copyOf 19 = .ok (.iconst 0, 1) := by decide +kernel
theorem d_Arr_copyOf_20 : decode b_Arr_copyOf 20 = .ok (.aload_n 2, 1) := by decide +kernel
theorem d_Arr_copyOf_21 : decode b_Arr_copyOf 21 = .ok (.iconst 0, 1) := by decide +kernel
theorem d_Arr_copyOf_22 : decode b_Arr_copyOf 22 = .ok (.aload_n 0, 1) := by decide +kernel
theorem d_Arr_copyOf_23 : decode b_Arr_copyOf 23 = .ok (.arraylength, 1) := by decide +kernel
theorem d_Arr_copyOf_24 : decode b_Arr_copyOf 24 = .ok (.iload_n 1, 1) := by decide +kernel
theorem d_Arr_copyOf_25 : decode b_Arr_copyOf 25 = .ok (.invokestatic 304, 3) := by decide +kernel
theorem d_Arr_copyOf_28 : decode b_Arr_copyOf 28 = .ok (.invokestatic 150, 3) := by decide +kernel
theorem d_Arr_copyOf_31 : decode b_Arr_copyOf 31 = .ok (.aload_n 2, 1) := by decide +kernel
theorem d_Arr_copyOf_32 : decode b_Arr_copyOf 32 = .ok (.areturn, 1) := by decide +kernel
theorem d_Str_coder_0 : decode b_Str_coder 0 = .ok (.getstatic 38, 3) := by decide +kernel
theorem d_Str_coder_3 : decode b_Str_coder 3 = .ok (.ifCond .eq 10, 3) := by decide +kernel
theorem d_Str_coder_6 : decode b_Str_coder 6 = .ok (.aload_n 0, 1) := by decide +kernel
theorem d_Str_coder_7 : decode b_Str_coder 7 = .ok (.getfield 15, 3) := by decide +kernel
theorem d_Str_coder_10 : decode b_Str_coder 10 = .ok (.goto 4, 3) := by decide +kernel
theorem d_Str_coder_13 : decode b_Str_coder 13 = .ok (.iconst 1, 1) := by decide +kernel
theorem d_Str_coder_14 : decode b_Str_coder 14 = .ok (.ireturn, 1) := by decide +kernel
theorem d_Str_isLatin1_0 : decode b_Str_isLatin1 0 = .ok (.getstatic 38, 3) := by decide +kernel
theorem d_Str_isLatin1_3 : decode b_Str_isLatin1 3 = .ok (.ifCond .eq 14, 3) := by decide +kernel
theorem d_Str_isLatin1_6 : decode b_Str_isLatin1 6 = .ok (.aload_n 0, 1) := by decide +kernel
theorem d_Str_isLatin1_7 : decode b_Str_isLatin1 7 = .ok (.getfield 15, 3) := by decide +kernel
theorem d_Str_isLatin1_10 : decode b_Str_isLatin1 10 = .ok (.ifCond .ne 7, 3) := by decide +kernel
theorem d_Str_isLatin1_13 : decode b_Str_isLatin1 13 = .ok (.iconst 1, 1) := by decide +kernel
theorem d_Str_isLatin1_14 : decode b_Str_isLatin1 14 = .ok (.goto 4, 3) := by decide +kernel
theorem d_Str_isLatin1_17 : decode b_Str_isLatin1 17 = .ok (.iconst 0, 1) := by decide +kernel
theorem d_Str_isLatin1_18 : decode b_Str_isLatin1 18 = .ok (.ireturn, 1) := by decide +kernel
theorem d_Str_length_0 : decode b_Str_length 0 = .ok (.aload_n 0, 1) := by decide +kernel
theorem d_Str_length_1 : decode b_Str_length 1 = .ok (.getfield 9, 3) := by decide +kernel
theorem d_Str_length_4 : decode b_Str_length 4 = .ok (.arraylength, 1) := by decide +kernel
theorem d_Str_length_5 : decode b_Str_length 5 = .ok (.aload_n 0, 1) := by decide +kernel
theorem d_Str_length_6 : decode b_Str_length 6 = .ok (.invokevirtual 335, 3) := by decide +kernel
theorem d_Str_length_9 : decode b_Str_length 9 = .ok (.ishr, 1) := by decide +kernel
theorem d_Str_length_10 : decode b_Str_length 10 = .ok (.ireturn, 1) := by decide +kernel
theorem d_SL_charAt_0 : decode b_SL_charAt 0 = .ok (.iload_n 1, 1) := by decide +kernel
theorem d_SL_charAt_1 : decode b_SL_charAt 1 = .ok (.aload_n 0, 1) := by decide +kernel
theorem d_SL_charAt_2 : decode b_SL_charAt 2 = .ok (.arraylength, 1) := by decide +kernel
theorem d_SL_charAt_3 : decode b_SL_charAt 3 = .ok (.invokestatic 9, 3) := by decide +kernel
theorem d_SL_charAt_6 : decode b_SL_charAt 6 = .ok (.aload_n 0, 1) := by decide +kernel
theorem d_SL_charAt_7 : decode b_SL_charAt 7 = .ok (.iload_n 1, 1) := by decide +kernel
theorem d_SL_charAt_8 : decode b_SL_charAt 8 = .ok (.baload, 1) := by decide +kernel
theorem d_SL_charAt_9 : decode b_SL_charAt 9 = .ok (.sipush 255, 3) := by decide +kernel
theorem d_SL_charAt_12 : decode b_SL_charAt 12 = .ok (.iand, 1) := by decide +kernel
theorem d_SL_charAt_13 : decode b_SL_charAt 13 = .ok (.i2c, 1) := by decide +kernel
theorem d_SL_charAt_14 : decode b_SL_charAt 14 = .ok (.ireturn, 1) := by decide +kernel
theorem d_Str_charAt_0 : decode b_Str_charAt 0 = .ok (.aload_n 0, 1) := by decide +kernel
theorem d_Str_charAt_1 : decode b_Str_charAt 1 = .ok (.invokevirtual 492, 3) := by decide +kernel
theorem d_Str_charAt_4 : decode b_Str_charAt 4 = .ok (.ifCond .eq 12, 3) := by decide +kernel
theorem d_Str_charAt_7 : decode b_Str_charAt 7 = .ok (.aload_n 0, 1) := by decide +kernel
theorem d_Str_charAt_8 : decode b_Str_charAt 8 = .ok (.getfield 9, 3) := by decide +kernel
theorem d_Str_charAt_11 : decode b_Str_charAt 11 = .ok (.iload_n 1, 1) := by decide +kernel
theorem d_Str_charAt_12 : decode b_Str_charAt 12 = .ok (.invokestatic 495, 3) := by decide +kernel
theorem d_Str_charAt_15 : decode b_Str_charAt 15 = .ok (.ireturn, 1) := by decide +kernel
theorem d_Str_charAt_16 : decode b_Str_charAt 16 = .ok (.aload_n 0, 1) := by decide +kernel
theorem d_Str_charAt_17 : decode b_Str_charAt 17 = .ok (.getfield 9, 3) := by decide +kernel
theorem d_Str_charAt_20 : decode b_Str_charAt 20 = .ok (.iload_n 1, 1) := by decide +kernel
theorem d_Str_charAt_21 : decode b_Str_charAt 21 = .ok (.invokestatic 498, 3) := by decide +kernel
theorem d_Str_charAt_24 : decode b_Str_charAt 24 = .ok (.ireturn, 1) := by decide +kernel
theorem d_Str_checkIndex_0 : decode b_Str_checkIndex 0 = .ok (.iload_n 0, 1) := by decide +kernel
theorem d_Str_checkIndex_1 : decode b_Str_checkIndex 1 = .ok (.iload_n 1, 1) := by decide +kernel
theorem d_Str_checkIndex_2 : decode b_Str_checkIndex 2 = .ok (.getstatic 1053, 3) := by decide +kernel
theorem d_Str_checkIndex_5 : decode b_Str_checkIndex 5 = .ok (.invokestatic 1059, 3) := by decide +kernel
theorem d_Str_checkIndex_8 : decode b_Str_checkIndex 8 = .ok (.pop, 1) := by decide +kernel
theorem d_Str_checkIndex_9 : decode b_Str_checkIndex 9 = .ok (.return_, 1) := by decide +kernel
theorem d_Pre_checkIndex_0 : decode b_Pre_checkIndex 0 = .ok (.iload_n 0, 1) := by decide +kernel
theorem d_Pre_checkIndex_1 : decode b_Pre_checkIndex 1 = .ok (.ifCond .lt 8, 3) := by decide +kernel
theorem d_Pre_checkIndex_4 : decode b_Pre_checkIndex 4 = .ok (.iload_n 0, 1) := by decide +kernel
theorem d_Pre_checkIndex_5 : decode b_Pre_checkIndex 5 = .ok (.iload_n 1, 1) := by decide +kernel
theorem d_Pre_checkIndex_6 : decode b_Pre_checkIndex 6 = .ok (.if_icmp .lt 10, 3) := by decide +kernel
theorem d_Pre_checkIndex_9 : decode b_Pre_checkIndex 9 = .ok (.aload_n 2, 1) := by decide +kernel
theorem d_Pre_checkIndex_10 : decode b_Pre_checkIndex 10 = .ok (.iload_n 0, 1) := by decide +kernel
theorem d_Pre_checkIndex_11 : decode b_Pre_checkIndex 11 = .ok (.iload_n 1, 1) := by decide +kernel
theorem d_Pre_checkIndex_12 : decode b_Pre_checkIndex 12 = .ok (.invokestatic 95, 3) := by decide +kernel
theorem d_Pre_checkIndex_15 : decode b_Pre_checkIndex 15 = .ok (.athrow, 1) := by decide +kernel
theorem d_Pre_checkIndex_16 : decode b_Pre_checkIndex 16 = .ok (.iload_n 0, 1) := by decide +kernel
theorem d_Pre_checkIndex_17 : decode b_Pre_checkIndex 17 = .ok (.ireturn, 1) := by decide +kernel
theorem d_By_add_0 : decode b_By_add 0 = .ok (.aload_n 0, 1) := by decide +kernel
theorem d_By_add_1 : decode b_By_add 1 = .ok (.getfield 23, 3) := by decide +kernel
theorem d_By_add_4 : decode b_By_add 4 = .ok (.aload_n 0, 1) := by decide +kernel
theorem d_By_add_5 : decode b_By_add 5 = .ok (.getfield 7, 3) := by decide +kernel
theorem d_By_add_8 : decode b_By_add 8 = .ok (.if_icmp .lt 4, 3) := by decide +kernel
theorem d_By_add_11 : decode b_By_add 11 = .ok (.return_, 1) := by decide +kernel
theorem d_By_add_12 : decode b_By_add 12 = .ok (.aload_n 0, 1) := by decide +kernel
theorem d_By_add_13 : decode b_By_add 13 = .ok (.getfield 23, 3) := by decide +kernel
theorem d_By_add_16 : decode b_By_add 16 = .ok (.aload_n 0, 1) := by decide +kernel
theorem d_By_add_17 : decode b_By_add 17 = .ok (.getfield 19, 3) := by decide +kernel
theorem d_By_add_20 : decode b_By_add 20 = .ok (.arraylength, 1) := by decide +kernel
theorem d_By_add_21 : decode b_By_add 21 = .ok (.if_icmp .lt 29, 3) := by decide +kernel
theorem d_By_add_24 : decode b_By_add 24 = .ok (.aload_n 0, 1) := by decide +kernel
theorem d_By_add_25 : decode b_By_add 25 = .ok (.aload_n 0, 1) := by decide +kernel
theorem d_By_add_26 : decode b_By_add 26 = .ok (.getfield 19, 3) := by decide +kernel
theorem d_By_add_29 : decode b_By_add 29 = .ok (.aload_n 0, 1) := by decide +kernel
theorem d_By_add_30 : decode b_By_add 30 = .ok (.getfield 7, 3) := by decide +kernel
theorem d_By_add_33 : decode b_By_add 33 = .ok (.iconst 2, 1) := by decide +kernel
theorem d_By_add_34 : decode b_By_add 34 = .ok (.aload_n 0, 1) := by decide +kernel
theorem d_By_add_35 : decode b_By_add 35 = .ok (.getfield 23, 3) := by decide +kernel
theorem d_By_add_38 : decode b_By_add 38 = .ok (.imul, 1) := by decide +kernel
theorem d_By_add_39 : decode b_By_add 39 = .ok (.iconst 1, 1) := by decide +kernel
theorem d_By_add_40 : decode b_By_add 40 = .ok (.iadd, 1) := by decide +kernel
theorem d_By_add_41 : decode b_By_add 41 = .ok (.invokestatic 13, 3) := by decide +kernel
theorem d_By_add_44 : decode b_By_add 44 = .ok (.invokestatic 26, 3) := by decide +kernel
theorem d_By_add_47 : decode b_By_add 47 = .ok (.putfield 19, 3) := by decide +kernel
theorem d_By_add_50 : decode b_By_add 50 = .ok (.aload_n 0, 1) := by decide +kernel
theorem d_By_add_51 : decode b_By_add 51 = .ok (.getfield 19, 3) := by decide +kernel
theorem d_By_add_54 : decode b_By_add 54 = .ok (.aload_n 0, 1) := by decide +kernel
theorem d_By_add_55 : decode b_By_add 55 = .ok (.getfield 23, 3) := by decide +kernel
theorem d_By_add_58 : decode b_By_add 58 = .ok (.iload_n 1, 1) := by decide +kernel
theorem d_By_add_59 : decode b_By_add 59 = .ok (.i2b, 1) := by decide +kernel
theorem d_By_add_60 : decode b_By_add 60 = .ok (.bastore, 1) := by decide +kernel
theorem d_By_add_61 : decode b_By_add 61 = .ok (.aload_n 0, 1) := by decide +kernel
theorem d_By_add_62 : decode b_By_add 62 = .ok (.dup, 1) := by decide +kernel
theorem d_By_add_63 : decode b_By_add 63 = .ok (.getfield 23, 3) := by decide +kernel
theorem d_By_add_66 : decode b_By_add 66 = .ok (.iconst 1, 1) := by decide +kernel
theorem d_By_add_67 : decode b_By_add 67 = .ok (.iadd, 1) := by decide +kernel
theorem d_By_add_68 : decode b_By_add 68 = .ok (.putfield 23, 3) := by decide +kernel
theorem d_By_add_71 : decode b_By_add 71 = .ok (.return_, 1) := by decide +kernel
theorem d_By_addFour_0 : decode b_By_addFour 0 = .ok (.aload_n 0, 1) := by decide +kernel
theorem d_By_addFour_1 : decode b_By_addFour 1 = .ok (.iload_n 1, 1) := by decide +kernel
theorem d_By_addFour_2 : decode b_By_addFour 2 = .ok (.bipush 24, 2) := by decide +kernel
theorem d_By_addFour_4 : decode b_By_addFour 4 = .ok (.iushr, 1) := by decide +kernel
theorem d_By_addFour_5 : decode b_By_addFour 5 = .ok (.invokevirtual 32, 3) := by decide +kernel
theorem d_By_addFour_8 : decode b_By_addFour 8 = .ok (.aload_n 0, 1) := by decide +kernel
theorem d_By_addFour_9 : decode b_By_addFour 9 = .ok (.iload_n 1, 1) := by decide +kernel
theorem d_By_addFour_10 : decode b_By_addFour 10 = .ok (.bipush 16, 2) := by decide +kernel
theorem d_By_addFour_12 : decode b_By_addFour 12 = .ok (.iushr, 1) := by decide +kernel
theorem d_By_addFour_13 : decode b_By_addFour 13 = .ok (.invokevirtual 32, 3) := by decide +kernel
theorem d_By_addFour_16 : decode b_By_addFour 16 = .ok (.aload_n 0, 1) := by decide +kernel
theorem d_By_addFour_17 : decode b_By_addFour 17 = .ok (.iload_n 1, 1) := by decide +kernel
theorem d_By_addFour_18 : decode b_By_addFour 18 = .ok (.bipush 8, 2) := by decide +kernel
theorem d_By_addFour_20 : decode b_By_addFour 20 = .ok (.iushr, 1) := by decide +kernel
theorem d_By_addFour_21 : decode b_By_addFour 21 = .ok (.invokevirtual 32, 3) := by decide +kernel
theorem d_By_addFour_24 : decode b_By_addFour 24 = .ok (.aload_n 0, 1) := by decide +kernel
theorem d_By_addFour_25 : decode b_By_addFour 25 = .ok (.iload_n 1, 1) := by decide +kernel
theorem d_By_addFour_26 : decode b_By_addFour 26 = .ok (.invokevirtual 32, 3) := by decide +kernel
theorem d_By_addFour_29 : decode b_By_addFour 29 = .ok (.return_, 1) := by decide +kernel
theorem d_By_addNumber_0 : decode b_By_addNumber 0 = .ok (.iload_n 1, 1) := by decide +kernel
theorem d_By_addNumber_1 : decode b_By_addNumber 1 = .ok (.bipush 100, 2) := by decide +kernel
theorem d_By_addNumber_3 : decode b_By_addNumber 3 = .ok (.if_icmp .lt 14, 3) := by decide +kernel
theorem d_By_addNumber_6 : decode b_By_addNumber 6 = .ok (.aload_n 0, 1) := by decide +kernel
theorem d_By_addNumber_7 : decode b_By_addNumber 7 = .ok (.bipush 48, 2) := by decide +kernel
theorem d_By_addNumber_9 : decode b_By_addNumber 9 = .ok (.iload_n 1, 1) := by decide +kernel
theorem d_By_addNumber_10 : decode b_By_addNumber 10 = .ok (.bipush 100, 2) := by decide +kernel
theorem d_By_addNumber_12 : decode b_By_addNumber 12 = .ok (.idiv, 1) := by decide +kernel
theorem d_By_addNumber_13 : decode b_By_addNumber 13 = .ok (.iadd, 1) := by decide +kernel
theorem d_By_addNumber_14 : decode b_By_addNumber 14 = .ok (.invokevirtual 32, 3) := by decide +kernel
theorem d_By_addNumber_17 : decode b_By_addNumber 17 = .ok (.iload_n 1, 1) := by decide +kernel
theorem d_By_addNumber_18 : decode b_By_addNumber 18 = .ok (.bipush 10, 2) := by decide +kernel
theorem d_By_addNumber_20 : decode b_By_addNumber 20 = .ok (.if_icmp .lt 17, 3) := by decide +kernel
theorem d_By_addNumber_23 : decode b_By_addNumber 23 = .ok (.aload_n 0, 1) := by decide +kernel
theorem d_By_addNumber_24 : decode b_By_addNumber 24 = .ok (.bipush 48, 2) := by decide +kernel
theorem d_By_addNumber_26 : decode b_By_addNumber 26 = .ok (.iload_n 1, 1) := by decide +kernel
theorem d_By_addNumber_27 : decode b_By_addNumber 27 = .ok (.bipush 10, 2) := by decide +kernel
theorem d_By_addNumber_29 : decode b_By_addNumber 29 = .ok (.idiv, 1) := by decide +kernel
theorem d_By_addNumber_30 : decode b_By_addNumber 30 = .ok (.bipush 10, 2) := by decide +kernel
theorem d_By_addNumber_32 : decode b_By_addNumber 32 = .ok (.irem, 1) := by decide +kernel
theorem d_By_addNumber_33 : decode b_By_addNumber 33 = .ok (.iadd, 1) := by decide +kernel
theorem d_By_addNumber_34 : decode b_By_addNumber 34 = .ok (.invokevirtual 32, 3) := by decide +kernel
theorem d_By_addNumber_37 : decode b_By_addNumber 37 = .ok (.aload_n 0, 1) := by decide +kernel
theorem d_By_addNumber_38 : decode b_By_addNumber 38 = .ok (.bipush 48, 2) := by decide +kernel
theorem d_By_addNumber_40 : decode b_By_addNumber 40 = .ok (.iload_n 1, 1) := by decide +kernel
theorem d_By_addNumber_41 : decode b_By_addNumber 41 = .ok (.bipush 10, 2) := by decide +kernel
theorem d_By_addNumber_43 : decode b_By_addNumber 43 = .ok (.irem, 1) := by decide +kernel
theorem d_By_addNumber_44 : decode b_By_addNumber 44 = .ok (.iadd, 1) := by decide +kernel
theorem d_By_addNumber_45 : decode b_By_addNumber 45 = .ok (.invokevirtual 32, 3) := by decide +kernel
theorem d_By_addNumber_48 : decode b_By_addNumber 48 = .ok (.return_, 1) := by decide +kernel
theorem d_By_addPart_0 : decode b_By_addPart 0 = .ok (.iload_n 2, 1) := by decide +kernel
theorem d_By_addPart_1 : decode b_By_addPart 1 = .ok (.ifCond .lt 16, 3) := by decide +kernel
theorem d_By_addPart_4 : decode b_By_addPart 4 = .ok (.iload_n 2, 1) := by decide +kernel
theorem d_By_addPart_5 : decode b_By_addPart 5 = .ok (.iload_n 3, 1) := by decide +kernel
theorem d_By_addPart_6 : decode b_By_addPart 6 = .ok (.if_icmp .ge 11, 3) := by decide +kernel
theorem d_By_addPart_9 : decode b_By_addPart 9 = .ok (.iload_n 3, 1) := by decide +kernel
theorem d_By_addPart_10 : decode b_By_addPart 10 = .ok (.aload_n 1, 1) := by decide +kernel
theorem d_By_addPart_11 : decode b_By_addPart 11 = .ok (.getfield 23, 3) := by decide +kernel
theorem d_By_addPart_14 : decode b_By_addPart 14 = .ok (.if_icmp .le 4, 3) := by decide +kernel
theorem d_By_addPart_17 : decode b_By_addPart 17 = .ok (.return_, 1) := by decide +kernel
theorem d_By_addPart_18 : decode b_By_addPart 18 = .ok (.iload_n 3, 1) := by decide +kernel
theorem d_By_addPart_19 : decode b_By_addPart 19 = .ok (.iload_n 2, 1) := by decide +kernel
theorem d_By_addPart_20 : decode b_By_addPart 20 = .ok (.isub, 1) := by decide +kernel
theorem d_By_addPart_21 : decode b_By_addPart 21 = .ok (.aload_n 0, 1) := by decide +kernel
theorem d_By_addPart_22 : decode b_By_addPart 22 = .ok (.getfield 7, 3) := by decide +kernel
theorem d_By_addPart_25 : decode b_By_addPart 25 = .ok (.aload_n 0, 1) := by decide +kernel
theorem d_By_addPart_26 : decode b_By_addPart 26 = .ok (.getfield 23, 3) := by decide +kernel
theorem d_By_addPart_29 : decode b_By_addPart 29 = .ok (.isub, 1) := by decide +kernel
theorem d_By_addPart_30 : decode b_By_addPart 30 = .ok (.invokestatic 13, 3) := by decide +kernel
theorem d_By_addPart_33 : decode b_By_addPart 33 = .ok (.istore 4, 2) := by decide +kernel
theorem d_By_addPart_35 : decode b_By_addPart 35 = .ok (.aload_n 0, 1) := by decide +kernel
theorem d_By_addPart_36 : decode b_By_addPart 36 = .ok (.getfield 23, 3) := by decide +kernel
theorem d_By_addPart_39 : decode b_By_addPart 39 = .ok (.iload 4, 2) := by decide +kernel
theorem d_By_addPart_41 : decode b_By_addPart 41 = .ok (.iadd, 1) := by decide +kernel
theorem d_By_addPart_42 : decode b_By_addPart 42 = .ok (.aload_n 0, 1) := by decide +kernel
theorem d_By_addPart_43 : decode b_By_addPart 43 = .ok (.getfield 19, 3) := by decide +kernel
theorem d_By_addPart_46 : decode b_By_addPart 46 = .ok (.arraylength, 1) := by decide +kernel
theorem d_By_addPart_47 : decode b_By_addPart 47 = .ok (.if_icmp .le 30, 3) := by decide +kernel
theorem d_By_addPart_50 : decode b_By_addPart 50 = .ok (.aload_n 0, 1) := by decide +kernel
theorem d_By_addPart_51 : decode b_By_addPart 51 = .ok (.aload_n 0, 1) := by decide +kernel
theorem d_By_addPart_52 : decode b_By_addPart 52 = .ok (.getfield 19, 3) := by decide +kernel
theorem d_By_addPart_55 : decode b_By_addPart 55 = .ok (.aload_n 0, 1) := by decide +kernel
theorem d_By_addPart_56 : decode b_By_addPart 56 = .ok (.getfield 7, 3) := by decide +kernel
theorem d_By_addPart_59 : decode b_By_addPart 59 = .ok (.iconst 2, 1) := by decide +kernel
theorem d_By_addPart_60 : decode b_By_addPart 60 = .ok (.aload_n 0, 1) := by decide +kernel
theorem d_By_addPart_61 : decode b_By_addPart 61 = .ok (.getfield 23, 3) := by decide +kernel
theorem d_By_addPart_64 : decode b_By_addPart 64 = .ok (.iload 4, 2) := by decide +kernel
theorem d_By_addPart_66 : decode b_By_addPart 66 = .ok (.iadd, 1) := by decide +kernel
theorem d_By_addPart_67 : decode b_By_addPart 67 = .ok (.imul, 1) := by decide +kernel
theorem d_By_addPart_68 : decode b_By_addPart 68 = .ok (.invokestatic 13, 3) := by decide +kernel
theorem d_By_addPart_71 : decode b_By_addPart 71 = .ok (.invokestatic 26, 3) := by decide +kernel
theorem d_By_addPart_74 : decode b_By_addPart 74 = .ok (.putfield 19, 3) := by decide +kernel
theorem d_By_addPart_77 : decode b_By_addPart 77 = .ok (.aload_n 1, 1) := by decide +kernel
theorem d_By_addPart_78 : decode b_By_addPart 78 = .ok (.getfield 19, 3) := by decide +kernel
theorem d_By_addPart_81 : decode b_By_addPart 81 = .ok (.iload_n 2, 1) := by decide +kernel
theorem d_By_addPart_82 : decode b_By_addPart 82 = .ok (.aload_n 0, 1) := by decide +kernel
theorem d_By_addPart_83 : decode b_By_addPart 83 = .ok (.getfield 19, 3) := by decide +kernel
theorem d_By_addPart_86 : decode b_By_addPart 86 = .ok (.aload_n 0, 1) := by decide +kernel
theorem d_By_addPart_87 : decode b_By_addPart 87 = .ok (.getfield 23, 3) := by decide +kernel
theorem d_By_addPart_90 : decode b_By_addPart 90 = .ok (.iload 4, 2) := by decide +kernel
theorem d_By_addPart_92 : decode b_By_addPart 92 = .ok (.invokestatic 36, 3) := by decide +kernel
theorem d_By_addPart_95 : decode b_By_addPart 95 = .ok (.aload_n 0, 1) := by decide +kernel
theorem d_By_addPart_96 : decode b_By_addPart 96 = .ok (.dup, 1) := by decide +kernel
theorem d_By_addPart_97 : decode b_By_addPart 97 = .ok (.getfield 23, 3) := by decide +kernel
theorem d_By_addPart_100 : decode b_By_addPart 100 = .ok (.iload 4, 2) := by decide +kernel
theorem d_By_addPart_102 : decode b_By_addPart 102 = .ok (.iadd, 1) := by decide +kernel
theorem d_By_addPart_103 : decode b_By_addPart 103 = .ok (.putfield 23, 3) := by decide +kernel
theorem d_By_addPart_106 : decode b_By_addPart 106 = .ok (.return_, 1) := by decide +kernel
theorem d_By_at_0 : decode b_By_at 0 = .ok (.iload_n 1, 1) := by decide +kernel
theorem d_By_at_1 : decode b_By_at 1 = .ok (.ifCond .lt 11, 3) := by decide +kernel
theorem d_By_at_4 : decode b_By_at 4 = .ok (.iload_n 1, 1) := by decide +kernel
theorem d_By_at_5 : decode b_By_at 5 = .ok (.aload_n 0, 1) := by decide +kernel
theorem d_By_at_6 : decode b_By_at 6 = .ok (.getfield 23, 3) := by decide +kernel
theorem d_By_at_9 : decode b_By_at 9 = .ok (.if_icmp .lt 7, 3) := by decide +kernel
theorem d_By_at_12 : decode b_By_at 12 = .ok (.iconst (-1), 1) := by decide +kernel
theorem d_By_at_13 : decode b_By_at 13 = .ok (.goto 13, 3) := by decide +kernel
theorem d_By_at_16 : decode b_By_at 16 = .ok (.aload_n 0, 1) := by decide +kernel
theorem d_By_at_17 : decode b_By_at 17 = .ok (.getfield 19, 3) := by decide +kernel
theorem d_By_at_20 : decode b_By_at 20 = .ok (.iload_n 1, 1) := by decide +kernel
theorem d_By_at_21 : decode b_By_at 21 = .ok (.baload, 1) := by decide +kernel
theorem d_By_at_22 : decode b_By_at 22 = .ok (.sipush 255, 3) := by decide +kernel
theorem d_By_at_25 : decode b_By_at 25 = .ok (.iand, 1) := by decide +kernel
theorem d_By_at_26 : decode b_By_at 26 = .ok (.ireturn, 1) := by decide +kernel
theorem d_By_cut_0 : decode b_By_cut 0 = .ok (.iload_n 1, 1) := by decide +kernel
theorem d_By_cut_1 : decode b_By_cut 1 = .ok (.ifCond .lt 16, 3) := by decide +kernel
theorem d_By_cut_4 : decode b_By_cut 4 = .ok (.iload_n 1, 1) := by decide +kernel
theorem d_By_cut_5 : decode b_By_cut 5 = .ok (.aload_n 0, 1) := by decide +kernel
theorem d_By_cut_6 : decode b_By_cut 6 = .ok (.getfield 23, 3) := by decide +kernel
theorem d_By_cut_9 : decode b_By_cut 9 = .ok (.if_icmp .ge 8, 3) := by decide +kernel
theorem d_By_cut_12 : decode b_By_cut 12 = .ok (.aload_n 0, 1) := by decide +kernel
theorem d_By_cut_13 : decode b_By_cut 13 = .ok (.iload_n 1, 1) := by decide +kernel
theorem d_By_cut_14 : decode b_By_cut 14 = .ok (.putfield 23, 3) := by decide +kernel
theorem d_By_cut_17 : decode b_By_cut 17 = .ok (.return_, 1) := by decide +kernel
theorem d_By_find_0 : decode b_By_find 0 = .ok (.iload_n 2, 1) := by decide +kernel
theorem d_By_find_1 : decode b_By_find 1 = .ok (.istore 4, 2) := by decide +kernel
theorem d_By_find_3 : decode b_By_find 3 = .ok (.iload 4, 2) := by decide +kernel
theorem d_By_find_5 : decode b_By_find 5 = .ok (.iload_n 3, 1) := by decide +kernel
theorem d_By_find_6 : decode b_By_find 6 = .ok (.if_icmp .ge 22, 3) := by decide +kernel
theorem d_By_find_9 : decode b_By_find 9 = .ok (.aload_n 0, 1) := by decide +kernel
theorem d_By_find_10 : decode b_By_find 10 = .ok (.iload 4, 2) := by decide +kernel
theorem d_By_find_12 : decode b_By_find 12 = .ok (.invokevirtual 42, 3) := by decide +kernel
theorem d_By_find_15 : decode b_By_find 15 = .ok (.iload_n 1, 1) := by decide +kernel
theorem d_By_find_16 : decode b_By_find 16 = .ok (.if_icmp .ne 6, 3) := by decide +kernel
theorem d_By_find_19 : decode b_By_find 19 = .ok (.iload 4, 2) := by decide +kernel
theorem d_By_find_21 : decode b_By_find 21 = .ok (.ireturn, 1) := by decide +kernel
theorem d_By_find_22 : decode b_By_find 22 = .ok (.iinc 4 1, 3) := by decide +kernel
theorem d_By_find_25 : decode b_By_find 25 = .ok (.goto (-22), 3) := by decide +kernel
theorem d_By_find_28 : decode b_By_find 28 = .ok (.iload_n 3, 1) := by decide +kernel
theorem d_By_find_29 : decode b_By_find 29 = .ok (.ireturn, 1) := by decide +kernel
theorem d_By_has_0 : decode b_By_has 0 = .ok (.iload_n 3, 1) := by decide +kernel
theorem d_By_has_1 : decode b_By_has 1 = .ok (.iload_n 2, 1) := by decide +kernel
theorem d_By_has_2 : decode b_By_has 2 = .ok (.isub, 1) := by decide +kernel
theorem d_By_has_3 : decode b_By_has 3 = .ok (.aload_n 1, 1) := by decide +kernel
theorem d_By_has_4 : decode b_By_has 4 = .ok (.invokevirtual 46, 3) := by decide +kernel
theorem d_By_has_7 : decode b_By_has 7 = .ok (.if_icmp .ge 5, 3) := by decide +kernel
theorem d_By_has_10 : decode b_By_has 10 = .ok (.iconst 0, 1) := by decide +kernel
theorem d_By_has_11 : decode b_By_has 11 = .ok (.ireturn, 1) := by decide +kernel
theorem d_By_has_12 : decode b_By_has 12 = .ok (.iconst 0, 1) := by decide +kernel
theorem d_By_has_13 : decode b_By_has 13 = .ok (.istore 4, 2) := by decide +kernel
theorem d_By_has_15 : decode b_By_has 15 = .ok (.iload 4, 2) := by decide +kernel
theorem d_By_has_17 : decode b_By_has 17 = .ok (.aload_n 1, 1) := by decide +kernel
theorem d_By_has_18 : decode b_By_has 18 = .ok (.invokevirtual 46, 3) := by decide +kernel
theorem d_By_has_21 : decode b_By_has 21 = .ok (.if_icmp .ge 28, 3) := by decide +kernel
theorem d_By_has_24 : decode b_By_has 24 = .ok (.aload_n 0, 1) := by decide +kernel
theorem d_By_has_25 : decode b_By_has 25 = .ok (.iload_n 2, 1) := by decide +kernel
theorem d_By_has_26 : decode b_By_has 26 = .ok (.iload 4, 2) := by decide +kernel
theorem d_By_has_28 : decode b_By_has 28 = .ok (.iadd, 1) := by decide +kernel
theorem d_By_has_29 : decode b_By_has 29 = .ok (.invokevirtual 42, 3) := by decide +kernel
theorem d_By_has_32 : decode b_By_has 32 = .ok (.aload_n 1, 1) := by decide +kernel
theorem d_By_has_33 : decode b_By_has 33 = .ok (.iload 4, 2) := by decide +kernel
theorem d_By_has_35 : decode b_By_has 35 = .ok (.invokevirtual 52, 3) := by decide +kernel
theorem d_By_has_38 : decode b_By_has 38 = .ok (.if_icmp .eq 5, 3) := by decide +kernel
theorem d_By_has_41 : decode b_By_has 41 = .ok (.iconst 0, 1) := by decide +kernel
theorem d_By_has_42 : decode b_By_has 42 = .ok (.ireturn, 1) := by decide +kernel
theorem d_By_has_43 : decode b_By_has 43 = .ok (.iinc 4 1, 3) := by decide +kernel
theorem d_By_has_46 : decode b_By_has 46 = .ok (.goto (-31), 3) := by decide +kernel
theorem d_By_has_49 : decode b_By_has 49 = .ok (.iconst 1, 1) := by decide +kernel
theorem d_By_has_50 : decode b_By_has 50 = .ok (.ireturn, 1) := by decide +kernel
theorem d_By_init_0 : decode b_By_init 0 = .ok (.aload_n 0, 1) := by decide +kernel
theorem d_By_init_1 : decode b_By_init 1 = .ok (.invokespecial 1, 3) := by decide +kernel
theorem d_By_init_4 : decode b_By_init 4 = .ok (.aload_n 0, 1) := by decide +kernel
theorem d_By_init_5 : decode b_By_init 5 = .ok (.iload_n 1, 1) := by decide +kernel
theorem d_By_init_6 : decode b_By_init 6 = .ok (.putfield 7, 3) := by decide +kernel
theorem d_By_init_9 : decode b_By_init 9 = .ok (.aload_n 0, 1) := by decide +kernel
theorem d_By_init_10 : decode b_By_init 10 = .ok (.iload_n 1, 1) := by decide +kernel
theorem d_By_init_11 : decode b_By_init 11 = .ok (.bipush 64, 2) := by decide +kernel
theorem d_By_init_13 : decode b_By_init 13 = .ok (.invokestatic 13, 3) := by decide +kernel
theorem d_By_init_16 : decode b_By_init 16 = .ok (.newarray .byte, 2) := by decide +kernel
theorem d_By_init_18 : decode b_By_init 18 = .ok (.putfield 19, 3) := by decide +kernel
theorem d_By_init_21 : decode b_By_init 21 = .ok (.aload_n 0, 1) := by decide +kernel
theorem d_By_init_22 : decode b_By_init 22 = .ok (.iconst 0, 1) := by decide +kernel
theorem d_By_init_23 : decode b_By_init 23 = .ok (.putfield 23, 3) := by decide +kernel
theorem d_By_init_26 : decode b_By_init 26 = .ok (.return_, 1) := by decide +kernel
theorem d_By_same_0 : decode b_By_same 0 = .ok (.aload_n 0, 1) := by decide +kernel
theorem d_By_same_1 : decode b_By_same 1 = .ok (.getfield 23, 3) := by decide +kernel
theorem d_By_same_4 : decode b_By_same 4 = .ok (.aload_n 1, 1) := by decide +kernel
theorem d_By_same_5 : decode b_By_same 5 = .ok (.getfield 23, 3) := by decide +kernel
theorem d_By_same_8 : decode b_By_same 8 = .ok (.if_icmp .eq 5, 3) := by decide +kernel
theorem d_By_same_11 : decode b_By_same 11 = .ok (.iconst 0, 1) := by decide +kernel
theorem d_By_same_12 : decode b_By_same 12 = .ok (.ireturn, 1) := by decide +kernel
theorem d_By_same_13 : decode b_By_same 13 = .ok (.iconst 0, 1) := by decide +kernel
theorem d_By_same_14 : decode b_By_same 14 = .ok (.istore_n 2, 1) := by decide +kernel
theorem d_By_same_15 : decode b_By_same 15 = .ok (.iload_n 2, 1) := by decide +kernel
theorem d_By_same_16 : decode b_By_same 16 = .ok (.aload_n 0, 1) := by decide +kernel
theorem d_By_same_17 : decode b_By_same 17 = .ok (.getfield 23, 3) := by decide +kernel
theorem d_By_same_20 : decode b_By_same 20 = .ok (.if_icmp .ge 26, 3) := by decide +kernel
theorem d_By_same_23 : decode b_By_same 23 = .ok (.aload_n 0, 1) := by decide +kernel
theorem d_By_same_24 : decode b_By_same 24 = .ok (.getfield 19, 3) := by decide +kernel
theorem d_By_same_27 : decode b_By_same 27 = .ok (.iload_n 2, 1) := by decide +kernel
theorem d_By_same_28 : decode b_By_same 28 = .ok (.baload, 1) := by decide +kernel
theorem d_By_same_29 : decode b_By_same 29 = .ok (.aload_n 1, 1) := by decide +kernel
theorem d_By_same_30 : decode b_By_same 30 = .ok (.getfield 19, 3) := by decide +kernel
theorem d_By_same_33 : decode b_By_same 33 = .ok (.iload_n 2, 1) := by decide +kernel
theorem d_By_same_34 : decode b_By_same 34 = .ok (.baload, 1) := by decide +kernel
theorem d_By_same_35 : decode b_By_same 35 = .ok (.if_icmp .eq 5, 3) := by decide +kernel
theorem d_By_same_38 : decode b_By_same 38 = .ok (.iconst 0, 1) := by decide +kernel
theorem d_By_same_39 : decode b_By_same 39 = .ok (.ireturn, 1) := by decide +kernel
theorem d_By_same_40 : decode b_By_same 40 = .ok (.iinc 2 1, 3) := by decide +kernel
theorem d_By_same_43 : decode b_By_same 43 = .ok (.goto (-28), 3) := by decide +kernel
theorem d_By_same_46 : decode b_By_same 46 = .ok (.iconst 1, 1) := by decide +kernel
theorem d_By_same_47 : decode b_By_same 47 = .ok (.ireturn, 1) := by decide +kernel
theorem d_By_size_0 : decode b_By_size 0 = .ok (.aload_n 0, 1) := by decide +kernel
theorem d_By_size_1 : decode b_By_size 1 = .ok (.getfield 23, 3) := by decide +kernel
theorem d_By_size_4 : decode b_By_size 4 = .ok (.ireturn, 1) := by decide +kernel
theorem d_Si_isDigit_0 : decode b_Si_isDigit 0 = .ok (.iload_n 0, 1) := by decide +kernel
theorem d_Si_isDigit_1 : decode b_Si_isDigit 1 = .ok (.bipush 48, 2) := by decide +kernel
theorem d_Si_isDigit_3 : decode b_Si_isDigit 3 = .ok (.if_icmp .lt 13, 3) := by decide +kernel
theorem d_Si_isDigit_6 : decode b_Si_isDigit 6 = .ok (.iload_n 0, 1) := by decide +kernel
theorem d_Si_isDigit_7 : decode b_Si_isDigit 7 = .ok (.bipush 57, 2) := by decide +kernel
theorem d_Si_isDigit_9 : decode b_Si_isDigit 9 = .ok (.if_icmp .gt 7, 3) := by decide +kernel
theorem d_Si_isDigit_12 : decode b_Si_isDigit 12 = .ok (.iconst 1, 1) := by decide +kernel
theorem d_Si_isDigit_13 : decode b_Si_isDigit 13 = .ok (.goto 4, 3) := by decide +kernel
theorem d_Si_isDigit_16 : decode b_Si_isDigit 16 = .ok (.iconst 0, 1) := by decide +kernel
theorem d_Si_isDigit_17 : decode b_Si_isDigit 17 = .ok (.ireturn, 1) := by decide +kernel
theorem d_Si_isLetter_0 : decode b_Si_isLetter 0 = .ok (.iload_n 0, 1) := by decide +kernel
theorem d_Si_isLetter_1 : decode b_Si_isLetter 1 = .ok (.bipush 97, 2) := by decide +kernel
theorem d_Si_isLetter_3 : decode b_Si_isLetter 3 = .ok (.if_icmp .lt 13, 3) := by decide +kernel
theorem d_Si_isLetter_6 : decode b_Si_isLetter 6 = .ok (.iload_n 0, 1) := by decide +kernel
theorem d_Si_isLetter_7 : decode b_Si_isLetter 7 = .ok (.bipush 122, 2) := by decide +kernel
theorem d_Si_isLetter_9 : decode b_Si_isLetter 9 = .ok (.if_icmp .gt 7, 3) := by decide +kernel
theorem d_Si_isLetter_12 : decode b_Si_isLetter 12 = .ok (.iconst 1, 1) := by decide +kernel
theorem d_Si_isLetter_13 : decode b_Si_isLetter 13 = .ok (.goto 4, 3) := by decide +kernel
theorem d_Si_isLetter_16 : decode b_Si_isLetter 16 = .ok (.iconst 0, 1) := by decide +kernel
theorem d_Si_isLetter_17 : decode b_Si_isLetter 17 = .ok (.ireturn, 1) := by decide +kernel
theorem d_Si_isLocal_0 : decode b_Si_isLocal 0 = .ok (.iload_n 2, 1) := by decide +kernel
theorem d_Si_isLocal_1 : decode b_Si_isLocal 1 = .ok (.iload_n 1, 1) := by decide +kernel
theorem d_Si_isLocal_2 : decode b_Si_isLocal 2 = .ok (.if_icmp .le 11, 3) := by decide +kernel
theorem d_Si_isLocal_5 : decode b_Si_isLocal 5 = .ok (.iload_n 2, 1) := by decide +kernel
theorem d_Si_isLocal_6 : decode b_Si_isLocal 6 = .ok (.iload_n 1, 1) := by decide +kernel
theorem d_Si_isLocal_7 : decode b_Si_isLocal 7 = .ok (.isub, 1) := by decide +kernel
theorem d_Si_isLocal_8 : decode b_Si_isLocal 8 = .ok (.bipush 30, 2) := by decide +kernel
theorem d_Si_isLocal_10 : decode b_Si_isLocal 10 = .ok (.if_icmp .le 5, 3) := by decide +kernel
theorem d_Si_isLocal_13 : decode b_Si_isLocal 13 = .ok (.iconst 0, 1) := by decide +kernel
theorem d_Si_isLocal_14 : decode b_Si_isLocal 14 = .ok (.ireturn, 1) := by decide +kernel
theorem d_Si_isLocal_15 : decode b_Si_isLocal 15 = .ok (.iload_n 1, 1) := by decide +kernel
theorem d_Si_isLocal_16 : decode b_Si_isLocal 16 = .ok (.istore_n 3, 1) := by decide +kernel
theorem d_Si_isLocal_17 : decode b_Si_isLocal 17 = .ok (.iload_n 3, 1) := by decide +kernel
theorem d_Si_isLocal_18 : decode b_Si_isLocal 18 = .ok (.iload_n 2, 1) := by decide +kernel
theorem d_Si_isLocal_19 : decode b_Si_isLocal 19 = .ok (.if_icmp .ge 40, 3) := by decide +kernel
theorem d_Si_isLocal_22 : decode b_Si_isLocal 22 = .ok (.aload_n 0, 1) := by decide +kernel
theorem d_Si_isLocal_23 : decode b_Si_isLocal 23 = .ok (.iload_n 3, 1) := by decide +kernel
theorem d_Si_isLocal_24 : decode b_Si_isLocal 24 = .ok (.invokevirtual 18, 3) := by decide +kernel
theorem d_Si_isLocal_27 : decode b_Si_isLocal 27 = .ok (.istore 4, 2) := by decide +kernel
theorem d_Si_isLocal_29 : decode b_Si_isLocal 29 = .ok (.iload 4, 2) := by decide +kernel
theorem d_Si_isLocal_31 : decode b_Si_isLocal 31 = .ok (.invokestatic 24, 3) := by decide +kernel
theorem d_Si_isLocal_34 : decode b_Si_isLocal 34 = .ok (.ifCond .ne 19, 3) := by decide +kernel
theorem d_Si_isLocal_37 : decode b_Si_isLocal 37 = .ok (.iload 4, 2) := by decide +kernel
theorem d_Si_isLocal_39 : decode b_Si_isLocal 39 = .ok (.bipush 46, 2) := by decide +kernel
theorem d_Si_isLocal_41 : decode b_Si_isLocal 41 = .ok (.if_icmp .eq 12, 3) := by decide +kernel
theorem d_Si_isLocal_44 : decode b_Si_isLocal 44 = .ok (.iload 4, 2) := by decide +kernel
theorem d_Si_isLocal_46 : decode b_Si_isLocal 46 = .ok (.bipush 43, 2) := by decide +kernel
theorem d_Si_isLocal_48 : decode b_Si_isLocal 48 = .ok (.if_icmp .eq 5, 3) := by decide +kernel
theorem d_Si_isLocal_51 : decode b_Si_isLocal 51 = .ok (.iconst 0, 1) := by decide +kernel
theorem d_Si_isLocal_52 : decode b_Si_isLocal 52 = .ok (.ireturn, 1) := by decide +kernel
theorem d_Si_isLocal_53 : decode b_Si_isLocal 53 = .ok (.iinc 3 1, 3) := by decide +kernel
theorem d_Si_isLocal_56 : decode b_Si_isLocal 56 = .ok (.goto (-39), 3) := by decide +kernel
theorem d_Si_isLocal_59 : decode b_Si_isLocal 59 = .ok (.iconst 1, 1) := by decide +kernel
theorem d_Si_isLocal_60 : decode b_Si_isLocal 60 = .ok (.ireturn, 1) := by decide +kernel
theorem d_Si_isName_0 : decode b_Si_isName 0 = .ok (.iload_n 2, 1) := by decide +kernel
theorem d_Si_isName_1 : decode b_Si_isName 1 = .ok (.iload_n 1, 1) := by decide +kernel
theorem d_Si_isName_2 : decode b_Si_isName 2 = .ok (.isub, 1) := by decide +kernel
theorem d_Si_isName_3 : decode b_Si_isName 3 = .ok (.bipush 60, 2) := by decide +kernel
theorem d_Si_isName_5 : decode b_Si_isName 5 = .ok (.if_icmp .le 5, 3) := by decide +kernel
theorem d_Si_isName_8 : decode b_Si_isName 8 = .ok (.iconst 0, 1) := by decide +kernel
theorem d_Si_isName_9 : decode b_Si_isName 9 = .ok (.ireturn, 1) := by decide +kernel
theorem d_Si_isName_10 : decode b_Si_isName 10 = .ok (.iconst 0, 1) := by decide +kernel
theorem d_Si_isName_11 : decode b_Si_isName 11 = .ok (.istore_n 3, 1) := by decide +kernel
theorem d_Si_isName_12 : decode b_Si_isName 12 = .ok (.iload_n 1, 1) := by decide +kernel
theorem d_Si_isName_13 : decode b_Si_isName 13 = .ok (.istore 4, 2) := by decide +kernel
theorem d_Si_isName_15 : decode b_Si_isName 15 = .ok (.iload 4, 2) := by decide +kernel
theorem d_Si_isName_17 : decode b_Si_isName 17 = .ok (.iload_n 2, 1) := by decide +kernel
theorem d_Si_isName_18 : decode b_Si_isName 18 = .ok (.if_icmp .ge 55, 3) := by decide +kernel
theorem d_Si_isName_21 : decode b_Si_isName 21 = .ok (.aload_n 0, 1) := by decide +kernel
theorem d_Si_isName_22 : decode b_Si_isName 22 = .ok (.iload 4, 2) := by decide +kernel
theorem d_Si_isName_24 : decode b_Si_isName 24 = .ok (.invokevirtual 18, 3) := by decide +kernel
theorem d_Si_isName_27 : decode b_Si_isName 27 = .ok (.istore 5, 2) := by decide +kernel
theorem d_Si_isName_29 : decode b_Si_isName 29 = .ok (.iload 5, 2) := by decide +kernel
theorem d_Si_isName_31 : decode b_Si_isName 31 = .ok (.bipush 46, 2) := by decide +kernel
theorem d_Si_isName_33 : decode b_Si_isName 33 = .ok (.if_icmp .ne 12, 3) := by decide +kernel
theorem d_Si_isName_36 : decode b_Si_isName 36 = .ok (.iload_n 3, 1) := by decide +kernel
theorem d_Si_isName_37 : decode b_Si_isName 37 = .ok (.ifCond .le 8, 3) := by decide +kernel
theorem d_Si_isName_40 : decode b_Si_isName 40 = .ok (.iconst 0, 1) := by decide +kernel
theorem d_Si_isName_41 : decode b_Si_isName 41 = .ok (.istore_n 3, 1) := by decide +kernel
theorem d_Si_isName_42 : decode b_Si_isName 42 = .ok (.goto 25, 3) := by decide +kernel
theorem d_Si_isName_45 : decode b_Si_isName 45 = .ok (.iload 5, 2) := by decide +kernel
theorem d_Si_isName_47 : decode b_Si_isName 47 = .ok (.invokestatic 24, 3) := by decide +kernel
theorem d_Si_isName_50 : decode b_Si_isName 50 = .ok (.ifCond .eq 15, 3) := by decide +kernel
theorem d_Si_isName_53 : decode b_Si_isName 53 = .ok (.iload_n 3, 1) := by decide +kernel
theorem d_Si_isName_54 : decode b_Si_isName 54 = .ok (.bipush 20, 2) := by decide +kernel
theorem d_Si_isName_56 : decode b_Si_isName 56 = .ok (.if_icmp .ge 9, 3) := by decide +kernel
theorem d_Si_isName_59 : decode b_Si_isName 59 = .ok (.iinc 3 1, 3) := by decide +kernel
theorem d_Si_isName_62 : decode b_Si_isName 62 = .ok (.goto 5, 3) := by decide +kernel
theorem d_Si_isName_65 : decode b_Si_isName 65 = .ok (.iconst 0, 1) := by decide +kernel
theorem d_Si_isName_66 : decode b_Si_isName 66 = .ok (.ireturn, 1) := by decide +kernel
theorem d_Si_isName_67 : decode b_Si_isName 67 = .ok (.iinc 4 1, 3) := by decide +kernel
theorem d_Si_isName_70 : decode b_Si_isName 70 = .ok (.goto (-55), 3) := by decide +kernel
theorem d_Si_isName_73 : decode b_Si_isName 73 = .ok (.iload_n 3, 1) := by decide +kernel
theorem d_Si_isName_74 : decode b_Si_isName 74 = .ok (.ifCond .le 7, 3) := by decide +kernel
theorem d_Si_isName_77 : decode b_Si_isName 77 = .ok (.iconst 1, 1) := by decide +kernel
theorem d_Si_isName_78 : decode b_Si_isName 78 = .ok (.goto 4, 3) := by decide +kernel
theorem d_Si_isName_81 : decode b_Si_isName 81 = .ok (.iconst 0, 1) := by decide +kernel
theorem d_Si_isName_82 : decode b_Si_isName 82 = .ok (.ireturn, 1) := by decide +kernel
theorem d_Si_isNameSign_0 : decode b_Si_isNameSign 0 = .ok (.iload_n 0, 1) := by decide +kernel
theorem d_Si_isNameSign_1 : decode b_Si_isNameSign 1 = .ok (.invokestatic 9, 3) := by decide +kernel
theorem d_Si_isNameSign_4 : decode b_Si_isNameSign 4 = .ok (.ifCond .ne 22, 3) := by decide +kernel
theorem d_Si_isNameSign_7 : decode b_Si_isNameSign 7 = .ok (.iload_n 0, 1) := by decide +kernel
theorem d_Si_isNameSign_8 : decode b_Si_isNameSign 8 = .ok (.invokestatic 15, 3) := by decide +kernel
theorem d_Si_isNameSign_11 : decode b_Si_isNameSign 11 = .ok (.ifCond .ne 15, 3) := by decide +kernel
theorem d_Si_isNameSign_14 : decode b_Si_isNameSign 14 = .ok (.iload_n 0, 1) := by decide +kernel
theorem d_Si_isNameSign_15 : decode b_Si_isNameSign 15 = .ok (.bipush 45, 2) := by decide +kernel
theorem d_Si_isNameSign_17 : decode b_Si_isNameSign 17 = .ok (.if_icmp .eq 9, 3) := by decide +kernel
theorem d_Si_isNameSign_20 : decode b_Si_isNameSign 20 = .ok (.iload_n 0, 1) := by decide +kernel
theorem d_Si_isNameSign_21 : decode b_Si_isNameSign 21 = .ok (.bipush 95, 2) := by decide +kernel
theorem d_Si_isNameSign_23 : decode b_Si_isNameSign 23 = .ok (.if_icmp .ne 7, 3) := by decide +kernel
theorem d_Si_isNameSign_26 : decode b_Si_isNameSign 26 = .ok (.iconst 1, 1) := by decide +kernel
theorem d_Si_isNameSign_27 : decode b_Si_isNameSign 27 = .ok (.goto 4, 3) := by decide +kernel
theorem d_Si_isNameSign_30 : decode b_Si_isNameSign 30 = .ok (.iconst 0, 1) := by decide +kernel
theorem d_Si_isNameSign_31 : decode b_Si_isNameSign 31 = .ok (.ireturn, 1) := by decide +kernel
theorem d_Si_isWord_0 : decode b_Si_isWord 0 = .ok (.iload_n 2, 1) := by decide +kernel
theorem d_Si_isWord_1 : decode b_Si_isWord 1 = .ok (.iload_n 1, 1) := by decide +kernel
theorem d_Si_isWord_2 : decode b_Si_isWord 2 = .ok (.if_icmp .le 14, 3) := by decide +kernel
theorem d_Si_isWord_5 : decode b_Si_isWord 5 = .ok (.aload_n 0, 1) := by decide +kernel
theorem d_Si_isWord_6 : decode b_Si_isWord 6 = .ok (.iload_n 1, 1) := by decide +kernel
theorem d_Si_isWord_7 : decode b_Si_isWord 7 = .ok (.invokevirtual 18, 3) := by decide +kernel
theorem d_Si_isWord_10 : decode b_Si_isWord 10 = .ok (.invokestatic 9, 3) := by decide +kernel
theorem d_Si_isWord_13 : decode b_Si_isWord 13 = .ok (.ifCond .ne 5, 3) := by decide +kernel
theorem d_Si_isWord_16 : decode b_Si_isWord 16 = .ok (.iconst 0, 1) := by decide +kernel
theorem d_Si_isWord_17 : decode b_Si_isWord 17 = .ok (.ireturn, 1) := by decide +kernel
theorem d_Si_isWord_18 : decode b_Si_isWord 18 = .ok (.iload_n 1, 1) := by decide +kernel
theorem d_Si_isWord_19 : decode b_Si_isWord 19 = .ok (.istore_n 3, 1) := by decide +kernel
theorem d_Si_isWord_20 : decode b_Si_isWord 20 = .ok (.iload_n 3, 1) := by decide +kernel
theorem d_Si_isWord_21 : decode b_Si_isWord 21 = .ok (.iload_n 2, 1) := by decide +kernel
theorem d_Si_isWord_22 : decode b_Si_isWord 22 = .ok (.if_icmp .ge 32, 3) := by decide +kernel
theorem d_Si_isWord_25 : decode b_Si_isWord 25 = .ok (.aload_n 0, 1) := by decide +kernel
theorem d_Si_isWord_26 : decode b_Si_isWord 26 = .ok (.iload_n 3, 1) := by decide +kernel
theorem d_Si_isWord_27 : decode b_Si_isWord 27 = .ok (.invokevirtual 18, 3) := by decide +kernel
theorem d_Si_isWord_30 : decode b_Si_isWord 30 = .ok (.invokestatic 24, 3) := by decide +kernel
theorem d_Si_isWord_33 : decode b_Si_isWord 33 = .ok (.ifCond .ne 15, 3) := by decide +kernel
theorem d_Si_isWord_36 : decode b_Si_isWord 36 = .ok (.aload_n 0, 1) := by decide +kernel
theorem d_Si_isWord_37 : decode b_Si_isWord 37 = .ok (.iload_n 3, 1) := by decide +kernel
theorem d_Si_isWord_38 : decode b_Si_isWord 38 = .ok (.invokevirtual 18, 3) := by decide +kernel
theorem d_Si_isWord_41 : decode b_Si_isWord 41 = .ok (.bipush 46, 2) := by decide +kernel
theorem d_Si_isWord_43 : decode b_Si_isWord 43 = .ok (.if_icmp .eq 5, 3) := by decide +kernel
theorem d_Si_isWord_46 : decode b_Si_isWord 46 = .ok (.iconst 0, 1) := by decide +kernel
theorem d_Si_isWord_47 : decode b_Si_isWord 47 = .ok (.ireturn, 1) := by decide +kernel
theorem d_Si_isWord_48 : decode b_Si_isWord 48 = .ok (.iinc 3 1, 3) := by decide +kernel
theorem d_Si_isWord_51 : decode b_Si_isWord 51 = .ok (.goto (-31), 3) := by decide +kernel
theorem d_Si_isWord_54 : decode b_Si_isWord 54 = .ok (.iconst 1, 1) := by decide +kernel
theorem d_Si_isWord_55 : decode b_Si_isWord 55 = .ok (.ireturn, 1) := by decide +kernel
theorem d_Ma_isMacroLetter_0 : decode b_Ma_isMacroLetter 0 = .ok (.iload_n 0, 1) := by decide +kernel
theorem d_Ma_isMacroLetter_1 : decode b_Ma_isMacroLetter 1 = .ok (.bipush 115, 2) := by decide +kernel
theorem d_Ma_isMacroLetter_3 : decode b_Ma_isMacroLetter 3 = .ok (.if_icmp .eq 27, 3) := by decide +kernel
theorem d_Ma_isMacroLetter_6 : decode b_Ma_isMacroLetter 6 = .ok (.iload_n 0, 1) := by decide +kernel
theorem d_Ma_isMacroLetter_7 : decode b_Ma_isMacroLetter 7 = .ok (.bipush 108, 2) := by decide +kernel
theorem d_Ma_isMacroLetter_9 : decode b_Ma_isMacroLetter 9 = .ok (.if_icmp .eq 21, 3) := by decide +kernel
theorem d_Ma_isMacroLetter_12 : decode b_Ma_isMacroLetter 12 = .ok (.iload_n 0, 1) := by decide +kernel
theorem d_Ma_isMacroLetter_13 : decode b_Ma_isMacroLetter 13 = .ok (.bipush 111, 2) := by decide +kernel
theorem d_Ma_isMacroLetter_15 : decode b_Ma_isMacroLetter 15 = .ok (.if_icmp .eq 15, 3) := by decide +kernel
theorem d_Ma_isMacroLetter_18 : decode b_Ma_isMacroLetter 18 = .ok (.iload_n 0, 1) := by decide +kernel
theorem d_Ma_isMacroLetter_19 : decode b_Ma_isMacroLetter 19 = .ok (.bipush 100, 2) := by decide +kernel
theorem d_Ma_isMacroLetter_21 : decode b_Ma_isMacroLetter 21 = .ok (.if_icmp .eq 9, 3) := by decide +kernel
theorem d_Ma_isMacroLetter_24 : decode b_Ma_isMacroLetter 24 = .ok (.iload_n 0, 1) := by decide +kernel
theorem d_Ma_isMacroLetter_25 : decode b_Ma_isMacroLetter 25 = .ok (.bipush 105, 2) := by decide +kernel
theorem d_Ma_isMacroLetter_27 : decode b_Ma_isMacroLetter 27 = .ok (.if_icmp .ne 7, 3) := by decide +kernel
theorem d_Ma_isMacroLetter_30 : decode b_Ma_isMacroLetter 30 = .ok (.iconst 1, 1) := by decide +kernel
theorem d_Ma_isMacroLetter_31 : decode b_Ma_isMacroLetter 31 = .ok (.goto 4, 3) := by decide +kernel
theorem d_Ma_isMacroLetter_34 : decode b_Ma_isMacroLetter 34 = .ok (.iconst 0, 1) := by decide +kernel
theorem d_Ma_isMacroLetter_35 : decode b_Ma_isMacroLetter 35 = .ok (.ireturn, 1) := by decide +kernel
theorem d_Ma_isPartNumber_0 : decode b_Ma_isPartNumber 0 = .ok (.iload_n 0, 1) := by decide +kernel
theorem d_Ma_isPartNumber_1 : decode b_Ma_isPartNumber 1 = .ok (.bipush 49, 2) := by decide +kernel
theorem d_Ma_isPartNumber_3 : decode b_Ma_isPartNumber 3 = .ok (.if_icmp .lt 13, 3) := by decide +kernel
theorem d_Ma_isPartNumber_6 : decode b_Ma_isPartNumber 6 = .ok (.iload_n 0, 1) := by decide +kernel
theorem d_Ma_isPartNumber_7 : decode b_Ma_isPartNumber 7 = .ok (.bipush 57, 2) := by decide +kernel
theorem d_Ma_isPartNumber_9 : decode b_Ma_isPartNumber 9 = .ok (.if_icmp .gt 7, 3) := by decide +kernel
theorem d_Ma_isPartNumber_12 : decode b_Ma_isPartNumber 12 = .ok (.iconst 1, 1) := by decide +kernel
theorem d_Ma_isPartNumber_13 : decode b_Ma_isPartNumber 13 = .ok (.goto 4, 3) := by decide +kernel
theorem d_Ma_isPartNumber_16 : decode b_Ma_isPartNumber 16 = .ok (.iconst 0, 1) := by decide +kernel
theorem d_Ma_isPartNumber_17 : decode b_Ma_isPartNumber 17 = .ok (.ireturn, 1) := by decide +kernel
theorem d_Ma_macroLength_0 : decode b_Ma_macroLength 0 = .ok (.iload_n 1, 1) := by decide +kernel
theorem d_Ma_macroLength_1 : decode b_Ma_macroLength 1 = .ok (.iconst 1, 1) := by decide +kernel
theorem d_Ma_macroLength_2 : decode b_Ma_macroLength 2 = .ok (.iadd, 1) := by decide +kernel
theorem d_Ma_macroLength_3 : decode b_Ma_macroLength 3 = .ok (.iload_n 2, 1) := by decide +kernel
theorem d_Ma_macroLength_4 : decode b_Ma_macroLength 4 = .ok (.if_icmp .ge 13, 3) := by decide +kernel
theorem d_Ma_macroLength_7 : decode b_Ma_macroLength 7 = .ok (.aload_n 0, 1) := by decide +kernel
theorem d_Ma_macroLength_8 : decode b_Ma_macroLength 8 = .ok (.iload_n 1, 1) := by decide +kernel
theorem d_Ma_macroLength_9 : decode b_Ma_macroLength 9 = .ok (.iconst 1, 1) := by decide +kernel
theorem d_Ma_macroLength_10 : decode b_Ma_macroLength 10 = .ok (.iadd, 1) := by decide +kernel
theorem d_Ma_macroLength_11 : decode b_Ma_macroLength 11 = .ok (.invokevirtual 19, 3) := by decide +kernel
theorem d_Ma_macroLength_14 : decode b_Ma_macroLength 14 = .ok (.goto 4, 3) := by decide +kernel
theorem d_Ma_macroLength_17 : decode b_Ma_macroLength 17 = .ok (.iconst (-1), 1) := by decide +kernel
theorem d_Ma_macroLength_18 : decode b_Ma_macroLength 18 = .ok (.istore_n 3, 1) := by decide +kernel
theorem d_Ma_macroLength_19 : decode b_Ma_macroLength 19 = .ok (.iload_n 3, 1) := by decide +kernel
theorem d_Ma_macroLength_20 : decode b_Ma_macroLength 20 = .ok (.bipush 37, 2) := by decide +kernel
theorem d_Ma_macroLength_22 : decode b_Ma_macroLength 22 = .ok (.if_icmp .eq 15, 3) := by decide +kernel
theorem d_Ma_macroLength_25 : decode b_Ma_macroLength 25 = .ok (.iload_n 3, 1) := by decide +kernel
theorem d_Ma_macroLength_26 : decode b_Ma_macroLength 26 = .ok (.bipush 95, 2) := by decide +kernel
theorem d_Ma_macroLength_28 : decode b_Ma_macroLength 28 = .ok (.if_icmp .eq 9, 3) := by decide +kernel
theorem d_Ma_macroLength_31 : decode b_Ma_macroLength 31 = .ok (.iload_n 3, 1) := by decide +kernel
theorem d_Ma_macroLength_32 : decode b_Ma_macroLength 32 = .ok (.bipush 45, 2) := by decide +kernel
theorem d_Ma_macroLength_34 : decode b_Ma_macroLength 34 = .ok (.if_icmp .ne 5, 3) := by decide +kernel
theorem d_Ma_macroLength_37 : decode b_Ma_macroLength 37 = .ok (.iconst 2, 1) := by decide +kernel
theorem d_Ma_macroLength_38 : decode b_Ma_macroLength 38 = .ok (.ireturn, 1) := by decide +kernel
theorem d_Ma_macroLength_39 : decode b_Ma_macroLength 39 = .ok (.iload_n 3, 1) := by decide +kernel
theorem d_Ma_macroLength_40 : decode b_Ma_macroLength 40 = .ok (.bipush 123, 2) := by decide +kernel
theorem d_Ma_macroLength_42 : decode b_Ma_macroLength 42 = .ok (.if_icmp .ne 23, 3) := by decide +kernel
theorem d_Ma_macroLength_45 : decode b_Ma_macroLength 45 = .ok (.iload_n 1, 1) := by decide +kernel
theorem d_Ma_macroLength_46 : decode b_Ma_macroLength 46 = .ok (.iconst 2, 1) := by decide +kernel
theorem d_Ma_macroLength_47 : decode b_Ma_macroLength 47 = .ok (.iadd, 1) := by decide +kernel
theorem d_Ma_macroLength_48 : decode b_Ma_macroLength 48 = .ok (.iload_n 2, 1) := by decide +kernel
theorem d_Ma_macroLength_49 : decode b_Ma_macroLength 49 = .ok (.if_icmp .ge 16, 3) := by decide +kernel
theorem d_Ma_macroLength_52 : decode b_Ma_macroLength 52 = .ok (.aload_n 0, 1) := by decide +kernel
theorem d_Ma_macroLength_53 : decode b_Ma_macroLength 53 = .ok (.iload_n 1, 1) := by decide +kernel
theorem d_Ma_macroLength_54 : decode b_Ma_macroLength 54 = .ok (.iconst 2, 1) := by decide +kernel
theorem d_Ma_macroLength_55 : decode b_Ma_macroLength 55 = .ok (.iadd, 1) := by decide +kernel
theorem d_Ma_macroLength_56 : decode b_Ma_macroLength 56 = .ok (.invokevirtual 19, 3) := by decide +kernel
theorem d_Ma_macroLength_59 : decode b_Ma_macroLength 59 = .ok (.invokestatic 29, 3) := by decide +kernel
theorem d_Ma_macroLength_62 : decode b_Ma_macroLength 62 = .ok (.ifCond .ne 5, 3) := by decide +kernel
theorem d_Ma_macroLength_65 : decode b_Ma_macroLength 65 = .ok (.iconst 0, 1) := by decide +kernel
theorem d_Ma_macroLength_66 : decode b_Ma_macroLength 66 = .ok (.ireturn, 1) := by decide +kernel
theorem d_Ma_macroLength_67 : decode b_Ma_macroLength 67 = .ok (.iload_n 1, 1) := by decide +kernel
theorem d_Ma_macroLength_68 : decode b_Ma_macroLength 68 = .ok (.iconst 3, 1) := by decide +kernel
theorem d_Ma_macroLength_69 : decode b_Ma_macroLength 69 = .ok (.iadd, 1) := by decide +kernel
theorem d_Ma_macroLength_70 : decode b_Ma_macroLength 70 = .ok (.istore 4, 2) := by decide +kernel
theorem d_Ma_macroLength_72 : decode b_Ma_macroLength 72 = .ok (.aload_n 0, 1) := by decide +kernel
theorem d_Ma_macroLength_73 : decode b_Ma_macroLength 73 = .ok (.iload 4, 2) := by decide +kernel
theorem d_Ma_macroLength_75 : decode b_Ma_macroLength 75 = .ok (.invokevirtual 19, 3) := by decide +kernel
theorem d_Ma_macroLength_78 : decode b_Ma_macroLength 78 = .ok (.invokestatic 33, 3) := by decide +kernel
theorem d_Ma_macroLength_81 : decode b_Ma_macroLength 81 = .ok (.ifCond .eq 6, 3) := by decide +kernel
theorem d_Ma_macroLength_84 : decode b_Ma_macroLength 84 = .ok (.iinc 4 1, 3) := by decide +kernel
theorem d_Ma_macroLength_87 : decode b_Ma_macroLength 87 = .ok (.aload_n 0, 1) := by decide +kernel
theorem d_Ma_macroLength_88 : decode b_Ma_macroLength 88 = .ok (.iload 4, 2) := by decide +kernel
theorem d_Ma_macroLength_90 : decode b_Ma_macroLength 90 = .ok (.invokevirtual 19, 3) := by decide +kernel
theorem d_Ma_macroLength_93 : decode b_Ma_macroLength 93 = .ok (.bipush 114, 2) := by decide +kernel
theorem d_Ma_macroLength_95 : decode b_Ma_macroLength 95 = .ok (.if_icmp .ne 6, 3) := by decide +kernel
theorem d_Ma_macroLength_98 : decode b_Ma_macroLength 98 = .ok (.iinc 4 1, 3) := by decide +kernel
theorem d_Ma_macroLength_101 : decode b_Ma_macroLength 101 = .ok (.iload 4, 2) := by decide +kernel
theorem d_Ma_macroLength_103 : decode b_Ma_macroLength 103 = .ok (.iload_n 2, 1) := by decide +kernel
theorem d_Ma_macroLength_104 : decode b_Ma_macroLength 104 = .ok (.if_icmp .ge 23, 3) := by decide +kernel
theorem d_Ma_macroLength_107 : decode b_Ma_macroLength 107 = .ok (.aload_n 0, 1) := by decide +kernel
theorem d_Ma_macroLength_108 : decode b_Ma_macroLength 108 = .ok (.iload 4, 2) := by decide +kernel
theorem d_Ma_macroLength_110 : decode b_Ma_macroLength 110 = .ok (.invokevirtual 19, 3) := by decide +kernel
theorem d_Ma_macroLength_113 : decode b_Ma_macroLength 113 = .ok (.bipush 125, 2) := by decide +kernel
theorem d_Ma_macroLength_115 : decode b_Ma_macroLength 115 = .ok (.if_icmp .ne 12, 3) := by decide +kernel
theorem d_Ma_macroLength_118 : decode b_Ma_macroLength 118 = .ok (.iload 4, 2) := by decide +kernel
theorem d_Ma_macroLength_120 : decode b_Ma_macroLength 120 = .ok (.iconst 1, 1) := by decide +kernel
theorem d_Ma_macroLength_121 : decode b_Ma_macroLength 121 = .ok (.iadd, 1) := by decide +kernel
theorem d_Ma_macroLength_122 : decode b_Ma_macroLength 122 = .ok (.iload_n 1, 1) := by decide +kernel
theorem d_Ma_macroLength_123 : decode b_Ma_macroLength 123 = .ok (.isub, 1) := by decide +kernel
theorem d_Ma_macroLength_124 : decode b_Ma_macroLength 124 = .ok (.goto 4, 3) := by decide +kernel
theorem d_Ma_macroLength_127 : decode b_Ma_macroLength 127 = .ok (.iconst 0, 1) := by decide +kernel
theorem d_Ma_macroLength_128 : decode b_Ma_macroLength 128 = .ok (.ireturn, 1) := by decide +kernel
theorem d_Ma_isTarget_0 : decode b_Ma_isTarget 0 = .ok (.iload_n 1, 1) := by decide +kernel
theorem d_Ma_isTarget_1 : decode b_Ma_isTarget 1 = .ok (.istore_n 3, 1) := by decide +kernel
theorem d_Ma_isTarget_2 : decode b_Ma_isTarget 2 = .ok (.iload_n 3, 1) := by decide +kernel
theorem d_Ma_isTarget_3 : decode b_Ma_isTarget 3 = .ok (.iload_n 2, 1) := by decide +kernel
theorem d_Ma_isTarget_4 : decode b_Ma_isTarget 4 = .ok (.if_icmp .ge 61, 3) := by decide +kernel
theorem d_Ma_isTarget_7 : decode b_Ma_isTarget 7 = .ok (.aload_n 0, 1) := by decide +kernel
theorem d_Ma_isTarget_8 : decode b_Ma_isTarget 8 = .ok (.iload_n 3, 1) := by decide +kernel
theorem d_Ma_isTarget_9 : decode b_Ma_isTarget 9 = .ok (.invokevirtual 19, 3) := by decide +kernel
theorem d_Ma_isTarget_12 : decode b_Ma_isTarget 12 = .ok (.istore 4, 2) := by decide +kernel
theorem d_Ma_isTarget_14 : decode b_Ma_isTarget 14 = .ok (.iload 4, 2) := by decide +kernel
theorem d_Ma_isTarget_16 : decode b_Ma_isTarget 16 = .ok (.bipush 33, 2) := by decide +kernel
theorem d_Ma_isTarget_18 : decode b_Ma_isTarget 18 = .ok (.if_icmp .lt 10, 3) := by decide +kernel
theorem d_Ma_isTarget_21 : decode b_Ma_isTarget 21 = .ok (.iload 4, 2) := by decide +kernel
theorem d_Ma_isTarget_23 : decode b_Ma_isTarget 23 = .ok (.bipush 126, 2) := by decide +kernel
theorem d_Ma_isTarget_25 : decode b_Ma_isTarget 25 = .ok (.if_icmp .le 5, 3) := by decide +kernel
theorem d_Ma_isTarget_28 : decode b_Ma_isTarget 28 = .ok (.iconst 0, 1) := by decide +kernel
theorem d_Ma_isTarget_29 : decode b_Ma_isTarget 29 = .ok (.ireturn, 1) := by decide +kernel
theorem d_Ma_isTarget_30 : decode b_Ma_isTarget 30 = .ok (.iload 4, 2) := by decide +kernel
theorem d_Ma_isTarget_32 : decode b_Ma_isTarget 32 = .ok (.bipush 37, 2) := by decide +kernel
theorem d_Ma_isTarget_34 : decode b_Ma_isTarget 34 = .ok (.if_icmp .ne 25, 3) := by decide +kernel
theorem d_Ma_isTarget_37 : decode b_Ma_isTarget 37 = .ok (.aload_n 0, 1) := by decide +kernel
theorem d_Ma_isTarget_38 : decode b_Ma_isTarget 38 = .ok (.iload_n 3, 1) := by decide +kernel
theorem d_Ma_isTarget_39 : decode b_Ma_isTarget 39 = .ok (.iload_n 2, 1) := by decide +kernel
theorem d_Ma_isTarget_40 : decode b_Ma_isTarget 40 = .ok (.invokestatic 25, 3) := by decide +kernel
theorem d_Ma_isTarget_43 : decode b_Ma_isTarget 43 = .ok (.istore 5, 2) := by decide +kernel
theorem d_Ma_isTarget_45 : decode b_Ma_isTarget 45 = .ok (.iload 5, 2) := by decide +kernel
theorem d_Ma_isTarget_47 : decode b_Ma_isTarget 47 = .ok (.ifCond .ne 5, 3) := by decide +kernel
theorem d_Ma_isTarget_50 : decode b_Ma_isTarget 50 = .ok (.iconst 0, 1) := by decide +kernel
theorem d_Ma_isTarget_51 : decode b_Ma_isTarget 51 = .ok (.ireturn, 1) := by decide +kernel
theorem d_Ma_isTarget_52 : decode b_Ma_isTarget 52 = .ok (.iload_n 3, 1) := by decide +kernel
theorem d_Ma_isTarget_53 : decode b_Ma_isTarget 53 = .ok (.iload 5, 2) := by decide +kernel
theorem d_Ma_isTarget_55 : decode b_Ma_isTarget 55 = .ok (.iconst 1, 1) := by decide +kernel
theorem d_Ma_isTarget_56 : decode b_Ma_isTarget 56 = .ok (.isub, 1) := by decide +kernel
theorem d_Ma_isTarget_57 : decode b_Ma_isTarget 57 = .ok (.iadd, 1) := by decide +kernel
theorem d_Ma_isTarget_58 : decode b_Ma_isTarget 58 = .ok (.istore_n 3, 1) := by decide +kernel
theorem d_Ma_isTarget_59 : decode b_Ma_isTarget 59 = .ok (.iinc 3 1, 3) := by decide +kernel
theorem d_Ma_isTarget_62 : decode b_Ma_isTarget 62 = .ok (.goto (-60), 3) := by decide +kernel
theorem d_Ma_isTarget_65 : decode b_Ma_isTarget 65 = .ok (.iload_n 2, 1) := by decide +kernel
theorem d_Ma_isTarget_66 : decode b_Ma_isTarget 66 = .ok (.iload_n 1, 1) := by decide +kernel
theorem d_Ma_isTarget_67 : decode b_Ma_isTarget 67 = .ok (.if_icmp .le 7, 3) := by decide +kernel
theorem d_Ma_isTarget_70 : decode b_Ma_isTarget 70 = .ok (.iconst 1, 1) := by decide +kernel
theorem d_Ma_isTarget_71 : decode b_Ma_isTarget 71 = .ok (.goto 4, 3) := by decide +kernel
theorem d_Ma_isTarget_74 : decode b_Ma_isTarget 74 = .ok (.iconst 0, 1) := by decide +kernel
theorem d_Ma_isTarget_75 : decode b_Ma_isTarget 75 = .ok (.ireturn, 1) := by decide +kernel
