theorem lm_Arr_310 : Cond.methodLink "java/util/Arrays" 310 ⟨"[B", "clone", "()Ljava/lang/Object;"⟩ ∈ TB := (tb_in 247 (by decide +kernel) rfl)
theorem lm_Arr_304 : Cond.methodLink "java/util/Arrays" 304 ⟨"java/lang/Math", "min", "(II)I"⟩ ∈ TB := (tb_in 254 (by decide +kernel) rfl)
theorem lm_Arr_150 : Cond.methodLink "java/util/Arrays" 150 ⟨"java/lang/System", "arraycopy", "(Ljava/lang/Object;ILjava/lang/Object;II)V"⟩ ∈ TB := (tb_in 255 (by decide +kernel) rfl)
theorem ls_Str_38 : Cond.fieldLink "java/lang/String" 38 "java/lang/String" "COMPACT_STRINGS" "Z" ∈ TB := (tb_in 422 (by decide +kernel) rfl)
theorem ls_Str_15 : Cond.fieldLink "java/lang/String" 15 "java/lang/String" "coder" "B" ∈ TB := (tb_in 933 (by decide +kernel) rfl)
theorem ls_Str_9 : Cond.fieldLink "java/lang/String" 9 "java/lang/String" "value" "[B" ∈ TB := (tb_in 932 (by decide +kernel) rfl)
set_option maxRecDepth 100000 in
theorem mw_Str_coder : MW y_Str_coder b_Str_coder 1 (some .byte) 0 := ⟨tb_in 421 rfl rfl, (tb_in 45 (by decide +kernel) rfl), ⟨by decide +kernel, by decide +kernel, by decide +kernel⟩, (Nat.le_of_ble_eq_true rfl)⟩
theorem ct_Str_335 : CT "java/lang/String" 335 y_Str_coder b_Str_coder 1 (some .byte) 0 := ⟨mw_Str_coder, (tb_in 418 (by decide +kernel) rfl), (tb_in 419 (by decide +kernel) rfl), (tb_in 420 (by decide +kernel) rfl), rfl⟩
set_option maxRecDepth 100000 in
theorem mw_Str_checkIndex : MW y_Str_checkIndex b_Str_checkIndex 2 none 2 := ⟨tb_in 437 rfl rfl, (tb_in 45 (by decide +kernel) rfl), ⟨by decide +kernel, by decide +kernel, by decide +kernel⟩, (Nat.le_of_ble_eq_true rfl)⟩
theorem cs_SL_9 : CS "java/lang/StringLatin1" 9 y_Str_checkIndex b_Str_checkIndex 2 none 2 := ⟨mw_Str_checkIndex, (tb_in 435 (by decide +kernel) rfl), (tb_in 436 (by decide +kernel) rfl)⟩
set_option maxRecDepth 100000 in
theorem mw_Str_isLatin1 : MW y_Str_isLatin1 b_Str_isLatin1 1 (some .boolean) 0 := ⟨tb_in 431 rfl rfl, (tb_in 45 (by decide +kernel) rfl), ⟨by decide +kernel, by decide +kernel, by decide +kernel⟩, (Nat.le_of_ble_eq_true rfl)⟩
theorem ct_Str_492 : CT "java/lang/String" 492 y_Str_isLatin1 b_Str_isLatin1 1 (some .boolean) 0 := ⟨mw_Str_isLatin1, (tb_in 428 (by decide +kernel) rfl), (tb_in 429 (by decide +kernel) rfl), (tb_in 430 (by decide +kernel) rfl), rfl⟩
set_option maxRecDepth 100000 in
theorem mw_SL_charAt : MW y_SL_charAt b_SL_charAt 2 (some .char) 2 := ⟨tb_in 434 rfl rfl, (tb_in 46 (by decide +kernel) rfl), ⟨by decide +kernel, by decide +kernel, by decide +kernel⟩, (Nat.le_of_ble_eq_true rfl)⟩
theorem cs_Str_495 : CS "java/lang/String" 495 y_SL_charAt b_SL_charAt 2 (some .char) 2 := ⟨mw_SL_charAt, (tb_in 432 (by decide +kernel) rfl), (tb_in 433 (by decide +kernel) rfl)⟩
set_option maxRecDepth 100000 in
theorem mw_SU_charAt : MW y_SU_charAt b_SU_charAt 2 (some .char) 2 := ⟨tb_in 445 rfl rfl, (tb_in 48 (by decide +kernel) rfl), ⟨by decide +kernel, by decide +kernel, by decide +kernel⟩, (Nat.le_of_ble_eq_true rfl)⟩
theorem cs_Str_498 : CS "java/lang/String" 498 y_SU_charAt b_SU_charAt 2 (some .char) 2 := ⟨mw_SU_charAt, (tb_in 443 (by decide +kernel) rfl), (tb_in 444 (by decide +kernel) rfl)⟩
theorem ls_Str_1053 : Cond.fieldLink "java/lang/String" 1053 "jdk/internal/util/Preconditions" "SIOOBE_FORMATTER" "Ljava/util/function/BiFunction;" ∈ TB := (tb_in 438 (by decide +kernel) rfl)
set_option maxRecDepth 100000 in
theorem mw_Pre_checkIndex : MW y_Pre_checkIndex b_Pre_checkIndex 3 (some .int) 3 := ⟨tb_in 442 rfl rfl, (tb_in 47 (by decide +kernel) rfl), ⟨by decide +kernel, by decide +kernel, by decide +kernel⟩, (Nat.le_of_ble_eq_true rfl)⟩
theorem cs_Str_1059 : CS "java/lang/String" 1059 y_Pre_checkIndex b_Pre_checkIndex 3 (some .int) 3 := ⟨mw_Pre_checkIndex, (tb_in 440 (by decide +kernel) rfl), (tb_in 441 (by decide +kernel) rfl)⟩
theorem fws_By : ∀ w ∈ u_ws R_By F_By 3, w ∈ TB := by decide +kernel
theorem ft_By : FT cBy t_By := fun C T N h => by
  have h2 : some (R_By, F_By, 3) = some (C, T, N) := h
  cases h2
  exact ⟨by decide +kernel, by decide +kernel⟩
theorem fl_By_23 : FL "SendPolicy$Bytes" 23 cBy 2 := ⟨R_By, F_By, 3, rfl, fws_By, (Nat.le_of_ble_eq_true rfl), (tb_in 68 (by decide +kernel) rfl)⟩
theorem fl_By_7 : FL "SendPolicy$Bytes" 7 cBy 0 := ⟨R_By, F_By, 3, rfl, fws_By, (Nat.le_of_ble_eq_true rfl), (tb_in 66 (by decide +kernel) rfl)⟩
theorem fl_By_19 : FL "SendPolicy$Bytes" 19 cBy 1 := ⟨R_By, F_By, 3, rfl, fws_By, (Nat.le_of_ble_eq_true rfl), (tb_in 67 (by decide +kernel) rfl)⟩
theorem lm_By_13 : Cond.methodLink "SendPolicy$Bytes" 13 ⟨"java/lang/Math", "min", "(II)I"⟩ ∈ TB := (tb_in 63 (by decide +kernel) rfl)
set_option maxRecDepth 100000 in
theorem mw_Arr_copyOf : MW y_Arr_copyOf b_Arr_copyOf 3 (some (.array .byte)) 2 := ⟨tb_in 246 rfl rfl, (tb_in 41 (by decide +kernel) rfl), ⟨by decide +kernel, by decide +kernel, by decide +kernel⟩, (Nat.le_of_ble_eq_true rfl)⟩
theorem cs_By_26 : CS "SendPolicy$Bytes" 26 y_Arr_copyOf b_Arr_copyOf 3 (some (.array .byte)) 2 := ⟨mw_Arr_copyOf, (tb_in 244 (by decide +kernel) rfl), (tb_in 245 (by decide +kernel) rfl)⟩
theorem fw_By_1 : FW cBy 1 := fun C T N h => by
  have h2 : some (R_By, F_By, 3) = some (C, T, N) := h
  cases h2
  rfl
theorem fw_By_2 : FW cBy 2 := fun C T N h => by
  have h2 : some (R_By, F_By, 3) = some (C, T, N) := h
  cases h2
  rfl
set_option maxRecDepth 100000 in
theorem mw_By_add : MW y_By_add b_By_add 2 none 1 := ⟨tb_in 243 rfl rfl, (tb_in 31 (by decide +kernel) rfl), ⟨by decide +kernel, by decide +kernel, by decide +kernel⟩, (Nat.le_of_ble_eq_true rfl)⟩
theorem cv_By_32 : CV "SendPolicy$Bytes" 32 y_By_add b_By_add 2 none 1 cBy := ⟨mw_By_add, (tb_in 240 (by decide +kernel) rfl), (tb_in 241 (by decide +kernel) rfl), (tb_in 242 (by decide +kernel) rfl), _, rfl, rfl⟩
theorem lm_By_36 : Cond.methodLink "SendPolicy$Bytes" 36 ⟨"java/lang/System", "arraycopy", "(Ljava/lang/Object;ILjava/lang/Object;II)V"⟩ ∈ TB := (tb_in 332 (by decide +kernel) rfl)
set_option maxRecDepth 100000 in
theorem mw_By_at : MW y_By_at b_By_at 2 (some .int) 1 := ⟨tb_in 286 rfl rfl, (tb_in 31 (by decide +kernel) rfl), ⟨by decide +kernel, by decide +kernel, by decide +kernel⟩, (Nat.le_of_ble_eq_true rfl)⟩
theorem cv_By_42 : CV "SendPolicy$Bytes" 42 y_By_at b_By_at 2 (some .int) 1 cBy := ⟨mw_By_at, (tb_in 283 (by decide +kernel) rfl), (tb_in 284 (by decide +kernel) rfl), (tb_in 285 (by decide +kernel) rfl), _, rfl, rfl⟩
set_option maxRecDepth 100000 in
theorem mw_Str_length : MW y_Str_length b_Str_length 1 (some .int) 0 := ⟨tb_in 417 rfl rfl, (tb_in 45 (by decide +kernel) rfl), ⟨by decide +kernel, by decide +kernel, by decide +kernel⟩, (Nat.le_of_ble_eq_true rfl)⟩
theorem ct_By_46 : CT "SendPolicy$Bytes" 46 y_Str_length b_Str_length 1 (some .int) 0 := ⟨mw_Str_length, (tb_in 414 (by decide +kernel) rfl), (tb_in 415 (by decide +kernel) rfl), (tb_in 416 (by decide +kernel) rfl), rfl⟩
set_option maxRecDepth 100000 in
theorem mw_Str_charAt : MW y_Str_charAt b_Str_charAt 2 (some .char) 1 := ⟨tb_in 427 rfl rfl, (tb_in 45 (by decide +kernel) rfl), ⟨by decide +kernel, by decide +kernel, by decide +kernel⟩, (Nat.le_of_ble_eq_true rfl)⟩
theorem ct_By_52 : CT "SendPolicy$Bytes" 52 y_Str_charAt b_Str_charAt 2 (some .char) 1 := ⟨mw_Str_charAt, (tb_in 424 (by decide +kernel) rfl), (tb_in 425 (by decide +kernel) rfl), (tb_in 426 (by decide +kernel) rfl), rfl⟩
theorem lm_By_1 : Cond.methodLink "SendPolicy$Bytes" 1 ⟨"java/lang/Object", "<init>", "()V"⟩ ∈ TB := (tb_in 62 (by decide +kernel) rfl)
theorem ff_By_0 : FF "SendPolicy$Bytes" cBy 0 := fun C T N h => by
  have h2 : some (R_By, F_By, 3) = some (C, T, N) := h
  cases h2
  exact ⟨rfl, rfl⟩
theorem cv_Si_18 : CV "SendPolicy$Signs" 18 y_By_at b_By_at 2 (some .int) 1 cBy := ⟨mw_By_at, (tb_in 293 (by decide +kernel) rfl), (tb_in 284 (by decide +kernel) rfl), (tb_in 285 (by decide +kernel) rfl), _, rfl, rfl⟩
set_option maxRecDepth 100000 in
theorem mw_Si_isNameSign : MW y_Si_isNameSign b_Si_isNameSign 1 (some .boolean) 1 := ⟨tb_in 296 rfl rfl, (tb_in 43 (by decide +kernel) rfl), ⟨by decide +kernel, by decide +kernel, by decide +kernel⟩, (Nat.le_of_ble_eq_true rfl)⟩
theorem cs_Si_24 : CS "SendPolicy$Signs" 24 y_Si_isNameSign b_Si_isNameSign 1 (some .boolean) 1 := ⟨mw_Si_isNameSign, (tb_in 294 (by decide +kernel) rfl), (tb_in 295 (by decide +kernel) rfl)⟩
set_option maxRecDepth 100000 in
theorem mw_Si_isLetter : MW y_Si_isLetter b_Si_isLetter 1 (some .boolean) 1 := ⟨tb_in 299 rfl rfl, (tb_in 43 (by decide +kernel) rfl), ⟨by decide +kernel, by decide +kernel, by decide +kernel⟩, (Nat.le_of_ble_eq_true rfl)⟩
theorem cs_Si_9 : CS "SendPolicy$Signs" 9 y_Si_isLetter b_Si_isLetter 1 (some .boolean) 1 := ⟨mw_Si_isLetter, (tb_in 297 (by decide +kernel) rfl), (tb_in 298 (by decide +kernel) rfl)⟩
set_option maxRecDepth 100000 in
theorem mw_Si_isDigit : MW y_Si_isDigit b_Si_isDigit 1 (some .boolean) 1 := ⟨tb_in 302 rfl rfl, (tb_in 43 (by decide +kernel) rfl), ⟨by decide +kernel, by decide +kernel, by decide +kernel⟩, (Nat.le_of_ble_eq_true rfl)⟩
theorem cs_Si_15 : CS "SendPolicy$Signs" 15 y_Si_isDigit b_Si_isDigit 1 (some .boolean) 1 := ⟨mw_Si_isDigit, (tb_in 300 (by decide +kernel) rfl), (tb_in 301 (by decide +kernel) rfl)⟩
theorem cv_Ma_19 : CV "SendPolicy$Macros" 19 y_By_at b_By_at 2 (some .int) 1 cBy := ⟨mw_By_at, (tb_in 498 (by decide +kernel) rfl), (tb_in 284 (by decide +kernel) rfl), (tb_in 285 (by decide +kernel) rfl), _, rfl, rfl⟩
set_option maxRecDepth 100000 in
theorem mw_Ma_isMacroLetter : MW y_Ma_isMacroLetter b_Ma_isMacroLetter 1 (some .boolean) 1 := ⟨tb_in 504 rfl rfl, (tb_in 35 (by decide +kernel) rfl), ⟨by decide +kernel, by decide +kernel, by decide +kernel⟩, (Nat.le_of_ble_eq_true rfl)⟩
theorem cs_Ma_29 : CS "SendPolicy$Macros" 29 y_Ma_isMacroLetter b_Ma_isMacroLetter 1 (some .boolean) 1 := ⟨mw_Ma_isMacroLetter, (tb_in 502 (by decide +kernel) rfl), (tb_in 503 (by decide +kernel) rfl)⟩
set_option maxRecDepth 100000 in
theorem mw_Ma_isPartNumber : MW y_Ma_isPartNumber b_Ma_isPartNumber 1 (some .boolean) 1 := ⟨tb_in 507 rfl rfl, (tb_in 35 (by decide +kernel) rfl), ⟨by decide +kernel, by decide +kernel, by decide +kernel⟩, (Nat.le_of_ble_eq_true rfl)⟩
theorem cs_Ma_33 : CS "SendPolicy$Macros" 33 y_Ma_isPartNumber b_Ma_isPartNumber 1 (some .boolean) 1 := ⟨mw_Ma_isPartNumber, (tb_in 505 (by decide +kernel) rfl), (tb_in 506 (by decide +kernel) rfl)⟩
set_option maxRecDepth 100000 in
theorem mw_Ma_macroLength : MW y_Ma_macroLength b_Ma_macroLength 5 (some .int) 3 := ⟨tb_in 501 rfl rfl, (tb_in 35 (by decide +kernel) rfl), ⟨by decide +kernel, by decide +kernel, by decide +kernel⟩, (Nat.le_of_ble_eq_true rfl)⟩
theorem cs_Ma_25 : CS "SendPolicy$Macros" 25 y_Ma_macroLength b_Ma_macroLength 5 (some .int) 3 := ⟨mw_Ma_macroLength, (tb_in 499 (by decide +kernel) rfl), (tb_in 500 (by decide +kernel) rfl)⟩
