def y_Int_bitCount : MethodName := ⟨"java/lang/Integer", "bitCount", "(I)I"⟩
theorem yf_Int_bitCount : jY y_Int_bitCount prog_14_method_49_code 1 (some .int) 1 := ⟨w_337, w_22, by decide, by decide, by decide +kernel⟩
def y_Math_floorMod : MethodName := ⟨"java/lang/Math", "floorMod", "(II)I"⟩
theorem yf_Math_floorMod : jY y_Math_floorMod prog_15_method_50_code 3 (some .int) 2 := ⟨w_304, w_15, by decide, by decide, by decide +kernel⟩
def y_Math_min : MethodName := ⟨"java/lang/Math", "min", "(II)I"⟩
theorem yf_Math_min : jY y_Math_min prog_15_method_69_code 2 (some .int) 2 := ⟨w_307, w_15, by decide, by decide, by decide +kernel⟩
def y_Math_max : MethodName := ⟨"java/lang/Math", "max", "(II)I"⟩
theorem yf_Math_max : jY y_Math_max prog_15_method_65_code 2 (some .int) 2 := ⟨w_324, w_15, by decide, by decide, by decide +kernel⟩
def y_Str_indexOf : MethodName := ⟨"java/lang/String", "indexOf", "(I)I"⟩
theorem yf_Str_indexOf : jY y_Str_indexOf prog_17_method_79_code 2 (some .int) 1 := ⟨w_473, w_13, by decide, by decide, by decide +kernel⟩
def y_Str_indexOf2 : MethodName := ⟨"java/lang/String", "indexOf", "(II)I"⟩
theorem yf_Str_indexOf2 : jY y_Str_indexOf2 prog_17_method_80_code 3 (some .int) 2 := ⟨w_477, w_13, by decide, by decide, by decide +kernel⟩
def y_Str_isLatin1 : MethodName := ⟨"java/lang/String", "isLatin1", "()Z"⟩
theorem yf_Str_isLatin1 : jY y_Str_isLatin1 prog_17_method_154_code 1 (some .boolean) 0 := ⟨w_481, w_13, by decide, by decide, by decide +kernel⟩
def y_Str_length : MethodName := ⟨"java/lang/String", "length", "()I"⟩
theorem yf_Str_length : jY y_Str_length prog_17_method_54_code 1 (some .int) 0 := ⟨w_487, w_13, by decide, by decide, by decide +kernel⟩
def y_Str_coder : MethodName := ⟨"java/lang/String", "coder", "()B"⟩
theorem yf_Str_coder : jY y_Str_coder prog_17_method_152_code 1 (some .byte) 0 := ⟨w_491, w_13, by decide, by decide, by decide +kernel⟩
def y_Lat_indexOf : MethodName := ⟨"java/lang/StringLatin1", "indexOf", "([BIII)I"⟩
theorem yf_Lat_indexOf : jY y_Lat_indexOf prog_18_method_22_code 4 (some .int) 4 := ⟨w_494, w_14, by decide, by decide, by decide +kernel⟩
def y_Lat_canEncode : MethodName := ⟨"java/lang/StringLatin1", "canEncode", "(I)Z"⟩
theorem yf_Lat_canEncode : jY y_Lat_canEncode prog_18_method_4_code 1 (some .boolean) 1 := ⟨w_497, w_14, by decide, by decide, by decide +kernel⟩
def y_Lat_indexOfChar : MethodName := ⟨"java/lang/StringLatin1", "indexOfChar", "([BIII)I"⟩
theorem yf_Lat_indexOfChar : jY y_Lat_indexOfChar prog_18_method_23_code 6 (some .int) 4 := ⟨w_502, w_14, by decide, by decide, by decide +kernel⟩
abbrev b_Int_bitCount : ByteArray := prog_14_method_49_code
theorem d_Int_bitCount_0 : decode b_Int_bitCount 0 = .ok (.iload_n 0, 1) := by decide +kernel
theorem d_Int_bitCount_1 : decode b_Int_bitCount 1 = .ok (.iload_n 0, 1) := by decide +kernel
theorem d_Int_bitCount_2 : decode b_Int_bitCount 2 = .ok (.iconst 1, 1) := by decide +kernel
theorem d_Int_bitCount_3 : decode b_Int_bitCount 3 = .ok (.iushr, 1) := by decide +kernel
theorem d_Int_bitCount_4 : decode b_Int_bitCount 4 = .ok (.ldc_w 265, 3) := by decide +kernel
theorem d_Int_bitCount_7 : decode b_Int_bitCount 7 = .ok (.iand, 1) := by decide +kernel
theorem d_Int_bitCount_8 : decode b_Int_bitCount 8 = .ok (.isub, 1) := by decide +kernel
theorem d_Int_bitCount_9 : decode b_Int_bitCount 9 = .ok (.istore_n 0, 1) := by decide +kernel
theorem d_Int_bitCount_10 : decode b_Int_bitCount 10 = .ok (.iload_n 0, 1) := by decide +kernel
theorem d_Int_bitCount_11 : decode b_Int_bitCount 11 = .ok (.ldc_w 266, 3) := by decide +kernel
theorem d_Int_bitCount_14 : decode b_Int_bitCount 14 = .ok (.iand, 1) := by decide +kernel
theorem d_Int_bitCount_15 : decode b_Int_bitCount 15 = .ok (.iload_n 0, 1) := by decide +kernel
theorem d_Int_bitCount_16 : decode b_Int_bitCount 16 = .ok (.iconst 2, 1) := by decide +kernel
theorem d_Int_bitCount_17 : decode b_Int_bitCount 17 = .ok (.iushr, 1) := by decide +kernel
theorem d_Int_bitCount_18 : decode b_Int_bitCount 18 = .ok (.ldc_w 266, 3) := by decide +kernel
theorem d_Int_bitCount_21 : decode b_Int_bitCount 21 = .ok (.iand, 1) := by decide +kernel
theorem d_Int_bitCount_22 : decode b_Int_bitCount 22 = .ok (.iadd, 1) := by decide +kernel
theorem d_Int_bitCount_23 : decode b_Int_bitCount 23 = .ok (.istore_n 0, 1) := by decide +kernel
theorem d_Int_bitCount_24 : decode b_Int_bitCount 24 = .ok (.iload_n 0, 1) := by decide +kernel
theorem d_Int_bitCount_25 : decode b_Int_bitCount 25 = .ok (.iload_n 0, 1) := by decide +kernel
theorem d_Int_bitCount_26 : decode b_Int_bitCount 26 = .ok (.iconst 4, 1) := by decide +kernel
theorem d_Int_bitCount_27 : decode b_Int_bitCount 27 = .ok (.iushr, 1) := by decide +kernel
theorem d_Int_bitCount_28 : decode b_Int_bitCount 28 = .ok (.iadd, 1) := by decide +kernel
theorem d_Int_bitCount_29 : decode b_Int_bitCount 29 = .ok (.ldc_w 267, 3) := by decide +kernel
theorem d_Int_bitCount_32 : decode b_Int_bitCount 32 = .ok (.iand, 1) := by decide +kernel
theorem d_Int_bitCount_33 : decode b_Int_bitCount 33 = .ok (.istore_n 0, 1) := by decide +kernel
theorem d_Int_bitCount_34 : decode b_Int_bitCount 34 = .ok (.iload_n 0, 1) := by decide +kernel
theorem d_Int_bitCount_35 : decode b_Int_bitCount 35 = .ok (.iload_n 0, 1) := by decide +kernel
theorem d_Int_bitCount_36 : decode b_Int_bitCount 36 = .ok (.bipush 8, 2) := by decide +kernel
theorem d_Int_bitCount_38 : decode b_Int_bitCount 38 = .ok (.iushr, 1) := by decide +kernel
theorem d_Int_bitCount_39 : decode b_Int_bitCount 39 = .ok (.iadd, 1) := by decide +kernel
theorem d_Int_bitCount_40 : decode b_Int_bitCount 40 = .ok (.istore_n 0, 1) := by decide +kernel
theorem d_Int_bitCount_41 : decode b_Int_bitCount 41 = .ok (.iload_n 0, 1) := by decide +kernel
theorem d_Int_bitCount_42 : decode b_Int_bitCount 42 = .ok (.iload_n 0, 1) := by decide +kernel
theorem d_Int_bitCount_43 : decode b_Int_bitCount 43 = .ok (.bipush 16, 2) := by decide +kernel
theorem d_Int_bitCount_45 : decode b_Int_bitCount 45 = .ok (.iushr, 1) := by decide +kernel
theorem d_Int_bitCount_46 : decode b_Int_bitCount 46 = .ok (.iadd, 1) := by decide +kernel
theorem d_Int_bitCount_47 : decode b_Int_bitCount 47 = .ok (.istore_n 0, 1) := by decide +kernel
theorem d_Int_bitCount_48 : decode b_Int_bitCount 48 = .ok (.iload_n 0, 1) := by decide +kernel
theorem d_Int_bitCount_49 : decode b_Int_bitCount 49 = .ok (.bipush 63, 2) := by decide +kernel
theorem d_Int_bitCount_51 : decode b_Int_bitCount 51 = .ok (.iand, 1) := by decide +kernel
theorem d_Int_bitCount_52 : decode b_Int_bitCount 52 = .ok (.ireturn, 1) := by decide +kernel
abbrev b_Math_floorMod : ByteArray := prog_15_method_50_code
theorem d_Math_floorMod_0 : decode b_Math_floorMod 0 = .ok (.iload_n 0, 1) := by decide +kernel
theorem d_Math_floorMod_1 : decode b_Math_floorMod 1 = .ok (.iload_n 1, 1) := by decide +kernel
theorem d_Math_floorMod_2 : decode b_Math_floorMod 2 = .ok (.irem, 1) := by decide +kernel
theorem d_Math_floorMod_3 : decode b_Math_floorMod 3 = .ok (.istore_n 2, 1) := by decide +kernel
theorem d_Math_floorMod_4 : decode b_Math_floorMod 4 = .ok (.iload_n 0, 1) := by decide +kernel
theorem d_Math_floorMod_5 : decode b_Math_floorMod 5 = .ok (.iload_n 1, 1) := by decide +kernel
theorem d_Math_floorMod_6 : decode b_Math_floorMod 6 = .ok (.ixor, 1) := by decide +kernel
theorem d_Math_floorMod_7 : decode b_Math_floorMod 7 = .ok (.ifCond .ge 11, 3) := by decide +kernel
theorem d_Math_floorMod_10 : decode b_Math_floorMod 10 = .ok (.iload_n 2, 1) := by decide +kernel
theorem d_Math_floorMod_11 : decode b_Math_floorMod 11 = .ok (.ifCond .eq 7, 3) := by decide +kernel
theorem d_Math_floorMod_14 : decode b_Math_floorMod 14 = .ok (.iload_n 2, 1) := by decide +kernel
theorem d_Math_floorMod_15 : decode b_Math_floorMod 15 = .ok (.iload_n 1, 1) := by decide +kernel
theorem d_Math_floorMod_16 : decode b_Math_floorMod 16 = .ok (.iadd, 1) := by decide +kernel
theorem d_Math_floorMod_17 : decode b_Math_floorMod 17 = .ok (.ireturn, 1) := by decide +kernel
theorem d_Math_floorMod_18 : decode b_Math_floorMod 18 = .ok (.iload_n 2, 1) := by decide +kernel
theorem d_Math_floorMod_19 : decode b_Math_floorMod 19 = .ok (.ireturn, 1) := by decide +kernel
abbrev b_Math_min : ByteArray := prog_15_method_69_code
theorem d_Math_min_0 : decode b_Math_min 0 = .ok (.iload_n 0, 1) := by decide +kernel
theorem d_Math_min_1 : decode b_Math_min 1 = .ok (.iload_n 1, 1) := by decide +kernel
theorem d_Math_min_2 : decode b_Math_min 2 = .ok (.if_icmp .gt 7, 3) := by decide +kernel
theorem d_Math_min_5 : decode b_Math_min 5 = .ok (.iload_n 0, 1) := by decide +kernel
theorem d_Math_min_6 : decode b_Math_min 6 = .ok (.goto 4, 3) := by decide +kernel
theorem d_Math_min_9 : decode b_Math_min 9 = .ok (.iload_n 1, 1) := by decide +kernel
theorem d_Math_min_10 : decode b_Math_min 10 = .ok (.ireturn, 1) := by decide +kernel
abbrev b_Math_max : ByteArray := prog_15_method_65_code
theorem d_Math_max_0 : decode b_Math_max 0 = .ok (.iload_n 0, 1) := by decide +kernel
theorem d_Math_max_1 : decode b_Math_max 1 = .ok (.iload_n 1, 1) := by decide +kernel
theorem d_Math_max_2 : decode b_Math_max 2 = .ok (.if_icmp .lt 7, 3) := by decide +kernel
theorem d_Math_max_5 : decode b_Math_max 5 = .ok (.iload_n 0, 1) := by decide +kernel
theorem d_Math_max_6 : decode b_Math_max 6 = .ok (.goto 4, 3) := by decide +kernel
theorem d_Math_max_9 : decode b_Math_max 9 = .ok (.iload_n 1, 1) := by decide +kernel
theorem d_Math_max_10 : decode b_Math_max 10 = .ok (.ireturn, 1) := by decide +kernel
abbrev b_Str_indexOf : ByteArray := prog_17_method_79_code
theorem d_Str_indexOf_0 : decode b_Str_indexOf 0 = .ok (.aload_n 0, 1) := by decide +kernel
theorem d_Str_indexOf_1 : decode b_Str_indexOf 1 = .ok (.iload_n 1, 1) := by decide +kernel
theorem d_Str_indexOf_2 : decode b_Str_indexOf 2 = .ok (.iconst 0, 1) := by decide +kernel
theorem d_Str_indexOf_3 : decode b_Str_indexOf 3 = .ok (.invokevirtual 633, 3) := by decide +kernel
theorem d_Str_indexOf_6 : decode b_Str_indexOf 6 = .ok (.ireturn, 1) := by decide +kernel
abbrev b_Str_indexOf2 : ByteArray := prog_17_method_80_code
theorem d_Str_indexOf2_0 : decode b_Str_indexOf2 0 = .ok (.aload_n 0, 1) := by decide +kernel
theorem d_Str_indexOf2_1 : decode b_Str_indexOf2 1 = .ok (.invokevirtual 492, 3) := by decide +kernel
theorem d_Str_indexOf2_4 : decode b_Str_indexOf2 4 = .ok (.ifCond .eq 19, 3) := by decide +kernel
theorem d_Str_indexOf2_7 : decode b_Str_indexOf2 7 = .ok (.aload_n 0, 1) := by decide +kernel
theorem d_Str_indexOf2_8 : decode b_Str_indexOf2 8 = .ok (.getfield 9, 3) := by decide +kernel
theorem d_Str_indexOf2_11 : decode b_Str_indexOf2 11 = .ok (.iload_n 1, 1) := by decide +kernel
theorem d_Str_indexOf2_12 : decode b_Str_indexOf2 12 = .ok (.iload_n 2, 1) := by decide +kernel
theorem d_Str_indexOf2_13 : decode b_Str_indexOf2 13 = .ok (.aload_n 0, 1) := by decide +kernel
theorem d_Str_indexOf2_14 : decode b_Str_indexOf2 14 = .ok (.invokevirtual 505, 3) := by decide +kernel
theorem d_Str_indexOf2_17 : decode b_Str_indexOf2 17 = .ok (.invokestatic 637, 3) := by decide +kernel
theorem d_Str_indexOf2_20 : decode b_Str_indexOf2 20 = .ok (.goto 16, 3) := by decide +kernel
theorem d_Str_indexOf2_23 : decode b_Str_indexOf2 23 = .ok (.aload_n 0, 1) := by decide +kernel
theorem d_Str_indexOf2_24 : decode b_Str_indexOf2 24 = .ok (.getfield 9, 3) := by decide +kernel
theorem d_Str_indexOf2_27 : decode b_Str_indexOf2 27 = .ok (.iload_n 1, 1) := by decide +kernel
theorem d_Str_indexOf2_28 : decode b_Str_indexOf2 28 = .ok (.iload_n 2, 1) := by decide +kernel
theorem d_Str_indexOf2_29 : decode b_Str_indexOf2 29 = .ok (.aload_n 0, 1) := by decide +kernel
theorem d_Str_indexOf2_30 : decode b_Str_indexOf2 30 = .ok (.invokevirtual 505, 3) := by decide +kernel
theorem d_Str_indexOf2_33 : decode b_Str_indexOf2 33 = .ok (.invokestatic 640, 3) := by decide +kernel
theorem d_Str_indexOf2_36 : decode b_Str_indexOf2 36 = .ok (.ireturn, 1) := by decide +kernel
abbrev b_Str_isLatin1 : ByteArray := prog_17_method_154_code
theorem d_Str_isLatin1_0 : decode b_Str_isLatin1 0 = .ok (.getstatic 38, 3) := by decide +kernel
theorem d_Str_isLatin1_3 : decode b_Str_isLatin1 3 = .ok (.ifCond .eq 14, 3) := by decide +kernel
theorem d_Str_isLatin1_6 : decode b_Str_isLatin1 6 = .ok (.aload_n 0, 1) := by decide +kernel
theorem d_Str_isLatin1_7 : decode b_Str_isLatin1 7 = .ok (.getfield 15, 3) := by decide +kernel
theorem d_Str_isLatin1_10 : decode b_Str_isLatin1 10 = .ok (.ifCond .ne 7, 3) := by decide +kernel
theorem d_Str_isLatin1_13 : decode b_Str_isLatin1 13 = .ok (.iconst 1, 1) := by decide +kernel
theorem d_Str_isLatin1_14 : decode b_Str_isLatin1 14 = .ok (.goto 4, 3) := by decide +kernel
theorem d_Str_isLatin1_17 : decode b_Str_isLatin1 17 = .ok (.iconst 0, 1) := by decide +kernel
theorem d_Str_isLatin1_18 : decode b_Str_isLatin1 18 = .ok (.ireturn, 1) := by decide +kernel
abbrev b_Str_length : ByteArray := prog_17_method_54_code
theorem d_Str_length_0 : decode b_Str_length 0 = .ok (.aload_n 0, 1) := by decide +kernel
theorem d_Str_length_1 : decode b_Str_length 1 = .ok (.getfield 9, 3) := by decide +kernel
theorem d_Str_length_4 : decode b_Str_length 4 = .ok (.arraylength, 1) := by decide +kernel
theorem d_Str_length_5 : decode b_Str_length 5 = .ok (.aload_n 0, 1) := by decide +kernel
theorem d_Str_length_6 : decode b_Str_length 6 = .ok (.invokevirtual 335, 3) := by decide +kernel
theorem d_Str_length_9 : decode b_Str_length 9 = .ok (.ishr, 1) := by decide +kernel
theorem d_Str_length_10 : decode b_Str_length 10 = .ok (.ireturn, 1) := by decide +kernel
abbrev b_Str_coder : ByteArray := prog_17_method_152_code
theorem d_Str_coder_0 : decode b_Str_coder 0 = .ok (.getstatic 38, 3) := by decide +kernel
theorem d_Str_coder_3 : decode b_Str_coder 3 = .ok (.ifCond .eq 10, 3) := by decide +kernel
theorem d_Str_coder_6 : decode b_Str_coder 6 = .ok (.aload_n 0, 1) := by decide +kernel
theorem d_Str_coder_7 : decode b_Str_coder 7 = .ok (.getfield 15, 3) := by decide +kernel
theorem d_Str_coder_10 : decode b_Str_coder 10 = .ok (.goto 4, 3) := by decide +kernel
theorem d_Str_coder_13 : decode b_Str_coder 13 = .ok (.iconst 1, 1) := by decide +kernel
theorem d_Str_coder_14 : decode b_Str_coder 14 = .ok (.ireturn, 1) := by decide +kernel
abbrev b_Lat_indexOf : ByteArray := prog_18_method_22_code
theorem d_Lat_indexOf_0 : decode b_Lat_indexOf 0 = .ok (.iload_n 1, 1) := by decide +kernel
theorem d_Lat_indexOf_1 : decode b_Lat_indexOf 1 = .ok (.invokestatic 88, 3) := by decide +kernel
theorem d_Lat_indexOf_4 : decode b_Lat_indexOf 4 = .ok (.ifCond .ne 5, 3) := by decide +kernel
theorem d_Lat_indexOf_7 : decode b_Lat_indexOf 7 = .ok (.iconst (-1), 1) := by decide +kernel
theorem d_Lat_indexOf_8 : decode b_Lat_indexOf 8 = .ok (.ireturn, 1) := by decide +kernel
theorem d_Lat_indexOf_9 : decode b_Lat_indexOf 9 = .ok (.iload_n 2, 1) := by decide +kernel
theorem d_Lat_indexOf_10 : decode b_Lat_indexOf 10 = .ok (.iconst 0, 1) := by decide +kernel
theorem d_Lat_indexOf_11 : decode b_Lat_indexOf 11 = .ok (.invokestatic 92, 3) := by decide +kernel
theorem d_Lat_indexOf_14 : decode b_Lat_indexOf 14 = .ok (.istore_n 2, 1) := by decide +kernel
theorem d_Lat_indexOf_15 : decode b_Lat_indexOf 15 = .ok (.iload_n 3, 1) := by decide +kernel
theorem d_Lat_indexOf_16 : decode b_Lat_indexOf 16 = .ok (.aload_n 0, 1) := by decide +kernel
theorem d_Lat_indexOf_17 : decode b_Lat_indexOf 17 = .ok (.arraylength, 1) := by decide +kernel
theorem d_Lat_indexOf_18 : decode b_Lat_indexOf 18 = .ok (.invokestatic 38, 3) := by decide +kernel
theorem d_Lat_indexOf_21 : decode b_Lat_indexOf 21 = .ok (.istore_n 3, 1) := by decide +kernel
theorem d_Lat_indexOf_22 : decode b_Lat_indexOf 22 = .ok (.iload_n 2, 1) := by decide +kernel
theorem d_Lat_indexOf_23 : decode b_Lat_indexOf 23 = .ok (.iload_n 3, 1) := by decide +kernel
theorem d_Lat_indexOf_24 : decode b_Lat_indexOf 24 = .ok (.if_icmp .lt 5, 3) := by decide +kernel
theorem d_Lat_indexOf_27 : decode b_Lat_indexOf 27 = .ok (.iconst (-1), 1) := by decide +kernel
theorem d_Lat_indexOf_28 : decode b_Lat_indexOf 28 = .ok (.ireturn, 1) := by decide +kernel
theorem d_Lat_indexOf_29 : decode b_Lat_indexOf 29 = .ok (.aload_n 0, 1) := by decide +kernel
theorem d_Lat_indexOf_30 : decode b_Lat_indexOf 30 = .ok (.iload_n 1, 1) := by decide +kernel
theorem d_Lat_indexOf_31 : decode b_Lat_indexOf 31 = .ok (.iload_n 2, 1) := by decide +kernel
theorem d_Lat_indexOf_32 : decode b_Lat_indexOf 32 = .ok (.iload_n 3, 1) := by decide +kernel
theorem d_Lat_indexOf_33 : decode b_Lat_indexOf 33 = .ok (.invokestatic 95, 3) := by decide +kernel
theorem d_Lat_indexOf_36 : decode b_Lat_indexOf 36 = .ok (.ireturn, 1) := by decide +kernel
abbrev b_Lat_canEncode : ByteArray := prog_18_method_4_code
theorem d_Lat_canEncode_0 : decode b_Lat_canEncode 0 = .ok (.iload_n 0, 1) := by decide +kernel
theorem d_Lat_canEncode_1 : decode b_Lat_canEncode 1 = .ok (.ifCond .lt 14, 3) := by decide +kernel
theorem d_Lat_canEncode_4 : decode b_Lat_canEncode 4 = .ok (.iload_n 0, 1) := by decide +kernel
theorem d_Lat_canEncode_5 : decode b_Lat_canEncode 5 = .ok (.sipush 255, 3) := by decide +kernel
theorem d_Lat_canEncode_8 : decode b_Lat_canEncode 8 = .ok (.if_icmp .gt 7, 3) := by decide +kernel
theorem d_Lat_canEncode_11 : decode b_Lat_canEncode 11 = .ok (.iconst 1, 1) := by decide +kernel
theorem d_Lat_canEncode_12 : decode b_Lat_canEncode 12 = .ok (.goto 4, 3) := by decide +kernel
theorem d_Lat_canEncode_15 : decode b_Lat_canEncode 15 = .ok (.iconst 0, 1) := by decide +kernel
theorem d_Lat_canEncode_16 : decode b_Lat_canEncode 16 = .ok (.ireturn, 1) := by decide +kernel
abbrev b_Lat_indexOfChar : ByteArray := prog_18_method_23_code
theorem d_Lat_indexOfChar_0 : decode b_Lat_indexOfChar 0 = .ok (.iload_n 1, 1) := by decide +kernel
theorem d_Lat_indexOfChar_1 : decode b_Lat_indexOfChar 1 = .ok (.i2b, 1) := by decide +kernel
theorem d_Lat_indexOfChar_2 : decode b_Lat_indexOfChar 2 = .ok (.istore 4, 2) := by decide +kernel
theorem d_Lat_indexOfChar_4 : decode b_Lat_indexOfChar 4 = .ok (.iload_n 2, 1) := by decide +kernel
theorem d_Lat_indexOfChar_5 : decode b_Lat_indexOfChar 5 = .ok (.istore 5, 2) := by decide +kernel
theorem d_Lat_indexOfChar_7 : decode b_Lat_indexOfChar 7 = .ok (.iload 5, 2) := by decide +kernel
theorem d_Lat_indexOfChar_9 : decode b_Lat_indexOfChar 9 = .ok (.iload_n 3, 1) := by decide +kernel
theorem d_Lat_indexOfChar_10 : decode b_Lat_indexOfChar 10 = .ok (.if_icmp .ge 21, 3) := by decide +kernel
theorem d_Lat_indexOfChar_13 : decode b_Lat_indexOfChar 13 = .ok (.aload_n 0, 1) := by decide +kernel
theorem d_Lat_indexOfChar_14 : decode b_Lat_indexOfChar 14 = .ok (.iload 5, 2) := by decide +kernel
theorem d_Lat_indexOfChar_16 : decode b_Lat_indexOfChar 16 = .ok (.baload, 1) := by decide +kernel
theorem d_Lat_indexOfChar_17 : decode b_Lat_indexOfChar 17 = .ok (.iload 4, 2) := by decide +kernel
theorem d_Lat_indexOfChar_19 : decode b_Lat_indexOfChar 19 = .ok (.if_icmp .ne 6, 3) := by decide +kernel
theorem d_Lat_indexOfChar_22 : decode b_Lat_indexOfChar 22 = .ok (.iload 5, 2) := by decide +kernel
theorem d_Lat_indexOfChar_24 : decode b_Lat_indexOfChar 24 = .ok (.ireturn, 1) := by decide +kernel
theorem d_Lat_indexOfChar_25 : decode b_Lat_indexOfChar 25 = .ok (.iinc 5 1, 3) := by decide +kernel
theorem d_Lat_indexOfChar_28 : decode b_Lat_indexOfChar 28 = .ok (.goto (-21), 3) := by decide +kernel
theorem d_Lat_indexOfChar_31 : decode b_Lat_indexOfChar 31 = .ok (.iconst (-1), 1) := by decide +kernel
theorem d_Lat_indexOfChar_32 : decode b_Lat_indexOfChar 32 = .ok (.ireturn, 1) := by decide +kernel
theorem jC_ofF {l : Launch} {b : Nat} {D : va_G} {ta : Nat → ClassId} {ex : Prop} {y : MethodName} {cb : ByteArray} {mL : Nat} {ret : Option FieldType} {rm : Room} {as : List Value} {σ : List va_E} {r : Option Value} {σ' : List va_E}
    (hy : plainFor y = true) (hlen : (lg_sl as).length ≤ mL) {own : String} (ho : y.cls = own)
    (body : ∀ Γ : jG, jB l b D ta Γ own cb ret mL rm → jR b D ex Γ r σ' rm.cells rm.slots → jW l b D Γ ex 0 0 mL σ (lv_args 0 as) 0 []) : jC l b D ta ex y cb mL ret rm as σ r σ' := by
  subst ho
  refine va_MetF (cc := cb) (maxL := mL) (ret := ret) hy rfl ?_
  intro p e s m args below meth c s₁ B hml hv
  obtain ⟨rfl, hE, hP, hZ⟩ := hv
  have hts := atoms_spec (ws := Cond.code y cb mL ret :: jWS) B.pre
  have hl := lv_entry as (n := mL) hlen
  rw [lg_entry_eq]
  generalize (lg_sl as ++ List.replicate (mL - (lg_sl as).length) Slot.unset).toArray = ls at hl ⊢
  exact body (p, e, rm, s, m, as.toArray, below, meth, c, MQ below (jQ b D ex r σ') as.toArray s rm.cells rm.slots (fun q => b ≤ q))
    ⟨B.exec, B.bytes, B.returns, hml, findClass_of_methodNamed B.named, fun w h => hts w (List.mem_cons_of_mem _ h), hE, B.notSynchronized, rfl, rfl⟩ rfl ls s.heap [] hl hP va_S.rf hZ
section JM
variable {l : Launch} {b : Nat} {D : va_G} {ta : Nat → ClassId} {Γ : jG} {ex : Prop} {own : String} {cc : ByteArray} {ret : Option FieldType} {nL cs ss pc : Nat} {rm : Room} {σ : List va_E} {L : List (Nat × Value)} {rest : List Value}
theorem j_ldcw (B : jB l b D ta Γ own cc ret nL rm) {index : Nat} {v : Int32} (hc : Cond.constant own index v ∈ jWS) (hdg : decode cc pc = .ok (.ldc_w index, 3)) (kk : jW l b D Γ ex cs ss nL σ L (pc + 3) (.int v :: rest)) : jW l b D Γ ex cs ss nL σ L pc rest := fun ls H locs hl hP hS hZ => lv_ldcw B.1 B.2.1 B.2.2.2.2.1 (B.2.2.2.2.2.1 _ hc) hdg (kk ls H locs hl hP hS hZ)
theorem j_ldc (B : jB l b D ta Γ own cc ret nL rm) {index : Nat} {v : Int32} (hc : Cond.constant own index v ∈ jWS) (hdg : decode cc pc = .ok (.ldc index, 2)) (kk : jW l b D Γ ex cs ss nL σ L (pc + 2) (.int v :: rest)) : jW l b D Γ ex cs ss nL σ L pc rest := fun ls H locs hl hP hS hZ => lv_ldc B.1 B.2.1 B.2.2.2.2.1 (B.2.2.2.2.2.1 _ hc) hdg (kk ls H locs hl hP hS hZ)
theorem j_ldc2 (B : jB l b D ta Γ own cc ret nL rm) {index : Nat} {v : Int64} (hc : Cond.constantLong own index v ∈ jWS) (hdg : decode cc pc = .ok (.ldc2_w index, 3)) (kk : jW l b D Γ ex cs ss nL σ L (pc + 3) (.long v :: rest)) : jW l b D Γ ex cs ss nL σ L pc rest := fun ls H locs hl hP hS hZ => lv_ldc2 B.1 B.2.1 B.2.2.2.2.1 (B.2.2.2.2.2.1 _ hc) hdg (kk ls H locs hl hP hS hZ)
/-- the two static tables of steps, read by a nest mate -/
def jTab (f : Nat → Int32) (b : Nat) (Γ : jG) (t : Nat) : Prop := va_T .int t 4 (fun j => .int (f j)) (fun q => b ≤ q) Γ.2.2.2.1 Γ.2.2.2.1.heap
theorem j_colsN (B : jB l b D ta Γ own cc ret nL rm) {index : Nat} {host : String} (hlink : Cond.fieldLinkNest own index "WireField" "COLUMN_STEPS" "[I" host ∈ jNW) (hdg : decode cc pc = .ok (.getstatic index, 3)) (kk : ∀ t : Nat, jTab jcs b Γ t → jW l b D Γ ex cs ss nL σ L (pc + 3) (.ref t :: rest)) : jW l b D Γ ex cs ss nL σ L pc rest := by
  obtain ⟨t1, t2, h1, h2, h3, h4⟩ := B.2.2.2.2.2.2.1.2.2.1
  exact fun ls H locs hl hP hS hZ => va_getsN B.1 B.2.1 h1 hS B.2.2.2.2.1 (va_Nw.use (jNW_tab hlink) (B.2.2.2.2.2.2.1.2.1 _ hlink)) (fun x h => h) hdg (kk t1 h2 ls H locs hl hP hS hZ)
theorem j_rowsN (B : jB l b D ta Γ own cc ret nL rm) {index : Nat} {host : String} (hlink : Cond.fieldLinkNest own index "WireField" "ROW_STEPS" "[I" host ∈ jNW) (hdg : decode cc pc = .ok (.getstatic index, 3)) (kk : ∀ t : Nat, jTab jrs b Γ t → jW l b D Γ ex cs ss nL σ L (pc + 3) (.ref t :: rest)) : jW l b D Γ ex cs ss nL σ L pc rest := by
  obtain ⟨t1, t2, h1, h2, h3, h4⟩ := B.2.2.2.2.2.2.1.2.2.1
  exact fun ls H locs hl hP hS hZ => va_getsN B.1 B.2.1 h3 hS B.2.2.2.2.1 (va_Nw.use (jNW_tab hlink) (B.2.2.2.2.2.2.1.2.1 _ hlink)) (fun x h => h) hdg (kk t2 h4 ls H locs hl hP hS hZ)
theorem j_ti (B : jB l b D ta Γ own cc ret nL rm) {f : Nat → Int32} {t : Nat} (hT : jTab f b Γ t) {i : Int32} (hin : vp_in i 4) (hdg : decode cc pc = .ok (.iaload, 1)) (kk : jW l b D Γ ex cs ss nL σ L (pc + 1) (.int (f i.toNatClampNeg) :: rest)) : jW l b D Γ ex cs ss nL σ L pc (.int i :: .ref t :: rest) :=
  fun ls H locs hl hP hS hZ => va_ti B.1 B.2.1 hT hS hin rfl hdg (kk ls H locs hl hP hS hZ)
end JM
section JN
variable {l : Launch} {b : Nat} {D : va_G} {ta : Nat → ClassId} {Γ : jG} {ex : Prop} {own : String} {cc : ByteArray} {ret : Option FieldType} {nL cs ss pc : Nat} {rm : Room} {σ σ2 : List va_E} {L : List (Nat × Value)} {rest : List Value}
theorem jW.heap (h : σ = σ2) (k : jW l b D Γ ex cs ss nL σ2 L pc rest) : jW l b D Γ ex cs ss nL σ L pc rest := h ▸ k
/-- an array's place by a natural number; arrays here are short -/
def jSm (n : Nat) : Prop := n < 2 ^ 31
theorem j_cl {k n : Nat} (hk : k < n) (hn : n ≤ 2147483647) : (nI k).toNatClampNeg = k ∧ vp_in (nI k) n := ⟨nI_clamp (by omega), vp_in_nI hk (by omega)⟩
theorem j_ialdN (B : jB l b D ta Γ own cc ret nL rm) {q n t k : Nat} {f : Nat → Int32} (ht : (jT ta)[t]? = some (ta t, .int)) (hq : σ[q]? = some (.inl (ta t, n, .inl f))) (hk : k < n) (hdg : decode cc pc = .ok (.iaload, 1)) (kk : jW l b D Γ ex cs ss nL σ L (pc + 1) (.int (f k) :: rest)) (hn : n ≤ 2147483647 := by decide) : jW l b D Γ ex cs ss nL σ L pc (.int (nI k) :: .ref (b + q) :: rest) :=
  j_iald B ht hq (j_cl hk hn).2 hdg (by rw [(j_cl hk hn).1]; exact kk)
theorem j_zaldN (B : jB l b D ta Γ own cc ret nL rm) {q n t k : Nat} {f : Nat → Int32} (ht : (jT ta)[t]? = some (ta t, .boolean)) (hq : σ[q]? = some (.inl (ta t, n, .inl f))) (hk : k < n) (hdg : decode cc pc = .ok (.baload, 1)) (kk : jW l b D Γ ex cs ss nL σ L (pc + 1) (.int (f k) :: rest)) (hn : n ≤ 2147483647 := by decide) : jW l b D Γ ex cs ss nL σ L pc (.int (nI k) :: .ref (b + q) :: rest) :=
  j_zald B ht hq (j_cl hk hn).2 hdg (by rw [(j_cl hk hn).1]; exact kk)
theorem j_caldN (B : jB l b D ta Γ own cc ret nL rm) {q n t k : Nat} {f : Nat → Int32} (ht : (jT ta)[t]? = some (ta t, .char)) (hq : σ[q]? = some (.inl (ta t, n, .inl f))) (hk : k < n) (hdg : decode cc pc = .ok (.caload, 1)) (kk : jW l b D Γ ex cs ss nL σ L (pc + 1) (.int (f k) :: rest)) (hn : n ≤ 2147483647 := by decide) : jW l b D Γ ex cs ss nL σ L pc (.int (nI k) :: .ref (b + q) :: rest) :=
  j_cald B ht hq (j_cl hk hn).2 hdg (by rw [(j_cl hk hn).1]; exact kk)
theorem j_laldN (B : jB l b D ta Γ own cc ret nL rm) {q n t k : Nat} {f : Nat → Int64} (ht : (jT ta)[t]? = some (ta t, .long)) (hq : σ[q]? = some (.inl (ta t, n, .inr (.inl f)))) (hk : k < n) (hdg : decode cc pc = .ok (.laload, 1)) (kk : jW l b D Γ ex cs ss nL σ L (pc + 1) (.long (f k) :: rest)) (hn : n ≤ 2147483647 := by decide) : jW l b D Γ ex cs ss nL σ L pc (.int (nI k) :: .ref (b + q) :: rest) :=
  j_lald B ht hq (j_cl hk hn).2 hdg (by rw [(j_cl hk hn).1]; exact kk)
theorem j_iastN (B : jB l b D ta Γ own cc ret nL rm) (hex : ¬ ex) {q n t k : Nat} {f : Nat → Int32} {x : Int32} (ht : (jT ta)[t]? = some (ta t, .int)) (hq : σ[q]? = some (.inl (ta t, n, .inl f))) (hk : k < n) (hdg : decode cc pc = .ok (.iastore, 1)) (kk : jW l b D Γ ex cs ss nL (σ.set q (.inl (ta t, n, .inl (upd f k x)))) L (pc + 1) rest) (hn : n ≤ 2147483647 := by decide) : jW l b D Γ ex cs ss nL σ L pc (.int x :: .int (nI k) :: .ref (b + q) :: rest) :=
  j_iast B hex ht hq (j_cl hk hn).2 hdg (by rw [(j_cl hk hn).1]; exact kk)
theorem j_zastN (B : jB l b D ta Γ own cc ret nL rm) (hex : ¬ ex) {q n t k : Nat} {f : Nat → Int32} {x : Int32} (ht : (jT ta)[t]? = some (ta t, .boolean)) (hq : σ[q]? = some (.inl (ta t, n, .inl f))) (hk : k < n) (hdg : decode cc pc = .ok (.bastore, 1)) (kk : jW l b D Γ ex cs ss nL (σ.set q (.inl (ta t, n, .inl (upd f k (vp_nar .boolean x))))) L (pc + 1) rest) (hn : n ≤ 2147483647 := by decide) : jW l b D Γ ex cs ss nL σ L pc (.int x :: .int (nI k) :: .ref (b + q) :: rest) :=
  j_zast B hex ht hq (j_cl hk hn).2 hdg (by rw [(j_cl hk hn).1]; exact kk)
theorem j_castN (B : jB l b D ta Γ own cc ret nL rm) (hex : ¬ ex) {q n t k : Nat} {f : Nat → Int32} {x : Int32} (ht : (jT ta)[t]? = some (ta t, .char)) (hq : σ[q]? = some (.inl (ta t, n, .inl f))) (hk : k < n) (hdg : decode cc pc = .ok (.castore, 1)) (kk : jW l b D Γ ex cs ss nL (σ.set q (.inl (ta t, n, .inl (upd f k (vp_nar .char x))))) L (pc + 1) rest) (hn : n ≤ 2147483647 := by decide) : jW l b D Γ ex cs ss nL σ L pc (.int x :: .int (nI k) :: .ref (b + q) :: rest) :=
  j_cast B hex ht hq (j_cl hk hn).2 hdg (by rw [(j_cl hk hn).1]; exact kk)
theorem j_lastN (B : jB l b D ta Γ own cc ret nL rm) (hex : ¬ ex) {q n t k : Nat} {f : Nat → Int64} {x : Int64} (ht : (jT ta)[t]? = some (ta t, .long)) (hq : σ[q]? = some (.inl (ta t, n, .inr (.inl f)))) (hk : k < n) (hdg : decode cc pc = .ok (.lastore, 1)) (kk : jW l b D Γ ex cs ss nL (σ.set q (.inl (ta t, n, .inr (.inl (vp_updL f k x))))) L (pc + 1) rest) (hn : n ≤ 2147483647 := by decide) : jW l b D Γ ex cs ss nL σ L pc (.long x :: .int (nI k) :: .ref (b + q) :: rest) :=
  j_last B hex ht hq (j_cl hk hn).2 hdg (by rw [(j_cl hk hn).1]; exact kk)
end JN
section KE
variable {l : Launch} {b : Nat} {D : va_G} {ta : Nat → ClassId} {Γ : jG} {ex : Prop} {own : String} {cc : ByteArray} {ret : Option FieldType} {nL cs ss pc : Nat} {rm : Room} {σ : List va_E} {L : List (Nat × Value)} {rest : List Value} {x y v : Int32}
theorem j_iaddE (B : jB l b D ta Γ own cc ret nL rm) (hv : x + y = v) (hd : decode cc pc = .ok (.iadd, 1)) (kk : jW l b D Γ ex cs ss nL σ L (pc + 1) (.int v :: rest)) : jW l b D Γ ex cs ss nL σ L pc (.int y :: .int x :: rest) := by subst hv; exact j_iadd B hd kk
theorem j_isubE (B : jB l b D ta Γ own cc ret nL rm) (hv : x - y = v) (hd : decode cc pc = .ok (.isub, 1)) (kk : jW l b D Γ ex cs ss nL σ L (pc + 1) (.int v :: rest)) : jW l b D Γ ex cs ss nL σ L pc (.int y :: .int x :: rest) := by subst hv; exact j_isub B hd kk
theorem j_imulE (B : jB l b D ta Γ own cc ret nL rm) (hv : x * y = v) (hd : decode cc pc = .ok (.imul, 1)) (kk : jW l b D Γ ex cs ss nL σ L (pc + 1) (.int v :: rest)) : jW l b D Γ ex cs ss nL σ L pc (.int y :: .int x :: rest) := by subst hv; exact j_imul B hd kk
theorem j_iandE (B : jB l b D ta Γ own cc ret nL rm) (hv : x &&& y = v) (hd : decode cc pc = .ok (.iand, 1)) (kk : jW l b D Γ ex cs ss nL σ L (pc + 1) (.int v :: rest)) : jW l b D Γ ex cs ss nL σ L pc (.int y :: .int x :: rest) := by subst hv; exact j_iand B hd kk
end KE
section JQ
variable {l : Launch} {b : Nat} {D : va_G} {ta : Nat → ClassId} {Γ : jG} {ex : Prop} {own : String} {cc : ByteArray} {ret : Option FieldType} {nL cs ss pc : Nat} {rm : Room} {σ : List va_E} {L : List (Nat × Value)} {rest : List Value}
/-- the constant text of the orders of one sign: its address ta 100, its bytes' ta 101 -/
theorem j_ldcOrd (B : jB l b D ta Γ "WireField$Text" cc ret nL rm) (hdg : decode cc pc = .ok (.ldc 51, 2)) (kk : jW l b D Γ ex cs ss nL σ L (pc + 2) (.ref (ta 100) :: rest)) : jW l b D Γ ex cs ss nL σ L pc rest :=
  fun ls H locs hl hP hS hZ => va_ldcS B.1 B.2.1 B.2.2.2.2.1 B.2.2.2.2.2.2.1.2.2.2.1.1 hdg (kk ls H locs hl hP hS hZ)
theorem j_st (B : jB l b D ta Γ own cc ret nL rm) : jStr b (ta 100) (ta 101) Γ.2.2.2.1 Γ.2.2.2.1.heap := B.2.2.2.2.2.2.1.2.2.2.1.2
theorem j_strCoder (B : jB l b D ta Γ "java/lang/String" cc ret nL rm) (hlink : Cond.fieldLink "java/lang/String" 15 "java/lang/String" "coder" "B" ∈ jWS) (hdg : decode cc pc = .ok (.getfield 15, 3)) (kk : jW l b D Γ ex cs ss nL σ L (pc + 3) (.int 0 :: rest)) : jW l b D Γ ex cs ss nL σ L pc (.ref (ta 100) :: rest) :=
  fun ls H locs hl hP hS hZ => vk_getf B.1 B.2.1 (j_st B).2.1 hS B.2.2.2.2.1 (B.2.2.2.2.2.1 _ hlink) (fun x h => h) hdg (kk ls H locs hl hP hS hZ)
theorem j_strValue (B : jB l b D ta Γ "java/lang/String" cc ret nL rm) (hlink : Cond.fieldLink "java/lang/String" 9 "java/lang/String" "value" "[B" ∈ jWS) (hdg : decode cc pc = .ok (.getfield 9, 3)) (kk : jW l b D Γ ex cs ss nL σ L (pc + 3) (.ref (ta 101) :: rest)) : jW l b D Γ ex cs ss nL σ L pc (.ref (ta 100) :: rest) :=
  fun ls H locs hl hP hS hZ => vk_getf B.1 B.2.1 (j_st B).2.2.1 hS B.2.2.2.2.1 (B.2.2.2.2.2.1 _ hlink) (fun x h => h) hdg (kk ls H locs hl hP hS hZ)
theorem j_strCompact (B : jB l b D ta Γ "java/lang/String" cc ret nL rm) (hlink : Cond.fieldLink "java/lang/String" 38 "java/lang/String" "COMPACT_STRINGS" "Z" ∈ jWS) (hdg : decode cc pc = .ok (.getstatic 38, 3)) (kk : jW l b D Γ ex cs ss nL σ L (pc + 3) (.int 1 :: rest)) : jW l b D Γ ex cs ss nL σ L pc rest :=
  fun ls H locs hl hP hS hZ => va_gets B.1 B.2.1 (j_st B).2.2.2.2 hS B.2.2.2.2.1 (B.2.2.2.2.2.1 _ hlink) (fun x h => h) hdg (kk ls H locs hl hP hS hZ)
theorem j_strLen (B : jB l b D ta Γ own cc ret nL rm) (hdg : decode cc pc = .ok (.arraylength, 1)) (kk : jW l b D Γ ex cs ss nL σ L (pc + 1) (.int 9 :: rest)) : jW l b D Γ ex cs ss nL σ L pc (.ref (ta 101) :: rest) :=
  fun ls H locs hl hP hS hZ => va_tlen B.1 B.2.1 (j_st B).2.2.2.1 hS (by decide) hdg (kk ls H locs hl hP hS hZ)
theorem j_strByte (B : jB l b D ta Γ own cc ret nL rm) {k : Nat} (hk : k < 9) (hdg : decode cc pc = .ok (.baload, 1)) (kk : jW l b D Γ ex cs ss nL σ L (pc + 1) (.int (jord k) :: rest)) : jW l b D Γ ex cs ss nL σ L pc (.int (nI k) :: .ref (ta 101) :: rest) :=
  fun ls H locs hl hP hS hZ => va_tb B.1 B.2.1 (j_st B).2.2.2.1 hS (j_cl hk (by decide)).2 (by rw [(j_cl hk (by decide)).1]) hdg (kk ls H locs hl hP hS hZ)
/-- a call on the constant text -/
theorem j_callStr {y : MethodName} {cb : ByteArray} {mL d d' : Nat} {ret' : Option FieldType} {as : List Value} {r : Option Value} {σ' : List va_E} {st0 st1 : List Value} {n index : Nat} (B : jB l b D ta Γ own cc ret nL rm) {rm' : Room} (hM : jC l b D ta ex y cb mL ret' rm' (.ref (ta 100) :: as) σ r σ') (hY : jY y cb mL ret' n) (hlink : Cond.methodLink own index y ∈ jWS) (hin : Cond.instanceMethod y ∈ jWS) (hse : Cond.selects "java/lang/String" y y ∈ jWS) (hn : as.length = n) (hR : rm'.frames + 1 ≤ rm.frames ∧ 8 + (mL + 11) + rm'.locals ≤ rm.locals) (hc : cs + rm'.cells ≤ rm.cells ∧ ss + rm'.slots ≤ rm.slots) (hs0 : st0 = as.reverse ++ .ref (ta 100) :: rest) (hs1 : r.toList ++ rest = st1) (hsum : (rest.map fun v => v.category).sum ≤ 8)
    (hdg : decode cc pc = .ok (.invokevirtual index, 3)) (kk : jW l b D Γ ex (cs + rm'.cells) (ss + rm'.slots) nL σ' L (pc + 3) st1) : jW l b D Γ ex cs ss nL σ L pc st0 := by
  subst hs0; subst hs1
  intro ls H locs hl hP hS hZ
  have hR1 : rm'.frames + 1 ≤ Γ.2.2.1.frames ∧ 8 + (mL + 11) + rm'.locals ≤ Γ.2.2.1.locals := by rw [B.2.2.2.2.2.2.2.2.1]; exact hR
  have hc1 : cs + rm'.cells ≤ Γ.2.2.1.cells ∧ ss + rm'.slots ≤ Γ.2.2.1.slots := by rw [B.2.2.2.2.2.2.2.2.1]; exact hc
  exact j_go (va_runV (bytes := cb) (maxL := mL) (ret := ret') (C := "java/lang/String") ⟨B.1, B.2.1, B.2.2.2.1, B.2.2.2.2.1, B.2.2.2.2.2.1⟩ hM ⟨callB_of n B.2.2.2.2.2.1 (jGood hY.1) rfl rfl rfl (B.2.2.2.2.2.1 _ hY.2.1) (B.2.2.2.2.2.1 _ hlink) hY.2.2 hR1, B.2.2.2.2.2.1 _ hin, B.2.2.2.2.2.1 _ hse⟩ ⟨j_blind, va_Orecv (j_st B).1 hS, fun U hU hW => j_pre B hP hS hZ U hU hW⟩ rfl hn hl.1 rfl (j_sum hsum) hdg hc1) hS (fun H1 locs1 hP1 hS1 hZ1 => kk ls H1 locs1 hl hP1 hS1 hZ1)
end JQ
section KP
variable {l : Launch} {b : Nat} {D : va_G} {ta : Nat → ClassId} {Γ : jG} {ex : Prop} {own : String} {cc : ByteArray} {ret : Option FieldType} {nL cs ss pc : Nat} {rm : Room} {σ : List va_E} {L : List (Nat × Value)} {rest : List Value} {x y v : Int32}
theorem j_iremE (B : jB l b D ta Γ own cc ret nL rm) (hn : ¬ y = 0) (hv : x - x / y * y = v) (hd : decode cc pc = .ok (.irem, 1)) (kk : jW l b D Γ ex cs ss nL σ L (pc + 1) (.int v :: rest)) : jW l b D Γ ex cs ss nL σ L pc (.int y :: .int x :: rest) := by subst hv; exact j_irem B hd hn kk
theorem j_idivE (B : jB l b D ta Γ own cc ret nL rm) (hn : ¬ y = 0) (hv : x / y = v) (hd : decode cc pc = .ok (.idiv, 1)) (kk : jW l b D Γ ex cs ss nL σ L (pc + 1) (.int v :: rest)) : jW l b D Γ ex cs ss nL σ L pc (.int y :: .int x :: rest) := by subst hv; exact j_idiv B hd hn kk
theorem j_tiN (B : jB l b D ta Γ own cc ret nL rm) {f : Nat → Int32} {t k : Nat} (hT : jTab f b Γ t) (hk : k < 4) (hdg : decode cc pc = .ok (.iaload, 1)) (kk : jW l b D Γ ex cs ss nL σ L (pc + 1) (.int (f k) :: rest)) : jW l b D Γ ex cs ss nL σ L pc (.int (nI k) :: .ref t :: rest) := j_ti B hT (j_cl hk (by decide)).2 hdg (by rw [(j_cl hk (by decide)).1]; exact kk)
end KP
