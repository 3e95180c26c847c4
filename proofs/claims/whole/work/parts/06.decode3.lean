abbrev b_M_init : ByteArray := prog_9_method_1_code
theorem d_M_init_0 : decode b_M_init 0 = .ok (.aload_n 0, 1) := by decide +kernel
theorem d_M_init_1 : decode b_M_init 1 = .ok (.invokespecial 1, 3) := by decide +kernel
theorem d_M_init_4 : decode b_M_init 4 = .ok (.aload_n 0, 1) := by decide +kernel
theorem d_M_init_5 : decode b_M_init 5 = .ok (.bipush 24, 2) := by decide +kernel
theorem d_M_init_7 : decode b_M_init 7 = .ok (.newarray .int, 2) := by decide +kernel
theorem d_M_init_9 : decode b_M_init 9 = .ok (.putfield 7, 3) := by decide +kernel
theorem d_M_init_12 : decode b_M_init 12 = .ok (.aload_n 0, 1) := by decide +kernel
theorem d_M_init_13 : decode b_M_init 13 = .ok (.bipush 24, 2) := by decide +kernel
theorem d_M_init_15 : decode b_M_init 15 = .ok (.newarray .int, 2) := by decide +kernel
theorem d_M_init_17 : decode b_M_init 17 = .ok (.putfield 13, 3) := by decide +kernel
theorem d_M_init_20 : decode b_M_init 20 = .ok (.aload_n 0, 1) := by decide +kernel
theorem d_M_init_21 : decode b_M_init 21 = .ok (.bipush 24, 2) := by decide +kernel
theorem d_M_init_23 : decode b_M_init 23 = .ok (.newarray .int, 2) := by decide +kernel
theorem d_M_init_25 : decode b_M_init 25 = .ok (.putfield 16, 3) := by decide +kernel
theorem d_M_init_28 : decode b_M_init 28 = .ok (.aload_n 0, 1) := by decide +kernel
theorem d_M_init_29 : decode b_M_init 29 = .ok (.bipush 24, 2) := by decide +kernel
theorem d_M_init_31 : decode b_M_init 31 = .ok (.newarray .int, 2) := by decide +kernel
theorem d_M_init_33 : decode b_M_init 33 = .ok (.putfield 19, 3) := by decide +kernel
theorem d_M_init_36 : decode b_M_init 36 = .ok (.aload_n 0, 1) := by decide +kernel
theorem d_M_init_37 : decode b_M_init 37 = .ok (.sipush 1152, 3) := by decide +kernel
theorem d_M_init_40 : decode b_M_init 40 = .ok (.newarray .int, 2) := by decide +kernel
theorem d_M_init_42 : decode b_M_init 42 = .ok (.putfield 22, 3) := by decide +kernel
theorem d_M_init_45 : decode b_M_init 45 = .ok (.aload_n 0, 1) := by decide +kernel
theorem d_M_init_46 : decode b_M_init 46 = .ok (.bipush 64, 2) := by decide +kernel
theorem d_M_init_48 : decode b_M_init 48 = .ok (.newarray .int, 2) := by decide +kernel
theorem d_M_init_50 : decode b_M_init 50 = .ok (.putfield 25, 3) := by decide +kernel
theorem d_M_init_53 : decode b_M_init 53 = .ok (.aload_n 0, 1) := by decide +kernel
theorem d_M_init_54 : decode b_M_init 54 = .ok (.iconst 4, 1) := by decide +kernel
theorem d_M_init_55 : decode b_M_init 55 = .ok (.newarray .int, 2) := by decide +kernel
theorem d_M_init_57 : decode b_M_init 57 = .ok (.putfield 28, 3) := by decide +kernel
theorem d_M_init_60 : decode b_M_init 60 = .ok (.aload_n 0, 1) := by decide +kernel
theorem d_M_init_61 : decode b_M_init 61 = .ok (.iconst 4, 1) := by decide +kernel
theorem d_M_init_62 : decode b_M_init 62 = .ok (.newarray .int, 2) := by decide +kernel
theorem d_M_init_64 : decode b_M_init 64 = .ok (.putfield 31, 3) := by decide +kernel
theorem d_M_init_67 : decode b_M_init 67 = .ok (.aload_n 0, 1) := by decide +kernel
theorem d_M_init_68 : decode b_M_init 68 = .ok (.iconst 4, 1) := by decide +kernel
theorem d_M_init_69 : decode b_M_init 69 = .ok (.newarray .long, 2) := by decide +kernel
theorem d_M_init_71 : decode b_M_init 71 = .ok (.putfield 34, 3) := by decide +kernel
theorem d_M_init_74 : decode b_M_init 74 = .ok (.aload_n 0, 1) := by decide +kernel
theorem d_M_init_75 : decode b_M_init 75 = .ok (.iconst 4, 1) := by decide +kernel
theorem d_M_init_76 : decode b_M_init 76 = .ok (.newarray .int, 2) := by decide +kernel
theorem d_M_init_78 : decode b_M_init 78 = .ok (.putfield 38, 3) := by decide +kernel
theorem d_M_init_81 : decode b_M_init 81 = .ok (.aload_n 0, 1) := by decide +kernel
theorem d_M_init_82 : decode b_M_init 82 = .ok (.iconst 4, 1) := by decide +kernel
theorem d_M_init_83 : decode b_M_init 83 = .ok (.newarray .int, 2) := by decide +kernel
theorem d_M_init_85 : decode b_M_init 85 = .ok (.putfield 41, 3) := by decide +kernel
theorem d_M_init_88 : decode b_M_init 88 = .ok (.aload_n 0, 1) := by decide +kernel
theorem d_M_init_89 : decode b_M_init 89 = .ok (.iconst 4, 1) := by decide +kernel
theorem d_M_init_90 : decode b_M_init 90 = .ok (.newarray .int, 2) := by decide +kernel
theorem d_M_init_92 : decode b_M_init 92 = .ok (.putfield 44, 3) := by decide +kernel
theorem d_M_init_95 : decode b_M_init 95 = .ok (.aload_n 0, 1) := by decide +kernel
theorem d_M_init_96 : decode b_M_init 96 = .ok (.iconst 4, 1) := by decide +kernel
theorem d_M_init_97 : decode b_M_init 97 = .ok (.newarray .int, 2) := by decide +kernel
theorem d_M_init_99 : decode b_M_init 99 = .ok (.putfield 47, 3) := by decide +kernel
theorem d_M_init_102 : decode b_M_init 102 = .ok (.aload_n 0, 1) := by decide +kernel
theorem d_M_init_103 : decode b_M_init 103 = .ok (.iconst 4, 1) := by decide +kernel
theorem d_M_init_104 : decode b_M_init 104 = .ok (.newarray .int, 2) := by decide +kernel
theorem d_M_init_106 : decode b_M_init 106 = .ok (.putfield 50, 3) := by decide +kernel
theorem d_M_init_109 : decode b_M_init 109 = .ok (.aload_n 0, 1) := by decide +kernel
theorem d_M_init_110 : decode b_M_init 110 = .ok (.iconst 4, 1) := by decide +kernel
theorem d_M_init_111 : decode b_M_init 111 = .ok (.newarray .int, 2) := by decide +kernel
theorem d_M_init_113 : decode b_M_init 113 = .ok (.putfield 53, 3) := by decide +kernel
theorem d_M_init_116 : decode b_M_init 116 = .ok (.aload_n 0, 1) := by decide +kernel
theorem d_M_init_117 : decode b_M_init 117 = .ok (.iconst 4, 1) := by decide +kernel
theorem d_M_init_118 : decode b_M_init 118 = .ok (.newarray .long, 2) := by decide +kernel
theorem d_M_init_120 : decode b_M_init 120 = .ok (.putfield 56, 3) := by decide +kernel
theorem d_M_init_123 : decode b_M_init 123 = .ok (.aload_n 0, 1) := by decide +kernel
theorem d_M_init_124 : decode b_M_init 124 = .ok (.sipush 300, 3) := by decide +kernel
theorem d_M_init_127 : decode b_M_init 127 = .ok (.newarray .int, 2) := by decide +kernel
theorem d_M_init_129 : decode b_M_init 129 = .ok (.putfield 59, 3) := by decide +kernel
theorem d_M_init_132 : decode b_M_init 132 = .ok (.aload_n 0, 1) := by decide +kernel
theorem d_M_init_133 : decode b_M_init 133 = .ok (.iconst 5, 1) := by decide +kernel
theorem d_M_init_134 : decode b_M_init 134 = .ok (.newarray .int, 2) := by decide +kernel
theorem d_M_init_136 : decode b_M_init 136 = .ok (.putfield 62, 3) := by decide +kernel
theorem d_M_init_139 : decode b_M_init 139 = .ok (.aload_n 0, 1) := by decide +kernel
theorem d_M_init_140 : decode b_M_init 140 = .ok (.iconst 5, 1) := by decide +kernel
theorem d_M_init_141 : decode b_M_init 141 = .ok (.newarray .int, 2) := by decide +kernel
theorem d_M_init_143 : decode b_M_init 143 = .ok (.putfield 65, 3) := by decide +kernel
theorem d_M_init_146 : decode b_M_init 146 = .ok (.aload_n 0, 1) := by decide +kernel
theorem d_M_init_147 : decode b_M_init 147 = .ok (.bipush 24, 2) := by decide +kernel
theorem d_M_init_149 : decode b_M_init 149 = .ok (.newarray .int, 2) := by decide +kernel
theorem d_M_init_151 : decode b_M_init 151 = .ok (.putfield 68, 3) := by decide +kernel
theorem d_M_init_154 : decode b_M_init 154 = .ok (.aload_n 0, 1) := by decide +kernel
theorem d_M_init_155 : decode b_M_init 155 = .ok (.bipush 24, 2) := by decide +kernel
theorem d_M_init_157 : decode b_M_init 157 = .ok (.newarray .int, 2) := by decide +kernel
theorem d_M_init_159 : decode b_M_init 159 = .ok (.putfield 71, 3) := by decide +kernel
theorem d_M_init_162 : decode b_M_init 162 = .ok (.aload_n 0, 1) := by decide +kernel
theorem d_M_init_163 : decode b_M_init 163 = .ok (.bipush 24, 2) := by decide +kernel
theorem d_M_init_165 : decode b_M_init 165 = .ok (.newarray .int, 2) := by decide +kernel
theorem d_M_init_167 : decode b_M_init 167 = .ok (.putfield 74, 3) := by decide +kernel
theorem d_M_init_170 : decode b_M_init 170 = .ok (.aload_n 0, 1) := by decide +kernel
theorem d_M_init_171 : decode b_M_init 171 = .ok (.bipush 32, 2) := by decide +kernel
theorem d_M_init_173 : decode b_M_init 173 = .ok (.newarray .int, 2) := by decide +kernel
theorem d_M_init_175 : decode b_M_init 175 = .ok (.putfield 77, 3) := by decide +kernel
theorem d_M_init_178 : decode b_M_init 178 = .ok (.aload_n 0, 1) := by decide +kernel
theorem d_M_init_179 : decode b_M_init 179 = .ok (.bipush 32, 2) := by decide +kernel
theorem d_M_init_181 : decode b_M_init 181 = .ok (.newarray .int, 2) := by decide +kernel
theorem d_M_init_183 : decode b_M_init 183 = .ok (.putfield 80, 3) := by decide +kernel
theorem d_M_init_186 : decode b_M_init 186 = .ok (.aload_n 0, 1) := by decide +kernel
theorem d_M_init_187 : decode b_M_init 187 = .ok (.bipush 32, 2) := by decide +kernel
theorem d_M_init_189 : decode b_M_init 189 = .ok (.newarray .int, 2) := by decide +kernel
theorem d_M_init_191 : decode b_M_init 191 = .ok (.putfield 83, 3) := by decide +kernel
theorem d_M_init_194 : decode b_M_init 194 = .ok (.aload_n 0, 1) := by decide +kernel
theorem d_M_init_195 : decode b_M_init 195 = .ok (.bipush 32, 2) := by decide +kernel
theorem d_M_init_197 : decode b_M_init 197 = .ok (.newarray .int, 2) := by decide +kernel
theorem d_M_init_199 : decode b_M_init 199 = .ok (.putfield 86, 3) := by decide +kernel
theorem d_M_init_202 : decode b_M_init 202 = .ok (.aload_n 0, 1) := by decide +kernel
theorem d_M_init_203 : decode b_M_init 203 = .ok (.bipush 32, 2) := by decide +kernel
theorem d_M_init_205 : decode b_M_init 205 = .ok (.newarray .int, 2) := by decide +kernel
theorem d_M_init_207 : decode b_M_init 207 = .ok (.putfield 89, 3) := by decide +kernel
theorem d_M_init_210 : decode b_M_init 210 = .ok (.aload_n 0, 1) := by decide +kernel
theorem d_M_init_211 : decode b_M_init 211 = .ok (.bipush 32, 2) := by decide +kernel
theorem d_M_init_213 : decode b_M_init 213 = .ok (.newarray .int, 2) := by decide +kernel
theorem d_M_init_215 : decode b_M_init 215 = .ok (.putfield 92, 3) := by decide +kernel
theorem d_M_init_218 : decode b_M_init 218 = .ok (.aload_n 0, 1) := by decide +kernel
theorem d_M_init_219 : decode b_M_init 219 = .ok (.bipush 32, 2) := by decide +kernel
theorem d_M_init_221 : decode b_M_init 221 = .ok (.newarray .int, 2) := by decide +kernel
theorem d_M_init_223 : decode b_M_init 223 = .ok (.putfield 95, 3) := by decide +kernel
theorem d_M_init_226 : decode b_M_init 226 = .ok (.aload_n 0, 1) := by decide +kernel
theorem d_M_init_227 : decode b_M_init 227 = .ok (.bipush 32, 2) := by decide +kernel
theorem d_M_init_229 : decode b_M_init 229 = .ok (.newarray .boolean, 2) := by decide +kernel
theorem d_M_init_231 : decode b_M_init 231 = .ok (.putfield 98, 3) := by decide +kernel
theorem d_M_init_234 : decode b_M_init 234 = .ok (.iconst 0, 1) := by decide +kernel
theorem d_M_init_235 : decode b_M_init 235 = .ok (.istore_n 1, 1) := by decide +kernel
theorem d_M_init_236 : decode b_M_init 236 = .ok (.iload_n 1, 1) := by decide +kernel
theorem d_M_init_237 : decode b_M_init 237 = .ok (.iconst 4, 1) := by decide +kernel
theorem d_M_init_238 : decode b_M_init 238 = .ok (.if_icmp .ge 16, 3) := by decide +kernel
theorem d_M_init_241 : decode b_M_init 241 = .ok (.aload_n 0, 1) := by decide +kernel
theorem d_M_init_242 : decode b_M_init 242 = .ok (.getfield 62, 3) := by decide +kernel
theorem d_M_init_245 : decode b_M_init 245 = .ok (.iload_n 1, 1) := by decide +kernel
theorem d_M_init_246 : decode b_M_init 246 = .ok (.iconst (-1), 1) := by decide +kernel
theorem d_M_init_247 : decode b_M_init 247 = .ok (.iastore, 1) := by decide +kernel
theorem d_M_init_248 : decode b_M_init 248 = .ok (.iinc 1 1, 3) := by decide +kernel
theorem d_M_init_251 : decode b_M_init 251 = .ok (.goto (-15), 3) := by decide +kernel
theorem d_M_init_254 : decode b_M_init 254 = .ok (.return_, 1) := by decide +kernel
abbrev b_M_thrown : ByteArray := prog_9_method_2_code
theorem d_M_thrown_0 : decode b_M_thrown 0 = .ok (.aload_n 0, 1) := by decide +kernel
theorem d_M_thrown_1 : decode b_M_thrown 1 = .ok (.getfield 102, 3) := by decide +kernel
theorem d_M_thrown_4 : decode b_M_thrown 4 = .ok (.ireturn, 1) := by decide +kernel
abbrev b_M_is : ByteArray := prog_9_method_3_code
theorem d_M_is_0 : decode b_M_is 0 = .ok (.iload_n 0, 1) := by decide +kernel
theorem d_M_is_1 : decode b_M_is 1 = .ok (.ifCond .lt 23, 3) := by decide +kernel
theorem d_M_is_4 : decode b_M_is 4 = .ok (.iload_n 0, 1) := by decide +kernel
theorem d_M_is_5 : decode b_M_is 5 = .ok (.bipush 32, 2) := by decide +kernel
theorem d_M_is_7 : decode b_M_is 7 = .ok (.if_icmp .ge 17, 3) := by decide +kernel
theorem d_M_is_10 : decode b_M_is 10 = .ok (.iload_n 1, 1) := by decide +kernel
theorem d_M_is_11 : decode b_M_is 11 = .ok (.ifCond .lt 13, 3) := by decide +kernel
theorem d_M_is_14 : decode b_M_is 14 = .ok (.iload_n 1, 1) := by decide +kernel
theorem d_M_is_15 : decode b_M_is 15 = .ok (.bipush 24, 2) := by decide +kernel
theorem d_M_is_17 : decode b_M_is 17 = .ok (.if_icmp .ge 7, 3) := by decide +kernel
theorem d_M_is_20 : decode b_M_is 20 = .ok (.iconst 1, 1) := by decide +kernel
theorem d_M_is_21 : decode b_M_is 21 = .ok (.goto 4, 3) := by decide +kernel
theorem d_M_is_24 : decode b_M_is 24 = .ok (.iconst 0, 1) := by decide +kernel
theorem d_M_is_25 : decode b_M_is 25 = .ok (.ireturn, 1) := by decide +kernel
abbrev b_M_bit : ByteArray := prog_9_method_4_code
theorem d_M_bit_0 : decode b_M_bit 0 = .ok (.iload_n 0, 1) := by decide +kernel
theorem d_M_bit_1 : decode b_M_bit 1 = .ok (.iload_n 1, 1) := by decide +kernel
theorem d_M_bit_2 : decode b_M_bit 2 = .ok (.ishr, 1) := by decide +kernel
theorem d_M_bit_3 : decode b_M_bit 3 = .ok (.iconst 1, 1) := by decide +kernel
theorem d_M_bit_4 : decode b_M_bit 4 = .ok (.iand, 1) := by decide +kernel
theorem d_M_bit_5 : decode b_M_bit 5 = .ok (.ireturn, 1) := by decide +kernel
abbrev b_M_headsIn : ByteArray := prog_9_method_5_code
theorem d_M_headsIn_0 : decode b_M_headsIn 0 = .ok (.iload_n 1, 1) := by decide +kernel
theorem d_M_headsIn_1 : decode b_M_headsIn 1 = .ok (.ifCond .lt 9, 3) := by decide +kernel
theorem d_M_headsIn_4 : decode b_M_headsIn 4 = .ok (.iload_n 1, 1) := by decide +kernel
theorem d_M_headsIn_5 : decode b_M_headsIn 5 = .ok (.bipush 23, 2) := by decide +kernel
theorem d_M_headsIn_7 : decode b_M_headsIn 7 = .ok (.if_icmp .le 7, 3) := by decide +kernel
theorem d_M_headsIn_10 : decode b_M_headsIn 10 = .ok (.iconst 0, 1) := by decide +kernel
theorem d_M_headsIn_11 : decode b_M_headsIn 11 = .ok (.goto 9, 3) := by decide +kernel
theorem d_M_headsIn_14 : decode b_M_headsIn 14 = .ok (.aload_n 0, 1) := by decide +kernel
theorem d_M_headsIn_15 : decode b_M_headsIn 15 = .ok (.getfield 19, 3) := by decide +kernel
theorem d_M_headsIn_18 : decode b_M_headsIn 18 = .ok (.iload_n 1, 1) := by decide +kernel
theorem d_M_headsIn_19 : decode b_M_headsIn 19 = .ok (.iaload, 1) := by decide +kernel
theorem d_M_headsIn_20 : decode b_M_headsIn 20 = .ok (.ireturn, 1) := by decide +kernel
abbrev b_M_lit : ByteArray := prog_9_method_6_code
theorem d_M_lit_0 : decode b_M_lit 0 = .ok (.iconst 0, 1) := by decide +kernel
theorem d_M_lit_1 : decode b_M_lit 1 = .ok (.istore_n 2, 1) := by decide +kernel
theorem d_M_lit_2 : decode b_M_lit 2 = .ok (.iconst 0, 1) := by decide +kernel
theorem d_M_lit_3 : decode b_M_lit 3 = .ok (.istore_n 3, 1) := by decide +kernel
theorem d_M_lit_4 : decode b_M_lit 4 = .ok (.iconst 0, 1) := by decide +kernel
theorem d_M_lit_5 : decode b_M_lit 5 = .ok (.istore 4, 2) := by decide +kernel
theorem d_M_lit_7 : decode b_M_lit 7 = .ok (.iconst 0, 1) := by decide +kernel
theorem d_M_lit_8 : decode b_M_lit 8 = .ok (.istore 5, 2) := by decide +kernel
theorem d_M_lit_10 : decode b_M_lit 10 = .ok (.iload 5, 2) := by decide +kernel
theorem d_M_lit_12 : decode b_M_lit 12 = .ok (.bipush 9, 2) := by decide +kernel
theorem d_M_lit_14 : decode b_M_lit 14 = .ok (.if_icmp .ge 87, 3) := by decide +kernel
theorem d_M_lit_17 : decode b_M_lit 17 = .ok (.aload_n 0, 1) := by decide +kernel
theorem d_M_lit_18 : decode b_M_lit 18 = .ok (.iload_n 1, 1) := by decide +kernel
theorem d_M_lit_19 : decode b_M_lit 19 = .ok (.iconst 1, 1) := by decide +kernel
theorem d_M_lit_20 : decode b_M_lit 20 = .ok (.isub, 1) := by decide +kernel
theorem d_M_lit_21 : decode b_M_lit 21 = .ok (.iload 5, 2) := by decide +kernel
theorem d_M_lit_23 : decode b_M_lit 23 = .ok (.iconst 3, 1) := by decide +kernel
theorem d_M_lit_24 : decode b_M_lit 24 = .ok (.idiv, 1) := by decide +kernel
theorem d_M_lit_25 : decode b_M_lit 25 = .ok (.iadd, 1) := by decide +kernel
theorem d_M_lit_26 : decode b_M_lit 26 = .ok (.invokevirtual 106, 3) := by decide +kernel
theorem d_M_lit_29 : decode b_M_lit 29 = .ok (.istore 6, 2) := by decide +kernel
theorem d_M_lit_31 : decode b_M_lit 31 = .ok (.iload 5, 2) := by decide +kernel
theorem d_M_lit_33 : decode b_M_lit 33 = .ok (.iconst 3, 1) := by decide +kernel
theorem d_M_lit_34 : decode b_M_lit 34 = .ok (.irem, 1) := by decide +kernel
theorem d_M_lit_35 : decode b_M_lit 35 = .ok (.ifCond .ne 10, 3) := by decide +kernel
theorem d_M_lit_38 : decode b_M_lit 38 = .ok (.iload 6, 2) := by decide +kernel
theorem d_M_lit_40 : decode b_M_lit 40 = .ok (.iconst 1, 1) := by decide +kernel
theorem d_M_lit_41 : decode b_M_lit 41 = .ok (.ishl, 1) := by decide +kernel
theorem d_M_lit_42 : decode b_M_lit 42 = .ok (.goto 20, 3) := by decide +kernel
theorem d_M_lit_45 : decode b_M_lit 45 = .ok (.iload 5, 2) := by decide +kernel
theorem d_M_lit_47 : decode b_M_lit 47 = .ok (.iconst 3, 1) := by decide +kernel
theorem d_M_lit_48 : decode b_M_lit 48 = .ok (.irem, 1) := by decide +kernel
theorem d_M_lit_49 : decode b_M_lit 49 = .ok (.iconst 1, 1) := by decide +kernel
theorem d_M_lit_50 : decode b_M_lit 50 = .ok (.if_icmp .ne 8, 3) := by decide +kernel
theorem d_M_lit_53 : decode b_M_lit 53 = .ok (.iload 6, 2) := by decide +kernel
theorem d_M_lit_55 : decode b_M_lit 55 = .ok (.goto 7, 3) := by decide +kernel
theorem d_M_lit_58 : decode b_M_lit 58 = .ok (.iload 6, 2) := by decide +kernel
theorem d_M_lit_60 : decode b_M_lit 60 = .ok (.iconst 1, 1) := by decide +kernel
theorem d_M_lit_61 : decode b_M_lit 61 = .ok (.iushr, 1) := by decide +kernel
theorem d_M_lit_62 : decode b_M_lit 62 = .ok (.istore 7, 2) := by decide +kernel
theorem d_M_lit_64 : decode b_M_lit 64 = .ok (.iload 5, 2) := by decide +kernel
theorem d_M_lit_66 : decode b_M_lit 66 = .ok (.iconst 4, 1) := by decide +kernel
theorem d_M_lit_67 : decode b_M_lit 67 = .ok (.if_icmp .eq 28, 3) := by decide +kernel
theorem d_M_lit_70 : decode b_M_lit 70 = .ok (.iload_n 2, 1) := by decide +kernel
theorem d_M_lit_71 : decode b_M_lit 71 = .ok (.iload 7, 2) := by decide +kernel
theorem d_M_lit_73 : decode b_M_lit 73 = .ok (.iand, 1) := by decide +kernel
theorem d_M_lit_74 : decode b_M_lit 74 = .ok (.istore 8, 2) := by decide +kernel
theorem d_M_lit_76 : decode b_M_lit 76 = .ok (.iload_n 2, 1) := by decide +kernel
theorem d_M_lit_77 : decode b_M_lit 77 = .ok (.iload 7, 2) := by decide +kernel
theorem d_M_lit_79 : decode b_M_lit 79 = .ok (.ixor, 1) := by decide +kernel
theorem d_M_lit_80 : decode b_M_lit 80 = .ok (.istore_n 2, 1) := by decide +kernel
theorem d_M_lit_81 : decode b_M_lit 81 = .ok (.iload 4, 2) := by decide +kernel
theorem d_M_lit_83 : decode b_M_lit 83 = .ok (.iload_n 3, 1) := by decide +kernel
theorem d_M_lit_84 : decode b_M_lit 84 = .ok (.iload 8, 2) := by decide +kernel
theorem d_M_lit_86 : decode b_M_lit 86 = .ok (.iand, 1) := by decide +kernel
theorem d_M_lit_87 : decode b_M_lit 87 = .ok (.ior, 1) := by decide +kernel
theorem d_M_lit_88 : decode b_M_lit 88 = .ok (.istore 4, 2) := by decide +kernel
theorem d_M_lit_90 : decode b_M_lit 90 = .ok (.iload_n 3, 1) := by decide +kernel
theorem d_M_lit_91 : decode b_M_lit 91 = .ok (.iload 8, 2) := by decide +kernel
theorem d_M_lit_93 : decode b_M_lit 93 = .ok (.ixor, 1) := by decide +kernel
theorem d_M_lit_94 : decode b_M_lit 94 = .ok (.istore_n 3, 1) := by decide +kernel
theorem d_M_lit_95 : decode b_M_lit 95 = .ok (.iinc 5 1, 3) := by decide +kernel
theorem d_M_lit_98 : decode b_M_lit 98 = .ok (.goto (-88), 3) := by decide +kernel
theorem d_M_lit_101 : decode b_M_lit 101 = .ok (.iload_n 2, 1) := by decide +kernel
theorem d_M_lit_102 : decode b_M_lit 102 = .ok (.iload_n 3, 1) := by decide +kernel
theorem d_M_lit_103 : decode b_M_lit 103 = .ok (.ixor, 1) := by decide +kernel
theorem d_M_lit_104 : decode b_M_lit 104 = .ok (.iload 4, 2) := by decide +kernel
theorem d_M_lit_106 : decode b_M_lit 106 = .ok (.iconst (-1), 1) := by decide +kernel
theorem d_M_lit_107 : decode b_M_lit 107 = .ok (.ixor, 1) := by decide +kernel
theorem d_M_lit_108 : decode b_M_lit 108 = .ok (.iand, 1) := by decide +kernel
theorem d_M_lit_109 : decode b_M_lit 109 = .ok (.ireturn, 1) := by decide +kernel
abbrev b_M_keep : ByteArray := prog_9_method_7_code
theorem d_M_keep_0 : decode b_M_keep 0 = .ok (.iconst 0, 1) := by decide +kernel
theorem d_M_keep_1 : decode b_M_keep 1 = .ok (.istore_n 1, 1) := by decide +kernel
theorem d_M_keep_2 : decode b_M_keep 2 = .ok (.iload_n 1, 1) := by decide +kernel
theorem d_M_keep_3 : decode b_M_keep 3 = .ok (.bipush 24, 2) := by decide +kernel
theorem d_M_keep_5 : decode b_M_keep 5 = .ok (.if_icmp .ge 75, 3) := by decide +kernel
theorem d_M_keep_8 : decode b_M_keep 8 = .ok (.aload_n 0, 1) := by decide +kernel
theorem d_M_keep_9 : decode b_M_keep 9 = .ok (.getfield 22, 3) := by decide +kernel
theorem d_M_keep_12 : decode b_M_keep 12 = .ok (.bipush 72, 2) := by decide +kernel
theorem d_M_keep_14 : decode b_M_keep 14 = .ok (.aload_n 0, 1) := by decide +kernel
theorem d_M_keep_15 : decode b_M_keep 15 = .ok (.getfield 110, 3) := by decide +kernel
theorem d_M_keep_18 : decode b_M_keep 18 = .ok (.imul, 1) := by decide +kernel
theorem d_M_keep_19 : decode b_M_keep 19 = .ok (.iload_n 1, 1) := by decide +kernel
theorem d_M_keep_20 : decode b_M_keep 20 = .ok (.iadd, 1) := by decide +kernel
theorem d_M_keep_21 : decode b_M_keep 21 = .ok (.aload_n 0, 1) := by decide +kernel
theorem d_M_keep_22 : decode b_M_keep 22 = .ok (.getfield 7, 3) := by decide +kernel
theorem d_M_keep_25 : decode b_M_keep 25 = .ok (.iload_n 1, 1) := by decide +kernel
theorem d_M_keep_26 : decode b_M_keep 26 = .ok (.iaload, 1) := by decide +kernel
theorem d_M_keep_27 : decode b_M_keep 27 = .ok (.iastore, 1) := by decide +kernel
theorem d_M_keep_28 : decode b_M_keep 28 = .ok (.aload_n 0, 1) := by decide +kernel
theorem d_M_keep_29 : decode b_M_keep 29 = .ok (.getfield 22, 3) := by decide +kernel
theorem d_M_keep_32 : decode b_M_keep 32 = .ok (.bipush 72, 2) := by decide +kernel
theorem d_M_keep_34 : decode b_M_keep 34 = .ok (.aload_n 0, 1) := by decide +kernel
theorem d_M_keep_35 : decode b_M_keep 35 = .ok (.getfield 110, 3) := by decide +kernel
theorem d_M_keep_38 : decode b_M_keep 38 = .ok (.imul, 1) := by decide +kernel
theorem d_M_keep_39 : decode b_M_keep 39 = .ok (.bipush 24, 2) := by decide +kernel
theorem d_M_keep_41 : decode b_M_keep 41 = .ok (.iadd, 1) := by decide +kernel
theorem d_M_keep_42 : decode b_M_keep 42 = .ok (.iload_n 1, 1) := by decide +kernel
theorem d_M_keep_43 : decode b_M_keep 43 = .ok (.iadd, 1) := by decide +kernel
theorem d_M_keep_44 : decode b_M_keep 44 = .ok (.aload_n 0, 1) := by decide +kernel
theorem d_M_keep_45 : decode b_M_keep 45 = .ok (.getfield 13, 3) := by decide +kernel
theorem d_M_keep_48 : decode b_M_keep 48 = .ok (.iload_n 1, 1) := by decide +kernel
theorem d_M_keep_49 : decode b_M_keep 49 = .ok (.iaload, 1) := by decide +kernel
theorem d_M_keep_50 : decode b_M_keep 50 = .ok (.iastore, 1) := by decide +kernel
theorem d_M_keep_51 : decode b_M_keep 51 = .ok (.aload_n 0, 1) := by decide +kernel
theorem d_M_keep_52 : decode b_M_keep 52 = .ok (.getfield 22, 3) := by decide +kernel
theorem d_M_keep_55 : decode b_M_keep 55 = .ok (.bipush 72, 2) := by decide +kernel
theorem d_M_keep_57 : decode b_M_keep 57 = .ok (.aload_n 0, 1) := by decide +kernel
theorem d_M_keep_58 : decode b_M_keep 58 = .ok (.getfield 110, 3) := by decide +kernel
theorem d_M_keep_61 : decode b_M_keep 61 = .ok (.imul, 1) := by decide +kernel
theorem d_M_keep_62 : decode b_M_keep 62 = .ok (.bipush 48, 2) := by decide +kernel
theorem d_M_keep_64 : decode b_M_keep 64 = .ok (.iadd, 1) := by decide +kernel
theorem d_M_keep_65 : decode b_M_keep 65 = .ok (.iload_n 1, 1) := by decide +kernel
theorem d_M_keep_66 : decode b_M_keep 66 = .ok (.iadd, 1) := by decide +kernel
theorem d_M_keep_67 : decode b_M_keep 67 = .ok (.aload_n 0, 1) := by decide +kernel
theorem d_M_keep_68 : decode b_M_keep 68 = .ok (.getfield 16, 3) := by decide +kernel
theorem d_M_keep_71 : decode b_M_keep 71 = .ok (.iload_n 1, 1) := by decide +kernel
theorem d_M_keep_72 : decode b_M_keep 72 = .ok (.iaload, 1) := by decide +kernel
theorem d_M_keep_73 : decode b_M_keep 73 = .ok (.iastore, 1) := by decide +kernel
theorem d_M_keep_74 : decode b_M_keep 74 = .ok (.iinc 1 1, 3) := by decide +kernel
theorem d_M_keep_77 : decode b_M_keep 77 = .ok (.goto (-75), 3) := by decide +kernel
theorem d_M_keep_80 : decode b_M_keep 80 = .ok (.iconst 0, 1) := by decide +kernel
theorem d_M_keep_81 : decode b_M_keep 81 = .ok (.istore_n 1, 1) := by decide +kernel
theorem d_M_keep_82 : decode b_M_keep 82 = .ok (.iload_n 1, 1) := by decide +kernel
theorem d_M_keep_83 : decode b_M_keep 83 = .ok (.iconst 4, 1) := by decide +kernel
theorem d_M_keep_84 : decode b_M_keep 84 = .ok (.if_icmp .ge 28, 3) := by decide +kernel
theorem d_M_keep_87 : decode b_M_keep 87 = .ok (.aload_n 0, 1) := by decide +kernel
theorem d_M_keep_88 : decode b_M_keep 88 = .ok (.getfield 25, 3) := by decide +kernel
theorem d_M_keep_91 : decode b_M_keep 91 = .ok (.iconst 4, 1) := by decide +kernel
theorem d_M_keep_92 : decode b_M_keep 92 = .ok (.aload_n 0, 1) := by decide +kernel
theorem d_M_keep_93 : decode b_M_keep 93 = .ok (.getfield 110, 3) := by decide +kernel
theorem d_M_keep_96 : decode b_M_keep 96 = .ok (.imul, 1) := by decide +kernel
theorem d_M_keep_97 : decode b_M_keep 97 = .ok (.iload_n 1, 1) := by decide +kernel
theorem d_M_keep_98 : decode b_M_keep 98 = .ok (.iadd, 1) := by decide +kernel
theorem d_M_keep_99 : decode b_M_keep 99 = .ok (.aload_n 0, 1) := by decide +kernel
theorem d_M_keep_100 : decode b_M_keep 100 = .ok (.getfield 41, 3) := by decide +kernel
theorem d_M_keep_103 : decode b_M_keep 103 = .ok (.iload_n 1, 1) := by decide +kernel
theorem d_M_keep_104 : decode b_M_keep 104 = .ok (.iaload, 1) := by decide +kernel
theorem d_M_keep_105 : decode b_M_keep 105 = .ok (.iastore, 1) := by decide +kernel
theorem d_M_keep_106 : decode b_M_keep 106 = .ok (.iinc 1 1, 3) := by decide +kernel
theorem d_M_keep_109 : decode b_M_keep 109 = .ok (.goto (-27), 3) := by decide +kernel
theorem d_M_keep_112 : decode b_M_keep 112 = .ok (.aload_n 0, 1) := by decide +kernel
theorem d_M_keep_113 : decode b_M_keep 113 = .ok (.aload_n 0, 1) := by decide +kernel
theorem d_M_keep_114 : decode b_M_keep 114 = .ok (.getfield 110, 3) := by decide +kernel
theorem d_M_keep_117 : decode b_M_keep 117 = .ok (.iconst 1, 1) := by decide +kernel
theorem d_M_keep_118 : decode b_M_keep 118 = .ok (.iadd, 1) := by decide +kernel
theorem d_M_keep_119 : decode b_M_keep 119 = .ok (.bipush 16, 2) := by decide +kernel
theorem d_M_keep_121 : decode b_M_keep 121 = .ok (.irem, 1) := by decide +kernel
theorem d_M_keep_122 : decode b_M_keep 122 = .ok (.putfield 110, 3) := by decide +kernel
theorem d_M_keep_125 : decode b_M_keep 125 = .ok (.aload_n 0, 1) := by decide +kernel
theorem d_M_keep_126 : decode b_M_keep 126 = .ok (.aload_n 0, 1) := by decide +kernel
theorem d_M_keep_127 : decode b_M_keep 127 = .ok (.getfield 113, 3) := by decide +kernel
theorem d_M_keep_130 : decode b_M_keep 130 = .ok (.bipush 16, 2) := by decide +kernel
theorem d_M_keep_132 : decode b_M_keep 132 = .ok (.if_icmp .ge 12, 3) := by decide +kernel
theorem d_M_keep_135 : decode b_M_keep 135 = .ok (.aload_n 0, 1) := by decide +kernel
theorem d_M_keep_136 : decode b_M_keep 136 = .ok (.getfield 113, 3) := by decide +kernel
theorem d_M_keep_139 : decode b_M_keep 139 = .ok (.iconst 1, 1) := by decide +kernel
theorem d_M_keep_140 : decode b_M_keep 140 = .ok (.iadd, 1) := by decide +kernel
theorem d_M_keep_141 : decode b_M_keep 141 = .ok (.goto 5, 3) := by decide +kernel
theorem d_M_keep_144 : decode b_M_keep 144 = .ok (.bipush 16, 2) := by decide +kernel
theorem d_M_keep_146 : decode b_M_keep 146 = .ok (.putfield 113, 3) := by decide +kernel
theorem d_M_keep_149 : decode b_M_keep 149 = .ok (.return_, 1) := by decide +kernel
abbrev b_M_generation : ByteArray := prog_9_method_8_code
theorem d_M_generation_0 : decode b_M_generation 0 = .ok (.aload_n 0, 1) := by decide +kernel
theorem d_M_generation_1 : decode b_M_generation 1 = .ok (.invokevirtual 116, 3) := by decide +kernel
theorem d_M_generation_4 : decode b_M_generation 4 = .ok (.iconst 0, 1) := by decide +kernel
theorem d_M_generation_5 : decode b_M_generation 5 = .ok (.istore_n 1, 1) := by decide +kernel
theorem d_M_generation_6 : decode b_M_generation 6 = .ok (.iload_n 1, 1) := by decide +kernel
theorem d_M_generation_7 : decode b_M_generation 7 = .ok (.aload_n 0, 1) := by decide +kernel
theorem d_M_generation_8 : decode b_M_generation 8 = .ok (.getfield 119, 3) := by decide +kernel
theorem d_M_generation_11 : decode b_M_generation 11 = .ok (.if_icmp .ge 107, 3) := by decide +kernel
theorem d_M_generation_14 : decode b_M_generation 14 = .ok (.iconst 1, 1) := by decide +kernel
theorem d_M_generation_15 : decode b_M_generation 15 = .ok (.aload_n 0, 1) := by decide +kernel
theorem d_M_generation_16 : decode b_M_generation 16 = .ok (.getfield 28, 3) := by decide +kernel
theorem d_M_generation_19 : decode b_M_generation 19 = .ok (.iload_n 1, 1) := by decide +kernel
theorem d_M_generation_20 : decode b_M_generation 20 = .ok (.iaload, 1) := by decide +kernel
theorem d_M_generation_21 : decode b_M_generation 21 = .ok (.ishl, 1) := by decide +kernel
theorem d_M_generation_22 : decode b_M_generation 22 = .ok (.istore_n 2, 1) := by decide +kernel
theorem d_M_generation_23 : decode b_M_generation 23 = .ok (.aload_n 0, 1) := by decide +kernel
theorem d_M_generation_24 : decode b_M_generation 24 = .ok (.getfield 34, 3) := by decide +kernel
theorem d_M_generation_27 : decode b_M_generation 27 = .ok (.iload_n 1, 1) := by decide +kernel
theorem d_M_generation_28 : decode b_M_generation 28 = .ok (.laload, 1) := by decide +kernel
theorem d_M_generation_29 : decode b_M_generation 29 = .ok (.aload_n 0, 1) := by decide +kernel
theorem d_M_generation_30 : decode b_M_generation 30 = .ok (.getfield 41, 3) := by decide +kernel
theorem d_M_generation_33 : decode b_M_generation 33 = .ok (.iload_n 1, 1) := by decide +kernel
theorem d_M_generation_34 : decode b_M_generation 34 = .ok (.iaload, 1) := by decide +kernel
theorem d_M_generation_35 : decode b_M_generation 35 = .ok (.lshr, 1) := by decide +kernel
theorem d_M_generation_36 : decode b_M_generation 36 = .ok (.lconst 1, 1) := by decide +kernel
theorem d_M_generation_37 : decode b_M_generation 37 = .ok (.land, 1) := by decide +kernel
theorem d_M_generation_38 : decode b_M_generation 38 = .ok (.lconst 1, 1) := by decide +kernel
theorem d_M_generation_39 : decode b_M_generation 39 = .ok (.lcmp, 1) := by decide +kernel
theorem d_M_generation_40 : decode b_M_generation 40 = .ok (.ifCond .ne 51, 3) := by decide +kernel
theorem d_M_generation_43 : decode b_M_generation 43 = .ok (.aload_n 0, 1) := by decide +kernel
theorem d_M_generation_44 : decode b_M_generation 44 = .ok (.getfield 16, 3) := by decide +kernel
theorem d_M_generation_47 : decode b_M_generation 47 = .ok (.aload_n 0, 1) := by decide +kernel
theorem d_M_generation_48 : decode b_M_generation 48 = .ok (.getfield 31, 3) := by decide +kernel
theorem d_M_generation_51 : decode b_M_generation 51 = .ok (.iload_n 1, 1) := by decide +kernel
theorem d_M_generation_52 : decode b_M_generation 52 = .ok (.iaload, 1) := by decide +kernel
theorem d_M_generation_53 : decode b_M_generation 53 = .ok (.iaload, 1) := by decide +kernel
theorem d_M_generation_54 : decode b_M_generation 54 = .ok (.iload_n 2, 1) := by decide +kernel
theorem d_M_generation_55 : decode b_M_generation 55 = .ok (.iand, 1) := by decide +kernel
theorem d_M_generation_56 : decode b_M_generation 56 = .ok (.ifCond .eq 35, 3) := by decide +kernel
theorem d_M_generation_59 : decode b_M_generation 59 = .ok (.aload_n 0, 1) := by decide +kernel
theorem d_M_generation_60 : decode b_M_generation 60 = .ok (.getfield 16, 3) := by decide +kernel
theorem d_M_generation_63 : decode b_M_generation 63 = .ok (.aload_n 0, 1) := by decide +kernel
theorem d_M_generation_64 : decode b_M_generation 64 = .ok (.getfield 31, 3) := by decide +kernel
theorem d_M_generation_67 : decode b_M_generation 67 = .ok (.iload_n 1, 1) := by decide +kernel
theorem d_M_generation_68 : decode b_M_generation 68 = .ok (.iaload, 1) := by decide +kernel
theorem d_M_generation_69 : decode b_M_generation 69 = .ok (.dup2, 1) := by decide +kernel
theorem d_M_generation_70 : decode b_M_generation 70 = .ok (.iaload, 1) := by decide +kernel
theorem d_M_generation_71 : decode b_M_generation 71 = .ok (.iload_n 2, 1) := by decide +kernel
theorem d_M_generation_72 : decode b_M_generation 72 = .ok (.iconst (-1), 1) := by decide +kernel
theorem d_M_generation_73 : decode b_M_generation 73 = .ok (.ixor, 1) := by decide +kernel
theorem d_M_generation_74 : decode b_M_generation 74 = .ok (.iand, 1) := by decide +kernel
theorem d_M_generation_75 : decode b_M_generation 75 = .ok (.iastore, 1) := by decide +kernel
theorem d_M_generation_76 : decode b_M_generation 76 = .ok (.aload_n 0, 1) := by decide +kernel
theorem d_M_generation_77 : decode b_M_generation 77 = .ok (.getfield 7, 3) := by decide +kernel
theorem d_M_generation_80 : decode b_M_generation 80 = .ok (.aload_n 0, 1) := by decide +kernel
theorem d_M_generation_81 : decode b_M_generation 81 = .ok (.getfield 31, 3) := by decide +kernel
theorem d_M_generation_84 : decode b_M_generation 84 = .ok (.iload_n 1, 1) := by decide +kernel
theorem d_M_generation_85 : decode b_M_generation 85 = .ok (.iaload, 1) := by decide +kernel
theorem d_M_generation_86 : decode b_M_generation 86 = .ok (.dup2, 1) := by decide +kernel
theorem d_M_generation_87 : decode b_M_generation 87 = .ok (.iaload, 1) := by decide +kernel
theorem d_M_generation_88 : decode b_M_generation 88 = .ok (.iload_n 2, 1) := by decide +kernel
theorem d_M_generation_89 : decode b_M_generation 89 = .ok (.ior, 1) := by decide +kernel
theorem d_M_generation_90 : decode b_M_generation 90 = .ok (.iastore, 1) := by decide +kernel
theorem d_M_generation_91 : decode b_M_generation 91 = .ok (.aload_n 0, 1) := by decide +kernel
theorem d_M_generation_92 : decode b_M_generation 92 = .ok (.getfield 41, 3) := by decide +kernel
theorem d_M_generation_95 : decode b_M_generation 95 = .ok (.iload_n 1, 1) := by decide +kernel
theorem d_M_generation_96 : decode b_M_generation 96 = .ok (.aload_n 0, 1) := by decide +kernel
theorem d_M_generation_97 : decode b_M_generation 97 = .ok (.getfield 41, 3) := by decide +kernel
theorem d_M_generation_100 : decode b_M_generation 100 = .ok (.iload_n 1, 1) := by decide +kernel
theorem d_M_generation_101 : decode b_M_generation 101 = .ok (.iaload, 1) := by decide +kernel
theorem d_M_generation_102 : decode b_M_generation 102 = .ok (.iconst 1, 1) := by decide +kernel
theorem d_M_generation_103 : decode b_M_generation 103 = .ok (.iadd, 1) := by decide +kernel
theorem d_M_generation_104 : decode b_M_generation 104 = .ok (.aload_n 0, 1) := by decide +kernel
theorem d_M_generation_105 : decode b_M_generation 105 = .ok (.getfield 38, 3) := by decide +kernel
theorem d_M_generation_108 : decode b_M_generation 108 = .ok (.iload_n 1, 1) := by decide +kernel
theorem d_M_generation_109 : decode b_M_generation 109 = .ok (.iaload, 1) := by decide +kernel
theorem d_M_generation_110 : decode b_M_generation 110 = .ok (.irem, 1) := by decide +kernel
theorem d_M_generation_111 : decode b_M_generation 111 = .ok (.iastore, 1) := by decide +kernel
theorem d_M_generation_112 : decode b_M_generation 112 = .ok (.iinc 1 1, 3) := by decide +kernel
theorem d_M_generation_115 : decode b_M_generation 115 = .ok (.goto (-109), 3) := by decide +kernel
theorem d_M_generation_118 : decode b_M_generation 118 = .ok (.iconst 0, 1) := by decide +kernel
theorem d_M_generation_119 : decode b_M_generation 119 = .ok (.istore_n 1, 1) := by decide +kernel
theorem d_M_generation_120 : decode b_M_generation 120 = .ok (.iload_n 1, 1) := by decide +kernel
theorem d_M_generation_121 : decode b_M_generation 121 = .ok (.bipush 24, 2) := by decide +kernel
theorem d_M_generation_123 : decode b_M_generation 123 = .ok (.if_icmp .ge 21, 3) := by decide +kernel
theorem d_M_generation_126 : decode b_M_generation 126 = .ok (.aload_n 0, 1) := by decide +kernel
theorem d_M_generation_127 : decode b_M_generation 127 = .ok (.getfield 19, 3) := by decide +kernel
theorem d_M_generation_130 : decode b_M_generation 130 = .ok (.iload_n 1, 1) := by decide +kernel
theorem d_M_generation_131 : decode b_M_generation 131 = .ok (.aload_n 0, 1) := by decide +kernel
theorem d_M_generation_132 : decode b_M_generation 132 = .ok (.getfield 7, 3) := by decide +kernel
theorem d_M_generation_135 : decode b_M_generation 135 = .ok (.iload_n 1, 1) := by decide +kernel
theorem d_M_generation_136 : decode b_M_generation 136 = .ok (.iaload, 1) := by decide +kernel
theorem d_M_generation_137 : decode b_M_generation 137 = .ok (.iastore, 1) := by decide +kernel
theorem d_M_generation_138 : decode b_M_generation 138 = .ok (.iinc 1 1, 3) := by decide +kernel
theorem d_M_generation_141 : decode b_M_generation 141 = .ok (.goto (-21), 3) := by decide +kernel
theorem d_M_generation_144 : decode b_M_generation 144 = .ok (.iconst 0, 1) := by decide +kernel
theorem d_M_generation_145 : decode b_M_generation 145 = .ok (.istore_n 1, 1) := by decide +kernel
theorem d_M_generation_146 : decode b_M_generation 146 = .ok (.iload_n 1, 1) := by decide +kernel
theorem d_M_generation_147 : decode b_M_generation 147 = .ok (.bipush 24, 2) := by decide +kernel
theorem d_M_generation_149 : decode b_M_generation 149 = .ok (.if_icmp .ge 64, 3) := by decide +kernel
theorem d_M_generation_152 : decode b_M_generation 152 = .ok (.aload_n 0, 1) := by decide +kernel
theorem d_M_generation_153 : decode b_M_generation 153 = .ok (.getfield 16, 3) := by decide +kernel
theorem d_M_generation_156 : decode b_M_generation 156 = .ok (.iload_n 1, 1) := by decide +kernel
theorem d_M_generation_157 : decode b_M_generation 157 = .ok (.iaload, 1) := by decide +kernel
theorem d_M_generation_158 : decode b_M_generation 158 = .ok (.aload_n 0, 1) := by decide +kernel
theorem d_M_generation_159 : decode b_M_generation 159 = .ok (.iload_n 1, 1) := by decide +kernel
theorem d_M_generation_160 : decode b_M_generation 160 = .ok (.invokevirtual 122, 3) := by decide +kernel
theorem d_M_generation_163 : decode b_M_generation 163 = .ok (.iand, 1) := by decide +kernel
theorem d_M_generation_164 : decode b_M_generation 164 = .ok (.istore_n 2, 1) := by decide +kernel
theorem d_M_generation_165 : decode b_M_generation 165 = .ok (.aload_n 0, 1) := by decide +kernel
theorem d_M_generation_166 : decode b_M_generation 166 = .ok (.getfield 16, 3) := by decide +kernel
theorem d_M_generation_169 : decode b_M_generation 169 = .ok (.iload_n 1, 1) := by decide +kernel
theorem d_M_generation_170 : decode b_M_generation 170 = .ok (.aload_n 0, 1) := by decide +kernel
theorem d_M_generation_171 : decode b_M_generation 171 = .ok (.getfield 16, 3) := by decide +kernel
theorem d_M_generation_174 : decode b_M_generation 174 = .ok (.iload_n 1, 1) := by decide +kernel
theorem d_M_generation_175 : decode b_M_generation 175 = .ok (.iaload, 1) := by decide +kernel
theorem d_M_generation_176 : decode b_M_generation 176 = .ok (.iload_n 2, 1) := by decide +kernel
theorem d_M_generation_177 : decode b_M_generation 177 = .ok (.iconst (-1), 1) := by decide +kernel
theorem d_M_generation_178 : decode b_M_generation 178 = .ok (.ixor, 1) := by decide +kernel
theorem d_M_generation_179 : decode b_M_generation 179 = .ok (.iand, 1) := by decide +kernel
theorem d_M_generation_180 : decode b_M_generation 180 = .ok (.aload_n 0, 1) := by decide +kernel
theorem d_M_generation_181 : decode b_M_generation 181 = .ok (.getfield 13, 3) := by decide +kernel
theorem d_M_generation_184 : decode b_M_generation 184 = .ok (.iload_n 1, 1) := by decide +kernel
theorem d_M_generation_185 : decode b_M_generation 185 = .ok (.iaload, 1) := by decide +kernel
theorem d_M_generation_186 : decode b_M_generation 186 = .ok (.ior, 1) := by decide +kernel
theorem d_M_generation_187 : decode b_M_generation 187 = .ok (.iastore, 1) := by decide +kernel
theorem d_M_generation_188 : decode b_M_generation 188 = .ok (.aload_n 0, 1) := by decide +kernel
theorem d_M_generation_189 : decode b_M_generation 189 = .ok (.getfield 13, 3) := by decide +kernel
theorem d_M_generation_192 : decode b_M_generation 192 = .ok (.iload_n 1, 1) := by decide +kernel
theorem d_M_generation_193 : decode b_M_generation 193 = .ok (.aload_n 0, 1) := by decide +kernel
theorem d_M_generation_194 : decode b_M_generation 194 = .ok (.getfield 7, 3) := by decide +kernel
theorem d_M_generation_197 : decode b_M_generation 197 = .ok (.iload_n 1, 1) := by decide +kernel
theorem d_M_generation_198 : decode b_M_generation 198 = .ok (.iaload, 1) := by decide +kernel
theorem d_M_generation_199 : decode b_M_generation 199 = .ok (.iastore, 1) := by decide +kernel
theorem d_M_generation_200 : decode b_M_generation 200 = .ok (.aload_n 0, 1) := by decide +kernel
theorem d_M_generation_201 : decode b_M_generation 201 = .ok (.getfield 7, 3) := by decide +kernel
theorem d_M_generation_204 : decode b_M_generation 204 = .ok (.iload_n 1, 1) := by decide +kernel
theorem d_M_generation_205 : decode b_M_generation 205 = .ok (.iload_n 2, 1) := by decide +kernel
theorem d_M_generation_206 : decode b_M_generation 206 = .ok (.iastore, 1) := by decide +kernel
theorem d_M_generation_207 : decode b_M_generation 207 = .ok (.iinc 1 1, 3) := by decide +kernel
theorem d_M_generation_210 : decode b_M_generation 210 = .ok (.goto (-64), 3) := by decide +kernel
theorem d_M_generation_213 : decode b_M_generation 213 = .ok (.aload_n 0, 1) := by decide +kernel
theorem d_M_generation_214 : decode b_M_generation 214 = .ok (.dup, 1) := by decide +kernel
theorem d_M_generation_215 : decode b_M_generation 215 = .ok (.getfield 125, 3) := by decide +kernel
theorem d_M_generation_218 : decode b_M_generation 218 = .ok (.iconst 1, 1) := by decide +kernel
theorem d_M_generation_219 : decode b_M_generation 219 = .ok (.iadd, 1) := by decide +kernel
theorem d_M_generation_220 : decode b_M_generation 220 = .ok (.putfield 125, 3) := by decide +kernel
theorem d_M_generation_223 : decode b_M_generation 223 = .ok (.iconst 0, 1) := by decide +kernel
theorem d_M_generation_224 : decode b_M_generation 224 = .ok (.istore_n 1, 1) := by decide +kernel
theorem d_M_generation_225 : decode b_M_generation 225 = .ok (.iload_n 1, 1) := by decide +kernel
theorem d_M_generation_226 : decode b_M_generation 226 = .ok (.aload_n 0, 1) := by decide +kernel
theorem d_M_generation_227 : decode b_M_generation 227 = .ok (.getfield 128, 3) := by decide +kernel
theorem d_M_generation_230 : decode b_M_generation 230 = .ok (.if_icmp .ge 83, 3) := by decide +kernel
theorem d_M_generation_233 : decode b_M_generation 233 = .ok (.aload_n 0, 1) := by decide +kernel
theorem d_M_generation_234 : decode b_M_generation 234 = .ok (.getfield 7, 3) := by decide +kernel
theorem d_M_generation_237 : decode b_M_generation 237 = .ok (.aload_n 0, 1) := by decide +kernel
theorem d_M_generation_238 : decode b_M_generation 238 = .ok (.getfield 47, 3) := by decide +kernel
theorem d_M_generation_241 : decode b_M_generation 241 = .ok (.iload_n 1, 1) := by decide +kernel
theorem d_M_generation_242 : decode b_M_generation 242 = .ok (.iaload, 1) := by decide +kernel
theorem d_M_generation_243 : decode b_M_generation 243 = .ok (.iaload, 1) := by decide +kernel
theorem d_M_generation_244 : decode b_M_generation 244 = .ok (.aload_n 0, 1) := by decide +kernel
theorem d_M_generation_245 : decode b_M_generation 245 = .ok (.getfield 44, 3) := by decide +kernel
theorem d_M_generation_248 : decode b_M_generation 248 = .ok (.iload_n 1, 1) := by decide +kernel
theorem d_M_generation_249 : decode b_M_generation 249 = .ok (.iaload, 1) := by decide +kernel
theorem d_M_generation_250 : decode b_M_generation 250 = .ok (.invokestatic 131, 3) := by decide +kernel
theorem d_M_generation_253 : decode b_M_generation 253 = .ok (.istore_n 2, 1) := by decide +kernel
theorem d_M_generation_254 : decode b_M_generation 254 = .ok (.aload_n 0, 1) := by decide +kernel
theorem d_M_generation_255 : decode b_M_generation 255 = .ok (.getfield 56, 3) := by decide +kernel
theorem d_M_generation_258 : decode b_M_generation 258 = .ok (.iload_n 1, 1) := by decide +kernel
theorem d_M_generation_259 : decode b_M_generation 259 = .ok (.aload_n 0, 1) := by decide +kernel
theorem d_M_generation_260 : decode b_M_generation 260 = .ok (.getfield 56, 3) := by decide +kernel
theorem d_M_generation_263 : decode b_M_generation 263 = .ok (.iload_n 1, 1) := by decide +kernel
theorem d_M_generation_264 : decode b_M_generation 264 = .ok (.laload, 1) := by decide +kernel
theorem d_M_generation_265 : decode b_M_generation 265 = .ok (.ldc2_w 135, 3) := by decide +kernel
theorem d_M_generation_268 : decode b_M_generation 268 = .ok (.lmul, 1) := by decide +kernel
theorem d_M_generation_269 : decode b_M_generation 269 = .ok (.iload_n 2, 1) := by decide +kernel
theorem d_M_generation_270 : decode b_M_generation 270 = .ok (.i2l, 1) := by decide +kernel
theorem d_M_generation_271 : decode b_M_generation 271 = .ok (.ladd, 1) := by decide +kernel
theorem d_M_generation_272 : decode b_M_generation 272 = .ok (.lastore, 1) := by decide +kernel
theorem d_M_generation_273 : decode b_M_generation 273 = .ok (.aload_n 0, 1) := by decide +kernel
theorem d_M_generation_274 : decode b_M_generation 274 = .ok (.getfield 50, 3) := by decide +kernel
theorem d_M_generation_277 : decode b_M_generation 277 = .ok (.iload_n 1, 1) := by decide +kernel
theorem d_M_generation_278 : decode b_M_generation 278 = .ok (.dup2, 1) := by decide +kernel
theorem d_M_generation_279 : decode b_M_generation 279 = .ok (.iaload, 1) := by decide +kernel
theorem d_M_generation_280 : decode b_M_generation 280 = .ok (.iload_n 2, 1) := by decide +kernel
theorem d_M_generation_281 : decode b_M_generation 281 = .ok (.iadd, 1) := by decide +kernel
theorem d_M_generation_282 : decode b_M_generation 282 = .ok (.iastore, 1) := by decide +kernel
theorem d_M_generation_283 : decode b_M_generation 283 = .ok (.aload_n 0, 1) := by decide +kernel
theorem d_M_generation_284 : decode b_M_generation 284 = .ok (.getfield 53, 3) := by decide +kernel
theorem d_M_generation_287 : decode b_M_generation 287 = .ok (.iload_n 1, 1) := by decide +kernel
theorem d_M_generation_288 : decode b_M_generation 288 = .ok (.iload_n 2, 1) := by decide +kernel
theorem d_M_generation_289 : decode b_M_generation 289 = .ok (.iconst 1, 1) := by decide +kernel
theorem d_M_generation_290 : decode b_M_generation 290 = .ok (.if_icmp .ne 10, 3) := by decide +kernel
theorem d_M_generation_293 : decode b_M_generation 293 = .ok (.aload_n 0, 1) := by decide +kernel
theorem d_M_generation_294 : decode b_M_generation 294 = .ok (.getfield 125, 3) := by decide +kernel
theorem d_M_generation_297 : decode b_M_generation 297 = .ok (.goto 9, 3) := by decide +kernel
theorem d_M_generation_300 : decode b_M_generation 300 = .ok (.aload_n 0, 1) := by decide +kernel
theorem d_M_generation_301 : decode b_M_generation 301 = .ok (.getfield 53, 3) := by decide +kernel
theorem d_M_generation_304 : decode b_M_generation 304 = .ok (.iload_n 1, 1) := by decide +kernel
theorem d_M_generation_305 : decode b_M_generation 305 = .ok (.iaload, 1) := by decide +kernel
theorem d_M_generation_306 : decode b_M_generation 306 = .ok (.iastore, 1) := by decide +kernel
theorem d_M_generation_307 : decode b_M_generation 307 = .ok (.iinc 1 1, 3) := by decide +kernel
theorem d_M_generation_310 : decode b_M_generation 310 = .ok (.goto (-85), 3) := by decide +kernel
theorem d_M_generation_313 : decode b_M_generation 313 = .ok (.return_, 1) := by decide +kernel
abbrev b_M_run : ByteArray := prog_9_method_9_code
theorem d_M_run_0 : decode b_M_run 0 = .ok (.aload_n 0, 1) := by decide +kernel
theorem d_M_run_1 : decode b_M_run 1 = .ok (.iconst 0, 1) := by decide +kernel
theorem d_M_run_2 : decode b_M_run 2 = .ok (.putfield 102, 3) := by decide +kernel
theorem d_M_run_5 : decode b_M_run 5 = .ok (.iload_n 1, 1) := by decide +kernel
theorem d_M_run_6 : decode b_M_run 6 = .ok (.iconst 1, 1) := by decide +kernel
theorem d_M_run_7 : decode b_M_run 7 = .ok (.if_icmp .lt 9, 3) := by decide +kernel
theorem d_M_run_10 : decode b_M_run 10 = .ok (.iload_n 1, 1) := by decide +kernel
theorem d_M_run_11 : decode b_M_run 11 = .ok (.bipush 60, 2) := by decide +kernel
theorem d_M_run_13 : decode b_M_run 13 = .ok (.if_icmp .le 5, 3) := by decide +kernel
theorem d_M_run_16 : decode b_M_run 16 = .ok (.iconst (-1), 1) := by decide +kernel
theorem d_M_run_17 : decode b_M_run 17 = .ok (.ireturn, 1) := by decide +kernel
theorem d_M_run_18 : decode b_M_run 18 = .ok (.iconst 0, 1) := by decide +kernel
theorem d_M_run_19 : decode b_M_run 19 = .ok (.istore_n 2, 1) := by decide +kernel
theorem d_M_run_20 : decode b_M_run 20 = .ok (.iload_n 2, 1) := by decide +kernel
theorem d_M_run_21 : decode b_M_run 21 = .ok (.iload_n 1, 1) := by decide +kernel
theorem d_M_run_22 : decode b_M_run 22 = .ok (.if_icmp .ge 13, 3) := by decide +kernel
theorem d_M_run_25 : decode b_M_run 25 = .ok (.aload_n 0, 1) := by decide +kernel
theorem d_M_run_26 : decode b_M_run 26 = .ok (.invokevirtual 137, 3) := by decide +kernel
theorem d_M_run_29 : decode b_M_run 29 = .ok (.iinc 2 1, 3) := by decide +kernel
theorem d_M_run_32 : decode b_M_run 32 = .ok (.goto (-12), 3) := by decide +kernel
theorem d_M_run_35 : decode b_M_run 35 = .ok (.aload_n 0, 1) := by decide +kernel
theorem d_M_run_36 : decode b_M_run 36 = .ok (.iconst 1, 1) := by decide +kernel
theorem d_M_run_37 : decode b_M_run 37 = .ok (.invokevirtual 140, 3) := by decide +kernel
theorem d_M_run_40 : decode b_M_run 40 = .ok (.ireturn, 1) := by decide +kernel
abbrev b_M_back : ByteArray := prog_9_method_10_code
theorem d_M_back_0 : decode b_M_back 0 = .ok (.aload_n 0, 1) := by decide +kernel
theorem d_M_back_1 : decode b_M_back 1 = .ok (.iconst 0, 1) := by decide +kernel
theorem d_M_back_2 : decode b_M_back 2 = .ok (.putfield 102, 3) := by decide +kernel
theorem d_M_back_5 : decode b_M_back 5 = .ok (.iload_n 1, 1) := by decide +kernel
theorem d_M_back_6 : decode b_M_back 6 = .ok (.iconst 1, 1) := by decide +kernel
theorem d_M_back_7 : decode b_M_back 7 = .ok (.if_icmp .lt 11, 3) := by decide +kernel
theorem d_M_back_10 : decode b_M_back 10 = .ok (.iload_n 1, 1) := by decide +kernel
theorem d_M_back_11 : decode b_M_back 11 = .ok (.aload_n 0, 1) := by decide +kernel
theorem d_M_back_12 : decode b_M_back 12 = .ok (.getfield 113, 3) := by decide +kernel
theorem d_M_back_15 : decode b_M_back 15 = .ok (.if_icmp .le 5, 3) := by decide +kernel
theorem d_M_back_18 : decode b_M_back 18 = .ok (.iconst 0, 1) := by decide +kernel
theorem d_M_back_19 : decode b_M_back 19 = .ok (.ireturn, 1) := by decide +kernel
theorem d_M_back_20 : decode b_M_back 20 = .ok (.aload_n 0, 1) := by decide +kernel
theorem d_M_back_21 : decode b_M_back 21 = .ok (.aload_n 0, 1) := by decide +kernel
theorem d_M_back_22 : decode b_M_back 22 = .ok (.getfield 110, 3) := by decide +kernel
theorem d_M_back_25 : decode b_M_back 25 = .ok (.bipush 16, 2) := by decide +kernel
theorem d_M_back_27 : decode b_M_back 27 = .ok (.iadd, 1) := by decide +kernel
theorem d_M_back_28 : decode b_M_back 28 = .ok (.iload_n 1, 1) := by decide +kernel
theorem d_M_back_29 : decode b_M_back 29 = .ok (.isub, 1) := by decide +kernel
theorem d_M_back_30 : decode b_M_back 30 = .ok (.bipush 16, 2) := by decide +kernel
theorem d_M_back_32 : decode b_M_back 32 = .ok (.irem, 1) := by decide +kernel
theorem d_M_back_33 : decode b_M_back 33 = .ok (.putfield 110, 3) := by decide +kernel
theorem d_M_back_36 : decode b_M_back 36 = .ok (.aload_n 0, 1) := by decide +kernel
theorem d_M_back_37 : decode b_M_back 37 = .ok (.dup, 1) := by decide +kernel
theorem d_M_back_38 : decode b_M_back 38 = .ok (.getfield 113, 3) := by decide +kernel
theorem d_M_back_41 : decode b_M_back 41 = .ok (.iload_n 1, 1) := by decide +kernel
theorem d_M_back_42 : decode b_M_back 42 = .ok (.isub, 1) := by decide +kernel
theorem d_M_back_43 : decode b_M_back 43 = .ok (.putfield 113, 3) := by decide +kernel
theorem d_M_back_46 : decode b_M_back 46 = .ok (.aload_n 0, 1) := by decide +kernel
theorem d_M_back_47 : decode b_M_back 47 = .ok (.dup, 1) := by decide +kernel
theorem d_M_back_48 : decode b_M_back 48 = .ok (.getfield 125, 3) := by decide +kernel
theorem d_M_back_51 : decode b_M_back 51 = .ok (.iload_n 1, 1) := by decide +kernel
theorem d_M_back_52 : decode b_M_back 52 = .ok (.isub, 1) := by decide +kernel
theorem d_M_back_53 : decode b_M_back 53 = .ok (.putfield 125, 3) := by decide +kernel
theorem d_M_back_56 : decode b_M_back 56 = .ok (.iconst 0, 1) := by decide +kernel
theorem d_M_back_57 : decode b_M_back 57 = .ok (.istore_n 2, 1) := by decide +kernel
theorem d_M_back_58 : decode b_M_back 58 = .ok (.iload_n 2, 1) := by decide +kernel
theorem d_M_back_59 : decode b_M_back 59 = .ok (.bipush 24, 2) := by decide +kernel
theorem d_M_back_61 : decode b_M_back 61 = .ok (.if_icmp .ge 75, 3) := by decide +kernel
theorem d_M_back_64 : decode b_M_back 64 = .ok (.aload_n 0, 1) := by decide +kernel
theorem d_M_back_65 : decode b_M_back 65 = .ok (.getfield 7, 3) := by decide +kernel
theorem d_M_back_68 : decode b_M_back 68 = .ok (.iload_n 2, 1) := by decide +kernel
theorem d_M_back_69 : decode b_M_back 69 = .ok (.aload_n 0, 1) := by decide +kernel
theorem d_M_back_70 : decode b_M_back 70 = .ok (.getfield 22, 3) := by decide +kernel
theorem d_M_back_73 : decode b_M_back 73 = .ok (.bipush 72, 2) := by decide +kernel
theorem d_M_back_75 : decode b_M_back 75 = .ok (.aload_n 0, 1) := by decide +kernel
theorem d_M_back_76 : decode b_M_back 76 = .ok (.getfield 110, 3) := by decide +kernel
theorem d_M_back_79 : decode b_M_back 79 = .ok (.imul, 1) := by decide +kernel
theorem d_M_back_80 : decode b_M_back 80 = .ok (.iload_n 2, 1) := by decide +kernel
theorem d_M_back_81 : decode b_M_back 81 = .ok (.iadd, 1) := by decide +kernel
theorem d_M_back_82 : decode b_M_back 82 = .ok (.iaload, 1) := by decide +kernel
theorem d_M_back_83 : decode b_M_back 83 = .ok (.iastore, 1) := by decide +kernel
theorem d_M_back_84 : decode b_M_back 84 = .ok (.aload_n 0, 1) := by decide +kernel
theorem d_M_back_85 : decode b_M_back 85 = .ok (.getfield 13, 3) := by decide +kernel
theorem d_M_back_88 : decode b_M_back 88 = .ok (.iload_n 2, 1) := by decide +kernel
theorem d_M_back_89 : decode b_M_back 89 = .ok (.aload_n 0, 1) := by decide +kernel
theorem d_M_back_90 : decode b_M_back 90 = .ok (.getfield 22, 3) := by decide +kernel
theorem d_M_back_93 : decode b_M_back 93 = .ok (.bipush 72, 2) := by decide +kernel
theorem d_M_back_95 : decode b_M_back 95 = .ok (.aload_n 0, 1) := by decide +kernel
theorem d_M_back_96 : decode b_M_back 96 = .ok (.getfield 110, 3) := by decide +kernel
theorem d_M_back_99 : decode b_M_back 99 = .ok (.imul, 1) := by decide +kernel
theorem d_M_back_100 : decode b_M_back 100 = .ok (.bipush 24, 2) := by decide +kernel
theorem d_M_back_102 : decode b_M_back 102 = .ok (.iadd, 1) := by decide +kernel
theorem d_M_back_103 : decode b_M_back 103 = .ok (.iload_n 2, 1) := by decide +kernel
theorem d_M_back_104 : decode b_M_back 104 = .ok (.iadd, 1) := by decide +kernel
theorem d_M_back_105 : decode b_M_back 105 = .ok (.iaload, 1) := by decide +kernel
theorem d_M_back_106 : decode b_M_back 106 = .ok (.iastore, 1) := by decide +kernel
theorem d_M_back_107 : decode b_M_back 107 = .ok (.aload_n 0, 1) := by decide +kernel
theorem d_M_back_108 : decode b_M_back 108 = .ok (.getfield 16, 3) := by decide +kernel
theorem d_M_back_111 : decode b_M_back 111 = .ok (.iload_n 2, 1) := by decide +kernel
theorem d_M_back_112 : decode b_M_back 112 = .ok (.aload_n 0, 1) := by decide +kernel
theorem d_M_back_113 : decode b_M_back 113 = .ok (.getfield 22, 3) := by decide +kernel
theorem d_M_back_116 : decode b_M_back 116 = .ok (.bipush 72, 2) := by decide +kernel
theorem d_M_back_118 : decode b_M_back 118 = .ok (.aload_n 0, 1) := by decide +kernel
theorem d_M_back_119 : decode b_M_back 119 = .ok (.getfield 110, 3) := by decide +kernel
theorem d_M_back_122 : decode b_M_back 122 = .ok (.imul, 1) := by decide +kernel
theorem d_M_back_123 : decode b_M_back 123 = .ok (.bipush 48, 2) := by decide +kernel
theorem d_M_back_125 : decode b_M_back 125 = .ok (.iadd, 1) := by decide +kernel
theorem d_M_back_126 : decode b_M_back 126 = .ok (.iload_n 2, 1) := by decide +kernel
theorem d_M_back_127 : decode b_M_back 127 = .ok (.iadd, 1) := by decide +kernel
theorem d_M_back_128 : decode b_M_back 128 = .ok (.iaload, 1) := by decide +kernel
theorem d_M_back_129 : decode b_M_back 129 = .ok (.iastore, 1) := by decide +kernel
theorem d_M_back_130 : decode b_M_back 130 = .ok (.iinc 2 1, 3) := by decide +kernel
theorem d_M_back_133 : decode b_M_back 133 = .ok (.goto (-75), 3) := by decide +kernel
theorem d_M_back_136 : decode b_M_back 136 = .ok (.iconst 0, 1) := by decide +kernel
theorem d_M_back_137 : decode b_M_back 137 = .ok (.istore_n 2, 1) := by decide +kernel
theorem d_M_back_138 : decode b_M_back 138 = .ok (.iload_n 2, 1) := by decide +kernel
theorem d_M_back_139 : decode b_M_back 139 = .ok (.iconst 4, 1) := by decide +kernel
theorem d_M_back_140 : decode b_M_back 140 = .ok (.if_icmp .ge 28, 3) := by decide +kernel
theorem d_M_back_143 : decode b_M_back 143 = .ok (.aload_n 0, 1) := by decide +kernel
theorem d_M_back_144 : decode b_M_back 144 = .ok (.getfield 41, 3) := by decide +kernel
theorem d_M_back_147 : decode b_M_back 147 = .ok (.iload_n 2, 1) := by decide +kernel
theorem d_M_back_148 : decode b_M_back 148 = .ok (.aload_n 0, 1) := by decide +kernel
theorem d_M_back_149 : decode b_M_back 149 = .ok (.getfield 25, 3) := by decide +kernel
theorem d_M_back_152 : decode b_M_back 152 = .ok (.iconst 4, 1) := by decide +kernel
theorem d_M_back_153 : decode b_M_back 153 = .ok (.aload_n 0, 1) := by decide +kernel
theorem d_M_back_154 : decode b_M_back 154 = .ok (.getfield 110, 3) := by decide +kernel
theorem d_M_back_157 : decode b_M_back 157 = .ok (.imul, 1) := by decide +kernel
theorem d_M_back_158 : decode b_M_back 158 = .ok (.iload_n 2, 1) := by decide +kernel
theorem d_M_back_159 : decode b_M_back 159 = .ok (.iadd, 1) := by decide +kernel
theorem d_M_back_160 : decode b_M_back 160 = .ok (.iaload, 1) := by decide +kernel
theorem d_M_back_161 : decode b_M_back 161 = .ok (.iastore, 1) := by decide +kernel
theorem d_M_back_162 : decode b_M_back 162 = .ok (.iinc 2 1, 3) := by decide +kernel
theorem d_M_back_165 : decode b_M_back 165 = .ok (.goto (-27), 3) := by decide +kernel
theorem d_M_back_168 : decode b_M_back 168 = .ok (.iconst 1, 1) := by decide +kernel
theorem d_M_back_169 : decode b_M_back 169 = .ok (.ireturn, 1) := by decide +kernel
abbrev b_M_period : ByteArray := prog_9_method_11_code
theorem d_M_period_0 : decode b_M_period 0 = .ok (.aload_n 0, 1) := by decide +kernel
theorem d_M_period_1 : decode b_M_period 1 = .ok (.iconst 0, 1) := by decide +kernel
theorem d_M_period_2 : decode b_M_period 2 = .ok (.putfield 102, 3) := by decide +kernel
theorem d_M_period_5 : decode b_M_period 5 = .ok (.iconst 1, 1) := by decide +kernel
theorem d_M_period_6 : decode b_M_period 6 = .ok (.istore_n 1, 1) := by decide +kernel
theorem d_M_period_7 : decode b_M_period 7 = .ok (.iload_n 1, 1) := by decide +kernel
theorem d_M_period_8 : decode b_M_period 8 = .ok (.aload_n 0, 1) := by decide +kernel
theorem d_M_period_9 : decode b_M_period 9 = .ok (.getfield 113, 3) := by decide +kernel
theorem d_M_period_12 : decode b_M_period 12 = .ok (.if_icmp .gt 122, 3) := by decide +kernel
theorem d_M_period_15 : decode b_M_period 15 = .ok (.bipush 72, 2) := by decide +kernel
theorem d_M_period_17 : decode b_M_period 17 = .ok (.aload_n 0, 1) := by decide +kernel
theorem d_M_period_18 : decode b_M_period 18 = .ok (.getfield 110, 3) := by decide +kernel
theorem d_M_period_21 : decode b_M_period 21 = .ok (.bipush 16, 2) := by decide +kernel
theorem d_M_period_23 : decode b_M_period 23 = .ok (.iadd, 1) := by decide +kernel
theorem d_M_period_24 : decode b_M_period 24 = .ok (.iload_n 1, 1) := by decide +kernel
theorem d_M_period_25 : decode b_M_period 25 = .ok (.isub, 1) := by decide +kernel
theorem d_M_period_26 : decode b_M_period 26 = .ok (.bipush 16, 2) := by decide +kernel
theorem d_M_period_28 : decode b_M_period 28 = .ok (.irem, 1) := by decide +kernel
theorem d_M_period_29 : decode b_M_period 29 = .ok (.imul, 1) := by decide +kernel
theorem d_M_period_30 : decode b_M_period 30 = .ok (.istore_n 2, 1) := by decide +kernel
theorem d_M_period_31 : decode b_M_period 31 = .ok (.iconst 1, 1) := by decide +kernel
theorem d_M_period_32 : decode b_M_period 32 = .ok (.istore_n 3, 1) := by decide +kernel
theorem d_M_period_33 : decode b_M_period 33 = .ok (.iconst 0, 1) := by decide +kernel
theorem d_M_period_34 : decode b_M_period 34 = .ok (.istore 4, 2) := by decide +kernel
theorem d_M_period_36 : decode b_M_period 36 = .ok (.iload 4, 2) := by decide +kernel
theorem d_M_period_38 : decode b_M_period 38 = .ok (.bipush 24, 2) := by decide +kernel
theorem d_M_period_40 : decode b_M_period 40 = .ok (.if_icmp .ge 82, 3) := by decide +kernel
theorem d_M_period_43 : decode b_M_period 43 = .ok (.iload_n 3, 1) := by decide +kernel
theorem d_M_period_44 : decode b_M_period 44 = .ok (.ifCond .eq 70, 3) := by decide +kernel
theorem d_M_period_47 : decode b_M_period 47 = .ok (.aload_n 0, 1) := by decide +kernel
theorem d_M_period_48 : decode b_M_period 48 = .ok (.getfield 22, 3) := by decide +kernel
theorem d_M_period_51 : decode b_M_period 51 = .ok (.iload_n 2, 1) := by decide +kernel
theorem d_M_period_52 : decode b_M_period 52 = .ok (.iload 4, 2) := by decide +kernel
theorem d_M_period_54 : decode b_M_period 54 = .ok (.iadd, 1) := by decide +kernel
theorem d_M_period_55 : decode b_M_period 55 = .ok (.iaload, 1) := by decide +kernel
theorem d_M_period_56 : decode b_M_period 56 = .ok (.aload_n 0, 1) := by decide +kernel
theorem d_M_period_57 : decode b_M_period 57 = .ok (.getfield 7, 3) := by decide +kernel
theorem d_M_period_60 : decode b_M_period 60 = .ok (.iload 4, 2) := by decide +kernel
theorem d_M_period_62 : decode b_M_period 62 = .ok (.iaload, 1) := by decide +kernel
theorem d_M_period_63 : decode b_M_period 63 = .ok (.if_icmp .ne 51, 3) := by decide +kernel
theorem d_M_period_66 : decode b_M_period 66 = .ok (.aload_n 0, 1) := by decide +kernel
theorem d_M_period_67 : decode b_M_period 67 = .ok (.getfield 22, 3) := by decide +kernel
theorem d_M_period_70 : decode b_M_period 70 = .ok (.iload_n 2, 1) := by decide +kernel
theorem d_M_period_71 : decode b_M_period 71 = .ok (.bipush 24, 2) := by decide +kernel
theorem d_M_period_73 : decode b_M_period 73 = .ok (.iadd, 1) := by decide +kernel
theorem d_M_period_74 : decode b_M_period 74 = .ok (.iload 4, 2) := by decide +kernel
theorem d_M_period_76 : decode b_M_period 76 = .ok (.iadd, 1) := by decide +kernel
theorem d_M_period_77 : decode b_M_period 77 = .ok (.iaload, 1) := by decide +kernel
theorem d_M_period_78 : decode b_M_period 78 = .ok (.aload_n 0, 1) := by decide +kernel
theorem d_M_period_79 : decode b_M_period 79 = .ok (.getfield 13, 3) := by decide +kernel
theorem d_M_period_82 : decode b_M_period 82 = .ok (.iload 4, 2) := by decide +kernel
theorem d_M_period_84 : decode b_M_period 84 = .ok (.iaload, 1) := by decide +kernel
theorem d_M_period_85 : decode b_M_period 85 = .ok (.if_icmp .ne 29, 3) := by decide +kernel
theorem d_M_period_88 : decode b_M_period 88 = .ok (.aload_n 0, 1) := by decide +kernel
theorem d_M_period_89 : decode b_M_period 89 = .ok (.getfield 22, 3) := by decide +kernel
theorem d_M_period_92 : decode b_M_period 92 = .ok (.iload_n 2, 1) := by decide +kernel
theorem d_M_period_93 : decode b_M_period 93 = .ok (.bipush 48, 2) := by decide +kernel
theorem d_M_period_95 : decode b_M_period 95 = .ok (.iadd, 1) := by decide +kernel
theorem d_M_period_96 : decode b_M_period 96 = .ok (.iload 4, 2) := by decide +kernel
theorem d_M_period_98 : decode b_M_period 98 = .ok (.iadd, 1) := by decide +kernel
theorem d_M_period_99 : decode b_M_period 99 = .ok (.iaload, 1) := by decide +kernel
theorem d_M_period_100 : decode b_M_period 100 = .ok (.aload_n 0, 1) := by decide +kernel
theorem d_M_period_101 : decode b_M_period 101 = .ok (.getfield 16, 3) := by decide +kernel
theorem d_M_period_104 : decode b_M_period 104 = .ok (.iload 4, 2) := by decide +kernel
theorem d_M_period_106 : decode b_M_period 106 = .ok (.iaload, 1) := by decide +kernel
theorem d_M_period_107 : decode b_M_period 107 = .ok (.if_icmp .ne 7, 3) := by decide +kernel
theorem d_M_period_110 : decode b_M_period 110 = .ok (.iconst 1, 1) := by decide +kernel
theorem d_M_period_111 : decode b_M_period 111 = .ok (.goto 4, 3) := by decide +kernel
theorem d_M_period_114 : decode b_M_period 114 = .ok (.iconst 0, 1) := by decide +kernel
theorem d_M_period_115 : decode b_M_period 115 = .ok (.istore_n 3, 1) := by decide +kernel
theorem d_M_period_116 : decode b_M_period 116 = .ok (.iinc 4 1, 3) := by decide +kernel
theorem d_M_period_119 : decode b_M_period 119 = .ok (.goto (-83), 3) := by decide +kernel
theorem d_M_period_122 : decode b_M_period 122 = .ok (.iload_n 3, 1) := by decide +kernel
theorem d_M_period_123 : decode b_M_period 123 = .ok (.ifCond .eq 5, 3) := by decide +kernel
theorem d_M_period_126 : decode b_M_period 126 = .ok (.iload_n 1, 1) := by decide +kernel
theorem d_M_period_127 : decode b_M_period 127 = .ok (.ireturn, 1) := by decide +kernel
theorem d_M_period_128 : decode b_M_period 128 = .ok (.iinc 1 1, 3) := by decide +kernel
theorem d_M_period_131 : decode b_M_period 131 = .ok (.goto (-124), 3) := by decide +kernel
theorem d_M_period_134 : decode b_M_period 134 = .ok (.iconst 0, 1) := by decide +kernel
theorem d_M_period_135 : decode b_M_period 135 = .ok (.ireturn, 1) := by decide +kernel
abbrev b_M_type : ByteArray := prog_9_method_12_code
theorem d_M_type_0 : decode b_M_type 0 = .ok (.aload_n 0, 1) := by decide +kernel
theorem d_M_type_1 : decode b_M_type 1 = .ok (.iconst 0, 1) := by decide +kernel
theorem d_M_type_2 : decode b_M_type 2 = .ok (.putfield 102, 3) := by decide +kernel
theorem d_M_type_5 : decode b_M_type 5 = .ok (.iload_n 1, 1) := by decide +kernel
theorem d_M_type_6 : decode b_M_type 6 = .ok (.bipush 33, 2) := by decide +kernel
theorem d_M_type_8 : decode b_M_type 8 = .ok (.if_icmp .lt 20, 3) := by decide +kernel
theorem d_M_type_11 : decode b_M_type 11 = .ok (.iload_n 1, 1) := by decide +kernel
theorem d_M_type_12 : decode b_M_type 12 = .ok (.bipush 126, 2) := by decide +kernel
theorem d_M_type_14 : decode b_M_type 14 = .ok (.if_icmp .gt 14, 3) := by decide +kernel
theorem d_M_type_17 : decode b_M_type 17 = .ok (.aload_n 0, 1) := by decide +kernel
theorem d_M_type_18 : decode b_M_type 18 = .ok (.getfield 62, 3) := by decide +kernel
theorem d_M_type_21 : decode b_M_type 21 = .ok (.iconst 4, 1) := by decide +kernel
theorem d_M_type_22 : decode b_M_type 22 = .ok (.iaload, 1) := by decide +kernel
theorem d_M_type_23 : decode b_M_type 23 = .ok (.bipush 60, 2) := by decide +kernel
theorem d_M_type_25 : decode b_M_type 25 = .ok (.if_icmp .ne 5, 3) := by decide +kernel
theorem d_M_type_28 : decode b_M_type 28 = .ok (.iconst 0, 1) := by decide +kernel
theorem d_M_type_29 : decode b_M_type 29 = .ok (.ireturn, 1) := by decide +kernel
theorem d_M_type_30 : decode b_M_type 30 = .ok (.aload_n 0, 1) := by decide +kernel
theorem d_M_type_31 : decode b_M_type 31 = .ok (.getfield 59, 3) := by decide +kernel
theorem d_M_type_34 : decode b_M_type 34 = .ok (.sipush 240, 3) := by decide +kernel
theorem d_M_type_37 : decode b_M_type 37 = .ok (.aload_n 0, 1) := by decide +kernel
theorem d_M_type_38 : decode b_M_type 38 = .ok (.getfield 62, 3) := by decide +kernel
theorem d_M_type_41 : decode b_M_type 41 = .ok (.iconst 4, 1) := by decide +kernel
theorem d_M_type_42 : decode b_M_type 42 = .ok (.iaload, 1) := by decide +kernel
theorem d_M_type_43 : decode b_M_type 43 = .ok (.iadd, 1) := by decide +kernel
theorem d_M_type_44 : decode b_M_type 44 = .ok (.iload_n 1, 1) := by decide +kernel
theorem d_M_type_45 : decode b_M_type 45 = .ok (.iastore, 1) := by decide +kernel
theorem d_M_type_46 : decode b_M_type 46 = .ok (.aload_n 0, 1) := by decide +kernel
theorem d_M_type_47 : decode b_M_type 47 = .ok (.getfield 62, 3) := by decide +kernel
theorem d_M_type_50 : decode b_M_type 50 = .ok (.iconst 4, 1) := by decide +kernel
theorem d_M_type_51 : decode b_M_type 51 = .ok (.dup2, 1) := by decide +kernel
theorem d_M_type_52 : decode b_M_type 52 = .ok (.iaload, 1) := by decide +kernel
theorem d_M_type_53 : decode b_M_type 53 = .ok (.iconst 1, 1) := by decide +kernel
theorem d_M_type_54 : decode b_M_type 54 = .ok (.iadd, 1) := by decide +kernel
theorem d_M_type_55 : decode b_M_type 55 = .ok (.iastore, 1) := by decide +kernel
theorem d_M_type_56 : decode b_M_type 56 = .ok (.iconst 1, 1) := by decide +kernel
theorem d_M_type_57 : decode b_M_type 57 = .ok (.ireturn, 1) := by decide +kernel
abbrev b_M_wipe : ByteArray := prog_9_method_13_code
theorem d_M_wipe_0 : decode b_M_wipe 0 = .ok (.aload_n 0, 1) := by decide +kernel
theorem d_M_wipe_1 : decode b_M_wipe 1 = .ok (.iconst 0, 1) := by decide +kernel
theorem d_M_wipe_2 : decode b_M_wipe 2 = .ok (.putfield 102, 3) := by decide +kernel
theorem d_M_wipe_5 : decode b_M_wipe 5 = .ok (.aload_n 0, 1) := by decide +kernel
theorem d_M_wipe_6 : decode b_M_wipe 6 = .ok (.getfield 62, 3) := by decide +kernel
theorem d_M_wipe_9 : decode b_M_wipe 9 = .ok (.iconst 4, 1) := by decide +kernel
theorem d_M_wipe_10 : decode b_M_wipe 10 = .ok (.iconst 0, 1) := by decide +kernel
theorem d_M_wipe_11 : decode b_M_wipe 11 = .ok (.iastore, 1) := by decide +kernel
theorem d_M_wipe_12 : decode b_M_wipe 12 = .ok (.return_, 1) := by decide +kernel
abbrev b_M_sign : ByteArray := prog_9_method_14_code
theorem d_M_sign_0 : decode b_M_sign 0 = .ok (.iload_n 2, 1) := by decide +kernel
theorem d_M_sign_1 : decode b_M_sign 1 = .ok (.aload_n 0, 1) := by decide +kernel
theorem d_M_sign_2 : decode b_M_sign 2 = .ok (.getfield 62, 3) := by decide +kernel
theorem d_M_sign_5 : decode b_M_sign 5 = .ok (.iload_n 1, 1) := by decide +kernel
theorem d_M_sign_6 : decode b_M_sign 6 = .ok (.iaload, 1) := by decide +kernel
theorem d_M_sign_7 : decode b_M_sign 7 = .ok (.if_icmp .ge 17, 3) := by decide +kernel
theorem d_M_sign_10 : decode b_M_sign 10 = .ok (.aload_n 0, 1) := by decide +kernel
theorem d_M_sign_11 : decode b_M_sign 11 = .ok (.getfield 59, 3) := by decide +kernel
theorem d_M_sign_14 : decode b_M_sign 14 = .ok (.bipush 60, 2) := by decide +kernel
theorem d_M_sign_16 : decode b_M_sign 16 = .ok (.iload_n 1, 1) := by decide +kernel
theorem d_M_sign_17 : decode b_M_sign 17 = .ok (.imul, 1) := by decide +kernel
theorem d_M_sign_18 : decode b_M_sign 18 = .ok (.iload_n 2, 1) := by decide +kernel
theorem d_M_sign_19 : decode b_M_sign 19 = .ok (.iadd, 1) := by decide +kernel
theorem d_M_sign_20 : decode b_M_sign 20 = .ok (.iaload, 1) := by decide +kernel
theorem d_M_sign_21 : decode b_M_sign 21 = .ok (.goto 4, 3) := by decide +kernel
theorem d_M_sign_24 : decode b_M_sign 24 = .ok (.iconst 0, 1) := by decide +kernel
theorem d_M_sign_25 : decode b_M_sign 25 = .ok (.ireturn, 1) := by decide +kernel
abbrev b_M_digit : ByteArray := prog_9_method_15_code
theorem d_M_digit_0 : decode b_M_digit 0 = .ok (.iload_n 0, 1) := by decide +kernel
theorem d_M_digit_1 : decode b_M_digit 1 = .ok (.bipush 47, 2) := by decide +kernel
theorem d_M_digit_3 : decode b_M_digit 3 = .ok (.if_icmp .le 13, 3) := by decide +kernel
theorem d_M_digit_6 : decode b_M_digit 6 = .ok (.iload_n 0, 1) := by decide +kernel
theorem d_M_digit_7 : decode b_M_digit 7 = .ok (.bipush 58, 2) := by decide +kernel
theorem d_M_digit_9 : decode b_M_digit 9 = .ok (.if_icmp .ge 7, 3) := by decide +kernel
theorem d_M_digit_12 : decode b_M_digit 12 = .ok (.iconst 1, 1) := by decide +kernel
theorem d_M_digit_13 : decode b_M_digit 13 = .ok (.goto 4, 3) := by decide +kernel
theorem d_M_digit_16 : decode b_M_digit 16 = .ok (.iconst 0, 1) := by decide +kernel
theorem d_M_digit_17 : decode b_M_digit 17 = .ok (.ireturn, 1) := by decide +kernel
abbrev b_M_single : ByteArray := prog_9_method_16_code
theorem d_M_single_0 : decode b_M_single 0 = .ok (.iload_n 0, 1) := by decide +kernel
theorem d_M_single_1 : decode b_M_single 1 = .ok (.bipush 70, 2) := by decide +kernel
theorem d_M_single_3 : decode b_M_single 3 = .ok (.if_icmp .eq 51, 3) := by decide +kernel
theorem d_M_single_6 : decode b_M_single 6 = .ok (.iload_n 0, 1) := by decide +kernel
theorem d_M_single_7 : decode b_M_single 7 = .ok (.bipush 66, 2) := by decide +kernel
theorem d_M_single_9 : decode b_M_single 9 = .ok (.if_icmp .eq 45, 3) := by decide +kernel
theorem d_M_single_12 : decode b_M_single 12 = .ok (.iload_n 0, 1) := by decide +kernel
theorem d_M_single_13 : decode b_M_single 13 = .ok (.bipush 82, 2) := by decide +kernel
theorem d_M_single_15 : decode b_M_single 15 = .ok (.if_icmp .eq 39, 3) := by decide +kernel
theorem d_M_single_18 : decode b_M_single 18 = .ok (.iload_n 0, 1) := by decide +kernel
theorem d_M_single_19 : decode b_M_single 19 = .ok (.bipush 76, 2) := by decide +kernel
theorem d_M_single_21 : decode b_M_single 21 = .ok (.if_icmp .eq 33, 3) := by decide +kernel
theorem d_M_single_24 : decode b_M_single 24 = .ok (.iload_n 0, 1) := by decide +kernel
theorem d_M_single_25 : decode b_M_single 25 = .ok (.bipush 85, 2) := by decide +kernel
theorem d_M_single_27 : decode b_M_single 27 = .ok (.if_icmp .eq 27, 3) := by decide +kernel
theorem d_M_single_30 : decode b_M_single 30 = .ok (.iload_n 0, 1) := by decide +kernel
theorem d_M_single_31 : decode b_M_single 31 = .ok (.bipush 68, 2) := by decide +kernel
theorem d_M_single_33 : decode b_M_single 33 = .ok (.if_icmp .eq 21, 3) := by decide +kernel
theorem d_M_single_36 : decode b_M_single 36 = .ok (.iload_n 0, 1) := by decide +kernel
theorem d_M_single_37 : decode b_M_single 37 = .ok (.bipush 69, 2) := by decide +kernel
theorem d_M_single_39 : decode b_M_single 39 = .ok (.if_icmp .eq 15, 3) := by decide +kernel
theorem d_M_single_42 : decode b_M_single 42 = .ok (.iload_n 0, 1) := by decide +kernel
theorem d_M_single_43 : decode b_M_single 43 = .ok (.bipush 87, 2) := by decide +kernel
theorem d_M_single_45 : decode b_M_single 45 = .ok (.if_icmp .eq 9, 3) := by decide +kernel
theorem d_M_single_48 : decode b_M_single 48 = .ok (.iload_n 0, 1) := by decide +kernel
theorem d_M_single_49 : decode b_M_single 49 = .ok (.bipush 60, 2) := by decide +kernel
theorem d_M_single_51 : decode b_M_single 51 = .ok (.if_icmp .ne 7, 3) := by decide +kernel
theorem d_M_single_54 : decode b_M_single 54 = .ok (.iconst 1, 1) := by decide +kernel
theorem d_M_single_55 : decode b_M_single 55 = .ok (.goto 4, 3) := by decide +kernel
theorem d_M_single_58 : decode b_M_single 58 = .ok (.iconst 0, 1) := by decide +kernel
theorem d_M_single_59 : decode b_M_single 59 = .ok (.ireturn, 1) := by decide +kernel
abbrev b_M_reads : ByteArray := prog_9_method_17_code
theorem d_M_reads_0 : decode b_M_reads 0 = .ok (.iconst 0, 1) := by decide +kernel
theorem d_M_reads_1 : decode b_M_reads 1 = .ok (.istore_n 1, 1) := by decide +kernel
theorem d_M_reads_2 : decode b_M_reads 2 = .ok (.iconst 0, 1) := by decide +kernel
theorem d_M_reads_3 : decode b_M_reads 3 = .ok (.istore_n 2, 1) := by decide +kernel
theorem d_M_reads_4 : decode b_M_reads 4 = .ok (.iconst 0, 1) := by decide +kernel
theorem d_M_reads_5 : decode b_M_reads 5 = .ok (.istore_n 3, 1) := by decide +kernel
theorem d_M_reads_6 : decode b_M_reads 6 = .ok (.aload_n 0, 1) := by decide +kernel
theorem d_M_reads_7 : decode b_M_reads 7 = .ok (.getfield 65, 3) := by decide +kernel
theorem d_M_reads_10 : decode b_M_reads 10 = .ok (.iconst 4, 1) := by decide +kernel
theorem d_M_reads_11 : decode b_M_reads 11 = .ok (.iconst 0, 1) := by decide +kernel
theorem d_M_reads_12 : decode b_M_reads 12 = .ok (.iastore, 1) := by decide +kernel
theorem d_M_reads_13 : decode b_M_reads 13 = .ok (.iload_n 1, 1) := by decide +kernel
theorem d_M_reads_14 : decode b_M_reads 14 = .ok (.aload_n 0, 1) := by decide +kernel
theorem d_M_reads_15 : decode b_M_reads 15 = .ok (.getfield 62, 3) := by decide +kernel
theorem d_M_reads_18 : decode b_M_reads 18 = .ok (.iconst 4, 1) := by decide +kernel
theorem d_M_reads_19 : decode b_M_reads 19 = .ok (.iaload, 1) := by decide +kernel
theorem d_M_reads_20 : decode b_M_reads 20 = .ok (.if_icmp .ge 242, 3) := by decide +kernel
theorem d_M_reads_23 : decode b_M_reads 23 = .ok (.iconst 0, 1) := by decide +kernel
theorem d_M_reads_24 : decode b_M_reads 24 = .ok (.istore 4, 2) := by decide +kernel
theorem d_M_reads_26 : decode b_M_reads 26 = .ok (.iload 4, 2) := by decide +kernel
theorem d_M_reads_28 : decode b_M_reads 28 = .ok (.iconst 3, 1) := by decide +kernel
theorem d_M_reads_29 : decode b_M_reads 29 = .ok (.if_icmp .ge 24, 3) := by decide +kernel
theorem d_M_reads_32 : decode b_M_reads 32 = .ok (.aload_n 0, 1) := by decide +kernel
theorem d_M_reads_33 : decode b_M_reads 33 = .ok (.iconst 4, 1) := by decide +kernel
theorem d_M_reads_34 : decode b_M_reads 34 = .ok (.iload_n 1, 1) := by decide +kernel
theorem d_M_reads_35 : decode b_M_reads 35 = .ok (.invokevirtual 143, 3) := by decide +kernel
theorem d_M_reads_38 : decode b_M_reads 38 = .ok (.invokestatic 145, 3) := by decide +kernel
theorem d_M_reads_41 : decode b_M_reads 41 = .ok (.ifCond .eq 12, 3) := by decide +kernel
theorem d_M_reads_44 : decode b_M_reads 44 = .ok (.iinc 4 1, 3) := by decide +kernel
theorem d_M_reads_47 : decode b_M_reads 47 = .ok (.iinc 1 1, 3) := by decide +kernel
theorem d_M_reads_50 : decode b_M_reads 50 = .ok (.goto (-24), 3) := by decide +kernel
theorem d_M_reads_53 : decode b_M_reads 53 = .ok (.aload_n 0, 1) := by decide +kernel
theorem d_M_reads_54 : decode b_M_reads 54 = .ok (.iconst 4, 1) := by decide +kernel
theorem d_M_reads_55 : decode b_M_reads 55 = .ok (.iload_n 1, 1) := by decide +kernel
theorem d_M_reads_56 : decode b_M_reads 56 = .ok (.invokevirtual 143, 3) := by decide +kernel
theorem d_M_reads_59 : decode b_M_reads 59 = .ok (.istore 5, 2) := by decide +kernel
theorem d_M_reads_61 : decode b_M_reads 61 = .ok (.iload 5, 2) := by decide +kernel
theorem d_M_reads_63 : decode b_M_reads 63 = .ok (.bipush 40, 2) := by decide +kernel
theorem d_M_reads_65 : decode b_M_reads 65 = .ok (.if_icmp .eq 10, 3) := by decide +kernel
theorem d_M_reads_68 : decode b_M_reads 68 = .ok (.iload 5, 2) := by decide +kernel
theorem d_M_reads_70 : decode b_M_reads 70 = .ok (.bipush 91, 2) := by decide +kernel
theorem d_M_reads_72 : decode b_M_reads 72 = .ok (.if_icmp .ne 7, 3) := by decide +kernel
theorem d_M_reads_75 : decode b_M_reads 75 = .ok (.iconst 1, 1) := by decide +kernel
theorem d_M_reads_76 : decode b_M_reads 76 = .ok (.goto 4, 3) := by decide +kernel
theorem d_M_reads_79 : decode b_M_reads 79 = .ok (.iconst 0, 1) := by decide +kernel
theorem d_M_reads_80 : decode b_M_reads 80 = .ok (.istore 6, 2) := by decide +kernel
theorem d_M_reads_82 : decode b_M_reads 82 = .ok (.iload 5, 2) := by decide +kernel
theorem d_M_reads_84 : decode b_M_reads 84 = .ok (.bipush 41, 2) := by decide +kernel
theorem d_M_reads_86 : decode b_M_reads 86 = .ok (.if_icmp .eq 10, 3) := by decide +kernel
theorem d_M_reads_89 : decode b_M_reads 89 = .ok (.iload 5, 2) := by decide +kernel
theorem d_M_reads_91 : decode b_M_reads 91 = .ok (.bipush 93, 2) := by decide +kernel
theorem d_M_reads_93 : decode b_M_reads 93 = .ok (.if_icmp .ne 7, 3) := by decide +kernel
theorem d_M_reads_96 : decode b_M_reads 96 = .ok (.iconst 1, 1) := by decide +kernel
theorem d_M_reads_97 : decode b_M_reads 97 = .ok (.goto 4, 3) := by decide +kernel
theorem d_M_reads_100 : decode b_M_reads 100 = .ok (.iconst 0, 1) := by decide +kernel
theorem d_M_reads_101 : decode b_M_reads 101 = .ok (.istore 7, 2) := by decide +kernel
theorem d_M_reads_103 : decode b_M_reads 103 = .ok (.iload 4, 2) := by decide +kernel
theorem d_M_reads_105 : decode b_M_reads 105 = .ok (.iconst 2, 1) := by decide +kernel
theorem d_M_reads_106 : decode b_M_reads 106 = .ok (.if_icmp .gt 45, 3) := by decide +kernel
theorem d_M_reads_109 : decode b_M_reads 109 = .ok (.iload 7, 2) := by decide +kernel
theorem d_M_reads_111 : decode b_M_reads 111 = .ok (.ifCond .eq 30, 3) := by decide +kernel
theorem d_M_reads_114 : decode b_M_reads 114 = .ok (.iload 4, 2) := by decide +kernel
theorem d_M_reads_116 : decode b_M_reads 116 = .ok (.ifCond .gt 35, 3) := by decide +kernel
theorem d_M_reads_119 : decode b_M_reads 119 = .ok (.iload_n 2, 1) := by decide +kernel
theorem d_M_reads_120 : decode b_M_reads 120 = .ok (.ifCond .eq 31, 3) := by decide +kernel
theorem d_M_reads_123 : decode b_M_reads 123 = .ok (.iload_n 3, 1) := by decide +kernel
theorem d_M_reads_124 : decode b_M_reads 124 = .ok (.iconst 2, 1) := by decide +kernel
theorem d_M_reads_125 : decode b_M_reads 125 = .ok (.irem, 1) := by decide +kernel
theorem d_M_reads_126 : decode b_M_reads 126 = .ok (.iload 5, 2) := by decide +kernel
theorem d_M_reads_128 : decode b_M_reads 128 = .ok (.bipush 41, 2) := by decide +kernel
theorem d_M_reads_130 : decode b_M_reads 130 = .ok (.if_icmp .ne 7, 3) := by decide +kernel
theorem d_M_reads_133 : decode b_M_reads 133 = .ok (.iconst 0, 1) := by decide +kernel
theorem d_M_reads_134 : decode b_M_reads 134 = .ok (.goto 4, 3) := by decide +kernel
theorem d_M_reads_137 : decode b_M_reads 137 = .ok (.iconst 1, 1) := by decide +kernel
theorem d_M_reads_138 : decode b_M_reads 138 = .ok (.if_icmp .ne 13, 3) := by decide +kernel
theorem d_M_reads_141 : decode b_M_reads 141 = .ok (.iload 6, 2) := by decide +kernel
theorem d_M_reads_143 : decode b_M_reads 143 = .ok (.ifCond .eq 10, 3) := by decide +kernel
theorem d_M_reads_146 : decode b_M_reads 146 = .ok (.iload_n 2, 1) := by decide +kernel
theorem d_M_reads_147 : decode b_M_reads 147 = .ok (.iconst 3, 1) := by decide +kernel
theorem d_M_reads_148 : decode b_M_reads 148 = .ok (.if_icmp .ne 5, 3) := by decide +kernel
theorem d_M_reads_151 : decode b_M_reads 151 = .ok (.iconst 0, 1) := by decide +kernel
theorem d_M_reads_152 : decode b_M_reads 152 = .ok (.ireturn, 1) := by decide +kernel
theorem d_M_reads_153 : decode b_M_reads 153 = .ok (.iload 6, 2) := by decide +kernel
theorem d_M_reads_155 : decode b_M_reads 155 = .ok (.ifCond .eq 26, 3) := by decide +kernel
theorem d_M_reads_158 : decode b_M_reads 158 = .ok (.iinc 2 1, 3) := by decide +kernel
theorem d_M_reads_161 : decode b_M_reads 161 = .ok (.iconst 2, 1) := by decide +kernel
theorem d_M_reads_162 : decode b_M_reads 162 = .ok (.iload_n 3, 1) := by decide +kernel
theorem d_M_reads_163 : decode b_M_reads 163 = .ok (.imul, 1) := by decide +kernel
theorem d_M_reads_164 : decode b_M_reads 164 = .ok (.iload 5, 2) := by decide +kernel
theorem d_M_reads_166 : decode b_M_reads 166 = .ok (.bipush 40, 2) := by decide +kernel
theorem d_M_reads_168 : decode b_M_reads 168 = .ok (.if_icmp .ne 7, 3) := by decide +kernel
theorem d_M_reads_171 : decode b_M_reads 171 = .ok (.iconst 0, 1) := by decide +kernel
theorem d_M_reads_172 : decode b_M_reads 172 = .ok (.goto 4, 3) := by decide +kernel
theorem d_M_reads_175 : decode b_M_reads 175 = .ok (.iconst 1, 1) := by decide +kernel
theorem d_M_reads_176 : decode b_M_reads 176 = .ok (.iadd, 1) := by decide +kernel
theorem d_M_reads_177 : decode b_M_reads 177 = .ok (.istore_n 3, 1) := by decide +kernel
theorem d_M_reads_178 : decode b_M_reads 178 = .ok (.goto 78, 3) := by decide +kernel
theorem d_M_reads_181 : decode b_M_reads 181 = .ok (.iload 7, 2) := by decide +kernel
theorem d_M_reads_183 : decode b_M_reads 183 = .ok (.ifCond .eq 13, 3) := by decide +kernel
theorem d_M_reads_186 : decode b_M_reads 186 = .ok (.iinc 2 (-1), 3) := by decide +kernel
theorem d_M_reads_189 : decode b_M_reads 189 = .ok (.iload_n 3, 1) := by decide +kernel
theorem d_M_reads_190 : decode b_M_reads 190 = .ok (.iconst 2, 1) := by decide +kernel
theorem d_M_reads_191 : decode b_M_reads 191 = .ok (.idiv, 1) := by decide +kernel
theorem d_M_reads_192 : decode b_M_reads 192 = .ok (.istore_n 3, 1) := by decide +kernel
theorem d_M_reads_193 : decode b_M_reads 193 = .ok (.goto 63, 3) := by decide +kernel
theorem d_M_reads_196 : decode b_M_reads 196 = .ok (.iload 5, 2) := by decide +kernel
theorem d_M_reads_198 : decode b_M_reads 198 = .ok (.bipush 64, 2) := by decide +kernel
theorem d_M_reads_200 : decode b_M_reads 200 = .ok (.if_icmp .ne 46, 3) := by decide +kernel
theorem d_M_reads_203 : decode b_M_reads 203 = .ok (.iinc 1 1, 3) := by decide +kernel
theorem d_M_reads_206 : decode b_M_reads 206 = .ok (.aload_n 0, 1) := by decide +kernel
theorem d_M_reads_207 : decode b_M_reads 207 = .ok (.iconst 4, 1) := by decide +kernel
theorem d_M_reads_208 : decode b_M_reads 208 = .ok (.iload_n 1, 1) := by decide +kernel
theorem d_M_reads_209 : decode b_M_reads 209 = .ok (.invokevirtual 143, 3) := by decide +kernel
theorem d_M_reads_212 : decode b_M_reads 212 = .ok (.bipush 97, 2) := by decide +kernel
theorem d_M_reads_214 : decode b_M_reads 214 = .ok (.isub, 1) := by decide +kernel
theorem d_M_reads_215 : decode b_M_reads 215 = .ok (.istore 8, 2) := by decide +kernel
theorem d_M_reads_217 : decode b_M_reads 217 = .ok (.iload 8, 2) := by decide +kernel
theorem d_M_reads_219 : decode b_M_reads 219 = .ok (.ifCond .lt 9, 3) := by decide +kernel
theorem d_M_reads_222 : decode b_M_reads 222 = .ok (.iload 8, 2) := by decide +kernel
theorem d_M_reads_224 : decode b_M_reads 224 = .ok (.iconst 3, 1) := by decide +kernel
theorem d_M_reads_225 : decode b_M_reads 225 = .ok (.if_icmp .le 5, 3) := by decide +kernel
theorem d_M_reads_228 : decode b_M_reads 228 = .ok (.iconst 0, 1) := by decide +kernel
theorem d_M_reads_229 : decode b_M_reads 229 = .ok (.ireturn, 1) := by decide +kernel
theorem d_M_reads_230 : decode b_M_reads 230 = .ok (.aload_n 0, 1) := by decide +kernel
theorem d_M_reads_231 : decode b_M_reads 231 = .ok (.getfield 65, 3) := by decide +kernel
theorem d_M_reads_234 : decode b_M_reads 234 = .ok (.iconst 4, 1) := by decide +kernel
theorem d_M_reads_235 : decode b_M_reads 235 = .ok (.dup2, 1) := by decide +kernel
theorem d_M_reads_236 : decode b_M_reads 236 = .ok (.iaload, 1) := by decide +kernel
theorem d_M_reads_237 : decode b_M_reads 237 = .ok (.iconst 1, 1) := by decide +kernel
theorem d_M_reads_238 : decode b_M_reads 238 = .ok (.iload 8, 2) := by decide +kernel
theorem d_M_reads_240 : decode b_M_reads 240 = .ok (.ishl, 1) := by decide +kernel
theorem d_M_reads_241 : decode b_M_reads 241 = .ok (.ior, 1) := by decide +kernel
theorem d_M_reads_242 : decode b_M_reads 242 = .ok (.iastore, 1) := by decide +kernel
theorem d_M_reads_243 : decode b_M_reads 243 = .ok (.goto 13, 3) := by decide +kernel
theorem d_M_reads_246 : decode b_M_reads 246 = .ok (.iload 5, 2) := by decide +kernel
theorem d_M_reads_248 : decode b_M_reads 248 = .ok (.invokestatic 149, 3) := by decide +kernel
theorem d_M_reads_251 : decode b_M_reads 251 = .ok (.ifCond .ne 5, 3) := by decide +kernel
theorem d_M_reads_254 : decode b_M_reads 254 = .ok (.iconst 0, 1) := by decide +kernel
theorem d_M_reads_255 : decode b_M_reads 255 = .ok (.ireturn, 1) := by decide +kernel
theorem d_M_reads_256 : decode b_M_reads 256 = .ok (.iinc 1 1, 3) := by decide +kernel
theorem d_M_reads_259 : decode b_M_reads 259 = .ok (.goto (-246), 3) := by decide +kernel
theorem d_M_reads_262 : decode b_M_reads 262 = .ok (.iload_n 2, 1) := by decide +kernel
theorem d_M_reads_263 : decode b_M_reads 263 = .ok (.ifCond .ne 7, 3) := by decide +kernel
theorem d_M_reads_266 : decode b_M_reads 266 = .ok (.iconst 1, 1) := by decide +kernel
theorem d_M_reads_267 : decode b_M_reads 267 = .ok (.goto 4, 3) := by decide +kernel
theorem d_M_reads_270 : decode b_M_reads 270 = .ok (.iconst 0, 1) := by decide +kernel
theorem d_M_reads_271 : decode b_M_reads 271 = .ok (.ireturn, 1) := by decide +kernel
abbrev b_M_complete : ByteArray := prog_9_method_18_code
theorem d_M_complete_0 : decode b_M_complete 0 = .ok (.aload_n 0, 1) := by decide +kernel
theorem d_M_complete_1 : decode b_M_complete 1 = .ok (.getfield 65, 3) := by decide +kernel
theorem d_M_complete_4 : decode b_M_complete 4 = .ok (.iconst 4, 1) := by decide +kernel
theorem d_M_complete_5 : decode b_M_complete 5 = .ok (.iaload, 1) := by decide +kernel
theorem d_M_complete_6 : decode b_M_complete 6 = .ok (.istore_n 1, 1) := by decide +kernel
theorem d_M_complete_7 : decode b_M_complete 7 = .ok (.iconst 3, 1) := by decide +kernel
theorem d_M_complete_8 : decode b_M_complete 8 = .ok (.istore_n 2, 1) := by decide +kernel
theorem d_M_complete_9 : decode b_M_complete 9 = .ok (.iload_n 2, 1) := by decide +kernel
theorem d_M_complete_10 : decode b_M_complete 10 = .ok (.ifCond .lt 38, 3) := by decide +kernel
theorem d_M_complete_13 : decode b_M_complete 13 = .ok (.iload_n 1, 1) := by decide +kernel
theorem d_M_complete_14 : decode b_M_complete 14 = .ok (.iload_n 2, 1) := by decide +kernel
theorem d_M_complete_15 : decode b_M_complete 15 = .ok (.invokestatic 131, 3) := by decide +kernel
theorem d_M_complete_18 : decode b_M_complete 18 = .ok (.iconst 1, 1) := by decide +kernel
theorem d_M_complete_19 : decode b_M_complete 19 = .ok (.if_icmp .ne 23, 3) := by decide +kernel
theorem d_M_complete_22 : decode b_M_complete 22 = .ok (.aload_n 0, 1) := by decide +kernel
theorem d_M_complete_23 : decode b_M_complete 23 = .ok (.getfield 62, 3) := by decide +kernel
theorem d_M_complete_26 : decode b_M_complete 26 = .ok (.iload_n 2, 1) := by decide +kernel
theorem d_M_complete_27 : decode b_M_complete 27 = .ok (.iaload, 1) := by decide +kernel
theorem d_M_complete_28 : decode b_M_complete 28 = .ok (.ifCond .ge 5, 3) := by decide +kernel
theorem d_M_complete_31 : decode b_M_complete 31 = .ok (.iconst 0, 1) := by decide +kernel
theorem d_M_complete_32 : decode b_M_complete 32 = .ok (.ireturn, 1) := by decide +kernel
theorem d_M_complete_33 : decode b_M_complete 33 = .ok (.iload_n 1, 1) := by decide +kernel
theorem d_M_complete_34 : decode b_M_complete 34 = .ok (.aload_n 0, 1) := by decide +kernel
theorem d_M_complete_35 : decode b_M_complete 35 = .ok (.getfield 65, 3) := by decide +kernel
theorem d_M_complete_38 : decode b_M_complete 38 = .ok (.iload_n 2, 1) := by decide +kernel
theorem d_M_complete_39 : decode b_M_complete 39 = .ok (.iaload, 1) := by decide +kernel
theorem d_M_complete_40 : decode b_M_complete 40 = .ok (.ior, 1) := by decide +kernel
theorem d_M_complete_41 : decode b_M_complete 41 = .ok (.istore_n 1, 1) := by decide +kernel
theorem d_M_complete_42 : decode b_M_complete 42 = .ok (.iinc 2 (-1), 3) := by decide +kernel
theorem d_M_complete_45 : decode b_M_complete 45 = .ok (.goto (-36), 3) := by decide +kernel
theorem d_M_complete_48 : decode b_M_complete 48 = .ok (.iconst 1, 1) := by decide +kernel
theorem d_M_complete_49 : decode b_M_complete 49 = .ok (.ireturn, 1) := by decide +kernel
abbrev b_M_macro : ByteArray := prog_9_method_19_code
theorem d_M_macro_0 : decode b_M_macro 0 = .ok (.aload_n 0, 1) := by decide +kernel
theorem d_M_macro_1 : decode b_M_macro 1 = .ok (.iload_n 1, 1) := by decide +kernel
theorem d_M_macro_2 : decode b_M_macro 2 = .ok (.ifCond .lt 8, 3) := by decide +kernel
theorem d_M_macro_5 : decode b_M_macro 5 = .ok (.iload_n 1, 1) := by decide +kernel
theorem d_M_macro_6 : decode b_M_macro 6 = .ok (.iconst 3, 1) := by decide +kernel
theorem d_M_macro_7 : decode b_M_macro 7 = .ok (.if_icmp .le 7, 3) := by decide +kernel
theorem d_M_macro_10 : decode b_M_macro 10 = .ok (.iconst 1, 1) := by decide +kernel
theorem d_M_macro_11 : decode b_M_macro 11 = .ok (.goto 26, 3) := by decide +kernel
theorem d_M_macro_14 : decode b_M_macro 14 = .ok (.aload_n 0, 1) := by decide +kernel
theorem d_M_macro_15 : decode b_M_macro 15 = .ok (.invokevirtual 152, 3) := by decide +kernel
theorem d_M_macro_18 : decode b_M_macro 18 = .ok (.ifCond .eq 14, 3) := by decide +kernel
theorem d_M_macro_21 : decode b_M_macro 21 = .ok (.aload_n 0, 1) := by decide +kernel
theorem d_M_macro_22 : decode b_M_macro 22 = .ok (.getfield 65, 3) := by decide +kernel
theorem d_M_macro_25 : decode b_M_macro 25 = .ok (.iconst 4, 1) := by decide +kernel
theorem d_M_macro_26 : decode b_M_macro 26 = .ok (.iaload, 1) := by decide +kernel
theorem d_M_macro_27 : decode b_M_macro 27 = .ok (.iload_n 1, 1) := by decide +kernel
theorem d_M_macro_28 : decode b_M_macro 28 = .ok (.ishr, 1) := by decide +kernel
theorem d_M_macro_29 : decode b_M_macro 29 = .ok (.ifCond .eq 7, 3) := by decide +kernel
theorem d_M_macro_32 : decode b_M_macro 32 = .ok (.iconst 2, 1) := by decide +kernel
theorem d_M_macro_33 : decode b_M_macro 33 = .ok (.goto 4, 3) := by decide +kernel
theorem d_M_macro_36 : decode b_M_macro 36 = .ok (.iconst 0, 1) := by decide +kernel
theorem d_M_macro_37 : decode b_M_macro 37 = .ok (.putfield 102, 3) := by decide +kernel
theorem d_M_macro_40 : decode b_M_macro 40 = .ok (.aload_n 0, 1) := by decide +kernel
theorem d_M_macro_41 : decode b_M_macro 41 = .ok (.getfield 102, 3) := by decide +kernel
theorem d_M_macro_44 : decode b_M_macro 44 = .ok (.ifCond .le 4, 3) := by decide +kernel
theorem d_M_macro_47 : decode b_M_macro 47 = .ok (.return_, 1) := by decide +kernel
theorem d_M_macro_48 : decode b_M_macro 48 = .ok (.iconst 0, 1) := by decide +kernel
theorem d_M_macro_49 : decode b_M_macro 49 = .ok (.istore_n 2, 1) := by decide +kernel
theorem d_M_macro_50 : decode b_M_macro 50 = .ok (.iload_n 2, 1) := by decide +kernel
theorem d_M_macro_51 : decode b_M_macro 51 = .ok (.bipush 60, 2) := by decide +kernel
theorem d_M_macro_53 : decode b_M_macro 53 = .ok (.if_icmp .ge 30, 3) := by decide +kernel
theorem d_M_macro_56 : decode b_M_macro 56 = .ok (.aload_n 0, 1) := by decide +kernel
theorem d_M_macro_57 : decode b_M_macro 57 = .ok (.getfield 59, 3) := by decide +kernel
theorem d_M_macro_60 : decode b_M_macro 60 = .ok (.bipush 60, 2) := by decide +kernel
theorem d_M_macro_62 : decode b_M_macro 62 = .ok (.iload_n 1, 1) := by decide +kernel
theorem d_M_macro_63 : decode b_M_macro 63 = .ok (.imul, 1) := by decide +kernel
theorem d_M_macro_64 : decode b_M_macro 64 = .ok (.iload_n 2, 1) := by decide +kernel
theorem d_M_macro_65 : decode b_M_macro 65 = .ok (.iadd, 1) := by decide +kernel
theorem d_M_macro_66 : decode b_M_macro 66 = .ok (.aload_n 0, 1) := by decide +kernel
theorem d_M_macro_67 : decode b_M_macro 67 = .ok (.getfield 59, 3) := by decide +kernel
theorem d_M_macro_70 : decode b_M_macro 70 = .ok (.sipush 240, 3) := by decide +kernel
theorem d_M_macro_73 : decode b_M_macro 73 = .ok (.iload_n 2, 1) := by decide +kernel
theorem d_M_macro_74 : decode b_M_macro 74 = .ok (.iadd, 1) := by decide +kernel
theorem d_M_macro_75 : decode b_M_macro 75 = .ok (.iaload, 1) := by decide +kernel
theorem d_M_macro_76 : decode b_M_macro 76 = .ok (.iastore, 1) := by decide +kernel
theorem d_M_macro_77 : decode b_M_macro 77 = .ok (.iinc 2 1, 3) := by decide +kernel
theorem d_M_macro_80 : decode b_M_macro 80 = .ok (.goto (-30), 3) := by decide +kernel
theorem d_M_macro_83 : decode b_M_macro 83 = .ok (.aload_n 0, 1) := by decide +kernel
theorem d_M_macro_84 : decode b_M_macro 84 = .ok (.getfield 62, 3) := by decide +kernel
theorem d_M_macro_87 : decode b_M_macro 87 = .ok (.iload_n 1, 1) := by decide +kernel
theorem d_M_macro_88 : decode b_M_macro 88 = .ok (.aload_n 0, 1) := by decide +kernel
theorem d_M_macro_89 : decode b_M_macro 89 = .ok (.getfield 62, 3) := by decide +kernel
theorem d_M_macro_92 : decode b_M_macro 92 = .ok (.iconst 4, 1) := by decide +kernel
theorem d_M_macro_93 : decode b_M_macro 93 = .ok (.iaload, 1) := by decide +kernel
theorem d_M_macro_94 : decode b_M_macro 94 = .ok (.iastore, 1) := by decide +kernel
theorem d_M_macro_95 : decode b_M_macro 95 = .ok (.aload_n 0, 1) := by decide +kernel
theorem d_M_macro_96 : decode b_M_macro 96 = .ok (.getfield 65, 3) := by decide +kernel
theorem d_M_macro_99 : decode b_M_macro 99 = .ok (.iload_n 1, 1) := by decide +kernel
theorem d_M_macro_100 : decode b_M_macro 100 = .ok (.aload_n 0, 1) := by decide +kernel
theorem d_M_macro_101 : decode b_M_macro 101 = .ok (.getfield 65, 3) := by decide +kernel
theorem d_M_macro_104 : decode b_M_macro 104 = .ok (.iconst 4, 1) := by decide +kernel
theorem d_M_macro_105 : decode b_M_macro 105 = .ok (.iaload, 1) := by decide +kernel
theorem d_M_macro_106 : decode b_M_macro 106 = .ok (.iastore, 1) := by decide +kernel
theorem d_M_macro_107 : decode b_M_macro 107 = .ok (.aload_n 0, 1) := by decide +kernel
theorem d_M_macro_108 : decode b_M_macro 108 = .ok (.getfield 62, 3) := by decide +kernel
theorem d_M_macro_111 : decode b_M_macro 111 = .ok (.iconst 4, 1) := by decide +kernel
theorem d_M_macro_112 : decode b_M_macro 112 = .ok (.iconst 0, 1) := by decide +kernel
theorem d_M_macro_113 : decode b_M_macro 113 = .ok (.iastore, 1) := by decide +kernel
theorem d_M_macro_114 : decode b_M_macro 114 = .ok (.return_, 1) := by decide +kernel
abbrev b_M_across : ByteArray := prog_9_method_20_code
theorem d_M_across_0 : decode b_M_across 0 = .ok (.iload_n 0, 1) := by decide +kernel
theorem d_M_across_1 : decode b_M_across 1 = .ok (.iconst 1, 1) := by decide +kernel
theorem d_M_across_2 : decode b_M_across 2 = .ok (.if_icmp .ne 7, 3) := by decide +kernel
theorem d_M_across_5 : decode b_M_across 5 = .ok (.iconst 1, 1) := by decide +kernel
theorem d_M_across_6 : decode b_M_across 6 = .ok (.goto 13, 3) := by decide +kernel
theorem d_M_across_9 : decode b_M_across 9 = .ok (.iload_n 0, 1) := by decide +kernel
theorem d_M_across_10 : decode b_M_across 10 = .ok (.iconst 3, 1) := by decide +kernel
theorem d_M_across_11 : decode b_M_across 11 = .ok (.if_icmp .ne 7, 3) := by decide +kernel
theorem d_M_across_14 : decode b_M_across 14 = .ok (.iconst (-1), 1) := by decide +kernel
theorem d_M_across_15 : decode b_M_across 15 = .ok (.goto 4, 3) := by decide +kernel
theorem d_M_across_18 : decode b_M_across 18 = .ok (.iconst 0, 1) := by decide +kernel
theorem d_M_across_19 : decode b_M_across 19 = .ok (.ireturn, 1) := by decide +kernel
abbrev b_M_down : ByteArray := prog_9_method_21_code
theorem d_M_down_0 : decode b_M_down 0 = .ok (.iload_n 0, 1) := by decide +kernel
theorem d_M_down_1 : decode b_M_down 1 = .ok (.iconst 2, 1) := by decide +kernel
theorem d_M_down_2 : decode b_M_down 2 = .ok (.if_icmp .ne 7, 3) := by decide +kernel
theorem d_M_down_5 : decode b_M_down 5 = .ok (.iconst 1, 1) := by decide +kernel
theorem d_M_down_6 : decode b_M_down 6 = .ok (.goto 12, 3) := by decide +kernel
theorem d_M_down_9 : decode b_M_down 9 = .ok (.iload_n 0, 1) := by decide +kernel
theorem d_M_down_10 : decode b_M_down 10 = .ok (.ifCond .ne 7, 3) := by decide +kernel
theorem d_M_down_13 : decode b_M_down 13 = .ok (.iconst (-1), 1) := by decide +kernel
theorem d_M_down_14 : decode b_M_down 14 = .ok (.goto 4, 3) := by decide +kernel
theorem d_M_down_17 : decode b_M_down 17 = .ok (.iconst 0, 1) := by decide +kernel
theorem d_M_down_18 : decode b_M_down 18 = .ok (.ireturn, 1) := by decide +kernel
abbrev b_M_countOne : ByteArray := prog_9_method_22_code
theorem d_M_countOne_0 : decode b_M_countOne 0 = .ok (.aload_n 0, 1) := by decide +kernel
theorem d_M_countOne_1 : decode b_M_countOne 1 = .ok (.dup, 1) := by decide +kernel
theorem d_M_countOne_2 : decode b_M_countOne 2 = .ok (.getfield 156, 3) := by decide +kernel
theorem d_M_countOne_5 : decode b_M_countOne 5 = .ok (.iconst 1, 1) := by decide +kernel
theorem d_M_countOne_6 : decode b_M_countOne 6 = .ok (.iadd, 1) := by decide +kernel
theorem d_M_countOne_7 : decode b_M_countOne 7 = .ok (.putfield 156, 3) := by decide +kernel
theorem d_M_countOne_10 : decode b_M_countOne 10 = .ok (.aload_n 0, 1) := by decide +kernel
theorem d_M_countOne_11 : decode b_M_countOne 11 = .ok (.aload_n 0, 1) := by decide +kernel
theorem d_M_countOne_12 : decode b_M_countOne 12 = .ok (.getfield 159, 3) := by decide +kernel
theorem d_M_countOne_15 : decode b_M_countOne 15 = .ok (.ifCond .ne 13, 3) := by decide +kernel
theorem d_M_countOne_18 : decode b_M_countOne 18 = .ok (.aload_n 0, 1) := by decide +kernel
theorem d_M_countOne_19 : decode b_M_countOne 19 = .ok (.getfield 156, 3) := by decide +kernel
theorem d_M_countOne_22 : decode b_M_countOne 22 = .ok (.sipush 400, 3) := by decide +kernel
theorem d_M_countOne_25 : decode b_M_countOne 25 = .ok (.if_icmp .le 7, 3) := by decide +kernel
theorem d_M_countOne_28 : decode b_M_countOne 28 = .ok (.iconst 1, 1) := by decide +kernel
theorem d_M_countOne_29 : decode b_M_countOne 29 = .ok (.goto 4, 3) := by decide +kernel
theorem d_M_countOne_32 : decode b_M_countOne 32 = .ok (.iconst 0, 1) := by decide +kernel
theorem d_M_countOne_33 : decode b_M_countOne 33 = .ok (.putfield 159, 3) := by decide +kernel
theorem d_M_countOne_36 : decode b_M_countOne 36 = .ok (.return_, 1) := by decide +kernel
abbrev b_M_put : ByteArray := prog_9_method_23_code
theorem d_M_put_0 : decode b_M_put 0 = .ok (.aload_n 0, 1) := by decide +kernel
theorem d_M_put_1 : decode b_M_put 1 = .ok (.aload_n 0, 1) := by decide +kernel
theorem d_M_put_2 : decode b_M_put 2 = .ok (.getfield 159, 3) := by decide +kernel
theorem d_M_put_5 : decode b_M_put 5 = .ok (.ifCond .ne 11, 3) := by decide +kernel
theorem d_M_put_8 : decode b_M_put 8 = .ok (.iload_n 1, 1) := by decide +kernel
theorem d_M_put_9 : decode b_M_put 9 = .ok (.iload_n 2, 1) := by decide +kernel
theorem d_M_put_10 : decode b_M_put 10 = .ok (.invokestatic 163, 3) := by decide +kernel
theorem d_M_put_13 : decode b_M_put 13 = .ok (.ifCond .ne 7, 3) := by decide +kernel
theorem d_M_put_16 : decode b_M_put 16 = .ok (.iconst 1, 1) := by decide +kernel
theorem d_M_put_17 : decode b_M_put 17 = .ok (.goto 4, 3) := by decide +kernel
theorem d_M_put_20 : decode b_M_put 20 = .ok (.iconst 0, 1) := by decide +kernel
theorem d_M_put_21 : decode b_M_put 21 = .ok (.putfield 159, 3) := by decide +kernel
theorem d_M_put_24 : decode b_M_put 24 = .ok (.aload_n 0, 1) := by decide +kernel
theorem d_M_put_25 : decode b_M_put 25 = .ok (.getfield 159, 3) := by decide +kernel
theorem d_M_put_28 : decode b_M_put 28 = .ok (.ifCond .eq 4, 3) := by decide +kernel
theorem d_M_put_31 : decode b_M_put 31 = .ok (.return_, 1) := by decide +kernel
theorem d_M_put_32 : decode b_M_put 32 = .ok (.iconst 1, 1) := by decide +kernel
theorem d_M_put_33 : decode b_M_put 33 = .ok (.iload_n 1, 1) := by decide +kernel
theorem d_M_put_34 : decode b_M_put 34 = .ok (.ishl, 1) := by decide +kernel
theorem d_M_put_35 : decode b_M_put 35 = .ok (.istore 4, 2) := by decide +kernel
theorem d_M_put_37 : decode b_M_put 37 = .ok (.aload_n 0, 1) := by decide +kernel
theorem d_M_put_38 : decode b_M_put 38 = .ok (.getfield 68, 3) := by decide +kernel
theorem d_M_put_41 : decode b_M_put 41 = .ok (.iload_n 2, 1) := by decide +kernel
theorem d_M_put_42 : decode b_M_put 42 = .ok (.iload_n 3, 1) := by decide +kernel
theorem d_M_put_43 : decode b_M_put 43 = .ok (.iconst 1, 1) := by decide +kernel
theorem d_M_put_44 : decode b_M_put 44 = .ok (.if_icmp .ne 15, 3) := by decide +kernel
theorem d_M_put_47 : decode b_M_put 47 = .ok (.aload_n 0, 1) := by decide +kernel
theorem d_M_put_48 : decode b_M_put 48 = .ok (.getfield 68, 3) := by decide +kernel
theorem d_M_put_51 : decode b_M_put 51 = .ok (.iload_n 2, 1) := by decide +kernel
theorem d_M_put_52 : decode b_M_put 52 = .ok (.iaload, 1) := by decide +kernel
theorem d_M_put_53 : decode b_M_put 53 = .ok (.iload 4, 2) := by decide +kernel
theorem d_M_put_55 : decode b_M_put 55 = .ok (.ior, 1) := by decide +kernel
theorem d_M_put_56 : decode b_M_put 56 = .ok (.goto 14, 3) := by decide +kernel
theorem d_M_put_59 : decode b_M_put 59 = .ok (.aload_n 0, 1) := by decide +kernel
theorem d_M_put_60 : decode b_M_put 60 = .ok (.getfield 68, 3) := by decide +kernel
theorem d_M_put_63 : decode b_M_put 63 = .ok (.iload_n 2, 1) := by decide +kernel
theorem d_M_put_64 : decode b_M_put 64 = .ok (.iaload, 1) := by decide +kernel
theorem d_M_put_65 : decode b_M_put 65 = .ok (.iload 4, 2) := by decide +kernel
theorem d_M_put_67 : decode b_M_put 67 = .ok (.iconst (-1), 1) := by decide +kernel
theorem d_M_put_68 : decode b_M_put 68 = .ok (.ixor, 1) := by decide +kernel
theorem d_M_put_69 : decode b_M_put 69 = .ok (.iand, 1) := by decide +kernel
theorem d_M_put_70 : decode b_M_put 70 = .ok (.iastore, 1) := by decide +kernel
theorem d_M_put_71 : decode b_M_put 71 = .ok (.aload_n 0, 1) := by decide +kernel
theorem d_M_put_72 : decode b_M_put 72 = .ok (.getfield 71, 3) := by decide +kernel
theorem d_M_put_75 : decode b_M_put 75 = .ok (.iload_n 2, 1) := by decide +kernel
theorem d_M_put_76 : decode b_M_put 76 = .ok (.iload_n 3, 1) := by decide +kernel
theorem d_M_put_77 : decode b_M_put 77 = .ok (.iconst 2, 1) := by decide +kernel
theorem d_M_put_78 : decode b_M_put 78 = .ok (.if_icmp .ne 15, 3) := by decide +kernel
theorem d_M_put_81 : decode b_M_put 81 = .ok (.aload_n 0, 1) := by decide +kernel
theorem d_M_put_82 : decode b_M_put 82 = .ok (.getfield 71, 3) := by decide +kernel
theorem d_M_put_85 : decode b_M_put 85 = .ok (.iload_n 2, 1) := by decide +kernel
theorem d_M_put_86 : decode b_M_put 86 = .ok (.iaload, 1) := by decide +kernel
theorem d_M_put_87 : decode b_M_put 87 = .ok (.iload 4, 2) := by decide +kernel
theorem d_M_put_89 : decode b_M_put 89 = .ok (.ior, 1) := by decide +kernel
theorem d_M_put_90 : decode b_M_put 90 = .ok (.goto 14, 3) := by decide +kernel
theorem d_M_put_93 : decode b_M_put 93 = .ok (.aload_n 0, 1) := by decide +kernel
theorem d_M_put_94 : decode b_M_put 94 = .ok (.getfield 71, 3) := by decide +kernel
theorem d_M_put_97 : decode b_M_put 97 = .ok (.iload_n 2, 1) := by decide +kernel
theorem d_M_put_98 : decode b_M_put 98 = .ok (.iaload, 1) := by decide +kernel
theorem d_M_put_99 : decode b_M_put 99 = .ok (.iload 4, 2) := by decide +kernel
theorem d_M_put_101 : decode b_M_put 101 = .ok (.iconst (-1), 1) := by decide +kernel
theorem d_M_put_102 : decode b_M_put 102 = .ok (.ixor, 1) := by decide +kernel
theorem d_M_put_103 : decode b_M_put 103 = .ok (.iand, 1) := by decide +kernel
theorem d_M_put_104 : decode b_M_put 104 = .ok (.iastore, 1) := by decide +kernel
theorem d_M_put_105 : decode b_M_put 105 = .ok (.aload_n 0, 1) := by decide +kernel
theorem d_M_put_106 : decode b_M_put 106 = .ok (.getfield 74, 3) := by decide +kernel
theorem d_M_put_109 : decode b_M_put 109 = .ok (.iload_n 2, 1) := by decide +kernel
theorem d_M_put_110 : decode b_M_put 110 = .ok (.iload_n 3, 1) := by decide +kernel
theorem d_M_put_111 : decode b_M_put 111 = .ok (.iconst 3, 1) := by decide +kernel
theorem d_M_put_112 : decode b_M_put 112 = .ok (.if_icmp .ne 15, 3) := by decide +kernel
theorem d_M_put_115 : decode b_M_put 115 = .ok (.aload_n 0, 1) := by decide +kernel
theorem d_M_put_116 : decode b_M_put 116 = .ok (.getfield 74, 3) := by decide +kernel
theorem d_M_put_119 : decode b_M_put 119 = .ok (.iload_n 2, 1) := by decide +kernel
theorem d_M_put_120 : decode b_M_put 120 = .ok (.iaload, 1) := by decide +kernel
theorem d_M_put_121 : decode b_M_put 121 = .ok (.iload 4, 2) := by decide +kernel
theorem d_M_put_123 : decode b_M_put 123 = .ok (.ior, 1) := by decide +kernel
theorem d_M_put_124 : decode b_M_put 124 = .ok (.goto 14, 3) := by decide +kernel
theorem d_M_put_127 : decode b_M_put 127 = .ok (.aload_n 0, 1) := by decide +kernel
theorem d_M_put_128 : decode b_M_put 128 = .ok (.getfield 74, 3) := by decide +kernel
theorem d_M_put_131 : decode b_M_put 131 = .ok (.iload_n 2, 1) := by decide +kernel
theorem d_M_put_132 : decode b_M_put 132 = .ok (.iaload, 1) := by decide +kernel
theorem d_M_put_133 : decode b_M_put 133 = .ok (.iload 4, 2) := by decide +kernel
theorem d_M_put_135 : decode b_M_put 135 = .ok (.iconst (-1), 1) := by decide +kernel
theorem d_M_put_136 : decode b_M_put 136 = .ok (.ixor, 1) := by decide +kernel
theorem d_M_put_137 : decode b_M_put 137 = .ok (.iand, 1) := by decide +kernel
theorem d_M_put_138 : decode b_M_put 138 = .ok (.iastore, 1) := by decide +kernel
theorem d_M_put_139 : decode b_M_put 139 = .ok (.return_, 1) := by decide +kernel
abbrev b_M_step : ByteArray := prog_9_method_24_code
theorem d_M_step_0 : decode b_M_step 0 = .ok (.aload_n 0, 1) := by decide +kernel
theorem d_M_step_1 : decode b_M_step 1 = .ok (.dup, 1) := by decide +kernel
theorem d_M_step_2 : decode b_M_step 2 = .ok (.getfield 167, 3) := by decide +kernel
theorem d_M_step_5 : decode b_M_step 5 = .ok (.iload_n 1, 1) := by decide +kernel
theorem d_M_step_6 : decode b_M_step 6 = .ok (.aload_n 0, 1) := by decide +kernel
theorem d_M_step_7 : decode b_M_step 7 = .ok (.getfield 170, 3) := by decide +kernel
theorem d_M_step_10 : decode b_M_step 10 = .ok (.invokestatic 173, 3) := by decide +kernel
theorem d_M_step_13 : decode b_M_step 13 = .ok (.imul, 1) := by decide +kernel
theorem d_M_step_14 : decode b_M_step 14 = .ok (.iadd, 1) := by decide +kernel
theorem d_M_step_15 : decode b_M_step 15 = .ok (.putfield 167, 3) := by decide +kernel
theorem d_M_step_18 : decode b_M_step 18 = .ok (.aload_n 0, 1) := by decide +kernel
theorem d_M_step_19 : decode b_M_step 19 = .ok (.dup, 1) := by decide +kernel
theorem d_M_step_20 : decode b_M_step 20 = .ok (.getfield 176, 3) := by decide +kernel
theorem d_M_step_23 : decode b_M_step 23 = .ok (.iload_n 1, 1) := by decide +kernel
theorem d_M_step_24 : decode b_M_step 24 = .ok (.aload_n 0, 1) := by decide +kernel
theorem d_M_step_25 : decode b_M_step 25 = .ok (.getfield 170, 3) := by decide +kernel
theorem d_M_step_28 : decode b_M_step 28 = .ok (.invokestatic 179, 3) := by decide +kernel
theorem d_M_step_31 : decode b_M_step 31 = .ok (.imul, 1) := by decide +kernel
theorem d_M_step_32 : decode b_M_step 32 = .ok (.iadd, 1) := by decide +kernel
theorem d_M_step_33 : decode b_M_step 33 = .ok (.putfield 176, 3) := by decide +kernel
theorem d_M_step_36 : decode b_M_step 36 = .ok (.aload_n 0, 1) := by decide +kernel
theorem d_M_step_37 : decode b_M_step 37 = .ok (.aload_n 0, 1) := by decide +kernel
theorem d_M_step_38 : decode b_M_step 38 = .ok (.getfield 159, 3) := by decide +kernel
theorem d_M_step_41 : decode b_M_step 41 = .ok (.ifCond .ne 17, 3) := by decide +kernel
theorem d_M_step_44 : decode b_M_step 44 = .ok (.aload_n 0, 1) := by decide +kernel
theorem d_M_step_45 : decode b_M_step 45 = .ok (.getfield 167, 3) := by decide +kernel
theorem d_M_step_48 : decode b_M_step 48 = .ok (.aload_n 0, 1) := by decide +kernel
theorem d_M_step_49 : decode b_M_step 49 = .ok (.getfield 176, 3) := by decide +kernel
theorem d_M_step_52 : decode b_M_step 52 = .ok (.invokestatic 163, 3) := by decide +kernel
theorem d_M_step_55 : decode b_M_step 55 = .ok (.ifCond .ne 7, 3) := by decide +kernel
theorem d_M_step_58 : decode b_M_step 58 = .ok (.iconst 1, 1) := by decide +kernel
theorem d_M_step_59 : decode b_M_step 59 = .ok (.goto 4, 3) := by decide +kernel
theorem d_M_step_62 : decode b_M_step 62 = .ok (.iconst 0, 1) := by decide +kernel
theorem d_M_step_63 : decode b_M_step 63 = .ok (.putfield 159, 3) := by decide +kernel
theorem d_M_step_66 : decode b_M_step 66 = .ok (.iload_n 2, 1) := by decide +kernel
theorem d_M_step_67 : decode b_M_step 67 = .ok (.ifCond .eq 23, 3) := by decide +kernel
theorem d_M_step_70 : decode b_M_step 70 = .ok (.aload_n 0, 1) := by decide +kernel
theorem d_M_step_71 : decode b_M_step 71 = .ok (.getfield 182, 3) := by decide +kernel
theorem d_M_step_74 : decode b_M_step 74 = .ok (.ifCond .ne 16, 3) := by decide +kernel
theorem d_M_step_77 : decode b_M_step 77 = .ok (.aload_n 0, 1) := by decide +kernel
theorem d_M_step_78 : decode b_M_step 78 = .ok (.aload_n 0, 1) := by decide +kernel
theorem d_M_step_79 : decode b_M_step 79 = .ok (.getfield 167, 3) := by decide +kernel
theorem d_M_step_82 : decode b_M_step 82 = .ok (.aload_n 0, 1) := by decide +kernel
theorem d_M_step_83 : decode b_M_step 83 = .ok (.getfield 176, 3) := by decide +kernel
theorem d_M_step_86 : decode b_M_step 86 = .ok (.iconst 3, 1) := by decide +kernel
theorem d_M_step_87 : decode b_M_step 87 = .ok (.invokevirtual 185, 3) := by decide +kernel
theorem d_M_step_90 : decode b_M_step 90 = .ok (.iconst (-1), 1) := by decide +kernel
theorem d_M_step_91 : decode b_M_step 91 = .ok (.istore 4, 2) := by decide +kernel
theorem d_M_step_93 : decode b_M_step 93 = .ok (.iload 4, 2) := by decide +kernel
theorem d_M_step_95 : decode b_M_step 95 = .ok (.iconst 2, 1) := by decide +kernel
theorem d_M_step_96 : decode b_M_step 96 = .ok (.if_icmp .ge 95, 3) := by decide +kernel
theorem d_M_step_99 : decode b_M_step 99 = .ok (.iload_n 3, 1) := by decide +kernel
theorem d_M_step_100 : decode b_M_step 100 = .ok (.ifCond .eq 91, 3) := by decide +kernel
theorem d_M_step_103 : decode b_M_step 103 = .ok (.aload_n 0, 1) := by decide +kernel
theorem d_M_step_104 : decode b_M_step 104 = .ok (.getfield 170, 3) := by decide +kernel
theorem d_M_step_107 : decode b_M_step 107 = .ok (.iconst 1, 1) := by decide +kernel
theorem d_M_step_108 : decode b_M_step 108 = .ok (.iadd, 1) := by decide +kernel
theorem d_M_step_109 : decode b_M_step 109 = .ok (.iconst 3, 1) := by decide +kernel
theorem d_M_step_110 : decode b_M_step 110 = .ok (.iand, 1) := by decide +kernel
theorem d_M_step_111 : decode b_M_step 111 = .ok (.istore 5, 2) := by decide +kernel
theorem d_M_step_113 : decode b_M_step 113 = .ok (.aload_n 0, 1) := by decide +kernel
theorem d_M_step_114 : decode b_M_step 114 = .ok (.getfield 167, 3) := by decide +kernel
theorem d_M_step_117 : decode b_M_step 117 = .ok (.iload 4, 2) := by decide +kernel
theorem d_M_step_119 : decode b_M_step 119 = .ok (.iload 5, 2) := by decide +kernel
theorem d_M_step_121 : decode b_M_step 121 = .ok (.invokestatic 173, 3) := by decide +kernel
theorem d_M_step_124 : decode b_M_step 124 = .ok (.imul, 1) := by decide +kernel
theorem d_M_step_125 : decode b_M_step 125 = .ok (.iadd, 1) := by decide +kernel
theorem d_M_step_126 : decode b_M_step 126 = .ok (.istore 6, 2) := by decide +kernel
theorem d_M_step_128 : decode b_M_step 128 = .ok (.aload_n 0, 1) := by decide +kernel
theorem d_M_step_129 : decode b_M_step 129 = .ok (.getfield 176, 3) := by decide +kernel
theorem d_M_step_132 : decode b_M_step 132 = .ok (.iload 4, 2) := by decide +kernel
theorem d_M_step_134 : decode b_M_step 134 = .ok (.iload 5, 2) := by decide +kernel
theorem d_M_step_136 : decode b_M_step 136 = .ok (.invokestatic 179, 3) := by decide +kernel
theorem d_M_step_139 : decode b_M_step 139 = .ok (.imul, 1) := by decide +kernel
theorem d_M_step_140 : decode b_M_step 140 = .ok (.iadd, 1) := by decide +kernel
theorem d_M_step_141 : decode b_M_step 141 = .ok (.istore 7, 2) := by decide +kernel
theorem d_M_step_143 : decode b_M_step 143 = .ok (.aload_n 0, 1) := by decide +kernel
theorem d_M_step_144 : decode b_M_step 144 = .ok (.aload_n 0, 1) := by decide +kernel
theorem d_M_step_145 : decode b_M_step 145 = .ok (.getfield 159, 3) := by decide +kernel
theorem d_M_step_148 : decode b_M_step 148 = .ok (.ifCond .ne 13, 3) := by decide +kernel
theorem d_M_step_151 : decode b_M_step 151 = .ok (.iload 6, 2) := by decide +kernel
theorem d_M_step_153 : decode b_M_step 153 = .ok (.iload 7, 2) := by decide +kernel
theorem d_M_step_155 : decode b_M_step 155 = .ok (.invokestatic 163, 3) := by decide +kernel
theorem d_M_step_158 : decode b_M_step 158 = .ok (.ifCond .ne 7, 3) := by decide +kernel
theorem d_M_step_161 : decode b_M_step 161 = .ok (.iconst 1, 1) := by decide +kernel
theorem d_M_step_162 : decode b_M_step 162 = .ok (.goto 4, 3) := by decide +kernel
theorem d_M_step_165 : decode b_M_step 165 = .ok (.iconst 0, 1) := by decide +kernel
theorem d_M_step_166 : decode b_M_step 166 = .ok (.putfield 159, 3) := by decide +kernel
theorem d_M_step_169 : decode b_M_step 169 = .ok (.aload_n 0, 1) := by decide +kernel
theorem d_M_step_170 : decode b_M_step 170 = .ok (.getfield 182, 3) := by decide +kernel
theorem d_M_step_173 : decode b_M_step 173 = .ok (.ifCond .ne 12, 3) := by decide +kernel
theorem d_M_step_176 : decode b_M_step 176 = .ok (.aload_n 0, 1) := by decide +kernel
theorem d_M_step_177 : decode b_M_step 177 = .ok (.iload 6, 2) := by decide +kernel
theorem d_M_step_179 : decode b_M_step 179 = .ok (.iload 7, 2) := by decide +kernel
theorem d_M_step_181 : decode b_M_step 181 = .ok (.iconst 3, 1) := by decide +kernel
theorem d_M_step_182 : decode b_M_step 182 = .ok (.invokevirtual 185, 3) := by decide +kernel
theorem d_M_step_185 : decode b_M_step 185 = .ok (.iinc 4 2, 3) := by decide +kernel
theorem d_M_step_188 : decode b_M_step 188 = .ok (.goto (-95), 3) := by decide +kernel
theorem d_M_step_191 : decode b_M_step 191 = .ok (.return_, 1) := by decide +kernel
abbrev b_M_obey : ByteArray := prog_9_method_25_code
theorem d_M_obey_0 : decode b_M_obey 0 = .ok (.aload_n 0, 1) := by decide +kernel
theorem d_M_obey_1 : decode b_M_obey 1 = .ok (.invokevirtual 189, 3) := by decide +kernel
theorem d_M_obey_4 : decode b_M_obey 4 = .ok (.aload_n 0, 1) := by decide +kernel
theorem d_M_obey_5 : decode b_M_obey 5 = .ok (.getfield 159, 3) := by decide +kernel
theorem d_M_obey_8 : decode b_M_obey 8 = .ok (.ifCond .eq 4, 3) := by decide +kernel
theorem d_M_obey_11 : decode b_M_obey 11 = .ok (.return_, 1) := by decide +kernel
theorem d_M_obey_12 : decode b_M_obey 12 = .ok (.iload_n 1, 1) := by decide +kernel
theorem d_M_obey_13 : decode b_M_obey 13 = .ok (.tableswitch 240 66 87 #[111, 240, 151, 157, 103, 240, 240, 240, 240, 240, 132, 240, 240, 240, 240, 240, 119, 240, 240, 145, 240, 226], 103) := by decide +kernel
theorem d_M_obey_116 : decode b_M_obey 116 = .ok (.aload_n 0, 1) := by decide +kernel
theorem d_M_obey_117 : decode b_M_obey 117 = .ok (.iconst 1, 1) := by decide +kernel
theorem d_M_obey_118 : decode b_M_obey 118 = .ok (.iconst 1, 1) := by decide +kernel
theorem d_M_obey_119 : decode b_M_obey 119 = .ok (.iconst 0, 1) := by decide +kernel
theorem d_M_obey_120 : decode b_M_obey 120 = .ok (.invokevirtual 192, 3) := by decide +kernel
theorem d_M_obey_123 : decode b_M_obey 123 = .ok (.return_, 1) := by decide +kernel
theorem d_M_obey_124 : decode b_M_obey 124 = .ok (.aload_n 0, 1) := by decide +kernel
theorem d_M_obey_125 : decode b_M_obey 125 = .ok (.iconst (-1), 1) := by decide +kernel
theorem d_M_obey_126 : decode b_M_obey 126 = .ok (.iconst 0, 1) := by decide +kernel
theorem d_M_obey_127 : decode b_M_obey 127 = .ok (.iconst 0, 1) := by decide +kernel
theorem d_M_obey_128 : decode b_M_obey 128 = .ok (.invokevirtual 192, 3) := by decide +kernel
theorem d_M_obey_131 : decode b_M_obey 131 = .ok (.return_, 1) := by decide +kernel
theorem d_M_obey_132 : decode b_M_obey 132 = .ok (.aload_n 0, 1) := by decide +kernel
theorem d_M_obey_133 : decode b_M_obey 133 = .ok (.aload_n 0, 1) := by decide +kernel
theorem d_M_obey_134 : decode b_M_obey 134 = .ok (.getfield 170, 3) := by decide +kernel
theorem d_M_obey_137 : decode b_M_obey 137 = .ok (.iconst 1, 1) := by decide +kernel
theorem d_M_obey_138 : decode b_M_obey 138 = .ok (.iadd, 1) := by decide +kernel
theorem d_M_obey_139 : decode b_M_obey 139 = .ok (.iconst 4, 1) := by decide +kernel
theorem d_M_obey_140 : decode b_M_obey 140 = .ok (.irem, 1) := by decide +kernel
theorem d_M_obey_141 : decode b_M_obey 141 = .ok (.putfield 170, 3) := by decide +kernel
theorem d_M_obey_144 : decode b_M_obey 144 = .ok (.return_, 1) := by decide +kernel
theorem d_M_obey_145 : decode b_M_obey 145 = .ok (.aload_n 0, 1) := by decide +kernel
theorem d_M_obey_146 : decode b_M_obey 146 = .ok (.aload_n 0, 1) := by decide +kernel
theorem d_M_obey_147 : decode b_M_obey 147 = .ok (.getfield 170, 3) := by decide +kernel
theorem d_M_obey_150 : decode b_M_obey 150 = .ok (.iconst 3, 1) := by decide +kernel
theorem d_M_obey_151 : decode b_M_obey 151 = .ok (.iadd, 1) := by decide +kernel
theorem d_M_obey_152 : decode b_M_obey 152 = .ok (.iconst 4, 1) := by decide +kernel
theorem d_M_obey_153 : decode b_M_obey 153 = .ok (.irem, 1) := by decide +kernel
theorem d_M_obey_154 : decode b_M_obey 154 = .ok (.putfield 170, 3) := by decide +kernel
theorem d_M_obey_157 : decode b_M_obey 157 = .ok (.return_, 1) := by decide +kernel
theorem d_M_obey_158 : decode b_M_obey 158 = .ok (.aload_n 0, 1) := by decide +kernel
theorem d_M_obey_159 : decode b_M_obey 159 = .ok (.iconst 1, 1) := by decide +kernel
theorem d_M_obey_160 : decode b_M_obey 160 = .ok (.putfield 182, 3) := by decide +kernel
theorem d_M_obey_163 : decode b_M_obey 163 = .ok (.return_, 1) := by decide +kernel
theorem d_M_obey_164 : decode b_M_obey 164 = .ok (.aload_n 0, 1) := by decide +kernel
theorem d_M_obey_165 : decode b_M_obey 165 = .ok (.iconst 0, 1) := by decide +kernel
theorem d_M_obey_166 : decode b_M_obey 166 = .ok (.putfield 182, 3) := by decide +kernel
theorem d_M_obey_169 : decode b_M_obey 169 = .ok (.return_, 1) := by decide +kernel
theorem d_M_obey_170 : decode b_M_obey 170 = .ok (.aload_n 0, 1) := by decide +kernel
theorem d_M_obey_171 : decode b_M_obey 171 = .ok (.aload_n 0, 1) := by decide +kernel
theorem d_M_obey_172 : decode b_M_obey 172 = .ok (.getfield 167, 3) := by decide +kernel
theorem d_M_obey_175 : decode b_M_obey 175 = .ok (.aload_n 0, 1) := by decide +kernel
theorem d_M_obey_176 : decode b_M_obey 176 = .ok (.getfield 176, 3) := by decide +kernel
theorem d_M_obey_179 : decode b_M_obey 179 = .ok (.iconst 1, 1) := by decide +kernel
theorem d_M_obey_180 : decode b_M_obey 180 = .ok (.invokevirtual 185, 3) := by decide +kernel
theorem d_M_obey_183 : decode b_M_obey 183 = .ok (.aload_n 0, 1) := by decide +kernel
theorem d_M_obey_184 : decode b_M_obey 184 = .ok (.getfield 167, 3) := by decide +kernel
theorem d_M_obey_187 : decode b_M_obey 187 = .ok (.aload_n 0, 1) := by decide +kernel
theorem d_M_obey_188 : decode b_M_obey 188 = .ok (.getfield 170, 3) := by decide +kernel
theorem d_M_obey_191 : decode b_M_obey 191 = .ok (.invokestatic 173, 3) := by decide +kernel
theorem d_M_obey_194 : decode b_M_obey 194 = .ok (.isub, 1) := by decide +kernel
theorem d_M_obey_195 : decode b_M_obey 195 = .ok (.istore_n 2, 1) := by decide +kernel
theorem d_M_obey_196 : decode b_M_obey 196 = .ok (.aload_n 0, 1) := by decide +kernel
theorem d_M_obey_197 : decode b_M_obey 197 = .ok (.getfield 176, 3) := by decide +kernel
theorem d_M_obey_200 : decode b_M_obey 200 = .ok (.aload_n 0, 1) := by decide +kernel
theorem d_M_obey_201 : decode b_M_obey 201 = .ok (.getfield 170, 3) := by decide +kernel
theorem d_M_obey_204 : decode b_M_obey 204 = .ok (.invokestatic 179, 3) := by decide +kernel
theorem d_M_obey_207 : decode b_M_obey 207 = .ok (.isub, 1) := by decide +kernel
theorem d_M_obey_208 : decode b_M_obey 208 = .ok (.istore_n 3, 1) := by decide +kernel
theorem d_M_obey_209 : decode b_M_obey 209 = .ok (.iload_n 2, 1) := by decide +kernel
theorem d_M_obey_210 : decode b_M_obey 210 = .ok (.iload_n 3, 1) := by decide +kernel
theorem d_M_obey_211 : decode b_M_obey 211 = .ok (.invokestatic 163, 3) := by decide +kernel
theorem d_M_obey_214 : decode b_M_obey 214 = .ok (.ifCond .eq 24, 3) := by decide +kernel
theorem d_M_obey_217 : decode b_M_obey 217 = .ok (.aload_n 0, 1) := by decide +kernel
theorem d_M_obey_218 : decode b_M_obey 218 = .ok (.getfield 74, 3) := by decide +kernel
theorem d_M_obey_221 : decode b_M_obey 221 = .ok (.iload_n 3, 1) := by decide +kernel
theorem d_M_obey_222 : decode b_M_obey 222 = .ok (.iaload, 1) := by decide +kernel
theorem d_M_obey_223 : decode b_M_obey 223 = .ok (.iload_n 2, 1) := by decide +kernel
theorem d_M_obey_224 : decode b_M_obey 224 = .ok (.invokestatic 131, 3) := by decide +kernel
theorem d_M_obey_227 : decode b_M_obey 227 = .ok (.iconst 1, 1) := by decide +kernel
theorem d_M_obey_228 : decode b_M_obey 228 = .ok (.if_icmp .ne 10, 3) := by decide +kernel
theorem d_M_obey_231 : decode b_M_obey 231 = .ok (.aload_n 0, 1) := by decide +kernel
theorem d_M_obey_232 : decode b_M_obey 232 = .ok (.iload_n 2, 1) := by decide +kernel
theorem d_M_obey_233 : decode b_M_obey 233 = .ok (.iload_n 3, 1) := by decide +kernel
theorem d_M_obey_234 : decode b_M_obey 234 = .ok (.iconst 2, 1) := by decide +kernel
theorem d_M_obey_235 : decode b_M_obey 235 = .ok (.invokevirtual 185, 3) := by decide +kernel
theorem d_M_obey_238 : decode b_M_obey 238 = .ok (.return_, 1) := by decide +kernel
theorem d_M_obey_239 : decode b_M_obey 239 = .ok (.aload_n 0, 1) := by decide +kernel
theorem d_M_obey_240 : decode b_M_obey 240 = .ok (.aload_n 0, 1) := by decide +kernel
theorem d_M_obey_241 : decode b_M_obey 241 = .ok (.getfield 167, 3) := by decide +kernel
theorem d_M_obey_244 : decode b_M_obey 244 = .ok (.aload_n 0, 1) := by decide +kernel
theorem d_M_obey_245 : decode b_M_obey 245 = .ok (.getfield 176, 3) := by decide +kernel
theorem d_M_obey_248 : decode b_M_obey 248 = .ok (.iconst 0, 1) := by decide +kernel
theorem d_M_obey_249 : decode b_M_obey 249 = .ok (.invokevirtual 185, 3) := by decide +kernel
theorem d_M_obey_252 : decode b_M_obey 252 = .ok (.return_, 1) := by decide +kernel
theorem d_M_obey_253 : decode b_M_obey 253 = .ok (.aload_n 0, 1) := by decide +kernel
theorem d_M_obey_254 : decode b_M_obey 254 = .ok (.iconst 1, 1) := by decide +kernel
theorem d_M_obey_255 : decode b_M_obey 255 = .ok (.iconst 1, 1) := by decide +kernel
theorem d_M_obey_256 : decode b_M_obey 256 = .ok (.iconst 0, 1) := by decide +kernel
theorem d_M_obey_257 : decode b_M_obey 257 = .ok (.invokevirtual 192, 3) := by decide +kernel
theorem d_M_obey_260 : decode b_M_obey 260 = .ok (.aload_n 0, 1) := by decide +kernel
theorem d_M_obey_261 : decode b_M_obey 261 = .ok (.iconst 1, 1) := by decide +kernel
theorem d_M_obey_262 : decode b_M_obey 262 = .ok (.iconst 0, 1) := by decide +kernel
theorem d_M_obey_263 : decode b_M_obey 263 = .ok (.iconst 1, 1) := by decide +kernel
theorem d_M_obey_264 : decode b_M_obey 264 = .ok (.invokevirtual 192, 3) := by decide +kernel
theorem d_M_obey_267 : decode b_M_obey 267 = .ok (.aload_n 0, 1) := by decide +kernel
theorem d_M_obey_268 : decode b_M_obey 268 = .ok (.iconst 1, 1) := by decide +kernel
theorem d_M_obey_269 : decode b_M_obey 269 = .ok (.iconst 1, 1) := by decide +kernel
theorem d_M_obey_270 : decode b_M_obey 270 = .ok (.iconst 1, 1) := by decide +kernel
theorem d_M_obey_271 : decode b_M_obey 271 = .ok (.invokevirtual 192, 3) := by decide +kernel
theorem d_M_obey_274 : decode b_M_obey 274 = .ok (.aload_n 0, 1) := by decide +kernel
theorem d_M_obey_275 : decode b_M_obey 275 = .ok (.iconst 1, 1) := by decide +kernel
theorem d_M_obey_276 : decode b_M_obey 276 = .ok (.iconst 1, 1) := by decide +kernel
theorem d_M_obey_277 : decode b_M_obey 277 = .ok (.iconst 0, 1) := by decide +kernel
theorem d_M_obey_278 : decode b_M_obey 278 = .ok (.invokevirtual 192, 3) := by decide +kernel
theorem d_M_obey_281 : decode b_M_obey 281 = .ok (.return_, 1) := by decide +kernel
abbrev b_M_open : ByteArray := prog_9_method_26_code
theorem d_M_open_0 : decode b_M_open 0 = .ok (.aload_n 0, 1) := by decide +kernel
theorem d_M_open_1 : decode b_M_open 1 = .ok (.getfield 77, 3) := by decide +kernel
theorem d_M_open_4 : decode b_M_open 4 = .ok (.aload_n 0, 1) := by decide +kernel
theorem d_M_open_5 : decode b_M_open 5 = .ok (.getfield 196, 3) := by decide +kernel
theorem d_M_open_8 : decode b_M_open 8 = .ok (.iload_n 1, 1) := by decide +kernel
theorem d_M_open_9 : decode b_M_open 9 = .ok (.iastore, 1) := by decide +kernel
theorem d_M_open_10 : decode b_M_open 10 = .ok (.aload_n 0, 1) := by decide +kernel
theorem d_M_open_11 : decode b_M_open 11 = .ok (.getfield 80, 3) := by decide +kernel
theorem d_M_open_14 : decode b_M_open 14 = .ok (.aload_n 0, 1) := by decide +kernel
theorem d_M_open_15 : decode b_M_open 15 = .ok (.getfield 196, 3) := by decide +kernel
theorem d_M_open_18 : decode b_M_open 18 = .ok (.iload_n 2, 1) := by decide +kernel
theorem d_M_open_19 : decode b_M_open 19 = .ok (.iastore, 1) := by decide +kernel
theorem d_M_open_20 : decode b_M_open 20 = .ok (.aload_n 0, 1) := by decide +kernel
theorem d_M_open_21 : decode b_M_open 21 = .ok (.getfield 83, 3) := by decide +kernel
theorem d_M_open_24 : decode b_M_open 24 = .ok (.aload_n 0, 1) := by decide +kernel
theorem d_M_open_25 : decode b_M_open 25 = .ok (.getfield 196, 3) := by decide +kernel
theorem d_M_open_28 : decode b_M_open 28 = .ok (.iload_n 3, 1) := by decide +kernel
theorem d_M_open_29 : decode b_M_open 29 = .ok (.iastore, 1) := by decide +kernel
theorem d_M_open_30 : decode b_M_open 30 = .ok (.aload_n 0, 1) := by decide +kernel
theorem d_M_open_31 : decode b_M_open 31 = .ok (.getfield 86, 3) := by decide +kernel
theorem d_M_open_34 : decode b_M_open 34 = .ok (.aload_n 0, 1) := by decide +kernel
theorem d_M_open_35 : decode b_M_open 35 = .ok (.getfield 196, 3) := by decide +kernel
theorem d_M_open_38 : decode b_M_open 38 = .ok (.iload 4, 2) := by decide +kernel
theorem d_M_open_40 : decode b_M_open 40 = .ok (.iastore, 1) := by decide +kernel
theorem d_M_open_41 : decode b_M_open 41 = .ok (.aload_n 0, 1) := by decide +kernel
theorem d_M_open_42 : decode b_M_open 42 = .ok (.dup, 1) := by decide +kernel
theorem d_M_open_43 : decode b_M_open 43 = .ok (.getfield 196, 3) := by decide +kernel
theorem d_M_open_46 : decode b_M_open 46 = .ok (.iconst 1, 1) := by decide +kernel
theorem d_M_open_47 : decode b_M_open 47 = .ok (.iadd, 1) := by decide +kernel
theorem d_M_open_48 : decode b_M_open 48 = .ok (.putfield 196, 3) := by decide +kernel
theorem d_M_open_51 : decode b_M_open 51 = .ok (.aload_n 0, 1) := by decide +kernel
theorem d_M_open_52 : decode b_M_open 52 = .ok (.invokevirtual 199, 3) := by decide +kernel
theorem d_M_open_55 : decode b_M_open 55 = .ok (.return_, 1) := by decide +kernel
abbrev b_M_again : ByteArray := prog_9_method_27_code
theorem d_M_again_0 : decode b_M_again 0 = .ok (.aload_n 0, 1) := by decide +kernel
theorem d_M_again_1 : decode b_M_again 1 = .ok (.getfield 196, 3) := by decide +kernel
theorem d_M_again_4 : decode b_M_again 4 = .ok (.iconst 1, 1) := by decide +kernel
theorem d_M_again_5 : decode b_M_again 5 = .ok (.isub, 1) := by decide +kernel
theorem d_M_again_6 : decode b_M_again 6 = .ok (.istore_n 1, 1) := by decide +kernel
theorem d_M_again_7 : decode b_M_again 7 = .ok (.aload_n 0, 1) := by decide +kernel
theorem d_M_again_8 : decode b_M_again 8 = .ok (.invokevirtual 189, 3) := by decide +kernel
theorem d_M_again_11 : decode b_M_again 11 = .ok (.aload_n 0, 1) := by decide +kernel
theorem d_M_again_12 : decode b_M_again 12 = .ok (.getfield 86, 3) := by decide +kernel
theorem d_M_again_15 : decode b_M_again 15 = .ok (.iload_n 1, 1) := by decide +kernel
theorem d_M_again_16 : decode b_M_again 16 = .ok (.dup2, 1) := by decide +kernel
theorem d_M_again_17 : decode b_M_again 17 = .ok (.iaload, 1) := by decide +kernel
theorem d_M_again_18 : decode b_M_again 18 = .ok (.iconst 1, 1) := by decide +kernel
theorem d_M_again_19 : decode b_M_again 19 = .ok (.isub, 1) := by decide +kernel
theorem d_M_again_20 : decode b_M_again 20 = .ok (.iastore, 1) := by decide +kernel
theorem d_M_again_21 : decode b_M_again 21 = .ok (.aload_n 0, 1) := by decide +kernel
theorem d_M_again_22 : decode b_M_again 22 = .ok (.getfield 89, 3) := by decide +kernel
theorem d_M_again_25 : decode b_M_again 25 = .ok (.iload_n 1, 1) := by decide +kernel
theorem d_M_again_26 : decode b_M_again 26 = .ok (.aload_n 0, 1) := by decide +kernel
theorem d_M_again_27 : decode b_M_again 27 = .ok (.getfield 167, 3) := by decide +kernel
theorem d_M_again_30 : decode b_M_again 30 = .ok (.iastore, 1) := by decide +kernel
theorem d_M_again_31 : decode b_M_again 31 = .ok (.aload_n 0, 1) := by decide +kernel
theorem d_M_again_32 : decode b_M_again 32 = .ok (.getfield 92, 3) := by decide +kernel
theorem d_M_again_35 : decode b_M_again 35 = .ok (.iload_n 1, 1) := by decide +kernel
theorem d_M_again_36 : decode b_M_again 36 = .ok (.aload_n 0, 1) := by decide +kernel
theorem d_M_again_37 : decode b_M_again 37 = .ok (.getfield 176, 3) := by decide +kernel
theorem d_M_again_40 : decode b_M_again 40 = .ok (.iastore, 1) := by decide +kernel
theorem d_M_again_41 : decode b_M_again 41 = .ok (.aload_n 0, 1) := by decide +kernel
theorem d_M_again_42 : decode b_M_again 42 = .ok (.getfield 95, 3) := by decide +kernel
theorem d_M_again_45 : decode b_M_again 45 = .ok (.iload_n 1, 1) := by decide +kernel
theorem d_M_again_46 : decode b_M_again 46 = .ok (.aload_n 0, 1) := by decide +kernel
theorem d_M_again_47 : decode b_M_again 47 = .ok (.getfield 170, 3) := by decide +kernel
theorem d_M_again_50 : decode b_M_again 50 = .ok (.iastore, 1) := by decide +kernel
theorem d_M_again_51 : decode b_M_again 51 = .ok (.aload_n 0, 1) := by decide +kernel
theorem d_M_again_52 : decode b_M_again 52 = .ok (.getfield 98, 3) := by decide +kernel
theorem d_M_again_55 : decode b_M_again 55 = .ok (.iload_n 1, 1) := by decide +kernel
theorem d_M_again_56 : decode b_M_again 56 = .ok (.aload_n 0, 1) := by decide +kernel
theorem d_M_again_57 : decode b_M_again 57 = .ok (.getfield 182, 3) := by decide +kernel
theorem d_M_again_60 : decode b_M_again 60 = .ok (.bastore, 1) := by decide +kernel
theorem d_M_again_61 : decode b_M_again 61 = .ok (.return_, 1) := by decide +kernel
abbrev b_M_comeBack : ByteArray := prog_9_method_28_code
theorem d_M_comeBack_0 : decode b_M_comeBack 0 = .ok (.aload_n 0, 1) := by decide +kernel
theorem d_M_comeBack_1 : decode b_M_comeBack 1 = .ok (.getfield 196, 3) := by decide +kernel
theorem d_M_comeBack_4 : decode b_M_comeBack 4 = .ok (.iconst 1, 1) := by decide +kernel
theorem d_M_comeBack_5 : decode b_M_comeBack 5 = .ok (.isub, 1) := by decide +kernel
theorem d_M_comeBack_6 : decode b_M_comeBack 6 = .ok (.istore_n 1, 1) := by decide +kernel
theorem d_M_comeBack_7 : decode b_M_comeBack 7 = .ok (.aload_n 0, 1) := by decide +kernel
theorem d_M_comeBack_8 : decode b_M_comeBack 8 = .ok (.aload_n 0, 1) := by decide +kernel
theorem d_M_comeBack_9 : decode b_M_comeBack 9 = .ok (.getfield 89, 3) := by decide +kernel
theorem d_M_comeBack_12 : decode b_M_comeBack 12 = .ok (.iload_n 1, 1) := by decide +kernel
theorem d_M_comeBack_13 : decode b_M_comeBack 13 = .ok (.iaload, 1) := by decide +kernel
theorem d_M_comeBack_14 : decode b_M_comeBack 14 = .ok (.putfield 167, 3) := by decide +kernel
theorem d_M_comeBack_17 : decode b_M_comeBack 17 = .ok (.aload_n 0, 1) := by decide +kernel
theorem d_M_comeBack_18 : decode b_M_comeBack 18 = .ok (.aload_n 0, 1) := by decide +kernel
theorem d_M_comeBack_19 : decode b_M_comeBack 19 = .ok (.getfield 92, 3) := by decide +kernel
theorem d_M_comeBack_22 : decode b_M_comeBack 22 = .ok (.iload_n 1, 1) := by decide +kernel
theorem d_M_comeBack_23 : decode b_M_comeBack 23 = .ok (.iaload, 1) := by decide +kernel
theorem d_M_comeBack_24 : decode b_M_comeBack 24 = .ok (.putfield 176, 3) := by decide +kernel
theorem d_M_comeBack_27 : decode b_M_comeBack 27 = .ok (.aload_n 0, 1) := by decide +kernel
theorem d_M_comeBack_28 : decode b_M_comeBack 28 = .ok (.aload_n 0, 1) := by decide +kernel
theorem d_M_comeBack_29 : decode b_M_comeBack 29 = .ok (.getfield 95, 3) := by decide +kernel
theorem d_M_comeBack_32 : decode b_M_comeBack 32 = .ok (.iload_n 1, 1) := by decide +kernel
theorem d_M_comeBack_33 : decode b_M_comeBack 33 = .ok (.iaload, 1) := by decide +kernel
theorem d_M_comeBack_34 : decode b_M_comeBack 34 = .ok (.putfield 170, 3) := by decide +kernel
theorem d_M_comeBack_37 : decode b_M_comeBack 37 = .ok (.aload_n 0, 1) := by decide +kernel
theorem d_M_comeBack_38 : decode b_M_comeBack 38 = .ok (.aload_n 0, 1) := by decide +kernel
theorem d_M_comeBack_39 : decode b_M_comeBack 39 = .ok (.getfield 98, 3) := by decide +kernel
theorem d_M_comeBack_42 : decode b_M_comeBack 42 = .ok (.iload_n 1, 1) := by decide +kernel
theorem d_M_comeBack_43 : decode b_M_comeBack 43 = .ok (.baload, 1) := by decide +kernel
theorem d_M_comeBack_44 : decode b_M_comeBack 44 = .ok (.putfield 182, 3) := by decide +kernel
theorem d_M_comeBack_47 : decode b_M_comeBack 47 = .ok (.return_, 1) := by decide +kernel
abbrev b_M_behind : ByteArray := prog_9_method_29_code
theorem d_M_behind_0 : decode b_M_behind 0 = .ok (.iconst 0, 1) := by decide +kernel
theorem d_M_behind_1 : decode b_M_behind 1 = .ok (.istore_n 3, 1) := by decide +kernel
theorem d_M_behind_2 : decode b_M_behind 2 = .ok (.iload_n 2, 1) := by decide +kernel
theorem d_M_behind_3 : decode b_M_behind 3 = .ok (.istore 4, 2) := by decide +kernel
theorem d_M_behind_5 : decode b_M_behind 5 = .ok (.aload_n 0, 1) := by decide +kernel
theorem d_M_behind_6 : decode b_M_behind 6 = .ok (.iload_n 1, 1) := by decide +kernel
theorem d_M_behind_7 : decode b_M_behind 7 = .ok (.iload 4, 2) := by decide +kernel
theorem d_M_behind_9 : decode b_M_behind 9 = .ok (.invokevirtual 143, 3) := by decide +kernel
theorem d_M_behind_12 : decode b_M_behind 12 = .ok (.istore 5, 2) := by decide +kernel
theorem d_M_behind_14 : decode b_M_behind 14 = .ok (.iload_n 3, 1) := by decide +kernel
theorem d_M_behind_15 : decode b_M_behind 15 = .ok (.iload 5, 2) := by decide +kernel
theorem d_M_behind_17 : decode b_M_behind 17 = .ok (.bipush 40, 2) := by decide +kernel
theorem d_M_behind_19 : decode b_M_behind 19 = .ok (.if_icmp .eq 10, 3) := by decide +kernel
theorem d_M_behind_22 : decode b_M_behind 22 = .ok (.iload 5, 2) := by decide +kernel
theorem d_M_behind_24 : decode b_M_behind 24 = .ok (.bipush 91, 2) := by decide +kernel
theorem d_M_behind_26 : decode b_M_behind 26 = .ok (.if_icmp .ne 7, 3) := by decide +kernel
theorem d_M_behind_29 : decode b_M_behind 29 = .ok (.iconst 1, 1) := by decide +kernel
theorem d_M_behind_30 : decode b_M_behind 30 = .ok (.goto 22, 3) := by decide +kernel
theorem d_M_behind_33 : decode b_M_behind 33 = .ok (.iload 5, 2) := by decide +kernel
theorem d_M_behind_35 : decode b_M_behind 35 = .ok (.bipush 41, 2) := by decide +kernel
theorem d_M_behind_37 : decode b_M_behind 37 = .ok (.if_icmp .eq 10, 3) := by decide +kernel
theorem d_M_behind_40 : decode b_M_behind 40 = .ok (.iload 5, 2) := by decide +kernel
theorem d_M_behind_42 : decode b_M_behind 42 = .ok (.bipush 93, 2) := by decide +kernel
theorem d_M_behind_44 : decode b_M_behind 44 = .ok (.if_icmp .ne 7, 3) := by decide +kernel
theorem d_M_behind_47 : decode b_M_behind 47 = .ok (.iconst (-1), 1) := by decide +kernel
theorem d_M_behind_48 : decode b_M_behind 48 = .ok (.goto 4, 3) := by decide +kernel
theorem d_M_behind_51 : decode b_M_behind 51 = .ok (.iconst 0, 1) := by decide +kernel
theorem d_M_behind_52 : decode b_M_behind 52 = .ok (.iadd, 1) := by decide +kernel
theorem d_M_behind_53 : decode b_M_behind 53 = .ok (.istore_n 3, 1) := by decide +kernel
theorem d_M_behind_54 : decode b_M_behind 54 = .ok (.iinc 4 1, 3) := by decide +kernel
theorem d_M_behind_57 : decode b_M_behind 57 = .ok (.iload_n 3, 1) := by decide +kernel
theorem d_M_behind_58 : decode b_M_behind 58 = .ok (.ifCond .gt (-53), 3) := by decide +kernel
theorem d_M_behind_61 : decode b_M_behind 61 = .ok (.iload 4, 2) := by decide +kernel
theorem d_M_behind_63 : decode b_M_behind 63 = .ok (.ireturn, 1) := by decide +kernel
abbrev b_M_goThrough : ByteArray := prog_9_method_30_code
theorem d_M_goThrough_0 : decode b_M_goThrough 0 = .ok (.iconst 4, 1) := by decide +kernel
theorem d_M_goThrough_1 : decode b_M_goThrough 1 = .ok (.istore_n 1, 1) := by decide +kernel
theorem d_M_goThrough_2 : decode b_M_goThrough 2 = .ok (.iconst 0, 1) := by decide +kernel
theorem d_M_goThrough_3 : decode b_M_goThrough 3 = .ok (.istore_n 2, 1) := by decide +kernel
theorem d_M_goThrough_4 : decode b_M_goThrough 4 = .ok (.aload_n 0, 1) := by decide +kernel
theorem d_M_goThrough_5 : decode b_M_goThrough 5 = .ok (.iconst 0, 1) := by decide +kernel
theorem d_M_goThrough_6 : decode b_M_goThrough 6 = .ok (.putfield 196, 3) := by decide +kernel
theorem d_M_goThrough_9 : decode b_M_goThrough 9 = .ok (.aload_n 0, 1) := by decide +kernel
theorem d_M_goThrough_10 : decode b_M_goThrough 10 = .ok (.getfield 159, 3) := by decide +kernel
theorem d_M_goThrough_13 : decode b_M_goThrough 13 = .ok (.ifCond .ne 313, 3) := by decide +kernel
theorem d_M_goThrough_16 : decode b_M_goThrough 16 = .ok (.iload_n 1, 1) := by decide +kernel
theorem d_M_goThrough_17 : decode b_M_goThrough 17 = .ok (.iconst 4, 1) := by decide +kernel
theorem d_M_goThrough_18 : decode b_M_goThrough 18 = .ok (.if_icmp .lt 13, 3) := by decide +kernel
theorem d_M_goThrough_21 : decode b_M_goThrough 21 = .ok (.iload_n 2, 1) := by decide +kernel
theorem d_M_goThrough_22 : decode b_M_goThrough 22 = .ok (.aload_n 0, 1) := by decide +kernel
theorem d_M_goThrough_23 : decode b_M_goThrough 23 = .ok (.getfield 62, 3) := by decide +kernel
theorem d_M_goThrough_26 : decode b_M_goThrough 26 = .ok (.iconst 4, 1) := by decide +kernel
theorem d_M_goThrough_27 : decode b_M_goThrough 27 = .ok (.iaload, 1) := by decide +kernel
theorem d_M_goThrough_28 : decode b_M_goThrough 28 = .ok (.if_icmp .ge 298, 3) := by decide +kernel
theorem d_M_goThrough_31 : decode b_M_goThrough 31 = .ok (.aload_n 0, 1) := by decide +kernel
theorem d_M_goThrough_32 : decode b_M_goThrough 32 = .ok (.iload_n 1, 1) := by decide +kernel
theorem d_M_goThrough_33 : decode b_M_goThrough 33 = .ok (.iload_n 2, 1) := by decide +kernel
theorem d_M_goThrough_34 : decode b_M_goThrough 34 = .ok (.invokevirtual 143, 3) := by decide +kernel
theorem d_M_goThrough_37 : decode b_M_goThrough 37 = .ok (.istore_n 3, 1) := by decide +kernel
theorem d_M_goThrough_38 : decode b_M_goThrough 38 = .ok (.iload_n 3, 1) := by decide +kernel
theorem d_M_goThrough_39 : decode b_M_goThrough 39 = .ok (.ifCond .eq 15, 3) := by decide +kernel
theorem d_M_goThrough_42 : decode b_M_goThrough 42 = .ok (.iload_n 3, 1) := by decide +kernel
theorem d_M_goThrough_43 : decode b_M_goThrough 43 = .ok (.bipush 41, 2) := by decide +kernel
theorem d_M_goThrough_45 : decode b_M_goThrough 45 = .ok (.if_icmp .eq 9, 3) := by decide +kernel
theorem d_M_goThrough_48 : decode b_M_goThrough 48 = .ok (.iload_n 3, 1) := by decide +kernel
theorem d_M_goThrough_49 : decode b_M_goThrough 49 = .ok (.bipush 93, 2) := by decide +kernel
theorem d_M_goThrough_51 : decode b_M_goThrough 51 = .ok (.if_icmp .ne 93, 3) := by decide +kernel
theorem d_M_goThrough_54 : decode b_M_goThrough 54 = .ok (.aload_n 0, 1) := by decide +kernel
theorem d_M_goThrough_55 : decode b_M_goThrough 55 = .ok (.getfield 196, 3) := by decide +kernel
theorem d_M_goThrough_58 : decode b_M_goThrough 58 = .ok (.iconst 1, 1) := by decide +kernel
theorem d_M_goThrough_59 : decode b_M_goThrough 59 = .ok (.isub, 1) := by decide +kernel
theorem d_M_goThrough_60 : decode b_M_goThrough 60 = .ok (.istore 4, 2) := by decide +kernel
theorem d_M_goThrough_62 : decode b_M_goThrough 62 = .ok (.iload_n 3, 1) := by decide +kernel
theorem d_M_goThrough_63 : decode b_M_goThrough 63 = .ok (.bipush 41, 2) := by decide +kernel
theorem d_M_goThrough_65 : decode b_M_goThrough 65 = .ok (.if_icmp .ne 7, 3) := by decide +kernel
theorem d_M_goThrough_68 : decode b_M_goThrough 68 = .ok (.aload_n 0, 1) := by decide +kernel
theorem d_M_goThrough_69 : decode b_M_goThrough 69 = .ok (.invokevirtual 202, 3) := by decide +kernel
theorem d_M_goThrough_72 : decode b_M_goThrough 72 = .ok (.aload_n 0, 1) := by decide +kernel
theorem d_M_goThrough_73 : decode b_M_goThrough 73 = .ok (.getfield 86, 3) := by decide +kernel
theorem d_M_goThrough_76 : decode b_M_goThrough 76 = .ok (.iload 4, 2) := by decide +kernel
theorem d_M_goThrough_78 : decode b_M_goThrough 78 = .ok (.iaload, 1) := by decide +kernel
theorem d_M_goThrough_79 : decode b_M_goThrough 79 = .ok (.ifCond .le 26, 3) := by decide +kernel
theorem d_M_goThrough_82 : decode b_M_goThrough 82 = .ok (.aload_n 0, 1) := by decide +kernel
theorem d_M_goThrough_83 : decode b_M_goThrough 83 = .ok (.invokevirtual 199, 3) := by decide +kernel
theorem d_M_goThrough_86 : decode b_M_goThrough 86 = .ok (.iload_n 3, 1) := by decide +kernel
theorem d_M_goThrough_87 : decode b_M_goThrough 87 = .ok (.ifCond .ne 7, 3) := by decide +kernel
theorem d_M_goThrough_90 : decode b_M_goThrough 90 = .ok (.iconst 0, 1) := by decide +kernel
theorem d_M_goThrough_91 : decode b_M_goThrough 91 = .ok (.goto 10, 3) := by decide +kernel
theorem d_M_goThrough_94 : decode b_M_goThrough 94 = .ok (.aload_n 0, 1) := by decide +kernel
theorem d_M_goThrough_95 : decode b_M_goThrough 95 = .ok (.getfield 83, 3) := by decide +kernel
theorem d_M_goThrough_98 : decode b_M_goThrough 98 = .ok (.iload 4, 2) := by decide +kernel
theorem d_M_goThrough_100 : decode b_M_goThrough 100 = .ok (.iaload, 1) := by decide +kernel
theorem d_M_goThrough_101 : decode b_M_goThrough 101 = .ok (.istore_n 2, 1) := by decide +kernel
theorem d_M_goThrough_102 : decode b_M_goThrough 102 = .ok (.goto (-93), 3) := by decide +kernel
theorem d_M_goThrough_105 : decode b_M_goThrough 105 = .ok (.aload_n 0, 1) := by decide +kernel
theorem d_M_goThrough_106 : decode b_M_goThrough 106 = .ok (.getfield 80, 3) := by decide +kernel
theorem d_M_goThrough_109 : decode b_M_goThrough 109 = .ok (.iload 4, 2) := by decide +kernel
theorem d_M_goThrough_111 : decode b_M_goThrough 111 = .ok (.iaload, 1) := by decide +kernel
theorem d_M_goThrough_112 : decode b_M_goThrough 112 = .ok (.istore_n 1, 1) := by decide +kernel
theorem d_M_goThrough_113 : decode b_M_goThrough 113 = .ok (.iload_n 3, 1) := by decide +kernel
theorem d_M_goThrough_114 : decode b_M_goThrough 114 = .ok (.ifCond .ne 13, 3) := by decide +kernel
theorem d_M_goThrough_117 : decode b_M_goThrough 117 = .ok (.aload_n 0, 1) := by decide +kernel
theorem d_M_goThrough_118 : decode b_M_goThrough 118 = .ok (.getfield 83, 3) := by decide +kernel
theorem d_M_goThrough_121 : decode b_M_goThrough 121 = .ok (.iload 4, 2) := by decide +kernel
theorem d_M_goThrough_123 : decode b_M_goThrough 123 = .ok (.iaload, 1) := by decide +kernel
theorem d_M_goThrough_124 : decode b_M_goThrough 124 = .ok (.goto 6, 3) := by decide +kernel
theorem d_M_goThrough_127 : decode b_M_goThrough 127 = .ok (.iload_n 2, 1) := by decide +kernel
theorem d_M_goThrough_128 : decode b_M_goThrough 128 = .ok (.iconst 1, 1) := by decide +kernel
theorem d_M_goThrough_129 : decode b_M_goThrough 129 = .ok (.iadd, 1) := by decide +kernel
theorem d_M_goThrough_130 : decode b_M_goThrough 130 = .ok (.istore_n 2, 1) := by decide +kernel
theorem d_M_goThrough_131 : decode b_M_goThrough 131 = .ok (.aload_n 0, 1) := by decide +kernel
theorem d_M_goThrough_132 : decode b_M_goThrough 132 = .ok (.dup, 1) := by decide +kernel
theorem d_M_goThrough_133 : decode b_M_goThrough 133 = .ok (.getfield 196, 3) := by decide +kernel
theorem d_M_goThrough_136 : decode b_M_goThrough 136 = .ok (.iconst 1, 1) := by decide +kernel
theorem d_M_goThrough_137 : decode b_M_goThrough 137 = .ok (.isub, 1) := by decide +kernel
theorem d_M_goThrough_138 : decode b_M_goThrough 138 = .ok (.putfield 196, 3) := by decide +kernel
theorem d_M_goThrough_141 : decode b_M_goThrough 141 = .ok (.goto (-132), 3) := by decide +kernel
theorem d_M_goThrough_144 : decode b_M_goThrough 144 = .ok (.iconst 1, 1) := by decide +kernel
theorem d_M_goThrough_145 : decode b_M_goThrough 145 = .ok (.istore 4, 2) := by decide +kernel
theorem d_M_goThrough_147 : decode b_M_goThrough 147 = .ok (.iload_n 3, 1) := by decide +kernel
theorem d_M_goThrough_148 : decode b_M_goThrough 148 = .ok (.invokestatic 145, 3) := by decide +kernel
theorem d_M_goThrough_151 : decode b_M_goThrough 151 = .ok (.ifCond .eq 48, 3) := by decide +kernel
theorem d_M_goThrough_154 : decode b_M_goThrough 154 = .ok (.iconst 0, 1) := by decide +kernel
theorem d_M_goThrough_155 : decode b_M_goThrough 155 = .ok (.istore 4, 2) := by decide +kernel
theorem d_M_goThrough_157 : decode b_M_goThrough 157 = .ok (.aload_n 0, 1) := by decide +kernel
theorem d_M_goThrough_158 : decode b_M_goThrough 158 = .ok (.iload_n 1, 1) := by decide +kernel
theorem d_M_goThrough_159 : decode b_M_goThrough 159 = .ok (.iload_n 2, 1) := by decide +kernel
theorem d_M_goThrough_160 : decode b_M_goThrough 160 = .ok (.invokevirtual 143, 3) := by decide +kernel
theorem d_M_goThrough_163 : decode b_M_goThrough 163 = .ok (.invokestatic 145, 3) := by decide +kernel
theorem d_M_goThrough_166 : decode b_M_goThrough 166 = .ok (.ifCond .eq 26, 3) := by decide +kernel
theorem d_M_goThrough_169 : decode b_M_goThrough 169 = .ok (.bipush 10, 2) := by decide +kernel
theorem d_M_goThrough_171 : decode b_M_goThrough 171 = .ok (.iload 4, 2) := by decide +kernel
theorem d_M_goThrough_173 : decode b_M_goThrough 173 = .ok (.imul, 1) := by decide +kernel
theorem d_M_goThrough_174 : decode b_M_goThrough 174 = .ok (.aload_n 0, 1) := by decide +kernel
theorem d_M_goThrough_175 : decode b_M_goThrough 175 = .ok (.iload_n 1, 1) := by decide +kernel
theorem d_M_goThrough_176 : decode b_M_goThrough 176 = .ok (.iload_n 2, 1) := by decide +kernel
theorem d_M_goThrough_177 : decode b_M_goThrough 177 = .ok (.invokevirtual 143, 3) := by decide +kernel
theorem d_M_goThrough_180 : decode b_M_goThrough 180 = .ok (.iadd, 1) := by decide +kernel
theorem d_M_goThrough_181 : decode b_M_goThrough 181 = .ok (.bipush 48, 2) := by decide +kernel
theorem d_M_goThrough_183 : decode b_M_goThrough 183 = .ok (.isub, 1) := by decide +kernel
theorem d_M_goThrough_184 : decode b_M_goThrough 184 = .ok (.istore 4, 2) := by decide +kernel
theorem d_M_goThrough_186 : decode b_M_goThrough 186 = .ok (.iinc 2 1, 3) := by decide +kernel
theorem d_M_goThrough_189 : decode b_M_goThrough 189 = .ok (.goto (-32), 3) := by decide +kernel
theorem d_M_goThrough_192 : decode b_M_goThrough 192 = .ok (.aload_n 0, 1) := by decide +kernel
theorem d_M_goThrough_193 : decode b_M_goThrough 193 = .ok (.iload_n 1, 1) := by decide +kernel
theorem d_M_goThrough_194 : decode b_M_goThrough 194 = .ok (.iload_n 2, 1) := by decide +kernel
theorem d_M_goThrough_195 : decode b_M_goThrough 195 = .ok (.invokevirtual 143, 3) := by decide +kernel
theorem d_M_goThrough_198 : decode b_M_goThrough 198 = .ok (.istore_n 3, 1) := by decide +kernel
theorem d_M_goThrough_199 : decode b_M_goThrough 199 = .ok (.iload_n 3, 1) := by decide +kernel
theorem d_M_goThrough_200 : decode b_M_goThrough 200 = .ok (.bipush 40, 2) := by decide +kernel
theorem d_M_goThrough_202 : decode b_M_goThrough 202 = .ok (.if_icmp .eq 9, 3) := by decide +kernel
theorem d_M_goThrough_205 : decode b_M_goThrough 205 = .ok (.iload_n 3, 1) := by decide +kernel
theorem d_M_goThrough_206 : decode b_M_goThrough 206 = .ok (.bipush 91, 2) := by decide +kernel
theorem d_M_goThrough_208 : decode b_M_goThrough 208 = .ok (.if_icmp .ne 40, 3) := by decide +kernel
theorem d_M_goThrough_211 : decode b_M_goThrough 211 = .ok (.iload 4, 2) := by decide +kernel
theorem d_M_goThrough_213 : decode b_M_goThrough 213 = .ok (.ifCond .le 14, 3) := by decide +kernel
theorem d_M_goThrough_216 : decode b_M_goThrough 216 = .ok (.aload_n 0, 1) := by decide +kernel
theorem d_M_goThrough_217 : decode b_M_goThrough 217 = .ok (.iload_n 3, 1) := by decide +kernel
theorem d_M_goThrough_218 : decode b_M_goThrough 218 = .ok (.iload_n 1, 1) := by decide +kernel
theorem d_M_goThrough_219 : decode b_M_goThrough 219 = .ok (.iload_n 2, 1) := by decide +kernel
theorem d_M_goThrough_220 : decode b_M_goThrough 220 = .ok (.iconst 1, 1) := by decide +kernel
theorem d_M_goThrough_221 : decode b_M_goThrough 221 = .ok (.iadd, 1) := by decide +kernel
theorem d_M_goThrough_222 : decode b_M_goThrough 222 = .ok (.iload 4, 2) := by decide +kernel
theorem d_M_goThrough_224 : decode b_M_goThrough 224 = .ok (.invokevirtual 205, 3) := by decide +kernel
theorem d_M_goThrough_227 : decode b_M_goThrough 227 = .ok (.iload 4, 2) := by decide +kernel
theorem d_M_goThrough_229 : decode b_M_goThrough 229 = .ok (.ifCond .le 9, 3) := by decide +kernel
theorem d_M_goThrough_232 : decode b_M_goThrough 232 = .ok (.iload_n 2, 1) := by decide +kernel
theorem d_M_goThrough_233 : decode b_M_goThrough 233 = .ok (.iconst 1, 1) := by decide +kernel
theorem d_M_goThrough_234 : decode b_M_goThrough 234 = .ok (.iadd, 1) := by decide +kernel
theorem d_M_goThrough_235 : decode b_M_goThrough 235 = .ok (.goto 9, 3) := by decide +kernel
theorem d_M_goThrough_238 : decode b_M_goThrough 238 = .ok (.aload_n 0, 1) := by decide +kernel
theorem d_M_goThrough_239 : decode b_M_goThrough 239 = .ok (.iload_n 1, 1) := by decide +kernel
theorem d_M_goThrough_240 : decode b_M_goThrough 240 = .ok (.iload_n 2, 1) := by decide +kernel
theorem d_M_goThrough_241 : decode b_M_goThrough 241 = .ok (.invokevirtual 209, 3) := by decide +kernel
theorem d_M_goThrough_244 : decode b_M_goThrough 244 = .ok (.istore_n 2, 1) := by decide +kernel
theorem d_M_goThrough_245 : decode b_M_goThrough 245 = .ok (.goto 78, 3) := by decide +kernel
theorem d_M_goThrough_248 : decode b_M_goThrough 248 = .ok (.iload_n 3, 1) := by decide +kernel
theorem d_M_goThrough_249 : decode b_M_goThrough 249 = .ok (.bipush 64, 2) := by decide +kernel
theorem d_M_goThrough_251 : decode b_M_goThrough 251 = .ok (.if_icmp .ne 41, 3) := by decide +kernel
theorem d_M_goThrough_254 : decode b_M_goThrough 254 = .ok (.aload_n 0, 1) := by decide +kernel
theorem d_M_goThrough_255 : decode b_M_goThrough 255 = .ok (.iload_n 1, 1) := by decide +kernel
theorem d_M_goThrough_256 : decode b_M_goThrough 256 = .ok (.iload_n 2, 1) := by decide +kernel
theorem d_M_goThrough_257 : decode b_M_goThrough 257 = .ok (.iconst 1, 1) := by decide +kernel
theorem d_M_goThrough_258 : decode b_M_goThrough 258 = .ok (.iadd, 1) := by decide +kernel
theorem d_M_goThrough_259 : decode b_M_goThrough 259 = .ok (.invokevirtual 143, 3) := by decide +kernel
theorem d_M_goThrough_262 : decode b_M_goThrough 262 = .ok (.bipush 97, 2) := by decide +kernel
theorem d_M_goThrough_264 : decode b_M_goThrough 264 = .ok (.isub, 1) := by decide +kernel
theorem d_M_goThrough_265 : decode b_M_goThrough 265 = .ok (.istore 5, 2) := by decide +kernel
theorem d_M_goThrough_267 : decode b_M_goThrough 267 = .ok (.iinc 2 2, 3) := by decide +kernel
theorem d_M_goThrough_270 : decode b_M_goThrough 270 = .ok (.iload 4, 2) := by decide +kernel
theorem d_M_goThrough_272 : decode b_M_goThrough 272 = .ok (.ifCond .le 17, 3) := by decide +kernel
theorem d_M_goThrough_275 : decode b_M_goThrough 275 = .ok (.aload_n 0, 1) := by decide +kernel
theorem d_M_goThrough_276 : decode b_M_goThrough 276 = .ok (.iload_n 3, 1) := by decide +kernel
theorem d_M_goThrough_277 : decode b_M_goThrough 277 = .ok (.iload_n 1, 1) := by decide +kernel
theorem d_M_goThrough_278 : decode b_M_goThrough 278 = .ok (.iload_n 2, 1) := by decide +kernel
theorem d_M_goThrough_279 : decode b_M_goThrough 279 = .ok (.iload 4, 2) := by decide +kernel
theorem d_M_goThrough_281 : decode b_M_goThrough 281 = .ok (.invokevirtual 205, 3) := by decide +kernel
theorem d_M_goThrough_284 : decode b_M_goThrough 284 = .ok (.iload 5, 2) := by decide +kernel
theorem d_M_goThrough_286 : decode b_M_goThrough 286 = .ok (.istore_n 1, 1) := by decide +kernel
theorem d_M_goThrough_287 : decode b_M_goThrough 287 = .ok (.iconst 0, 1) := by decide +kernel
theorem d_M_goThrough_288 : decode b_M_goThrough 288 = .ok (.istore_n 2, 1) := by decide +kernel
theorem d_M_goThrough_289 : decode b_M_goThrough 289 = .ok (.goto 34, 3) := by decide +kernel
theorem d_M_goThrough_292 : decode b_M_goThrough 292 = .ok (.iconst 0, 1) := by decide +kernel
theorem d_M_goThrough_293 : decode b_M_goThrough 293 = .ok (.istore 5, 2) := by decide +kernel
theorem d_M_goThrough_295 : decode b_M_goThrough 295 = .ok (.iload 5, 2) := by decide +kernel
theorem d_M_goThrough_297 : decode b_M_goThrough 297 = .ok (.iload 4, 2) := by decide +kernel
theorem d_M_goThrough_299 : decode b_M_goThrough 299 = .ok (.if_icmp .ge 21, 3) := by decide +kernel
theorem d_M_goThrough_302 : decode b_M_goThrough 302 = .ok (.aload_n 0, 1) := by decide +kernel
theorem d_M_goThrough_303 : decode b_M_goThrough 303 = .ok (.getfield 159, 3) := by decide +kernel
theorem d_M_goThrough_306 : decode b_M_goThrough 306 = .ok (.ifCond .ne 14, 3) := by decide +kernel
theorem d_M_goThrough_309 : decode b_M_goThrough 309 = .ok (.aload_n 0, 1) := by decide +kernel
theorem d_M_goThrough_310 : decode b_M_goThrough 310 = .ok (.iload_n 3, 1) := by decide +kernel
theorem d_M_goThrough_311 : decode b_M_goThrough 311 = .ok (.invokevirtual 212, 3) := by decide +kernel
theorem d_M_goThrough_314 : decode b_M_goThrough 314 = .ok (.iinc 5 1, 3) := by decide +kernel
theorem d_M_goThrough_317 : decode b_M_goThrough 317 = .ok (.goto (-22), 3) := by decide +kernel
theorem d_M_goThrough_320 : decode b_M_goThrough 320 = .ok (.iinc 2 1, 3) := by decide +kernel
theorem d_M_goThrough_323 : decode b_M_goThrough 323 = .ok (.goto (-314), 3) := by decide +kernel
theorem d_M_goThrough_326 : decode b_M_goThrough 326 = .ok (.return_, 1) := by decide +kernel
abbrev b_M_draw : ByteArray := prog_9_method_31_code
theorem d_M_draw_0 : decode b_M_draw 0 = .ok (.aload_n 0, 1) := by decide +kernel
theorem d_M_draw_1 : decode b_M_draw 1 = .ok (.iload_n 1, 1) := by decide +kernel
theorem d_M_draw_2 : decode b_M_draw 2 = .ok (.iload_n 2, 1) := by decide +kernel
theorem d_M_draw_3 : decode b_M_draw 3 = .ok (.invokestatic 163, 3) := by decide +kernel
theorem d_M_draw_6 : decode b_M_draw 6 = .ok (.ifCond .eq 12, 3) := by decide +kernel
theorem d_M_draw_9 : decode b_M_draw 9 = .ok (.iload_n 3, 1) := by decide +kernel
theorem d_M_draw_10 : decode b_M_draw 10 = .ok (.ifCond .lt 8, 3) := by decide +kernel
theorem d_M_draw_13 : decode b_M_draw 13 = .ok (.iload_n 3, 1) := by decide +kernel
theorem d_M_draw_14 : decode b_M_draw 14 = .ok (.iconst 3, 1) := by decide +kernel
theorem d_M_draw_15 : decode b_M_draw 15 = .ok (.if_icmp .le 7, 3) := by decide +kernel
theorem d_M_draw_18 : decode b_M_draw 18 = .ok (.iconst 1, 1) := by decide +kernel
theorem d_M_draw_19 : decode b_M_draw 19 = .ok (.goto 22, 3) := by decide +kernel
theorem d_M_draw_22 : decode b_M_draw 22 = .ok (.aload_n 0, 1) := by decide +kernel
theorem d_M_draw_23 : decode b_M_draw 23 = .ok (.invokevirtual 152, 3) := by decide +kernel
theorem d_M_draw_26 : decode b_M_draw 26 = .ok (.ifCond .eq 10, 3) := by decide +kernel
theorem d_M_draw_29 : decode b_M_draw 29 = .ok (.aload_n 0, 1) := by decide +kernel
theorem d_M_draw_30 : decode b_M_draw 30 = .ok (.invokevirtual 216, 3) := by decide +kernel
theorem d_M_draw_33 : decode b_M_draw 33 = .ok (.ifCond .ne 7, 3) := by decide +kernel
theorem d_M_draw_36 : decode b_M_draw 36 = .ok (.iconst 2, 1) := by decide +kernel
theorem d_M_draw_37 : decode b_M_draw 37 = .ok (.goto 4, 3) := by decide +kernel
theorem d_M_draw_40 : decode b_M_draw 40 = .ok (.iconst 0, 1) := by decide +kernel
theorem d_M_draw_41 : decode b_M_draw 41 = .ok (.putfield 102, 3) := by decide +kernel
theorem d_M_draw_44 : decode b_M_draw 44 = .ok (.aload_n 0, 1) := by decide +kernel
theorem d_M_draw_45 : decode b_M_draw 45 = .ok (.getfield 102, 3) := by decide +kernel
theorem d_M_draw_48 : decode b_M_draw 48 = .ok (.ifCond .le 5, 3) := by decide +kernel
theorem d_M_draw_51 : decode b_M_draw 51 = .ok (.iconst 0, 1) := by decide +kernel
theorem d_M_draw_52 : decode b_M_draw 52 = .ok (.ireturn, 1) := by decide +kernel
theorem d_M_draw_53 : decode b_M_draw 53 = .ok (.iconst 0, 1) := by decide +kernel
theorem d_M_draw_54 : decode b_M_draw 54 = .ok (.istore 4, 2) := by decide +kernel
theorem d_M_draw_56 : decode b_M_draw 56 = .ok (.iload 4, 2) := by decide +kernel
theorem d_M_draw_58 : decode b_M_draw 58 = .ok (.bipush 24, 2) := by decide +kernel
theorem d_M_draw_60 : decode b_M_draw 60 = .ok (.if_icmp .ge 51, 3) := by decide +kernel
theorem d_M_draw_63 : decode b_M_draw 63 = .ok (.aload_n 0, 1) := by decide +kernel
theorem d_M_draw_64 : decode b_M_draw 64 = .ok (.getfield 68, 3) := by decide +kernel
theorem d_M_draw_67 : decode b_M_draw 67 = .ok (.iload 4, 2) := by decide +kernel
theorem d_M_draw_69 : decode b_M_draw 69 = .ok (.aload_n 0, 1) := by decide +kernel
theorem d_M_draw_70 : decode b_M_draw 70 = .ok (.getfield 7, 3) := by decide +kernel
theorem d_M_draw_73 : decode b_M_draw 73 = .ok (.iload 4, 2) := by decide +kernel
theorem d_M_draw_75 : decode b_M_draw 75 = .ok (.iaload, 1) := by decide +kernel
theorem d_M_draw_76 : decode b_M_draw 76 = .ok (.iastore, 1) := by decide +kernel
theorem d_M_draw_77 : decode b_M_draw 77 = .ok (.aload_n 0, 1) := by decide +kernel
theorem d_M_draw_78 : decode b_M_draw 78 = .ok (.getfield 71, 3) := by decide +kernel
theorem d_M_draw_81 : decode b_M_draw 81 = .ok (.iload 4, 2) := by decide +kernel
theorem d_M_draw_83 : decode b_M_draw 83 = .ok (.aload_n 0, 1) := by decide +kernel
theorem d_M_draw_84 : decode b_M_draw 84 = .ok (.getfield 13, 3) := by decide +kernel
theorem d_M_draw_87 : decode b_M_draw 87 = .ok (.iload 4, 2) := by decide +kernel
theorem d_M_draw_89 : decode b_M_draw 89 = .ok (.iaload, 1) := by decide +kernel
theorem d_M_draw_90 : decode b_M_draw 90 = .ok (.iastore, 1) := by decide +kernel
theorem d_M_draw_91 : decode b_M_draw 91 = .ok (.aload_n 0, 1) := by decide +kernel
theorem d_M_draw_92 : decode b_M_draw 92 = .ok (.getfield 74, 3) := by decide +kernel
theorem d_M_draw_95 : decode b_M_draw 95 = .ok (.iload 4, 2) := by decide +kernel
theorem d_M_draw_97 : decode b_M_draw 97 = .ok (.aload_n 0, 1) := by decide +kernel
theorem d_M_draw_98 : decode b_M_draw 98 = .ok (.getfield 16, 3) := by decide +kernel
theorem d_M_draw_101 : decode b_M_draw 101 = .ok (.iload 4, 2) := by decide +kernel
theorem d_M_draw_103 : decode b_M_draw 103 = .ok (.iaload, 1) := by decide +kernel
theorem d_M_draw_104 : decode b_M_draw 104 = .ok (.iastore, 1) := by decide +kernel
theorem d_M_draw_105 : decode b_M_draw 105 = .ok (.iinc 4 1, 3) := by decide +kernel
theorem d_M_draw_108 : decode b_M_draw 108 = .ok (.goto (-52), 3) := by decide +kernel
theorem d_M_draw_111 : decode b_M_draw 111 = .ok (.aload_n 0, 1) := by decide +kernel
theorem d_M_draw_112 : decode b_M_draw 112 = .ok (.iload_n 1, 1) := by decide +kernel
theorem d_M_draw_113 : decode b_M_draw 113 = .ok (.putfield 167, 3) := by decide +kernel
theorem d_M_draw_116 : decode b_M_draw 116 = .ok (.aload_n 0, 1) := by decide +kernel
theorem d_M_draw_117 : decode b_M_draw 117 = .ok (.iload_n 2, 1) := by decide +kernel
theorem d_M_draw_118 : decode b_M_draw 118 = .ok (.putfield 176, 3) := by decide +kernel
theorem d_M_draw_121 : decode b_M_draw 121 = .ok (.aload_n 0, 1) := by decide +kernel
theorem d_M_draw_122 : decode b_M_draw 122 = .ok (.iload_n 3, 1) := by decide +kernel
theorem d_M_draw_123 : decode b_M_draw 123 = .ok (.putfield 170, 3) := by decide +kernel
theorem d_M_draw_126 : decode b_M_draw 126 = .ok (.aload_n 0, 1) := by decide +kernel
theorem d_M_draw_127 : decode b_M_draw 127 = .ok (.iconst 0, 1) := by decide +kernel
theorem d_M_draw_128 : decode b_M_draw 128 = .ok (.putfield 182, 3) := by decide +kernel
theorem d_M_draw_131 : decode b_M_draw 131 = .ok (.aload_n 0, 1) := by decide +kernel
theorem d_M_draw_132 : decode b_M_draw 132 = .ok (.iconst 0, 1) := by decide +kernel
theorem d_M_draw_133 : decode b_M_draw 133 = .ok (.putfield 156, 3) := by decide +kernel
theorem d_M_draw_136 : decode b_M_draw 136 = .ok (.aload_n 0, 1) := by decide +kernel
theorem d_M_draw_137 : decode b_M_draw 137 = .ok (.iconst 0, 1) := by decide +kernel
theorem d_M_draw_138 : decode b_M_draw 138 = .ok (.putfield 159, 3) := by decide +kernel
theorem d_M_draw_141 : decode b_M_draw 141 = .ok (.aload_n 0, 1) := by decide +kernel
theorem d_M_draw_142 : decode b_M_draw 142 = .ok (.invokevirtual 219, 3) := by decide +kernel
theorem d_M_draw_145 : decode b_M_draw 145 = .ok (.aload_n 0, 1) := by decide +kernel
theorem d_M_draw_146 : decode b_M_draw 146 = .ok (.aload_n 0, 1) := by decide +kernel
theorem d_M_draw_147 : decode b_M_draw 147 = .ok (.getfield 159, 3) := by decide +kernel
theorem d_M_draw_150 : decode b_M_draw 150 = .ok (.ifCond .eq 7, 3) := by decide +kernel
theorem d_M_draw_153 : decode b_M_draw 153 = .ok (.iconst 3, 1) := by decide +kernel
theorem d_M_draw_154 : decode b_M_draw 154 = .ok (.goto 4, 3) := by decide +kernel
theorem d_M_draw_157 : decode b_M_draw 157 = .ok (.iconst 0, 1) := by decide +kernel
theorem d_M_draw_158 : decode b_M_draw 158 = .ok (.putfield 102, 3) := by decide +kernel
theorem d_M_draw_161 : decode b_M_draw 161 = .ok (.aload_n 0, 1) := by decide +kernel
theorem d_M_draw_162 : decode b_M_draw 162 = .ok (.getfield 159, 3) := by decide +kernel
theorem d_M_draw_165 : decode b_M_draw 165 = .ok (.ifCond .eq 5, 3) := by decide +kernel
theorem d_M_draw_168 : decode b_M_draw 168 = .ok (.iconst 0, 1) := by decide +kernel
theorem d_M_draw_169 : decode b_M_draw 169 = .ok (.ireturn, 1) := by decide +kernel
theorem d_M_draw_170 : decode b_M_draw 170 = .ok (.iconst 0, 1) := by decide +kernel
theorem d_M_draw_171 : decode b_M_draw 171 = .ok (.istore 4, 2) := by decide +kernel
theorem d_M_draw_173 : decode b_M_draw 173 = .ok (.iload 4, 2) := by decide +kernel
theorem d_M_draw_175 : decode b_M_draw 175 = .ok (.bipush 24, 2) := by decide +kernel
theorem d_M_draw_177 : decode b_M_draw 177 = .ok (.if_icmp .ge 51, 3) := by decide +kernel
theorem d_M_draw_180 : decode b_M_draw 180 = .ok (.aload_n 0, 1) := by decide +kernel
theorem d_M_draw_181 : decode b_M_draw 181 = .ok (.getfield 7, 3) := by decide +kernel
theorem d_M_draw_184 : decode b_M_draw 184 = .ok (.iload 4, 2) := by decide +kernel
theorem d_M_draw_186 : decode b_M_draw 186 = .ok (.aload_n 0, 1) := by decide +kernel
theorem d_M_draw_187 : decode b_M_draw 187 = .ok (.getfield 68, 3) := by decide +kernel
theorem d_M_draw_190 : decode b_M_draw 190 = .ok (.iload 4, 2) := by decide +kernel
theorem d_M_draw_192 : decode b_M_draw 192 = .ok (.iaload, 1) := by decide +kernel
theorem d_M_draw_193 : decode b_M_draw 193 = .ok (.iastore, 1) := by decide +kernel
theorem d_M_draw_194 : decode b_M_draw 194 = .ok (.aload_n 0, 1) := by decide +kernel
theorem d_M_draw_195 : decode b_M_draw 195 = .ok (.getfield 13, 3) := by decide +kernel
theorem d_M_draw_198 : decode b_M_draw 198 = .ok (.iload 4, 2) := by decide +kernel
theorem d_M_draw_200 : decode b_M_draw 200 = .ok (.aload_n 0, 1) := by decide +kernel
theorem d_M_draw_201 : decode b_M_draw 201 = .ok (.getfield 71, 3) := by decide +kernel
theorem d_M_draw_204 : decode b_M_draw 204 = .ok (.iload 4, 2) := by decide +kernel
theorem d_M_draw_206 : decode b_M_draw 206 = .ok (.iaload, 1) := by decide +kernel
theorem d_M_draw_207 : decode b_M_draw 207 = .ok (.iastore, 1) := by decide +kernel
theorem d_M_draw_208 : decode b_M_draw 208 = .ok (.aload_n 0, 1) := by decide +kernel
theorem d_M_draw_209 : decode b_M_draw 209 = .ok (.getfield 16, 3) := by decide +kernel
theorem d_M_draw_212 : decode b_M_draw 212 = .ok (.iload 4, 2) := by decide +kernel
theorem d_M_draw_214 : decode b_M_draw 214 = .ok (.aload_n 0, 1) := by decide +kernel
theorem d_M_draw_215 : decode b_M_draw 215 = .ok (.getfield 74, 3) := by decide +kernel
theorem d_M_draw_218 : decode b_M_draw 218 = .ok (.iload 4, 2) := by decide +kernel
theorem d_M_draw_220 : decode b_M_draw 220 = .ok (.iaload, 1) := by decide +kernel
theorem d_M_draw_221 : decode b_M_draw 221 = .ok (.iastore, 1) := by decide +kernel
theorem d_M_draw_222 : decode b_M_draw 222 = .ok (.iinc 4 1, 3) := by decide +kernel
theorem d_M_draw_225 : decode b_M_draw 225 = .ok (.goto (-52), 3) := by decide +kernel
theorem d_M_draw_228 : decode b_M_draw 228 = .ok (.aload_n 0, 1) := by decide +kernel
theorem d_M_draw_229 : decode b_M_draw 229 = .ok (.iconst 0, 1) := by decide +kernel
theorem d_M_draw_230 : decode b_M_draw 230 = .ok (.putfield 113, 3) := by decide +kernel
theorem d_M_draw_233 : decode b_M_draw 233 = .ok (.aload_n 0, 1) := by decide +kernel
theorem d_M_draw_234 : decode b_M_draw 234 = .ok (.getfield 62, 3) := by decide +kernel
theorem d_M_draw_237 : decode b_M_draw 237 = .ok (.iconst 4, 1) := by decide +kernel
theorem d_M_draw_238 : decode b_M_draw 238 = .ok (.iconst 0, 1) := by decide +kernel
theorem d_M_draw_239 : decode b_M_draw 239 = .ok (.iastore, 1) := by decide +kernel
theorem d_M_draw_240 : decode b_M_draw 240 = .ok (.aload_n 0, 1) := by decide +kernel
theorem d_M_draw_241 : decode b_M_draw 241 = .ok (.getfield 156, 3) := by decide +kernel
theorem d_M_draw_244 : decode b_M_draw 244 = .ok (.ireturn, 1) := by decide +kernel
abbrev b_M_change : ByteArray := prog_9_method_32_code
theorem d_M_change_0 : decode b_M_change 0 = .ok (.iconst 1, 1) := by decide +kernel
theorem d_M_change_1 : decode b_M_change 1 = .ok (.iload_n 1, 1) := by decide +kernel
theorem d_M_change_2 : decode b_M_change 2 = .ok (.ishl, 1) := by decide +kernel
theorem d_M_change_3 : decode b_M_change 3 = .ok (.istore 4, 2) := by decide +kernel
theorem d_M_change_5 : decode b_M_change 5 = .ok (.aload_n 0, 1) := by decide +kernel
theorem d_M_change_6 : decode b_M_change 6 = .ok (.getfield 7, 3) := by decide +kernel
theorem d_M_change_9 : decode b_M_change 9 = .ok (.iload_n 2, 1) := by decide +kernel
theorem d_M_change_10 : decode b_M_change 10 = .ok (.iload_n 3, 1) := by decide +kernel
theorem d_M_change_11 : decode b_M_change 11 = .ok (.iconst 1, 1) := by decide +kernel
theorem d_M_change_12 : decode b_M_change 12 = .ok (.if_icmp .ne 15, 3) := by decide +kernel
theorem d_M_change_15 : decode b_M_change 15 = .ok (.aload_n 0, 1) := by decide +kernel
theorem d_M_change_16 : decode b_M_change 16 = .ok (.getfield 7, 3) := by decide +kernel
theorem d_M_change_19 : decode b_M_change 19 = .ok (.iload_n 2, 1) := by decide +kernel
theorem d_M_change_20 : decode b_M_change 20 = .ok (.iaload, 1) := by decide +kernel
theorem d_M_change_21 : decode b_M_change 21 = .ok (.iload 4, 2) := by decide +kernel
theorem d_M_change_23 : decode b_M_change 23 = .ok (.ior, 1) := by decide +kernel
theorem d_M_change_24 : decode b_M_change 24 = .ok (.goto 14, 3) := by decide +kernel
theorem d_M_change_27 : decode b_M_change 27 = .ok (.aload_n 0, 1) := by decide +kernel
theorem d_M_change_28 : decode b_M_change 28 = .ok (.getfield 7, 3) := by decide +kernel
theorem d_M_change_31 : decode b_M_change 31 = .ok (.iload_n 2, 1) := by decide +kernel
theorem d_M_change_32 : decode b_M_change 32 = .ok (.iaload, 1) := by decide +kernel
theorem d_M_change_33 : decode b_M_change 33 = .ok (.iload 4, 2) := by decide +kernel
theorem d_M_change_35 : decode b_M_change 35 = .ok (.iconst (-1), 1) := by decide +kernel
theorem d_M_change_36 : decode b_M_change 36 = .ok (.ixor, 1) := by decide +kernel
theorem d_M_change_37 : decode b_M_change 37 = .ok (.iand, 1) := by decide +kernel
theorem d_M_change_38 : decode b_M_change 38 = .ok (.iastore, 1) := by decide +kernel
theorem d_M_change_39 : decode b_M_change 39 = .ok (.aload_n 0, 1) := by decide +kernel
theorem d_M_change_40 : decode b_M_change 40 = .ok (.getfield 13, 3) := by decide +kernel
theorem d_M_change_43 : decode b_M_change 43 = .ok (.iload_n 2, 1) := by decide +kernel
theorem d_M_change_44 : decode b_M_change 44 = .ok (.iload_n 3, 1) := by decide +kernel
theorem d_M_change_45 : decode b_M_change 45 = .ok (.iconst 2, 1) := by decide +kernel
theorem d_M_change_46 : decode b_M_change 46 = .ok (.if_icmp .ne 15, 3) := by decide +kernel
theorem d_M_change_49 : decode b_M_change 49 = .ok (.aload_n 0, 1) := by decide +kernel
theorem d_M_change_50 : decode b_M_change 50 = .ok (.getfield 13, 3) := by decide +kernel
theorem d_M_change_53 : decode b_M_change 53 = .ok (.iload_n 2, 1) := by decide +kernel
theorem d_M_change_54 : decode b_M_change 54 = .ok (.iaload, 1) := by decide +kernel
theorem d_M_change_55 : decode b_M_change 55 = .ok (.iload 4, 2) := by decide +kernel
theorem d_M_change_57 : decode b_M_change 57 = .ok (.ior, 1) := by decide +kernel
theorem d_M_change_58 : decode b_M_change 58 = .ok (.goto 14, 3) := by decide +kernel
theorem d_M_change_61 : decode b_M_change 61 = .ok (.aload_n 0, 1) := by decide +kernel
theorem d_M_change_62 : decode b_M_change 62 = .ok (.getfield 13, 3) := by decide +kernel
theorem d_M_change_65 : decode b_M_change 65 = .ok (.iload_n 2, 1) := by decide +kernel
theorem d_M_change_66 : decode b_M_change 66 = .ok (.iaload, 1) := by decide +kernel
theorem d_M_change_67 : decode b_M_change 67 = .ok (.iload 4, 2) := by decide +kernel
theorem d_M_change_69 : decode b_M_change 69 = .ok (.iconst (-1), 1) := by decide +kernel
theorem d_M_change_70 : decode b_M_change 70 = .ok (.ixor, 1) := by decide +kernel
theorem d_M_change_71 : decode b_M_change 71 = .ok (.iand, 1) := by decide +kernel
theorem d_M_change_72 : decode b_M_change 72 = .ok (.iastore, 1) := by decide +kernel
theorem d_M_change_73 : decode b_M_change 73 = .ok (.aload_n 0, 1) := by decide +kernel
theorem d_M_change_74 : decode b_M_change 74 = .ok (.getfield 16, 3) := by decide +kernel
theorem d_M_change_77 : decode b_M_change 77 = .ok (.iload_n 2, 1) := by decide +kernel
theorem d_M_change_78 : decode b_M_change 78 = .ok (.iload_n 3, 1) := by decide +kernel
theorem d_M_change_79 : decode b_M_change 79 = .ok (.iconst 3, 1) := by decide +kernel
theorem d_M_change_80 : decode b_M_change 80 = .ok (.if_icmp .ne 15, 3) := by decide +kernel
theorem d_M_change_83 : decode b_M_change 83 = .ok (.aload_n 0, 1) := by decide +kernel
theorem d_M_change_84 : decode b_M_change 84 = .ok (.getfield 16, 3) := by decide +kernel
theorem d_M_change_87 : decode b_M_change 87 = .ok (.iload_n 2, 1) := by decide +kernel
theorem d_M_change_88 : decode b_M_change 88 = .ok (.iaload, 1) := by decide +kernel
theorem d_M_change_89 : decode b_M_change 89 = .ok (.iload 4, 2) := by decide +kernel
theorem d_M_change_91 : decode b_M_change 91 = .ok (.ior, 1) := by decide +kernel
theorem d_M_change_92 : decode b_M_change 92 = .ok (.goto 14, 3) := by decide +kernel
theorem d_M_change_95 : decode b_M_change 95 = .ok (.aload_n 0, 1) := by decide +kernel
theorem d_M_change_96 : decode b_M_change 96 = .ok (.getfield 16, 3) := by decide +kernel
theorem d_M_change_99 : decode b_M_change 99 = .ok (.iload_n 2, 1) := by decide +kernel
theorem d_M_change_100 : decode b_M_change 100 = .ok (.iaload, 1) := by decide +kernel
theorem d_M_change_101 : decode b_M_change 101 = .ok (.iload 4, 2) := by decide +kernel
theorem d_M_change_103 : decode b_M_change 103 = .ok (.iconst (-1), 1) := by decide +kernel
theorem d_M_change_104 : decode b_M_change 104 = .ok (.ixor, 1) := by decide +kernel
theorem d_M_change_105 : decode b_M_change 105 = .ok (.iand, 1) := by decide +kernel
theorem d_M_change_106 : decode b_M_change 106 = .ok (.iastore, 1) := by decide +kernel
theorem d_M_change_107 : decode b_M_change 107 = .ok (.return_, 1) := by decide +kernel
abbrev b_M_set : ByteArray := prog_9_method_33_code
theorem d_M_set_0 : decode b_M_set 0 = .ok (.aload_n 0, 1) := by decide +kernel
theorem d_M_set_1 : decode b_M_set 1 = .ok (.iconst 0, 1) := by decide +kernel
theorem d_M_set_2 : decode b_M_set 2 = .ok (.putfield 102, 3) := by decide +kernel
theorem d_M_set_5 : decode b_M_set 5 = .ok (.iload_n 1, 1) := by decide +kernel
theorem d_M_set_6 : decode b_M_set 6 = .ok (.iload_n 2, 1) := by decide +kernel
theorem d_M_set_7 : decode b_M_set 7 = .ok (.invokestatic 163, 3) := by decide +kernel
theorem d_M_set_10 : decode b_M_set 10 = .ok (.ifCond .eq 12, 3) := by decide +kernel
theorem d_M_set_13 : decode b_M_set 13 = .ok (.iload_n 3, 1) := by decide +kernel
theorem d_M_set_14 : decode b_M_set 14 = .ok (.ifCond .lt 8, 3) := by decide +kernel
theorem d_M_set_17 : decode b_M_set 17 = .ok (.iload_n 3, 1) := by decide +kernel
theorem d_M_set_18 : decode b_M_set 18 = .ok (.iconst 3, 1) := by decide +kernel
theorem d_M_set_19 : decode b_M_set 19 = .ok (.if_icmp .le 5, 3) := by decide +kernel
theorem d_M_set_22 : decode b_M_set 22 = .ok (.iconst 0, 1) := by decide +kernel
theorem d_M_set_23 : decode b_M_set 23 = .ok (.ireturn, 1) := by decide +kernel
theorem d_M_set_24 : decode b_M_set 24 = .ok (.aload_n 0, 1) := by decide +kernel
theorem d_M_set_25 : decode b_M_set 25 = .ok (.iload_n 1, 1) := by decide +kernel
theorem d_M_set_26 : decode b_M_set 26 = .ok (.iload_n 2, 1) := by decide +kernel
theorem d_M_set_27 : decode b_M_set 27 = .ok (.iload_n 3, 1) := by decide +kernel
theorem d_M_set_28 : decode b_M_set 28 = .ok (.invokevirtual 222, 3) := by decide +kernel
theorem d_M_set_31 : decode b_M_set 31 = .ok (.aload_n 0, 1) := by decide +kernel
theorem d_M_set_32 : decode b_M_set 32 = .ok (.iconst 0, 1) := by decide +kernel
theorem d_M_set_33 : decode b_M_set 33 = .ok (.putfield 113, 3) := by decide +kernel
theorem d_M_set_36 : decode b_M_set 36 = .ok (.iconst 1, 1) := by decide +kernel
theorem d_M_set_37 : decode b_M_set 37 = .ok (.ireturn, 1) := by decide +kernel
abbrev b_M_cell : ByteArray := prog_9_method_34_code
theorem d_M_cell_0 : decode b_M_cell 0 = .ok (.aload_n 0, 1) := by decide +kernel
theorem d_M_cell_1 : decode b_M_cell 1 = .ok (.iconst 0, 1) := by decide +kernel
theorem d_M_cell_2 : decode b_M_cell 2 = .ok (.putfield 102, 3) := by decide +kernel
theorem d_M_cell_5 : decode b_M_cell 5 = .ok (.iload_n 1, 1) := by decide +kernel
theorem d_M_cell_6 : decode b_M_cell 6 = .ok (.iload_n 2, 1) := by decide +kernel
theorem d_M_cell_7 : decode b_M_cell 7 = .ok (.invokestatic 163, 3) := by decide +kernel
theorem d_M_cell_10 : decode b_M_cell 10 = .ok (.ifCond .eq 42, 3) := by decide +kernel
theorem d_M_cell_13 : decode b_M_cell 13 = .ok (.aload_n 0, 1) := by decide +kernel
theorem d_M_cell_14 : decode b_M_cell 14 = .ok (.getfield 7, 3) := by decide +kernel
theorem d_M_cell_17 : decode b_M_cell 17 = .ok (.iload_n 2, 1) := by decide +kernel
theorem d_M_cell_18 : decode b_M_cell 18 = .ok (.iaload, 1) := by decide +kernel
theorem d_M_cell_19 : decode b_M_cell 19 = .ok (.iload_n 1, 1) := by decide +kernel
theorem d_M_cell_20 : decode b_M_cell 20 = .ok (.invokestatic 131, 3) := by decide +kernel
theorem d_M_cell_23 : decode b_M_cell 23 = .ok (.iconst 2, 1) := by decide +kernel
theorem d_M_cell_24 : decode b_M_cell 24 = .ok (.aload_n 0, 1) := by decide +kernel
theorem d_M_cell_25 : decode b_M_cell 25 = .ok (.getfield 13, 3) := by decide +kernel
theorem d_M_cell_28 : decode b_M_cell 28 = .ok (.iload_n 2, 1) := by decide +kernel
theorem d_M_cell_29 : decode b_M_cell 29 = .ok (.iaload, 1) := by decide +kernel
theorem d_M_cell_30 : decode b_M_cell 30 = .ok (.iload_n 1, 1) := by decide +kernel
theorem d_M_cell_31 : decode b_M_cell 31 = .ok (.invokestatic 131, 3) := by decide +kernel
theorem d_M_cell_34 : decode b_M_cell 34 = .ok (.imul, 1) := by decide +kernel
theorem d_M_cell_35 : decode b_M_cell 35 = .ok (.iadd, 1) := by decide +kernel
theorem d_M_cell_36 : decode b_M_cell 36 = .ok (.iconst 3, 1) := by decide +kernel
theorem d_M_cell_37 : decode b_M_cell 37 = .ok (.aload_n 0, 1) := by decide +kernel
theorem d_M_cell_38 : decode b_M_cell 38 = .ok (.getfield 16, 3) := by decide +kernel
theorem d_M_cell_41 : decode b_M_cell 41 = .ok (.iload_n 2, 1) := by decide +kernel
theorem d_M_cell_42 : decode b_M_cell 42 = .ok (.iaload, 1) := by decide +kernel
theorem d_M_cell_43 : decode b_M_cell 43 = .ok (.iload_n 1, 1) := by decide +kernel
theorem d_M_cell_44 : decode b_M_cell 44 = .ok (.invokestatic 131, 3) := by decide +kernel
theorem d_M_cell_47 : decode b_M_cell 47 = .ok (.imul, 1) := by decide +kernel
theorem d_M_cell_48 : decode b_M_cell 48 = .ok (.iadd, 1) := by decide +kernel
theorem d_M_cell_49 : decode b_M_cell 49 = .ok (.goto 4, 3) := by decide +kernel
theorem d_M_cell_52 : decode b_M_cell 52 = .ok (.iconst (-1), 1) := by decide +kernel
theorem d_M_cell_53 : decode b_M_cell 53 = .ok (.ireturn, 1) := by decide +kernel
abbrev b_M_copy : ByteArray := prog_9_method_35_code
theorem d_M_copy_0 : decode b_M_copy 0 = .ok (.aload_n 0, 1) := by decide +kernel
theorem d_M_copy_1 : decode b_M_copy 1 = .ok (.iconst 0, 1) := by decide +kernel
theorem d_M_copy_2 : decode b_M_copy 2 = .ok (.putfield 102, 3) := by decide +kernel
theorem d_M_copy_5 : decode b_M_copy 5 = .ok (.iload_n 1, 1) := by decide +kernel
theorem d_M_copy_6 : decode b_M_copy 6 = .ok (.iload_n 2, 1) := by decide +kernel
theorem d_M_copy_7 : decode b_M_copy 7 = .ok (.invokestatic 163, 3) := by decide +kernel
theorem d_M_copy_10 : decode b_M_copy 10 = .ok (.ifCond .eq 54, 3) := by decide +kernel
theorem d_M_copy_13 : decode b_M_copy 13 = .ok (.iload_n 3, 1) := by decide +kernel
theorem d_M_copy_14 : decode b_M_copy 14 = .ok (.ifCond .le 50, 3) := by decide +kernel
theorem d_M_copy_17 : decode b_M_copy 17 = .ok (.iload 4, 2) := by decide +kernel
theorem d_M_copy_19 : decode b_M_copy 19 = .ok (.ifCond .le 45, 3) := by decide +kernel
theorem d_M_copy_22 : decode b_M_copy 22 = .ok (.iload_n 3, 1) := by decide +kernel
theorem d_M_copy_23 : decode b_M_copy 23 = .ok (.bipush 32, 2) := by decide +kernel
theorem d_M_copy_25 : decode b_M_copy 25 = .ok (.iload_n 1, 1) := by decide +kernel
theorem d_M_copy_26 : decode b_M_copy 26 = .ok (.isub, 1) := by decide +kernel
theorem d_M_copy_27 : decode b_M_copy 27 = .ok (.if_icmp .gt 37, 3) := by decide +kernel
theorem d_M_copy_30 : decode b_M_copy 30 = .ok (.iload 4, 2) := by decide +kernel
theorem d_M_copy_32 : decode b_M_copy 32 = .ok (.bipush 24, 2) := by decide +kernel
theorem d_M_copy_34 : decode b_M_copy 34 = .ok (.iload_n 2, 1) := by decide +kernel
theorem d_M_copy_35 : decode b_M_copy 35 = .ok (.isub, 1) := by decide +kernel
theorem d_M_copy_36 : decode b_M_copy 36 = .ok (.if_icmp .gt 28, 3) := by decide +kernel
theorem d_M_copy_39 : decode b_M_copy 39 = .ok (.iload 7, 2) := by decide +kernel
theorem d_M_copy_41 : decode b_M_copy 41 = .ok (.ifCond .lt 23, 3) := by decide +kernel
theorem d_M_copy_44 : decode b_M_copy 44 = .ok (.iload 7, 2) := by decide +kernel
theorem d_M_copy_46 : decode b_M_copy 46 = .ok (.iconst 4, 1) := by decide +kernel
theorem d_M_copy_47 : decode b_M_copy 47 = .ok (.if_icmp .ge 17, 3) := by decide +kernel
theorem d_M_copy_50 : decode b_M_copy 50 = .ok (.iload 5, 2) := by decide +kernel
theorem d_M_copy_52 : decode b_M_copy 52 = .ok (.iload 6, 2) := by decide +kernel
theorem d_M_copy_54 : decode b_M_copy 54 = .ok (.invokestatic 163, 3) := by decide +kernel
theorem d_M_copy_57 : decode b_M_copy 57 = .ok (.ifCond .eq 7, 3) := by decide +kernel
theorem d_M_copy_60 : decode b_M_copy 60 = .ok (.iconst 1, 1) := by decide +kernel
theorem d_M_copy_61 : decode b_M_copy 61 = .ok (.goto 4, 3) := by decide +kernel
theorem d_M_copy_64 : decode b_M_copy 64 = .ok (.iconst 0, 1) := by decide +kernel
theorem d_M_copy_65 : decode b_M_copy 65 = .ok (.istore 8, 2) := by decide +kernel
theorem d_M_copy_67 : decode b_M_copy 67 = .ok (.iload 7, 2) := by decide +kernel
theorem d_M_copy_69 : decode b_M_copy 69 = .ok (.iconst 2, 1) := by decide +kernel
theorem d_M_copy_70 : decode b_M_copy 70 = .ok (.irem, 1) := by decide +kernel
theorem d_M_copy_71 : decode b_M_copy 71 = .ok (.ifCond .ne 7, 3) := by decide +kernel
theorem d_M_copy_74 : decode b_M_copy 74 = .ok (.iload_n 3, 1) := by decide +kernel
theorem d_M_copy_75 : decode b_M_copy 75 = .ok (.goto 5, 3) := by decide +kernel
theorem d_M_copy_78 : decode b_M_copy 78 = .ok (.iload 4, 2) := by decide +kernel
theorem d_M_copy_80 : decode b_M_copy 80 = .ok (.istore 9, 2) := by decide +kernel
theorem d_M_copy_82 : decode b_M_copy 82 = .ok (.iload 7, 2) := by decide +kernel
theorem d_M_copy_84 : decode b_M_copy 84 = .ok (.iconst 2, 1) := by decide +kernel
theorem d_M_copy_85 : decode b_M_copy 85 = .ok (.irem, 1) := by decide +kernel
theorem d_M_copy_86 : decode b_M_copy 86 = .ok (.ifCond .ne 8, 3) := by decide +kernel
theorem d_M_copy_89 : decode b_M_copy 89 = .ok (.iload 4, 2) := by decide +kernel
theorem d_M_copy_91 : decode b_M_copy 91 = .ok (.goto 4, 3) := by decide +kernel
theorem d_M_copy_94 : decode b_M_copy 94 = .ok (.iload_n 3, 1) := by decide +kernel
theorem d_M_copy_95 : decode b_M_copy 95 = .ok (.istore 10, 2) := by decide +kernel
theorem d_M_copy_97 : decode b_M_copy 97 = .ok (.iload 8, 2) := by decide +kernel
theorem d_M_copy_99 : decode b_M_copy 99 = .ok (.ifCond .eq 23, 3) := by decide +kernel
theorem d_M_copy_102 : decode b_M_copy 102 = .ok (.iload 9, 2) := by decide +kernel
theorem d_M_copy_104 : decode b_M_copy 104 = .ok (.bipush 32, 2) := by decide +kernel
theorem d_M_copy_106 : decode b_M_copy 106 = .ok (.iload 5, 2) := by decide +kernel
theorem d_M_copy_108 : decode b_M_copy 108 = .ok (.isub, 1) := by decide +kernel
theorem d_M_copy_109 : decode b_M_copy 109 = .ok (.if_icmp .gt 13, 3) := by decide +kernel
theorem d_M_copy_112 : decode b_M_copy 112 = .ok (.iload 10, 2) := by decide +kernel
theorem d_M_copy_114 : decode b_M_copy 114 = .ok (.bipush 24, 2) := by decide +kernel
theorem d_M_copy_116 : decode b_M_copy 116 = .ok (.iload 6, 2) := by decide +kernel
theorem d_M_copy_118 : decode b_M_copy 118 = .ok (.isub, 1) := by decide +kernel
theorem d_M_copy_119 : decode b_M_copy 119 = .ok (.if_icmp .le 5, 3) := by decide +kernel
theorem d_M_copy_122 : decode b_M_copy 122 = .ok (.iconst 0, 1) := by decide +kernel
theorem d_M_copy_123 : decode b_M_copy 123 = .ok (.ireturn, 1) := by decide +kernel
theorem d_M_copy_124 : decode b_M_copy 124 = .ok (.iconst 0, 1) := by decide +kernel
theorem d_M_copy_125 : decode b_M_copy 125 = .ok (.istore 11, 2) := by decide +kernel
theorem d_M_copy_127 : decode b_M_copy 127 = .ok (.iload 11, 2) := by decide +kernel
theorem d_M_copy_129 : decode b_M_copy 129 = .ok (.bipush 24, 2) := by decide +kernel
theorem d_M_copy_131 : decode b_M_copy 131 = .ok (.if_icmp .ge 51, 3) := by decide +kernel
theorem d_M_copy_134 : decode b_M_copy 134 = .ok (.aload_n 0, 1) := by decide +kernel
theorem d_M_copy_135 : decode b_M_copy 135 = .ok (.getfield 68, 3) := by decide +kernel
theorem d_M_copy_138 : decode b_M_copy 138 = .ok (.iload 11, 2) := by decide +kernel
theorem d_M_copy_140 : decode b_M_copy 140 = .ok (.aload_n 0, 1) := by decide +kernel
theorem d_M_copy_141 : decode b_M_copy 141 = .ok (.getfield 7, 3) := by decide +kernel
theorem d_M_copy_144 : decode b_M_copy 144 = .ok (.iload 11, 2) := by decide +kernel
theorem d_M_copy_146 : decode b_M_copy 146 = .ok (.iaload, 1) := by decide +kernel
theorem d_M_copy_147 : decode b_M_copy 147 = .ok (.iastore, 1) := by decide +kernel
theorem d_M_copy_148 : decode b_M_copy 148 = .ok (.aload_n 0, 1) := by decide +kernel
theorem d_M_copy_149 : decode b_M_copy 149 = .ok (.getfield 71, 3) := by decide +kernel
theorem d_M_copy_152 : decode b_M_copy 152 = .ok (.iload 11, 2) := by decide +kernel
theorem d_M_copy_154 : decode b_M_copy 154 = .ok (.aload_n 0, 1) := by decide +kernel
theorem d_M_copy_155 : decode b_M_copy 155 = .ok (.getfield 13, 3) := by decide +kernel
theorem d_M_copy_158 : decode b_M_copy 158 = .ok (.iload 11, 2) := by decide +kernel
theorem d_M_copy_160 : decode b_M_copy 160 = .ok (.iaload, 1) := by decide +kernel
theorem d_M_copy_161 : decode b_M_copy 161 = .ok (.iastore, 1) := by decide +kernel
theorem d_M_copy_162 : decode b_M_copy 162 = .ok (.aload_n 0, 1) := by decide +kernel
theorem d_M_copy_163 : decode b_M_copy 163 = .ok (.getfield 74, 3) := by decide +kernel
theorem d_M_copy_166 : decode b_M_copy 166 = .ok (.iload 11, 2) := by decide +kernel
theorem d_M_copy_168 : decode b_M_copy 168 = .ok (.aload_n 0, 1) := by decide +kernel
theorem d_M_copy_169 : decode b_M_copy 169 = .ok (.getfield 16, 3) := by decide +kernel
theorem d_M_copy_172 : decode b_M_copy 172 = .ok (.iload 11, 2) := by decide +kernel
theorem d_M_copy_174 : decode b_M_copy 174 = .ok (.iaload, 1) := by decide +kernel
theorem d_M_copy_175 : decode b_M_copy 175 = .ok (.iastore, 1) := by decide +kernel
theorem d_M_copy_176 : decode b_M_copy 176 = .ok (.iinc 11 1, 3) := by decide +kernel
theorem d_M_copy_179 : decode b_M_copy 179 = .ok (.goto (-52), 3) := by decide +kernel
theorem d_M_copy_182 : decode b_M_copy 182 = .ok (.iconst 0, 1) := by decide +kernel
theorem d_M_copy_183 : decode b_M_copy 183 = .ok (.istore 11, 2) := by decide +kernel
theorem d_M_copy_185 : decode b_M_copy 185 = .ok (.iload 11, 2) := by decide +kernel
theorem d_M_copy_187 : decode b_M_copy 187 = .ok (.iload 10, 2) := by decide +kernel
theorem d_M_copy_189 : decode b_M_copy 189 = .ok (.if_icmp .ge 192, 3) := by decide +kernel
theorem d_M_copy_192 : decode b_M_copy 192 = .ok (.iconst 0, 1) := by decide +kernel
theorem d_M_copy_193 : decode b_M_copy 193 = .ok (.istore 12, 2) := by decide +kernel
theorem d_M_copy_195 : decode b_M_copy 195 = .ok (.iload 12, 2) := by decide +kernel
theorem d_M_copy_197 : decode b_M_copy 197 = .ok (.iload 9, 2) := by decide +kernel
theorem d_M_copy_199 : decode b_M_copy 199 = .ok (.if_icmp .ge 176, 3) := by decide +kernel
theorem d_M_copy_202 : decode b_M_copy 202 = .ok (.iload 7, 2) := by decide +kernel
theorem d_M_copy_204 : decode b_M_copy 204 = .ok (.ifCond .ne 8, 3) := by decide +kernel
theorem d_M_copy_207 : decode b_M_copy 207 = .ok (.iload 12, 2) := by decide +kernel
theorem d_M_copy_209 : decode b_M_copy 209 = .ok (.goto 35, 3) := by decide +kernel
theorem d_M_copy_212 : decode b_M_copy 212 = .ok (.iload 7, 2) := by decide +kernel
theorem d_M_copy_214 : decode b_M_copy 214 = .ok (.iconst 1, 1) := by decide +kernel
theorem d_M_copy_215 : decode b_M_copy 215 = .ok (.if_icmp .ne 8, 3) := by decide +kernel
theorem d_M_copy_218 : decode b_M_copy 218 = .ok (.iload 11, 2) := by decide +kernel
theorem d_M_copy_220 : decode b_M_copy 220 = .ok (.goto 24, 3) := by decide +kernel
theorem d_M_copy_223 : decode b_M_copy 223 = .ok (.iload 7, 2) := by decide +kernel
theorem d_M_copy_225 : decode b_M_copy 225 = .ok (.iconst 2, 1) := by decide +kernel
theorem d_M_copy_226 : decode b_M_copy 226 = .ok (.if_icmp .ne 12, 3) := by decide +kernel
theorem d_M_copy_229 : decode b_M_copy 229 = .ok (.iload_n 3, 1) := by decide +kernel
theorem d_M_copy_230 : decode b_M_copy 230 = .ok (.iconst 1, 1) := by decide +kernel
theorem d_M_copy_231 : decode b_M_copy 231 = .ok (.isub, 1) := by decide +kernel
theorem d_M_copy_232 : decode b_M_copy 232 = .ok (.iload 12, 2) := by decide +kernel
theorem d_M_copy_234 : decode b_M_copy 234 = .ok (.isub, 1) := by decide +kernel
theorem d_M_copy_235 : decode b_M_copy 235 = .ok (.goto 9, 3) := by decide +kernel
theorem d_M_copy_238 : decode b_M_copy 238 = .ok (.iload_n 3, 1) := by decide +kernel
theorem d_M_copy_239 : decode b_M_copy 239 = .ok (.iconst 1, 1) := by decide +kernel
theorem d_M_copy_240 : decode b_M_copy 240 = .ok (.isub, 1) := by decide +kernel
theorem d_M_copy_241 : decode b_M_copy 241 = .ok (.iload 11, 2) := by decide +kernel
theorem d_M_copy_243 : decode b_M_copy 243 = .ok (.isub, 1) := by decide +kernel
theorem d_M_copy_244 : decode b_M_copy 244 = .ok (.istore 13, 2) := by decide +kernel
theorem d_M_copy_246 : decode b_M_copy 246 = .ok (.iload 7, 2) := by decide +kernel
theorem d_M_copy_248 : decode b_M_copy 248 = .ok (.ifCond .ne 8, 3) := by decide +kernel
theorem d_M_copy_251 : decode b_M_copy 251 = .ok (.iload 11, 2) := by decide +kernel
theorem d_M_copy_253 : decode b_M_copy 253 = .ok (.goto 37, 3) := by decide +kernel
theorem d_M_copy_256 : decode b_M_copy 256 = .ok (.iload 7, 2) := by decide +kernel
theorem d_M_copy_258 : decode b_M_copy 258 = .ok (.iconst 1, 1) := by decide +kernel
theorem d_M_copy_259 : decode b_M_copy 259 = .ok (.if_icmp .ne 13, 3) := by decide +kernel
theorem d_M_copy_262 : decode b_M_copy 262 = .ok (.iload 4, 2) := by decide +kernel
theorem d_M_copy_264 : decode b_M_copy 264 = .ok (.iconst 1, 1) := by decide +kernel
theorem d_M_copy_265 : decode b_M_copy 265 = .ok (.isub, 1) := by decide +kernel
theorem d_M_copy_266 : decode b_M_copy 266 = .ok (.iload 12, 2) := by decide +kernel
theorem d_M_copy_268 : decode b_M_copy 268 = .ok (.isub, 1) := by decide +kernel
theorem d_M_copy_269 : decode b_M_copy 269 = .ok (.goto 21, 3) := by decide +kernel
theorem d_M_copy_272 : decode b_M_copy 272 = .ok (.iload 7, 2) := by decide +kernel
theorem d_M_copy_274 : decode b_M_copy 274 = .ok (.iconst 2, 1) := by decide +kernel
theorem d_M_copy_275 : decode b_M_copy 275 = .ok (.if_icmp .ne 13, 3) := by decide +kernel
theorem d_M_copy_278 : decode b_M_copy 278 = .ok (.iload 4, 2) := by decide +kernel
theorem d_M_copy_280 : decode b_M_copy 280 = .ok (.iconst 1, 1) := by decide +kernel
theorem d_M_copy_281 : decode b_M_copy 281 = .ok (.isub, 1) := by decide +kernel
theorem d_M_copy_282 : decode b_M_copy 282 = .ok (.iload 11, 2) := by decide +kernel
theorem d_M_copy_284 : decode b_M_copy 284 = .ok (.isub, 1) := by decide +kernel
theorem d_M_copy_285 : decode b_M_copy 285 = .ok (.goto 5, 3) := by decide +kernel
theorem d_M_copy_288 : decode b_M_copy 288 = .ok (.iload 12, 2) := by decide +kernel
theorem d_M_copy_290 : decode b_M_copy 290 = .ok (.istore 14, 2) := by decide +kernel
theorem d_M_copy_292 : decode b_M_copy 292 = .ok (.iload_n 1, 1) := by decide +kernel
theorem d_M_copy_293 : decode b_M_copy 293 = .ok (.iload 13, 2) := by decide +kernel
theorem d_M_copy_295 : decode b_M_copy 295 = .ok (.iadd, 1) := by decide +kernel
theorem d_M_copy_296 : decode b_M_copy 296 = .ok (.istore 15, 2) := by decide +kernel
theorem d_M_copy_298 : decode b_M_copy 298 = .ok (.iload_n 2, 1) := by decide +kernel
theorem d_M_copy_299 : decode b_M_copy 299 = .ok (.iload 14, 2) := by decide +kernel
theorem d_M_copy_301 : decode b_M_copy 301 = .ok (.iadd, 1) := by decide +kernel
theorem d_M_copy_302 : decode b_M_copy 302 = .ok (.istore 16, 2) := by decide +kernel
theorem d_M_copy_304 : decode b_M_copy 304 = .ok (.aload_n 0, 1) := by decide +kernel
theorem d_M_copy_305 : decode b_M_copy 305 = .ok (.getfield 68, 3) := by decide +kernel
theorem d_M_copy_308 : decode b_M_copy 308 = .ok (.iload 16, 2) := by decide +kernel
theorem d_M_copy_310 : decode b_M_copy 310 = .ok (.iaload, 1) := by decide +kernel
theorem d_M_copy_311 : decode b_M_copy 311 = .ok (.iload 15, 2) := by decide +kernel
theorem d_M_copy_313 : decode b_M_copy 313 = .ok (.invokestatic 131, 3) := by decide +kernel
theorem d_M_copy_316 : decode b_M_copy 316 = .ok (.iconst 2, 1) := by decide +kernel
theorem d_M_copy_317 : decode b_M_copy 317 = .ok (.aload_n 0, 1) := by decide +kernel
theorem d_M_copy_318 : decode b_M_copy 318 = .ok (.getfield 71, 3) := by decide +kernel
theorem d_M_copy_321 : decode b_M_copy 321 = .ok (.iload 16, 2) := by decide +kernel
theorem d_M_copy_323 : decode b_M_copy 323 = .ok (.iaload, 1) := by decide +kernel
theorem d_M_copy_324 : decode b_M_copy 324 = .ok (.iload 15, 2) := by decide +kernel
theorem d_M_copy_326 : decode b_M_copy 326 = .ok (.invokestatic 131, 3) := by decide +kernel
theorem d_M_copy_329 : decode b_M_copy 329 = .ok (.imul, 1) := by decide +kernel
theorem d_M_copy_330 : decode b_M_copy 330 = .ok (.iadd, 1) := by decide +kernel
theorem d_M_copy_331 : decode b_M_copy 331 = .ok (.iconst 3, 1) := by decide +kernel
theorem d_M_copy_332 : decode b_M_copy 332 = .ok (.aload_n 0, 1) := by decide +kernel
theorem d_M_copy_333 : decode b_M_copy 333 = .ok (.getfield 74, 3) := by decide +kernel
theorem d_M_copy_336 : decode b_M_copy 336 = .ok (.iload 16, 2) := by decide +kernel
theorem d_M_copy_338 : decode b_M_copy 338 = .ok (.iaload, 1) := by decide +kernel
theorem d_M_copy_339 : decode b_M_copy 339 = .ok (.iload 15, 2) := by decide +kernel
theorem d_M_copy_341 : decode b_M_copy 341 = .ok (.invokestatic 131, 3) := by decide +kernel
theorem d_M_copy_344 : decode b_M_copy 344 = .ok (.imul, 1) := by decide +kernel
theorem d_M_copy_345 : decode b_M_copy 345 = .ok (.iadd, 1) := by decide +kernel
theorem d_M_copy_346 : decode b_M_copy 346 = .ok (.istore 17, 2) := by decide +kernel
theorem d_M_copy_348 : decode b_M_copy 348 = .ok (.iload 17, 2) := by decide +kernel
theorem d_M_copy_350 : decode b_M_copy 350 = .ok (.ifCond .le 19, 3) := by decide +kernel
theorem d_M_copy_353 : decode b_M_copy 353 = .ok (.aload_n 0, 1) := by decide +kernel
theorem d_M_copy_354 : decode b_M_copy 354 = .ok (.iload 5, 2) := by decide +kernel
theorem d_M_copy_356 : decode b_M_copy 356 = .ok (.iload 12, 2) := by decide +kernel
theorem d_M_copy_358 : decode b_M_copy 358 = .ok (.iadd, 1) := by decide +kernel
theorem d_M_copy_359 : decode b_M_copy 359 = .ok (.iload 6, 2) := by decide +kernel
theorem d_M_copy_361 : decode b_M_copy 361 = .ok (.iload 11, 2) := by decide +kernel
theorem d_M_copy_363 : decode b_M_copy 363 = .ok (.iadd, 1) := by decide +kernel
theorem d_M_copy_364 : decode b_M_copy 364 = .ok (.iload 17, 2) := by decide +kernel
theorem d_M_copy_366 : decode b_M_copy 366 = .ok (.invokevirtual 222, 3) := by decide +kernel
theorem d_M_copy_369 : decode b_M_copy 369 = .ok (.iinc 12 1, 3) := by decide +kernel
theorem d_M_copy_372 : decode b_M_copy 372 = .ok (.goto (-177), 3) := by decide +kernel
theorem d_M_copy_375 : decode b_M_copy 375 = .ok (.iinc 11 1, 3) := by decide +kernel
theorem d_M_copy_378 : decode b_M_copy 378 = .ok (.goto (-193), 3) := by decide +kernel
theorem d_M_copy_381 : decode b_M_copy 381 = .ok (.aload_n 0, 1) := by decide +kernel
theorem d_M_copy_382 : decode b_M_copy 382 = .ok (.iconst 0, 1) := by decide +kernel
theorem d_M_copy_383 : decode b_M_copy 383 = .ok (.putfield 113, 3) := by decide +kernel
theorem d_M_copy_386 : decode b_M_copy 386 = .ok (.iconst 1, 1) := by decide +kernel
theorem d_M_copy_387 : decode b_M_copy 387 = .ok (.ireturn, 1) := by decide +kernel
abbrev b_M_source : ByteArray := prog_9_method_36_code
theorem d_M_source_0 : decode b_M_source 0 = .ok (.aload_n 0, 1) := by decide +kernel
theorem d_M_source_1 : decode b_M_source 1 = .ok (.iconst 0, 1) := by decide +kernel
theorem d_M_source_2 : decode b_M_source 2 = .ok (.putfield 102, 3) := by decide +kernel
theorem d_M_source_5 : decode b_M_source 5 = .ok (.iload_n 1, 1) := by decide +kernel
theorem d_M_source_6 : decode b_M_source 6 = .ok (.iload_n 2, 1) := by decide +kernel
theorem d_M_source_7 : decode b_M_source 7 = .ok (.invokestatic 163, 3) := by decide +kernel
theorem d_M_source_10 : decode b_M_source 10 = .ok (.ifCond .eq 24, 3) := by decide +kernel
theorem d_M_source_13 : decode b_M_source 13 = .ok (.iload 5, 2) := by decide +kernel
theorem d_M_source_15 : decode b_M_source 15 = .ok (.iconst 1, 1) := by decide +kernel
theorem d_M_source_16 : decode b_M_source 16 = .ok (.if_icmp .lt 18, 3) := by decide +kernel
theorem d_M_source_19 : decode b_M_source 19 = .ok (.iload 5, 2) := by decide +kernel
theorem d_M_source_21 : decode b_M_source 21 = .ok (.bipush 64, 2) := by decide +kernel
theorem d_M_source_23 : decode b_M_source 23 = .ok (.if_icmp .gt 11, 3) := by decide +kernel
theorem d_M_source_26 : decode b_M_source 26 = .ok (.aload_n 0, 1) := by decide +kernel
theorem d_M_source_27 : decode b_M_source 27 = .ok (.getfield 119, 3) := by decide +kernel
theorem d_M_source_30 : decode b_M_source 30 = .ok (.iconst 4, 1) := by decide +kernel
theorem d_M_source_31 : decode b_M_source 31 = .ok (.if_icmp .ne 5, 3) := by decide +kernel
theorem d_M_source_34 : decode b_M_source 34 = .ok (.iconst (-1), 1) := by decide +kernel
theorem d_M_source_35 : decode b_M_source 35 = .ok (.ireturn, 1) := by decide +kernel
theorem d_M_source_36 : decode b_M_source 36 = .ok (.aload_n 0, 1) := by decide +kernel
theorem d_M_source_37 : decode b_M_source 37 = .ok (.getfield 28, 3) := by decide +kernel
theorem d_M_source_40 : decode b_M_source 40 = .ok (.aload_n 0, 1) := by decide +kernel
theorem d_M_source_41 : decode b_M_source 41 = .ok (.getfield 119, 3) := by decide +kernel
theorem d_M_source_44 : decode b_M_source 44 = .ok (.iload_n 1, 1) := by decide +kernel
theorem d_M_source_45 : decode b_M_source 45 = .ok (.iastore, 1) := by decide +kernel
theorem d_M_source_46 : decode b_M_source 46 = .ok (.aload_n 0, 1) := by decide +kernel
theorem d_M_source_47 : decode b_M_source 47 = .ok (.getfield 31, 3) := by decide +kernel
theorem d_M_source_50 : decode b_M_source 50 = .ok (.aload_n 0, 1) := by decide +kernel
theorem d_M_source_51 : decode b_M_source 51 = .ok (.getfield 119, 3) := by decide +kernel
theorem d_M_source_54 : decode b_M_source 54 = .ok (.iload_n 2, 1) := by decide +kernel
theorem d_M_source_55 : decode b_M_source 55 = .ok (.iastore, 1) := by decide +kernel
theorem d_M_source_56 : decode b_M_source 56 = .ok (.aload_n 0, 1) := by decide +kernel
theorem d_M_source_57 : decode b_M_source 57 = .ok (.getfield 34, 3) := by decide +kernel
theorem d_M_source_60 : decode b_M_source 60 = .ok (.aload_n 0, 1) := by decide +kernel
theorem d_M_source_61 : decode b_M_source 61 = .ok (.getfield 119, 3) := by decide +kernel
theorem d_M_source_64 : decode b_M_source 64 = .ok (.lload_n 3, 1) := by decide +kernel
theorem d_M_source_65 : decode b_M_source 65 = .ok (.lastore, 1) := by decide +kernel
theorem d_M_source_66 : decode b_M_source 66 = .ok (.aload_n 0, 1) := by decide +kernel
theorem d_M_source_67 : decode b_M_source 67 = .ok (.getfield 38, 3) := by decide +kernel
theorem d_M_source_70 : decode b_M_source 70 = .ok (.aload_n 0, 1) := by decide +kernel
theorem d_M_source_71 : decode b_M_source 71 = .ok (.getfield 119, 3) := by decide +kernel
theorem d_M_source_74 : decode b_M_source 74 = .ok (.iload 5, 2) := by decide +kernel
theorem d_M_source_76 : decode b_M_source 76 = .ok (.iastore, 1) := by decide +kernel
theorem d_M_source_77 : decode b_M_source 77 = .ok (.aload_n 0, 1) := by decide +kernel
theorem d_M_source_78 : decode b_M_source 78 = .ok (.dup, 1) := by decide +kernel
theorem d_M_source_79 : decode b_M_source 79 = .ok (.getfield 119, 3) := by decide +kernel
theorem d_M_source_82 : decode b_M_source 82 = .ok (.iconst 1, 1) := by decide +kernel
theorem d_M_source_83 : decode b_M_source 83 = .ok (.iadd, 1) := by decide +kernel
theorem d_M_source_84 : decode b_M_source 84 = .ok (.putfield 119, 3) := by decide +kernel
theorem d_M_source_87 : decode b_M_source 87 = .ok (.aload_n 0, 1) := by decide +kernel
theorem d_M_source_88 : decode b_M_source 88 = .ok (.getfield 119, 3) := by decide +kernel
theorem d_M_source_91 : decode b_M_source 91 = .ok (.iconst 1, 1) := by decide +kernel
theorem d_M_source_92 : decode b_M_source 92 = .ok (.isub, 1) := by decide +kernel
theorem d_M_source_93 : decode b_M_source 93 = .ok (.ireturn, 1) := by decide +kernel
abbrev b_M_probe : ByteArray := prog_9_method_37_code
theorem d_M_probe_0 : decode b_M_probe 0 = .ok (.aload_n 0, 1) := by decide +kernel
theorem d_M_probe_1 : decode b_M_probe 1 = .ok (.iconst 0, 1) := by decide +kernel
theorem d_M_probe_2 : decode b_M_probe 2 = .ok (.putfield 102, 3) := by decide +kernel
theorem d_M_probe_5 : decode b_M_probe 5 = .ok (.iload_n 1, 1) := by decide +kernel
theorem d_M_probe_6 : decode b_M_probe 6 = .ok (.iload_n 2, 1) := by decide +kernel
theorem d_M_probe_7 : decode b_M_probe 7 = .ok (.invokestatic 163, 3) := by decide +kernel
theorem d_M_probe_10 : decode b_M_probe 10 = .ok (.ifCond .eq 11, 3) := by decide +kernel
theorem d_M_probe_13 : decode b_M_probe 13 = .ok (.aload_n 0, 1) := by decide +kernel
theorem d_M_probe_14 : decode b_M_probe 14 = .ok (.getfield 128, 3) := by decide +kernel
theorem d_M_probe_17 : decode b_M_probe 17 = .ok (.iconst 4, 1) := by decide +kernel
theorem d_M_probe_18 : decode b_M_probe 18 = .ok (.if_icmp .ne 5, 3) := by decide +kernel
theorem d_M_probe_21 : decode b_M_probe 21 = .ok (.iconst (-1), 1) := by decide +kernel
theorem d_M_probe_22 : decode b_M_probe 22 = .ok (.ireturn, 1) := by decide +kernel
theorem d_M_probe_23 : decode b_M_probe 23 = .ok (.aload_n 0, 1) := by decide +kernel
theorem d_M_probe_24 : decode b_M_probe 24 = .ok (.getfield 44, 3) := by decide +kernel
theorem d_M_probe_27 : decode b_M_probe 27 = .ok (.aload_n 0, 1) := by decide +kernel
theorem d_M_probe_28 : decode b_M_probe 28 = .ok (.getfield 128, 3) := by decide +kernel
theorem d_M_probe_31 : decode b_M_probe 31 = .ok (.iload_n 1, 1) := by decide +kernel
theorem d_M_probe_32 : decode b_M_probe 32 = .ok (.iastore, 1) := by decide +kernel
theorem d_M_probe_33 : decode b_M_probe 33 = .ok (.aload_n 0, 1) := by decide +kernel
theorem d_M_probe_34 : decode b_M_probe 34 = .ok (.getfield 47, 3) := by decide +kernel
theorem d_M_probe_37 : decode b_M_probe 37 = .ok (.aload_n 0, 1) := by decide +kernel
theorem d_M_probe_38 : decode b_M_probe 38 = .ok (.getfield 128, 3) := by decide +kernel
theorem d_M_probe_41 : decode b_M_probe 41 = .ok (.iload_n 2, 1) := by decide +kernel
theorem d_M_probe_42 : decode b_M_probe 42 = .ok (.iastore, 1) := by decide +kernel
theorem d_M_probe_43 : decode b_M_probe 43 = .ok (.aload_n 0, 1) := by decide +kernel
theorem d_M_probe_44 : decode b_M_probe 44 = .ok (.getfield 53, 3) := by decide +kernel
theorem d_M_probe_47 : decode b_M_probe 47 = .ok (.aload_n 0, 1) := by decide +kernel
theorem d_M_probe_48 : decode b_M_probe 48 = .ok (.getfield 128, 3) := by decide +kernel
theorem d_M_probe_51 : decode b_M_probe 51 = .ok (.iconst (-1), 1) := by decide +kernel
theorem d_M_probe_52 : decode b_M_probe 52 = .ok (.iastore, 1) := by decide +kernel
theorem d_M_probe_53 : decode b_M_probe 53 = .ok (.aload_n 0, 1) := by decide +kernel
theorem d_M_probe_54 : decode b_M_probe 54 = .ok (.dup, 1) := by decide +kernel
theorem d_M_probe_55 : decode b_M_probe 55 = .ok (.getfield 128, 3) := by decide +kernel
theorem d_M_probe_58 : decode b_M_probe 58 = .ok (.iconst 1, 1) := by decide +kernel
theorem d_M_probe_59 : decode b_M_probe 59 = .ok (.iadd, 1) := by decide +kernel
theorem d_M_probe_60 : decode b_M_probe 60 = .ok (.putfield 128, 3) := by decide +kernel
theorem d_M_probe_63 : decode b_M_probe 63 = .ok (.aload_n 0, 1) := by decide +kernel
theorem d_M_probe_64 : decode b_M_probe 64 = .ok (.getfield 128, 3) := by decide +kernel
theorem d_M_probe_67 : decode b_M_probe 67 = .ok (.iconst 1, 1) := by decide +kernel
theorem d_M_probe_68 : decode b_M_probe 68 = .ok (.isub, 1) := by decide +kernel
theorem d_M_probe_69 : decode b_M_probe 69 = .ok (.ireturn, 1) := by decide +kernel
abbrev b_M_seen : ByteArray := prog_9_method_38_code
theorem d_M_seen_0 : decode b_M_seen 0 = .ok (.aload_n 0, 1) := by decide +kernel
theorem d_M_seen_1 : decode b_M_seen 1 = .ok (.iload_n 1, 1) := by decide +kernel
theorem d_M_seen_2 : decode b_M_seen 2 = .ok (.ifCond .lt 20, 3) := by decide +kernel
theorem d_M_seen_5 : decode b_M_seen 5 = .ok (.iload_n 1, 1) := by decide +kernel
theorem d_M_seen_6 : decode b_M_seen 6 = .ok (.aload_n 0, 1) := by decide +kernel
theorem d_M_seen_7 : decode b_M_seen 7 = .ok (.getfield 128, 3) := by decide +kernel
theorem d_M_seen_10 : decode b_M_seen 10 = .ok (.if_icmp .ge 12, 3) := by decide +kernel
theorem d_M_seen_13 : decode b_M_seen 13 = .ok (.iload_n 2, 1) := by decide +kernel
theorem d_M_seen_14 : decode b_M_seen 14 = .ok (.ifCond .lt 8, 3) := by decide +kernel
theorem d_M_seen_17 : decode b_M_seen 17 = .ok (.iload_n 2, 1) := by decide +kernel
theorem d_M_seen_18 : decode b_M_seen 18 = .ok (.iconst 1, 1) := by decide +kernel
theorem d_M_seen_19 : decode b_M_seen 19 = .ok (.if_icmp .le 7, 3) := by decide +kernel
theorem d_M_seen_22 : decode b_M_seen 22 = .ok (.iconst 1, 1) := by decide +kernel
theorem d_M_seen_23 : decode b_M_seen 23 = .ok (.goto 4, 3) := by decide +kernel
theorem d_M_seen_26 : decode b_M_seen 26 = .ok (.iconst 0, 1) := by decide +kernel
theorem d_M_seen_27 : decode b_M_seen 27 = .ok (.putfield 102, 3) := by decide +kernel
theorem d_M_seen_30 : decode b_M_seen 30 = .ok (.aload_n 0, 1) := by decide +kernel
theorem d_M_seen_31 : decode b_M_seen 31 = .ok (.getfield 102, 3) := by decide +kernel
theorem d_M_seen_34 : decode b_M_seen 34 = .ok (.ifCond .le 7, 3) := by decide +kernel
theorem d_M_seen_37 : decode b_M_seen 37 = .ok (.iconst 0, 1) := by decide +kernel
theorem d_M_seen_38 : decode b_M_seen 38 = .ok (.goto 22, 3) := by decide +kernel
theorem d_M_seen_41 : decode b_M_seen 41 = .ok (.iload_n 2, 1) := by decide +kernel
theorem d_M_seen_42 : decode b_M_seen 42 = .ok (.ifCond .ne 12, 3) := by decide +kernel
theorem d_M_seen_45 : decode b_M_seen 45 = .ok (.aload_n 0, 1) := by decide +kernel
theorem d_M_seen_46 : decode b_M_seen 46 = .ok (.getfield 50, 3) := by decide +kernel
theorem d_M_seen_49 : decode b_M_seen 49 = .ok (.iload_n 1, 1) := by decide +kernel
theorem d_M_seen_50 : decode b_M_seen 50 = .ok (.iaload, 1) := by decide +kernel
theorem d_M_seen_51 : decode b_M_seen 51 = .ok (.goto 9, 3) := by decide +kernel
theorem d_M_seen_54 : decode b_M_seen 54 = .ok (.aload_n 0, 1) := by decide +kernel
theorem d_M_seen_55 : decode b_M_seen 55 = .ok (.getfield 53, 3) := by decide +kernel
theorem d_M_seen_58 : decode b_M_seen 58 = .ok (.iload_n 1, 1) := by decide +kernel
theorem d_M_seen_59 : decode b_M_seen 59 = .ok (.iaload, 1) := by decide +kernel
theorem d_M_seen_60 : decode b_M_seen 60 = .ok (.ireturn, 1) := by decide +kernel
abbrev b_M_record : ByteArray := prog_9_method_39_code
theorem d_M_record_0 : decode b_M_record 0 = .ok (.aload_n 0, 1) := by decide +kernel
theorem d_M_record_1 : decode b_M_record 1 = .ok (.iconst 0, 1) := by decide +kernel
theorem d_M_record_2 : decode b_M_record 2 = .ok (.putfield 102, 3) := by decide +kernel
theorem d_M_record_5 : decode b_M_record 5 = .ok (.iload_n 1, 1) := by decide +kernel
theorem d_M_record_6 : decode b_M_record 6 = .ok (.ifCond .lt 11, 3) := by decide +kernel
theorem d_M_record_9 : decode b_M_record 9 = .ok (.iload_n 1, 1) := by decide +kernel
theorem d_M_record_10 : decode b_M_record 10 = .ok (.aload_n 0, 1) := by decide +kernel
theorem d_M_record_11 : decode b_M_record 11 = .ok (.getfield 128, 3) := by decide +kernel
theorem d_M_record_14 : decode b_M_record 14 = .ok (.if_icmp .lt 7, 3) := by decide +kernel
theorem d_M_record_17 : decode b_M_record 17 = .ok (.lconst 0, 1) := by decide +kernel
theorem d_M_record_18 : decode b_M_record 18 = .ok (.goto 9, 3) := by decide +kernel
theorem d_M_record_21 : decode b_M_record 21 = .ok (.aload_n 0, 1) := by decide +kernel
theorem d_M_record_22 : decode b_M_record 22 = .ok (.getfield 56, 3) := by decide +kernel
theorem d_M_record_25 : decode b_M_record 25 = .ok (.iload_n 1, 1) := by decide +kernel
theorem d_M_record_26 : decode b_M_record 26 = .ok (.laload, 1) := by decide +kernel
theorem d_M_record_27 : decode b_M_record 27 = .ok (.lreturn, 1) := by decide +kernel
abbrev b_M_count : ByteArray := prog_9_method_40_code
theorem d_M_count_0 : decode b_M_count 0 = .ok (.iconst 0, 1) := by decide +kernel
theorem d_M_count_1 : decode b_M_count 1 = .ok (.istore_n 2, 1) := by decide +kernel
theorem d_M_count_2 : decode b_M_count 2 = .ok (.iconst 0, 1) := by decide +kernel
theorem d_M_count_3 : decode b_M_count 3 = .ok (.istore_n 3, 1) := by decide +kernel
theorem d_M_count_4 : decode b_M_count 4 = .ok (.iload_n 3, 1) := by decide +kernel
theorem d_M_count_5 : decode b_M_count 5 = .ok (.sipush 768, 3) := by decide +kernel
theorem d_M_count_8 : decode b_M_count 8 = .ok (.if_icmp .ge 66, 3) := by decide +kernel
theorem d_M_count_11 : decode b_M_count 11 = .ok (.iload_n 1, 1) := by decide +kernel
theorem d_M_count_12 : decode b_M_count 12 = .ok (.iconst 1, 1) := by decide +kernel
theorem d_M_count_13 : decode b_M_count 13 = .ok (.if_icmp .ne 15, 3) := by decide +kernel
theorem d_M_count_16 : decode b_M_count 16 = .ok (.aload_n 0, 1) := by decide +kernel
theorem d_M_count_17 : decode b_M_count 17 = .ok (.getfield 7, 3) := by decide +kernel
theorem d_M_count_20 : decode b_M_count 20 = .ok (.iload_n 3, 1) := by decide +kernel
theorem d_M_count_21 : decode b_M_count 21 = .ok (.bipush 32, 2) := by decide +kernel
theorem d_M_count_23 : decode b_M_count 23 = .ok (.idiv, 1) := by decide +kernel
theorem d_M_count_24 : decode b_M_count 24 = .ok (.iaload, 1) := by decide +kernel
theorem d_M_count_25 : decode b_M_count 25 = .ok (.goto 29, 3) := by decide +kernel
theorem d_M_count_28 : decode b_M_count 28 = .ok (.iload_n 1, 1) := by decide +kernel
theorem d_M_count_29 : decode b_M_count 29 = .ok (.iconst 2, 1) := by decide +kernel
theorem d_M_count_30 : decode b_M_count 30 = .ok (.if_icmp .ne 15, 3) := by decide +kernel
theorem d_M_count_33 : decode b_M_count 33 = .ok (.aload_n 0, 1) := by decide +kernel
theorem d_M_count_34 : decode b_M_count 34 = .ok (.getfield 13, 3) := by decide +kernel
theorem d_M_count_37 : decode b_M_count 37 = .ok (.iload_n 3, 1) := by decide +kernel
theorem d_M_count_38 : decode b_M_count 38 = .ok (.bipush 32, 2) := by decide +kernel
theorem d_M_count_40 : decode b_M_count 40 = .ok (.idiv, 1) := by decide +kernel
theorem d_M_count_41 : decode b_M_count 41 = .ok (.iaload, 1) := by decide +kernel
theorem d_M_count_42 : decode b_M_count 42 = .ok (.goto 12, 3) := by decide +kernel
theorem d_M_count_45 : decode b_M_count 45 = .ok (.aload_n 0, 1) := by decide +kernel
theorem d_M_count_46 : decode b_M_count 46 = .ok (.getfield 16, 3) := by decide +kernel
theorem d_M_count_49 : decode b_M_count 49 = .ok (.iload_n 3, 1) := by decide +kernel
theorem d_M_count_50 : decode b_M_count 50 = .ok (.bipush 32, 2) := by decide +kernel
theorem d_M_count_52 : decode b_M_count 52 = .ok (.idiv, 1) := by decide +kernel
theorem d_M_count_53 : decode b_M_count 53 = .ok (.iaload, 1) := by decide +kernel
theorem d_M_count_54 : decode b_M_count 54 = .ok (.istore 4, 2) := by decide +kernel
theorem d_M_count_56 : decode b_M_count 56 = .ok (.iload_n 2, 1) := by decide +kernel
theorem d_M_count_57 : decode b_M_count 57 = .ok (.iload 4, 2) := by decide +kernel
theorem d_M_count_59 : decode b_M_count 59 = .ok (.iload_n 3, 1) := by decide +kernel
theorem d_M_count_60 : decode b_M_count 60 = .ok (.bipush 32, 2) := by decide +kernel
theorem d_M_count_62 : decode b_M_count 62 = .ok (.irem, 1) := by decide +kernel
theorem d_M_count_63 : decode b_M_count 63 = .ok (.invokestatic 131, 3) := by decide +kernel
theorem d_M_count_66 : decode b_M_count 66 = .ok (.iadd, 1) := by decide +kernel
theorem d_M_count_67 : decode b_M_count 67 = .ok (.istore_n 2, 1) := by decide +kernel
theorem d_M_count_68 : decode b_M_count 68 = .ok (.iinc 3 1, 3) := by decide +kernel
theorem d_M_count_71 : decode b_M_count 71 = .ok (.goto (-67), 3) := by decide +kernel
theorem d_M_count_74 : decode b_M_count 74 = .ok (.iload_n 2, 1) := by decide +kernel
theorem d_M_count_75 : decode b_M_count 75 = .ok (.ireturn, 1) := by decide +kernel
abbrev b_M_look : ByteArray := prog_9_method_41_code
theorem d_M_look_0 : decode b_M_look 0 = .ok (.aload_n 0, 1) := by decide +kernel
theorem d_M_look_1 : decode b_M_look 1 = .ok (.iconst 0, 1) := by decide +kernel
theorem d_M_look_2 : decode b_M_look 2 = .ok (.putfield 102, 3) := by decide +kernel
theorem d_M_look_5 : decode b_M_look 5 = .ok (.iload_n 1, 1) := by decide +kernel
theorem d_M_look_6 : decode b_M_look 6 = .ok (.iconst 4, 1) := by decide +kernel
theorem d_M_look_7 : decode b_M_look 7 = .ok (.if_icmp .ge 28, 3) := by decide +kernel
theorem d_M_look_10 : decode b_M_look 10 = .ok (.iload_n 1, 1) := by decide +kernel
theorem d_M_look_11 : decode b_M_look 11 = .ok (.ifCond .ne 10, 3) := by decide +kernel
theorem d_M_look_14 : decode b_M_look 14 = .ok (.aload_n 0, 1) := by decide +kernel
theorem d_M_look_15 : decode b_M_look 15 = .ok (.getfield 125, 3) := by decide +kernel
theorem d_M_look_18 : decode b_M_look 18 = .ok (.goto 16, 3) := by decide +kernel
theorem d_M_look_21 : decode b_M_look 21 = .ok (.iload_n 1, 1) := by decide +kernel
theorem d_M_look_22 : decode b_M_look 22 = .ok (.ifCond .le 11, 3) := by decide +kernel
theorem d_M_look_25 : decode b_M_look 25 = .ok (.aload_n 0, 1) := by decide +kernel
theorem d_M_look_26 : decode b_M_look 26 = .ok (.iload_n 1, 1) := by decide +kernel
theorem d_M_look_27 : decode b_M_look 27 = .ok (.invokevirtual 140, 3) := by decide +kernel
theorem d_M_look_30 : decode b_M_look 30 = .ok (.goto 4, 3) := by decide +kernel
theorem d_M_look_33 : decode b_M_look 33 = .ok (.iconst (-1), 1) := by decide +kernel
theorem d_M_look_34 : decode b_M_look 34 = .ok (.ireturn, 1) := by decide +kernel
theorem d_M_look_35 : decode b_M_look 35 = .ok (.iload_n 1, 1) := by decide +kernel
theorem d_M_look_36 : decode b_M_look 36 = .ok (.iconst 4, 1) := by decide +kernel
theorem d_M_look_37 : decode b_M_look 37 = .ok (.if_icmp .ne 10, 3) := by decide +kernel
theorem d_M_look_40 : decode b_M_look 40 = .ok (.aload_n 0, 1) := by decide +kernel
theorem d_M_look_41 : decode b_M_look 41 = .ok (.getfield 113, 3) := by decide +kernel
theorem d_M_look_44 : decode b_M_look 44 = .ok (.goto 44, 3) := by decide +kernel
theorem d_M_look_47 : decode b_M_look 47 = .ok (.iload_n 1, 1) := by decide +kernel
theorem d_M_look_48 : decode b_M_look 48 = .ok (.iconst 5, 1) := by decide +kernel
theorem d_M_look_49 : decode b_M_look 49 = .ok (.if_icmp .ne 10, 3) := by decide +kernel
theorem d_M_look_52 : decode b_M_look 52 = .ok (.aload_n 0, 1) := by decide +kernel
theorem d_M_look_53 : decode b_M_look 53 = .ok (.getfield 119, 3) := by decide +kernel
theorem d_M_look_56 : decode b_M_look 56 = .ok (.goto 32, 3) := by decide +kernel
theorem d_M_look_59 : decode b_M_look 59 = .ok (.iload_n 1, 1) := by decide +kernel
theorem d_M_look_60 : decode b_M_look 60 = .ok (.bipush 6, 2) := by decide +kernel
theorem d_M_look_62 : decode b_M_look 62 = .ok (.if_icmp .ne 10, 3) := by decide +kernel
theorem d_M_look_65 : decode b_M_look 65 = .ok (.aload_n 0, 1) := by decide +kernel
theorem d_M_look_66 : decode b_M_look 66 = .ok (.getfield 128, 3) := by decide +kernel
theorem d_M_look_69 : decode b_M_look 69 = .ok (.goto 19, 3) := by decide +kernel
theorem d_M_look_72 : decode b_M_look 72 = .ok (.iload_n 1, 1) := by decide +kernel
theorem d_M_look_73 : decode b_M_look 73 = .ok (.bipush 7, 2) := by decide +kernel
theorem d_M_look_75 : decode b_M_look 75 = .ok (.if_icmp .ne 12, 3) := by decide +kernel
theorem d_M_look_78 : decode b_M_look 78 = .ok (.aload_n 0, 1) := by decide +kernel
theorem d_M_look_79 : decode b_M_look 79 = .ok (.getfield 62, 3) := by decide +kernel
theorem d_M_look_82 : decode b_M_look 82 = .ok (.iconst 4, 1) := by decide +kernel
theorem d_M_look_83 : decode b_M_look 83 = .ok (.iaload, 1) := by decide +kernel
theorem d_M_look_84 : decode b_M_look 84 = .ok (.goto 4, 3) := by decide +kernel
theorem d_M_look_87 : decode b_M_look 87 = .ok (.iconst (-1), 1) := by decide +kernel
theorem d_M_look_88 : decode b_M_look 88 = .ok (.ireturn, 1) := by decide +kernel
