abbrev b_WF_init : ByteArray := prog_1_method_1_code
theorem d_WF_init_0 : decode b_WF_init 0 = .ok (.aload_n 0, 1) := by decide +kernel
theorem d_WF_init_1 : decode b_WF_init 1 = .ok (.invokespecial 3, 3) := by decide +kernel
theorem d_WF_init_4 : decode b_WF_init 4 = .ok (.aload_n 0, 1) := by decide +kernel
theorem d_WF_init_5 : decode b_WF_init 5 = .ok (.new 9, 3) := by decide +kernel
theorem d_WF_init_8 : decode b_WF_init 8 = .ok (.dup, 1) := by decide +kernel
theorem d_WF_init_9 : decode b_WF_init 9 = .ok (.invokespecial 11, 3) := by decide +kernel
theorem d_WF_init_12 : decode b_WF_init 12 = .ok (.putfield 12, 3) := by decide +kernel
theorem d_WF_init_15 : decode b_WF_init 15 = .ok (.aload_n 0, 1) := by decide +kernel
theorem d_WF_init_16 : decode b_WF_init 16 = .ok (.new 9, 3) := by decide +kernel
theorem d_WF_init_19 : decode b_WF_init 19 = .ok (.dup, 1) := by decide +kernel
theorem d_WF_init_20 : decode b_WF_init 20 = .ok (.invokespecial 11, 3) := by decide +kernel
theorem d_WF_init_23 : decode b_WF_init 23 = .ok (.putfield 16, 3) := by decide +kernel
theorem d_WF_init_26 : decode b_WF_init 26 = .ok (.aload_n 0, 1) := by decide +kernel
theorem d_WF_init_27 : decode b_WF_init 27 = .ok (.new 19, 3) := by decide +kernel
theorem d_WF_init_30 : decode b_WF_init 30 = .ok (.dup, 1) := by decide +kernel
theorem d_WF_init_31 : decode b_WF_init 31 = .ok (.invokespecial 21, 3) := by decide +kernel
theorem d_WF_init_34 : decode b_WF_init 34 = .ok (.putfield 22, 3) := by decide +kernel
theorem d_WF_init_37 : decode b_WF_init 37 = .ok (.aload_n 0, 1) := by decide +kernel
theorem d_WF_init_38 : decode b_WF_init 38 = .ok (.new 26, 3) := by decide +kernel
theorem d_WF_init_41 : decode b_WF_init 41 = .ok (.dup, 1) := by decide +kernel
theorem d_WF_init_42 : decode b_WF_init 42 = .ok (.invokespecial 28, 3) := by decide +kernel
theorem d_WF_init_45 : decode b_WF_init 45 = .ok (.putfield 29, 3) := by decide +kernel
theorem d_WF_init_48 : decode b_WF_init 48 = .ok (.aload_n 0, 1) := by decide +kernel
theorem d_WF_init_49 : decode b_WF_init 49 = .ok (.iconst 4, 1) := by decide +kernel
theorem d_WF_init_50 : decode b_WF_init 50 = .ok (.anewarray 26, 3) := by decide +kernel
theorem d_WF_init_53 : decode b_WF_init 53 = .ok (.putfield 33, 3) := by decide +kernel
theorem d_WF_init_56 : decode b_WF_init 56 = .ok (.aload_n 0, 1) := by decide +kernel
theorem d_WF_init_57 : decode b_WF_init 57 = .ok (.iconst 4, 1) := by decide +kernel
theorem d_WF_init_58 : decode b_WF_init 58 = .ok (.newarray .boolean, 2) := by decide +kernel
theorem d_WF_init_60 : decode b_WF_init 60 = .ok (.putfield 37, 3) := by decide +kernel
theorem d_WF_init_63 : decode b_WF_init 63 = .ok (.aload_n 0, 1) := by decide +kernel
theorem d_WF_init_64 : decode b_WF_init 64 = .ok (.iconst 4, 1) := by decide +kernel
theorem d_WF_init_65 : decode b_WF_init 65 = .ok (.anewarray 41, 3) := by decide +kernel
theorem d_WF_init_68 : decode b_WF_init 68 = .ok (.putfield 43, 3) := by decide +kernel
theorem d_WF_init_71 : decode b_WF_init 71 = .ok (.aload_n 0, 1) := by decide +kernel
theorem d_WF_init_72 : decode b_WF_init 72 = .ok (.iconst 0, 1) := by decide +kernel
theorem d_WF_init_73 : decode b_WF_init 73 = .ok (.putfield 47, 3) := by decide +kernel
theorem d_WF_init_76 : decode b_WF_init 76 = .ok (.aload_n 0, 1) := by decide +kernel
theorem d_WF_init_77 : decode b_WF_init 77 = .ok (.iconst 4, 1) := by decide +kernel
theorem d_WF_init_78 : decode b_WF_init 78 = .ok (.anewarray 51, 3) := by decide +kernel
theorem d_WF_init_81 : decode b_WF_init 81 = .ok (.putfield 53, 3) := by decide +kernel
theorem d_WF_init_84 : decode b_WF_init 84 = .ok (.aload_n 0, 1) := by decide +kernel
theorem d_WF_init_85 : decode b_WF_init 85 = .ok (.iconst 0, 1) := by decide +kernel
theorem d_WF_init_86 : decode b_WF_init 86 = .ok (.putfield 57, 3) := by decide +kernel
theorem d_WF_init_89 : decode b_WF_init 89 = .ok (.aload_n 0, 1) := by decide +kernel
theorem d_WF_init_90 : decode b_WF_init 90 = .ok (.bipush 16, 2) := by decide +kernel
theorem d_WF_init_92 : decode b_WF_init 92 = .ok (.anewarray 60, 3) := by decide +kernel
theorem d_WF_init_95 : decode b_WF_init 95 = .ok (.putfield 62, 3) := by decide +kernel
theorem d_WF_init_98 : decode b_WF_init 98 = .ok (.aload_n 0, 1) := by decide +kernel
theorem d_WF_init_99 : decode b_WF_init 99 = .ok (.iconst 0, 1) := by decide +kernel
theorem d_WF_init_100 : decode b_WF_init 100 = .ok (.putfield 66, 3) := by decide +kernel
theorem d_WF_init_103 : decode b_WF_init 103 = .ok (.aload_n 0, 1) := by decide +kernel
theorem d_WF_init_104 : decode b_WF_init 104 = .ok (.iconst 0, 1) := by decide +kernel
theorem d_WF_init_105 : decode b_WF_init 105 = .ok (.putfield 69, 3) := by decide +kernel
theorem d_WF_init_108 : decode b_WF_init 108 = .ok (.iconst 0, 1) := by decide +kernel
theorem d_WF_init_109 : decode b_WF_init 109 = .ok (.istore_n 1, 1) := by decide +kernel
theorem d_WF_init_110 : decode b_WF_init 110 = .ok (.iload_n 1, 1) := by decide +kernel
theorem d_WF_init_111 : decode b_WF_init 111 = .ok (.iconst 4, 1) := by decide +kernel
theorem d_WF_init_112 : decode b_WF_init 112 = .ok (.if_icmp .ge 22, 3) := by decide +kernel
theorem d_WF_init_115 : decode b_WF_init 115 = .ok (.aload_n 0, 1) := by decide +kernel
theorem d_WF_init_116 : decode b_WF_init 116 = .ok (.getfield 33, 3) := by decide +kernel
theorem d_WF_init_119 : decode b_WF_init 119 = .ok (.iload_n 1, 1) := by decide +kernel
theorem d_WF_init_120 : decode b_WF_init 120 = .ok (.new 26, 3) := by decide +kernel
theorem d_WF_init_123 : decode b_WF_init 123 = .ok (.dup, 1) := by decide +kernel
theorem d_WF_init_124 : decode b_WF_init 124 = .ok (.invokespecial 28, 3) := by decide +kernel
theorem d_WF_init_127 : decode b_WF_init 127 = .ok (.aastore, 1) := by decide +kernel
theorem d_WF_init_128 : decode b_WF_init 128 = .ok (.iinc 1 1, 3) := by decide +kernel
theorem d_WF_init_131 : decode b_WF_init 131 = .ok (.goto (-21), 3) := by decide +kernel
theorem d_WF_init_134 : decode b_WF_init 134 = .ok (.iconst 0, 1) := by decide +kernel
theorem d_WF_init_135 : decode b_WF_init 135 = .ok (.istore_n 1, 1) := by decide +kernel
theorem d_WF_init_136 : decode b_WF_init 136 = .ok (.iload_n 1, 1) := by decide +kernel
theorem d_WF_init_137 : decode b_WF_init 137 = .ok (.iconst 4, 1) := by decide +kernel
theorem d_WF_init_138 : decode b_WF_init 138 = .ok (.if_icmp .ge 22, 3) := by decide +kernel
theorem d_WF_init_141 : decode b_WF_init 141 = .ok (.aload_n 0, 1) := by decide +kernel
theorem d_WF_init_142 : decode b_WF_init 142 = .ok (.getfield 43, 3) := by decide +kernel
theorem d_WF_init_145 : decode b_WF_init 145 = .ok (.iload_n 1, 1) := by decide +kernel
theorem d_WF_init_146 : decode b_WF_init 146 = .ok (.new 41, 3) := by decide +kernel
theorem d_WF_init_149 : decode b_WF_init 149 = .ok (.dup, 1) := by decide +kernel
theorem d_WF_init_150 : decode b_WF_init 150 = .ok (.invokespecial 72, 3) := by decide +kernel
theorem d_WF_init_153 : decode b_WF_init 153 = .ok (.aastore, 1) := by decide +kernel
theorem d_WF_init_154 : decode b_WF_init 154 = .ok (.iinc 1 1, 3) := by decide +kernel
theorem d_WF_init_157 : decode b_WF_init 157 = .ok (.goto (-21), 3) := by decide +kernel
theorem d_WF_init_160 : decode b_WF_init 160 = .ok (.iconst 0, 1) := by decide +kernel
theorem d_WF_init_161 : decode b_WF_init 161 = .ok (.istore_n 1, 1) := by decide +kernel
theorem d_WF_init_162 : decode b_WF_init 162 = .ok (.iload_n 1, 1) := by decide +kernel
theorem d_WF_init_163 : decode b_WF_init 163 = .ok (.iconst 4, 1) := by decide +kernel
theorem d_WF_init_164 : decode b_WF_init 164 = .ok (.if_icmp .ge 22, 3) := by decide +kernel
theorem d_WF_init_167 : decode b_WF_init 167 = .ok (.aload_n 0, 1) := by decide +kernel
theorem d_WF_init_168 : decode b_WF_init 168 = .ok (.getfield 53, 3) := by decide +kernel
theorem d_WF_init_171 : decode b_WF_init 171 = .ok (.iload_n 1, 1) := by decide +kernel
theorem d_WF_init_172 : decode b_WF_init 172 = .ok (.new 51, 3) := by decide +kernel
theorem d_WF_init_175 : decode b_WF_init 175 = .ok (.dup, 1) := by decide +kernel
theorem d_WF_init_176 : decode b_WF_init 176 = .ok (.invokespecial 73, 3) := by decide +kernel
theorem d_WF_init_179 : decode b_WF_init 179 = .ok (.aastore, 1) := by decide +kernel
theorem d_WF_init_180 : decode b_WF_init 180 = .ok (.iinc 1 1, 3) := by decide +kernel
theorem d_WF_init_183 : decode b_WF_init 183 = .ok (.goto (-21), 3) := by decide +kernel
theorem d_WF_init_186 : decode b_WF_init 186 = .ok (.iconst 0, 1) := by decide +kernel
theorem d_WF_init_187 : decode b_WF_init 187 = .ok (.istore_n 1, 1) := by decide +kernel
theorem d_WF_init_188 : decode b_WF_init 188 = .ok (.iload_n 1, 1) := by decide +kernel
theorem d_WF_init_189 : decode b_WF_init 189 = .ok (.bipush 16, 2) := by decide +kernel
theorem d_WF_init_191 : decode b_WF_init 191 = .ok (.if_icmp .ge 22, 3) := by decide +kernel
theorem d_WF_init_194 : decode b_WF_init 194 = .ok (.aload_n 0, 1) := by decide +kernel
theorem d_WF_init_195 : decode b_WF_init 195 = .ok (.getfield 62, 3) := by decide +kernel
theorem d_WF_init_198 : decode b_WF_init 198 = .ok (.iload_n 1, 1) := by decide +kernel
theorem d_WF_init_199 : decode b_WF_init 199 = .ok (.new 60, 3) := by decide +kernel
theorem d_WF_init_202 : decode b_WF_init 202 = .ok (.dup, 1) := by decide +kernel
theorem d_WF_init_203 : decode b_WF_init 203 = .ok (.invokespecial 74, 3) := by decide +kernel
theorem d_WF_init_206 : decode b_WF_init 206 = .ok (.aastore, 1) := by decide +kernel
theorem d_WF_init_207 : decode b_WF_init 207 = .ok (.iinc 1 1, 3) := by decide +kernel
theorem d_WF_init_210 : decode b_WF_init 210 = .ok (.goto (-22), 3) := by decide +kernel
theorem d_WF_init_213 : decode b_WF_init 213 = .ok (.return_, 1) := by decide +kernel
abbrev b_WF_type : ByteArray := prog_1_method_2_code
theorem d_WF_type_0 : decode b_WF_type 0 = .ok (.aload_n 0, 1) := by decide +kernel
theorem d_WF_type_1 : decode b_WF_type 1 = .ok (.getfield 29, 3) := by decide +kernel
theorem d_WF_type_4 : decode b_WF_type 4 = .ok (.iload_n 1, 1) := by decide +kernel
theorem d_WF_type_5 : decode b_WF_type 5 = .ok (.invokevirtual 75, 3) := by decide +kernel
theorem d_WF_type_8 : decode b_WF_type 8 = .ok (.ireturn, 1) := by decide +kernel
abbrev b_WF_draw : ByteArray := prog_1_method_3_code
theorem d_WF_draw_0 : decode b_WF_draw 0 = .ok (.iload_n 1, 1) := by decide +kernel
theorem d_WF_draw_1 : decode b_WF_draw 1 = .ok (.iload_n 2, 1) := by decide +kernel
theorem d_WF_draw_2 : decode b_WF_draw 2 = .ok (.invokestatic 79, 3) := by decide +kernel
theorem d_WF_draw_5 : decode b_WF_draw 5 = .ok (.ifCond .eq 12, 3) := by decide +kernel
theorem d_WF_draw_8 : decode b_WF_draw 8 = .ok (.iload_n 3, 1) := by decide +kernel
theorem d_WF_draw_9 : decode b_WF_draw 9 = .ok (.ifCond .lt 8, 3) := by decide +kernel
theorem d_WF_draw_12 : decode b_WF_draw 12 = .ok (.iload_n 3, 1) := by decide +kernel
theorem d_WF_draw_13 : decode b_WF_draw 13 = .ok (.iconst 4, 1) := by decide +kernel
theorem d_WF_draw_14 : decode b_WF_draw 14 = .ok (.if_icmp .lt 13, 3) := by decide +kernel
theorem d_WF_draw_17 : decode b_WF_draw 17 = .ok (.new 83, 3) := by decide +kernel
theorem d_WF_draw_20 : decode b_WF_draw 20 = .ok (.dup, 1) := by decide +kernel
theorem d_WF_draw_21 : decode b_WF_draw 21 = .ok (.ldc 85, 2) := by decide +kernel
theorem d_WF_draw_23 : decode b_WF_draw 23 = .ok (.invokespecial 87, 3) := by decide +kernel
theorem d_WF_draw_26 : decode b_WF_draw 26 = .ok (.athrow, 1) := by decide +kernel
theorem d_WF_draw_27 : decode b_WF_draw 27 = .ok (.aload_n 0, 1) := by decide +kernel
theorem d_WF_draw_28 : decode b_WF_draw 28 = .ok (.getfield 29, 3) := by decide +kernel
theorem d_WF_draw_31 : decode b_WF_draw 31 = .ok (.iconst 4, 1) := by decide +kernel
theorem d_WF_draw_32 : decode b_WF_draw 32 = .ok (.invokevirtual 90, 3) := by decide +kernel
theorem d_WF_draw_35 : decode b_WF_draw 35 = .ok (.ifCond .eq 10, 3) := by decide +kernel
theorem d_WF_draw_38 : decode b_WF_draw 38 = .ok (.aload_n 0, 1) := by decide +kernel
theorem d_WF_draw_39 : decode b_WF_draw 39 = .ok (.invokevirtual 94, 3) := by decide +kernel
theorem d_WF_draw_42 : decode b_WF_draw 42 = .ok (.ifCond .ne 13, 3) := by decide +kernel
theorem d_WF_draw_45 : decode b_WF_draw 45 = .ok (.new 98, 3) := by decide +kernel
theorem d_WF_draw_48 : decode b_WF_draw 48 = .ok (.dup, 1) := by decide +kernel
theorem d_WF_draw_49 : decode b_WF_draw 49 = .ok (.ldc 100, 2) := by decide +kernel
theorem d_WF_draw_51 : decode b_WF_draw 51 = .ok (.invokespecial 102, 3) := by decide +kernel
theorem d_WF_draw_54 : decode b_WF_draw 54 = .ok (.athrow, 1) := by decide +kernel
theorem d_WF_draw_55 : decode b_WF_draw 55 = .ok (.aload_n 0, 1) := by decide +kernel
theorem d_WF_draw_56 : decode b_WF_draw 56 = .ok (.getfield 22, 3) := by decide +kernel
theorem d_WF_draw_59 : decode b_WF_draw 59 = .ok (.aload_n 0, 1) := by decide +kernel
theorem d_WF_draw_60 : decode b_WF_draw 60 = .ok (.getfield 12, 3) := by decide +kernel
theorem d_WF_draw_63 : decode b_WF_draw 63 = .ok (.iload_n 1, 1) := by decide +kernel
theorem d_WF_draw_64 : decode b_WF_draw 64 = .ok (.iload_n 2, 1) := by decide +kernel
theorem d_WF_draw_65 : decode b_WF_draw 65 = .ok (.iload_n 3, 1) := by decide +kernel
theorem d_WF_draw_66 : decode b_WF_draw 66 = .ok (.invokevirtual 103, 3) := by decide +kernel
theorem d_WF_draw_69 : decode b_WF_draw 69 = .ok (.aload_n 0, 1) := by decide +kernel
theorem d_WF_draw_70 : decode b_WF_draw 70 = .ok (.aload_n 0, 1) := by decide +kernel
theorem d_WF_draw_71 : decode b_WF_draw 71 = .ok (.getfield 29, 3) := by decide +kernel
theorem d_WF_draw_74 : decode b_WF_draw 74 = .ok (.iconst 0, 1) := by decide +kernel
theorem d_WF_draw_75 : decode b_WF_draw 75 = .ok (.aload_n 0, 1) := by decide +kernel
theorem d_WF_draw_76 : decode b_WF_draw 76 = .ok (.getfield 29, 3) := by decide +kernel
theorem d_WF_draw_79 : decode b_WF_draw 79 = .ok (.getfield 107, 3) := by decide +kernel
theorem d_WF_draw_82 : decode b_WF_draw 82 = .ok (.iconst 1, 1) := by decide +kernel
theorem d_WF_draw_83 : decode b_WF_draw 83 = .ok (.invokevirtual 110, 3) := by decide +kernel
theorem d_WF_draw_86 : decode b_WF_draw 86 = .ok (.ifCond .ne 13, 3) := by decide +kernel
theorem d_WF_draw_89 : decode b_WF_draw 89 = .ok (.new 114, 3) := by decide +kernel
theorem d_WF_draw_92 : decode b_WF_draw 92 = .ok (.dup, 1) := by decide +kernel
theorem d_WF_draw_93 : decode b_WF_draw 93 = .ok (.ldc 116, 2) := by decide +kernel
theorem d_WF_draw_95 : decode b_WF_draw 95 = .ok (.invokespecial 118, 3) := by decide +kernel
theorem d_WF_draw_98 : decode b_WF_draw 98 = .ok (.athrow, 1) := by decide +kernel
theorem d_WF_draw_99 : decode b_WF_draw 99 = .ok (.aload_n 0, 1) := by decide +kernel
theorem d_WF_draw_100 : decode b_WF_draw 100 = .ok (.getfield 12, 3) := by decide +kernel
theorem d_WF_draw_103 : decode b_WF_draw 103 = .ok (.aload_n 0, 1) := by decide +kernel
theorem d_WF_draw_104 : decode b_WF_draw 104 = .ok (.getfield 22, 3) := by decide +kernel
theorem d_WF_draw_107 : decode b_WF_draw 107 = .ok (.getfield 119, 3) := by decide +kernel
theorem d_WF_draw_110 : decode b_WF_draw 110 = .ok (.invokevirtual 122, 3) := by decide +kernel
theorem d_WF_draw_113 : decode b_WF_draw 113 = .ok (.aload_n 0, 1) := by decide +kernel
theorem d_WF_draw_114 : decode b_WF_draw 114 = .ok (.getfield 29, 3) := by decide +kernel
theorem d_WF_draw_117 : decode b_WF_draw 117 = .ok (.invokevirtual 126, 3) := by decide +kernel
theorem d_WF_draw_120 : decode b_WF_draw 120 = .ok (.aload_n 0, 1) := by decide +kernel
theorem d_WF_draw_121 : decode b_WF_draw 121 = .ok (.invokevirtual 129, 3) := by decide +kernel
theorem d_WF_draw_124 : decode b_WF_draw 124 = .ok (.aload_n 0, 1) := by decide +kernel
theorem d_WF_draw_125 : decode b_WF_draw 125 = .ok (.getfield 22, 3) := by decide +kernel
theorem d_WF_draw_128 : decode b_WF_draw 128 = .ok (.getfield 132, 3) := by decide +kernel
theorem d_WF_draw_131 : decode b_WF_draw 131 = .ok (.ireturn, 1) := by decide +kernel
abbrev b_WF_macro : ByteArray := prog_1_method_4_code
theorem d_WF_macro_0 : decode b_WF_macro 0 = .ok (.iload_n 1, 1) := by decide +kernel
theorem d_WF_macro_1 : decode b_WF_macro 1 = .ok (.ifCond .lt 8, 3) := by decide +kernel
theorem d_WF_macro_4 : decode b_WF_macro 4 = .ok (.iload_n 1, 1) := by decide +kernel
theorem d_WF_macro_5 : decode b_WF_macro 5 = .ok (.iconst 4, 1) := by decide +kernel
theorem d_WF_macro_6 : decode b_WF_macro 6 = .ok (.if_icmp .lt 13, 3) := by decide +kernel
theorem d_WF_macro_9 : decode b_WF_macro 9 = .ok (.new 83, 3) := by decide +kernel
theorem d_WF_macro_12 : decode b_WF_macro 12 = .ok (.dup, 1) := by decide +kernel
theorem d_WF_macro_13 : decode b_WF_macro 13 = .ok (.ldc 135, 2) := by decide +kernel
theorem d_WF_macro_15 : decode b_WF_macro 15 = .ok (.invokespecial 87, 3) := by decide +kernel
theorem d_WF_macro_18 : decode b_WF_macro 18 = .ok (.athrow, 1) := by decide +kernel
theorem d_WF_macro_19 : decode b_WF_macro 19 = .ok (.aload_n 0, 1) := by decide +kernel
theorem d_WF_macro_20 : decode b_WF_macro 20 = .ok (.getfield 29, 3) := by decide +kernel
theorem d_WF_macro_23 : decode b_WF_macro 23 = .ok (.iload_n 1, 1) := by decide +kernel
theorem d_WF_macro_24 : decode b_WF_macro 24 = .ok (.invokevirtual 90, 3) := by decide +kernel
theorem d_WF_macro_27 : decode b_WF_macro 27 = .ok (.ifCond .ne 13, 3) := by decide +kernel
theorem d_WF_macro_30 : decode b_WF_macro 30 = .ok (.new 98, 3) := by decide +kernel
theorem d_WF_macro_33 : decode b_WF_macro 33 = .ok (.dup, 1) := by decide +kernel
theorem d_WF_macro_34 : decode b_WF_macro 34 = .ok (.ldc 137, 2) := by decide +kernel
theorem d_WF_macro_36 : decode b_WF_macro 36 = .ok (.invokespecial 102, 3) := by decide +kernel
theorem d_WF_macro_39 : decode b_WF_macro 39 = .ok (.athrow, 1) := by decide +kernel
theorem d_WF_macro_40 : decode b_WF_macro 40 = .ok (.aload_n 0, 1) := by decide +kernel
theorem d_WF_macro_41 : decode b_WF_macro 41 = .ok (.getfield 33, 3) := by decide +kernel
theorem d_WF_macro_44 : decode b_WF_macro 44 = .ok (.iload_n 1, 1) := by decide +kernel
theorem d_WF_macro_45 : decode b_WF_macro 45 = .ok (.aaload, 1) := by decide +kernel
theorem d_WF_macro_46 : decode b_WF_macro 46 = .ok (.aload_n 0, 1) := by decide +kernel
theorem d_WF_macro_47 : decode b_WF_macro 47 = .ok (.getfield 29, 3) := by decide +kernel
theorem d_WF_macro_50 : decode b_WF_macro 50 = .ok (.invokevirtual 139, 3) := by decide +kernel
theorem d_WF_macro_53 : decode b_WF_macro 53 = .ok (.aload_n 0, 1) := by decide +kernel
theorem d_WF_macro_54 : decode b_WF_macro 54 = .ok (.getfield 37, 3) := by decide +kernel
theorem d_WF_macro_57 : decode b_WF_macro 57 = .ok (.iload_n 1, 1) := by decide +kernel
theorem d_WF_macro_58 : decode b_WF_macro 58 = .ok (.iconst 1, 1) := by decide +kernel
theorem d_WF_macro_59 : decode b_WF_macro 59 = .ok (.bastore, 1) := by decide +kernel
theorem d_WF_macro_60 : decode b_WF_macro 60 = .ok (.aload_n 0, 1) := by decide +kernel
theorem d_WF_macro_61 : decode b_WF_macro 61 = .ok (.getfield 29, 3) := by decide +kernel
theorem d_WF_macro_64 : decode b_WF_macro 64 = .ok (.invokevirtual 126, 3) := by decide +kernel
theorem d_WF_macro_67 : decode b_WF_macro 67 = .ok (.return_, 1) := by decide +kernel
abbrev b_WF_wipe : ByteArray := prog_1_method_5_code
theorem d_WF_wipe_0 : decode b_WF_wipe 0 = .ok (.aload_n 0, 1) := by decide +kernel
theorem d_WF_wipe_1 : decode b_WF_wipe 1 = .ok (.getfield 29, 3) := by decide +kernel
theorem d_WF_wipe_4 : decode b_WF_wipe 4 = .ok (.invokevirtual 126, 3) := by decide +kernel
theorem d_WF_wipe_7 : decode b_WF_wipe 7 = .ok (.return_, 1) := by decide +kernel
abbrev b_WF_set : ByteArray := prog_1_method_6_code
theorem d_WF_set_0 : decode b_WF_set 0 = .ok (.iload_n 1, 1) := by decide +kernel
theorem d_WF_set_1 : decode b_WF_set 1 = .ok (.iload_n 2, 1) := by decide +kernel
theorem d_WF_set_2 : decode b_WF_set 2 = .ok (.invokestatic 79, 3) := by decide +kernel
theorem d_WF_set_5 : decode b_WF_set 5 = .ok (.ifCond .eq 12, 3) := by decide +kernel
theorem d_WF_set_8 : decode b_WF_set 8 = .ok (.iload_n 3, 1) := by decide +kernel
theorem d_WF_set_9 : decode b_WF_set 9 = .ok (.ifCond .lt 8, 3) := by decide +kernel
theorem d_WF_set_12 : decode b_WF_set 12 = .ok (.iload_n 3, 1) := by decide +kernel
theorem d_WF_set_13 : decode b_WF_set 13 = .ok (.iconst 3, 1) := by decide +kernel
theorem d_WF_set_14 : decode b_WF_set 14 = .ok (.if_icmp .le 5, 3) := by decide +kernel
theorem d_WF_set_17 : decode b_WF_set 17 = .ok (.iconst 0, 1) := by decide +kernel
theorem d_WF_set_18 : decode b_WF_set 18 = .ok (.ireturn, 1) := by decide +kernel
theorem d_WF_set_19 : decode b_WF_set 19 = .ok (.aload_n 0, 1) := by decide +kernel
theorem d_WF_set_20 : decode b_WF_set 20 = .ok (.getfield 12, 3) := by decide +kernel
theorem d_WF_set_23 : decode b_WF_set 23 = .ok (.iload_n 1, 1) := by decide +kernel
theorem d_WF_set_24 : decode b_WF_set 24 = .ok (.iload_n 2, 1) := by decide +kernel
theorem d_WF_set_25 : decode b_WF_set 25 = .ok (.iload_n 3, 1) := by decide +kernel
theorem d_WF_set_26 : decode b_WF_set 26 = .ok (.invokevirtual 142, 3) := by decide +kernel
theorem d_WF_set_29 : decode b_WF_set 29 = .ok (.aload_n 0, 1) := by decide +kernel
theorem d_WF_set_30 : decode b_WF_set 30 = .ok (.invokevirtual 129, 3) := by decide +kernel
theorem d_WF_set_33 : decode b_WF_set 33 = .ok (.iconst 1, 1) := by decide +kernel
theorem d_WF_set_34 : decode b_WF_set 34 = .ok (.ireturn, 1) := by decide +kernel
abbrev b_WF_cell : ByteArray := prog_1_method_7_code
theorem d_WF_cell_0 : decode b_WF_cell 0 = .ok (.aload_n 0, 1) := by decide +kernel
theorem d_WF_cell_1 : decode b_WF_cell 1 = .ok (.getfield 12, 3) := by decide +kernel
theorem d_WF_cell_4 : decode b_WF_cell 4 = .ok (.iload_n 1, 1) := by decide +kernel
theorem d_WF_cell_5 : decode b_WF_cell 5 = .ok (.iload_n 2, 1) := by decide +kernel
theorem d_WF_cell_6 : decode b_WF_cell 6 = .ok (.invokevirtual 146, 3) := by decide +kernel
theorem d_WF_cell_9 : decode b_WF_cell 9 = .ok (.ireturn, 1) := by decide +kernel
abbrev b_WF_copy : ByteArray := prog_1_method_8_code
theorem d_WF_copy_0 : decode b_WF_copy 0 = .ok (.iload 7, 2) := by decide +kernel
theorem d_WF_copy_2 : decode b_WF_copy 2 = .ok (.ifCond .lt 20, 3) := by decide +kernel
theorem d_WF_copy_5 : decode b_WF_copy 5 = .ok (.iload 7, 2) := by decide +kernel
theorem d_WF_copy_7 : decode b_WF_copy 7 = .ok (.iconst 4, 1) := by decide +kernel
theorem d_WF_copy_8 : decode b_WF_copy 8 = .ok (.if_icmp .ge 14, 3) := by decide +kernel
theorem d_WF_copy_11 : decode b_WF_copy 11 = .ok (.iload_n 1, 1) := by decide +kernel
theorem d_WF_copy_12 : decode b_WF_copy 12 = .ok (.iload_n 2, 1) := by decide +kernel
theorem d_WF_copy_13 : decode b_WF_copy 13 = .ok (.iload_n 3, 1) := by decide +kernel
theorem d_WF_copy_14 : decode b_WF_copy 14 = .ok (.iload 4, 2) := by decide +kernel
theorem d_WF_copy_16 : decode b_WF_copy 16 = .ok (.invokestatic 150, 3) := by decide +kernel
theorem d_WF_copy_19 : decode b_WF_copy 19 = .ok (.ifCond .ne 5, 3) := by decide +kernel
theorem d_WF_copy_22 : decode b_WF_copy 22 = .ok (.iconst 0, 1) := by decide +kernel
theorem d_WF_copy_23 : decode b_WF_copy 23 = .ok (.ireturn, 1) := by decide +kernel
theorem d_WF_copy_24 : decode b_WF_copy 24 = .ok (.iload 7, 2) := by decide +kernel
theorem d_WF_copy_26 : decode b_WF_copy 26 = .ok (.iconst 2, 1) := by decide +kernel
theorem d_WF_copy_27 : decode b_WF_copy 27 = .ok (.irem, 1) := by decide +kernel
theorem d_WF_copy_28 : decode b_WF_copy 28 = .ok (.iconst 1, 1) := by decide +kernel
theorem d_WF_copy_29 : decode b_WF_copy 29 = .ok (.if_icmp .ne 7, 3) := by decide +kernel
theorem d_WF_copy_32 : decode b_WF_copy 32 = .ok (.iconst 1, 1) := by decide +kernel
theorem d_WF_copy_33 : decode b_WF_copy 33 = .ok (.goto 4, 3) := by decide +kernel
theorem d_WF_copy_36 : decode b_WF_copy 36 = .ok (.iconst 0, 1) := by decide +kernel
theorem d_WF_copy_37 : decode b_WF_copy 37 = .ok (.istore 8, 2) := by decide +kernel
theorem d_WF_copy_39 : decode b_WF_copy 39 = .ok (.iload 8, 2) := by decide +kernel
theorem d_WF_copy_41 : decode b_WF_copy 41 = .ok (.ifCond .eq 8, 3) := by decide +kernel
theorem d_WF_copy_44 : decode b_WF_copy 44 = .ok (.iload 4, 2) := by decide +kernel
theorem d_WF_copy_46 : decode b_WF_copy 46 = .ok (.goto 4, 3) := by decide +kernel
theorem d_WF_copy_49 : decode b_WF_copy 49 = .ok (.iload_n 3, 1) := by decide +kernel
theorem d_WF_copy_50 : decode b_WF_copy 50 = .ok (.istore 9, 2) := by decide +kernel
theorem d_WF_copy_52 : decode b_WF_copy 52 = .ok (.iload 8, 2) := by decide +kernel
theorem d_WF_copy_54 : decode b_WF_copy 54 = .ok (.ifCond .eq 7, 3) := by decide +kernel
theorem d_WF_copy_57 : decode b_WF_copy 57 = .ok (.iload_n 3, 1) := by decide +kernel
theorem d_WF_copy_58 : decode b_WF_copy 58 = .ok (.goto 5, 3) := by decide +kernel
theorem d_WF_copy_61 : decode b_WF_copy 61 = .ok (.iload 4, 2) := by decide +kernel
theorem d_WF_copy_63 : decode b_WF_copy 63 = .ok (.istore 10, 2) := by decide +kernel
theorem d_WF_copy_65 : decode b_WF_copy 65 = .ok (.iload 5, 2) := by decide +kernel
theorem d_WF_copy_67 : decode b_WF_copy 67 = .ok (.iload 6, 2) := by decide +kernel
theorem d_WF_copy_69 : decode b_WF_copy 69 = .ok (.iload 9, 2) := by decide +kernel
theorem d_WF_copy_71 : decode b_WF_copy 71 = .ok (.iload 10, 2) := by decide +kernel
theorem d_WF_copy_73 : decode b_WF_copy 73 = .ok (.invokestatic 150, 3) := by decide +kernel
theorem d_WF_copy_76 : decode b_WF_copy 76 = .ok (.ifCond .ne 5, 3) := by decide +kernel
theorem d_WF_copy_79 : decode b_WF_copy 79 = .ok (.iconst 0, 1) := by decide +kernel
theorem d_WF_copy_80 : decode b_WF_copy 80 = .ok (.ireturn, 1) := by decide +kernel
theorem d_WF_copy_81 : decode b_WF_copy 81 = .ok (.aload_n 0, 1) := by decide +kernel
theorem d_WF_copy_82 : decode b_WF_copy 82 = .ok (.getfield 16, 3) := by decide +kernel
theorem d_WF_copy_85 : decode b_WF_copy 85 = .ok (.aload_n 0, 1) := by decide +kernel
theorem d_WF_copy_86 : decode b_WF_copy 86 = .ok (.getfield 12, 3) := by decide +kernel
theorem d_WF_copy_89 : decode b_WF_copy 89 = .ok (.invokevirtual 122, 3) := by decide +kernel
theorem d_WF_copy_92 : decode b_WF_copy 92 = .ok (.aload_n 0, 1) := by decide +kernel
theorem d_WF_copy_93 : decode b_WF_copy 93 = .ok (.iload_n 1, 1) := by decide +kernel
theorem d_WF_copy_94 : decode b_WF_copy 94 = .ok (.iload_n 2, 1) := by decide +kernel
theorem d_WF_copy_95 : decode b_WF_copy 95 = .ok (.iload_n 3, 1) := by decide +kernel
theorem d_WF_copy_96 : decode b_WF_copy 96 = .ok (.iload 4, 2) := by decide +kernel
theorem d_WF_copy_98 : decode b_WF_copy 98 = .ok (.iload 5, 2) := by decide +kernel
theorem d_WF_copy_100 : decode b_WF_copy 100 = .ok (.iload 6, 2) := by decide +kernel
theorem d_WF_copy_102 : decode b_WF_copy 102 = .ok (.iload 7, 2) := by decide +kernel
theorem d_WF_copy_104 : decode b_WF_copy 104 = .ok (.invokevirtual 154, 3) := by decide +kernel
theorem d_WF_copy_107 : decode b_WF_copy 107 = .ok (.aload_n 0, 1) := by decide +kernel
theorem d_WF_copy_108 : decode b_WF_copy 108 = .ok (.invokevirtual 129, 3) := by decide +kernel
theorem d_WF_copy_111 : decode b_WF_copy 111 = .ok (.iconst 1, 1) := by decide +kernel
theorem d_WF_copy_112 : decode b_WF_copy 112 = .ok (.ireturn, 1) := by decide +kernel
abbrev b_WF_source : ByteArray := prog_1_method_9_code
theorem d_WF_source_0 : decode b_WF_source 0 = .ok (.iload_n 1, 1) := by decide +kernel
theorem d_WF_source_1 : decode b_WF_source 1 = .ok (.iload_n 2, 1) := by decide +kernel
theorem d_WF_source_2 : decode b_WF_source 2 = .ok (.invokestatic 79, 3) := by decide +kernel
theorem d_WF_source_5 : decode b_WF_source 5 = .ok (.ifCond .eq 24, 3) := by decide +kernel
theorem d_WF_source_8 : decode b_WF_source 8 = .ok (.iload 5, 2) := by decide +kernel
theorem d_WF_source_10 : decode b_WF_source 10 = .ok (.iconst 1, 1) := by decide +kernel
theorem d_WF_source_11 : decode b_WF_source 11 = .ok (.if_icmp .lt 18, 3) := by decide +kernel
theorem d_WF_source_14 : decode b_WF_source 14 = .ok (.iload 5, 2) := by decide +kernel
theorem d_WF_source_16 : decode b_WF_source 16 = .ok (.bipush 64, 2) := by decide +kernel
theorem d_WF_source_18 : decode b_WF_source 18 = .ok (.if_icmp .gt 11, 3) := by decide +kernel
theorem d_WF_source_21 : decode b_WF_source 21 = .ok (.aload_n 0, 1) := by decide +kernel
theorem d_WF_source_22 : decode b_WF_source 22 = .ok (.getfield 47, 3) := by decide +kernel
theorem d_WF_source_25 : decode b_WF_source 25 = .ok (.iconst 4, 1) := by decide +kernel
theorem d_WF_source_26 : decode b_WF_source 26 = .ok (.if_icmp .lt 5, 3) := by decide +kernel
theorem d_WF_source_29 : decode b_WF_source 29 = .ok (.iconst (-1), 1) := by decide +kernel
theorem d_WF_source_30 : decode b_WF_source 30 = .ok (.ireturn, 1) := by decide +kernel
theorem d_WF_source_31 : decode b_WF_source 31 = .ok (.aload_n 0, 1) := by decide +kernel
theorem d_WF_source_32 : decode b_WF_source 32 = .ok (.getfield 43, 3) := by decide +kernel
theorem d_WF_source_35 : decode b_WF_source 35 = .ok (.aload_n 0, 1) := by decide +kernel
theorem d_WF_source_36 : decode b_WF_source 36 = .ok (.getfield 47, 3) := by decide +kernel
theorem d_WF_source_39 : decode b_WF_source 39 = .ok (.aaload, 1) := by decide +kernel
theorem d_WF_source_40 : decode b_WF_source 40 = .ok (.iload_n 1, 1) := by decide +kernel
theorem d_WF_source_41 : decode b_WF_source 41 = .ok (.iload_n 2, 1) := by decide +kernel
theorem d_WF_source_42 : decode b_WF_source 42 = .ok (.lload_n 3, 1) := by decide +kernel
theorem d_WF_source_43 : decode b_WF_source 43 = .ok (.iload 5, 2) := by decide +kernel
theorem d_WF_source_45 : decode b_WF_source 45 = .ok (.invokevirtual 158, 3) := by decide +kernel
theorem d_WF_source_48 : decode b_WF_source 48 = .ok (.aload_n 0, 1) := by decide +kernel
theorem d_WF_source_49 : decode b_WF_source 49 = .ok (.dup, 1) := by decide +kernel
theorem d_WF_source_50 : decode b_WF_source 50 = .ok (.getfield 47, 3) := by decide +kernel
theorem d_WF_source_53 : decode b_WF_source 53 = .ok (.iconst 1, 1) := by decide +kernel
theorem d_WF_source_54 : decode b_WF_source 54 = .ok (.iadd, 1) := by decide +kernel
theorem d_WF_source_55 : decode b_WF_source 55 = .ok (.putfield 47, 3) := by decide +kernel
theorem d_WF_source_58 : decode b_WF_source 58 = .ok (.aload_n 0, 1) := by decide +kernel
theorem d_WF_source_59 : decode b_WF_source 59 = .ok (.getfield 47, 3) := by decide +kernel
theorem d_WF_source_62 : decode b_WF_source 62 = .ok (.iconst 1, 1) := by decide +kernel
theorem d_WF_source_63 : decode b_WF_source 63 = .ok (.isub, 1) := by decide +kernel
theorem d_WF_source_64 : decode b_WF_source 64 = .ok (.ireturn, 1) := by decide +kernel
abbrev b_WF_probe : ByteArray := prog_1_method_10_code
theorem d_WF_probe_0 : decode b_WF_probe 0 = .ok (.iload_n 1, 1) := by decide +kernel
theorem d_WF_probe_1 : decode b_WF_probe 1 = .ok (.iload_n 2, 1) := by decide +kernel
theorem d_WF_probe_2 : decode b_WF_probe 2 = .ok (.invokestatic 79, 3) := by decide +kernel
theorem d_WF_probe_5 : decode b_WF_probe 5 = .ok (.ifCond .eq 11, 3) := by decide +kernel
theorem d_WF_probe_8 : decode b_WF_probe 8 = .ok (.aload_n 0, 1) := by decide +kernel
theorem d_WF_probe_9 : decode b_WF_probe 9 = .ok (.getfield 57, 3) := by decide +kernel
theorem d_WF_probe_12 : decode b_WF_probe 12 = .ok (.iconst 4, 1) := by decide +kernel
theorem d_WF_probe_13 : decode b_WF_probe 13 = .ok (.if_icmp .lt 5, 3) := by decide +kernel
theorem d_WF_probe_16 : decode b_WF_probe 16 = .ok (.iconst (-1), 1) := by decide +kernel
theorem d_WF_probe_17 : decode b_WF_probe 17 = .ok (.ireturn, 1) := by decide +kernel
theorem d_WF_probe_18 : decode b_WF_probe 18 = .ok (.aload_n 0, 1) := by decide +kernel
theorem d_WF_probe_19 : decode b_WF_probe 19 = .ok (.getfield 53, 3) := by decide +kernel
theorem d_WF_probe_22 : decode b_WF_probe 22 = .ok (.aload_n 0, 1) := by decide +kernel
theorem d_WF_probe_23 : decode b_WF_probe 23 = .ok (.getfield 57, 3) := by decide +kernel
theorem d_WF_probe_26 : decode b_WF_probe 26 = .ok (.aaload, 1) := by decide +kernel
theorem d_WF_probe_27 : decode b_WF_probe 27 = .ok (.iload_n 1, 1) := by decide +kernel
theorem d_WF_probe_28 : decode b_WF_probe 28 = .ok (.iload_n 2, 1) := by decide +kernel
theorem d_WF_probe_29 : decode b_WF_probe 29 = .ok (.invokevirtual 161, 3) := by decide +kernel
theorem d_WF_probe_32 : decode b_WF_probe 32 = .ok (.aload_n 0, 1) := by decide +kernel
theorem d_WF_probe_33 : decode b_WF_probe 33 = .ok (.dup, 1) := by decide +kernel
theorem d_WF_probe_34 : decode b_WF_probe 34 = .ok (.getfield 57, 3) := by decide +kernel
theorem d_WF_probe_37 : decode b_WF_probe 37 = .ok (.iconst 1, 1) := by decide +kernel
theorem d_WF_probe_38 : decode b_WF_probe 38 = .ok (.iadd, 1) := by decide +kernel
theorem d_WF_probe_39 : decode b_WF_probe 39 = .ok (.putfield 57, 3) := by decide +kernel
theorem d_WF_probe_42 : decode b_WF_probe 42 = .ok (.aload_n 0, 1) := by decide +kernel
theorem d_WF_probe_43 : decode b_WF_probe 43 = .ok (.getfield 57, 3) := by decide +kernel
theorem d_WF_probe_46 : decode b_WF_probe 46 = .ok (.iconst 1, 1) := by decide +kernel
theorem d_WF_probe_47 : decode b_WF_probe 47 = .ok (.isub, 1) := by decide +kernel
theorem d_WF_probe_48 : decode b_WF_probe 48 = .ok (.ireturn, 1) := by decide +kernel
abbrev b_WF_run : ByteArray := prog_1_method_11_code
theorem d_WF_run_0 : decode b_WF_run 0 = .ok (.iload_n 1, 1) := by decide +kernel
theorem d_WF_run_1 : decode b_WF_run 1 = .ok (.iconst 1, 1) := by decide +kernel
theorem d_WF_run_2 : decode b_WF_run 2 = .ok (.if_icmp .lt 9, 3) := by decide +kernel
theorem d_WF_run_5 : decode b_WF_run 5 = .ok (.iload_n 1, 1) := by decide +kernel
theorem d_WF_run_6 : decode b_WF_run 6 = .ok (.bipush 60, 2) := by decide +kernel
theorem d_WF_run_8 : decode b_WF_run 8 = .ok (.if_icmp .le 5, 3) := by decide +kernel
theorem d_WF_run_11 : decode b_WF_run 11 = .ok (.iconst (-1), 1) := by decide +kernel
theorem d_WF_run_12 : decode b_WF_run 12 = .ok (.ireturn, 1) := by decide +kernel
theorem d_WF_run_13 : decode b_WF_run 13 = .ok (.iconst 0, 1) := by decide +kernel
theorem d_WF_run_14 : decode b_WF_run 14 = .ok (.istore_n 2, 1) := by decide +kernel
theorem d_WF_run_15 : decode b_WF_run 15 = .ok (.iload_n 2, 1) := by decide +kernel
theorem d_WF_run_16 : decode b_WF_run 16 = .ok (.iload_n 1, 1) := by decide +kernel
theorem d_WF_run_17 : decode b_WF_run 17 = .ok (.if_icmp .ge 13, 3) := by decide +kernel
theorem d_WF_run_20 : decode b_WF_run 20 = .ok (.aload_n 0, 1) := by decide +kernel
theorem d_WF_run_21 : decode b_WF_run 21 = .ok (.invokevirtual 164, 3) := by decide +kernel
theorem d_WF_run_24 : decode b_WF_run 24 = .ok (.iinc 2 1, 3) := by decide +kernel
theorem d_WF_run_27 : decode b_WF_run 27 = .ok (.goto (-12), 3) := by decide +kernel
theorem d_WF_run_30 : decode b_WF_run 30 = .ok (.aload_n 0, 1) := by decide +kernel
theorem d_WF_run_31 : decode b_WF_run 31 = .ok (.getfield 12, 3) := by decide +kernel
theorem d_WF_run_34 : decode b_WF_run 34 = .ok (.iconst 1, 1) := by decide +kernel
theorem d_WF_run_35 : decode b_WF_run 35 = .ok (.invokevirtual 167, 3) := by decide +kernel
theorem d_WF_run_38 : decode b_WF_run 38 = .ok (.ireturn, 1) := by decide +kernel
abbrev b_WF_back : ByteArray := prog_1_method_12_code
theorem d_WF_back_0 : decode b_WF_back 0 = .ok (.iload_n 1, 1) := by decide +kernel
theorem d_WF_back_1 : decode b_WF_back 1 = .ok (.iconst 1, 1) := by decide +kernel
theorem d_WF_back_2 : decode b_WF_back 2 = .ok (.if_icmp .lt 11, 3) := by decide +kernel
theorem d_WF_back_5 : decode b_WF_back 5 = .ok (.iload_n 1, 1) := by decide +kernel
theorem d_WF_back_6 : decode b_WF_back 6 = .ok (.aload_n 0, 1) := by decide +kernel
theorem d_WF_back_7 : decode b_WF_back 7 = .ok (.getfield 66, 3) := by decide +kernel
theorem d_WF_back_10 : decode b_WF_back 10 = .ok (.if_icmp .le 5, 3) := by decide +kernel
theorem d_WF_back_13 : decode b_WF_back 13 = .ok (.iconst 0, 1) := by decide +kernel
theorem d_WF_back_14 : decode b_WF_back 14 = .ok (.ireturn, 1) := by decide +kernel
theorem d_WF_back_15 : decode b_WF_back 15 = .ok (.aload_n 0, 1) := by decide +kernel
theorem d_WF_back_16 : decode b_WF_back 16 = .ok (.dup, 1) := by decide +kernel
theorem d_WF_back_17 : decode b_WF_back 17 = .ok (.getfield 69, 3) := by decide +kernel
theorem d_WF_back_20 : decode b_WF_back 20 = .ok (.iload_n 1, 1) := by decide +kernel
theorem d_WF_back_21 : decode b_WF_back 21 = .ok (.isub, 1) := by decide +kernel
theorem d_WF_back_22 : decode b_WF_back 22 = .ok (.putfield 69, 3) := by decide +kernel
theorem d_WF_back_25 : decode b_WF_back 25 = .ok (.aload_n 0, 1) := by decide +kernel
theorem d_WF_back_26 : decode b_WF_back 26 = .ok (.dup, 1) := by decide +kernel
theorem d_WF_back_27 : decode b_WF_back 27 = .ok (.getfield 66, 3) := by decide +kernel
theorem d_WF_back_30 : decode b_WF_back 30 = .ok (.iload_n 1, 1) := by decide +kernel
theorem d_WF_back_31 : decode b_WF_back 31 = .ok (.isub, 1) := by decide +kernel
theorem d_WF_back_32 : decode b_WF_back 32 = .ok (.putfield 66, 3) := by decide +kernel
theorem d_WF_back_35 : decode b_WF_back 35 = .ok (.aload_n 0, 1) := by decide +kernel
theorem d_WF_back_36 : decode b_WF_back 36 = .ok (.aload_n 0, 1) := by decide +kernel
theorem d_WF_back_37 : decode b_WF_back 37 = .ok (.getfield 69, 3) := by decide +kernel
theorem d_WF_back_40 : decode b_WF_back 40 = .ok (.invokevirtual 171, 3) := by decide +kernel
theorem d_WF_back_43 : decode b_WF_back 43 = .ok (.astore_n 2, 1) := by decide +kernel
theorem d_WF_back_44 : decode b_WF_back 44 = .ok (.aload_n 0, 1) := by decide +kernel
theorem d_WF_back_45 : decode b_WF_back 45 = .ok (.getfield 12, 3) := by decide +kernel
theorem d_WF_back_48 : decode b_WF_back 48 = .ok (.aload_n 2, 1) := by decide +kernel
theorem d_WF_back_49 : decode b_WF_back 49 = .ok (.getfield 175, 3) := by decide +kernel
theorem d_WF_back_52 : decode b_WF_back 52 = .ok (.invokevirtual 122, 3) := by decide +kernel
theorem d_WF_back_55 : decode b_WF_back 55 = .ok (.iconst 0, 1) := by decide +kernel
theorem d_WF_back_56 : decode b_WF_back 56 = .ok (.istore_n 3, 1) := by decide +kernel
theorem d_WF_back_57 : decode b_WF_back 57 = .ok (.iload_n 3, 1) := by decide +kernel
theorem d_WF_back_58 : decode b_WF_back 58 = .ok (.iconst 4, 1) := by decide +kernel
theorem d_WF_back_59 : decode b_WF_back 59 = .ok (.if_icmp .ge 24, 3) := by decide +kernel
theorem d_WF_back_62 : decode b_WF_back 62 = .ok (.aload_n 0, 1) := by decide +kernel
theorem d_WF_back_63 : decode b_WF_back 63 = .ok (.getfield 43, 3) := by decide +kernel
theorem d_WF_back_66 : decode b_WF_back 66 = .ok (.iload_n 3, 1) := by decide +kernel
theorem d_WF_back_67 : decode b_WF_back 67 = .ok (.aaload, 1) := by decide +kernel
theorem d_WF_back_68 : decode b_WF_back 68 = .ok (.aload_n 2, 1) := by decide +kernel
theorem d_WF_back_69 : decode b_WF_back 69 = .ok (.getfield 178, 3) := by decide +kernel
theorem d_WF_back_72 : decode b_WF_back 72 = .ok (.iload_n 3, 1) := by decide +kernel
theorem d_WF_back_73 : decode b_WF_back 73 = .ok (.iaload, 1) := by decide +kernel
theorem d_WF_back_74 : decode b_WF_back 74 = .ok (.putfield 182, 3) := by decide +kernel
theorem d_WF_back_77 : decode b_WF_back 77 = .ok (.iinc 3 1, 3) := by decide +kernel
theorem d_WF_back_80 : decode b_WF_back 80 = .ok (.goto (-23), 3) := by decide +kernel
theorem d_WF_back_83 : decode b_WF_back 83 = .ok (.iconst 1, 1) := by decide +kernel
theorem d_WF_back_84 : decode b_WF_back 84 = .ok (.ireturn, 1) := by decide +kernel
abbrev b_WF_period : ByteArray := prog_1_method_13_code
theorem d_WF_period_0 : decode b_WF_period 0 = .ok (.iconst 1, 1) := by decide +kernel
theorem d_WF_period_1 : decode b_WF_period 1 = .ok (.istore_n 1, 1) := by decide +kernel
theorem d_WF_period_2 : decode b_WF_period 2 = .ok (.iload_n 1, 1) := by decide +kernel
theorem d_WF_period_3 : decode b_WF_period 3 = .ok (.aload_n 0, 1) := by decide +kernel
theorem d_WF_period_4 : decode b_WF_period 4 = .ok (.getfield 66, 3) := by decide +kernel
theorem d_WF_period_7 : decode b_WF_period 7 = .ok (.if_icmp .gt 34, 3) := by decide +kernel
theorem d_WF_period_10 : decode b_WF_period 10 = .ok (.aload_n 0, 1) := by decide +kernel
theorem d_WF_period_11 : decode b_WF_period 11 = .ok (.getfield 12, 3) := by decide +kernel
theorem d_WF_period_14 : decode b_WF_period 14 = .ok (.aload_n 0, 1) := by decide +kernel
theorem d_WF_period_15 : decode b_WF_period 15 = .ok (.aload_n 0, 1) := by decide +kernel
theorem d_WF_period_16 : decode b_WF_period 16 = .ok (.getfield 69, 3) := by decide +kernel
theorem d_WF_period_19 : decode b_WF_period 19 = .ok (.iload_n 1, 1) := by decide +kernel
theorem d_WF_period_20 : decode b_WF_period 20 = .ok (.isub, 1) := by decide +kernel
theorem d_WF_period_21 : decode b_WF_period 21 = .ok (.invokevirtual 171, 3) := by decide +kernel
theorem d_WF_period_24 : decode b_WF_period 24 = .ok (.getfield 175, 3) := by decide +kernel
theorem d_WF_period_27 : decode b_WF_period 27 = .ok (.invokevirtual 185, 3) := by decide +kernel
theorem d_WF_period_30 : decode b_WF_period 30 = .ok (.ifCond .eq 5, 3) := by decide +kernel
theorem d_WF_period_33 : decode b_WF_period 33 = .ok (.iload_n 1, 1) := by decide +kernel
theorem d_WF_period_34 : decode b_WF_period 34 = .ok (.ireturn, 1) := by decide +kernel
theorem d_WF_period_35 : decode b_WF_period 35 = .ok (.iinc 1 1, 3) := by decide +kernel
theorem d_WF_period_38 : decode b_WF_period 38 = .ok (.goto (-36), 3) := by decide +kernel
theorem d_WF_period_41 : decode b_WF_period 41 = .ok (.iconst 0, 1) := by decide +kernel
theorem d_WF_period_42 : decode b_WF_period 42 = .ok (.ireturn, 1) := by decide +kernel
abbrev b_WF_seen : ByteArray := prog_1_method_14_code
theorem d_WF_seen_0 : decode b_WF_seen 0 = .ok (.iload_n 1, 1) := by decide +kernel
theorem d_WF_seen_1 : decode b_WF_seen 1 = .ok (.ifCond .lt 20, 3) := by decide +kernel
theorem d_WF_seen_4 : decode b_WF_seen 4 = .ok (.iload_n 1, 1) := by decide +kernel
theorem d_WF_seen_5 : decode b_WF_seen 5 = .ok (.aload_n 0, 1) := by decide +kernel
theorem d_WF_seen_6 : decode b_WF_seen 6 = .ok (.getfield 57, 3) := by decide +kernel
theorem d_WF_seen_9 : decode b_WF_seen 9 = .ok (.if_icmp .ge 12, 3) := by decide +kernel
theorem d_WF_seen_12 : decode b_WF_seen 12 = .ok (.iload_n 2, 1) := by decide +kernel
theorem d_WF_seen_13 : decode b_WF_seen 13 = .ok (.ifCond .lt 8, 3) := by decide +kernel
theorem d_WF_seen_16 : decode b_WF_seen 16 = .ok (.iload_n 2, 1) := by decide +kernel
theorem d_WF_seen_17 : decode b_WF_seen 17 = .ok (.iconst 1, 1) := by decide +kernel
theorem d_WF_seen_18 : decode b_WF_seen 18 = .ok (.if_icmp .le 13, 3) := by decide +kernel
theorem d_WF_seen_21 : decode b_WF_seen 21 = .ok (.new 83, 3) := by decide +kernel
theorem d_WF_seen_24 : decode b_WF_seen 24 = .ok (.dup, 1) := by decide +kernel
theorem d_WF_seen_25 : decode b_WF_seen 25 = .ok (.ldc 189, 2) := by decide +kernel
theorem d_WF_seen_27 : decode b_WF_seen 27 = .ok (.invokespecial 87, 3) := by decide +kernel
theorem d_WF_seen_30 : decode b_WF_seen 30 = .ok (.athrow, 1) := by decide +kernel
theorem d_WF_seen_31 : decode b_WF_seen 31 = .ok (.iload_n 2, 1) := by decide +kernel
theorem d_WF_seen_32 : decode b_WF_seen 32 = .ok (.ifCond .ne 15, 3) := by decide +kernel
theorem d_WF_seen_35 : decode b_WF_seen 35 = .ok (.aload_n 0, 1) := by decide +kernel
theorem d_WF_seen_36 : decode b_WF_seen 36 = .ok (.getfield 53, 3) := by decide +kernel
theorem d_WF_seen_39 : decode b_WF_seen 39 = .ok (.iload_n 1, 1) := by decide +kernel
theorem d_WF_seen_40 : decode b_WF_seen 40 = .ok (.aaload, 1) := by decide +kernel
theorem d_WF_seen_41 : decode b_WF_seen 41 = .ok (.getfield 191, 3) := by decide +kernel
theorem d_WF_seen_44 : decode b_WF_seen 44 = .ok (.goto 12, 3) := by decide +kernel
theorem d_WF_seen_47 : decode b_WF_seen 47 = .ok (.aload_n 0, 1) := by decide +kernel
theorem d_WF_seen_48 : decode b_WF_seen 48 = .ok (.getfield 53, 3) := by decide +kernel
theorem d_WF_seen_51 : decode b_WF_seen 51 = .ok (.iload_n 1, 1) := by decide +kernel
theorem d_WF_seen_52 : decode b_WF_seen 52 = .ok (.aaload, 1) := by decide +kernel
theorem d_WF_seen_53 : decode b_WF_seen 53 = .ok (.getfield 194, 3) := by decide +kernel
theorem d_WF_seen_56 : decode b_WF_seen 56 = .ok (.ireturn, 1) := by decide +kernel
abbrev b_WF_record : ByteArray := prog_1_method_15_code
theorem d_WF_record_0 : decode b_WF_record 0 = .ok (.iload_n 1, 1) := by decide +kernel
theorem d_WF_record_1 : decode b_WF_record 1 = .ok (.ifCond .lt 23, 3) := by decide +kernel
theorem d_WF_record_4 : decode b_WF_record 4 = .ok (.iload_n 1, 1) := by decide +kernel
theorem d_WF_record_5 : decode b_WF_record 5 = .ok (.aload_n 0, 1) := by decide +kernel
theorem d_WF_record_6 : decode b_WF_record 6 = .ok (.getfield 57, 3) := by decide +kernel
theorem d_WF_record_9 : decode b_WF_record 9 = .ok (.if_icmp .ge 15, 3) := by decide +kernel
theorem d_WF_record_12 : decode b_WF_record 12 = .ok (.aload_n 0, 1) := by decide +kernel
theorem d_WF_record_13 : decode b_WF_record 13 = .ok (.getfield 53, 3) := by decide +kernel
theorem d_WF_record_16 : decode b_WF_record 16 = .ok (.iload_n 1, 1) := by decide +kernel
theorem d_WF_record_17 : decode b_WF_record 17 = .ok (.aaload, 1) := by decide +kernel
theorem d_WF_record_18 : decode b_WF_record 18 = .ok (.getfield 197, 3) := by decide +kernel
theorem d_WF_record_21 : decode b_WF_record 21 = .ok (.goto 4, 3) := by decide +kernel
theorem d_WF_record_24 : decode b_WF_record 24 = .ok (.lconst 0, 1) := by decide +kernel
theorem d_WF_record_25 : decode b_WF_record 25 = .ok (.lreturn, 1) := by decide +kernel
abbrev b_WF_look : ByteArray := prog_1_method_16_code
theorem d_WF_look_0 : decode b_WF_look 0 = .ok (.iload_n 1, 1) := by decide +kernel
theorem d_WF_look_1 : decode b_WF_look 1 = .ok (.tableswitch 102 0 7 #[47, 52, 61, 70, 79, 84, 89, 94], 47) := by decide +kernel
theorem d_WF_look_48 : decode b_WF_look 48 = .ok (.aload_n 0, 1) := by decide +kernel
theorem d_WF_look_49 : decode b_WF_look 49 = .ok (.getfield 69, 3) := by decide +kernel
theorem d_WF_look_52 : decode b_WF_look 52 = .ok (.ireturn, 1) := by decide +kernel
theorem d_WF_look_53 : decode b_WF_look 53 = .ok (.aload_n 0, 1) := by decide +kernel
theorem d_WF_look_54 : decode b_WF_look 54 = .ok (.getfield 12, 3) := by decide +kernel
theorem d_WF_look_57 : decode b_WF_look 57 = .ok (.iconst 1, 1) := by decide +kernel
theorem d_WF_look_58 : decode b_WF_look 58 = .ok (.invokevirtual 167, 3) := by decide +kernel
theorem d_WF_look_61 : decode b_WF_look 61 = .ok (.ireturn, 1) := by decide +kernel
theorem d_WF_look_62 : decode b_WF_look 62 = .ok (.aload_n 0, 1) := by decide +kernel
theorem d_WF_look_63 : decode b_WF_look 63 = .ok (.getfield 12, 3) := by decide +kernel
theorem d_WF_look_66 : decode b_WF_look 66 = .ok (.iconst 2, 1) := by decide +kernel
theorem d_WF_look_67 : decode b_WF_look 67 = .ok (.invokevirtual 167, 3) := by decide +kernel
theorem d_WF_look_70 : decode b_WF_look 70 = .ok (.ireturn, 1) := by decide +kernel
theorem d_WF_look_71 : decode b_WF_look 71 = .ok (.aload_n 0, 1) := by decide +kernel
theorem d_WF_look_72 : decode b_WF_look 72 = .ok (.getfield 12, 3) := by decide +kernel
theorem d_WF_look_75 : decode b_WF_look 75 = .ok (.iconst 3, 1) := by decide +kernel
theorem d_WF_look_76 : decode b_WF_look 76 = .ok (.invokevirtual 167, 3) := by decide +kernel
theorem d_WF_look_79 : decode b_WF_look 79 = .ok (.ireturn, 1) := by decide +kernel
theorem d_WF_look_80 : decode b_WF_look 80 = .ok (.aload_n 0, 1) := by decide +kernel
theorem d_WF_look_81 : decode b_WF_look 81 = .ok (.getfield 66, 3) := by decide +kernel
theorem d_WF_look_84 : decode b_WF_look 84 = .ok (.ireturn, 1) := by decide +kernel
theorem d_WF_look_85 : decode b_WF_look 85 = .ok (.aload_n 0, 1) := by decide +kernel
theorem d_WF_look_86 : decode b_WF_look 86 = .ok (.getfield 47, 3) := by decide +kernel
theorem d_WF_look_89 : decode b_WF_look 89 = .ok (.ireturn, 1) := by decide +kernel
theorem d_WF_look_90 : decode b_WF_look 90 = .ok (.aload_n 0, 1) := by decide +kernel
theorem d_WF_look_91 : decode b_WF_look 91 = .ok (.getfield 57, 3) := by decide +kernel
theorem d_WF_look_94 : decode b_WF_look 94 = .ok (.ireturn, 1) := by decide +kernel
theorem d_WF_look_95 : decode b_WF_look 95 = .ok (.aload_n 0, 1) := by decide +kernel
theorem d_WF_look_96 : decode b_WF_look 96 = .ok (.getfield 29, 3) := by decide +kernel
theorem d_WF_look_99 : decode b_WF_look 99 = .ok (.getfield 107, 3) := by decide +kernel
theorem d_WF_look_102 : decode b_WF_look 102 = .ok (.ireturn, 1) := by decide +kernel
theorem d_WF_look_103 : decode b_WF_look 103 = .ok (.iconst (-1), 1) := by decide +kernel
theorem d_WF_look_104 : decode b_WF_look 104 = .ok (.ireturn, 1) := by decide +kernel
abbrev b_WF_isWithin : ByteArray := prog_1_method_17_code
theorem d_WF_isWithin_0 : decode b_WF_isWithin 0 = .ok (.iload_n 0, 1) := by decide +kernel
theorem d_WF_isWithin_1 : decode b_WF_isWithin 1 = .ok (.ifCond .lt 23, 3) := by decide +kernel
theorem d_WF_isWithin_4 : decode b_WF_isWithin 4 = .ok (.iload_n 0, 1) := by decide +kernel
theorem d_WF_isWithin_5 : decode b_WF_isWithin 5 = .ok (.bipush 32, 2) := by decide +kernel
theorem d_WF_isWithin_7 : decode b_WF_isWithin 7 = .ok (.if_icmp .ge 17, 3) := by decide +kernel
theorem d_WF_isWithin_10 : decode b_WF_isWithin 10 = .ok (.iload_n 1, 1) := by decide +kernel
theorem d_WF_isWithin_11 : decode b_WF_isWithin 11 = .ok (.ifCond .lt 13, 3) := by decide +kernel
theorem d_WF_isWithin_14 : decode b_WF_isWithin 14 = .ok (.iload_n 1, 1) := by decide +kernel
theorem d_WF_isWithin_15 : decode b_WF_isWithin 15 = .ok (.bipush 24, 2) := by decide +kernel
theorem d_WF_isWithin_17 : decode b_WF_isWithin 17 = .ok (.if_icmp .ge 7, 3) := by decide +kernel
theorem d_WF_isWithin_20 : decode b_WF_isWithin 20 = .ok (.iconst 1, 1) := by decide +kernel
theorem d_WF_isWithin_21 : decode b_WF_isWithin 21 = .ok (.goto 4, 3) := by decide +kernel
theorem d_WF_isWithin_24 : decode b_WF_isWithin 24 = .ok (.iconst 0, 1) := by decide +kernel
theorem d_WF_isWithin_25 : decode b_WF_isWithin 25 = .ok (.ireturn, 1) := by decide +kernel
abbrev b_WF_isPiece : ByteArray := prog_1_method_18_code
theorem d_WF_isPiece_0 : decode b_WF_isPiece 0 = .ok (.iload_n 0, 1) := by decide +kernel
theorem d_WF_isPiece_1 : decode b_WF_isPiece 1 = .ok (.iload_n 1, 1) := by decide +kernel
theorem d_WF_isPiece_2 : decode b_WF_isPiece 2 = .ok (.invokestatic 79, 3) := by decide +kernel
theorem d_WF_isPiece_5 : decode b_WF_isPiece 5 = .ok (.ifCond .eq 33, 3) := by decide +kernel
theorem d_WF_isPiece_8 : decode b_WF_isPiece 8 = .ok (.iload_n 2, 1) := by decide +kernel
theorem d_WF_isPiece_9 : decode b_WF_isPiece 9 = .ok (.iconst 1, 1) := by decide +kernel
theorem d_WF_isPiece_10 : decode b_WF_isPiece 10 = .ok (.if_icmp .lt 28, 3) := by decide +kernel
theorem d_WF_isPiece_13 : decode b_WF_isPiece 13 = .ok (.iload_n 2, 1) := by decide +kernel
theorem d_WF_isPiece_14 : decode b_WF_isPiece 14 = .ok (.bipush 32, 2) := by decide +kernel
theorem d_WF_isPiece_16 : decode b_WF_isPiece 16 = .ok (.iload_n 0, 1) := by decide +kernel
theorem d_WF_isPiece_17 : decode b_WF_isPiece 17 = .ok (.isub, 1) := by decide +kernel
theorem d_WF_isPiece_18 : decode b_WF_isPiece 18 = .ok (.if_icmp .gt 20, 3) := by decide +kernel
theorem d_WF_isPiece_21 : decode b_WF_isPiece 21 = .ok (.iload_n 3, 1) := by decide +kernel
theorem d_WF_isPiece_22 : decode b_WF_isPiece 22 = .ok (.iconst 1, 1) := by decide +kernel
theorem d_WF_isPiece_23 : decode b_WF_isPiece 23 = .ok (.if_icmp .lt 15, 3) := by decide +kernel
theorem d_WF_isPiece_26 : decode b_WF_isPiece 26 = .ok (.iload_n 3, 1) := by decide +kernel
theorem d_WF_isPiece_27 : decode b_WF_isPiece 27 = .ok (.bipush 24, 2) := by decide +kernel
theorem d_WF_isPiece_29 : decode b_WF_isPiece 29 = .ok (.iload_n 1, 1) := by decide +kernel
theorem d_WF_isPiece_30 : decode b_WF_isPiece 30 = .ok (.isub, 1) := by decide +kernel
theorem d_WF_isPiece_31 : decode b_WF_isPiece 31 = .ok (.if_icmp .gt 7, 3) := by decide +kernel
theorem d_WF_isPiece_34 : decode b_WF_isPiece 34 = .ok (.iconst 1, 1) := by decide +kernel
theorem d_WF_isPiece_35 : decode b_WF_isPiece 35 = .ok (.goto 4, 3) := by decide +kernel
theorem d_WF_isPiece_38 : decode b_WF_isPiece 38 = .ok (.iconst 0, 1) := by decide +kernel
theorem d_WF_isPiece_39 : decode b_WF_isPiece 39 = .ok (.ireturn, 1) := by decide +kernel
abbrev b_WF_putTurned : ByteArray := prog_1_method_19_code
theorem d_WF_putTurned_0 : decode b_WF_putTurned 0 = .ok (.iconst 0, 1) := by decide +kernel
theorem d_WF_putTurned_1 : decode b_WF_putTurned 1 = .ok (.istore 8, 2) := by decide +kernel
theorem d_WF_putTurned_3 : decode b_WF_putTurned 3 = .ok (.iload 8, 2) := by decide +kernel
theorem d_WF_putTurned_5 : decode b_WF_putTurned 5 = .ok (.iload 4, 2) := by decide +kernel
theorem d_WF_putTurned_7 : decode b_WF_putTurned 7 = .ok (.if_icmp .ge 93, 3) := by decide +kernel
theorem d_WF_putTurned_10 : decode b_WF_putTurned 10 = .ok (.iconst 0, 1) := by decide +kernel
theorem d_WF_putTurned_11 : decode b_WF_putTurned 11 = .ok (.istore 9, 2) := by decide +kernel
theorem d_WF_putTurned_13 : decode b_WF_putTurned 13 = .ok (.iload 9, 2) := by decide +kernel
theorem d_WF_putTurned_15 : decode b_WF_putTurned 15 = .ok (.iload_n 3, 1) := by decide +kernel
theorem d_WF_putTurned_16 : decode b_WF_putTurned 16 = .ok (.if_icmp .ge 78, 3) := by decide +kernel
theorem d_WF_putTurned_19 : decode b_WF_putTurned 19 = .ok (.aload_n 0, 1) := by decide +kernel
theorem d_WF_putTurned_20 : decode b_WF_putTurned 20 = .ok (.getfield 16, 3) := by decide +kernel
theorem d_WF_putTurned_23 : decode b_WF_putTurned 23 = .ok (.iload_n 1, 1) := by decide +kernel
theorem d_WF_putTurned_24 : decode b_WF_putTurned 24 = .ok (.iload 9, 2) := by decide +kernel
theorem d_WF_putTurned_26 : decode b_WF_putTurned 26 = .ok (.iadd, 1) := by decide +kernel
theorem d_WF_putTurned_27 : decode b_WF_putTurned 27 = .ok (.iload_n 2, 1) := by decide +kernel
theorem d_WF_putTurned_28 : decode b_WF_putTurned 28 = .ok (.iload 8, 2) := by decide +kernel
theorem d_WF_putTurned_30 : decode b_WF_putTurned 30 = .ok (.iadd, 1) := by decide +kernel
theorem d_WF_putTurned_31 : decode b_WF_putTurned 31 = .ok (.invokevirtual 146, 3) := by decide +kernel
theorem d_WF_putTurned_34 : decode b_WF_putTurned 34 = .ok (.istore 10, 2) := by decide +kernel
theorem d_WF_putTurned_36 : decode b_WF_putTurned 36 = .ok (.iload 10, 2) := by decide +kernel
theorem d_WF_putTurned_38 : decode b_WF_putTurned 38 = .ok (.ifCond .eq 50, 3) := by decide +kernel
theorem d_WF_putTurned_41 : decode b_WF_putTurned 41 = .ok (.iload 5, 2) := by decide +kernel
theorem d_WF_putTurned_43 : decode b_WF_putTurned 43 = .ok (.iload 9, 2) := by decide +kernel
theorem d_WF_putTurned_45 : decode b_WF_putTurned 45 = .ok (.iload 8, 2) := by decide +kernel
theorem d_WF_putTurned_47 : decode b_WF_putTurned 47 = .ok (.iload_n 3, 1) := by decide +kernel
theorem d_WF_putTurned_48 : decode b_WF_putTurned 48 = .ok (.iload 4, 2) := by decide +kernel
theorem d_WF_putTurned_50 : decode b_WF_putTurned 50 = .ok (.iload 7, 2) := by decide +kernel
theorem d_WF_putTurned_52 : decode b_WF_putTurned 52 = .ok (.invokestatic 201, 3) := by decide +kernel
theorem d_WF_putTurned_55 : decode b_WF_putTurned 55 = .ok (.iadd, 1) := by decide +kernel
theorem d_WF_putTurned_56 : decode b_WF_putTurned 56 = .ok (.istore 11, 2) := by decide +kernel
theorem d_WF_putTurned_58 : decode b_WF_putTurned 58 = .ok (.iload 6, 2) := by decide +kernel
theorem d_WF_putTurned_60 : decode b_WF_putTurned 60 = .ok (.iload 9, 2) := by decide +kernel
theorem d_WF_putTurned_62 : decode b_WF_putTurned 62 = .ok (.iload 8, 2) := by decide +kernel
theorem d_WF_putTurned_64 : decode b_WF_putTurned 64 = .ok (.iload_n 3, 1) := by decide +kernel
theorem d_WF_putTurned_65 : decode b_WF_putTurned 65 = .ok (.iload 4, 2) := by decide +kernel
theorem d_WF_putTurned_67 : decode b_WF_putTurned 67 = .ok (.iload 7, 2) := by decide +kernel
theorem d_WF_putTurned_69 : decode b_WF_putTurned 69 = .ok (.invokestatic 205, 3) := by decide +kernel
theorem d_WF_putTurned_72 : decode b_WF_putTurned 72 = .ok (.iadd, 1) := by decide +kernel
theorem d_WF_putTurned_73 : decode b_WF_putTurned 73 = .ok (.istore 12, 2) := by decide +kernel
theorem d_WF_putTurned_75 : decode b_WF_putTurned 75 = .ok (.aload_n 0, 1) := by decide +kernel
theorem d_WF_putTurned_76 : decode b_WF_putTurned 76 = .ok (.getfield 12, 3) := by decide +kernel
theorem d_WF_putTurned_79 : decode b_WF_putTurned 79 = .ok (.iload 11, 2) := by decide +kernel
theorem d_WF_putTurned_81 : decode b_WF_putTurned 81 = .ok (.iload 12, 2) := by decide +kernel
theorem d_WF_putTurned_83 : decode b_WF_putTurned 83 = .ok (.iload 10, 2) := by decide +kernel
theorem d_WF_putTurned_85 : decode b_WF_putTurned 85 = .ok (.invokevirtual 142, 3) := by decide +kernel
theorem d_WF_putTurned_88 : decode b_WF_putTurned 88 = .ok (.iinc 9 1, 3) := by decide +kernel
theorem d_WF_putTurned_91 : decode b_WF_putTurned 91 = .ok (.goto (-78), 3) := by decide +kernel
theorem d_WF_putTurned_94 : decode b_WF_putTurned 94 = .ok (.iinc 8 1, 3) := by decide +kernel
theorem d_WF_putTurned_97 : decode b_WF_putTurned 97 = .ok (.goto (-94), 3) := by decide +kernel
theorem d_WF_putTurned_100 : decode b_WF_putTurned 100 = .ok (.return_, 1) := by decide +kernel
abbrev b_WF_turnedX : ByteArray := prog_1_method_20_code
theorem d_WF_turnedX_0 : decode b_WF_turnedX 0 = .ok (.iload 4, 2) := by decide +kernel
theorem d_WF_turnedX_2 : decode b_WF_turnedX 2 = .ok (.tableswitch 40 1 3 #[26, 32, 38], 26) := by decide +kernel
theorem d_WF_turnedX_28 : decode b_WF_turnedX 28 = .ok (.iload_n 3, 1) := by decide +kernel
theorem d_WF_turnedX_29 : decode b_WF_turnedX 29 = .ok (.iconst 1, 1) := by decide +kernel
theorem d_WF_turnedX_30 : decode b_WF_turnedX 30 = .ok (.isub, 1) := by decide +kernel
theorem d_WF_turnedX_31 : decode b_WF_turnedX 31 = .ok (.iload_n 1, 1) := by decide +kernel
theorem d_WF_turnedX_32 : decode b_WF_turnedX 32 = .ok (.isub, 1) := by decide +kernel
theorem d_WF_turnedX_33 : decode b_WF_turnedX 33 = .ok (.ireturn, 1) := by decide +kernel
theorem d_WF_turnedX_34 : decode b_WF_turnedX 34 = .ok (.iload_n 2, 1) := by decide +kernel
theorem d_WF_turnedX_35 : decode b_WF_turnedX 35 = .ok (.iconst 1, 1) := by decide +kernel
theorem d_WF_turnedX_36 : decode b_WF_turnedX 36 = .ok (.isub, 1) := by decide +kernel
theorem d_WF_turnedX_37 : decode b_WF_turnedX 37 = .ok (.iload_n 0, 1) := by decide +kernel
theorem d_WF_turnedX_38 : decode b_WF_turnedX 38 = .ok (.isub, 1) := by decide +kernel
theorem d_WF_turnedX_39 : decode b_WF_turnedX 39 = .ok (.ireturn, 1) := by decide +kernel
theorem d_WF_turnedX_40 : decode b_WF_turnedX 40 = .ok (.iload_n 1, 1) := by decide +kernel
theorem d_WF_turnedX_41 : decode b_WF_turnedX 41 = .ok (.ireturn, 1) := by decide +kernel
theorem d_WF_turnedX_42 : decode b_WF_turnedX 42 = .ok (.iload_n 0, 1) := by decide +kernel
theorem d_WF_turnedX_43 : decode b_WF_turnedX 43 = .ok (.ireturn, 1) := by decide +kernel
abbrev b_WF_turnedY : ByteArray := prog_1_method_21_code
theorem d_WF_turnedY_0 : decode b_WF_turnedY 0 = .ok (.iload 4, 2) := by decide +kernel
theorem d_WF_turnedY_2 : decode b_WF_turnedY 2 = .ok (.tableswitch 40 1 3 #[26, 28, 34], 26) := by decide +kernel
theorem d_WF_turnedY_28 : decode b_WF_turnedY 28 = .ok (.iload_n 0, 1) := by decide +kernel
theorem d_WF_turnedY_29 : decode b_WF_turnedY 29 = .ok (.ireturn, 1) := by decide +kernel
theorem d_WF_turnedY_30 : decode b_WF_turnedY 30 = .ok (.iload_n 3, 1) := by decide +kernel
theorem d_WF_turnedY_31 : decode b_WF_turnedY 31 = .ok (.iconst 1, 1) := by decide +kernel
theorem d_WF_turnedY_32 : decode b_WF_turnedY 32 = .ok (.isub, 1) := by decide +kernel
theorem d_WF_turnedY_33 : decode b_WF_turnedY 33 = .ok (.iload_n 1, 1) := by decide +kernel
theorem d_WF_turnedY_34 : decode b_WF_turnedY 34 = .ok (.isub, 1) := by decide +kernel
theorem d_WF_turnedY_35 : decode b_WF_turnedY 35 = .ok (.ireturn, 1) := by decide +kernel
theorem d_WF_turnedY_36 : decode b_WF_turnedY 36 = .ok (.iload_n 2, 1) := by decide +kernel
theorem d_WF_turnedY_37 : decode b_WF_turnedY 37 = .ok (.iconst 1, 1) := by decide +kernel
theorem d_WF_turnedY_38 : decode b_WF_turnedY 38 = .ok (.isub, 1) := by decide +kernel
theorem d_WF_turnedY_39 : decode b_WF_turnedY 39 = .ok (.iload_n 0, 1) := by decide +kernel
theorem d_WF_turnedY_40 : decode b_WF_turnedY 40 = .ok (.isub, 1) := by decide +kernel
theorem d_WF_turnedY_41 : decode b_WF_turnedY 41 = .ok (.ireturn, 1) := by decide +kernel
theorem d_WF_turnedY_42 : decode b_WF_turnedY 42 = .ok (.iload_n 1, 1) := by decide +kernel
theorem d_WF_turnedY_43 : decode b_WF_turnedY 43 = .ok (.ireturn, 1) := by decide +kernel
abbrev b_WF_forgetHistory : ByteArray := prog_1_method_22_code
theorem d_WF_forgetHistory_0 : decode b_WF_forgetHistory 0 = .ok (.aload_n 0, 1) := by decide +kernel
theorem d_WF_forgetHistory_1 : decode b_WF_forgetHistory 1 = .ok (.iconst 0, 1) := by decide +kernel
theorem d_WF_forgetHistory_2 : decode b_WF_forgetHistory 2 = .ok (.putfield 66, 3) := by decide +kernel
theorem d_WF_forgetHistory_5 : decode b_WF_forgetHistory 5 = .ok (.return_, 1) := by decide +kernel
abbrev b_WF_momentAt : ByteArray := prog_1_method_23_code
theorem d_WF_momentAt_0 : decode b_WF_momentAt 0 = .ok (.aload_n 0, 1) := by decide +kernel
theorem d_WF_momentAt_1 : decode b_WF_momentAt 1 = .ok (.getfield 62, 3) := by decide +kernel
theorem d_WF_momentAt_4 : decode b_WF_momentAt 4 = .ok (.iload_n 1, 1) := by decide +kernel
theorem d_WF_momentAt_5 : decode b_WF_momentAt 5 = .ok (.bipush 16, 2) := by decide +kernel
theorem d_WF_momentAt_7 : decode b_WF_momentAt 7 = .ok (.invokestatic 208, 3) := by decide +kernel
theorem d_WF_momentAt_10 : decode b_WF_momentAt 10 = .ok (.aaload, 1) := by decide +kernel
theorem d_WF_momentAt_11 : decode b_WF_momentAt 11 = .ok (.areturn, 1) := by decide +kernel
abbrev b_WF_makeGeneration : ByteArray := prog_1_method_24_code
theorem d_WF_makeGeneration_0 : decode b_WF_makeGeneration 0 = .ok (.aload_n 0, 1) := by decide +kernel
theorem d_WF_makeGeneration_1 : decode b_WF_makeGeneration 1 = .ok (.invokevirtual 213, 3) := by decide +kernel
theorem d_WF_makeGeneration_4 : decode b_WF_makeGeneration 4 = .ok (.iconst 0, 1) := by decide +kernel
theorem d_WF_makeGeneration_5 : decode b_WF_makeGeneration 5 = .ok (.istore_n 1, 1) := by decide +kernel
theorem d_WF_makeGeneration_6 : decode b_WF_makeGeneration 6 = .ok (.iload_n 1, 1) := by decide +kernel
theorem d_WF_makeGeneration_7 : decode b_WF_makeGeneration 7 = .ok (.aload_n 0, 1) := by decide +kernel
theorem d_WF_makeGeneration_8 : decode b_WF_makeGeneration 8 = .ok (.getfield 47, 3) := by decide +kernel
theorem d_WF_makeGeneration_11 : decode b_WF_makeGeneration 11 = .ok (.if_icmp .ge 22, 3) := by decide +kernel
theorem d_WF_makeGeneration_14 : decode b_WF_makeGeneration 14 = .ok (.aload_n 0, 1) := by decide +kernel
theorem d_WF_makeGeneration_15 : decode b_WF_makeGeneration 15 = .ok (.getfield 43, 3) := by decide +kernel
theorem d_WF_makeGeneration_18 : decode b_WF_makeGeneration 18 = .ok (.iload_n 1, 1) := by decide +kernel
theorem d_WF_makeGeneration_19 : decode b_WF_makeGeneration 19 = .ok (.aaload, 1) := by decide +kernel
theorem d_WF_makeGeneration_20 : decode b_WF_makeGeneration 20 = .ok (.aload_n 0, 1) := by decide +kernel
theorem d_WF_makeGeneration_21 : decode b_WF_makeGeneration 21 = .ok (.getfield 12, 3) := by decide +kernel
theorem d_WF_makeGeneration_24 : decode b_WF_makeGeneration 24 = .ok (.invokevirtual 216, 3) := by decide +kernel
theorem d_WF_makeGeneration_27 : decode b_WF_makeGeneration 27 = .ok (.iinc 1 1, 3) := by decide +kernel
theorem d_WF_makeGeneration_30 : decode b_WF_makeGeneration 30 = .ok (.goto (-24), 3) := by decide +kernel
theorem d_WF_makeGeneration_33 : decode b_WF_makeGeneration 33 = .ok (.aload_n 0, 1) := by decide +kernel
theorem d_WF_makeGeneration_34 : decode b_WF_makeGeneration 34 = .ok (.getfield 16, 3) := by decide +kernel
theorem d_WF_makeGeneration_37 : decode b_WF_makeGeneration 37 = .ok (.aload_n 0, 1) := by decide +kernel
theorem d_WF_makeGeneration_38 : decode b_WF_makeGeneration 38 = .ok (.getfield 12, 3) := by decide +kernel
theorem d_WF_makeGeneration_41 : decode b_WF_makeGeneration 41 = .ok (.invokevirtual 219, 3) := by decide +kernel
theorem d_WF_makeGeneration_44 : decode b_WF_makeGeneration 44 = .ok (.aload_n 0, 1) := by decide +kernel
theorem d_WF_makeGeneration_45 : decode b_WF_makeGeneration 45 = .ok (.getfield 12, 3) := by decide +kernel
theorem d_WF_makeGeneration_48 : decode b_WF_makeGeneration 48 = .ok (.aload_n 0, 1) := by decide +kernel
theorem d_WF_makeGeneration_49 : decode b_WF_makeGeneration 49 = .ok (.getfield 16, 3) := by decide +kernel
theorem d_WF_makeGeneration_52 : decode b_WF_makeGeneration 52 = .ok (.invokevirtual 122, 3) := by decide +kernel
theorem d_WF_makeGeneration_55 : decode b_WF_makeGeneration 55 = .ok (.aload_n 0, 1) := by decide +kernel
theorem d_WF_makeGeneration_56 : decode b_WF_makeGeneration 56 = .ok (.dup, 1) := by decide +kernel
theorem d_WF_makeGeneration_57 : decode b_WF_makeGeneration 57 = .ok (.getfield 69, 3) := by decide +kernel
theorem d_WF_makeGeneration_60 : decode b_WF_makeGeneration 60 = .ok (.iconst 1, 1) := by decide +kernel
theorem d_WF_makeGeneration_61 : decode b_WF_makeGeneration 61 = .ok (.iadd, 1) := by decide +kernel
theorem d_WF_makeGeneration_62 : decode b_WF_makeGeneration 62 = .ok (.putfield 69, 3) := by decide +kernel
theorem d_WF_makeGeneration_65 : decode b_WF_makeGeneration 65 = .ok (.iconst 0, 1) := by decide +kernel
theorem d_WF_makeGeneration_66 : decode b_WF_makeGeneration 66 = .ok (.istore_n 1, 1) := by decide +kernel
theorem d_WF_makeGeneration_67 : decode b_WF_makeGeneration 67 = .ok (.iload_n 1, 1) := by decide +kernel
theorem d_WF_makeGeneration_68 : decode b_WF_makeGeneration 68 = .ok (.aload_n 0, 1) := by decide +kernel
theorem d_WF_makeGeneration_69 : decode b_WF_makeGeneration 69 = .ok (.getfield 57, 3) := by decide +kernel
theorem d_WF_makeGeneration_72 : decode b_WF_makeGeneration 72 = .ok (.if_icmp .ge 26, 3) := by decide +kernel
theorem d_WF_makeGeneration_75 : decode b_WF_makeGeneration 75 = .ok (.aload_n 0, 1) := by decide +kernel
theorem d_WF_makeGeneration_76 : decode b_WF_makeGeneration 76 = .ok (.getfield 53, 3) := by decide +kernel
theorem d_WF_makeGeneration_79 : decode b_WF_makeGeneration 79 = .ok (.iload_n 1, 1) := by decide +kernel
theorem d_WF_makeGeneration_80 : decode b_WF_makeGeneration 80 = .ok (.aaload, 1) := by decide +kernel
theorem d_WF_makeGeneration_81 : decode b_WF_makeGeneration 81 = .ok (.aload_n 0, 1) := by decide +kernel
theorem d_WF_makeGeneration_82 : decode b_WF_makeGeneration 82 = .ok (.getfield 12, 3) := by decide +kernel
theorem d_WF_makeGeneration_85 : decode b_WF_makeGeneration 85 = .ok (.aload_n 0, 1) := by decide +kernel
theorem d_WF_makeGeneration_86 : decode b_WF_makeGeneration 86 = .ok (.getfield 69, 3) := by decide +kernel
theorem d_WF_makeGeneration_89 : decode b_WF_makeGeneration 89 = .ok (.invokevirtual 222, 3) := by decide +kernel
theorem d_WF_makeGeneration_92 : decode b_WF_makeGeneration 92 = .ok (.iinc 1 1, 3) := by decide +kernel
theorem d_WF_makeGeneration_95 : decode b_WF_makeGeneration 95 = .ok (.goto (-28), 3) := by decide +kernel
theorem d_WF_makeGeneration_98 : decode b_WF_makeGeneration 98 = .ok (.return_, 1) := by decide +kernel
abbrev b_WF_keepMoment : ByteArray := prog_1_method_25_code
theorem d_WF_keepMoment_0 : decode b_WF_keepMoment 0 = .ok (.aload_n 0, 1) := by decide +kernel
theorem d_WF_keepMoment_1 : decode b_WF_keepMoment 1 = .ok (.aload_n 0, 1) := by decide +kernel
theorem d_WF_keepMoment_2 : decode b_WF_keepMoment 2 = .ok (.getfield 69, 3) := by decide +kernel
theorem d_WF_keepMoment_5 : decode b_WF_keepMoment 5 = .ok (.invokevirtual 171, 3) := by decide +kernel
theorem d_WF_keepMoment_8 : decode b_WF_keepMoment 8 = .ok (.astore_n 1, 1) := by decide +kernel
theorem d_WF_keepMoment_9 : decode b_WF_keepMoment 9 = .ok (.aload_n 1, 1) := by decide +kernel
theorem d_WF_keepMoment_10 : decode b_WF_keepMoment 10 = .ok (.getfield 175, 3) := by decide +kernel
theorem d_WF_keepMoment_13 : decode b_WF_keepMoment 13 = .ok (.aload_n 0, 1) := by decide +kernel
theorem d_WF_keepMoment_14 : decode b_WF_keepMoment 14 = .ok (.getfield 12, 3) := by decide +kernel
theorem d_WF_keepMoment_17 : decode b_WF_keepMoment 17 = .ok (.invokevirtual 122, 3) := by decide +kernel
theorem d_WF_keepMoment_20 : decode b_WF_keepMoment 20 = .ok (.iconst 0, 1) := by decide +kernel
theorem d_WF_keepMoment_21 : decode b_WF_keepMoment 21 = .ok (.istore_n 2, 1) := by decide +kernel
theorem d_WF_keepMoment_22 : decode b_WF_keepMoment 22 = .ok (.iload_n 2, 1) := by decide +kernel
theorem d_WF_keepMoment_23 : decode b_WF_keepMoment 23 = .ok (.iconst 4, 1) := by decide +kernel
theorem d_WF_keepMoment_24 : decode b_WF_keepMoment 24 = .ok (.if_icmp .ge 24, 3) := by decide +kernel
theorem d_WF_keepMoment_27 : decode b_WF_keepMoment 27 = .ok (.aload_n 1, 1) := by decide +kernel
theorem d_WF_keepMoment_28 : decode b_WF_keepMoment 28 = .ok (.getfield 178, 3) := by decide +kernel
theorem d_WF_keepMoment_31 : decode b_WF_keepMoment 31 = .ok (.iload_n 2, 1) := by decide +kernel
theorem d_WF_keepMoment_32 : decode b_WF_keepMoment 32 = .ok (.aload_n 0, 1) := by decide +kernel
theorem d_WF_keepMoment_33 : decode b_WF_keepMoment 33 = .ok (.getfield 43, 3) := by decide +kernel
theorem d_WF_keepMoment_36 : decode b_WF_keepMoment 36 = .ok (.iload_n 2, 1) := by decide +kernel
theorem d_WF_keepMoment_37 : decode b_WF_keepMoment 37 = .ok (.aaload, 1) := by decide +kernel
theorem d_WF_keepMoment_38 : decode b_WF_keepMoment 38 = .ok (.getfield 182, 3) := by decide +kernel
theorem d_WF_keepMoment_41 : decode b_WF_keepMoment 41 = .ok (.iastore, 1) := by decide +kernel
theorem d_WF_keepMoment_42 : decode b_WF_keepMoment 42 = .ok (.iinc 2 1, 3) := by decide +kernel
theorem d_WF_keepMoment_45 : decode b_WF_keepMoment 45 = .ok (.goto (-23), 3) := by decide +kernel
theorem d_WF_keepMoment_48 : decode b_WF_keepMoment 48 = .ok (.aload_n 0, 1) := by decide +kernel
theorem d_WF_keepMoment_49 : decode b_WF_keepMoment 49 = .ok (.aload_n 0, 1) := by decide +kernel
theorem d_WF_keepMoment_50 : decode b_WF_keepMoment 50 = .ok (.getfield 66, 3) := by decide +kernel
theorem d_WF_keepMoment_53 : decode b_WF_keepMoment 53 = .ok (.iconst 1, 1) := by decide +kernel
theorem d_WF_keepMoment_54 : decode b_WF_keepMoment 54 = .ok (.iadd, 1) := by decide +kernel
theorem d_WF_keepMoment_55 : decode b_WF_keepMoment 55 = .ok (.bipush 16, 2) := by decide +kernel
theorem d_WF_keepMoment_57 : decode b_WF_keepMoment 57 = .ok (.invokestatic 226, 3) := by decide +kernel
theorem d_WF_keepMoment_60 : decode b_WF_keepMoment 60 = .ok (.putfield 66, 3) := by decide +kernel
theorem d_WF_keepMoment_63 : decode b_WF_keepMoment 63 = .ok (.return_, 1) := by decide +kernel
abbrev b_WF_macrosOfLineAreThere : ByteArray := prog_1_method_26_code
theorem d_WF_macrosOfLineAreThere_0 : decode b_WF_macrosOfLineAreThere 0 = .ok (.aload_n 0, 1) := by decide +kernel
theorem d_WF_macrosOfLineAreThere_1 : decode b_WF_macrosOfLineAreThere 1 = .ok (.getfield 29, 3) := by decide +kernel
theorem d_WF_macrosOfLineAreThere_4 : decode b_WF_macrosOfLineAreThere 4 = .ok (.invokevirtual 229, 3) := by decide +kernel
theorem d_WF_macrosOfLineAreThere_7 : decode b_WF_macrosOfLineAreThere 7 = .ok (.istore_n 1, 1) := by decide +kernel
theorem d_WF_macrosOfLineAreThere_8 : decode b_WF_macrosOfLineAreThere 8 = .ok (.iconst 3, 1) := by decide +kernel
theorem d_WF_macrosOfLineAreThere_9 : decode b_WF_macrosOfLineAreThere 9 = .ok (.istore_n 2, 1) := by decide +kernel
theorem d_WF_macrosOfLineAreThere_10 : decode b_WF_macrosOfLineAreThere 10 = .ok (.iload_n 2, 1) := by decide +kernel
theorem d_WF_macrosOfLineAreThere_11 : decode b_WF_macrosOfLineAreThere 11 = .ok (.ifCond .lt 41, 3) := by decide +kernel
theorem d_WF_macrosOfLineAreThere_14 : decode b_WF_macrosOfLineAreThere 14 = .ok (.iload_n 1, 1) := by decide +kernel
theorem d_WF_macrosOfLineAreThere_15 : decode b_WF_macrosOfLineAreThere 15 = .ok (.iload_n 2, 1) := by decide +kernel
theorem d_WF_macrosOfLineAreThere_16 : decode b_WF_macrosOfLineAreThere 16 = .ok (.ishr, 1) := by decide +kernel
theorem d_WF_macrosOfLineAreThere_17 : decode b_WF_macrosOfLineAreThere 17 = .ok (.iconst 1, 1) := by decide +kernel
theorem d_WF_macrosOfLineAreThere_18 : decode b_WF_macrosOfLineAreThere 18 = .ok (.iand, 1) := by decide +kernel
theorem d_WF_macrosOfLineAreThere_19 : decode b_WF_macrosOfLineAreThere 19 = .ok (.iconst 1, 1) := by decide +kernel
theorem d_WF_macrosOfLineAreThere_20 : decode b_WF_macrosOfLineAreThere 20 = .ok (.if_icmp .ne 26, 3) := by decide +kernel
theorem d_WF_macrosOfLineAreThere_23 : decode b_WF_macrosOfLineAreThere 23 = .ok (.aload_n 0, 1) := by decide +kernel
theorem d_WF_macrosOfLineAreThere_24 : decode b_WF_macrosOfLineAreThere 24 = .ok (.getfield 37, 3) := by decide +kernel
theorem d_WF_macrosOfLineAreThere_27 : decode b_WF_macrosOfLineAreThere 27 = .ok (.iload_n 2, 1) := by decide +kernel
theorem d_WF_macrosOfLineAreThere_28 : decode b_WF_macrosOfLineAreThere 28 = .ok (.baload, 1) := by decide +kernel
theorem d_WF_macrosOfLineAreThere_29 : decode b_WF_macrosOfLineAreThere 29 = .ok (.ifCond .ne 5, 3) := by decide +kernel
theorem d_WF_macrosOfLineAreThere_32 : decode b_WF_macrosOfLineAreThere 32 = .ok (.iconst 0, 1) := by decide +kernel
theorem d_WF_macrosOfLineAreThere_33 : decode b_WF_macrosOfLineAreThere 33 = .ok (.ireturn, 1) := by decide +kernel
theorem d_WF_macrosOfLineAreThere_34 : decode b_WF_macrosOfLineAreThere 34 = .ok (.iload_n 1, 1) := by decide +kernel
theorem d_WF_macrosOfLineAreThere_35 : decode b_WF_macrosOfLineAreThere 35 = .ok (.aload_n 0, 1) := by decide +kernel
theorem d_WF_macrosOfLineAreThere_36 : decode b_WF_macrosOfLineAreThere 36 = .ok (.getfield 33, 3) := by decide +kernel
theorem d_WF_macrosOfLineAreThere_39 : decode b_WF_macrosOfLineAreThere 39 = .ok (.iload_n 2, 1) := by decide +kernel
theorem d_WF_macrosOfLineAreThere_40 : decode b_WF_macrosOfLineAreThere 40 = .ok (.aaload, 1) := by decide +kernel
theorem d_WF_macrosOfLineAreThere_41 : decode b_WF_macrosOfLineAreThere 41 = .ok (.invokevirtual 229, 3) := by decide +kernel
theorem d_WF_macrosOfLineAreThere_44 : decode b_WF_macrosOfLineAreThere 44 = .ok (.ior, 1) := by decide +kernel
theorem d_WF_macrosOfLineAreThere_45 : decode b_WF_macrosOfLineAreThere 45 = .ok (.istore_n 1, 1) := by decide +kernel
theorem d_WF_macrosOfLineAreThere_46 : decode b_WF_macrosOfLineAreThere 46 = .ok (.iinc 2 (-1), 3) := by decide +kernel
theorem d_WF_macrosOfLineAreThere_49 : decode b_WF_macrosOfLineAreThere 49 = .ok (.goto (-39), 3) := by decide +kernel
theorem d_WF_macrosOfLineAreThere_52 : decode b_WF_macrosOfLineAreThere 52 = .ok (.iconst 1, 1) := by decide +kernel
theorem d_WF_macrosOfLineAreThere_53 : decode b_WF_macrosOfLineAreThere 53 = .ok (.ireturn, 1) := by decide +kernel
abbrev b_WF_perform : ByteArray := prog_1_method_27_code
theorem d_WF_perform_0 : decode b_WF_perform 0 = .ok (.iload 4, 2) := by decide +kernel
theorem d_WF_perform_2 : decode b_WF_perform 2 = .ok (.bipush 20, 2) := by decide +kernel
theorem d_WF_perform_4 : decode b_WF_perform 4 = .ok (.if_icmp .le 5, 3) := by decide +kernel
theorem d_WF_perform_7 : decode b_WF_perform 7 = .ok (.iconst 0, 1) := by decide +kernel
theorem d_WF_perform_8 : decode b_WF_perform 8 = .ok (.ireturn, 1) := by decide +kernel
theorem d_WF_perform_9 : decode b_WF_perform 9 = .ok (.iload_n 2, 1) := by decide +kernel
theorem d_WF_perform_10 : decode b_WF_perform 10 = .ok (.istore 5, 2) := by decide +kernel
theorem d_WF_perform_12 : decode b_WF_perform 12 = .ok (.iconst 0, 1) := by decide +kernel
theorem d_WF_perform_13 : decode b_WF_perform 13 = .ok (.istore 6, 2) := by decide +kernel
theorem d_WF_perform_15 : decode b_WF_perform 15 = .ok (.iload 6, 2) := by decide +kernel
theorem d_WF_perform_17 : decode b_WF_perform 17 = .ok (.bipush 60, 2) := by decide +kernel
theorem d_WF_perform_19 : decode b_WF_perform 19 = .ok (.if_icmp .ge 85, 3) := by decide +kernel
theorem d_WF_perform_22 : decode b_WF_perform 22 = .ok (.iload 5, 2) := by decide +kernel
theorem d_WF_perform_24 : decode b_WF_perform 24 = .ok (.iload_n 3, 1) := by decide +kernel
theorem d_WF_perform_25 : decode b_WF_perform 25 = .ok (.if_icmp .ge 79, 3) := by decide +kernel
theorem d_WF_perform_28 : decode b_WF_perform 28 = .ok (.aload_n 1, 1) := by decide +kernel
theorem d_WF_perform_29 : decode b_WF_perform 29 = .ok (.iload 5, 2) := by decide +kernel
theorem d_WF_perform_31 : decode b_WF_perform 31 = .ok (.invokevirtual 233, 3) := by decide +kernel
theorem d_WF_perform_34 : decode b_WF_perform 34 = .ok (.istore 7, 2) := by decide +kernel
theorem d_WF_perform_36 : decode b_WF_perform 36 = .ok (.iload 5, 2) := by decide +kernel
theorem d_WF_perform_38 : decode b_WF_perform 38 = .ok (.aload_n 1, 1) := by decide +kernel
theorem d_WF_perform_39 : decode b_WF_perform 39 = .ok (.iload 5, 2) := by decide +kernel
theorem d_WF_perform_41 : decode b_WF_perform 41 = .ok (.invokevirtual 236, 3) := by decide +kernel
theorem d_WF_perform_44 : decode b_WF_perform 44 = .ok (.iadd, 1) := by decide +kernel
theorem d_WF_perform_45 : decode b_WF_perform 45 = .ok (.istore 8, 2) := by decide +kernel
theorem d_WF_perform_47 : decode b_WF_perform 47 = .ok (.aload_n 1, 1) := by decide +kernel
theorem d_WF_perform_48 : decode b_WF_perform 48 = .ok (.iload 8, 2) := by decide +kernel
theorem d_WF_perform_50 : decode b_WF_perform 50 = .ok (.invokevirtual 239, 3) := by decide +kernel
theorem d_WF_perform_53 : decode b_WF_perform 53 = .ok (.istore 9, 2) := by decide +kernel
theorem d_WF_perform_55 : decode b_WF_perform 55 = .ok (.iload 9, 2) := by decide +kernel
theorem d_WF_perform_57 : decode b_WF_perform 57 = .ok (.ifCond .ge 5, 3) := by decide +kernel
theorem d_WF_perform_60 : decode b_WF_perform 60 = .ok (.iconst 0, 1) := by decide +kernel
theorem d_WF_perform_61 : decode b_WF_perform 61 = .ok (.ireturn, 1) := by decide +kernel
theorem d_WF_perform_62 : decode b_WF_perform 62 = .ok (.iconst 0, 1) := by decide +kernel
theorem d_WF_perform_63 : decode b_WF_perform 63 = .ok (.istore 10, 2) := by decide +kernel
theorem d_WF_perform_65 : decode b_WF_perform 65 = .ok (.iload 10, 2) := by decide +kernel
theorem d_WF_perform_67 : decode b_WF_perform 67 = .ok (.iload 7, 2) := by decide +kernel
theorem d_WF_perform_69 : decode b_WF_perform 69 = .ok (.if_icmp .ge 25, 3) := by decide +kernel
theorem d_WF_perform_72 : decode b_WF_perform 72 = .ok (.aload_n 0, 1) := by decide +kernel
theorem d_WF_perform_73 : decode b_WF_perform 73 = .ok (.aload_n 1, 1) := by decide +kernel
theorem d_WF_perform_74 : decode b_WF_perform 74 = .ok (.iload 8, 2) := by decide +kernel
theorem d_WF_perform_76 : decode b_WF_perform 76 = .ok (.iload 9, 2) := by decide +kernel
theorem d_WF_perform_78 : decode b_WF_perform 78 = .ok (.iload 4, 2) := by decide +kernel
theorem d_WF_perform_80 : decode b_WF_perform 80 = .ok (.invokevirtual 242, 3) := by decide +kernel
theorem d_WF_perform_83 : decode b_WF_perform 83 = .ok (.ifCond .ne 5, 3) := by decide +kernel
theorem d_WF_perform_86 : decode b_WF_perform 86 = .ok (.iconst 0, 1) := by decide +kernel
theorem d_WF_perform_87 : decode b_WF_perform 87 = .ok (.ireturn, 1) := by decide +kernel
theorem d_WF_perform_88 : decode b_WF_perform 88 = .ok (.iinc 10 1, 3) := by decide +kernel
theorem d_WF_perform_91 : decode b_WF_perform 91 = .ok (.goto (-26), 3) := by decide +kernel
theorem d_WF_perform_94 : decode b_WF_perform 94 = .ok (.iload 9, 2) := by decide +kernel
theorem d_WF_perform_96 : decode b_WF_perform 96 = .ok (.istore 5, 2) := by decide +kernel
theorem d_WF_perform_98 : decode b_WF_perform 98 = .ok (.iinc 6 1, 3) := by decide +kernel
theorem d_WF_perform_101 : decode b_WF_perform 101 = .ok (.goto (-86), 3) := by decide +kernel
theorem d_WF_perform_104 : decode b_WF_perform 104 = .ok (.iconst 1, 1) := by decide +kernel
theorem d_WF_perform_105 : decode b_WF_perform 105 = .ok (.ireturn, 1) := by decide +kernel
abbrev b_WF_performOrder : ByteArray := prog_1_method_28_code
theorem d_WF_performOrder_0 : decode b_WF_performOrder 0 = .ok (.aload_n 0, 1) := by decide +kernel
theorem d_WF_performOrder_1 : decode b_WF_performOrder 1 = .ok (.getfield 22, 3) := by decide +kernel
theorem d_WF_performOrder_4 : decode b_WF_performOrder 4 = .ok (.invokevirtual 245, 3) := by decide +kernel
theorem d_WF_performOrder_7 : decode b_WF_performOrder 7 = .ok (.ifCond .ne 5, 3) := by decide +kernel
theorem d_WF_performOrder_10 : decode b_WF_performOrder 10 = .ok (.iconst 0, 1) := by decide +kernel
theorem d_WF_performOrder_11 : decode b_WF_performOrder 11 = .ok (.ireturn, 1) := by decide +kernel
theorem d_WF_performOrder_12 : decode b_WF_performOrder 12 = .ok (.aload_n 1, 1) := by decide +kernel
theorem d_WF_performOrder_13 : decode b_WF_performOrder 13 = .ok (.iload_n 2, 1) := by decide +kernel
theorem d_WF_performOrder_14 : decode b_WF_performOrder 14 = .ok (.invokevirtual 248, 3) := by decide +kernel
theorem d_WF_performOrder_17 : decode b_WF_performOrder 17 = .ok (.lookupswitch 86 #[(40, 35), (64, 67), (91, 51)], 35) := by decide +kernel
theorem d_WF_performOrder_52 : decode b_WF_performOrder 52 = .ok (.aload_n 0, 1) := by decide +kernel
theorem d_WF_performOrder_53 : decode b_WF_performOrder 53 = .ok (.aload_n 1, 1) := by decide +kernel
theorem d_WF_performOrder_54 : decode b_WF_performOrder 54 = .ok (.iload_n 2, 1) := by decide +kernel
theorem d_WF_performOrder_55 : decode b_WF_performOrder 55 = .ok (.iconst 1, 1) := by decide +kernel
theorem d_WF_performOrder_56 : decode b_WF_performOrder 56 = .ok (.iadd, 1) := by decide +kernel
theorem d_WF_performOrder_57 : decode b_WF_performOrder 57 = .ok (.iload_n 3, 1) := by decide +kernel
theorem d_WF_performOrder_58 : decode b_WF_performOrder 58 = .ok (.iconst 1, 1) := by decide +kernel
theorem d_WF_performOrder_59 : decode b_WF_performOrder 59 = .ok (.isub, 1) := by decide +kernel
theorem d_WF_performOrder_60 : decode b_WF_performOrder 60 = .ok (.iload 4, 2) := by decide +kernel
theorem d_WF_performOrder_62 : decode b_WF_performOrder 62 = .ok (.iconst 1, 1) := by decide +kernel
theorem d_WF_performOrder_63 : decode b_WF_performOrder 63 = .ok (.iadd, 1) := by decide +kernel
theorem d_WF_performOrder_64 : decode b_WF_performOrder 64 = .ok (.invokevirtual 252, 3) := by decide +kernel
theorem d_WF_performOrder_67 : decode b_WF_performOrder 67 = .ok (.ireturn, 1) := by decide +kernel
theorem d_WF_performOrder_68 : decode b_WF_performOrder 68 = .ok (.aload_n 0, 1) := by decide +kernel
theorem d_WF_performOrder_69 : decode b_WF_performOrder 69 = .ok (.aload_n 1, 1) := by decide +kernel
theorem d_WF_performOrder_70 : decode b_WF_performOrder 70 = .ok (.iload_n 2, 1) := by decide +kernel
theorem d_WF_performOrder_71 : decode b_WF_performOrder 71 = .ok (.iconst 1, 1) := by decide +kernel
theorem d_WF_performOrder_72 : decode b_WF_performOrder 72 = .ok (.iadd, 1) := by decide +kernel
theorem d_WF_performOrder_73 : decode b_WF_performOrder 73 = .ok (.iload_n 3, 1) := by decide +kernel
theorem d_WF_performOrder_74 : decode b_WF_performOrder 74 = .ok (.iconst 1, 1) := by decide +kernel
theorem d_WF_performOrder_75 : decode b_WF_performOrder 75 = .ok (.isub, 1) := by decide +kernel
theorem d_WF_performOrder_76 : decode b_WF_performOrder 76 = .ok (.iload 4, 2) := by decide +kernel
theorem d_WF_performOrder_78 : decode b_WF_performOrder 78 = .ok (.iconst 1, 1) := by decide +kernel
theorem d_WF_performOrder_79 : decode b_WF_performOrder 79 = .ok (.iadd, 1) := by decide +kernel
theorem d_WF_performOrder_80 : decode b_WF_performOrder 80 = .ok (.invokevirtual 110, 3) := by decide +kernel
theorem d_WF_performOrder_83 : decode b_WF_performOrder 83 = .ok (.ireturn, 1) := by decide +kernel
theorem d_WF_performOrder_84 : decode b_WF_performOrder 84 = .ok (.aload_n 0, 1) := by decide +kernel
theorem d_WF_performOrder_85 : decode b_WF_performOrder 85 = .ok (.aload_n 1, 1) := by decide +kernel
theorem d_WF_performOrder_86 : decode b_WF_performOrder 86 = .ok (.iload_n 2, 1) := by decide +kernel
theorem d_WF_performOrder_87 : decode b_WF_performOrder 87 = .ok (.iconst 1, 1) := by decide +kernel
theorem d_WF_performOrder_88 : decode b_WF_performOrder 88 = .ok (.iadd, 1) := by decide +kernel
theorem d_WF_performOrder_89 : decode b_WF_performOrder 89 = .ok (.invokevirtual 248, 3) := by decide +kernel
theorem d_WF_performOrder_92 : decode b_WF_performOrder 92 = .ok (.bipush 97, 2) := by decide +kernel
theorem d_WF_performOrder_94 : decode b_WF_performOrder 94 = .ok (.isub, 1) := by decide +kernel
theorem d_WF_performOrder_95 : decode b_WF_performOrder 95 = .ok (.iload 4, 2) := by decide +kernel
theorem d_WF_performOrder_97 : decode b_WF_performOrder 97 = .ok (.iconst 1, 1) := by decide +kernel
theorem d_WF_performOrder_98 : decode b_WF_performOrder 98 = .ok (.iadd, 1) := by decide +kernel
theorem d_WF_performOrder_99 : decode b_WF_performOrder 99 = .ok (.invokevirtual 255, 3) := by decide +kernel
theorem d_WF_performOrder_102 : decode b_WF_performOrder 102 = .ok (.ireturn, 1) := by decide +kernel
theorem d_WF_performOrder_103 : decode b_WF_performOrder 103 = .ok (.aload_n 0, 1) := by decide +kernel
theorem d_WF_performOrder_104 : decode b_WF_performOrder 104 = .ok (.getfield 22, 3) := by decide +kernel
theorem d_WF_performOrder_107 : decode b_WF_performOrder 107 = .ok (.aload_n 1, 1) := by decide +kernel
theorem d_WF_performOrder_108 : decode b_WF_performOrder 108 = .ok (.iload_n 2, 1) := by decide +kernel
theorem d_WF_performOrder_109 : decode b_WF_performOrder 109 = .ok (.invokevirtual 248, 3) := by decide +kernel
theorem d_WF_performOrder_112 : decode b_WF_performOrder 112 = .ok (.invokevirtual 258, 3) := by decide +kernel
theorem d_WF_performOrder_115 : decode b_WF_performOrder 115 = .ok (.ireturn, 1) := by decide +kernel
abbrev b_WF_performBranch : ByteArray := prog_1_method_29_code
theorem d_WF_performBranch_0 : decode b_WF_performBranch 0 = .ok (.aload_n 0, 1) := by decide +kernel
theorem d_WF_performBranch_1 : decode b_WF_performBranch 1 = .ok (.getfield 22, 3) := by decide +kernel
theorem d_WF_performBranch_4 : decode b_WF_performBranch 4 = .ok (.getfield 261, 3) := by decide +kernel
theorem d_WF_performBranch_7 : decode b_WF_performBranch 7 = .ok (.istore 5, 2) := by decide +kernel
theorem d_WF_performBranch_9 : decode b_WF_performBranch 9 = .ok (.aload_n 0, 1) := by decide +kernel
theorem d_WF_performBranch_10 : decode b_WF_performBranch 10 = .ok (.getfield 22, 3) := by decide +kernel
theorem d_WF_performBranch_13 : decode b_WF_performBranch 13 = .ok (.getfield 264, 3) := by decide +kernel
theorem d_WF_performBranch_16 : decode b_WF_performBranch 16 = .ok (.istore 6, 2) := by decide +kernel
theorem d_WF_performBranch_18 : decode b_WF_performBranch 18 = .ok (.aload_n 0, 1) := by decide +kernel
theorem d_WF_performBranch_19 : decode b_WF_performBranch 19 = .ok (.getfield 22, 3) := by decide +kernel
theorem d_WF_performBranch_22 : decode b_WF_performBranch 22 = .ok (.getfield 267, 3) := by decide +kernel
theorem d_WF_performBranch_25 : decode b_WF_performBranch 25 = .ok (.istore 7, 2) := by decide +kernel
theorem d_WF_performBranch_27 : decode b_WF_performBranch 27 = .ok (.aload_n 0, 1) := by decide +kernel
theorem d_WF_performBranch_28 : decode b_WF_performBranch 28 = .ok (.getfield 22, 3) := by decide +kernel
theorem d_WF_performBranch_31 : decode b_WF_performBranch 31 = .ok (.getfield 270, 3) := by decide +kernel
theorem d_WF_performBranch_34 : decode b_WF_performBranch 34 = .ok (.istore 8, 2) := by decide +kernel
theorem d_WF_performBranch_36 : decode b_WF_performBranch 36 = .ok (.aload_n 0, 1) := by decide +kernel
theorem d_WF_performBranch_37 : decode b_WF_performBranch 37 = .ok (.aload_n 1, 1) := by decide +kernel
theorem d_WF_performBranch_38 : decode b_WF_performBranch 38 = .ok (.iload_n 2, 1) := by decide +kernel
theorem d_WF_performBranch_39 : decode b_WF_performBranch 39 = .ok (.iload_n 3, 1) := by decide +kernel
theorem d_WF_performBranch_40 : decode b_WF_performBranch 40 = .ok (.iload 4, 2) := by decide +kernel
theorem d_WF_performBranch_42 : decode b_WF_performBranch 42 = .ok (.invokevirtual 110, 3) := by decide +kernel
theorem d_WF_performBranch_45 : decode b_WF_performBranch 45 = .ok (.istore 9, 2) := by decide +kernel
theorem d_WF_performBranch_47 : decode b_WF_performBranch 47 = .ok (.aload_n 0, 1) := by decide +kernel
theorem d_WF_performBranch_48 : decode b_WF_performBranch 48 = .ok (.getfield 22, 3) := by decide +kernel
theorem d_WF_performBranch_51 : decode b_WF_performBranch 51 = .ok (.iload 5, 2) := by decide +kernel
theorem d_WF_performBranch_53 : decode b_WF_performBranch 53 = .ok (.putfield 261, 3) := by decide +kernel
theorem d_WF_performBranch_56 : decode b_WF_performBranch 56 = .ok (.aload_n 0, 1) := by decide +kernel
theorem d_WF_performBranch_57 : decode b_WF_performBranch 57 = .ok (.getfield 22, 3) := by decide +kernel
theorem d_WF_performBranch_60 : decode b_WF_performBranch 60 = .ok (.iload 6, 2) := by decide +kernel
theorem d_WF_performBranch_62 : decode b_WF_performBranch 62 = .ok (.putfield 264, 3) := by decide +kernel
theorem d_WF_performBranch_65 : decode b_WF_performBranch 65 = .ok (.aload_n 0, 1) := by decide +kernel
theorem d_WF_performBranch_66 : decode b_WF_performBranch 66 = .ok (.getfield 22, 3) := by decide +kernel
theorem d_WF_performBranch_69 : decode b_WF_performBranch 69 = .ok (.iload 7, 2) := by decide +kernel
theorem d_WF_performBranch_71 : decode b_WF_performBranch 71 = .ok (.putfield 267, 3) := by decide +kernel
theorem d_WF_performBranch_74 : decode b_WF_performBranch 74 = .ok (.aload_n 0, 1) := by decide +kernel
theorem d_WF_performBranch_75 : decode b_WF_performBranch 75 = .ok (.getfield 22, 3) := by decide +kernel
theorem d_WF_performBranch_78 : decode b_WF_performBranch 78 = .ok (.iload 8, 2) := by decide +kernel
theorem d_WF_performBranch_80 : decode b_WF_performBranch 80 = .ok (.putfield 270, 3) := by decide +kernel
theorem d_WF_performBranch_83 : decode b_WF_performBranch 83 = .ok (.iload 9, 2) := by decide +kernel
theorem d_WF_performBranch_85 : decode b_WF_performBranch 85 = .ok (.ireturn, 1) := by decide +kernel
abbrev b_WF_performMacro : ByteArray := prog_1_method_30_code
theorem d_WF_performMacro_0 : decode b_WF_performMacro 0 = .ok (.iload_n 1, 1) := by decide +kernel
theorem d_WF_performMacro_1 : decode b_WF_performMacro 1 = .ok (.ifCond .lt 8, 3) := by decide +kernel
theorem d_WF_performMacro_4 : decode b_WF_performMacro 4 = .ok (.iload_n 1, 1) := by decide +kernel
theorem d_WF_performMacro_5 : decode b_WF_performMacro 5 = .ok (.iconst 4, 1) := by decide +kernel
theorem d_WF_performMacro_6 : decode b_WF_performMacro 6 = .ok (.if_icmp .lt 5, 3) := by decide +kernel
theorem d_WF_performMacro_9 : decode b_WF_performMacro 9 = .ok (.iconst 0, 1) := by decide +kernel
theorem d_WF_performMacro_10 : decode b_WF_performMacro 10 = .ok (.ireturn, 1) := by decide +kernel
theorem d_WF_performMacro_11 : decode b_WF_performMacro 11 = .ok (.aload_n 0, 1) := by decide +kernel
theorem d_WF_performMacro_12 : decode b_WF_performMacro 12 = .ok (.aload_n 0, 1) := by decide +kernel
theorem d_WF_performMacro_13 : decode b_WF_performMacro 13 = .ok (.getfield 33, 3) := by decide +kernel
theorem d_WF_performMacro_16 : decode b_WF_performMacro 16 = .ok (.iload_n 1, 1) := by decide +kernel
theorem d_WF_performMacro_17 : decode b_WF_performMacro 17 = .ok (.aaload, 1) := by decide +kernel
theorem d_WF_performMacro_18 : decode b_WF_performMacro 18 = .ok (.iconst 0, 1) := by decide +kernel
theorem d_WF_performMacro_19 : decode b_WF_performMacro 19 = .ok (.aload_n 0, 1) := by decide +kernel
theorem d_WF_performMacro_20 : decode b_WF_performMacro 20 = .ok (.getfield 33, 3) := by decide +kernel
theorem d_WF_performMacro_23 : decode b_WF_performMacro 23 = .ok (.iload_n 1, 1) := by decide +kernel
theorem d_WF_performMacro_24 : decode b_WF_performMacro 24 = .ok (.aaload, 1) := by decide +kernel
theorem d_WF_performMacro_25 : decode b_WF_performMacro 25 = .ok (.getfield 107, 3) := by decide +kernel
theorem d_WF_performMacro_28 : decode b_WF_performMacro 28 = .ok (.iload_n 2, 1) := by decide +kernel
theorem d_WF_performMacro_29 : decode b_WF_performMacro 29 = .ok (.invokevirtual 110, 3) := by decide +kernel
theorem d_WF_performMacro_32 : decode b_WF_performMacro 32 = .ok (.ireturn, 1) := by decide +kernel
