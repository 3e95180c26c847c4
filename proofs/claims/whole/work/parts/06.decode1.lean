abbrev b_G_init : ByteArray := prog_2_method_1_code
theorem d_G_init_0 : decode b_G_init 0 = .ok (.aload_n 0, 1) := by decide +kernel
theorem d_G_init_1 : decode b_G_init 1 = .ok (.invokespecial 3, 3) := by decide +kernel
theorem d_G_init_4 : decode b_G_init 4 = .ok (.aload_n 0, 1) := by decide +kernel
theorem d_G_init_5 : decode b_G_init 5 = .ok (.bipush 24, 2) := by decide +kernel
theorem d_G_init_7 : decode b_G_init 7 = .ok (.newarray .int, 2) := by decide +kernel
theorem d_G_init_9 : decode b_G_init 9 = .ok (.putfield 9, 3) := by decide +kernel
theorem d_G_init_12 : decode b_G_init 12 = .ok (.aload_n 0, 1) := by decide +kernel
theorem d_G_init_13 : decode b_G_init 13 = .ok (.bipush 24, 2) := by decide +kernel
theorem d_G_init_15 : decode b_G_init 15 = .ok (.newarray .int, 2) := by decide +kernel
theorem d_G_init_17 : decode b_G_init 17 = .ok (.putfield 15, 3) := by decide +kernel
theorem d_G_init_20 : decode b_G_init 20 = .ok (.aload_n 0, 1) := by decide +kernel
theorem d_G_init_21 : decode b_G_init 21 = .ok (.bipush 24, 2) := by decide +kernel
theorem d_G_init_23 : decode b_G_init 23 = .ok (.newarray .int, 2) := by decide +kernel
theorem d_G_init_25 : decode b_G_init 25 = .ok (.putfield 18, 3) := by decide +kernel
theorem d_G_init_28 : decode b_G_init 28 = .ok (.return_, 1) := by decide +kernel
abbrev b_G_valueAt : ByteArray := prog_2_method_2_code
theorem d_G_valueAt_0 : decode b_G_valueAt 0 = .ok (.iload_n 1, 1) := by decide +kernel
theorem d_G_valueAt_1 : decode b_G_valueAt 1 = .ok (.iload_n 2, 1) := by decide +kernel
theorem d_G_valueAt_2 : decode b_G_valueAt 2 = .ok (.invokestatic 21, 3) := by decide +kernel
theorem d_G_valueAt_5 : decode b_G_valueAt 5 = .ok (.ifCond .ne 5, 3) := by decide +kernel
theorem d_G_valueAt_8 : decode b_G_valueAt 8 = .ok (.iconst (-1), 1) := by decide +kernel
theorem d_G_valueAt_9 : decode b_G_valueAt 9 = .ok (.ireturn, 1) := by decide +kernel
theorem d_G_valueAt_10 : decode b_G_valueAt 10 = .ok (.aload_n 0, 1) := by decide +kernel
theorem d_G_valueAt_11 : decode b_G_valueAt 11 = .ok (.getfield 9, 3) := by decide +kernel
theorem d_G_valueAt_14 : decode b_G_valueAt 14 = .ok (.iload_n 2, 1) := by decide +kernel
theorem d_G_valueAt_15 : decode b_G_valueAt 15 = .ok (.iaload, 1) := by decide +kernel
theorem d_G_valueAt_16 : decode b_G_valueAt 16 = .ok (.iload_n 1, 1) := by decide +kernel
theorem d_G_valueAt_17 : decode b_G_valueAt 17 = .ok (.iushr, 1) := by decide +kernel
theorem d_G_valueAt_18 : decode b_G_valueAt 18 = .ok (.iconst 1, 1) := by decide +kernel
theorem d_G_valueAt_19 : decode b_G_valueAt 19 = .ok (.iand, 1) := by decide +kernel
theorem d_G_valueAt_20 : decode b_G_valueAt 20 = .ok (.iconst 1, 1) := by decide +kernel
theorem d_G_valueAt_21 : decode b_G_valueAt 21 = .ok (.if_icmp .ne 5, 3) := by decide +kernel
theorem d_G_valueAt_24 : decode b_G_valueAt 24 = .ok (.iconst 1, 1) := by decide +kernel
theorem d_G_valueAt_25 : decode b_G_valueAt 25 = .ok (.ireturn, 1) := by decide +kernel
theorem d_G_valueAt_26 : decode b_G_valueAt 26 = .ok (.aload_n 0, 1) := by decide +kernel
theorem d_G_valueAt_27 : decode b_G_valueAt 27 = .ok (.getfield 15, 3) := by decide +kernel
theorem d_G_valueAt_30 : decode b_G_valueAt 30 = .ok (.iload_n 2, 1) := by decide +kernel
theorem d_G_valueAt_31 : decode b_G_valueAt 31 = .ok (.iaload, 1) := by decide +kernel
theorem d_G_valueAt_32 : decode b_G_valueAt 32 = .ok (.iload_n 1, 1) := by decide +kernel
theorem d_G_valueAt_33 : decode b_G_valueAt 33 = .ok (.iushr, 1) := by decide +kernel
theorem d_G_valueAt_34 : decode b_G_valueAt 34 = .ok (.iconst 1, 1) := by decide +kernel
theorem d_G_valueAt_35 : decode b_G_valueAt 35 = .ok (.iand, 1) := by decide +kernel
theorem d_G_valueAt_36 : decode b_G_valueAt 36 = .ok (.iconst 1, 1) := by decide +kernel
theorem d_G_valueAt_37 : decode b_G_valueAt 37 = .ok (.if_icmp .ne 5, 3) := by decide +kernel
theorem d_G_valueAt_40 : decode b_G_valueAt 40 = .ok (.iconst 2, 1) := by decide +kernel
theorem d_G_valueAt_41 : decode b_G_valueAt 41 = .ok (.ireturn, 1) := by decide +kernel
theorem d_G_valueAt_42 : decode b_G_valueAt 42 = .ok (.aload_n 0, 1) := by decide +kernel
theorem d_G_valueAt_43 : decode b_G_valueAt 43 = .ok (.getfield 18, 3) := by decide +kernel
theorem d_G_valueAt_46 : decode b_G_valueAt 46 = .ok (.iload_n 2, 1) := by decide +kernel
theorem d_G_valueAt_47 : decode b_G_valueAt 47 = .ok (.iaload, 1) := by decide +kernel
theorem d_G_valueAt_48 : decode b_G_valueAt 48 = .ok (.iload_n 1, 1) := by decide +kernel
theorem d_G_valueAt_49 : decode b_G_valueAt 49 = .ok (.iushr, 1) := by decide +kernel
theorem d_G_valueAt_50 : decode b_G_valueAt 50 = .ok (.iconst 1, 1) := by decide +kernel
theorem d_G_valueAt_51 : decode b_G_valueAt 51 = .ok (.iand, 1) := by decide +kernel
theorem d_G_valueAt_52 : decode b_G_valueAt 52 = .ok (.iconst 1, 1) := by decide +kernel
theorem d_G_valueAt_53 : decode b_G_valueAt 53 = .ok (.if_icmp .ne 7, 3) := by decide +kernel
theorem d_G_valueAt_56 : decode b_G_valueAt 56 = .ok (.iconst 3, 1) := by decide +kernel
theorem d_G_valueAt_57 : decode b_G_valueAt 57 = .ok (.goto 4, 3) := by decide +kernel
theorem d_G_valueAt_60 : decode b_G_valueAt 60 = .ok (.iconst 0, 1) := by decide +kernel
theorem d_G_valueAt_61 : decode b_G_valueAt 61 = .ok (.ireturn, 1) := by decide +kernel
abbrev b_G_put : ByteArray := prog_2_method_3_code
theorem d_G_put_0 : decode b_G_put 0 = .ok (.iload_n 1, 1) := by decide +kernel
theorem d_G_put_1 : decode b_G_put 1 = .ok (.iload_n 2, 1) := by decide +kernel
theorem d_G_put_2 : decode b_G_put 2 = .ok (.invokestatic 21, 3) := by decide +kernel
theorem d_G_put_5 : decode b_G_put 5 = .ok (.ifCond .ne 4, 3) := by decide +kernel
theorem d_G_put_8 : decode b_G_put 8 = .ok (.return_, 1) := by decide +kernel
theorem d_G_put_9 : decode b_G_put 9 = .ok (.iconst 1, 1) := by decide +kernel
theorem d_G_put_10 : decode b_G_put 10 = .ok (.iload_n 1, 1) := by decide +kernel
theorem d_G_put_11 : decode b_G_put 11 = .ok (.ishl, 1) := by decide +kernel
theorem d_G_put_12 : decode b_G_put 12 = .ok (.istore 4, 2) := by decide +kernel
theorem d_G_put_14 : decode b_G_put 14 = .ok (.aload_n 0, 1) := by decide +kernel
theorem d_G_put_15 : decode b_G_put 15 = .ok (.getfield 9, 3) := by decide +kernel
theorem d_G_put_18 : decode b_G_put 18 = .ok (.iload_n 2, 1) := by decide +kernel
theorem d_G_put_19 : decode b_G_put 19 = .ok (.iload_n 3, 1) := by decide +kernel
theorem d_G_put_20 : decode b_G_put 20 = .ok (.iconst 1, 1) := by decide +kernel
theorem d_G_put_21 : decode b_G_put 21 = .ok (.if_icmp .ne 15, 3) := by decide +kernel
theorem d_G_put_24 : decode b_G_put 24 = .ok (.aload_n 0, 1) := by decide +kernel
theorem d_G_put_25 : decode b_G_put 25 = .ok (.getfield 9, 3) := by decide +kernel
theorem d_G_put_28 : decode b_G_put 28 = .ok (.iload_n 2, 1) := by decide +kernel
theorem d_G_put_29 : decode b_G_put 29 = .ok (.iaload, 1) := by decide +kernel
theorem d_G_put_30 : decode b_G_put 30 = .ok (.iload 4, 2) := by decide +kernel
theorem d_G_put_32 : decode b_G_put 32 = .ok (.ior, 1) := by decide +kernel
theorem d_G_put_33 : decode b_G_put 33 = .ok (.goto 14, 3) := by decide +kernel
theorem d_G_put_36 : decode b_G_put 36 = .ok (.aload_n 0, 1) := by decide +kernel
theorem d_G_put_37 : decode b_G_put 37 = .ok (.getfield 9, 3) := by decide +kernel
theorem d_G_put_40 : decode b_G_put 40 = .ok (.iload_n 2, 1) := by decide +kernel
theorem d_G_put_41 : decode b_G_put 41 = .ok (.iaload, 1) := by decide +kernel
theorem d_G_put_42 : decode b_G_put 42 = .ok (.iload 4, 2) := by decide +kernel
theorem d_G_put_44 : decode b_G_put 44 = .ok (.iconst (-1), 1) := by decide +kernel
theorem d_G_put_45 : decode b_G_put 45 = .ok (.ixor, 1) := by decide +kernel
theorem d_G_put_46 : decode b_G_put 46 = .ok (.iand, 1) := by decide +kernel
theorem d_G_put_47 : decode b_G_put 47 = .ok (.iastore, 1) := by decide +kernel
theorem d_G_put_48 : decode b_G_put 48 = .ok (.aload_n 0, 1) := by decide +kernel
theorem d_G_put_49 : decode b_G_put 49 = .ok (.getfield 15, 3) := by decide +kernel
theorem d_G_put_52 : decode b_G_put 52 = .ok (.iload_n 2, 1) := by decide +kernel
theorem d_G_put_53 : decode b_G_put 53 = .ok (.iload_n 3, 1) := by decide +kernel
theorem d_G_put_54 : decode b_G_put 54 = .ok (.iconst 2, 1) := by decide +kernel
theorem d_G_put_55 : decode b_G_put 55 = .ok (.if_icmp .ne 15, 3) := by decide +kernel
theorem d_G_put_58 : decode b_G_put 58 = .ok (.aload_n 0, 1) := by decide +kernel
theorem d_G_put_59 : decode b_G_put 59 = .ok (.getfield 15, 3) := by decide +kernel
theorem d_G_put_62 : decode b_G_put 62 = .ok (.iload_n 2, 1) := by decide +kernel
theorem d_G_put_63 : decode b_G_put 63 = .ok (.iaload, 1) := by decide +kernel
theorem d_G_put_64 : decode b_G_put 64 = .ok (.iload 4, 2) := by decide +kernel
theorem d_G_put_66 : decode b_G_put 66 = .ok (.ior, 1) := by decide +kernel
theorem d_G_put_67 : decode b_G_put 67 = .ok (.goto 14, 3) := by decide +kernel
theorem d_G_put_70 : decode b_G_put 70 = .ok (.aload_n 0, 1) := by decide +kernel
theorem d_G_put_71 : decode b_G_put 71 = .ok (.getfield 15, 3) := by decide +kernel
theorem d_G_put_74 : decode b_G_put 74 = .ok (.iload_n 2, 1) := by decide +kernel
theorem d_G_put_75 : decode b_G_put 75 = .ok (.iaload, 1) := by decide +kernel
theorem d_G_put_76 : decode b_G_put 76 = .ok (.iload 4, 2) := by decide +kernel
theorem d_G_put_78 : decode b_G_put 78 = .ok (.iconst (-1), 1) := by decide +kernel
theorem d_G_put_79 : decode b_G_put 79 = .ok (.ixor, 1) := by decide +kernel
theorem d_G_put_80 : decode b_G_put 80 = .ok (.iand, 1) := by decide +kernel
theorem d_G_put_81 : decode b_G_put 81 = .ok (.iastore, 1) := by decide +kernel
theorem d_G_put_82 : decode b_G_put 82 = .ok (.aload_n 0, 1) := by decide +kernel
theorem d_G_put_83 : decode b_G_put 83 = .ok (.getfield 18, 3) := by decide +kernel
theorem d_G_put_86 : decode b_G_put 86 = .ok (.iload_n 2, 1) := by decide +kernel
theorem d_G_put_87 : decode b_G_put 87 = .ok (.iload_n 3, 1) := by decide +kernel
theorem d_G_put_88 : decode b_G_put 88 = .ok (.iconst 3, 1) := by decide +kernel
theorem d_G_put_89 : decode b_G_put 89 = .ok (.if_icmp .ne 15, 3) := by decide +kernel
theorem d_G_put_92 : decode b_G_put 92 = .ok (.aload_n 0, 1) := by decide +kernel
theorem d_G_put_93 : decode b_G_put 93 = .ok (.getfield 18, 3) := by decide +kernel
theorem d_G_put_96 : decode b_G_put 96 = .ok (.iload_n 2, 1) := by decide +kernel
theorem d_G_put_97 : decode b_G_put 97 = .ok (.iaload, 1) := by decide +kernel
theorem d_G_put_98 : decode b_G_put 98 = .ok (.iload 4, 2) := by decide +kernel
theorem d_G_put_100 : decode b_G_put 100 = .ok (.ior, 1) := by decide +kernel
theorem d_G_put_101 : decode b_G_put 101 = .ok (.goto 14, 3) := by decide +kernel
theorem d_G_put_104 : decode b_G_put 104 = .ok (.aload_n 0, 1) := by decide +kernel
theorem d_G_put_105 : decode b_G_put 105 = .ok (.getfield 18, 3) := by decide +kernel
theorem d_G_put_108 : decode b_G_put 108 = .ok (.iload_n 2, 1) := by decide +kernel
theorem d_G_put_109 : decode b_G_put 109 = .ok (.iaload, 1) := by decide +kernel
theorem d_G_put_110 : decode b_G_put 110 = .ok (.iload 4, 2) := by decide +kernel
theorem d_G_put_112 : decode b_G_put 112 = .ok (.iconst (-1), 1) := by decide +kernel
theorem d_G_put_113 : decode b_G_put 113 = .ok (.ixor, 1) := by decide +kernel
theorem d_G_put_114 : decode b_G_put 114 = .ok (.iand, 1) := by decide +kernel
theorem d_G_put_115 : decode b_G_put 115 = .ok (.iastore, 1) := by decide +kernel
theorem d_G_put_116 : decode b_G_put 116 = .ok (.return_, 1) := by decide +kernel
abbrev b_G_takeFrom : ByteArray := prog_2_method_4_code
theorem d_G_takeFrom_0 : decode b_G_takeFrom 0 = .ok (.aload_n 1, 1) := by decide +kernel
theorem d_G_takeFrom_1 : decode b_G_takeFrom 1 = .ok (.getfield 9, 3) := by decide +kernel
theorem d_G_takeFrom_4 : decode b_G_takeFrom 4 = .ok (.iconst 0, 1) := by decide +kernel
theorem d_G_takeFrom_5 : decode b_G_takeFrom 5 = .ok (.aload_n 0, 1) := by decide +kernel
theorem d_G_takeFrom_6 : decode b_G_takeFrom 6 = .ok (.getfield 9, 3) := by decide +kernel
theorem d_G_takeFrom_9 : decode b_G_takeFrom 9 = .ok (.iconst 0, 1) := by decide +kernel
theorem d_G_takeFrom_10 : decode b_G_takeFrom 10 = .ok (.bipush 24, 2) := by decide +kernel
theorem d_G_takeFrom_12 : decode b_G_takeFrom 12 = .ok (.invokestatic 25, 3) := by decide +kernel
theorem d_G_takeFrom_15 : decode b_G_takeFrom 15 = .ok (.aload_n 1, 1) := by decide +kernel
theorem d_G_takeFrom_16 : decode b_G_takeFrom 16 = .ok (.getfield 15, 3) := by decide +kernel
theorem d_G_takeFrom_19 : decode b_G_takeFrom 19 = .ok (.iconst 0, 1) := by decide +kernel
theorem d_G_takeFrom_20 : decode b_G_takeFrom 20 = .ok (.aload_n 0, 1) := by decide +kernel
theorem d_G_takeFrom_21 : decode b_G_takeFrom 21 = .ok (.getfield 15, 3) := by decide +kernel
theorem d_G_takeFrom_24 : decode b_G_takeFrom 24 = .ok (.iconst 0, 1) := by decide +kernel
theorem d_G_takeFrom_25 : decode b_G_takeFrom 25 = .ok (.bipush 24, 2) := by decide +kernel
theorem d_G_takeFrom_27 : decode b_G_takeFrom 27 = .ok (.invokestatic 25, 3) := by decide +kernel
theorem d_G_takeFrom_30 : decode b_G_takeFrom 30 = .ok (.aload_n 1, 1) := by decide +kernel
theorem d_G_takeFrom_31 : decode b_G_takeFrom 31 = .ok (.getfield 18, 3) := by decide +kernel
theorem d_G_takeFrom_34 : decode b_G_takeFrom 34 = .ok (.iconst 0, 1) := by decide +kernel
theorem d_G_takeFrom_35 : decode b_G_takeFrom 35 = .ok (.aload_n 0, 1) := by decide +kernel
theorem d_G_takeFrom_36 : decode b_G_takeFrom 36 = .ok (.getfield 18, 3) := by decide +kernel
theorem d_G_takeFrom_39 : decode b_G_takeFrom 39 = .ok (.iconst 0, 1) := by decide +kernel
theorem d_G_takeFrom_40 : decode b_G_takeFrom 40 = .ok (.bipush 24, 2) := by decide +kernel
theorem d_G_takeFrom_42 : decode b_G_takeFrom 42 = .ok (.invokestatic 25, 3) := by decide +kernel
theorem d_G_takeFrom_45 : decode b_G_takeFrom 45 = .ok (.return_, 1) := by decide +kernel
abbrev b_G_isSameAs : ByteArray := prog_2_method_5_code
theorem d_G_isSameAs_0 : decode b_G_isSameAs 0 = .ok (.iconst 0, 1) := by decide +kernel
theorem d_G_isSameAs_1 : decode b_G_isSameAs 1 = .ok (.istore_n 2, 1) := by decide +kernel
theorem d_G_isSameAs_2 : decode b_G_isSameAs 2 = .ok (.iload_n 2, 1) := by decide +kernel
theorem d_G_isSameAs_3 : decode b_G_isSameAs 3 = .ok (.bipush 24, 2) := by decide +kernel
theorem d_G_isSameAs_5 : decode b_G_isSameAs 5 = .ok (.if_icmp .ge 56, 3) := by decide +kernel
theorem d_G_isSameAs_8 : decode b_G_isSameAs 8 = .ok (.aload_n 0, 1) := by decide +kernel
theorem d_G_isSameAs_9 : decode b_G_isSameAs 9 = .ok (.getfield 9, 3) := by decide +kernel
theorem d_G_isSameAs_12 : decode b_G_isSameAs 12 = .ok (.iload_n 2, 1) := by decide +kernel
theorem d_G_isSameAs_13 : decode b_G_isSameAs 13 = .ok (.iaload, 1) := by decide +kernel
theorem d_G_isSameAs_14 : decode b_G_isSameAs 14 = .ok (.aload_n 1, 1) := by decide +kernel
theorem d_G_isSameAs_15 : decode b_G_isSameAs 15 = .ok (.getfield 9, 3) := by decide +kernel
theorem d_G_isSameAs_18 : decode b_G_isSameAs 18 = .ok (.iload_n 2, 1) := by decide +kernel
theorem d_G_isSameAs_19 : decode b_G_isSameAs 19 = .ok (.iaload, 1) := by decide +kernel
theorem d_G_isSameAs_20 : decode b_G_isSameAs 20 = .ok (.if_icmp .ne 33, 3) := by decide +kernel
theorem d_G_isSameAs_23 : decode b_G_isSameAs 23 = .ok (.aload_n 0, 1) := by decide +kernel
theorem d_G_isSameAs_24 : decode b_G_isSameAs 24 = .ok (.getfield 15, 3) := by decide +kernel
theorem d_G_isSameAs_27 : decode b_G_isSameAs 27 = .ok (.iload_n 2, 1) := by decide +kernel
theorem d_G_isSameAs_28 : decode b_G_isSameAs 28 = .ok (.iaload, 1) := by decide +kernel
theorem d_G_isSameAs_29 : decode b_G_isSameAs 29 = .ok (.aload_n 1, 1) := by decide +kernel
theorem d_G_isSameAs_30 : decode b_G_isSameAs 30 = .ok (.getfield 15, 3) := by decide +kernel
theorem d_G_isSameAs_33 : decode b_G_isSameAs 33 = .ok (.iload_n 2, 1) := by decide +kernel
theorem d_G_isSameAs_34 : decode b_G_isSameAs 34 = .ok (.iaload, 1) := by decide +kernel
theorem d_G_isSameAs_35 : decode b_G_isSameAs 35 = .ok (.if_icmp .ne 18, 3) := by decide +kernel
theorem d_G_isSameAs_38 : decode b_G_isSameAs 38 = .ok (.aload_n 0, 1) := by decide +kernel
theorem d_G_isSameAs_39 : decode b_G_isSameAs 39 = .ok (.getfield 18, 3) := by decide +kernel
theorem d_G_isSameAs_42 : decode b_G_isSameAs 42 = .ok (.iload_n 2, 1) := by decide +kernel
theorem d_G_isSameAs_43 : decode b_G_isSameAs 43 = .ok (.iaload, 1) := by decide +kernel
theorem d_G_isSameAs_44 : decode b_G_isSameAs 44 = .ok (.aload_n 1, 1) := by decide +kernel
theorem d_G_isSameAs_45 : decode b_G_isSameAs 45 = .ok (.getfield 18, 3) := by decide +kernel
theorem d_G_isSameAs_48 : decode b_G_isSameAs 48 = .ok (.iload_n 2, 1) := by decide +kernel
theorem d_G_isSameAs_49 : decode b_G_isSameAs 49 = .ok (.iaload, 1) := by decide +kernel
theorem d_G_isSameAs_50 : decode b_G_isSameAs 50 = .ok (.if_icmp .eq 5, 3) := by decide +kernel
theorem d_G_isSameAs_53 : decode b_G_isSameAs 53 = .ok (.iconst 0, 1) := by decide +kernel
theorem d_G_isSameAs_54 : decode b_G_isSameAs 54 = .ok (.ireturn, 1) := by decide +kernel
theorem d_G_isSameAs_55 : decode b_G_isSameAs 55 = .ok (.iinc 2 1, 3) := by decide +kernel
theorem d_G_isSameAs_58 : decode b_G_isSameAs 58 = .ok (.goto (-56), 3) := by decide +kernel
theorem d_G_isSameAs_61 : decode b_G_isSameAs 61 = .ok (.iconst 1, 1) := by decide +kernel
theorem d_G_isSameAs_62 : decode b_G_isSameAs 62 = .ok (.ireturn, 1) := by decide +kernel
abbrev b_G_count : ByteArray := prog_2_method_6_code
theorem d_G_count_0 : decode b_G_count 0 = .ok (.iconst 0, 1) := by decide +kernel
theorem d_G_count_1 : decode b_G_count 1 = .ok (.istore_n 2, 1) := by decide +kernel
theorem d_G_count_2 : decode b_G_count 2 = .ok (.iconst 0, 1) := by decide +kernel
theorem d_G_count_3 : decode b_G_count 3 = .ok (.istore_n 3, 1) := by decide +kernel
theorem d_G_count_4 : decode b_G_count 4 = .ok (.iload_n 3, 1) := by decide +kernel
theorem d_G_count_5 : decode b_G_count 5 = .ok (.bipush 24, 2) := by decide +kernel
theorem d_G_count_7 : decode b_G_count 7 = .ok (.if_icmp .ge 53, 3) := by decide +kernel
theorem d_G_count_10 : decode b_G_count 10 = .ok (.iload_n 1, 1) := by decide +kernel
theorem d_G_count_11 : decode b_G_count 11 = .ok (.iconst 1, 1) := by decide +kernel
theorem d_G_count_12 : decode b_G_count 12 = .ok (.if_icmp .ne 12, 3) := by decide +kernel
theorem d_G_count_15 : decode b_G_count 15 = .ok (.aload_n 0, 1) := by decide +kernel
theorem d_G_count_16 : decode b_G_count 16 = .ok (.getfield 9, 3) := by decide +kernel
theorem d_G_count_19 : decode b_G_count 19 = .ok (.iload_n 3, 1) := by decide +kernel
theorem d_G_count_20 : decode b_G_count 20 = .ok (.iaload, 1) := by decide +kernel
theorem d_G_count_21 : decode b_G_count 21 = .ok (.goto 23, 3) := by decide +kernel
theorem d_G_count_24 : decode b_G_count 24 = .ok (.iload_n 1, 1) := by decide +kernel
theorem d_G_count_25 : decode b_G_count 25 = .ok (.iconst 2, 1) := by decide +kernel
theorem d_G_count_26 : decode b_G_count 26 = .ok (.if_icmp .ne 12, 3) := by decide +kernel
theorem d_G_count_29 : decode b_G_count 29 = .ok (.aload_n 0, 1) := by decide +kernel
theorem d_G_count_30 : decode b_G_count 30 = .ok (.getfield 15, 3) := by decide +kernel
theorem d_G_count_33 : decode b_G_count 33 = .ok (.iload_n 3, 1) := by decide +kernel
theorem d_G_count_34 : decode b_G_count 34 = .ok (.iaload, 1) := by decide +kernel
theorem d_G_count_35 : decode b_G_count 35 = .ok (.goto 9, 3) := by decide +kernel
theorem d_G_count_38 : decode b_G_count 38 = .ok (.aload_n 0, 1) := by decide +kernel
theorem d_G_count_39 : decode b_G_count 39 = .ok (.getfield 18, 3) := by decide +kernel
theorem d_G_count_42 : decode b_G_count 42 = .ok (.iload_n 3, 1) := by decide +kernel
theorem d_G_count_43 : decode b_G_count 43 = .ok (.iaload, 1) := by decide +kernel
theorem d_G_count_44 : decode b_G_count 44 = .ok (.istore 4, 2) := by decide +kernel
theorem d_G_count_46 : decode b_G_count 46 = .ok (.iload_n 2, 1) := by decide +kernel
theorem d_G_count_47 : decode b_G_count 47 = .ok (.iload 4, 2) := by decide +kernel
theorem d_G_count_49 : decode b_G_count 49 = .ok (.invokestatic 31, 3) := by decide +kernel
theorem d_G_count_52 : decode b_G_count 52 = .ok (.iadd, 1) := by decide +kernel
theorem d_G_count_53 : decode b_G_count 53 = .ok (.istore_n 2, 1) := by decide +kernel
theorem d_G_count_54 : decode b_G_count 54 = .ok (.iinc 3 1, 3) := by decide +kernel
theorem d_G_count_57 : decode b_G_count 57 = .ok (.goto (-53), 3) := by decide +kernel
theorem d_G_count_60 : decode b_G_count 60 = .ok (.iload_n 2, 1) := by decide +kernel
theorem d_G_count_61 : decode b_G_count 61 = .ok (.ireturn, 1) := by decide +kernel
abbrev b_G_becomeGenerationAfter : ByteArray := prog_2_method_7_code
theorem d_G_becomeGenerationAfter_0 : decode b_G_becomeGenerationAfter 0 = .ok (.iconst 0, 1) := by decide +kernel
theorem d_G_becomeGenerationAfter_1 : decode b_G_becomeGenerationAfter 1 = .ok (.istore_n 2, 1) := by decide +kernel
theorem d_G_becomeGenerationAfter_2 : decode b_G_becomeGenerationAfter 2 = .ok (.iload_n 2, 1) := by decide +kernel
theorem d_G_becomeGenerationAfter_3 : decode b_G_becomeGenerationAfter 3 = .ok (.bipush 24, 2) := by decide +kernel
theorem d_G_becomeGenerationAfter_5 : decode b_G_becomeGenerationAfter 5 = .ok (.if_icmp .ge 64, 3) := by decide +kernel
theorem d_G_becomeGenerationAfter_8 : decode b_G_becomeGenerationAfter 8 = .ok (.aload_n 1, 1) := by decide +kernel
theorem d_G_becomeGenerationAfter_9 : decode b_G_becomeGenerationAfter 9 = .ok (.getfield 18, 3) := by decide +kernel
theorem d_G_becomeGenerationAfter_12 : decode b_G_becomeGenerationAfter 12 = .ok (.iload_n 2, 1) := by decide +kernel
theorem d_G_becomeGenerationAfter_13 : decode b_G_becomeGenerationAfter 13 = .ok (.iaload, 1) := by decide +kernel
theorem d_G_becomeGenerationAfter_14 : decode b_G_becomeGenerationAfter 14 = .ok (.aload_n 1, 1) := by decide +kernel
theorem d_G_becomeGenerationAfter_15 : decode b_G_becomeGenerationAfter 15 = .ok (.iload_n 2, 1) := by decide +kernel
theorem d_G_becomeGenerationAfter_16 : decode b_G_becomeGenerationAfter 16 = .ok (.invokevirtual 37, 3) := by decide +kernel
theorem d_G_becomeGenerationAfter_19 : decode b_G_becomeGenerationAfter 19 = .ok (.iand, 1) := by decide +kernel
theorem d_G_becomeGenerationAfter_20 : decode b_G_becomeGenerationAfter 20 = .ok (.istore_n 3, 1) := by decide +kernel
theorem d_G_becomeGenerationAfter_21 : decode b_G_becomeGenerationAfter 21 = .ok (.aload_n 0, 1) := by decide +kernel
theorem d_G_becomeGenerationAfter_22 : decode b_G_becomeGenerationAfter 22 = .ok (.getfield 9, 3) := by decide +kernel
theorem d_G_becomeGenerationAfter_25 : decode b_G_becomeGenerationAfter 25 = .ok (.iload_n 2, 1) := by decide +kernel
theorem d_G_becomeGenerationAfter_26 : decode b_G_becomeGenerationAfter 26 = .ok (.iload_n 3, 1) := by decide +kernel
theorem d_G_becomeGenerationAfter_27 : decode b_G_becomeGenerationAfter 27 = .ok (.iastore, 1) := by decide +kernel
theorem d_G_becomeGenerationAfter_28 : decode b_G_becomeGenerationAfter 28 = .ok (.aload_n 0, 1) := by decide +kernel
theorem d_G_becomeGenerationAfter_29 : decode b_G_becomeGenerationAfter 29 = .ok (.getfield 15, 3) := by decide +kernel
theorem d_G_becomeGenerationAfter_32 : decode b_G_becomeGenerationAfter 32 = .ok (.iload_n 2, 1) := by decide +kernel
theorem d_G_becomeGenerationAfter_33 : decode b_G_becomeGenerationAfter 33 = .ok (.aload_n 1, 1) := by decide +kernel
theorem d_G_becomeGenerationAfter_34 : decode b_G_becomeGenerationAfter 34 = .ok (.getfield 9, 3) := by decide +kernel
theorem d_G_becomeGenerationAfter_37 : decode b_G_becomeGenerationAfter 37 = .ok (.iload_n 2, 1) := by decide +kernel
theorem d_G_becomeGenerationAfter_38 : decode b_G_becomeGenerationAfter 38 = .ok (.iaload, 1) := by decide +kernel
theorem d_G_becomeGenerationAfter_39 : decode b_G_becomeGenerationAfter 39 = .ok (.iastore, 1) := by decide +kernel
theorem d_G_becomeGenerationAfter_40 : decode b_G_becomeGenerationAfter 40 = .ok (.aload_n 0, 1) := by decide +kernel
theorem d_G_becomeGenerationAfter_41 : decode b_G_becomeGenerationAfter 41 = .ok (.getfield 18, 3) := by decide +kernel
theorem d_G_becomeGenerationAfter_44 : decode b_G_becomeGenerationAfter 44 = .ok (.iload_n 2, 1) := by decide +kernel
theorem d_G_becomeGenerationAfter_45 : decode b_G_becomeGenerationAfter 45 = .ok (.aload_n 1, 1) := by decide +kernel
theorem d_G_becomeGenerationAfter_46 : decode b_G_becomeGenerationAfter 46 = .ok (.getfield 18, 3) := by decide +kernel
theorem d_G_becomeGenerationAfter_49 : decode b_G_becomeGenerationAfter 49 = .ok (.iload_n 2, 1) := by decide +kernel
theorem d_G_becomeGenerationAfter_50 : decode b_G_becomeGenerationAfter 50 = .ok (.iaload, 1) := by decide +kernel
theorem d_G_becomeGenerationAfter_51 : decode b_G_becomeGenerationAfter 51 = .ok (.iload_n 3, 1) := by decide +kernel
theorem d_G_becomeGenerationAfter_52 : decode b_G_becomeGenerationAfter 52 = .ok (.iconst (-1), 1) := by decide +kernel
theorem d_G_becomeGenerationAfter_53 : decode b_G_becomeGenerationAfter 53 = .ok (.ixor, 1) := by decide +kernel
theorem d_G_becomeGenerationAfter_54 : decode b_G_becomeGenerationAfter 54 = .ok (.iand, 1) := by decide +kernel
theorem d_G_becomeGenerationAfter_55 : decode b_G_becomeGenerationAfter 55 = .ok (.aload_n 1, 1) := by decide +kernel
theorem d_G_becomeGenerationAfter_56 : decode b_G_becomeGenerationAfter 56 = .ok (.getfield 15, 3) := by decide +kernel
theorem d_G_becomeGenerationAfter_59 : decode b_G_becomeGenerationAfter 59 = .ok (.iload_n 2, 1) := by decide +kernel
theorem d_G_becomeGenerationAfter_60 : decode b_G_becomeGenerationAfter 60 = .ok (.iaload, 1) := by decide +kernel
theorem d_G_becomeGenerationAfter_61 : decode b_G_becomeGenerationAfter 61 = .ok (.ior, 1) := by decide +kernel
theorem d_G_becomeGenerationAfter_62 : decode b_G_becomeGenerationAfter 62 = .ok (.iastore, 1) := by decide +kernel
theorem d_G_becomeGenerationAfter_63 : decode b_G_becomeGenerationAfter 63 = .ok (.iinc 2 1, 3) := by decide +kernel
theorem d_G_becomeGenerationAfter_66 : decode b_G_becomeGenerationAfter 66 = .ok (.goto (-64), 3) := by decide +kernel
theorem d_G_becomeGenerationAfter_69 : decode b_G_becomeGenerationAfter 69 = .ok (.return_, 1) := by decide +kernel
abbrev b_G_besideOneOrTwoHeads : ByteArray := prog_2_method_8_code
theorem d_G_besideOneOrTwoHeads_0 : decode b_G_besideOneOrTwoHeads 0 = .ok (.iconst 0, 1) := by decide +kernel
theorem d_G_besideOneOrTwoHeads_1 : decode b_G_besideOneOrTwoHeads 1 = .ok (.istore_n 2, 1) := by decide +kernel
theorem d_G_besideOneOrTwoHeads_2 : decode b_G_besideOneOrTwoHeads 2 = .ok (.iconst 0, 1) := by decide +kernel
theorem d_G_besideOneOrTwoHeads_3 : decode b_G_besideOneOrTwoHeads 3 = .ok (.istore_n 3, 1) := by decide +kernel
theorem d_G_besideOneOrTwoHeads_4 : decode b_G_besideOneOrTwoHeads 4 = .ok (.iconst 0, 1) := by decide +kernel
theorem d_G_besideOneOrTwoHeads_5 : decode b_G_besideOneOrTwoHeads 5 = .ok (.istore 4, 2) := by decide +kernel
theorem d_G_besideOneOrTwoHeads_7 : decode b_G_besideOneOrTwoHeads 7 = .ok (.iload_n 1, 1) := by decide +kernel
theorem d_G_besideOneOrTwoHeads_8 : decode b_G_besideOneOrTwoHeads 8 = .ok (.iconst 1, 1) := by decide +kernel
theorem d_G_besideOneOrTwoHeads_9 : decode b_G_besideOneOrTwoHeads 9 = .ok (.isub, 1) := by decide +kernel
theorem d_G_besideOneOrTwoHeads_10 : decode b_G_besideOneOrTwoHeads 10 = .ok (.iconst 0, 1) := by decide +kernel
theorem d_G_besideOneOrTwoHeads_11 : decode b_G_besideOneOrTwoHeads 11 = .ok (.invokestatic 40, 3) := by decide +kernel
theorem d_G_besideOneOrTwoHeads_14 : decode b_G_besideOneOrTwoHeads 14 = .ok (.istore 5, 2) := by decide +kernel
theorem d_G_besideOneOrTwoHeads_16 : decode b_G_besideOneOrTwoHeads 16 = .ok (.iload 5, 2) := by decide +kernel
theorem d_G_besideOneOrTwoHeads_18 : decode b_G_besideOneOrTwoHeads 18 = .ok (.iload_n 1, 1) := by decide +kernel
theorem d_G_besideOneOrTwoHeads_19 : decode b_G_besideOneOrTwoHeads 19 = .ok (.iconst 1, 1) := by decide +kernel
theorem d_G_besideOneOrTwoHeads_20 : decode b_G_besideOneOrTwoHeads 20 = .ok (.iadd, 1) := by decide +kernel
theorem d_G_besideOneOrTwoHeads_21 : decode b_G_besideOneOrTwoHeads 21 = .ok (.if_icmp .gt 96, 3) := by decide +kernel
theorem d_G_besideOneOrTwoHeads_24 : decode b_G_besideOneOrTwoHeads 24 = .ok (.iload 5, 2) := by decide +kernel
theorem d_G_besideOneOrTwoHeads_26 : decode b_G_besideOneOrTwoHeads 26 = .ok (.bipush 24, 2) := by decide +kernel
theorem d_G_besideOneOrTwoHeads_28 : decode b_G_besideOneOrTwoHeads 28 = .ok (.if_icmp .ge 89, 3) := by decide +kernel
theorem d_G_besideOneOrTwoHeads_31 : decode b_G_besideOneOrTwoHeads 31 = .ok (.iconst 0, 1) := by decide +kernel
theorem d_G_besideOneOrTwoHeads_32 : decode b_G_besideOneOrTwoHeads 32 = .ok (.istore 6, 2) := by decide +kernel
theorem d_G_besideOneOrTwoHeads_34 : decode b_G_besideOneOrTwoHeads 34 = .ok (.iload 6, 2) := by decide +kernel
theorem d_G_besideOneOrTwoHeads_36 : decode b_G_besideOneOrTwoHeads 36 = .ok (.iconst 3, 1) := by decide +kernel
theorem d_G_besideOneOrTwoHeads_37 : decode b_G_besideOneOrTwoHeads 37 = .ok (.if_icmp .ge 74, 3) := by decide +kernel
theorem d_G_besideOneOrTwoHeads_40 : decode b_G_besideOneOrTwoHeads 40 = .ok (.iload 6, 2) := by decide +kernel
theorem d_G_besideOneOrTwoHeads_42 : decode b_G_besideOneOrTwoHeads 42 = .ok (.ifCond .ne 15, 3) := by decide +kernel
theorem d_G_besideOneOrTwoHeads_45 : decode b_G_besideOneOrTwoHeads 45 = .ok (.aload_n 0, 1) := by decide +kernel
theorem d_G_besideOneOrTwoHeads_46 : decode b_G_besideOneOrTwoHeads 46 = .ok (.getfield 9, 3) := by decide +kernel
theorem d_G_besideOneOrTwoHeads_49 : decode b_G_besideOneOrTwoHeads 49 = .ok (.iload 5, 2) := by decide +kernel
theorem d_G_besideOneOrTwoHeads_51 : decode b_G_besideOneOrTwoHeads 51 = .ok (.iaload, 1) := by decide +kernel
theorem d_G_besideOneOrTwoHeads_52 : decode b_G_besideOneOrTwoHeads 52 = .ok (.iconst 1, 1) := by decide +kernel
theorem d_G_besideOneOrTwoHeads_53 : decode b_G_besideOneOrTwoHeads 53 = .ok (.ishl, 1) := by decide +kernel
theorem d_G_besideOneOrTwoHeads_54 : decode b_G_besideOneOrTwoHeads 54 = .ok (.goto 28, 3) := by decide +kernel
theorem d_G_besideOneOrTwoHeads_57 : decode b_G_besideOneOrTwoHeads 57 = .ok (.iload 6, 2) := by decide +kernel
theorem d_G_besideOneOrTwoHeads_59 : decode b_G_besideOneOrTwoHeads 59 = .ok (.iconst 1, 1) := by decide +kernel
theorem d_G_besideOneOrTwoHeads_60 : decode b_G_besideOneOrTwoHeads 60 = .ok (.if_icmp .ne 13, 3) := by decide +kernel
theorem d_G_besideOneOrTwoHeads_63 : decode b_G_besideOneOrTwoHeads 63 = .ok (.aload_n 0, 1) := by decide +kernel
theorem d_G_besideOneOrTwoHeads_64 : decode b_G_besideOneOrTwoHeads 64 = .ok (.getfield 9, 3) := by decide +kernel
theorem d_G_besideOneOrTwoHeads_67 : decode b_G_besideOneOrTwoHeads 67 = .ok (.iload 5, 2) := by decide +kernel
theorem d_G_besideOneOrTwoHeads_69 : decode b_G_besideOneOrTwoHeads 69 = .ok (.iaload, 1) := by decide +kernel
theorem d_G_besideOneOrTwoHeads_70 : decode b_G_besideOneOrTwoHeads 70 = .ok (.goto 12, 3) := by decide +kernel
theorem d_G_besideOneOrTwoHeads_73 : decode b_G_besideOneOrTwoHeads 73 = .ok (.aload_n 0, 1) := by decide +kernel
theorem d_G_besideOneOrTwoHeads_74 : decode b_G_besideOneOrTwoHeads 74 = .ok (.getfield 9, 3) := by decide +kernel
theorem d_G_besideOneOrTwoHeads_77 : decode b_G_besideOneOrTwoHeads 77 = .ok (.iload 5, 2) := by decide +kernel
theorem d_G_besideOneOrTwoHeads_79 : decode b_G_besideOneOrTwoHeads 79 = .ok (.iaload, 1) := by decide +kernel
theorem d_G_besideOneOrTwoHeads_80 : decode b_G_besideOneOrTwoHeads 80 = .ok (.iconst 1, 1) := by decide +kernel
theorem d_G_besideOneOrTwoHeads_81 : decode b_G_besideOneOrTwoHeads 81 = .ok (.iushr, 1) := by decide +kernel
theorem d_G_besideOneOrTwoHeads_82 : decode b_G_besideOneOrTwoHeads 82 = .ok (.istore 7, 2) := by decide +kernel
theorem d_G_besideOneOrTwoHeads_84 : decode b_G_besideOneOrTwoHeads 84 = .ok (.iload 4, 2) := by decide +kernel
theorem d_G_besideOneOrTwoHeads_86 : decode b_G_besideOneOrTwoHeads 86 = .ok (.iload_n 3, 1) := by decide +kernel
theorem d_G_besideOneOrTwoHeads_87 : decode b_G_besideOneOrTwoHeads 87 = .ok (.iload 7, 2) := by decide +kernel
theorem d_G_besideOneOrTwoHeads_89 : decode b_G_besideOneOrTwoHeads 89 = .ok (.iand, 1) := by decide +kernel
theorem d_G_besideOneOrTwoHeads_90 : decode b_G_besideOneOrTwoHeads 90 = .ok (.ior, 1) := by decide +kernel
theorem d_G_besideOneOrTwoHeads_91 : decode b_G_besideOneOrTwoHeads 91 = .ok (.istore 4, 2) := by decide +kernel
theorem d_G_besideOneOrTwoHeads_93 : decode b_G_besideOneOrTwoHeads 93 = .ok (.iload_n 3, 1) := by decide +kernel
theorem d_G_besideOneOrTwoHeads_94 : decode b_G_besideOneOrTwoHeads 94 = .ok (.iload_n 2, 1) := by decide +kernel
theorem d_G_besideOneOrTwoHeads_95 : decode b_G_besideOneOrTwoHeads 95 = .ok (.iload 7, 2) := by decide +kernel
theorem d_G_besideOneOrTwoHeads_97 : decode b_G_besideOneOrTwoHeads 97 = .ok (.iand, 1) := by decide +kernel
theorem d_G_besideOneOrTwoHeads_98 : decode b_G_besideOneOrTwoHeads 98 = .ok (.ior, 1) := by decide +kernel
theorem d_G_besideOneOrTwoHeads_99 : decode b_G_besideOneOrTwoHeads 99 = .ok (.istore_n 3, 1) := by decide +kernel
theorem d_G_besideOneOrTwoHeads_100 : decode b_G_besideOneOrTwoHeads 100 = .ok (.iload_n 2, 1) := by decide +kernel
theorem d_G_besideOneOrTwoHeads_101 : decode b_G_besideOneOrTwoHeads 101 = .ok (.iload 7, 2) := by decide +kernel
theorem d_G_besideOneOrTwoHeads_103 : decode b_G_besideOneOrTwoHeads 103 = .ok (.ior, 1) := by decide +kernel
theorem d_G_besideOneOrTwoHeads_104 : decode b_G_besideOneOrTwoHeads 104 = .ok (.istore_n 2, 1) := by decide +kernel
theorem d_G_besideOneOrTwoHeads_105 : decode b_G_besideOneOrTwoHeads 105 = .ok (.iinc 6 1, 3) := by decide +kernel
theorem d_G_besideOneOrTwoHeads_108 : decode b_G_besideOneOrTwoHeads 108 = .ok (.goto (-74), 3) := by decide +kernel
theorem d_G_besideOneOrTwoHeads_111 : decode b_G_besideOneOrTwoHeads 111 = .ok (.iinc 5 1, 3) := by decide +kernel
theorem d_G_besideOneOrTwoHeads_114 : decode b_G_besideOneOrTwoHeads 114 = .ok (.goto (-98), 3) := by decide +kernel
theorem d_G_besideOneOrTwoHeads_117 : decode b_G_besideOneOrTwoHeads 117 = .ok (.iload_n 2, 1) := by decide +kernel
theorem d_G_besideOneOrTwoHeads_118 : decode b_G_besideOneOrTwoHeads 118 = .ok (.iload 4, 2) := by decide +kernel
theorem d_G_besideOneOrTwoHeads_120 : decode b_G_besideOneOrTwoHeads 120 = .ok (.iconst (-1), 1) := by decide +kernel
theorem d_G_besideOneOrTwoHeads_121 : decode b_G_besideOneOrTwoHeads 121 = .ok (.ixor, 1) := by decide +kernel
theorem d_G_besideOneOrTwoHeads_122 : decode b_G_besideOneOrTwoHeads 122 = .ok (.iand, 1) := by decide +kernel
theorem d_G_besideOneOrTwoHeads_123 : decode b_G_besideOneOrTwoHeads 123 = .ok (.ireturn, 1) := by decide +kernel
abbrev b_Mo_init : ByteArray := prog_3_method_1_code
theorem d_Mo_init_0 : decode b_Mo_init 0 = .ok (.aload_n 0, 1) := by decide +kernel
theorem d_Mo_init_1 : decode b_Mo_init 1 = .ok (.invokespecial 3, 3) := by decide +kernel
theorem d_Mo_init_4 : decode b_Mo_init 4 = .ok (.aload_n 0, 1) := by decide +kernel
theorem d_Mo_init_5 : decode b_Mo_init 5 = .ok (.new 9, 3) := by decide +kernel
theorem d_Mo_init_8 : decode b_Mo_init 8 = .ok (.dup, 1) := by decide +kernel
theorem d_Mo_init_9 : decode b_Mo_init 9 = .ok (.invokespecial 11, 3) := by decide +kernel
theorem d_Mo_init_12 : decode b_Mo_init 12 = .ok (.putfield 12, 3) := by decide +kernel
theorem d_Mo_init_15 : decode b_Mo_init 15 = .ok (.aload_n 0, 1) := by decide +kernel
theorem d_Mo_init_16 : decode b_Mo_init 16 = .ok (.iconst 4, 1) := by decide +kernel
theorem d_Mo_init_17 : decode b_Mo_init 17 = .ok (.newarray .int, 2) := by decide +kernel
theorem d_Mo_init_19 : decode b_Mo_init 19 = .ok (.putfield 18, 3) := by decide +kernel
theorem d_Mo_init_22 : decode b_Mo_init 22 = .ok (.return_, 1) := by decide +kernel
abbrev b_Pe_init : ByteArray := prog_4_method_1_code
theorem d_Pe_init_0 : decode b_Pe_init 0 = .ok (.aload_n 0, 1) := by decide +kernel
theorem d_Pe_init_1 : decode b_Pe_init 1 = .ok (.invokespecial 3, 3) := by decide +kernel
theorem d_Pe_init_4 : decode b_Pe_init 4 = .ok (.aload_n 0, 1) := by decide +kernel
theorem d_Pe_init_5 : decode b_Pe_init 5 = .ok (.new 9, 3) := by decide +kernel
theorem d_Pe_init_8 : decode b_Pe_init 8 = .ok (.dup, 1) := by decide +kernel
theorem d_Pe_init_9 : decode b_Pe_init 9 = .ok (.invokespecial 11, 3) := by decide +kernel
theorem d_Pe_init_12 : decode b_Pe_init 12 = .ok (.putfield 12, 3) := by decide +kernel
theorem d_Pe_init_15 : decode b_Pe_init 15 = .ok (.aload_n 0, 1) := by decide +kernel
theorem d_Pe_init_16 : decode b_Pe_init 16 = .ok (.iconst 0, 1) := by decide +kernel
theorem d_Pe_init_17 : decode b_Pe_init 17 = .ok (.putfield 18, 3) := by decide +kernel
theorem d_Pe_init_20 : decode b_Pe_init 20 = .ok (.aload_n 0, 1) := by decide +kernel
theorem d_Pe_init_21 : decode b_Pe_init 21 = .ok (.iconst 0, 1) := by decide +kernel
theorem d_Pe_init_22 : decode b_Pe_init 22 = .ok (.putfield 22, 3) := by decide +kernel
theorem d_Pe_init_25 : decode b_Pe_init 25 = .ok (.aload_n 0, 1) := by decide +kernel
theorem d_Pe_init_26 : decode b_Pe_init 26 = .ok (.iconst 0, 1) := by decide +kernel
theorem d_Pe_init_27 : decode b_Pe_init 27 = .ok (.putfield 25, 3) := by decide +kernel
theorem d_Pe_init_30 : decode b_Pe_init 30 = .ok (.aload_n 0, 1) := by decide +kernel
theorem d_Pe_init_31 : decode b_Pe_init 31 = .ok (.iconst 1, 1) := by decide +kernel
theorem d_Pe_init_32 : decode b_Pe_init 32 = .ok (.putfield 28, 3) := by decide +kernel
theorem d_Pe_init_35 : decode b_Pe_init 35 = .ok (.aload_n 0, 1) := by decide +kernel
theorem d_Pe_init_36 : decode b_Pe_init 36 = .ok (.iconst 0, 1) := by decide +kernel
theorem d_Pe_init_37 : decode b_Pe_init 37 = .ok (.putfield 32, 3) := by decide +kernel
theorem d_Pe_init_40 : decode b_Pe_init 40 = .ok (.return_, 1) := by decide +kernel
abbrev b_Pe_begin : ByteArray := prog_4_method_2_code
theorem d_Pe_begin_0 : decode b_Pe_begin 0 = .ok (.aload_n 0, 1) := by decide +kernel
theorem d_Pe_begin_1 : decode b_Pe_begin 1 = .ok (.getfield 12, 3) := by decide +kernel
theorem d_Pe_begin_4 : decode b_Pe_begin 4 = .ok (.aload_n 1, 1) := by decide +kernel
theorem d_Pe_begin_5 : decode b_Pe_begin 5 = .ok (.invokevirtual 35, 3) := by decide +kernel
theorem d_Pe_begin_8 : decode b_Pe_begin 8 = .ok (.aload_n 0, 1) := by decide +kernel
theorem d_Pe_begin_9 : decode b_Pe_begin 9 = .ok (.iload_n 2, 1) := by decide +kernel
theorem d_Pe_begin_10 : decode b_Pe_begin 10 = .ok (.putfield 18, 3) := by decide +kernel
theorem d_Pe_begin_13 : decode b_Pe_begin 13 = .ok (.aload_n 0, 1) := by decide +kernel
theorem d_Pe_begin_14 : decode b_Pe_begin 14 = .ok (.iload_n 3, 1) := by decide +kernel
theorem d_Pe_begin_15 : decode b_Pe_begin 15 = .ok (.putfield 22, 3) := by decide +kernel
theorem d_Pe_begin_18 : decode b_Pe_begin 18 = .ok (.aload_n 0, 1) := by decide +kernel
theorem d_Pe_begin_19 : decode b_Pe_begin 19 = .ok (.iload 4, 2) := by decide +kernel
theorem d_Pe_begin_21 : decode b_Pe_begin 21 = .ok (.putfield 25, 3) := by decide +kernel
theorem d_Pe_begin_24 : decode b_Pe_begin 24 = .ok (.aload_n 0, 1) := by decide +kernel
theorem d_Pe_begin_25 : decode b_Pe_begin 25 = .ok (.iconst 1, 1) := by decide +kernel
theorem d_Pe_begin_26 : decode b_Pe_begin 26 = .ok (.putfield 28, 3) := by decide +kernel
theorem d_Pe_begin_29 : decode b_Pe_begin 29 = .ok (.aload_n 0, 1) := by decide +kernel
theorem d_Pe_begin_30 : decode b_Pe_begin 30 = .ok (.iconst 0, 1) := by decide +kernel
theorem d_Pe_begin_31 : decode b_Pe_begin 31 = .ok (.putfield 32, 3) := by decide +kernel
theorem d_Pe_begin_34 : decode b_Pe_begin 34 = .ok (.return_, 1) := by decide +kernel
abbrev b_Pe_countOrder : ByteArray := prog_4_method_3_code
theorem d_Pe_countOrder_0 : decode b_Pe_countOrder 0 = .ok (.aload_n 0, 1) := by decide +kernel
theorem d_Pe_countOrder_1 : decode b_Pe_countOrder 1 = .ok (.getfield 32, 3) := by decide +kernel
theorem d_Pe_countOrder_4 : decode b_Pe_countOrder 4 = .ok (.sipush 400, 3) := by decide +kernel
theorem d_Pe_countOrder_7 : decode b_Pe_countOrder 7 = .ok (.if_icmp .lt 5, 3) := by decide +kernel
theorem d_Pe_countOrder_10 : decode b_Pe_countOrder 10 = .ok (.iconst 0, 1) := by decide +kernel
theorem d_Pe_countOrder_11 : decode b_Pe_countOrder 11 = .ok (.ireturn, 1) := by decide +kernel
theorem d_Pe_countOrder_12 : decode b_Pe_countOrder 12 = .ok (.aload_n 0, 1) := by decide +kernel
theorem d_Pe_countOrder_13 : decode b_Pe_countOrder 13 = .ok (.dup, 1) := by decide +kernel
theorem d_Pe_countOrder_14 : decode b_Pe_countOrder 14 = .ok (.getfield 32, 3) := by decide +kernel
theorem d_Pe_countOrder_17 : decode b_Pe_countOrder 17 = .ok (.iconst 1, 1) := by decide +kernel
theorem d_Pe_countOrder_18 : decode b_Pe_countOrder 18 = .ok (.iadd, 1) := by decide +kernel
theorem d_Pe_countOrder_19 : decode b_Pe_countOrder 19 = .ok (.putfield 32, 3) := by decide +kernel
theorem d_Pe_countOrder_22 : decode b_Pe_countOrder 22 = .ok (.iconst 1, 1) := by decide +kernel
theorem d_Pe_countOrder_23 : decode b_Pe_countOrder 23 = .ok (.ireturn, 1) := by decide +kernel
abbrev b_Pe_obey : ByteArray := prog_4_method_4_code
theorem d_Pe_obey_0 : decode b_Pe_obey 0 = .ok (.iload_n 1, 1) := by decide +kernel
theorem d_Pe_obey_1 : decode b_Pe_obey 1 = .ok (.tableswitch 209 60 87 #[204, 209, 209, 209, 209, 209, 132, 209, 173, 180, 127, 209, 209, 209, 209, 209, 152, 209, 209, 209, 209, 209, 138, 209, 209, 166, 209, 186], 127) := by decide +kernel
theorem d_Pe_obey_128 : decode b_Pe_obey 128 = .ok (.aload_n 0, 1) := by decide +kernel
theorem d_Pe_obey_129 : decode b_Pe_obey 129 = .ok (.invokevirtual 39, 3) := by decide +kernel
theorem d_Pe_obey_132 : decode b_Pe_obey 132 = .ok (.ireturn, 1) := by decide +kernel
theorem d_Pe_obey_133 : decode b_Pe_obey 133 = .ok (.aload_n 0, 1) := by decide +kernel
theorem d_Pe_obey_134 : decode b_Pe_obey 134 = .ok (.iconst (-1), 1) := by decide +kernel
theorem d_Pe_obey_135 : decode b_Pe_obey 135 = .ok (.invokevirtual 43, 3) := by decide +kernel
theorem d_Pe_obey_138 : decode b_Pe_obey 138 = .ok (.ireturn, 1) := by decide +kernel
theorem d_Pe_obey_139 : decode b_Pe_obey 139 = .ok (.aload_n 0, 1) := by decide +kernel
theorem d_Pe_obey_140 : decode b_Pe_obey 140 = .ok (.aload_n 0, 1) := by decide +kernel
theorem d_Pe_obey_141 : decode b_Pe_obey 141 = .ok (.getfield 25, 3) := by decide +kernel
theorem d_Pe_obey_144 : decode b_Pe_obey 144 = .ok (.iconst 1, 1) := by decide +kernel
theorem d_Pe_obey_145 : decode b_Pe_obey 145 = .ok (.iadd, 1) := by decide +kernel
theorem d_Pe_obey_146 : decode b_Pe_obey 146 = .ok (.iconst 4, 1) := by decide +kernel
theorem d_Pe_obey_147 : decode b_Pe_obey 147 = .ok (.irem, 1) := by decide +kernel
theorem d_Pe_obey_148 : decode b_Pe_obey 148 = .ok (.putfield 25, 3) := by decide +kernel
theorem d_Pe_obey_151 : decode b_Pe_obey 151 = .ok (.iconst 1, 1) := by decide +kernel
theorem d_Pe_obey_152 : decode b_Pe_obey 152 = .ok (.ireturn, 1) := by decide +kernel
theorem d_Pe_obey_153 : decode b_Pe_obey 153 = .ok (.aload_n 0, 1) := by decide +kernel
theorem d_Pe_obey_154 : decode b_Pe_obey 154 = .ok (.aload_n 0, 1) := by decide +kernel
theorem d_Pe_obey_155 : decode b_Pe_obey 155 = .ok (.getfield 25, 3) := by decide +kernel
theorem d_Pe_obey_158 : decode b_Pe_obey 158 = .ok (.iconst 3, 1) := by decide +kernel
theorem d_Pe_obey_159 : decode b_Pe_obey 159 = .ok (.iadd, 1) := by decide +kernel
theorem d_Pe_obey_160 : decode b_Pe_obey 160 = .ok (.iconst 4, 1) := by decide +kernel
theorem d_Pe_obey_161 : decode b_Pe_obey 161 = .ok (.irem, 1) := by decide +kernel
theorem d_Pe_obey_162 : decode b_Pe_obey 162 = .ok (.putfield 25, 3) := by decide +kernel
theorem d_Pe_obey_165 : decode b_Pe_obey 165 = .ok (.iconst 1, 1) := by decide +kernel
theorem d_Pe_obey_166 : decode b_Pe_obey 166 = .ok (.ireturn, 1) := by decide +kernel
theorem d_Pe_obey_167 : decode b_Pe_obey 167 = .ok (.aload_n 0, 1) := by decide +kernel
theorem d_Pe_obey_168 : decode b_Pe_obey 168 = .ok (.iconst 0, 1) := by decide +kernel
theorem d_Pe_obey_169 : decode b_Pe_obey 169 = .ok (.putfield 28, 3) := by decide +kernel
theorem d_Pe_obey_172 : decode b_Pe_obey 172 = .ok (.iconst 1, 1) := by decide +kernel
theorem d_Pe_obey_173 : decode b_Pe_obey 173 = .ok (.ireturn, 1) := by decide +kernel
theorem d_Pe_obey_174 : decode b_Pe_obey 174 = .ok (.aload_n 0, 1) := by decide +kernel
theorem d_Pe_obey_175 : decode b_Pe_obey 175 = .ok (.iconst 1, 1) := by decide +kernel
theorem d_Pe_obey_176 : decode b_Pe_obey 176 = .ok (.putfield 28, 3) := by decide +kernel
theorem d_Pe_obey_179 : decode b_Pe_obey 179 = .ok (.iconst 1, 1) := by decide +kernel
theorem d_Pe_obey_180 : decode b_Pe_obey 180 = .ok (.ireturn, 1) := by decide +kernel
theorem d_Pe_obey_181 : decode b_Pe_obey 181 = .ok (.aload_n 0, 1) := by decide +kernel
theorem d_Pe_obey_182 : decode b_Pe_obey 182 = .ok (.invokevirtual 47, 3) := by decide +kernel
theorem d_Pe_obey_185 : decode b_Pe_obey 185 = .ok (.iconst 1, 1) := by decide +kernel
theorem d_Pe_obey_186 : decode b_Pe_obey 186 = .ok (.ireturn, 1) := by decide +kernel
theorem d_Pe_obey_187 : decode b_Pe_obey 187 = .ok (.aload_n 0, 1) := by decide +kernel
theorem d_Pe_obey_188 : decode b_Pe_obey 188 = .ok (.getfield 12, 3) := by decide +kernel
theorem d_Pe_obey_191 : decode b_Pe_obey 191 = .ok (.aload_n 0, 1) := by decide +kernel
theorem d_Pe_obey_192 : decode b_Pe_obey 192 = .ok (.getfield 18, 3) := by decide +kernel
theorem d_Pe_obey_195 : decode b_Pe_obey 195 = .ok (.aload_n 0, 1) := by decide +kernel
theorem d_Pe_obey_196 : decode b_Pe_obey 196 = .ok (.getfield 22, 3) := by decide +kernel
theorem d_Pe_obey_199 : decode b_Pe_obey 199 = .ok (.iconst 0, 1) := by decide +kernel
theorem d_Pe_obey_200 : decode b_Pe_obey 200 = .ok (.invokevirtual 50, 3) := by decide +kernel
theorem d_Pe_obey_203 : decode b_Pe_obey 203 = .ok (.iconst 1, 1) := by decide +kernel
theorem d_Pe_obey_204 : decode b_Pe_obey 204 = .ok (.ireturn, 1) := by decide +kernel
theorem d_Pe_obey_205 : decode b_Pe_obey 205 = .ok (.aload_n 0, 1) := by decide +kernel
theorem d_Pe_obey_206 : decode b_Pe_obey 206 = .ok (.invokevirtual 54, 3) := by decide +kernel
theorem d_Pe_obey_209 : decode b_Pe_obey 209 = .ok (.ireturn, 1) := by decide +kernel
theorem d_Pe_obey_210 : decode b_Pe_obey 210 = .ok (.iconst 0, 1) := by decide +kernel
theorem d_Pe_obey_211 : decode b_Pe_obey 211 = .ok (.ireturn, 1) := by decide +kernel
abbrev b_Pe_columnAt : ByteArray := prog_4_method_5_code
theorem d_Pe_columnAt_0 : decode b_Pe_columnAt 0 = .ok (.aload_n 0, 1) := by decide +kernel
theorem d_Pe_columnAt_1 : decode b_Pe_columnAt 1 = .ok (.getfield 18, 3) := by decide +kernel
theorem d_Pe_columnAt_4 : decode b_Pe_columnAt 4 = .ok (.iload_n 1, 1) := by decide +kernel
theorem d_Pe_columnAt_5 : decode b_Pe_columnAt 5 = .ok (.getstatic 57, 3) := by decide +kernel
theorem d_Pe_columnAt_8 : decode b_Pe_columnAt 8 = .ok (.aload_n 0, 1) := by decide +kernel
theorem d_Pe_columnAt_9 : decode b_Pe_columnAt 9 = .ok (.getfield 25, 3) := by decide +kernel
theorem d_Pe_columnAt_12 : decode b_Pe_columnAt 12 = .ok (.iaload, 1) := by decide +kernel
theorem d_Pe_columnAt_13 : decode b_Pe_columnAt 13 = .ok (.imul, 1) := by decide +kernel
theorem d_Pe_columnAt_14 : decode b_Pe_columnAt 14 = .ok (.iadd, 1) := by decide +kernel
theorem d_Pe_columnAt_15 : decode b_Pe_columnAt 15 = .ok (.iload_n 2, 1) := by decide +kernel
theorem d_Pe_columnAt_16 : decode b_Pe_columnAt 16 = .ok (.getstatic 57, 3) := by decide +kernel
theorem d_Pe_columnAt_19 : decode b_Pe_columnAt 19 = .ok (.aload_n 0, 1) := by decide +kernel
theorem d_Pe_columnAt_20 : decode b_Pe_columnAt 20 = .ok (.getfield 25, 3) := by decide +kernel
theorem d_Pe_columnAt_23 : decode b_Pe_columnAt 23 = .ok (.iconst 1, 1) := by decide +kernel
theorem d_Pe_columnAt_24 : decode b_Pe_columnAt 24 = .ok (.iadd, 1) := by decide +kernel
theorem d_Pe_columnAt_25 : decode b_Pe_columnAt 25 = .ok (.iconst 4, 1) := by decide +kernel
theorem d_Pe_columnAt_26 : decode b_Pe_columnAt 26 = .ok (.irem, 1) := by decide +kernel
theorem d_Pe_columnAt_27 : decode b_Pe_columnAt 27 = .ok (.iaload, 1) := by decide +kernel
theorem d_Pe_columnAt_28 : decode b_Pe_columnAt 28 = .ok (.imul, 1) := by decide +kernel
theorem d_Pe_columnAt_29 : decode b_Pe_columnAt 29 = .ok (.iadd, 1) := by decide +kernel
theorem d_Pe_columnAt_30 : decode b_Pe_columnAt 30 = .ok (.ireturn, 1) := by decide +kernel
abbrev b_Pe_rowAt : ByteArray := prog_4_method_6_code
theorem d_Pe_rowAt_0 : decode b_Pe_rowAt 0 = .ok (.aload_n 0, 1) := by decide +kernel
theorem d_Pe_rowAt_1 : decode b_Pe_rowAt 1 = .ok (.getfield 22, 3) := by decide +kernel
theorem d_Pe_rowAt_4 : decode b_Pe_rowAt 4 = .ok (.iload_n 1, 1) := by decide +kernel
theorem d_Pe_rowAt_5 : decode b_Pe_rowAt 5 = .ok (.getstatic 61, 3) := by decide +kernel
theorem d_Pe_rowAt_8 : decode b_Pe_rowAt 8 = .ok (.aload_n 0, 1) := by decide +kernel
theorem d_Pe_rowAt_9 : decode b_Pe_rowAt 9 = .ok (.getfield 25, 3) := by decide +kernel
theorem d_Pe_rowAt_12 : decode b_Pe_rowAt 12 = .ok (.iaload, 1) := by decide +kernel
theorem d_Pe_rowAt_13 : decode b_Pe_rowAt 13 = .ok (.imul, 1) := by decide +kernel
theorem d_Pe_rowAt_14 : decode b_Pe_rowAt 14 = .ok (.iadd, 1) := by decide +kernel
theorem d_Pe_rowAt_15 : decode b_Pe_rowAt 15 = .ok (.iload_n 2, 1) := by decide +kernel
theorem d_Pe_rowAt_16 : decode b_Pe_rowAt 16 = .ok (.getstatic 61, 3) := by decide +kernel
theorem d_Pe_rowAt_19 : decode b_Pe_rowAt 19 = .ok (.aload_n 0, 1) := by decide +kernel
theorem d_Pe_rowAt_20 : decode b_Pe_rowAt 20 = .ok (.getfield 25, 3) := by decide +kernel
theorem d_Pe_rowAt_23 : decode b_Pe_rowAt 23 = .ok (.iconst 1, 1) := by decide +kernel
theorem d_Pe_rowAt_24 : decode b_Pe_rowAt 24 = .ok (.iadd, 1) := by decide +kernel
theorem d_Pe_rowAt_25 : decode b_Pe_rowAt 25 = .ok (.iconst 4, 1) := by decide +kernel
theorem d_Pe_rowAt_26 : decode b_Pe_rowAt 26 = .ok (.irem, 1) := by decide +kernel
theorem d_Pe_rowAt_27 : decode b_Pe_rowAt 27 = .ok (.iaload, 1) := by decide +kernel
theorem d_Pe_rowAt_28 : decode b_Pe_rowAt 28 = .ok (.imul, 1) := by decide +kernel
theorem d_Pe_rowAt_29 : decode b_Pe_rowAt 29 = .ok (.iadd, 1) := by decide +kernel
theorem d_Pe_rowAt_30 : decode b_Pe_rowAt 30 = .ok (.ireturn, 1) := by decide +kernel
abbrev b_Pe_hasCell : ByteArray := prog_4_method_7_code
theorem d_Pe_hasCell_0 : decode b_Pe_hasCell 0 = .ok (.aload_n 0, 1) := by decide +kernel
theorem d_Pe_hasCell_1 : decode b_Pe_hasCell 1 = .ok (.iload_n 1, 1) := by decide +kernel
theorem d_Pe_hasCell_2 : decode b_Pe_hasCell 2 = .ok (.iload_n 2, 1) := by decide +kernel
theorem d_Pe_hasCell_3 : decode b_Pe_hasCell 3 = .ok (.invokevirtual 64, 3) := by decide +kernel
theorem d_Pe_hasCell_6 : decode b_Pe_hasCell 6 = .ok (.aload_n 0, 1) := by decide +kernel
theorem d_Pe_hasCell_7 : decode b_Pe_hasCell 7 = .ok (.iload_n 1, 1) := by decide +kernel
theorem d_Pe_hasCell_8 : decode b_Pe_hasCell 8 = .ok (.iload_n 2, 1) := by decide +kernel
theorem d_Pe_hasCell_9 : decode b_Pe_hasCell 9 = .ok (.invokevirtual 68, 3) := by decide +kernel
theorem d_Pe_hasCell_12 : decode b_Pe_hasCell 12 = .ok (.invokestatic 71, 3) := by decide +kernel
theorem d_Pe_hasCell_15 : decode b_Pe_hasCell 15 = .ok (.ireturn, 1) := by decide +kernel
abbrev b_Pe_mark : ByteArray := prog_4_method_8_code
theorem d_Pe_mark_0 : decode b_Pe_mark 0 = .ok (.aload_n 0, 1) := by decide +kernel
theorem d_Pe_mark_1 : decode b_Pe_mark 1 = .ok (.getfield 28, 3) := by decide +kernel
theorem d_Pe_mark_4 : decode b_Pe_mark 4 = .ok (.ifCond .eq 23, 3) := by decide +kernel
theorem d_Pe_mark_7 : decode b_Pe_mark 7 = .ok (.aload_n 0, 1) := by decide +kernel
theorem d_Pe_mark_8 : decode b_Pe_mark 8 = .ok (.getfield 12, 3) := by decide +kernel
theorem d_Pe_mark_11 : decode b_Pe_mark 11 = .ok (.aload_n 0, 1) := by decide +kernel
theorem d_Pe_mark_12 : decode b_Pe_mark 12 = .ok (.iload_n 1, 1) := by decide +kernel
theorem d_Pe_mark_13 : decode b_Pe_mark 13 = .ok (.iload_n 2, 1) := by decide +kernel
theorem d_Pe_mark_14 : decode b_Pe_mark 14 = .ok (.invokevirtual 64, 3) := by decide +kernel
theorem d_Pe_mark_17 : decode b_Pe_mark 17 = .ok (.aload_n 0, 1) := by decide +kernel
theorem d_Pe_mark_18 : decode b_Pe_mark 18 = .ok (.iload_n 1, 1) := by decide +kernel
theorem d_Pe_mark_19 : decode b_Pe_mark 19 = .ok (.iload_n 2, 1) := by decide +kernel
theorem d_Pe_mark_20 : decode b_Pe_mark 20 = .ok (.invokevirtual 68, 3) := by decide +kernel
theorem d_Pe_mark_23 : decode b_Pe_mark 23 = .ok (.iconst 3, 1) := by decide +kernel
theorem d_Pe_mark_24 : decode b_Pe_mark 24 = .ok (.invokevirtual 50, 3) := by decide +kernel
theorem d_Pe_mark_27 : decode b_Pe_mark 27 = .ok (.return_, 1) := by decide +kernel
abbrev b_Pe_move : ByteArray := prog_4_method_9_code
theorem d_Pe_move_0 : decode b_Pe_move 0 = .ok (.aload_n 0, 1) := by decide +kernel
theorem d_Pe_move_1 : decode b_Pe_move 1 = .ok (.iload_n 1, 1) := by decide +kernel
theorem d_Pe_move_2 : decode b_Pe_move 2 = .ok (.iconst 0, 1) := by decide +kernel
theorem d_Pe_move_3 : decode b_Pe_move 3 = .ok (.invokevirtual 64, 3) := by decide +kernel
theorem d_Pe_move_6 : decode b_Pe_move 6 = .ok (.istore_n 2, 1) := by decide +kernel
theorem d_Pe_move_7 : decode b_Pe_move 7 = .ok (.aload_n 0, 1) := by decide +kernel
theorem d_Pe_move_8 : decode b_Pe_move 8 = .ok (.iload_n 1, 1) := by decide +kernel
theorem d_Pe_move_9 : decode b_Pe_move 9 = .ok (.iconst 0, 1) := by decide +kernel
theorem d_Pe_move_10 : decode b_Pe_move 10 = .ok (.invokevirtual 68, 3) := by decide +kernel
theorem d_Pe_move_13 : decode b_Pe_move 13 = .ok (.istore_n 3, 1) := by decide +kernel
theorem d_Pe_move_14 : decode b_Pe_move 14 = .ok (.iload_n 2, 1) := by decide +kernel
theorem d_Pe_move_15 : decode b_Pe_move 15 = .ok (.iload_n 3, 1) := by decide +kernel
theorem d_Pe_move_16 : decode b_Pe_move 16 = .ok (.invokestatic 71, 3) := by decide +kernel
theorem d_Pe_move_19 : decode b_Pe_move 19 = .ok (.ifCond .ne 5, 3) := by decide +kernel
theorem d_Pe_move_22 : decode b_Pe_move 22 = .ok (.iconst 0, 1) := by decide +kernel
theorem d_Pe_move_23 : decode b_Pe_move 23 = .ok (.ireturn, 1) := by decide +kernel
theorem d_Pe_move_24 : decode b_Pe_move 24 = .ok (.aload_n 0, 1) := by decide +kernel
theorem d_Pe_move_25 : decode b_Pe_move 25 = .ok (.iload_n 2, 1) := by decide +kernel
theorem d_Pe_move_26 : decode b_Pe_move 26 = .ok (.putfield 18, 3) := by decide +kernel
theorem d_Pe_move_29 : decode b_Pe_move 29 = .ok (.aload_n 0, 1) := by decide +kernel
theorem d_Pe_move_30 : decode b_Pe_move 30 = .ok (.iload_n 3, 1) := by decide +kernel
theorem d_Pe_move_31 : decode b_Pe_move 31 = .ok (.putfield 22, 3) := by decide +kernel
theorem d_Pe_move_34 : decode b_Pe_move 34 = .ok (.iconst 1, 1) := by decide +kernel
theorem d_Pe_move_35 : decode b_Pe_move 35 = .ok (.ireturn, 1) := by decide +kernel
abbrev b_Pe_drawForward : ByteArray := prog_4_method_10_code
theorem d_Pe_drawForward_0 : decode b_Pe_drawForward 0 = .ok (.aload_n 0, 1) := by decide +kernel
theorem d_Pe_drawForward_1 : decode b_Pe_drawForward 1 = .ok (.iconst 1, 1) := by decide +kernel
theorem d_Pe_drawForward_2 : decode b_Pe_drawForward 2 = .ok (.invokevirtual 43, 3) := by decide +kernel
theorem d_Pe_drawForward_5 : decode b_Pe_drawForward 5 = .ok (.ifCond .ne 5, 3) := by decide +kernel
theorem d_Pe_drawForward_8 : decode b_Pe_drawForward 8 = .ok (.iconst 0, 1) := by decide +kernel
theorem d_Pe_drawForward_9 : decode b_Pe_drawForward 9 = .ok (.ireturn, 1) := by decide +kernel
theorem d_Pe_drawForward_10 : decode b_Pe_drawForward 10 = .ok (.aload_n 0, 1) := by decide +kernel
theorem d_Pe_drawForward_11 : decode b_Pe_drawForward 11 = .ok (.iconst 0, 1) := by decide +kernel
theorem d_Pe_drawForward_12 : decode b_Pe_drawForward 12 = .ok (.iconst 0, 1) := by decide +kernel
theorem d_Pe_drawForward_13 : decode b_Pe_drawForward 13 = .ok (.invokevirtual 75, 3) := by decide +kernel
theorem d_Pe_drawForward_16 : decode b_Pe_drawForward 16 = .ok (.iconst 1, 1) := by decide +kernel
theorem d_Pe_drawForward_17 : decode b_Pe_drawForward 17 = .ok (.ireturn, 1) := by decide +kernel
abbrev b_Pe_putElectron : ByteArray := prog_4_method_11_code
theorem d_Pe_putElectron_0 : decode b_Pe_putElectron 0 = .ok (.aload_n 0, 1) := by decide +kernel
theorem d_Pe_putElectron_1 : decode b_Pe_putElectron 1 = .ok (.getfield 12, 3) := by decide +kernel
theorem d_Pe_putElectron_4 : decode b_Pe_putElectron 4 = .ok (.aload_n 0, 1) := by decide +kernel
theorem d_Pe_putElectron_5 : decode b_Pe_putElectron 5 = .ok (.getfield 18, 3) := by decide +kernel
theorem d_Pe_putElectron_8 : decode b_Pe_putElectron 8 = .ok (.aload_n 0, 1) := by decide +kernel
theorem d_Pe_putElectron_9 : decode b_Pe_putElectron 9 = .ok (.getfield 22, 3) := by decide +kernel
theorem d_Pe_putElectron_12 : decode b_Pe_putElectron 12 = .ok (.iconst 1, 1) := by decide +kernel
theorem d_Pe_putElectron_13 : decode b_Pe_putElectron 13 = .ok (.invokevirtual 50, 3) := by decide +kernel
theorem d_Pe_putElectron_16 : decode b_Pe_putElectron 16 = .ok (.aload_n 0, 1) := by decide +kernel
theorem d_Pe_putElectron_17 : decode b_Pe_putElectron 17 = .ok (.iconst (-1), 1) := by decide +kernel
theorem d_Pe_putElectron_18 : decode b_Pe_putElectron 18 = .ok (.iconst 0, 1) := by decide +kernel
theorem d_Pe_putElectron_19 : decode b_Pe_putElectron 19 = .ok (.invokevirtual 64, 3) := by decide +kernel
theorem d_Pe_putElectron_22 : decode b_Pe_putElectron 22 = .ok (.istore_n 1, 1) := by decide +kernel
theorem d_Pe_putElectron_23 : decode b_Pe_putElectron 23 = .ok (.aload_n 0, 1) := by decide +kernel
theorem d_Pe_putElectron_24 : decode b_Pe_putElectron 24 = .ok (.iconst (-1), 1) := by decide +kernel
theorem d_Pe_putElectron_25 : decode b_Pe_putElectron 25 = .ok (.iconst 0, 1) := by decide +kernel
theorem d_Pe_putElectron_26 : decode b_Pe_putElectron 26 = .ok (.invokevirtual 68, 3) := by decide +kernel
theorem d_Pe_putElectron_29 : decode b_Pe_putElectron 29 = .ok (.istore_n 2, 1) := by decide +kernel
theorem d_Pe_putElectron_30 : decode b_Pe_putElectron 30 = .ok (.aload_n 0, 1) := by decide +kernel
theorem d_Pe_putElectron_31 : decode b_Pe_putElectron 31 = .ok (.getfield 12, 3) := by decide +kernel
theorem d_Pe_putElectron_34 : decode b_Pe_putElectron 34 = .ok (.iload_n 1, 1) := by decide +kernel
theorem d_Pe_putElectron_35 : decode b_Pe_putElectron 35 = .ok (.iload_n 2, 1) := by decide +kernel
theorem d_Pe_putElectron_36 : decode b_Pe_putElectron 36 = .ok (.invokevirtual 79, 3) := by decide +kernel
theorem d_Pe_putElectron_39 : decode b_Pe_putElectron 39 = .ok (.iconst 3, 1) := by decide +kernel
theorem d_Pe_putElectron_40 : decode b_Pe_putElectron 40 = .ok (.if_icmp .ne 13, 3) := by decide +kernel
theorem d_Pe_putElectron_43 : decode b_Pe_putElectron 43 = .ok (.aload_n 0, 1) := by decide +kernel
theorem d_Pe_putElectron_44 : decode b_Pe_putElectron 44 = .ok (.getfield 12, 3) := by decide +kernel
theorem d_Pe_putElectron_47 : decode b_Pe_putElectron 47 = .ok (.iload_n 1, 1) := by decide +kernel
theorem d_Pe_putElectron_48 : decode b_Pe_putElectron 48 = .ok (.iload_n 2, 1) := by decide +kernel
theorem d_Pe_putElectron_49 : decode b_Pe_putElectron 49 = .ok (.iconst 2, 1) := by decide +kernel
theorem d_Pe_putElectron_50 : decode b_Pe_putElectron 50 = .ok (.invokevirtual 50, 3) := by decide +kernel
theorem d_Pe_putElectron_53 : decode b_Pe_putElectron 53 = .ok (.return_, 1) := by decide +kernel
abbrev b_Pe_drawDiode : ByteArray := prog_4_method_12_code
theorem d_Pe_drawDiode_0 : decode b_Pe_drawDiode 0 = .ok (.aload_n 0, 1) := by decide +kernel
theorem d_Pe_drawDiode_1 : decode b_Pe_drawDiode 1 = .ok (.iconst 4, 1) := by decide +kernel
theorem d_Pe_drawDiode_2 : decode b_Pe_drawDiode 2 = .ok (.iconst 0, 1) := by decide +kernel
theorem d_Pe_drawDiode_3 : decode b_Pe_drawDiode 3 = .ok (.invokevirtual 82, 3) := by decide +kernel
theorem d_Pe_drawDiode_6 : decode b_Pe_drawDiode 6 = .ok (.ifCond .eq 21, 3) := by decide +kernel
theorem d_Pe_drawDiode_9 : decode b_Pe_drawDiode 9 = .ok (.aload_n 0, 1) := by decide +kernel
theorem d_Pe_drawDiode_10 : decode b_Pe_drawDiode 10 = .ok (.iconst 2, 1) := by decide +kernel
theorem d_Pe_drawDiode_11 : decode b_Pe_drawDiode 11 = .ok (.iconst (-1), 1) := by decide +kernel
theorem d_Pe_drawDiode_12 : decode b_Pe_drawDiode 12 = .ok (.invokevirtual 82, 3) := by decide +kernel
theorem d_Pe_drawDiode_15 : decode b_Pe_drawDiode 15 = .ok (.ifCond .eq 12, 3) := by decide +kernel
theorem d_Pe_drawDiode_18 : decode b_Pe_drawDiode 18 = .ok (.aload_n 0, 1) := by decide +kernel
theorem d_Pe_drawDiode_19 : decode b_Pe_drawDiode 19 = .ok (.iconst 2, 1) := by decide +kernel
theorem d_Pe_drawDiode_20 : decode b_Pe_drawDiode 20 = .ok (.iconst 1, 1) := by decide +kernel
theorem d_Pe_drawDiode_21 : decode b_Pe_drawDiode 21 = .ok (.invokevirtual 82, 3) := by decide +kernel
theorem d_Pe_drawDiode_24 : decode b_Pe_drawDiode 24 = .ok (.ifCond .ne 5, 3) := by decide +kernel
theorem d_Pe_drawDiode_27 : decode b_Pe_drawDiode 27 = .ok (.iconst 0, 1) := by decide +kernel
theorem d_Pe_drawDiode_28 : decode b_Pe_drawDiode 28 = .ok (.ireturn, 1) := by decide +kernel
theorem d_Pe_drawDiode_29 : decode b_Pe_drawDiode 29 = .ok (.aload_n 0, 1) := by decide +kernel
theorem d_Pe_drawDiode_30 : decode b_Pe_drawDiode 30 = .ok (.iconst 1, 1) := by decide +kernel
theorem d_Pe_drawDiode_31 : decode b_Pe_drawDiode 31 = .ok (.iconst 0, 1) := by decide +kernel
theorem d_Pe_drawDiode_32 : decode b_Pe_drawDiode 32 = .ok (.invokevirtual 75, 3) := by decide +kernel
theorem d_Pe_drawDiode_35 : decode b_Pe_drawDiode 35 = .ok (.aload_n 0, 1) := by decide +kernel
theorem d_Pe_drawDiode_36 : decode b_Pe_drawDiode 36 = .ok (.iconst 2, 1) := by decide +kernel
theorem d_Pe_drawDiode_37 : decode b_Pe_drawDiode 37 = .ok (.iconst (-1), 1) := by decide +kernel
theorem d_Pe_drawDiode_38 : decode b_Pe_drawDiode 38 = .ok (.invokevirtual 75, 3) := by decide +kernel
theorem d_Pe_drawDiode_41 : decode b_Pe_drawDiode 41 = .ok (.aload_n 0, 1) := by decide +kernel
theorem d_Pe_drawDiode_42 : decode b_Pe_drawDiode 42 = .ok (.iconst 2, 1) := by decide +kernel
theorem d_Pe_drawDiode_43 : decode b_Pe_drawDiode 43 = .ok (.iconst 1, 1) := by decide +kernel
theorem d_Pe_drawDiode_44 : decode b_Pe_drawDiode 44 = .ok (.invokevirtual 75, 3) := by decide +kernel
theorem d_Pe_drawDiode_47 : decode b_Pe_drawDiode 47 = .ok (.aload_n 0, 1) := by decide +kernel
theorem d_Pe_drawDiode_48 : decode b_Pe_drawDiode 48 = .ok (.iconst 3, 1) := by decide +kernel
theorem d_Pe_drawDiode_49 : decode b_Pe_drawDiode 49 = .ok (.iconst (-1), 1) := by decide +kernel
theorem d_Pe_drawDiode_50 : decode b_Pe_drawDiode 50 = .ok (.invokevirtual 75, 3) := by decide +kernel
theorem d_Pe_drawDiode_53 : decode b_Pe_drawDiode 53 = .ok (.aload_n 0, 1) := by decide +kernel
theorem d_Pe_drawDiode_54 : decode b_Pe_drawDiode 54 = .ok (.iconst 3, 1) := by decide +kernel
theorem d_Pe_drawDiode_55 : decode b_Pe_drawDiode 55 = .ok (.iconst 0, 1) := by decide +kernel
theorem d_Pe_drawDiode_56 : decode b_Pe_drawDiode 56 = .ok (.invokevirtual 75, 3) := by decide +kernel
theorem d_Pe_drawDiode_59 : decode b_Pe_drawDiode 59 = .ok (.aload_n 0, 1) := by decide +kernel
theorem d_Pe_drawDiode_60 : decode b_Pe_drawDiode 60 = .ok (.iconst 3, 1) := by decide +kernel
theorem d_Pe_drawDiode_61 : decode b_Pe_drawDiode 61 = .ok (.iconst 1, 1) := by decide +kernel
theorem d_Pe_drawDiode_62 : decode b_Pe_drawDiode 62 = .ok (.invokevirtual 75, 3) := by decide +kernel
theorem d_Pe_drawDiode_65 : decode b_Pe_drawDiode 65 = .ok (.aload_n 0, 1) := by decide +kernel
theorem d_Pe_drawDiode_66 : decode b_Pe_drawDiode 66 = .ok (.iconst 4, 1) := by decide +kernel
theorem d_Pe_drawDiode_67 : decode b_Pe_drawDiode 67 = .ok (.iconst 0, 1) := by decide +kernel
theorem d_Pe_drawDiode_68 : decode b_Pe_drawDiode 68 = .ok (.invokevirtual 75, 3) := by decide +kernel
theorem d_Pe_drawDiode_71 : decode b_Pe_drawDiode 71 = .ok (.aload_n 0, 1) := by decide +kernel
theorem d_Pe_drawDiode_72 : decode b_Pe_drawDiode 72 = .ok (.iconst 4, 1) := by decide +kernel
theorem d_Pe_drawDiode_73 : decode b_Pe_drawDiode 73 = .ok (.invokevirtual 43, 3) := by decide +kernel
theorem d_Pe_drawDiode_76 : decode b_Pe_drawDiode 76 = .ok (.ireturn, 1) := by decide +kernel
abbrev b_Pr_init : ByteArray := prog_5_method_1_code
theorem d_Pr_init_0 : decode b_Pr_init 0 = .ok (.aload_n 0, 1) := by decide +kernel
theorem d_Pr_init_1 : decode b_Pr_init 1 = .ok (.invokespecial 3, 3) := by decide +kernel
theorem d_Pr_init_4 : decode b_Pr_init 4 = .ok (.aload_n 0, 1) := by decide +kernel
theorem d_Pr_init_5 : decode b_Pr_init 5 = .ok (.iconst 0, 1) := by decide +kernel
theorem d_Pr_init_6 : decode b_Pr_init 6 = .ok (.putfield 9, 3) := by decide +kernel
theorem d_Pr_init_9 : decode b_Pr_init 9 = .ok (.aload_n 0, 1) := by decide +kernel
theorem d_Pr_init_10 : decode b_Pr_init 10 = .ok (.iconst 0, 1) := by decide +kernel
theorem d_Pr_init_11 : decode b_Pr_init 11 = .ok (.putfield 15, 3) := by decide +kernel
theorem d_Pr_init_14 : decode b_Pr_init 14 = .ok (.aload_n 0, 1) := by decide +kernel
theorem d_Pr_init_15 : decode b_Pr_init 15 = .ok (.iconst 0, 1) := by decide +kernel
theorem d_Pr_init_16 : decode b_Pr_init 16 = .ok (.putfield 18, 3) := by decide +kernel
theorem d_Pr_init_19 : decode b_Pr_init 19 = .ok (.aload_n 0, 1) := by decide +kernel
theorem d_Pr_init_20 : decode b_Pr_init 20 = .ok (.iconst (-1), 1) := by decide +kernel
theorem d_Pr_init_21 : decode b_Pr_init 21 = .ok (.putfield 21, 3) := by decide +kernel
theorem d_Pr_init_24 : decode b_Pr_init 24 = .ok (.aload_n 0, 1) := by decide +kernel
theorem d_Pr_init_25 : decode b_Pr_init 25 = .ok (.lconst 0, 1) := by decide +kernel
theorem d_Pr_init_26 : decode b_Pr_init 26 = .ok (.putfield 24, 3) := by decide +kernel
theorem d_Pr_init_29 : decode b_Pr_init 29 = .ok (.return_, 1) := by decide +kernel
abbrev b_Pr_begin : ByteArray := prog_5_method_2_code
theorem d_Pr_begin_0 : decode b_Pr_begin 0 = .ok (.aload_n 0, 1) := by decide +kernel
theorem d_Pr_begin_1 : decode b_Pr_begin 1 = .ok (.iload_n 1, 1) := by decide +kernel
theorem d_Pr_begin_2 : decode b_Pr_begin 2 = .ok (.putfield 9, 3) := by decide +kernel
theorem d_Pr_begin_5 : decode b_Pr_begin 5 = .ok (.aload_n 0, 1) := by decide +kernel
theorem d_Pr_begin_6 : decode b_Pr_begin 6 = .ok (.iload_n 2, 1) := by decide +kernel
theorem d_Pr_begin_7 : decode b_Pr_begin 7 = .ok (.putfield 15, 3) := by decide +kernel
theorem d_Pr_begin_10 : decode b_Pr_begin 10 = .ok (.return_, 1) := by decide +kernel
abbrev b_Pr_lookAt : ByteArray := prog_5_method_3_code
theorem d_Pr_lookAt_0 : decode b_Pr_lookAt 0 = .ok (.aload_n 1, 1) := by decide +kernel
theorem d_Pr_lookAt_1 : decode b_Pr_lookAt 1 = .ok (.aload_n 0, 1) := by decide +kernel
theorem d_Pr_lookAt_2 : decode b_Pr_lookAt 2 = .ok (.getfield 9, 3) := by decide +kernel
theorem d_Pr_lookAt_5 : decode b_Pr_lookAt 5 = .ok (.aload_n 0, 1) := by decide +kernel
theorem d_Pr_lookAt_6 : decode b_Pr_lookAt 6 = .ok (.getfield 15, 3) := by decide +kernel
theorem d_Pr_lookAt_9 : decode b_Pr_lookAt 9 = .ok (.invokevirtual 28, 3) := by decide +kernel
theorem d_Pr_lookAt_12 : decode b_Pr_lookAt 12 = .ok (.iconst 1, 1) := by decide +kernel
theorem d_Pr_lookAt_13 : decode b_Pr_lookAt 13 = .ok (.if_icmp .ne 7, 3) := by decide +kernel
theorem d_Pr_lookAt_16 : decode b_Pr_lookAt 16 = .ok (.iconst 1, 1) := by decide +kernel
theorem d_Pr_lookAt_17 : decode b_Pr_lookAt 17 = .ok (.goto 4, 3) := by decide +kernel
theorem d_Pr_lookAt_20 : decode b_Pr_lookAt 20 = .ok (.iconst 0, 1) := by decide +kernel
theorem d_Pr_lookAt_21 : decode b_Pr_lookAt 21 = .ok (.istore_n 3, 1) := by decide +kernel
theorem d_Pr_lookAt_22 : decode b_Pr_lookAt 22 = .ok (.aload_n 0, 1) := by decide +kernel
theorem d_Pr_lookAt_23 : decode b_Pr_lookAt 23 = .ok (.aload_n 0, 1) := by decide +kernel
theorem d_Pr_lookAt_24 : decode b_Pr_lookAt 24 = .ok (.getfield 24, 3) := by decide +kernel
theorem d_Pr_lookAt_27 : decode b_Pr_lookAt 27 = .ok (.ldc2_w 34, 3) := by decide +kernel
theorem d_Pr_lookAt_30 : decode b_Pr_lookAt 30 = .ok (.lmul, 1) := by decide +kernel
theorem d_Pr_lookAt_31 : decode b_Pr_lookAt 31 = .ok (.iload_n 3, 1) := by decide +kernel
theorem d_Pr_lookAt_32 : decode b_Pr_lookAt 32 = .ok (.ifCond .eq 7, 3) := by decide +kernel
theorem d_Pr_lookAt_35 : decode b_Pr_lookAt 35 = .ok (.iconst 1, 1) := by decide +kernel
theorem d_Pr_lookAt_36 : decode b_Pr_lookAt 36 = .ok (.goto 4, 3) := by decide +kernel
theorem d_Pr_lookAt_39 : decode b_Pr_lookAt 39 = .ok (.iconst 0, 1) := by decide +kernel
theorem d_Pr_lookAt_40 : decode b_Pr_lookAt 40 = .ok (.i2l, 1) := by decide +kernel
theorem d_Pr_lookAt_41 : decode b_Pr_lookAt 41 = .ok (.ladd, 1) := by decide +kernel
theorem d_Pr_lookAt_42 : decode b_Pr_lookAt 42 = .ok (.putfield 24, 3) := by decide +kernel
theorem d_Pr_lookAt_45 : decode b_Pr_lookAt 45 = .ok (.iload_n 3, 1) := by decide +kernel
theorem d_Pr_lookAt_46 : decode b_Pr_lookAt 46 = .ok (.ifCond .eq 18, 3) := by decide +kernel
theorem d_Pr_lookAt_49 : decode b_Pr_lookAt 49 = .ok (.aload_n 0, 1) := by decide +kernel
theorem d_Pr_lookAt_50 : decode b_Pr_lookAt 50 = .ok (.dup, 1) := by decide +kernel
theorem d_Pr_lookAt_51 : decode b_Pr_lookAt 51 = .ok (.getfield 18, 3) := by decide +kernel
theorem d_Pr_lookAt_54 : decode b_Pr_lookAt 54 = .ok (.iconst 1, 1) := by decide +kernel
theorem d_Pr_lookAt_55 : decode b_Pr_lookAt 55 = .ok (.iadd, 1) := by decide +kernel
theorem d_Pr_lookAt_56 : decode b_Pr_lookAt 56 = .ok (.putfield 18, 3) := by decide +kernel
theorem d_Pr_lookAt_59 : decode b_Pr_lookAt 59 = .ok (.aload_n 0, 1) := by decide +kernel
theorem d_Pr_lookAt_60 : decode b_Pr_lookAt 60 = .ok (.iload_n 2, 1) := by decide +kernel
theorem d_Pr_lookAt_61 : decode b_Pr_lookAt 61 = .ok (.putfield 21, 3) := by decide +kernel
theorem d_Pr_lookAt_64 : decode b_Pr_lookAt 64 = .ok (.return_, 1) := by decide +kernel
abbrev b_So_init : ByteArray := prog_6_method_1_code
theorem d_So_init_0 : decode b_So_init 0 = .ok (.aload_n 0, 1) := by decide +kernel
theorem d_So_init_1 : decode b_So_init 1 = .ok (.invokespecial 3, 3) := by decide +kernel
theorem d_So_init_4 : decode b_So_init 4 = .ok (.aload_n 0, 1) := by decide +kernel
theorem d_So_init_5 : decode b_So_init 5 = .ok (.iconst 0, 1) := by decide +kernel
theorem d_So_init_6 : decode b_So_init 6 = .ok (.putfield 9, 3) := by decide +kernel
theorem d_So_init_9 : decode b_So_init 9 = .ok (.aload_n 0, 1) := by decide +kernel
theorem d_So_init_10 : decode b_So_init 10 = .ok (.iconst 0, 1) := by decide +kernel
theorem d_So_init_11 : decode b_So_init 11 = .ok (.putfield 15, 3) := by decide +kernel
theorem d_So_init_14 : decode b_So_init 14 = .ok (.aload_n 0, 1) := by decide +kernel
theorem d_So_init_15 : decode b_So_init 15 = .ok (.lconst 0, 1) := by decide +kernel
theorem d_So_init_16 : decode b_So_init 16 = .ok (.putfield 18, 3) := by decide +kernel
theorem d_So_init_19 : decode b_So_init 19 = .ok (.aload_n 0, 1) := by decide +kernel
theorem d_So_init_20 : decode b_So_init 20 = .ok (.iconst 1, 1) := by decide +kernel
theorem d_So_init_21 : decode b_So_init 21 = .ok (.putfield 22, 3) := by decide +kernel
theorem d_So_init_24 : decode b_So_init 24 = .ok (.aload_n 0, 1) := by decide +kernel
theorem d_So_init_25 : decode b_So_init 25 = .ok (.iconst 0, 1) := by decide +kernel
theorem d_So_init_26 : decode b_So_init 26 = .ok (.putfield 25, 3) := by decide +kernel
theorem d_So_init_29 : decode b_So_init 29 = .ok (.return_, 1) := by decide +kernel
abbrev b_So_begin : ByteArray := prog_6_method_2_code
theorem d_So_begin_0 : decode b_So_begin 0 = .ok (.aload_n 0, 1) := by decide +kernel
theorem d_So_begin_1 : decode b_So_begin 1 = .ok (.iload_n 1, 1) := by decide +kernel
theorem d_So_begin_2 : decode b_So_begin 2 = .ok (.putfield 9, 3) := by decide +kernel
theorem d_So_begin_5 : decode b_So_begin 5 = .ok (.aload_n 0, 1) := by decide +kernel
theorem d_So_begin_6 : decode b_So_begin 6 = .ok (.iload_n 2, 1) := by decide +kernel
theorem d_So_begin_7 : decode b_So_begin 7 = .ok (.putfield 15, 3) := by decide +kernel
theorem d_So_begin_10 : decode b_So_begin 10 = .ok (.aload_n 0, 1) := by decide +kernel
theorem d_So_begin_11 : decode b_So_begin 11 = .ok (.lload_n 3, 1) := by decide +kernel
theorem d_So_begin_12 : decode b_So_begin 12 = .ok (.putfield 18, 3) := by decide +kernel
theorem d_So_begin_15 : decode b_So_begin 15 = .ok (.aload_n 0, 1) := by decide +kernel
theorem d_So_begin_16 : decode b_So_begin 16 = .ok (.iload 5, 2) := by decide +kernel
theorem d_So_begin_18 : decode b_So_begin 18 = .ok (.putfield 22, 3) := by decide +kernel
theorem d_So_begin_21 : decode b_So_begin 21 = .ok (.aload_n 0, 1) := by decide +kernel
theorem d_So_begin_22 : decode b_So_begin 22 = .ok (.iconst 0, 1) := by decide +kernel
theorem d_So_begin_23 : decode b_So_begin 23 = .ok (.putfield 25, 3) := by decide +kernel
theorem d_So_begin_26 : decode b_So_begin 26 = .ok (.return_, 1) := by decide +kernel
abbrev b_So_actOn : ByteArray := prog_6_method_3_code
theorem d_So_actOn_0 : decode b_So_actOn 0 = .ok (.aload_n 0, 1) := by decide +kernel
theorem d_So_actOn_1 : decode b_So_actOn 1 = .ok (.getfield 18, 3) := by decide +kernel
theorem d_So_actOn_4 : decode b_So_actOn 4 = .ok (.aload_n 0, 1) := by decide +kernel
theorem d_So_actOn_5 : decode b_So_actOn 5 = .ok (.getfield 25, 3) := by decide +kernel
theorem d_So_actOn_8 : decode b_So_actOn 8 = .ok (.lushr, 1) := by decide +kernel
theorem d_So_actOn_9 : decode b_So_actOn 9 = .ok (.lconst 1, 1) := by decide +kernel
theorem d_So_actOn_10 : decode b_So_actOn 10 = .ok (.land, 1) := by decide +kernel
theorem d_So_actOn_11 : decode b_So_actOn 11 = .ok (.lconst 1, 1) := by decide +kernel
theorem d_So_actOn_12 : decode b_So_actOn 12 = .ok (.lcmp, 1) := by decide +kernel
theorem d_So_actOn_13 : decode b_So_actOn 13 = .ok (.ifCond .ne 32, 3) := by decide +kernel
theorem d_So_actOn_16 : decode b_So_actOn 16 = .ok (.aload_n 1, 1) := by decide +kernel
theorem d_So_actOn_17 : decode b_So_actOn 17 = .ok (.aload_n 0, 1) := by decide +kernel
theorem d_So_actOn_18 : decode b_So_actOn 18 = .ok (.getfield 9, 3) := by decide +kernel
theorem d_So_actOn_21 : decode b_So_actOn 21 = .ok (.aload_n 0, 1) := by decide +kernel
theorem d_So_actOn_22 : decode b_So_actOn 22 = .ok (.getfield 15, 3) := by decide +kernel
theorem d_So_actOn_25 : decode b_So_actOn 25 = .ok (.invokevirtual 28, 3) := by decide +kernel
theorem d_So_actOn_28 : decode b_So_actOn 28 = .ok (.iconst 3, 1) := by decide +kernel
theorem d_So_actOn_29 : decode b_So_actOn 29 = .ok (.if_icmp .ne 16, 3) := by decide +kernel
theorem d_So_actOn_32 : decode b_So_actOn 32 = .ok (.aload_n 1, 1) := by decide +kernel
theorem d_So_actOn_33 : decode b_So_actOn 33 = .ok (.aload_n 0, 1) := by decide +kernel
theorem d_So_actOn_34 : decode b_So_actOn 34 = .ok (.getfield 9, 3) := by decide +kernel
theorem d_So_actOn_37 : decode b_So_actOn 37 = .ok (.aload_n 0, 1) := by decide +kernel
theorem d_So_actOn_38 : decode b_So_actOn 38 = .ok (.getfield 15, 3) := by decide +kernel
theorem d_So_actOn_41 : decode b_So_actOn 41 = .ok (.iconst 1, 1) := by decide +kernel
theorem d_So_actOn_42 : decode b_So_actOn 42 = .ok (.invokevirtual 34, 3) := by decide +kernel
theorem d_So_actOn_45 : decode b_So_actOn 45 = .ok (.aload_n 0, 1) := by decide +kernel
theorem d_So_actOn_46 : decode b_So_actOn 46 = .ok (.aload_n 0, 1) := by decide +kernel
theorem d_So_actOn_47 : decode b_So_actOn 47 = .ok (.getfield 25, 3) := by decide +kernel
theorem d_So_actOn_50 : decode b_So_actOn 50 = .ok (.iconst 1, 1) := by decide +kernel
theorem d_So_actOn_51 : decode b_So_actOn 51 = .ok (.iadd, 1) := by decide +kernel
theorem d_So_actOn_52 : decode b_So_actOn 52 = .ok (.aload_n 0, 1) := by decide +kernel
theorem d_So_actOn_53 : decode b_So_actOn 53 = .ok (.getfield 22, 3) := by decide +kernel
theorem d_So_actOn_56 : decode b_So_actOn 56 = .ok (.if_icmp .ge 12, 3) := by decide +kernel
theorem d_So_actOn_59 : decode b_So_actOn 59 = .ok (.aload_n 0, 1) := by decide +kernel
theorem d_So_actOn_60 : decode b_So_actOn 60 = .ok (.getfield 25, 3) := by decide +kernel
theorem d_So_actOn_63 : decode b_So_actOn 63 = .ok (.iconst 1, 1) := by decide +kernel
theorem d_So_actOn_64 : decode b_So_actOn 64 = .ok (.iadd, 1) := by decide +kernel
theorem d_So_actOn_65 : decode b_So_actOn 65 = .ok (.goto 4, 3) := by decide +kernel
theorem d_So_actOn_68 : decode b_So_actOn 68 = .ok (.iconst 0, 1) := by decide +kernel
theorem d_So_actOn_69 : decode b_So_actOn 69 = .ok (.putfield 25, 3) := by decide +kernel
theorem d_So_actOn_72 : decode b_So_actOn 72 = .ok (.return_, 1) := by decide +kernel
abbrev b_Tx_init : ByteArray := prog_7_method_1_code
theorem d_Tx_init_0 : decode b_Tx_init 0 = .ok (.aload_n 0, 1) := by decide +kernel
theorem d_Tx_init_1 : decode b_Tx_init 1 = .ok (.invokespecial 3, 3) := by decide +kernel
theorem d_Tx_init_4 : decode b_Tx_init 4 = .ok (.aload_n 0, 1) := by decide +kernel
theorem d_Tx_init_5 : decode b_Tx_init 5 = .ok (.bipush 60, 2) := by decide +kernel
theorem d_Tx_init_7 : decode b_Tx_init 7 = .ok (.newarray .char, 2) := by decide +kernel
theorem d_Tx_init_9 : decode b_Tx_init 9 = .ok (.putfield 9, 3) := by decide +kernel
theorem d_Tx_init_12 : decode b_Tx_init 12 = .ok (.aload_n 0, 1) := by decide +kernel
theorem d_Tx_init_13 : decode b_Tx_init 13 = .ok (.iconst 0, 1) := by decide +kernel
theorem d_Tx_init_14 : decode b_Tx_init 14 = .ok (.putfield 15, 3) := by decide +kernel
theorem d_Tx_init_17 : decode b_Tx_init 17 = .ok (.return_, 1) := by decide +kernel
abbrev b_Tx_add : ByteArray := prog_7_method_2_code
theorem d_Tx_add_0 : decode b_Tx_add 0 = .ok (.iload_n 1, 1) := by decide +kernel
theorem d_Tx_add_1 : decode b_Tx_add 1 = .ok (.bipush 33, 2) := by decide +kernel
theorem d_Tx_add_3 : decode b_Tx_add 3 = .ok (.if_icmp .lt 18, 3) := by decide +kernel
theorem d_Tx_add_6 : decode b_Tx_add 6 = .ok (.iload_n 1, 1) := by decide +kernel
theorem d_Tx_add_7 : decode b_Tx_add 7 = .ok (.bipush 126, 2) := by decide +kernel
theorem d_Tx_add_9 : decode b_Tx_add 9 = .ok (.if_icmp .gt 12, 3) := by decide +kernel
theorem d_Tx_add_12 : decode b_Tx_add 12 = .ok (.aload_n 0, 1) := by decide +kernel
theorem d_Tx_add_13 : decode b_Tx_add 13 = .ok (.getfield 15, 3) := by decide +kernel
theorem d_Tx_add_16 : decode b_Tx_add 16 = .ok (.bipush 60, 2) := by decide +kernel
theorem d_Tx_add_18 : decode b_Tx_add 18 = .ok (.if_icmp .lt 5, 3) := by decide +kernel
theorem d_Tx_add_21 : decode b_Tx_add 21 = .ok (.iconst 0, 1) := by decide +kernel
theorem d_Tx_add_22 : decode b_Tx_add 22 = .ok (.ireturn, 1) := by decide +kernel
theorem d_Tx_add_23 : decode b_Tx_add 23 = .ok (.aload_n 0, 1) := by decide +kernel
theorem d_Tx_add_24 : decode b_Tx_add 24 = .ok (.getfield 9, 3) := by decide +kernel
theorem d_Tx_add_27 : decode b_Tx_add 27 = .ok (.aload_n 0, 1) := by decide +kernel
theorem d_Tx_add_28 : decode b_Tx_add 28 = .ok (.getfield 15, 3) := by decide +kernel
theorem d_Tx_add_31 : decode b_Tx_add 31 = .ok (.iload_n 1, 1) := by decide +kernel
theorem d_Tx_add_32 : decode b_Tx_add 32 = .ok (.castore, 1) := by decide +kernel
theorem d_Tx_add_33 : decode b_Tx_add 33 = .ok (.aload_n 0, 1) := by decide +kernel
theorem d_Tx_add_34 : decode b_Tx_add 34 = .ok (.dup, 1) := by decide +kernel
theorem d_Tx_add_35 : decode b_Tx_add 35 = .ok (.getfield 15, 3) := by decide +kernel
theorem d_Tx_add_38 : decode b_Tx_add 38 = .ok (.iconst 1, 1) := by decide +kernel
theorem d_Tx_add_39 : decode b_Tx_add 39 = .ok (.iadd, 1) := by decide +kernel
theorem d_Tx_add_40 : decode b_Tx_add 40 = .ok (.putfield 15, 3) := by decide +kernel
theorem d_Tx_add_43 : decode b_Tx_add 43 = .ok (.iconst 1, 1) := by decide +kernel
theorem d_Tx_add_44 : decode b_Tx_add 44 = .ok (.ireturn, 1) := by decide +kernel
abbrev b_Tx_clear : ByteArray := prog_7_method_3_code
theorem d_Tx_clear_0 : decode b_Tx_clear 0 = .ok (.aload_n 0, 1) := by decide +kernel
theorem d_Tx_clear_1 : decode b_Tx_clear 1 = .ok (.iconst 0, 1) := by decide +kernel
theorem d_Tx_clear_2 : decode b_Tx_clear 2 = .ok (.putfield 15, 3) := by decide +kernel
theorem d_Tx_clear_5 : decode b_Tx_clear 5 = .ok (.return_, 1) := by decide +kernel
abbrev b_Tx_takeFrom : ByteArray := prog_7_method_4_code
theorem d_Tx_takeFrom_0 : decode b_Tx_takeFrom 0 = .ok (.aload_n 1, 1) := by decide +kernel
theorem d_Tx_takeFrom_1 : decode b_Tx_takeFrom 1 = .ok (.getfield 9, 3) := by decide +kernel
theorem d_Tx_takeFrom_4 : decode b_Tx_takeFrom 4 = .ok (.iconst 0, 1) := by decide +kernel
theorem d_Tx_takeFrom_5 : decode b_Tx_takeFrom 5 = .ok (.aload_n 0, 1) := by decide +kernel
theorem d_Tx_takeFrom_6 : decode b_Tx_takeFrom 6 = .ok (.getfield 9, 3) := by decide +kernel
theorem d_Tx_takeFrom_9 : decode b_Tx_takeFrom 9 = .ok (.iconst 0, 1) := by decide +kernel
theorem d_Tx_takeFrom_10 : decode b_Tx_takeFrom 10 = .ok (.bipush 60, 2) := by decide +kernel
theorem d_Tx_takeFrom_12 : decode b_Tx_takeFrom 12 = .ok (.invokestatic 19, 3) := by decide +kernel
theorem d_Tx_takeFrom_15 : decode b_Tx_takeFrom 15 = .ok (.aload_n 0, 1) := by decide +kernel
theorem d_Tx_takeFrom_16 : decode b_Tx_takeFrom 16 = .ok (.aload_n 1, 1) := by decide +kernel
theorem d_Tx_takeFrom_17 : decode b_Tx_takeFrom 17 = .ok (.getfield 15, 3) := by decide +kernel
theorem d_Tx_takeFrom_20 : decode b_Tx_takeFrom 20 = .ok (.putfield 15, 3) := by decide +kernel
theorem d_Tx_takeFrom_23 : decode b_Tx_takeFrom 23 = .ok (.return_, 1) := by decide +kernel
abbrev b_Tx_signAt : ByteArray := prog_7_method_5_code
theorem d_Tx_signAt_0 : decode b_Tx_signAt 0 = .ok (.iload_n 1, 1) := by decide +kernel
theorem d_Tx_signAt_1 : decode b_Tx_signAt 1 = .ok (.ifCond .lt 20, 3) := by decide +kernel
theorem d_Tx_signAt_4 : decode b_Tx_signAt 4 = .ok (.iload_n 1, 1) := by decide +kernel
theorem d_Tx_signAt_5 : decode b_Tx_signAt 5 = .ok (.aload_n 0, 1) := by decide +kernel
theorem d_Tx_signAt_6 : decode b_Tx_signAt 6 = .ok (.getfield 15, 3) := by decide +kernel
theorem d_Tx_signAt_9 : decode b_Tx_signAt 9 = .ok (.if_icmp .ge 12, 3) := by decide +kernel
theorem d_Tx_signAt_12 : decode b_Tx_signAt 12 = .ok (.aload_n 0, 1) := by decide +kernel
theorem d_Tx_signAt_13 : decode b_Tx_signAt 13 = .ok (.getfield 9, 3) := by decide +kernel
theorem d_Tx_signAt_16 : decode b_Tx_signAt 16 = .ok (.iload_n 1, 1) := by decide +kernel
theorem d_Tx_signAt_17 : decode b_Tx_signAt 17 = .ok (.caload, 1) := by decide +kernel
theorem d_Tx_signAt_18 : decode b_Tx_signAt 18 = .ok (.goto 4, 3) := by decide +kernel
theorem d_Tx_signAt_21 : decode b_Tx_signAt 21 = .ok (.iconst 0, 1) := by decide +kernel
theorem d_Tx_signAt_22 : decode b_Tx_signAt 22 = .ok (.ireturn, 1) := by decide +kernel
abbrev b_Tx_digitsAt : ByteArray := prog_7_method_6_code
theorem d_Tx_digitsAt_0 : decode b_Tx_digitsAt 0 = .ok (.aload_n 0, 1) := by decide +kernel
theorem d_Tx_digitsAt_1 : decode b_Tx_digitsAt 1 = .ok (.iload_n 1, 1) := by decide +kernel
theorem d_Tx_digitsAt_2 : decode b_Tx_digitsAt 2 = .ok (.invokevirtual 25, 3) := by decide +kernel
theorem d_Tx_digitsAt_5 : decode b_Tx_digitsAt 5 = .ok (.invokestatic 29, 3) := by decide +kernel
theorem d_Tx_digitsAt_8 : decode b_Tx_digitsAt 8 = .ok (.ifCond .ne 5, 3) := by decide +kernel
theorem d_Tx_digitsAt_11 : decode b_Tx_digitsAt 11 = .ok (.iconst 0, 1) := by decide +kernel
theorem d_Tx_digitsAt_12 : decode b_Tx_digitsAt 12 = .ok (.ireturn, 1) := by decide +kernel
theorem d_Tx_digitsAt_13 : decode b_Tx_digitsAt 13 = .ok (.aload_n 0, 1) := by decide +kernel
theorem d_Tx_digitsAt_14 : decode b_Tx_digitsAt 14 = .ok (.iload_n 1, 1) := by decide +kernel
theorem d_Tx_digitsAt_15 : decode b_Tx_digitsAt 15 = .ok (.iconst 1, 1) := by decide +kernel
theorem d_Tx_digitsAt_16 : decode b_Tx_digitsAt 16 = .ok (.iadd, 1) := by decide +kernel
theorem d_Tx_digitsAt_17 : decode b_Tx_digitsAt 17 = .ok (.invokevirtual 25, 3) := by decide +kernel
theorem d_Tx_digitsAt_20 : decode b_Tx_digitsAt 20 = .ok (.invokestatic 29, 3) := by decide +kernel
theorem d_Tx_digitsAt_23 : decode b_Tx_digitsAt 23 = .ok (.ifCond .eq 7, 3) := by decide +kernel
theorem d_Tx_digitsAt_26 : decode b_Tx_digitsAt 26 = .ok (.iconst 2, 1) := by decide +kernel
theorem d_Tx_digitsAt_27 : decode b_Tx_digitsAt 27 = .ok (.goto 4, 3) := by decide +kernel
theorem d_Tx_digitsAt_30 : decode b_Tx_digitsAt 30 = .ok (.iconst 1, 1) := by decide +kernel
theorem d_Tx_digitsAt_31 : decode b_Tx_digitsAt 31 = .ok (.ireturn, 1) := by decide +kernel
abbrev b_Tx_timesAt : ByteArray := prog_7_method_7_code
theorem d_Tx_timesAt_0 : decode b_Tx_timesAt 0 = .ok (.aload_n 0, 1) := by decide +kernel
theorem d_Tx_timesAt_1 : decode b_Tx_timesAt 1 = .ok (.iload_n 1, 1) := by decide +kernel
theorem d_Tx_timesAt_2 : decode b_Tx_timesAt 2 = .ok (.invokevirtual 33, 3) := by decide +kernel
theorem d_Tx_timesAt_5 : decode b_Tx_timesAt 5 = .ok (.lookupswitch 59 #[(1, 27), (2, 36)], 27) := by decide +kernel
theorem d_Tx_timesAt_32 : decode b_Tx_timesAt 32 = .ok (.aload_n 0, 1) := by decide +kernel
theorem d_Tx_timesAt_33 : decode b_Tx_timesAt 33 = .ok (.iload_n 1, 1) := by decide +kernel
theorem d_Tx_timesAt_34 : decode b_Tx_timesAt 34 = .ok (.invokevirtual 25, 3) := by decide +kernel
theorem d_Tx_timesAt_37 : decode b_Tx_timesAt 37 = .ok (.bipush 48, 2) := by decide +kernel
theorem d_Tx_timesAt_39 : decode b_Tx_timesAt 39 = .ok (.isub, 1) := by decide +kernel
theorem d_Tx_timesAt_40 : decode b_Tx_timesAt 40 = .ok (.ireturn, 1) := by decide +kernel
theorem d_Tx_timesAt_41 : decode b_Tx_timesAt 41 = .ok (.aload_n 0, 1) := by decide +kernel
theorem d_Tx_timesAt_42 : decode b_Tx_timesAt 42 = .ok (.iload_n 1, 1) := by decide +kernel
theorem d_Tx_timesAt_43 : decode b_Tx_timesAt 43 = .ok (.invokevirtual 25, 3) := by decide +kernel
theorem d_Tx_timesAt_46 : decode b_Tx_timesAt 46 = .ok (.bipush 48, 2) := by decide +kernel
theorem d_Tx_timesAt_48 : decode b_Tx_timesAt 48 = .ok (.isub, 1) := by decide +kernel
theorem d_Tx_timesAt_49 : decode b_Tx_timesAt 49 = .ok (.bipush 10, 2) := by decide +kernel
theorem d_Tx_timesAt_51 : decode b_Tx_timesAt 51 = .ok (.imul, 1) := by decide +kernel
theorem d_Tx_timesAt_52 : decode b_Tx_timesAt 52 = .ok (.aload_n 0, 1) := by decide +kernel
theorem d_Tx_timesAt_53 : decode b_Tx_timesAt 53 = .ok (.iload_n 1, 1) := by decide +kernel
theorem d_Tx_timesAt_54 : decode b_Tx_timesAt 54 = .ok (.iconst 1, 1) := by decide +kernel
theorem d_Tx_timesAt_55 : decode b_Tx_timesAt 55 = .ok (.iadd, 1) := by decide +kernel
theorem d_Tx_timesAt_56 : decode b_Tx_timesAt 56 = .ok (.invokevirtual 25, 3) := by decide +kernel
theorem d_Tx_timesAt_59 : decode b_Tx_timesAt 59 = .ok (.iadd, 1) := by decide +kernel
theorem d_Tx_timesAt_60 : decode b_Tx_timesAt 60 = .ok (.bipush 48, 2) := by decide +kernel
theorem d_Tx_timesAt_62 : decode b_Tx_timesAt 62 = .ok (.isub, 1) := by decide +kernel
theorem d_Tx_timesAt_63 : decode b_Tx_timesAt 63 = .ok (.ireturn, 1) := by decide +kernel
theorem d_Tx_timesAt_64 : decode b_Tx_timesAt 64 = .ok (.iconst 1, 1) := by decide +kernel
theorem d_Tx_timesAt_65 : decode b_Tx_timesAt 65 = .ok (.ireturn, 1) := by decide +kernel
abbrev b_Tx_isDigit : ByteArray := prog_7_method_8_code
theorem d_Tx_isDigit_0 : decode b_Tx_isDigit 0 = .ok (.iload_n 0, 1) := by decide +kernel
theorem d_Tx_isDigit_1 : decode b_Tx_isDigit 1 = .ok (.bipush 48, 2) := by decide +kernel
theorem d_Tx_isDigit_3 : decode b_Tx_isDigit 3 = .ok (.if_icmp .lt 13, 3) := by decide +kernel
theorem d_Tx_isDigit_6 : decode b_Tx_isDigit 6 = .ok (.iload_n 0, 1) := by decide +kernel
theorem d_Tx_isDigit_7 : decode b_Tx_isDigit 7 = .ok (.bipush 57, 2) := by decide +kernel
theorem d_Tx_isDigit_9 : decode b_Tx_isDigit 9 = .ok (.if_icmp .gt 7, 3) := by decide +kernel
theorem d_Tx_isDigit_12 : decode b_Tx_isDigit 12 = .ok (.iconst 1, 1) := by decide +kernel
theorem d_Tx_isDigit_13 : decode b_Tx_isDigit 13 = .ok (.goto 4, 3) := by decide +kernel
theorem d_Tx_isDigit_16 : decode b_Tx_isDigit 16 = .ok (.iconst 0, 1) := by decide +kernel
theorem d_Tx_isDigit_17 : decode b_Tx_isDigit 17 = .ok (.ireturn, 1) := by decide +kernel
abbrev b_Tx_isOrders : ByteArray := prog_7_method_9_code
theorem d_Tx_isOrders_0 : decode b_Tx_isOrders 0 = .ok (.aload_n 0, 1) := by decide +kernel
theorem d_Tx_isOrders_1 : decode b_Tx_isOrders 1 = .ok (.iconst 0, 1) := by decide +kernel
theorem d_Tx_isOrders_2 : decode b_Tx_isOrders 2 = .ok (.iconst 0, 1) := by decide +kernel
theorem d_Tx_isOrders_3 : decode b_Tx_isOrders 3 = .ok (.iload_n 1, 1) := by decide +kernel
theorem d_Tx_isOrders_4 : decode b_Tx_isOrders 4 = .ok (.invokevirtual 37, 3) := by decide +kernel
theorem d_Tx_isOrders_7 : decode b_Tx_isOrders 7 = .ok (.aload_n 0, 1) := by decide +kernel
theorem d_Tx_isOrders_8 : decode b_Tx_isOrders 8 = .ok (.getfield 15, 3) := by decide +kernel
theorem d_Tx_isOrders_11 : decode b_Tx_isOrders 11 = .ok (.if_icmp .ne 7, 3) := by decide +kernel
theorem d_Tx_isOrders_14 : decode b_Tx_isOrders 14 = .ok (.iconst 1, 1) := by decide +kernel
theorem d_Tx_isOrders_15 : decode b_Tx_isOrders 15 = .ok (.goto 4, 3) := by decide +kernel
theorem d_Tx_isOrders_18 : decode b_Tx_isOrders 18 = .ok (.iconst 0, 1) := by decide +kernel
theorem d_Tx_isOrders_19 : decode b_Tx_isOrders 19 = .ok (.ireturn, 1) := by decide +kernel
abbrev b_Tx_behindOrder : ByteArray := prog_7_method_10_code
theorem d_Tx_behindOrder_0 : decode b_Tx_behindOrder 0 = .ok (.aload_n 0, 1) := by decide +kernel
theorem d_Tx_behindOrder_1 : decode b_Tx_behindOrder 1 = .ok (.iload_n 1, 1) := by decide +kernel
theorem d_Tx_behindOrder_2 : decode b_Tx_behindOrder 2 = .ok (.iconst 0, 1) := by decide +kernel
theorem d_Tx_behindOrder_3 : decode b_Tx_behindOrder 3 = .ok (.iconst 4, 1) := by decide +kernel
theorem d_Tx_behindOrder_4 : decode b_Tx_behindOrder 4 = .ok (.invokevirtual 41, 3) := by decide +kernel
theorem d_Tx_behindOrder_7 : decode b_Tx_behindOrder 7 = .ok (.ireturn, 1) := by decide +kernel
abbrev b_Tx_heldMacros : ByteArray := prog_7_method_11_code
theorem d_Tx_heldMacros_0 : decode b_Tx_heldMacros 0 = .ok (.iconst 0, 1) := by decide +kernel
theorem d_Tx_heldMacros_1 : decode b_Tx_heldMacros 1 = .ok (.istore_n 1, 1) := by decide +kernel
theorem d_Tx_heldMacros_2 : decode b_Tx_heldMacros 2 = .ok (.iconst 0, 1) := by decide +kernel
theorem d_Tx_heldMacros_3 : decode b_Tx_heldMacros 3 = .ok (.istore_n 2, 1) := by decide +kernel
theorem d_Tx_heldMacros_4 : decode b_Tx_heldMacros 4 = .ok (.iload_n 2, 1) := by decide +kernel
theorem d_Tx_heldMacros_5 : decode b_Tx_heldMacros 5 = .ok (.aload_n 0, 1) := by decide +kernel
theorem d_Tx_heldMacros_6 : decode b_Tx_heldMacros 6 = .ok (.getfield 15, 3) := by decide +kernel
theorem d_Tx_heldMacros_9 : decode b_Tx_heldMacros 9 = .ok (.if_icmp .ge 45, 3) := by decide +kernel
theorem d_Tx_heldMacros_12 : decode b_Tx_heldMacros 12 = .ok (.aload_n 0, 1) := by decide +kernel
theorem d_Tx_heldMacros_13 : decode b_Tx_heldMacros 13 = .ok (.iload_n 2, 1) := by decide +kernel
theorem d_Tx_heldMacros_14 : decode b_Tx_heldMacros 14 = .ok (.iconst 1, 1) := by decide +kernel
theorem d_Tx_heldMacros_15 : decode b_Tx_heldMacros 15 = .ok (.iadd, 1) := by decide +kernel
theorem d_Tx_heldMacros_16 : decode b_Tx_heldMacros 16 = .ok (.invokevirtual 25, 3) := by decide +kernel
theorem d_Tx_heldMacros_19 : decode b_Tx_heldMacros 19 = .ok (.bipush 97, 2) := by decide +kernel
theorem d_Tx_heldMacros_21 : decode b_Tx_heldMacros 21 = .ok (.isub, 1) := by decide +kernel
theorem d_Tx_heldMacros_22 : decode b_Tx_heldMacros 22 = .ok (.istore_n 3, 1) := by decide +kernel
theorem d_Tx_heldMacros_23 : decode b_Tx_heldMacros 23 = .ok (.aload_n 0, 1) := by decide +kernel
theorem d_Tx_heldMacros_24 : decode b_Tx_heldMacros 24 = .ok (.iload_n 2, 1) := by decide +kernel
theorem d_Tx_heldMacros_25 : decode b_Tx_heldMacros 25 = .ok (.invokevirtual 25, 3) := by decide +kernel
theorem d_Tx_heldMacros_28 : decode b_Tx_heldMacros 28 = .ok (.bipush 64, 2) := by decide +kernel
theorem d_Tx_heldMacros_30 : decode b_Tx_heldMacros 30 = .ok (.if_icmp .ne 18, 3) := by decide +kernel
theorem d_Tx_heldMacros_33 : decode b_Tx_heldMacros 33 = .ok (.iload_n 3, 1) := by decide +kernel
theorem d_Tx_heldMacros_34 : decode b_Tx_heldMacros 34 = .ok (.ifCond .lt 14, 3) := by decide +kernel
theorem d_Tx_heldMacros_37 : decode b_Tx_heldMacros 37 = .ok (.iload_n 3, 1) := by decide +kernel
theorem d_Tx_heldMacros_38 : decode b_Tx_heldMacros 38 = .ok (.iconst 4, 1) := by decide +kernel
theorem d_Tx_heldMacros_39 : decode b_Tx_heldMacros 39 = .ok (.if_icmp .ge 9, 3) := by decide +kernel
theorem d_Tx_heldMacros_42 : decode b_Tx_heldMacros 42 = .ok (.iload_n 1, 1) := by decide +kernel
theorem d_Tx_heldMacros_43 : decode b_Tx_heldMacros 43 = .ok (.iconst 1, 1) := by decide +kernel
theorem d_Tx_heldMacros_44 : decode b_Tx_heldMacros 44 = .ok (.iload_n 3, 1) := by decide +kernel
theorem d_Tx_heldMacros_45 : decode b_Tx_heldMacros 45 = .ok (.ishl, 1) := by decide +kernel
theorem d_Tx_heldMacros_46 : decode b_Tx_heldMacros 46 = .ok (.ior, 1) := by decide +kernel
theorem d_Tx_heldMacros_47 : decode b_Tx_heldMacros 47 = .ok (.istore_n 1, 1) := by decide +kernel
theorem d_Tx_heldMacros_48 : decode b_Tx_heldMacros 48 = .ok (.iinc 2 1, 3) := by decide +kernel
theorem d_Tx_heldMacros_51 : decode b_Tx_heldMacros 51 = .ok (.goto (-47), 3) := by decide +kernel
theorem d_Tx_heldMacros_54 : decode b_Tx_heldMacros 54 = .ok (.iload_n 1, 1) := by decide +kernel
theorem d_Tx_heldMacros_55 : decode b_Tx_heldMacros 55 = .ok (.ireturn, 1) := by decide +kernel
abbrev b_Tx_endOfOrders : ByteArray := prog_7_method_12_code
theorem d_Tx_endOfOrders_0 : decode b_Tx_endOfOrders 0 = .ok (.iload_n 1, 1) := by decide +kernel
theorem d_Tx_endOfOrders_1 : decode b_Tx_endOfOrders 1 = .ok (.istore 4, 2) := by decide +kernel
theorem d_Tx_endOfOrders_3 : decode b_Tx_endOfOrders 3 = .ok (.iconst 0, 1) := by decide +kernel
theorem d_Tx_endOfOrders_4 : decode b_Tx_endOfOrders 4 = .ok (.istore 5, 2) := by decide +kernel
theorem d_Tx_endOfOrders_6 : decode b_Tx_endOfOrders 6 = .ok (.iload 5, 2) := by decide +kernel
theorem d_Tx_endOfOrders_8 : decode b_Tx_endOfOrders 8 = .ok (.bipush 60, 2) := by decide +kernel
theorem d_Tx_endOfOrders_10 : decode b_Tx_endOfOrders 10 = .ok (.if_icmp .ge 52, 3) := by decide +kernel
theorem d_Tx_endOfOrders_13 : decode b_Tx_endOfOrders 13 = .ok (.iload 4, 2) := by decide +kernel
theorem d_Tx_endOfOrders_15 : decode b_Tx_endOfOrders 15 = .ok (.ifCond .lt 47, 3) := by decide +kernel
theorem d_Tx_endOfOrders_18 : decode b_Tx_endOfOrders 18 = .ok (.iload 4, 2) := by decide +kernel
theorem d_Tx_endOfOrders_20 : decode b_Tx_endOfOrders 20 = .ok (.aload_n 0, 1) := by decide +kernel
theorem d_Tx_endOfOrders_21 : decode b_Tx_endOfOrders 21 = .ok (.getfield 15, 3) := by decide +kernel
theorem d_Tx_endOfOrders_24 : decode b_Tx_endOfOrders 24 = .ok (.if_icmp .ge 38, 3) := by decide +kernel
theorem d_Tx_endOfOrders_27 : decode b_Tx_endOfOrders 27 = .ok (.aload_n 0, 1) := by decide +kernel
theorem d_Tx_endOfOrders_28 : decode b_Tx_endOfOrders 28 = .ok (.iload 4, 2) := by decide +kernel
theorem d_Tx_endOfOrders_30 : decode b_Tx_endOfOrders 30 = .ok (.invokevirtual 25, 3) := by decide +kernel
theorem d_Tx_endOfOrders_33 : decode b_Tx_endOfOrders 33 = .ok (.invokestatic 44, 3) := by decide +kernel
theorem d_Tx_endOfOrders_36 : decode b_Tx_endOfOrders 36 = .ok (.ifCond .ne 26, 3) := by decide +kernel
theorem d_Tx_endOfOrders_39 : decode b_Tx_endOfOrders 39 = .ok (.aload_n 0, 1) := by decide +kernel
theorem d_Tx_endOfOrders_40 : decode b_Tx_endOfOrders 40 = .ok (.iload 4, 2) := by decide +kernel
theorem d_Tx_endOfOrders_42 : decode b_Tx_endOfOrders 42 = .ok (.aload_n 0, 1) := by decide +kernel
theorem d_Tx_endOfOrders_43 : decode b_Tx_endOfOrders 43 = .ok (.iload 4, 2) := by decide +kernel
theorem d_Tx_endOfOrders_45 : decode b_Tx_endOfOrders 45 = .ok (.invokevirtual 33, 3) := by decide +kernel
theorem d_Tx_endOfOrders_48 : decode b_Tx_endOfOrders 48 = .ok (.iadd, 1) := by decide +kernel
theorem d_Tx_endOfOrders_49 : decode b_Tx_endOfOrders 49 = .ok (.iload_n 2, 1) := by decide +kernel
theorem d_Tx_endOfOrders_50 : decode b_Tx_endOfOrders 50 = .ok (.iload_n 3, 1) := by decide +kernel
theorem d_Tx_endOfOrders_51 : decode b_Tx_endOfOrders 51 = .ok (.invokevirtual 41, 3) := by decide +kernel
theorem d_Tx_endOfOrders_54 : decode b_Tx_endOfOrders 54 = .ok (.istore 4, 2) := by decide +kernel
theorem d_Tx_endOfOrders_56 : decode b_Tx_endOfOrders 56 = .ok (.iinc 5 1, 3) := by decide +kernel
theorem d_Tx_endOfOrders_59 : decode b_Tx_endOfOrders 59 = .ok (.goto (-53), 3) := by decide +kernel
theorem d_Tx_endOfOrders_62 : decode b_Tx_endOfOrders 62 = .ok (.iload 4, 2) := by decide +kernel
theorem d_Tx_endOfOrders_64 : decode b_Tx_endOfOrders 64 = .ok (.ireturn, 1) := by decide +kernel
abbrev b_Tx_endOfOrder : ByteArray := prog_7_method_13_code
theorem d_Tx_endOfOrder_0 : decode b_Tx_endOfOrder 0 = .ok (.aload_n 0, 1) := by decide +kernel
theorem d_Tx_endOfOrder_1 : decode b_Tx_endOfOrder 1 = .ok (.iload_n 1, 1) := by decide +kernel
theorem d_Tx_endOfOrder_2 : decode b_Tx_endOfOrder 2 = .ok (.invokevirtual 25, 3) := by decide +kernel
theorem d_Tx_endOfOrder_5 : decode b_Tx_endOfOrder 5 = .ok (.istore 4, 2) := by decide +kernel
theorem d_Tx_endOfOrder_7 : decode b_Tx_endOfOrder 7 = .ok (.iload 4, 2) := by decide +kernel
theorem d_Tx_endOfOrder_9 : decode b_Tx_endOfOrder 9 = .ok (.bipush 40, 2) := by decide +kernel
theorem d_Tx_endOfOrder_11 : decode b_Tx_endOfOrder 11 = .ok (.if_icmp .ne 17, 3) := by decide +kernel
theorem d_Tx_endOfOrder_14 : decode b_Tx_endOfOrder 14 = .ok (.aload_n 0, 1) := by decide +kernel
theorem d_Tx_endOfOrder_15 : decode b_Tx_endOfOrder 15 = .ok (.iload_n 1, 1) := by decide +kernel
theorem d_Tx_endOfOrder_16 : decode b_Tx_endOfOrder 16 = .ok (.iconst 1, 1) := by decide +kernel
theorem d_Tx_endOfOrder_17 : decode b_Tx_endOfOrder 17 = .ok (.iadd, 1) := by decide +kernel
theorem d_Tx_endOfOrder_18 : decode b_Tx_endOfOrder 18 = .ok (.bipush 41, 2) := by decide +kernel
theorem d_Tx_endOfOrder_20 : decode b_Tx_endOfOrder 20 = .ok (.iload_n 2, 1) := by decide +kernel
theorem d_Tx_endOfOrder_21 : decode b_Tx_endOfOrder 21 = .ok (.iconst 1, 1) := by decide +kernel
theorem d_Tx_endOfOrder_22 : decode b_Tx_endOfOrder 22 = .ok (.iadd, 1) := by decide +kernel
theorem d_Tx_endOfOrder_23 : decode b_Tx_endOfOrder 23 = .ok (.iload_n 3, 1) := by decide +kernel
theorem d_Tx_endOfOrder_24 : decode b_Tx_endOfOrder 24 = .ok (.invokevirtual 47, 3) := by decide +kernel
theorem d_Tx_endOfOrder_27 : decode b_Tx_endOfOrder 27 = .ok (.ireturn, 1) := by decide +kernel
theorem d_Tx_endOfOrder_28 : decode b_Tx_endOfOrder 28 = .ok (.iload 4, 2) := by decide +kernel
theorem d_Tx_endOfOrder_30 : decode b_Tx_endOfOrder 30 = .ok (.bipush 91, 2) := by decide +kernel
theorem d_Tx_endOfOrder_32 : decode b_Tx_endOfOrder 32 = .ok (.if_icmp .ne 17, 3) := by decide +kernel
theorem d_Tx_endOfOrder_35 : decode b_Tx_endOfOrder 35 = .ok (.aload_n 0, 1) := by decide +kernel
theorem d_Tx_endOfOrder_36 : decode b_Tx_endOfOrder 36 = .ok (.iload_n 1, 1) := by decide +kernel
theorem d_Tx_endOfOrder_37 : decode b_Tx_endOfOrder 37 = .ok (.iconst 1, 1) := by decide +kernel
theorem d_Tx_endOfOrder_38 : decode b_Tx_endOfOrder 38 = .ok (.iadd, 1) := by decide +kernel
theorem d_Tx_endOfOrder_39 : decode b_Tx_endOfOrder 39 = .ok (.bipush 93, 2) := by decide +kernel
theorem d_Tx_endOfOrder_41 : decode b_Tx_endOfOrder 41 = .ok (.iload_n 2, 1) := by decide +kernel
theorem d_Tx_endOfOrder_42 : decode b_Tx_endOfOrder 42 = .ok (.iconst 1, 1) := by decide +kernel
theorem d_Tx_endOfOrder_43 : decode b_Tx_endOfOrder 43 = .ok (.iadd, 1) := by decide +kernel
theorem d_Tx_endOfOrder_44 : decode b_Tx_endOfOrder 44 = .ok (.iload_n 3, 1) := by decide +kernel
theorem d_Tx_endOfOrder_45 : decode b_Tx_endOfOrder 45 = .ok (.invokevirtual 47, 3) := by decide +kernel
theorem d_Tx_endOfOrder_48 : decode b_Tx_endOfOrder 48 = .ok (.ireturn, 1) := by decide +kernel
theorem d_Tx_endOfOrder_49 : decode b_Tx_endOfOrder 49 = .ok (.iload 4, 2) := by decide +kernel
theorem d_Tx_endOfOrder_51 : decode b_Tx_endOfOrder 51 = .ok (.bipush 64, 2) := by decide +kernel
theorem d_Tx_endOfOrder_53 : decode b_Tx_endOfOrder 53 = .ok (.if_icmp .ne 34, 3) := by decide +kernel
theorem d_Tx_endOfOrder_56 : decode b_Tx_endOfOrder 56 = .ok (.aload_n 0, 1) := by decide +kernel
theorem d_Tx_endOfOrder_57 : decode b_Tx_endOfOrder 57 = .ok (.iload_n 1, 1) := by decide +kernel
theorem d_Tx_endOfOrder_58 : decode b_Tx_endOfOrder 58 = .ok (.iconst 1, 1) := by decide +kernel
theorem d_Tx_endOfOrder_59 : decode b_Tx_endOfOrder 59 = .ok (.iadd, 1) := by decide +kernel
theorem d_Tx_endOfOrder_60 : decode b_Tx_endOfOrder 60 = .ok (.invokevirtual 25, 3) := by decide +kernel
theorem d_Tx_endOfOrder_63 : decode b_Tx_endOfOrder 63 = .ok (.bipush 97, 2) := by decide +kernel
theorem d_Tx_endOfOrder_65 : decode b_Tx_endOfOrder 65 = .ok (.isub, 1) := by decide +kernel
theorem d_Tx_endOfOrder_66 : decode b_Tx_endOfOrder 66 = .ok (.istore 5, 2) := by decide +kernel
theorem d_Tx_endOfOrder_68 : decode b_Tx_endOfOrder 68 = .ok (.iload 5, 2) := by decide +kernel
theorem d_Tx_endOfOrder_70 : decode b_Tx_endOfOrder 70 = .ok (.ifCond .lt 15, 3) := by decide +kernel
theorem d_Tx_endOfOrder_73 : decode b_Tx_endOfOrder 73 = .ok (.iload 5, 2) := by decide +kernel
theorem d_Tx_endOfOrder_75 : decode b_Tx_endOfOrder 75 = .ok (.iload_n 3, 1) := by decide +kernel
theorem d_Tx_endOfOrder_76 : decode b_Tx_endOfOrder 76 = .ok (.if_icmp .ge 9, 3) := by decide +kernel
theorem d_Tx_endOfOrder_79 : decode b_Tx_endOfOrder 79 = .ok (.iload_n 1, 1) := by decide +kernel
theorem d_Tx_endOfOrder_80 : decode b_Tx_endOfOrder 80 = .ok (.iconst 2, 1) := by decide +kernel
theorem d_Tx_endOfOrder_81 : decode b_Tx_endOfOrder 81 = .ok (.iadd, 1) := by decide +kernel
theorem d_Tx_endOfOrder_82 : decode b_Tx_endOfOrder 82 = .ok (.goto 4, 3) := by decide +kernel
theorem d_Tx_endOfOrder_85 : decode b_Tx_endOfOrder 85 = .ok (.iconst (-1), 1) := by decide +kernel
theorem d_Tx_endOfOrder_86 : decode b_Tx_endOfOrder 86 = .ok (.ireturn, 1) := by decide +kernel
theorem d_Tx_endOfOrder_87 : decode b_Tx_endOfOrder 87 = .ok (.ldc 51, 2) := by decide +kernel
theorem d_Tx_endOfOrder_89 : decode b_Tx_endOfOrder 89 = .ok (.iload 4, 2) := by decide +kernel
theorem d_Tx_endOfOrder_91 : decode b_Tx_endOfOrder 91 = .ok (.invokevirtual 53, 3) := by decide +kernel
theorem d_Tx_endOfOrder_94 : decode b_Tx_endOfOrder 94 = .ok (.ifCond .lt 9, 3) := by decide +kernel
theorem d_Tx_endOfOrder_97 : decode b_Tx_endOfOrder 97 = .ok (.iload_n 1, 1) := by decide +kernel
theorem d_Tx_endOfOrder_98 : decode b_Tx_endOfOrder 98 = .ok (.iconst 1, 1) := by decide +kernel
theorem d_Tx_endOfOrder_99 : decode b_Tx_endOfOrder 99 = .ok (.iadd, 1) := by decide +kernel
theorem d_Tx_endOfOrder_100 : decode b_Tx_endOfOrder 100 = .ok (.goto 4, 3) := by decide +kernel
theorem d_Tx_endOfOrder_103 : decode b_Tx_endOfOrder 103 = .ok (.iconst (-1), 1) := by decide +kernel
theorem d_Tx_endOfOrder_104 : decode b_Tx_endOfOrder 104 = .ok (.ireturn, 1) := by decide +kernel
abbrev b_Tx_endOfBracket : ByteArray := prog_7_method_14_code
theorem d_Tx_endOfBracket_0 : decode b_Tx_endOfBracket 0 = .ok (.iload_n 3, 1) := by decide +kernel
theorem d_Tx_endOfBracket_1 : decode b_Tx_endOfBracket 1 = .ok (.iconst 3, 1) := by decide +kernel
theorem d_Tx_endOfBracket_2 : decode b_Tx_endOfBracket 2 = .ok (.if_icmp .le 5, 3) := by decide +kernel
theorem d_Tx_endOfBracket_5 : decode b_Tx_endOfBracket 5 = .ok (.iconst (-1), 1) := by decide +kernel
theorem d_Tx_endOfBracket_6 : decode b_Tx_endOfBracket 6 = .ok (.ireturn, 1) := by decide +kernel
theorem d_Tx_endOfBracket_7 : decode b_Tx_endOfBracket 7 = .ok (.aload_n 0, 1) := by decide +kernel
theorem d_Tx_endOfBracket_8 : decode b_Tx_endOfBracket 8 = .ok (.iload_n 1, 1) := by decide +kernel
theorem d_Tx_endOfBracket_9 : decode b_Tx_endOfBracket 9 = .ok (.iload_n 3, 1) := by decide +kernel
theorem d_Tx_endOfBracket_10 : decode b_Tx_endOfBracket 10 = .ok (.iload 4, 2) := by decide +kernel
theorem d_Tx_endOfBracket_12 : decode b_Tx_endOfBracket 12 = .ok (.invokevirtual 37, 3) := by decide +kernel
theorem d_Tx_endOfBracket_15 : decode b_Tx_endOfBracket 15 = .ok (.istore 5, 2) := by decide +kernel
theorem d_Tx_endOfBracket_17 : decode b_Tx_endOfBracket 17 = .ok (.iload 5, 2) := by decide +kernel
theorem d_Tx_endOfBracket_19 : decode b_Tx_endOfBracket 19 = .ok (.ifCond .lt 20, 3) := by decide +kernel
theorem d_Tx_endOfBracket_22 : decode b_Tx_endOfBracket 22 = .ok (.aload_n 0, 1) := by decide +kernel
theorem d_Tx_endOfBracket_23 : decode b_Tx_endOfBracket 23 = .ok (.iload 5, 2) := by decide +kernel
theorem d_Tx_endOfBracket_25 : decode b_Tx_endOfBracket 25 = .ok (.invokevirtual 25, 3) := by decide +kernel
theorem d_Tx_endOfBracket_28 : decode b_Tx_endOfBracket 28 = .ok (.iload_n 2, 1) := by decide +kernel
theorem d_Tx_endOfBracket_29 : decode b_Tx_endOfBracket 29 = .ok (.if_icmp .ne 10, 3) := by decide +kernel
theorem d_Tx_endOfBracket_32 : decode b_Tx_endOfBracket 32 = .ok (.iload 5, 2) := by decide +kernel
theorem d_Tx_endOfBracket_34 : decode b_Tx_endOfBracket 34 = .ok (.iconst 1, 1) := by decide +kernel
theorem d_Tx_endOfBracket_35 : decode b_Tx_endOfBracket 35 = .ok (.iadd, 1) := by decide +kernel
theorem d_Tx_endOfBracket_36 : decode b_Tx_endOfBracket 36 = .ok (.goto 4, 3) := by decide +kernel
theorem d_Tx_endOfBracket_39 : decode b_Tx_endOfBracket 39 = .ok (.iconst (-1), 1) := by decide +kernel
theorem d_Tx_endOfBracket_40 : decode b_Tx_endOfBracket 40 = .ok (.ireturn, 1) := by decide +kernel
abbrev b_Tx_isClosing : ByteArray := prog_7_method_15_code
theorem d_Tx_isClosing_0 : decode b_Tx_isClosing 0 = .ok (.iload_n 0, 1) := by decide +kernel
theorem d_Tx_isClosing_1 : decode b_Tx_isClosing 1 = .ok (.bipush 41, 2) := by decide +kernel
theorem d_Tx_isClosing_3 : decode b_Tx_isClosing 3 = .ok (.if_icmp .eq 9, 3) := by decide +kernel
theorem d_Tx_isClosing_6 : decode b_Tx_isClosing 6 = .ok (.iload_n 0, 1) := by decide +kernel
theorem d_Tx_isClosing_7 : decode b_Tx_isClosing 7 = .ok (.bipush 93, 2) := by decide +kernel
theorem d_Tx_isClosing_9 : decode b_Tx_isClosing 9 = .ok (.if_icmp .ne 7, 3) := by decide +kernel
theorem d_Tx_isClosing_12 : decode b_Tx_isClosing 12 = .ok (.iconst 1, 1) := by decide +kernel
theorem d_Tx_isClosing_13 : decode b_Tx_isClosing 13 = .ok (.goto 4, 3) := by decide +kernel
theorem d_Tx_isClosing_16 : decode b_Tx_isClosing 16 = .ok (.iconst 0, 1) := by decide +kernel
theorem d_Tx_isClosing_17 : decode b_Tx_isClosing 17 = .ok (.ireturn, 1) := by decide +kernel
