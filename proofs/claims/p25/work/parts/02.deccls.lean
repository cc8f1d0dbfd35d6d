theorem dX0_init_0 : decode cX0_init 0 = .ok (.aload_n 0, 1) := by decide +kernel
theorem dX0_init_1 : decode cX0_init 1 = .ok (.invokespecial 1, 3) := by decide +kernel
theorem dX0_init_4 : decode cX0_init 4 = .ok (.return_, 1) := by decide +kernel
theorem dX0_copyFrom_0 : decode cX0_copyFrom 0 = .ok (.aload_n 0, 1) := by decide +kernel
theorem dX0_copyFrom_1 : decode cX0_copyFrom 1 = .ok (.aload_n 1, 1) := by decide +kernel
theorem dX0_copyFrom_2 : decode cX0_copyFrom 2 = .ok (.getfield 7, 3) := by decide +kernel
theorem dX0_copyFrom_5 : decode cX0_copyFrom 5 = .ok (.putfield 7, 3) := by decide +kernel
theorem dX0_copyFrom_8 : decode cX0_copyFrom 8 = .ok (.aload_n 0, 1) := by decide +kernel
theorem dX0_copyFrom_9 : decode cX0_copyFrom 9 = .ok (.aload_n 1, 1) := by decide +kernel
theorem dX0_copyFrom_10 : decode cX0_copyFrom 10 = .ok (.getfield 13, 3) := by decide +kernel
theorem dX0_copyFrom_13 : decode cX0_copyFrom 13 = .ok (.putfield 13, 3) := by decide +kernel
theorem dX0_copyFrom_16 : decode cX0_copyFrom 16 = .ok (.aload_n 0, 1) := by decide +kernel
theorem dX0_copyFrom_17 : decode cX0_copyFrom 17 = .ok (.aload_n 1, 1) := by decide +kernel
theorem dX0_copyFrom_18 : decode cX0_copyFrom 18 = .ok (.getfield 16, 3) := by decide +kernel
theorem dX0_copyFrom_21 : decode cX0_copyFrom 21 = .ok (.putfield 16, 3) := by decide +kernel
theorem dX0_copyFrom_24 : decode cX0_copyFrom 24 = .ok (.aload_n 0, 1) := by decide +kernel
theorem dX0_copyFrom_25 : decode cX0_copyFrom 25 = .ok (.aload_n 1, 1) := by decide +kernel
theorem dX0_copyFrom_26 : decode cX0_copyFrom 26 = .ok (.getfield 19, 3) := by decide +kernel
theorem dX0_copyFrom_29 : decode cX0_copyFrom 29 = .ok (.putfield 19, 3) := by decide +kernel
theorem dX0_copyFrom_32 : decode cX0_copyFrom 32 = .ok (.aload_n 0, 1) := by decide +kernel
theorem dX0_copyFrom_33 : decode cX0_copyFrom 33 = .ok (.aload_n 1, 1) := by decide +kernel
theorem dX0_copyFrom_34 : decode cX0_copyFrom 34 = .ok (.getfield 22, 3) := by decide +kernel
theorem dX0_copyFrom_37 : decode cX0_copyFrom 37 = .ok (.putfield 22, 3) := by decide +kernel
theorem dX0_copyFrom_40 : decode cX0_copyFrom 40 = .ok (.aload_n 0, 1) := by decide +kernel
theorem dX0_copyFrom_41 : decode cX0_copyFrom 41 = .ok (.aload_n 1, 1) := by decide +kernel
theorem dX0_copyFrom_42 : decode cX0_copyFrom 42 = .ok (.getfield 25, 3) := by decide +kernel
theorem dX0_copyFrom_45 : decode cX0_copyFrom 45 = .ok (.putfield 25, 3) := by decide +kernel
theorem dX0_copyFrom_48 : decode cX0_copyFrom 48 = .ok (.aload_n 0, 1) := by decide +kernel
theorem dX0_copyFrom_49 : decode cX0_copyFrom 49 = .ok (.aload_n 1, 1) := by decide +kernel
theorem dX0_copyFrom_50 : decode cX0_copyFrom 50 = .ok (.getfield 28, 3) := by decide +kernel
theorem dX0_copyFrom_53 : decode cX0_copyFrom 53 = .ok (.putfield 28, 3) := by decide +kernel
theorem dX0_copyFrom_56 : decode cX0_copyFrom 56 = .ok (.aload_n 0, 1) := by decide +kernel
theorem dX0_copyFrom_57 : decode cX0_copyFrom 57 = .ok (.aload_n 1, 1) := by decide +kernel
theorem dX0_copyFrom_58 : decode cX0_copyFrom 58 = .ok (.getfield 31, 3) := by decide +kernel
theorem dX0_copyFrom_61 : decode cX0_copyFrom 61 = .ok (.putfield 31, 3) := by decide +kernel
theorem dX0_copyFrom_64 : decode cX0_copyFrom 64 = .ok (.return_, 1) := by decide +kernel
theorem dX0_worth_0 : decode cX0_worth 0 = .ok (.aload_n 0, 1) := by decide +kernel
theorem dX0_worth_1 : decode cX0_worth 1 = .ok (.getfield 7, 3) := by decide +kernel
theorem dX0_worth_4 : decode cX0_worth 4 = .ok (.aload_n 0, 1) := by decide +kernel
theorem dX0_worth_5 : decode cX0_worth 5 = .ok (.getfield 25, 3) := by decide +kernel
theorem dX0_worth_8 : decode cX0_worth 8 = .ok (.imul, 1) := by decide +kernel
theorem dX0_worth_9 : decode cX0_worth 9 = .ok (.ireturn, 1) := by decide +kernel
theorem dX1_init_0 : decode cX1_init 0 = .ok (.aload_n 0, 1) := by decide +kernel
theorem dX1_init_1 : decode cX1_init 1 = .ok (.invokespecial 3, 3) := by decide +kernel
theorem dX1_init_4 : decode cX1_init 4 = .ok (.return_, 1) := by decide +kernel
theorem dX1_begin_0 : decode cX1_begin 0 = .ok (.aload_n 0, 1) := by decide +kernel
theorem dX1_begin_1 : decode cX1_begin 1 = .ok (.aload_n 1, 1) := by decide +kernel
theorem dX1_begin_2 : decode cX1_begin 2 = .ok (.getfield 9, 3) := by decide +kernel
theorem dX1_begin_5 : decode cX1_begin 5 = .ok (.putfield 15, 3) := by decide +kernel
theorem dX1_begin_8 : decode cX1_begin 8 = .ok (.aload_n 0, 1) := by decide +kernel
theorem dX1_begin_9 : decode cX1_begin 9 = .ok (.aload_n 1, 1) := by decide +kernel
theorem dX1_begin_10 : decode cX1_begin 10 = .ok (.getfield 20, 3) := by decide +kernel
theorem dX1_begin_13 : decode cX1_begin 13 = .ok (.putfield 23, 3) := by decide +kernel
theorem dX1_begin_16 : decode cX1_begin 16 = .ok (.aload_n 0, 1) := by decide +kernel
theorem dX1_begin_17 : decode cX1_begin 17 = .ok (.iconst 0, 1) := by decide +kernel
theorem dX1_begin_18 : decode cX1_begin 18 = .ok (.putfield 26, 3) := by decide +kernel
theorem dX1_begin_21 : decode cX1_begin 21 = .ok (.return_, 1) := by decide +kernel
theorem dX1_bitsOfEarningsByTheDay_0 : decode cX1_bitsOfEarningsByTheDay 0 = .ok (.aload_n 0, 1) := by decide +kernel
theorem dX1_bitsOfEarningsByTheDay_1 : decode cX1_bitsOfEarningsByTheDay 1 = .ok (.getfield 29, 3) := by decide +kernel
theorem dX1_bitsOfEarningsByTheDay_4 : decode cX1_bitsOfEarningsByTheDay 4 = .ok (.iconst 1, 1) := by decide +kernel
theorem dX1_bitsOfEarningsByTheDay_5 : decode cX1_bitsOfEarningsByTheDay 5 = .ok (.if_icmp .ge 7, 3) := by decide +kernel
theorem dX1_bitsOfEarningsByTheDay_8 : decode cX1_bitsOfEarningsByTheDay 8 = .ok (.iconst 0, 1) := by decide +kernel
theorem dX1_bitsOfEarningsByTheDay_9 : decode cX1_bitsOfEarningsByTheDay 9 = .ok (.goto 17, 3) := by decide +kernel
theorem dX1_bitsOfEarningsByTheDay_12 : decode cX1_bitsOfEarningsByTheDay 12 = .ok (.aload_n 0, 1) := by decide +kernel
theorem dX1_bitsOfEarningsByTheDay_13 : decode cX1_bitsOfEarningsByTheDay 13 = .ok (.getfield 32, 3) := by decide +kernel
theorem dX1_bitsOfEarningsByTheDay_16 : decode cX1_bitsOfEarningsByTheDay 16 = .ok (.i2f, 1) := by decide +kernel
theorem dX1_bitsOfEarningsByTheDay_17 : decode cX1_bitsOfEarningsByTheDay 17 = .ok (.aload_n 0, 1) := by decide +kernel
theorem dX1_bitsOfEarningsByTheDay_18 : decode cX1_bitsOfEarningsByTheDay 18 = .ok (.getfield 29, 3) := by decide +kernel
theorem dX1_bitsOfEarningsByTheDay_21 : decode cX1_bitsOfEarningsByTheDay 21 = .ok (.i2f, 1) := by decide +kernel
theorem dX1_bitsOfEarningsByTheDay_22 : decode cX1_bitsOfEarningsByTheDay 22 = .ok (.fdiv, 1) := by decide +kernel
theorem dX1_bitsOfEarningsByTheDay_23 : decode cX1_bitsOfEarningsByTheDay 23 = .ok (.invokestatic 35, 3) := by decide +kernel
theorem dX1_bitsOfEarningsByTheDay_26 : decode cX1_bitsOfEarningsByTheDay 26 = .ok (.ireturn, 1) := by decide +kernel
theorem dX1_bitsOf_0 : decode cX1_bitsOf 0 = .ok (.fload_n 0, 1) := by decide +kernel
theorem dX1_bitsOf_1 : decode cX1_bitsOf 1 = .ok (.fconst 0, 1) := by decide +kernel
theorem dX1_bitsOf_2 : decode cX1_bitsOf 2 = .ok (.fcmp .g, 1) := by decide +kernel
theorem dX1_bitsOf_3 : decode cX1_bitsOf 3 = .ok (.ifCond .ge 8, 3) := by decide +kernel
theorem dX1_bitsOf_6 : decode cX1_bitsOf 6 = .ok (.ldc 39, 2) := by decide +kernel
theorem dX1_bitsOf_8 : decode cX1_bitsOf 8 = .ok (.goto 4, 3) := by decide +kernel
theorem dX1_bitsOf_11 : decode cX1_bitsOf 11 = .ok (.iconst 0, 1) := by decide +kernel
theorem dX1_bitsOf_12 : decode cX1_bitsOf 12 = .ok (.istore_n 1, 1) := by decide +kernel
theorem dX1_bitsOf_13 : decode cX1_bitsOf 13 = .ok (.fload_n 0, 1) := by decide +kernel
theorem dX1_bitsOf_14 : decode cX1_bitsOf 14 = .ok (.fconst 0, 1) := by decide +kernel
theorem dX1_bitsOf_15 : decode cX1_bitsOf 15 = .ok (.fcmp .g, 1) := by decide +kernel
theorem dX1_bitsOf_16 : decode cX1_bitsOf 16 = .ok (.ifCond .ge 8, 3) := by decide +kernel
theorem dX1_bitsOf_19 : decode cX1_bitsOf 19 = .ok (.fload_n 0, 1) := by decide +kernel
theorem dX1_bitsOf_20 : decode cX1_bitsOf 20 = .ok (.fneg, 1) := by decide +kernel
theorem dX1_bitsOf_21 : decode cX1_bitsOf 21 = .ok (.goto 4, 3) := by decide +kernel
theorem dX1_bitsOf_24 : decode cX1_bitsOf 24 = .ok (.fload_n 0, 1) := by decide +kernel
theorem dX1_bitsOf_25 : decode cX1_bitsOf 25 = .ok (.fstore_n 2, 1) := by decide +kernel
theorem dX1_bitsOf_26 : decode cX1_bitsOf 26 = .ok (.sipush 150, 3) := by decide +kernel
theorem dX1_bitsOf_29 : decode cX1_bitsOf 29 = .ok (.istore_n 3, 1) := by decide +kernel
theorem dX1_bitsOf_30 : decode cX1_bitsOf 30 = .ok (.iload_n 3, 1) := by decide +kernel
theorem dX1_bitsOf_31 : decode cX1_bitsOf 31 = .ok (.ifCond .le 33, 3) := by decide +kernel
theorem dX1_bitsOf_34 : decode cX1_bitsOf 34 = .ok (.fload_n 2, 1) := by decide +kernel
theorem dX1_bitsOf_35 : decode cX1_bitsOf 35 = .ok (.ldc 40, 2) := by decide +kernel
theorem dX1_bitsOf_37 : decode cX1_bitsOf 37 = .ok (.fcmp .l, 1) := by decide +kernel
theorem dX1_bitsOf_38 : decode cX1_bitsOf 38 = .ok (.ifCond .lt 16, 3) := by decide +kernel
theorem dX1_bitsOf_41 : decode cX1_bitsOf 41 = .ok (.iload_n 1, 1) := by decide +kernel
theorem dX1_bitsOf_42 : decode cX1_bitsOf 42 = .ok (.iload_n 3, 1) := by decide +kernel
theorem dX1_bitsOf_43 : decode cX1_bitsOf 43 = .ok (.bipush 23, 2) := by decide +kernel
theorem dX1_bitsOf_45 : decode cX1_bitsOf 45 = .ok (.ishl, 1) := by decide +kernel
theorem dX1_bitsOf_46 : decode cX1_bitsOf 46 = .ok (.ior, 1) := by decide +kernel
theorem dX1_bitsOf_47 : decode cX1_bitsOf 47 = .ok (.fload_n 2, 1) := by decide +kernel
theorem dX1_bitsOf_48 : decode cX1_bitsOf 48 = .ok (.f2i, 1) := by decide +kernel
theorem dX1_bitsOf_49 : decode cX1_bitsOf 49 = .ok (.ldc 41, 2) := by decide +kernel
theorem dX1_bitsOf_51 : decode cX1_bitsOf 51 = .ok (.iand, 1) := by decide +kernel
theorem dX1_bitsOf_52 : decode cX1_bitsOf 52 = .ok (.ior, 1) := by decide +kernel
theorem dX1_bitsOf_53 : decode cX1_bitsOf 53 = .ok (.ireturn, 1) := by decide +kernel
theorem dX1_bitsOf_54 : decode cX1_bitsOf 54 = .ok (.fload_n 2, 1) := by decide +kernel
theorem dX1_bitsOf_55 : decode cX1_bitsOf 55 = .ok (.fconst 2, 1) := by decide +kernel
theorem dX1_bitsOf_56 : decode cX1_bitsOf 56 = .ok (.fmul, 1) := by decide +kernel
theorem dX1_bitsOf_57 : decode cX1_bitsOf 57 = .ok (.fstore_n 2, 1) := by decide +kernel
theorem dX1_bitsOf_58 : decode cX1_bitsOf 58 = .ok (.iinc 3 (-1), 3) := by decide +kernel
theorem dX1_bitsOf_61 : decode cX1_bitsOf 61 = .ok (.goto (-31), 3) := by decide +kernel
theorem dX1_bitsOf_64 : decode cX1_bitsOf 64 = .ok (.iconst 0, 1) := by decide +kernel
theorem dX1_bitsOf_65 : decode cX1_bitsOf 65 = .ok (.ireturn, 1) := by decide +kernel
theorem dX2_init_0 : decode cX2_init 0 = .ok (.aload_n 0, 1) := by decide +kernel
theorem dX2_init_1 : decode cX2_init 1 = .ok (.invokespecial 3, 3) := by decide +kernel
theorem dX2_init_4 : decode cX2_init 4 = .ok (.aload_n 0, 1) := by decide +kernel
theorem dX2_init_5 : decode cX2_init 5 = .ok (.bipush 8, 2) := by decide +kernel
theorem dX2_init_7 : decode cX2_init 7 = .ok (.newarray .int, 2) := by decide +kernel
theorem dX2_init_9 : decode cX2_init 9 = .ok (.putfield 9, 3) := by decide +kernel
theorem dX2_init_12 : decode cX2_init 12 = .ok (.aload_n 0, 1) := by decide +kernel
theorem dX2_init_13 : decode cX2_init 13 = .ok (.bipush 8, 2) := by decide +kernel
theorem dX2_init_15 : decode cX2_init 15 = .ok (.newarray .int, 2) := by decide +kernel
theorem dX2_init_17 : decode cX2_init 17 = .ok (.putfield 15, 3) := by decide +kernel
theorem dX2_init_20 : decode cX2_init 20 = .ok (.aload_n 0, 1) := by decide +kernel
theorem dX2_init_21 : decode cX2_init 21 = .ok (.iconst 5, 1) := by decide +kernel
theorem dX2_init_22 : decode cX2_init 22 = .ok (.anewarray 18, 3) := by decide +kernel
theorem dX2_init_25 : decode cX2_init 25 = .ok (.putfield 20, 3) := by decide +kernel
theorem dX2_init_28 : decode cX2_init 28 = .ok (.aload_n 0, 1) := by decide +kernel
theorem dX2_init_29 : decode cX2_init 29 = .ok (.bipush 10, 2) := by decide +kernel
theorem dX2_init_31 : decode cX2_init 31 = .ok (.anewarray 24, 3) := by decide +kernel
theorem dX2_init_34 : decode cX2_init 34 = .ok (.putfield 26, 3) := by decide +kernel
theorem dX2_init_37 : decode cX2_init 37 = .ok (.aload_n 0, 1) := by decide +kernel
theorem dX2_init_38 : decode cX2_init 38 = .ok (.new 30, 3) := by decide +kernel
theorem dX2_init_41 : decode cX2_init 41 = .ok (.dup, 1) := by decide +kernel
theorem dX2_init_42 : decode cX2_init 42 = .ok (.invokespecial 32, 3) := by decide +kernel
theorem dX2_init_45 : decode cX2_init 45 = .ok (.putfield 33, 3) := by decide +kernel
theorem dX2_init_48 : decode cX2_init 48 = .ok (.iconst 0, 1) := by decide +kernel
theorem dX2_init_49 : decode cX2_init 49 = .ok (.istore_n 1, 1) := by decide +kernel
theorem dX2_init_50 : decode cX2_init 50 = .ok (.iload_n 1, 1) := by decide +kernel
theorem dX2_init_51 : decode cX2_init 51 = .ok (.bipush 8, 2) := by decide +kernel
theorem dX2_init_53 : decode cX2_init 53 = .ok (.if_icmp .ge 30, 3) := by decide +kernel
theorem dX2_init_56 : decode cX2_init 56 = .ok (.aload_n 0, 1) := by decide +kernel
theorem dX2_init_57 : decode cX2_init 57 = .ok (.getfield 9, 3) := by decide +kernel
theorem dX2_init_60 : decode cX2_init 60 = .ok (.iload_n 1, 1) := by decide +kernel
theorem dX2_init_61 : decode cX2_init 61 = .ok (.bipush 10, 2) := by decide +kernel
theorem dX2_init_63 : decode cX2_init 63 = .ok (.iload_n 1, 1) := by decide +kernel
theorem dX2_init_64 : decode cX2_init 64 = .ok (.imul, 1) := by decide +kernel
theorem dX2_init_65 : decode cX2_init 65 = .ok (.iastore, 1) := by decide +kernel
theorem dX2_init_66 : decode cX2_init 66 = .ok (.aload_n 0, 1) := by decide +kernel
theorem dX2_init_67 : decode cX2_init 67 = .ok (.getfield 15, 3) := by decide +kernel
theorem dX2_init_70 : decode cX2_init 70 = .ok (.iload_n 1, 1) := by decide +kernel
theorem dX2_init_71 : decode cX2_init 71 = .ok (.iconst 5, 1) := by decide +kernel
theorem dX2_init_72 : decode cX2_init 72 = .ok (.iload_n 1, 1) := by decide +kernel
theorem dX2_init_73 : decode cX2_init 73 = .ok (.iconst 3, 1) := by decide +kernel
theorem dX2_init_74 : decode cX2_init 74 = .ok (.irem, 1) := by decide +kernel
theorem dX2_init_75 : decode cX2_init 75 = .ok (.imul, 1) := by decide +kernel
theorem dX2_init_76 : decode cX2_init 76 = .ok (.iastore, 1) := by decide +kernel
theorem dX2_init_77 : decode cX2_init 77 = .ok (.iinc 1 1, 3) := by decide +kernel
theorem dX2_init_80 : decode cX2_init 80 = .ok (.goto (-30), 3) := by decide +kernel
theorem dX2_init_83 : decode cX2_init 83 = .ok (.iconst 0, 1) := by decide +kernel
theorem dX2_init_84 : decode cX2_init 84 = .ok (.istore_n 1, 1) := by decide +kernel
theorem dX2_init_85 : decode cX2_init 85 = .ok (.iload_n 1, 1) := by decide +kernel
theorem dX2_init_86 : decode cX2_init 86 = .ok (.iconst 5, 1) := by decide +kernel
theorem dX2_init_87 : decode cX2_init 87 = .ok (.if_icmp .ge 22, 3) := by decide +kernel
theorem dX2_init_90 : decode cX2_init 90 = .ok (.aload_n 0, 1) := by decide +kernel
theorem dX2_init_91 : decode cX2_init 91 = .ok (.getfield 20, 3) := by decide +kernel
theorem dX2_init_94 : decode cX2_init 94 = .ok (.iload_n 1, 1) := by decide +kernel
theorem dX2_init_95 : decode cX2_init 95 = .ok (.new 18, 3) := by decide +kernel
theorem dX2_init_98 : decode cX2_init 98 = .ok (.dup, 1) := by decide +kernel
theorem dX2_init_99 : decode cX2_init 99 = .ok (.invokespecial 37, 3) := by decide +kernel
theorem dX2_init_102 : decode cX2_init 102 = .ok (.aastore, 1) := by decide +kernel
theorem dX2_init_103 : decode cX2_init 103 = .ok (.iinc 1 1, 3) := by decide +kernel
theorem dX2_init_106 : decode cX2_init 106 = .ok (.goto (-21), 3) := by decide +kernel
theorem dX2_init_109 : decode cX2_init 109 = .ok (.iconst 0, 1) := by decide +kernel
theorem dX2_init_110 : decode cX2_init 110 = .ok (.istore_n 1, 1) := by decide +kernel
theorem dX2_init_111 : decode cX2_init 111 = .ok (.iload_n 1, 1) := by decide +kernel
theorem dX2_init_112 : decode cX2_init 112 = .ok (.bipush 10, 2) := by decide +kernel
theorem dX2_init_114 : decode cX2_init 114 = .ok (.if_icmp .ge 22, 3) := by decide +kernel
theorem dX2_init_117 : decode cX2_init 117 = .ok (.aload_n 0, 1) := by decide +kernel
theorem dX2_init_118 : decode cX2_init 118 = .ok (.getfield 26, 3) := by decide +kernel
theorem dX2_init_121 : decode cX2_init 121 = .ok (.iload_n 1, 1) := by decide +kernel
theorem dX2_init_122 : decode cX2_init 122 = .ok (.new 24, 3) := by decide +kernel
theorem dX2_init_125 : decode cX2_init 125 = .ok (.dup, 1) := by decide +kernel
theorem dX2_init_126 : decode cX2_init 126 = .ok (.invokespecial 38, 3) := by decide +kernel
theorem dX2_init_129 : decode cX2_init 129 = .ok (.aastore, 1) := by decide +kernel
theorem dX2_init_130 : decode cX2_init 130 = .ok (.iinc 1 1, 3) := by decide +kernel
theorem dX2_init_133 : decode cX2_init 133 = .ok (.goto (-22), 3) := by decide +kernel
theorem dX2_init_136 : decode cX2_init 136 = .ok (.return_, 1) := by decide +kernel
theorem dX2_copyFrom_0 : decode cX2_copyFrom 0 = .ok (.aload_n 1, 1) := by decide +kernel
theorem dX2_copyFrom_1 : decode cX2_copyFrom 1 = .ok (.getfield 9, 3) := by decide +kernel
theorem dX2_copyFrom_4 : decode cX2_copyFrom 4 = .ok (.iconst 0, 1) := by decide +kernel
theorem dX2_copyFrom_5 : decode cX2_copyFrom 5 = .ok (.aload_n 0, 1) := by decide +kernel
theorem dX2_copyFrom_6 : decode cX2_copyFrom 6 = .ok (.getfield 9, 3) := by decide +kernel
theorem dX2_copyFrom_9 : decode cX2_copyFrom 9 = .ok (.iconst 0, 1) := by decide +kernel
theorem dX2_copyFrom_10 : decode cX2_copyFrom 10 = .ok (.bipush 8, 2) := by decide +kernel
theorem dX2_copyFrom_12 : decode cX2_copyFrom 12 = .ok (.invokestatic 39, 3) := by decide +kernel
theorem dX2_copyFrom_15 : decode cX2_copyFrom 15 = .ok (.aload_n 1, 1) := by decide +kernel
theorem dX2_copyFrom_16 : decode cX2_copyFrom 16 = .ok (.getfield 15, 3) := by decide +kernel
theorem dX2_copyFrom_19 : decode cX2_copyFrom 19 = .ok (.iconst 0, 1) := by decide +kernel
theorem dX2_copyFrom_20 : decode cX2_copyFrom 20 = .ok (.aload_n 0, 1) := by decide +kernel
theorem dX2_copyFrom_21 : decode cX2_copyFrom 21 = .ok (.getfield 15, 3) := by decide +kernel
theorem dX2_copyFrom_24 : decode cX2_copyFrom 24 = .ok (.iconst 0, 1) := by decide +kernel
theorem dX2_copyFrom_25 : decode cX2_copyFrom 25 = .ok (.bipush 8, 2) := by decide +kernel
theorem dX2_copyFrom_27 : decode cX2_copyFrom 27 = .ok (.invokestatic 39, 3) := by decide +kernel
theorem dX2_copyFrom_30 : decode cX2_copyFrom 30 = .ok (.iconst 0, 1) := by decide +kernel
theorem dX2_copyFrom_31 : decode cX2_copyFrom 31 = .ok (.istore_n 2, 1) := by decide +kernel
theorem dX2_copyFrom_32 : decode cX2_copyFrom 32 = .ok (.iload_n 2, 1) := by decide +kernel
theorem dX2_copyFrom_33 : decode cX2_copyFrom 33 = .ok (.iconst 5, 1) := by decide +kernel
theorem dX2_copyFrom_34 : decode cX2_copyFrom 34 = .ok (.if_icmp .ge 24, 3) := by decide +kernel
theorem dX2_copyFrom_37 : decode cX2_copyFrom 37 = .ok (.aload_n 0, 1) := by decide +kernel
theorem dX2_copyFrom_38 : decode cX2_copyFrom 38 = .ok (.getfield 20, 3) := by decide +kernel
theorem dX2_copyFrom_41 : decode cX2_copyFrom 41 = .ok (.iload_n 2, 1) := by decide +kernel
theorem dX2_copyFrom_42 : decode cX2_copyFrom 42 = .ok (.aaload, 1) := by decide +kernel
theorem dX2_copyFrom_43 : decode cX2_copyFrom 43 = .ok (.aload_n 1, 1) := by decide +kernel
theorem dX2_copyFrom_44 : decode cX2_copyFrom 44 = .ok (.getfield 20, 3) := by decide +kernel
theorem dX2_copyFrom_47 : decode cX2_copyFrom 47 = .ok (.iload_n 2, 1) := by decide +kernel
theorem dX2_copyFrom_48 : decode cX2_copyFrom 48 = .ok (.aaload, 1) := by decide +kernel
theorem dX2_copyFrom_49 : decode cX2_copyFrom 49 = .ok (.invokevirtual 45, 3) := by decide +kernel
theorem dX2_copyFrom_52 : decode cX2_copyFrom 52 = .ok (.iinc 2 1, 3) := by decide +kernel
theorem dX2_copyFrom_55 : decode cX2_copyFrom 55 = .ok (.goto (-23), 3) := by decide +kernel
theorem dX2_copyFrom_58 : decode cX2_copyFrom 58 = .ok (.iconst 0, 1) := by decide +kernel
theorem dX2_copyFrom_59 : decode cX2_copyFrom 59 = .ok (.istore_n 2, 1) := by decide +kernel
theorem dX2_copyFrom_60 : decode cX2_copyFrom 60 = .ok (.iload_n 2, 1) := by decide +kernel
theorem dX2_copyFrom_61 : decode cX2_copyFrom 61 = .ok (.bipush 10, 2) := by decide +kernel
theorem dX2_copyFrom_63 : decode cX2_copyFrom 63 = .ok (.if_icmp .ge 24, 3) := by decide +kernel
theorem dX2_copyFrom_66 : decode cX2_copyFrom 66 = .ok (.aload_n 0, 1) := by decide +kernel
theorem dX2_copyFrom_67 : decode cX2_copyFrom 67 = .ok (.getfield 26, 3) := by decide +kernel
theorem dX2_copyFrom_70 : decode cX2_copyFrom 70 = .ok (.iload_n 2, 1) := by decide +kernel
theorem dX2_copyFrom_71 : decode cX2_copyFrom 71 = .ok (.aaload, 1) := by decide +kernel
theorem dX2_copyFrom_72 : decode cX2_copyFrom 72 = .ok (.aload_n 1, 1) := by decide +kernel
theorem dX2_copyFrom_73 : decode cX2_copyFrom 73 = .ok (.getfield 26, 3) := by decide +kernel
theorem dX2_copyFrom_76 : decode cX2_copyFrom 76 = .ok (.iload_n 2, 1) := by decide +kernel
theorem dX2_copyFrom_77 : decode cX2_copyFrom 77 = .ok (.aaload, 1) := by decide +kernel
theorem dX2_copyFrom_78 : decode cX2_copyFrom 78 = .ok (.invokevirtual 49, 3) := by decide +kernel
theorem dX2_copyFrom_81 : decode cX2_copyFrom 81 = .ok (.iinc 2 1, 3) := by decide +kernel
theorem dX2_copyFrom_84 : decode cX2_copyFrom 84 = .ok (.goto (-24), 3) := by decide +kernel
theorem dX2_copyFrom_87 : decode cX2_copyFrom 87 = .ok (.aload_n 0, 1) := by decide +kernel
theorem dX2_copyFrom_88 : decode cX2_copyFrom 88 = .ok (.aload_n 1, 1) := by decide +kernel
theorem dX2_copyFrom_89 : decode cX2_copyFrom 89 = .ok (.getfield 52, 3) := by decide +kernel
theorem dX2_copyFrom_92 : decode cX2_copyFrom 92 = .ok (.putfield 52, 3) := by decide +kernel
theorem dX2_copyFrom_95 : decode cX2_copyFrom 95 = .ok (.aload_n 0, 1) := by decide +kernel
theorem dX2_copyFrom_96 : decode cX2_copyFrom 96 = .ok (.aload_n 1, 1) := by decide +kernel
theorem dX2_copyFrom_97 : decode cX2_copyFrom 97 = .ok (.getfield 56, 3) := by decide +kernel
theorem dX2_copyFrom_100 : decode cX2_copyFrom 100 = .ok (.putfield 56, 3) := by decide +kernel
theorem dX2_copyFrom_103 : decode cX2_copyFrom 103 = .ok (.aload_n 0, 1) := by decide +kernel
theorem dX2_copyFrom_104 : decode cX2_copyFrom 104 = .ok (.aload_n 1, 1) := by decide +kernel
theorem dX2_copyFrom_105 : decode cX2_copyFrom 105 = .ok (.getfield 59, 3) := by decide +kernel
theorem dX2_copyFrom_108 : decode cX2_copyFrom 108 = .ok (.putfield 59, 3) := by decide +kernel
theorem dX2_copyFrom_111 : decode cX2_copyFrom 111 = .ok (.aload_n 0, 1) := by decide +kernel
theorem dX2_copyFrom_112 : decode cX2_copyFrom 112 = .ok (.aload_n 1, 1) := by decide +kernel
theorem dX2_copyFrom_113 : decode cX2_copyFrom 113 = .ok (.getfield 62, 3) := by decide +kernel
theorem dX2_copyFrom_116 : decode cX2_copyFrom 116 = .ok (.putfield 62, 3) := by decide +kernel
theorem dX2_copyFrom_119 : decode cX2_copyFrom 119 = .ok (.return_, 1) := by decide +kernel
theorem dX2_isShip_0 : decode cX2_isShip 0 = .ok (.iload_n 1, 1) := by decide +kernel
theorem dX2_isShip_1 : decode cX2_isShip 1 = .ok (.ifCond .lt 15, 3) := by decide +kernel
theorem dX2_isShip_4 : decode cX2_isShip 4 = .ok (.iload_n 1, 1) := by decide +kernel
theorem dX2_isShip_5 : decode cX2_isShip 5 = .ok (.aload_n 0, 1) := by decide +kernel
theorem dX2_isShip_6 : decode cX2_isShip 6 = .ok (.getfield 52, 3) := by decide +kernel
theorem dX2_isShip_9 : decode cX2_isShip 9 = .ok (.if_icmp .ge 7, 3) := by decide +kernel
theorem dX2_isShip_12 : decode cX2_isShip 12 = .ok (.iconst 1, 1) := by decide +kernel
theorem dX2_isShip_13 : decode cX2_isShip 13 = .ok (.goto 4, 3) := by decide +kernel
theorem dX2_isShip_16 : decode cX2_isShip 16 = .ok (.iconst 0, 1) := by decide +kernel
theorem dX2_isShip_17 : decode cX2_isShip 17 = .ok (.ireturn, 1) := by decide +kernel
theorem dX2_isCargo_0 : decode cX2_isCargo 0 = .ok (.iload_n 1, 1) := by decide +kernel
theorem dX2_isCargo_1 : decode cX2_isCargo 1 = .ok (.ifCond .lt 15, 3) := by decide +kernel
theorem dX2_isCargo_4 : decode cX2_isCargo 4 = .ok (.iload_n 1, 1) := by decide +kernel
theorem dX2_isCargo_5 : decode cX2_isCargo 5 = .ok (.aload_n 0, 1) := by decide +kernel
theorem dX2_isCargo_6 : decode cX2_isCargo 6 = .ok (.getfield 56, 3) := by decide +kernel
theorem dX2_isCargo_9 : decode cX2_isCargo 9 = .ok (.if_icmp .ge 7, 3) := by decide +kernel
theorem dX2_isCargo_12 : decode cX2_isCargo 12 = .ok (.iconst 1, 1) := by decide +kernel
theorem dX2_isCargo_13 : decode cX2_isCargo 13 = .ok (.goto 4, 3) := by decide +kernel
theorem dX2_isCargo_16 : decode cX2_isCargo 16 = .ok (.iconst 0, 1) := by decide +kernel
theorem dX2_isCargo_17 : decode cX2_isCargo 17 = .ok (.ireturn, 1) := by decide +kernel
theorem dX2_movePort_0 : decode cX2_movePort 0 = .ok (.iload_n 1, 1) := by decide +kernel
theorem dX2_movePort_1 : decode cX2_movePort 1 = .ok (.invokestatic 65, 3) := by decide +kernel
theorem dX2_movePort_4 : decode cX2_movePort 4 = .ok (.ifCond .eq 23, 3) := by decide +kernel
theorem dX2_movePort_7 : decode cX2_movePort 7 = .ok (.iload_n 2, 1) := by decide +kernel
theorem dX2_movePort_8 : decode cX2_movePort 8 = .ok (.iconst 0, 1) := by decide +kernel
theorem dX2_movePort_9 : decode cX2_movePort 9 = .ok (.bipush 99, 2) := by decide +kernel
theorem dX2_movePort_11 : decode cX2_movePort 11 = .ok (.invokestatic 69, 3) := by decide +kernel
theorem dX2_movePort_14 : decode cX2_movePort 14 = .ok (.ifCond .eq 13, 3) := by decide +kernel
theorem dX2_movePort_17 : decode cX2_movePort 17 = .ok (.iload_n 3, 1) := by decide +kernel
theorem dX2_movePort_18 : decode cX2_movePort 18 = .ok (.iconst 0, 1) := by decide +kernel
theorem dX2_movePort_19 : decode cX2_movePort 19 = .ok (.bipush 99, 2) := by decide +kernel
theorem dX2_movePort_21 : decode cX2_movePort 21 = .ok (.invokestatic 69, 3) := by decide +kernel
theorem dX2_movePort_24 : decode cX2_movePort 24 = .ok (.ifCond .ne 6, 3) := by decide +kernel
theorem dX2_movePort_27 : decode cX2_movePort 27 = .ok (.ldc 73, 2) := by decide +kernel
theorem dX2_movePort_29 : decode cX2_movePort 29 = .ok (.ireturn, 1) := by decide +kernel
theorem dX2_movePort_30 : decode cX2_movePort 30 = .ok (.aload_n 0, 1) := by decide +kernel
theorem dX2_movePort_31 : decode cX2_movePort 31 = .ok (.iconst 1, 1) := by decide +kernel
theorem dX2_movePort_32 : decode cX2_movePort 32 = .ok (.invokevirtual 74, 3) := by decide +kernel
theorem dX2_movePort_35 : decode cX2_movePort 35 = .ok (.ifCond .le 6, 3) := by decide +kernel
theorem dX2_movePort_38 : decode cX2_movePort 38 = .ok (.ldc 78, 2) := by decide +kernel
theorem dX2_movePort_40 : decode cX2_movePort 40 = .ok (.ireturn, 1) := by decide +kernel
theorem dX2_movePort_41 : decode cX2_movePort 41 = .ok (.bipush 100, 2) := by decide +kernel
theorem dX2_movePort_43 : decode cX2_movePort 43 = .ok (.aload_n 0, 1) := by decide +kernel
theorem dX2_movePort_44 : decode cX2_movePort 44 = .ok (.getfield 9, 3) := by decide +kernel
theorem dX2_movePort_47 : decode cX2_movePort 47 = .ok (.iload_n 1, 1) := by decide +kernel
theorem dX2_movePort_48 : decode cX2_movePort 48 = .ok (.iaload, 1) := by decide +kernel
theorem dX2_movePort_49 : decode cX2_movePort 49 = .ok (.imul, 1) := by decide +kernel
theorem dX2_movePort_50 : decode cX2_movePort 50 = .ok (.aload_n 0, 1) := by decide +kernel
theorem dX2_movePort_51 : decode cX2_movePort 51 = .ok (.getfield 15, 3) := by decide +kernel
theorem dX2_movePort_54 : decode cX2_movePort 54 = .ok (.iload_n 1, 1) := by decide +kernel
theorem dX2_movePort_55 : decode cX2_movePort 55 = .ok (.iaload, 1) := by decide +kernel
theorem dX2_movePort_56 : decode cX2_movePort 56 = .ok (.iadd, 1) := by decide +kernel
theorem dX2_movePort_57 : decode cX2_movePort 57 = .ok (.istore 4, 2) := by decide +kernel
theorem dX2_movePort_59 : decode cX2_movePort 59 = .ok (.aload_n 0, 1) := by decide +kernel
theorem dX2_movePort_60 : decode cX2_movePort 60 = .ok (.getfield 9, 3) := by decide +kernel
theorem dX2_movePort_63 : decode cX2_movePort 63 = .ok (.iload_n 1, 1) := by decide +kernel
theorem dX2_movePort_64 : decode cX2_movePort 64 = .ok (.iload_n 2, 1) := by decide +kernel
theorem dX2_movePort_65 : decode cX2_movePort 65 = .ok (.iastore, 1) := by decide +kernel
theorem dX2_movePort_66 : decode cX2_movePort 66 = .ok (.aload_n 0, 1) := by decide +kernel
theorem dX2_movePort_67 : decode cX2_movePort 67 = .ok (.getfield 15, 3) := by decide +kernel
theorem dX2_movePort_70 : decode cX2_movePort 70 = .ok (.iload_n 1, 1) := by decide +kernel
theorem dX2_movePort_71 : decode cX2_movePort 71 = .ok (.iload_n 3, 1) := by decide +kernel
theorem dX2_movePort_72 : decode cX2_movePort 72 = .ok (.iastore, 1) := by decide +kernel
theorem dX2_movePort_73 : decode cX2_movePort 73 = .ok (.iload 4, 2) := by decide +kernel
theorem dX2_movePort_75 : decode cX2_movePort 75 = .ok (.ireturn, 1) := by decide +kernel
theorem dX2_addShip_0 : decode cX2_addShip 0 = .ok (.iload_n 1, 1) := by decide +kernel
theorem dX2_addShip_1 : decode cX2_addShip 1 = .ok (.iconst 1, 1) := by decide +kernel
theorem dX2_addShip_2 : decode cX2_addShip 2 = .ok (.bipush 99, 2) := by decide +kernel
theorem dX2_addShip_4 : decode cX2_addShip 4 = .ok (.invokestatic 69, 3) := by decide +kernel
theorem dX2_addShip_7 : decode cX2_addShip 7 = .ok (.ifCond .eq 43, 3) := by decide +kernel
theorem dX2_addShip_10 : decode cX2_addShip 10 = .ok (.iload_n 2, 1) := by decide +kernel
theorem dX2_addShip_11 : decode cX2_addShip 11 = .ok (.iconst 1, 1) := by decide +kernel
theorem dX2_addShip_12 : decode cX2_addShip 12 = .ok (.bipush 20, 2) := by decide +kernel
theorem dX2_addShip_14 : decode cX2_addShip 14 = .ok (.invokestatic 69, 3) := by decide +kernel
theorem dX2_addShip_17 : decode cX2_addShip 17 = .ok (.ifCond .eq 33, 3) := by decide +kernel
theorem dX2_addShip_20 : decode cX2_addShip 20 = .ok (.iload_n 3, 1) := by decide +kernel
theorem dX2_addShip_21 : decode cX2_addShip 21 = .ok (.iconst 1, 1) := by decide +kernel
theorem dX2_addShip_22 : decode cX2_addShip 22 = .ok (.bipush 99, 2) := by decide +kernel
theorem dX2_addShip_24 : decode cX2_addShip 24 = .ok (.invokestatic 69, 3) := by decide +kernel
theorem dX2_addShip_27 : decode cX2_addShip 27 = .ok (.ifCond .eq 23, 3) := by decide +kernel
theorem dX2_addShip_30 : decode cX2_addShip 30 = .ok (.iload 4, 2) := by decide +kernel
theorem dX2_addShip_32 : decode cX2_addShip 32 = .ok (.invokestatic 65, 3) := by decide +kernel
theorem dX2_addShip_35 : decode cX2_addShip 35 = .ok (.ifCond .eq 15, 3) := by decide +kernel
theorem dX2_addShip_38 : decode cX2_addShip 38 = .ok (.iload 5, 2) := by decide +kernel
theorem dX2_addShip_40 : decode cX2_addShip 40 = .ok (.iconst 0, 1) := by decide +kernel
theorem dX2_addShip_41 : decode cX2_addShip 41 = .ok (.sipush 999, 3) := by decide +kernel
theorem dX2_addShip_44 : decode cX2_addShip 44 = .ok (.invokestatic 69, 3) := by decide +kernel
theorem dX2_addShip_47 : decode cX2_addShip 47 = .ok (.ifCond .ne 6, 3) := by decide +kernel
theorem dX2_addShip_50 : decode cX2_addShip 50 = .ok (.ldc 73, 2) := by decide +kernel
theorem dX2_addShip_52 : decode cX2_addShip 52 = .ok (.ireturn, 1) := by decide +kernel
theorem dX2_addShip_53 : decode cX2_addShip 53 = .ok (.aload_n 0, 1) := by decide +kernel
theorem dX2_addShip_54 : decode cX2_addShip 54 = .ok (.getfield 52, 3) := by decide +kernel
theorem dX2_addShip_57 : decode cX2_addShip 57 = .ok (.iconst 5, 1) := by decide +kernel
theorem dX2_addShip_58 : decode cX2_addShip 58 = .ok (.if_icmp .lt 6, 3) := by decide +kernel
theorem dX2_addShip_61 : decode cX2_addShip 61 = .ok (.ldc 79, 2) := by decide +kernel
theorem dX2_addShip_63 : decode cX2_addShip 63 = .ok (.ireturn, 1) := by decide +kernel
theorem dX2_addShip_64 : decode cX2_addShip 64 = .ok (.aload_n 0, 1) := by decide +kernel
theorem dX2_addShip_65 : decode cX2_addShip 65 = .ok (.getfield 20, 3) := by decide +kernel
theorem dX2_addShip_68 : decode cX2_addShip 68 = .ok (.aload_n 0, 1) := by decide +kernel
theorem dX2_addShip_69 : decode cX2_addShip 69 = .ok (.getfield 52, 3) := by decide +kernel
theorem dX2_addShip_72 : decode cX2_addShip 72 = .ok (.aaload, 1) := by decide +kernel
theorem dX2_addShip_73 : decode cX2_addShip 73 = .ok (.astore 6, 2) := by decide +kernel
theorem dX2_addShip_75 : decode cX2_addShip 75 = .ok (.aload 6, 2) := by decide +kernel
theorem dX2_addShip_77 : decode cX2_addShip 77 = .ok (.iload_n 1, 1) := by decide +kernel
theorem dX2_addShip_78 : decode cX2_addShip 78 = .ok (.putfield 80, 3) := by decide +kernel
theorem dX2_addShip_81 : decode cX2_addShip 81 = .ok (.aload 6, 2) := by decide +kernel
theorem dX2_addShip_83 : decode cX2_addShip 83 = .ok (.iload_n 2, 1) := by decide +kernel
theorem dX2_addShip_84 : decode cX2_addShip 84 = .ok (.putfield 83, 3) := by decide +kernel
theorem dX2_addShip_87 : decode cX2_addShip 87 = .ok (.aload 6, 2) := by decide +kernel
theorem dX2_addShip_89 : decode cX2_addShip 89 = .ok (.iload_n 3, 1) := by decide +kernel
theorem dX2_addShip_90 : decode cX2_addShip 90 = .ok (.putfield 86, 3) := by decide +kernel
theorem dX2_addShip_93 : decode cX2_addShip 93 = .ok (.aload 6, 2) := by decide +kernel
theorem dX2_addShip_95 : decode cX2_addShip 95 = .ok (.iload 4, 2) := by decide +kernel
theorem dX2_addShip_97 : decode cX2_addShip 97 = .ok (.putfield 89, 3) := by decide +kernel
theorem dX2_addShip_100 : decode cX2_addShip 100 = .ok (.aload 6, 2) := by decide +kernel
theorem dX2_addShip_102 : decode cX2_addShip 102 = .ok (.iload 5, 2) := by decide +kernel
theorem dX2_addShip_104 : decode cX2_addShip 104 = .ok (.putfield 92, 3) := by decide +kernel
theorem dX2_addShip_107 : decode cX2_addShip 107 = .ok (.aload_n 0, 1) := by decide +kernel
theorem dX2_addShip_108 : decode cX2_addShip 108 = .ok (.dup, 1) := by decide +kernel
theorem dX2_addShip_109 : decode cX2_addShip 109 = .ok (.getfield 52, 3) := by decide +kernel
theorem dX2_addShip_112 : decode cX2_addShip 112 = .ok (.dup_x1, 1) := by decide +kernel
theorem dX2_addShip_113 : decode cX2_addShip 113 = .ok (.iconst 1, 1) := by decide +kernel
theorem dX2_addShip_114 : decode cX2_addShip 114 = .ok (.iadd, 1) := by decide +kernel
theorem dX2_addShip_115 : decode cX2_addShip 115 = .ok (.putfield 52, 3) := by decide +kernel
theorem dX2_addShip_118 : decode cX2_addShip 118 = .ok (.ireturn, 1) := by decide +kernel
theorem dX2_addCargo_0 : decode cX2_addCargo 0 = .ok (.iload_n 1, 1) := by decide +kernel
theorem dX2_addCargo_1 : decode cX2_addCargo 1 = .ok (.iconst 1, 1) := by decide +kernel
theorem dX2_addCargo_2 : decode cX2_addCargo 2 = .ok (.bipush 99, 2) := by decide +kernel
theorem dX2_addCargo_4 : decode cX2_addCargo 4 = .ok (.invokestatic 69, 3) := by decide +kernel
theorem dX2_addCargo_7 : decode cX2_addCargo 7 = .ok (.ifCond .eq 58, 3) := by decide +kernel
theorem dX2_addCargo_10 : decode cX2_addCargo 10 = .ok (.iload_n 2, 1) := by decide +kernel
theorem dX2_addCargo_11 : decode cX2_addCargo 11 = .ok (.invokestatic 65, 3) := by decide +kernel
theorem dX2_addCargo_14 : decode cX2_addCargo 14 = .ok (.ifCond .eq 51, 3) := by decide +kernel
theorem dX2_addCargo_17 : decode cX2_addCargo 17 = .ok (.iload_n 3, 1) := by decide +kernel
theorem dX2_addCargo_18 : decode cX2_addCargo 18 = .ok (.invokestatic 65, 3) := by decide +kernel
theorem dX2_addCargo_21 : decode cX2_addCargo 21 = .ok (.ifCond .eq 44, 3) := by decide +kernel
theorem dX2_addCargo_24 : decode cX2_addCargo 24 = .ok (.iload_n 2, 1) := by decide +kernel
theorem dX2_addCargo_25 : decode cX2_addCargo 25 = .ok (.iload_n 3, 1) := by decide +kernel
theorem dX2_addCargo_26 : decode cX2_addCargo 26 = .ok (.if_icmp .eq 39, 3) := by decide +kernel
theorem dX2_addCargo_29 : decode cX2_addCargo 29 = .ok (.iload 4, 2) := by decide +kernel
theorem dX2_addCargo_31 : decode cX2_addCargo 31 = .ok (.iconst 0, 1) := by decide +kernel
theorem dX2_addCargo_32 : decode cX2_addCargo 32 = .ok (.sipush 999, 3) := by decide +kernel
theorem dX2_addCargo_35 : decode cX2_addCargo 35 = .ok (.invokestatic 69, 3) := by decide +kernel
theorem dX2_addCargo_38 : decode cX2_addCargo 38 = .ok (.ifCond .eq 27, 3) := by decide +kernel
theorem dX2_addCargo_41 : decode cX2_addCargo 41 = .ok (.iload 5, 2) := by decide +kernel
theorem dX2_addCargo_43 : decode cX2_addCargo 43 = .ok (.iload 4, 2) := by decide +kernel
theorem dX2_addCargo_45 : decode cX2_addCargo 45 = .ok (.sipush 999, 3) := by decide +kernel
theorem dX2_addCargo_48 : decode cX2_addCargo 48 = .ok (.invokestatic 69, 3) := by decide +kernel
theorem dX2_addCargo_51 : decode cX2_addCargo 51 = .ok (.ifCond .eq 14, 3) := by decide +kernel
theorem dX2_addCargo_54 : decode cX2_addCargo 54 = .ok (.iload 6, 2) := by decide +kernel
theorem dX2_addCargo_56 : decode cX2_addCargo 56 = .ok (.iconst 1, 1) := by decide +kernel
theorem dX2_addCargo_57 : decode cX2_addCargo 57 = .ok (.bipush 99, 2) := by decide +kernel
theorem dX2_addCargo_59 : decode cX2_addCargo 59 = .ok (.invokestatic 69, 3) := by decide +kernel
theorem dX2_addCargo_62 : decode cX2_addCargo 62 = .ok (.ifCond .ne 6, 3) := by decide +kernel
theorem dX2_addCargo_65 : decode cX2_addCargo 65 = .ok (.ldc 73, 2) := by decide +kernel
theorem dX2_addCargo_67 : decode cX2_addCargo 67 = .ok (.ireturn, 1) := by decide +kernel
theorem dX2_addCargo_68 : decode cX2_addCargo 68 = .ok (.aload_n 0, 1) := by decide +kernel
theorem dX2_addCargo_69 : decode cX2_addCargo 69 = .ok (.getfield 56, 3) := by decide +kernel
theorem dX2_addCargo_72 : decode cX2_addCargo 72 = .ok (.bipush 10, 2) := by decide +kernel
theorem dX2_addCargo_74 : decode cX2_addCargo 74 = .ok (.if_icmp .lt 6, 3) := by decide +kernel
theorem dX2_addCargo_77 : decode cX2_addCargo 77 = .ok (.ldc 79, 2) := by decide +kernel
theorem dX2_addCargo_79 : decode cX2_addCargo 79 = .ok (.ireturn, 1) := by decide +kernel
theorem dX2_addCargo_80 : decode cX2_addCargo 80 = .ok (.aload_n 0, 1) := by decide +kernel
theorem dX2_addCargo_81 : decode cX2_addCargo 81 = .ok (.getfield 26, 3) := by decide +kernel
theorem dX2_addCargo_84 : decode cX2_addCargo 84 = .ok (.aload_n 0, 1) := by decide +kernel
theorem dX2_addCargo_85 : decode cX2_addCargo 85 = .ok (.getfield 56, 3) := by decide +kernel
theorem dX2_addCargo_88 : decode cX2_addCargo 88 = .ok (.aaload, 1) := by decide +kernel
theorem dX2_addCargo_89 : decode cX2_addCargo 89 = .ok (.astore 7, 2) := by decide +kernel
theorem dX2_addCargo_91 : decode cX2_addCargo 91 = .ok (.aload 7, 2) := by decide +kernel
theorem dX2_addCargo_93 : decode cX2_addCargo 93 = .ok (.iload_n 1, 1) := by decide +kernel
theorem dX2_addCargo_94 : decode cX2_addCargo 94 = .ok (.putfield 95, 3) := by decide +kernel
theorem dX2_addCargo_97 : decode cX2_addCargo 97 = .ok (.aload 7, 2) := by decide +kernel
theorem dX2_addCargo_99 : decode cX2_addCargo 99 = .ok (.iload_n 2, 1) := by decide +kernel
theorem dX2_addCargo_100 : decode cX2_addCargo 100 = .ok (.putfield 98, 3) := by decide +kernel
theorem dX2_addCargo_103 : decode cX2_addCargo 103 = .ok (.aload 7, 2) := by decide +kernel
theorem dX2_addCargo_105 : decode cX2_addCargo 105 = .ok (.iload_n 3, 1) := by decide +kernel
theorem dX2_addCargo_106 : decode cX2_addCargo 106 = .ok (.putfield 101, 3) := by decide +kernel
theorem dX2_addCargo_109 : decode cX2_addCargo 109 = .ok (.aload 7, 2) := by decide +kernel
theorem dX2_addCargo_111 : decode cX2_addCargo 111 = .ok (.iload 4, 2) := by decide +kernel
theorem dX2_addCargo_113 : decode cX2_addCargo 113 = .ok (.putfield 104, 3) := by decide +kernel
theorem dX2_addCargo_116 : decode cX2_addCargo 116 = .ok (.aload 7, 2) := by decide +kernel
theorem dX2_addCargo_118 : decode cX2_addCargo 118 = .ok (.iload 5, 2) := by decide +kernel
theorem dX2_addCargo_120 : decode cX2_addCargo 120 = .ok (.putfield 107, 3) := by decide +kernel
theorem dX2_addCargo_123 : decode cX2_addCargo 123 = .ok (.aload 7, 2) := by decide +kernel
theorem dX2_addCargo_125 : decode cX2_addCargo 125 = .ok (.iload 6, 2) := by decide +kernel
theorem dX2_addCargo_127 : decode cX2_addCargo 127 = .ok (.putfield 110, 3) := by decide +kernel
theorem dX2_addCargo_130 : decode cX2_addCargo 130 = .ok (.aload_n 0, 1) := by decide +kernel
theorem dX2_addCargo_131 : decode cX2_addCargo 131 = .ok (.dup, 1) := by decide +kernel
theorem dX2_addCargo_132 : decode cX2_addCargo 132 = .ok (.getfield 56, 3) := by decide +kernel
theorem dX2_addCargo_135 : decode cX2_addCargo 135 = .ok (.dup_x1, 1) := by decide +kernel
theorem dX2_addCargo_136 : decode cX2_addCargo 136 = .ok (.iconst 1, 1) := by decide +kernel
theorem dX2_addCargo_137 : decode cX2_addCargo 137 = .ok (.iadd, 1) := by decide +kernel
theorem dX2_addCargo_138 : decode cX2_addCargo 138 = .ok (.putfield 56, 3) := by decide +kernel
theorem dX2_addCargo_141 : decode cX2_addCargo 141 = .ok (.ireturn, 1) := by decide +kernel
theorem dX2_fixShip_0 : decode cX2_fixShip 0 = .ok (.aload_n 0, 1) := by decide +kernel
theorem dX2_fixShip_1 : decode cX2_fixShip 1 = .ok (.iload_n 1, 1) := by decide +kernel
theorem dX2_fixShip_2 : decode cX2_fixShip 2 = .ok (.invokevirtual 113, 3) := by decide +kernel
theorem dX2_fixShip_5 : decode cX2_fixShip 5 = .ok (.ifCond .eq 11, 3) := by decide +kernel
theorem dX2_fixShip_8 : decode cX2_fixShip 8 = .ok (.aload_n 0, 1) := by decide +kernel
theorem dX2_fixShip_9 : decode cX2_fixShip 9 = .ok (.iload_n 2, 1) := by decide +kernel
theorem dX2_fixShip_10 : decode cX2_fixShip 10 = .ok (.invokevirtual 116, 3) := by decide +kernel
theorem dX2_fixShip_13 : decode cX2_fixShip 13 = .ok (.ifCond .ne 6, 3) := by decide +kernel
theorem dX2_fixShip_16 : decode cX2_fixShip 16 = .ok (.ldc 73, 2) := by decide +kernel
theorem dX2_fixShip_18 : decode cX2_fixShip 18 = .ok (.ireturn, 1) := by decide +kernel
theorem dX2_fixShip_19 : decode cX2_fixShip 19 = .ok (.aload_n 0, 1) := by decide +kernel
theorem dX2_fixShip_20 : decode cX2_fixShip 20 = .ok (.getfield 20, 3) := by decide +kernel
theorem dX2_fixShip_23 : decode cX2_fixShip 23 = .ok (.iload_n 1, 1) := by decide +kernel
theorem dX2_fixShip_24 : decode cX2_fixShip 24 = .ok (.aaload, 1) := by decide +kernel
theorem dX2_fixShip_25 : decode cX2_fixShip 25 = .ok (.astore_n 3, 1) := by decide +kernel
theorem dX2_fixShip_26 : decode cX2_fixShip 26 = .ok (.aload_n 0, 1) := by decide +kernel
theorem dX2_fixShip_27 : decode cX2_fixShip 27 = .ok (.getfield 26, 3) := by decide +kernel
theorem dX2_fixShip_30 : decode cX2_fixShip 30 = .ok (.iload_n 2, 1) := by decide +kernel
theorem dX2_fixShip_31 : decode cX2_fixShip 31 = .ok (.aaload, 1) := by decide +kernel
theorem dX2_fixShip_32 : decode cX2_fixShip 32 = .ok (.astore 4, 2) := by decide +kernel
theorem dX2_fixShip_34 : decode cX2_fixShip 34 = .ok (.aload 4, 2) := by decide +kernel
theorem dX2_fixShip_36 : decode cX2_fixShip 36 = .ok (.getfield 119, 3) := by decide +kernel
theorem dX2_fixShip_39 : decode cX2_fixShip 39 = .ok (.ifCond .ne 21, 3) := by decide +kernel
theorem dX2_fixShip_42 : decode cX2_fixShip 42 = .ok (.aload_n 0, 1) := by decide +kernel
theorem dX2_fixShip_43 : decode cX2_fixShip 43 = .ok (.iload_n 1, 1) := by decide +kernel
theorem dX2_fixShip_44 : decode cX2_fixShip 44 = .ok (.iload_n 2, 1) := by decide +kernel
theorem dX2_fixShip_45 : decode cX2_fixShip 45 = .ok (.invokevirtual 122, 3) := by decide +kernel
theorem dX2_fixShip_48 : decode cX2_fixShip 48 = .ok (.ifCond .ne 12, 3) := by decide +kernel
theorem dX2_fixShip_51 : decode cX2_fixShip 51 = .ok (.aload_n 3, 1) := by decide +kernel
theorem dX2_fixShip_52 : decode cX2_fixShip 52 = .ok (.getfield 126, 3) := by decide +kernel
theorem dX2_fixShip_55 : decode cX2_fixShip 55 = .ok (.bipush 10, 2) := by decide +kernel
theorem dX2_fixShip_57 : decode cX2_fixShip 57 = .ok (.if_icmp .lt 6, 3) := by decide +kernel
theorem dX2_fixShip_60 : decode cX2_fixShip 60 = .ok (.ldc 78, 2) := by decide +kernel
theorem dX2_fixShip_62 : decode cX2_fixShip 62 = .ok (.ireturn, 1) := by decide +kernel
theorem dX2_fixShip_63 : decode cX2_fixShip 63 = .ok (.aload_n 3, 1) := by decide +kernel
theorem dX2_fixShip_64 : decode cX2_fixShip 64 = .ok (.getfield 129, 3) := by decide +kernel
theorem dX2_fixShip_67 : decode cX2_fixShip 67 = .ok (.aload_n 3, 1) := by decide +kernel
theorem dX2_fixShip_68 : decode cX2_fixShip 68 = .ok (.getfield 126, 3) := by decide +kernel
theorem dX2_fixShip_71 : decode cX2_fixShip 71 = .ok (.iload_n 2, 1) := by decide +kernel
theorem dX2_fixShip_72 : decode cX2_fixShip 72 = .ok (.iastore, 1) := by decide +kernel
theorem dX2_fixShip_73 : decode cX2_fixShip 73 = .ok (.aload_n 3, 1) := by decide +kernel
theorem dX2_fixShip_74 : decode cX2_fixShip 74 = .ok (.dup, 1) := by decide +kernel
theorem dX2_fixShip_75 : decode cX2_fixShip 75 = .ok (.getfield 126, 3) := by decide +kernel
theorem dX2_fixShip_78 : decode cX2_fixShip 78 = .ok (.iconst 1, 1) := by decide +kernel
theorem dX2_fixShip_79 : decode cX2_fixShip 79 = .ok (.iadd, 1) := by decide +kernel
theorem dX2_fixShip_80 : decode cX2_fixShip 80 = .ok (.putfield 126, 3) := by decide +kernel
theorem dX2_fixShip_83 : decode cX2_fixShip 83 = .ok (.aload 4, 2) := by decide +kernel
theorem dX2_fixShip_85 : decode cX2_fixShip 85 = .ok (.iconst 1, 1) := by decide +kernel
theorem dX2_fixShip_86 : decode cX2_fixShip 86 = .ok (.putfield 119, 3) := by decide +kernel
theorem dX2_fixShip_89 : decode cX2_fixShip 89 = .ok (.aload 4, 2) := by decide +kernel
theorem dX2_fixShip_91 : decode cX2_fixShip 91 = .ok (.iload_n 1, 1) := by decide +kernel
theorem dX2_fixShip_92 : decode cX2_fixShip 92 = .ok (.putfield 132, 3) := by decide +kernel
theorem dX2_fixShip_95 : decode cX2_fixShip 95 = .ok (.aload_n 0, 1) := by decide +kernel
theorem dX2_fixShip_96 : decode cX2_fixShip 96 = .ok (.getfield 33, 3) := by decide +kernel
theorem dX2_fixShip_99 : decode cX2_fixShip 99 = .ok (.getfield 135, 3) := by decide +kernel
theorem dX2_fixShip_102 : decode cX2_fixShip 102 = .ok (.ireturn, 1) := by decide +kernel
theorem dX2_delayShip_0 : decode cX2_delayShip 0 = .ok (.aload_n 0, 1) := by decide +kernel
theorem dX2_delayShip_1 : decode cX2_delayShip 1 = .ok (.iload_n 1, 1) := by decide +kernel
theorem dX2_delayShip_2 : decode cX2_delayShip 2 = .ok (.invokevirtual 113, 3) := by decide +kernel
theorem dX2_delayShip_5 : decode cX2_delayShip 5 = .ok (.ifCond .eq 13, 3) := by decide +kernel
theorem dX2_delayShip_8 : decode cX2_delayShip 8 = .ok (.iload_n 2, 1) := by decide +kernel
theorem dX2_delayShip_9 : decode cX2_delayShip 9 = .ok (.iconst 1, 1) := by decide +kernel
theorem dX2_delayShip_10 : decode cX2_delayShip 10 = .ok (.bipush 99, 2) := by decide +kernel
theorem dX2_delayShip_12 : decode cX2_delayShip 12 = .ok (.invokestatic 69, 3) := by decide +kernel
theorem dX2_delayShip_15 : decode cX2_delayShip 15 = .ok (.ifCond .ne 6, 3) := by decide +kernel
theorem dX2_delayShip_18 : decode cX2_delayShip 18 = .ok (.ldc 73, 2) := by decide +kernel
theorem dX2_delayShip_20 : decode cX2_delayShip 20 = .ok (.ireturn, 1) := by decide +kernel
theorem dX2_delayShip_21 : decode cX2_delayShip 21 = .ok (.aload_n 0, 1) := by decide +kernel
theorem dX2_delayShip_22 : decode cX2_delayShip 22 = .ok (.getfield 20, 3) := by decide +kernel
theorem dX2_delayShip_25 : decode cX2_delayShip 25 = .ok (.iload_n 1, 1) := by decide +kernel
theorem dX2_delayShip_26 : decode cX2_delayShip 26 = .ok (.aaload, 1) := by decide +kernel
theorem dX2_delayShip_27 : decode cX2_delayShip 27 = .ok (.astore_n 3, 1) := by decide +kernel
theorem dX2_delayShip_28 : decode cX2_delayShip 28 = .ok (.aload_n 3, 1) := by decide +kernel
theorem dX2_delayShip_29 : decode cX2_delayShip 29 = .ok (.getfield 92, 3) := by decide +kernel
theorem dX2_delayShip_32 : decode cX2_delayShip 32 = .ok (.iload_n 2, 1) := by decide +kernel
theorem dX2_delayShip_33 : decode cX2_delayShip 33 = .ok (.iadd, 1) := by decide +kernel
theorem dX2_delayShip_34 : decode cX2_delayShip 34 = .ok (.sipush 1999, 3) := by decide +kernel
theorem dX2_delayShip_37 : decode cX2_delayShip 37 = .ok (.if_icmp .le 6, 3) := by decide +kernel
theorem dX2_delayShip_40 : decode cX2_delayShip 40 = .ok (.ldc 79, 2) := by decide +kernel
theorem dX2_delayShip_42 : decode cX2_delayShip 42 = .ok (.ireturn, 1) := by decide +kernel
theorem dX2_delayShip_43 : decode cX2_delayShip 43 = .ok (.aload_n 3, 1) := by decide +kernel
theorem dX2_delayShip_44 : decode cX2_delayShip 44 = .ok (.dup, 1) := by decide +kernel
theorem dX2_delayShip_45 : decode cX2_delayShip 45 = .ok (.getfield 92, 3) := by decide +kernel
theorem dX2_delayShip_48 : decode cX2_delayShip 48 = .ok (.iload_n 2, 1) := by decide +kernel
theorem dX2_delayShip_49 : decode cX2_delayShip 49 = .ok (.iadd, 1) := by decide +kernel
theorem dX2_delayShip_50 : decode cX2_delayShip 50 = .ok (.putfield 92, 3) := by decide +kernel
theorem dX2_delayShip_53 : decode cX2_delayShip 53 = .ok (.aload_n 3, 1) := by decide +kernel
theorem dX2_delayShip_54 : decode cX2_delayShip 54 = .ok (.getfield 126, 3) := by decide +kernel
theorem dX2_delayShip_57 : decode cX2_delayShip 57 = .ok (.istore 4, 2) := by decide +kernel
theorem dX2_delayShip_59 : decode cX2_delayShip 59 = .ok (.aload_n 0, 1) := by decide +kernel
theorem dX2_delayShip_60 : decode cX2_delayShip 60 = .ok (.aload_n 3, 1) := by decide +kernel
theorem dX2_delayShip_61 : decode cX2_delayShip 61 = .ok (.aload_n 0, 1) := by decide +kernel
theorem dX2_delayShip_62 : decode cX2_delayShip 62 = .ok (.iload_n 1, 1) := by decide +kernel
theorem dX2_delayShip_63 : decode cX2_delayShip 63 = .ok (.invokevirtual 138, 3) := by decide +kernel
theorem dX2_delayShip_66 : decode cX2_delayShip 66 = .ok (.iconst 2, 1) := by decide +kernel
theorem dX2_delayShip_67 : decode cX2_delayShip 67 = .ok (.invokevirtual 141, 3) := by decide +kernel
theorem dX2_delayShip_70 : decode cX2_delayShip 70 = .ok (.iload 4, 2) := by decide +kernel
theorem dX2_delayShip_72 : decode cX2_delayShip 72 = .ok (.aload_n 3, 1) := by decide +kernel
theorem dX2_delayShip_73 : decode cX2_delayShip 73 = .ok (.getfield 126, 3) := by decide +kernel
theorem dX2_delayShip_76 : decode cX2_delayShip 76 = .ok (.isub, 1) := by decide +kernel
theorem dX2_delayShip_77 : decode cX2_delayShip 77 = .ok (.istore 5, 2) := by decide +kernel
theorem dX2_delayShip_79 : decode cX2_delayShip 79 = .ok (.aload_n 0, 1) := by decide +kernel
theorem dX2_delayShip_80 : decode cX2_delayShip 80 = .ok (.dup, 1) := by decide +kernel
theorem dX2_delayShip_81 : decode cX2_delayShip 81 = .ok (.getfield 59, 3) := by decide +kernel
theorem dX2_delayShip_84 : decode cX2_delayShip 84 = .ok (.iload 5, 2) := by decide +kernel
theorem dX2_delayShip_86 : decode cX2_delayShip 86 = .ok (.iadd, 1) := by decide +kernel
theorem dX2_delayShip_87 : decode cX2_delayShip 87 = .ok (.putfield 59, 3) := by decide +kernel
theorem dX2_delayShip_90 : decode cX2_delayShip 90 = .ok (.iload 5, 2) := by decide +kernel
theorem dX2_delayShip_92 : decode cX2_delayShip 92 = .ok (.ireturn, 1) := by decide +kernel
theorem dX2_callOffLast_0 : decode cX2_callOffLast 0 = .ok (.aload_n 0, 1) := by decide +kernel
theorem dX2_callOffLast_1 : decode cX2_callOffLast 1 = .ok (.iload_n 1, 1) := by decide +kernel
theorem dX2_callOffLast_2 : decode cX2_callOffLast 2 = .ok (.invokevirtual 113, 3) := by decide +kernel
theorem dX2_callOffLast_5 : decode cX2_callOffLast 5 = .ok (.ifCond .ne 6, 3) := by decide +kernel
theorem dX2_callOffLast_8 : decode cX2_callOffLast 8 = .ok (.ldc 73, 2) := by decide +kernel
theorem dX2_callOffLast_10 : decode cX2_callOffLast 10 = .ok (.ireturn, 1) := by decide +kernel
theorem dX2_callOffLast_11 : decode cX2_callOffLast 11 = .ok (.aload_n 0, 1) := by decide +kernel
theorem dX2_callOffLast_12 : decode cX2_callOffLast 12 = .ok (.getfield 20, 3) := by decide +kernel
theorem dX2_callOffLast_15 : decode cX2_callOffLast 15 = .ok (.iload_n 1, 1) := by decide +kernel
theorem dX2_callOffLast_16 : decode cX2_callOffLast 16 = .ok (.aaload, 1) := by decide +kernel
theorem dX2_callOffLast_17 : decode cX2_callOffLast 17 = .ok (.astore_n 2, 1) := by decide +kernel
theorem dX2_callOffLast_18 : decode cX2_callOffLast 18 = .ok (.aload_n 2, 1) := by decide +kernel
theorem dX2_callOffLast_19 : decode cX2_callOffLast 19 = .ok (.getfield 126, 3) := by decide +kernel
theorem dX2_callOffLast_22 : decode cX2_callOffLast 22 = .ok (.iconst 1, 1) := by decide +kernel
theorem dX2_callOffLast_23 : decode cX2_callOffLast 23 = .ok (.isub, 1) := by decide +kernel
theorem dX2_callOffLast_24 : decode cX2_callOffLast 24 = .ok (.istore_n 3, 1) := by decide +kernel
theorem dX2_callOffLast_25 : decode cX2_callOffLast 25 = .ok (.iload_n 3, 1) := by decide +kernel
theorem dX2_callOffLast_26 : decode cX2_callOffLast 26 = .ok (.ifCond .lt 16, 3) := by decide +kernel
theorem dX2_callOffLast_29 : decode cX2_callOffLast 29 = .ok (.aload_n 0, 1) := by decide +kernel
theorem dX2_callOffLast_30 : decode cX2_callOffLast 30 = .ok (.aload_n 2, 1) := by decide +kernel
theorem dX2_callOffLast_31 : decode cX2_callOffLast 31 = .ok (.getfield 129, 3) := by decide +kernel
theorem dX2_callOffLast_34 : decode cX2_callOffLast 34 = .ok (.iload_n 3, 1) := by decide +kernel
theorem dX2_callOffLast_35 : decode cX2_callOffLast 35 = .ok (.iaload, 1) := by decide +kernel
theorem dX2_callOffLast_36 : decode cX2_callOffLast 36 = .ok (.invokevirtual 116, 3) := by decide +kernel
theorem dX2_callOffLast_39 : decode cX2_callOffLast 39 = .ok (.ifCond .ne 6, 3) := by decide +kernel
theorem dX2_callOffLast_42 : decode cX2_callOffLast 42 = .ok (.ldc 78, 2) := by decide +kernel
theorem dX2_callOffLast_44 : decode cX2_callOffLast 44 = .ok (.ireturn, 1) := by decide +kernel
theorem dX2_callOffLast_45 : decode cX2_callOffLast 45 = .ok (.aload_n 0, 1) := by decide +kernel
theorem dX2_callOffLast_46 : decode cX2_callOffLast 46 = .ok (.getfield 26, 3) := by decide +kernel
theorem dX2_callOffLast_49 : decode cX2_callOffLast 49 = .ok (.aload_n 2, 1) := by decide +kernel
theorem dX2_callOffLast_50 : decode cX2_callOffLast 50 = .ok (.getfield 129, 3) := by decide +kernel
theorem dX2_callOffLast_53 : decode cX2_callOffLast 53 = .ok (.iload_n 3, 1) := by decide +kernel
theorem dX2_callOffLast_54 : decode cX2_callOffLast 54 = .ok (.iaload, 1) := by decide +kernel
theorem dX2_callOffLast_55 : decode cX2_callOffLast 55 = .ok (.aaload, 1) := by decide +kernel
theorem dX2_callOffLast_56 : decode cX2_callOffLast 56 = .ok (.invokevirtual 145, 3) := by decide +kernel
theorem dX2_callOffLast_59 : decode cX2_callOffLast 59 = .ok (.bipush 10, 2) := by decide +kernel
theorem dX2_callOffLast_61 : decode cX2_callOffLast 61 = .ok (.invokestatic 149, 3) := by decide +kernel
theorem dX2_callOffLast_64 : decode cX2_callOffLast 64 = .ok (.istore 4, 2) := by decide +kernel
theorem dX2_callOffLast_66 : decode cX2_callOffLast 66 = .ok (.aload_n 0, 1) := by decide +kernel
theorem dX2_callOffLast_67 : decode cX2_callOffLast 67 = .ok (.aload_n 2, 1) := by decide +kernel
theorem dX2_callOffLast_68 : decode cX2_callOffLast 68 = .ok (.iload_n 3, 1) := by decide +kernel
theorem dX2_callOffLast_69 : decode cX2_callOffLast 69 = .ok (.iconst 0, 1) := by decide +kernel
theorem dX2_callOffLast_70 : decode cX2_callOffLast 70 = .ok (.invokevirtual 141, 3) := by decide +kernel
theorem dX2_callOffLast_73 : decode cX2_callOffLast 73 = .ok (.aload_n 2, 1) := by decide +kernel
theorem dX2_callOffLast_74 : decode cX2_callOffLast 74 = .ok (.dup, 1) := by decide +kernel
theorem dX2_callOffLast_75 : decode cX2_callOffLast 75 = .ok (.getfield 152, 3) := by decide +kernel
theorem dX2_callOffLast_78 : decode cX2_callOffLast 78 = .ok (.iload 4, 2) := by decide +kernel
theorem dX2_callOffLast_80 : decode cX2_callOffLast 80 = .ok (.isub, 1) := by decide +kernel
theorem dX2_callOffLast_81 : decode cX2_callOffLast 81 = .ok (.putfield 152, 3) := by decide +kernel
theorem dX2_callOffLast_84 : decode cX2_callOffLast 84 = .ok (.aload_n 0, 1) := by decide +kernel
theorem dX2_callOffLast_85 : decode cX2_callOffLast 85 = .ok (.dup, 1) := by decide +kernel
theorem dX2_callOffLast_86 : decode cX2_callOffLast 86 = .ok (.getfield 62, 3) := by decide +kernel
theorem dX2_callOffLast_89 : decode cX2_callOffLast 89 = .ok (.iconst 1, 1) := by decide +kernel
theorem dX2_callOffLast_90 : decode cX2_callOffLast 90 = .ok (.iadd, 1) := by decide +kernel
theorem dX2_callOffLast_91 : decode cX2_callOffLast 91 = .ok (.putfield 62, 3) := by decide +kernel
theorem dX2_callOffLast_94 : decode cX2_callOffLast 94 = .ok (.iload 4, 2) := by decide +kernel
theorem dX2_callOffLast_96 : decode cX2_callOffLast 96 = .ok (.ireturn, 1) := by decide +kernel
theorem dX2_settleShip_0 : decode cX2_settleShip 0 = .ok (.aload_n 0, 1) := by decide +kernel
theorem dX2_settleShip_1 : decode cX2_settleShip 1 = .ok (.iload_n 1, 1) := by decide +kernel
theorem dX2_settleShip_2 : decode cX2_settleShip 2 = .ok (.invokevirtual 113, 3) := by decide +kernel
theorem dX2_settleShip_5 : decode cX2_settleShip 5 = .ok (.ifCond .ne 6, 3) := by decide +kernel
theorem dX2_settleShip_8 : decode cX2_settleShip 8 = .ok (.ldc 73, 2) := by decide +kernel
theorem dX2_settleShip_10 : decode cX2_settleShip 10 = .ok (.ireturn, 1) := by decide +kernel
theorem dX2_settleShip_11 : decode cX2_settleShip 11 = .ok (.aload_n 0, 1) := by decide +kernel
theorem dX2_settleShip_12 : decode cX2_settleShip 12 = .ok (.getfield 20, 3) := by decide +kernel
theorem dX2_settleShip_15 : decode cX2_settleShip 15 = .ok (.iload_n 1, 1) := by decide +kernel
theorem dX2_settleShip_16 : decode cX2_settleShip 16 = .ok (.aaload, 1) := by decide +kernel
theorem dX2_settleShip_17 : decode cX2_settleShip 17 = .ok (.astore_n 2, 1) := by decide +kernel
theorem dX2_settleShip_18 : decode cX2_settleShip 18 = .ok (.aload_n 2, 1) := by decide +kernel
theorem dX2_settleShip_19 : decode cX2_settleShip 19 = .ok (.getfield 126, 3) := by decide +kernel
theorem dX2_settleShip_22 : decode cX2_settleShip 22 = .ok (.ifCond .ne 6, 3) := by decide +kernel
theorem dX2_settleShip_25 : decode cX2_settleShip 25 = .ok (.ldc 78, 2) := by decide +kernel
theorem dX2_settleShip_27 : decode cX2_settleShip 27 = .ok (.ireturn, 1) := by decide +kernel
theorem dX2_settleShip_28 : decode cX2_settleShip 28 = .ok (.aload_n 0, 1) := by decide +kernel
theorem dX2_settleShip_29 : decode cX2_settleShip 29 = .ok (.iload_n 1, 1) := by decide +kernel
theorem dX2_settleShip_30 : decode cX2_settleShip 30 = .ok (.invokevirtual 155, 3) := by decide +kernel
theorem dX2_settleShip_33 : decode cX2_settleShip 33 = .ok (.pop, 1) := by decide +kernel
theorem dX2_settleShip_34 : decode cX2_settleShip 34 = .ok (.aload_n 2, 1) := by decide +kernel
theorem dX2_settleShip_35 : decode cX2_settleShip 35 = .ok (.dup, 1) := by decide +kernel
theorem dX2_settleShip_36 : decode cX2_settleShip 36 = .ok (.getfield 152, 3) := by decide +kernel
theorem dX2_settleShip_39 : decode cX2_settleShip 39 = .ok (.aload_n 0, 1) := by decide +kernel
theorem dX2_settleShip_40 : decode cX2_settleShip 40 = .ok (.getfield 33, 3) := by decide +kernel
theorem dX2_settleShip_43 : decode cX2_settleShip 43 = .ok (.getfield 159, 3) := by decide +kernel
theorem dX2_settleShip_46 : decode cX2_settleShip 46 = .ok (.iadd, 1) := by decide +kernel
theorem dX2_settleShip_47 : decode cX2_settleShip 47 = .ok (.putfield 152, 3) := by decide +kernel
theorem dX2_settleShip_50 : decode cX2_settleShip 50 = .ok (.aload_n 2, 1) := by decide +kernel
theorem dX2_settleShip_51 : decode cX2_settleShip 51 = .ok (.aload_n 0, 1) := by decide +kernel
theorem dX2_settleShip_52 : decode cX2_settleShip 52 = .ok (.getfield 33, 3) := by decide +kernel
theorem dX2_settleShip_55 : decode cX2_settleShip 55 = .ok (.getfield 162, 3) := by decide +kernel
theorem dX2_settleShip_58 : decode cX2_settleShip 58 = .ok (.putfield 89, 3) := by decide +kernel
theorem dX2_settleShip_61 : decode cX2_settleShip 61 = .ok (.aload_n 2, 1) := by decide +kernel
theorem dX2_settleShip_62 : decode cX2_settleShip 62 = .ok (.aload_n 0, 1) := by decide +kernel
theorem dX2_settleShip_63 : decode cX2_settleShip 63 = .ok (.getfield 33, 3) := by decide +kernel
theorem dX2_settleShip_66 : decode cX2_settleShip 66 = .ok (.getfield 135, 3) := by decide +kernel
theorem dX2_settleShip_69 : decode cX2_settleShip 69 = .ok (.putfield 92, 3) := by decide +kernel
theorem dX2_settleShip_72 : decode cX2_settleShip 72 = .ok (.aload_n 0, 1) := by decide +kernel
theorem dX2_settleShip_73 : decode cX2_settleShip 73 = .ok (.aload_n 2, 1) := by decide +kernel
theorem dX2_settleShip_74 : decode cX2_settleShip 74 = .ok (.iconst 0, 1) := by decide +kernel
theorem dX2_settleShip_75 : decode cX2_settleShip 75 = .ok (.iconst 2, 1) := by decide +kernel
theorem dX2_settleShip_76 : decode cX2_settleShip 76 = .ok (.invokevirtual 141, 3) := by decide +kernel
theorem dX2_settleShip_79 : decode cX2_settleShip 79 = .ok (.aload_n 0, 1) := by decide +kernel
theorem dX2_settleShip_80 : decode cX2_settleShip 80 = .ok (.getfield 33, 3) := by decide +kernel
theorem dX2_settleShip_83 : decode cX2_settleShip 83 = .ok (.getfield 159, 3) := by decide +kernel
theorem dX2_settleShip_86 : decode cX2_settleShip 86 = .ok (.ldc 165, 2) := by decide +kernel
theorem dX2_settleShip_88 : decode cX2_settleShip 88 = .ok (.iadd, 1) := by decide +kernel
theorem dX2_settleShip_89 : decode cX2_settleShip 89 = .ok (.ireturn, 1) := by decide +kernel
theorem dX2_dropFixtures_0 : decode cX2_dropFixtures 0 = .ok (.iload_n 2, 1) := by decide +kernel
theorem dX2_dropFixtures_1 : decode cX2_dropFixtures 1 = .ok (.istore 4, 2) := by decide +kernel
theorem dX2_dropFixtures_3 : decode cX2_dropFixtures 3 = .ok (.iload 4, 2) := by decide +kernel
theorem dX2_dropFixtures_5 : decode cX2_dropFixtures 5 = .ok (.aload_n 1, 1) := by decide +kernel
theorem dX2_dropFixtures_6 : decode cX2_dropFixtures 6 = .ok (.getfield 126, 3) := by decide +kernel
theorem dX2_dropFixtures_9 : decode cX2_dropFixtures 9 = .ok (.if_icmp .ge 39, 3) := by decide +kernel
theorem dX2_dropFixtures_12 : decode cX2_dropFixtures 12 = .ok (.aload_n 0, 1) := by decide +kernel
theorem dX2_dropFixtures_13 : decode cX2_dropFixtures 13 = .ok (.aload_n 1, 1) := by decide +kernel
theorem dX2_dropFixtures_14 : decode cX2_dropFixtures 14 = .ok (.getfield 129, 3) := by decide +kernel
theorem dX2_dropFixtures_17 : decode cX2_dropFixtures 17 = .ok (.iload 4, 2) := by decide +kernel
theorem dX2_dropFixtures_19 : decode cX2_dropFixtures 19 = .ok (.iaload, 1) := by decide +kernel
theorem dX2_dropFixtures_20 : decode cX2_dropFixtures 20 = .ok (.invokevirtual 116, 3) := by decide +kernel
theorem dX2_dropFixtures_23 : decode cX2_dropFixtures 23 = .ok (.ifCond .eq 19, 3) := by decide +kernel
theorem dX2_dropFixtures_26 : decode cX2_dropFixtures 26 = .ok (.aload_n 0, 1) := by decide +kernel
theorem dX2_dropFixtures_27 : decode cX2_dropFixtures 27 = .ok (.getfield 26, 3) := by decide +kernel
theorem dX2_dropFixtures_30 : decode cX2_dropFixtures 30 = .ok (.aload_n 1, 1) := by decide +kernel
theorem dX2_dropFixtures_31 : decode cX2_dropFixtures 31 = .ok (.getfield 129, 3) := by decide +kernel
theorem dX2_dropFixtures_34 : decode cX2_dropFixtures 34 = .ok (.iload 4, 2) := by decide +kernel
theorem dX2_dropFixtures_36 : decode cX2_dropFixtures 36 = .ok (.iaload, 1) := by decide +kernel
theorem dX2_dropFixtures_37 : decode cX2_dropFixtures 37 = .ok (.aaload, 1) := by decide +kernel
theorem dX2_dropFixtures_38 : decode cX2_dropFixtures 38 = .ok (.iload_n 3, 1) := by decide +kernel
theorem dX2_dropFixtures_39 : decode cX2_dropFixtures 39 = .ok (.putfield 119, 3) := by decide +kernel
theorem dX2_dropFixtures_42 : decode cX2_dropFixtures 42 = .ok (.iinc 4 1, 3) := by decide +kernel
theorem dX2_dropFixtures_45 : decode cX2_dropFixtures 45 = .ok (.goto (-42), 3) := by decide +kernel
theorem dX2_dropFixtures_48 : decode cX2_dropFixtures 48 = .ok (.aload_n 1, 1) := by decide +kernel
theorem dX2_dropFixtures_49 : decode cX2_dropFixtures 49 = .ok (.iload_n 2, 1) := by decide +kernel
theorem dX2_dropFixtures_50 : decode cX2_dropFixtures 50 = .ok (.putfield 126, 3) := by decide +kernel
theorem dX2_dropFixtures_53 : decode cX2_dropFixtures 53 = .ok (.return_, 1) := by decide +kernel
theorem dX2_between_0 : decode cX2_between 0 = .ok (.aload_n 0, 1) := by decide +kernel
theorem dX2_between_1 : decode cX2_between 1 = .ok (.getfield 9, 3) := by decide +kernel
theorem dX2_between_4 : decode cX2_between 4 = .ok (.iload_n 1, 1) := by decide +kernel
theorem dX2_between_5 : decode cX2_between 5 = .ok (.iaload, 1) := by decide +kernel
theorem dX2_between_6 : decode cX2_between 6 = .ok (.aload_n 0, 1) := by decide +kernel
theorem dX2_between_7 : decode cX2_between 7 = .ok (.getfield 9, 3) := by decide +kernel
theorem dX2_between_10 : decode cX2_between 10 = .ok (.iload_n 2, 1) := by decide +kernel
theorem dX2_between_11 : decode cX2_between 11 = .ok (.iaload, 1) := by decide +kernel
theorem dX2_between_12 : decode cX2_between 12 = .ok (.isub, 1) := by decide +kernel
theorem dX2_between_13 : decode cX2_between 13 = .ok (.istore_n 3, 1) := by decide +kernel
theorem dX2_between_14 : decode cX2_between 14 = .ok (.aload_n 0, 1) := by decide +kernel
theorem dX2_between_15 : decode cX2_between 15 = .ok (.getfield 15, 3) := by decide +kernel
theorem dX2_between_18 : decode cX2_between 18 = .ok (.iload_n 1, 1) := by decide +kernel
theorem dX2_between_19 : decode cX2_between 19 = .ok (.iaload, 1) := by decide +kernel
theorem dX2_between_20 : decode cX2_between 20 = .ok (.aload_n 0, 1) := by decide +kernel
theorem dX2_between_21 : decode cX2_between 21 = .ok (.getfield 15, 3) := by decide +kernel
theorem dX2_between_24 : decode cX2_between 24 = .ok (.iload_n 2, 1) := by decide +kernel
theorem dX2_between_25 : decode cX2_between 25 = .ok (.iaload, 1) := by decide +kernel
theorem dX2_between_26 : decode cX2_between 26 = .ok (.isub, 1) := by decide +kernel
theorem dX2_between_27 : decode cX2_between 27 = .ok (.istore 4, 2) := by decide +kernel
theorem dX2_between_29 : decode cX2_between 29 = .ok (.bipush 10, 2) := by decide +kernel
theorem dX2_between_31 : decode cX2_between 31 = .ok (.iload_n 3, 1) := by decide +kernel
theorem dX2_between_32 : decode cX2_between 32 = .ok (.ifCond .ge 8, 3) := by decide +kernel
theorem dX2_between_35 : decode cX2_between 35 = .ok (.iload_n 3, 1) := by decide +kernel
theorem dX2_between_36 : decode cX2_between 36 = .ok (.ineg, 1) := by decide +kernel
theorem dX2_between_37 : decode cX2_between 37 = .ok (.goto 4, 3) := by decide +kernel
theorem dX2_between_40 : decode cX2_between 40 = .ok (.iload_n 3, 1) := by decide +kernel
theorem dX2_between_41 : decode cX2_between 41 = .ok (.iload 4, 2) := by decide +kernel
theorem dX2_between_43 : decode cX2_between 43 = .ok (.ifCond .ge 9, 3) := by decide +kernel
theorem dX2_between_46 : decode cX2_between 46 = .ok (.iload 4, 2) := by decide +kernel
theorem dX2_between_48 : decode cX2_between 48 = .ok (.ineg, 1) := by decide +kernel
theorem dX2_between_49 : decode cX2_between 49 = .ok (.goto 5, 3) := by decide +kernel
theorem dX2_between_52 : decode cX2_between 52 = .ok (.iload 4, 2) := by decide +kernel
theorem dX2_between_54 : decode cX2_between 54 = .ok (.iadd, 1) := by decide +kernel
theorem dX2_between_55 : decode cX2_between 55 = .ok (.imul, 1) := by decide +kernel
theorem dX2_between_56 : decode cX2_between 56 = .ok (.ireturn, 1) := by decide +kernel
theorem dX2_follow_0 : decode cX2_follow 0 = .ok (.aload_n 0, 1) := by decide +kernel
theorem dX2_follow_1 : decode cX2_follow 1 = .ok (.getfield 20, 3) := by decide +kernel
theorem dX2_follow_4 : decode cX2_follow 4 = .ok (.iload_n 1, 1) := by decide +kernel
theorem dX2_follow_5 : decode cX2_follow 5 = .ok (.aaload, 1) := by decide +kernel
theorem dX2_follow_6 : decode cX2_follow 6 = .ok (.astore_n 3, 1) := by decide +kernel
theorem dX2_follow_7 : decode cX2_follow 7 = .ok (.aload_n 0, 1) := by decide +kernel
theorem dX2_follow_8 : decode cX2_follow 8 = .ok (.getfield 33, 3) := by decide +kernel
theorem dX2_follow_11 : decode cX2_follow 11 = .ok (.aload_n 3, 1) := by decide +kernel
theorem dX2_follow_12 : decode cX2_follow 12 = .ok (.invokevirtual 166, 3) := by decide +kernel
theorem dX2_follow_15 : decode cX2_follow 15 = .ok (.iconst 0, 1) := by decide +kernel
theorem dX2_follow_16 : decode cX2_follow 16 = .ok (.istore 4, 2) := by decide +kernel
theorem dX2_follow_18 : decode cX2_follow 18 = .ok (.iload 4, 2) := by decide +kernel
theorem dX2_follow_20 : decode cX2_follow 20 = .ok (.iload_n 2, 1) := by decide +kernel
theorem dX2_follow_21 : decode cX2_follow 21 = .ok (.if_icmp .ge 30, 3) := by decide +kernel
theorem dX2_follow_24 : decode cX2_follow 24 = .ok (.iload 4, 2) := by decide +kernel
theorem dX2_follow_26 : decode cX2_follow 26 = .ok (.aload_n 3, 1) := by decide +kernel
theorem dX2_follow_27 : decode cX2_follow 27 = .ok (.getfield 126, 3) := by decide +kernel
theorem dX2_follow_30 : decode cX2_follow 30 = .ok (.if_icmp .ge 21, 3) := by decide +kernel
theorem dX2_follow_33 : decode cX2_follow 33 = .ok (.aload_n 0, 1) := by decide +kernel
theorem dX2_follow_34 : decode cX2_follow 34 = .ok (.aload_n 3, 1) := by decide +kernel
theorem dX2_follow_35 : decode cX2_follow 35 = .ok (.aload_n 3, 1) := by decide +kernel
theorem dX2_follow_36 : decode cX2_follow 36 = .ok (.getfield 129, 3) := by decide +kernel
theorem dX2_follow_39 : decode cX2_follow 39 = .ok (.iload 4, 2) := by decide +kernel
theorem dX2_follow_41 : decode cX2_follow 41 = .ok (.iaload, 1) := by decide +kernel
theorem dX2_follow_42 : decode cX2_follow 42 = .ok (.invokevirtual 169, 3) := by decide +kernel
theorem dX2_follow_45 : decode cX2_follow 45 = .ok (.iinc 4 1, 3) := by decide +kernel
theorem dX2_follow_48 : decode cX2_follow 48 = .ok (.goto (-30), 3) := by decide +kernel
theorem dX2_follow_51 : decode cX2_follow 51 = .ok (.aload_n 0, 1) := by decide +kernel
theorem dX2_follow_52 : decode cX2_follow 52 = .ok (.getfield 33, 3) := by decide +kernel
theorem dX2_follow_55 : decode cX2_follow 55 = .ok (.areturn, 1) := by decide +kernel
theorem dX2_followAll_0 : decode cX2_followAll 0 = .ok (.aload_n 0, 1) := by decide +kernel
theorem dX2_followAll_1 : decode cX2_followAll 1 = .ok (.iload_n 1, 1) := by decide +kernel
theorem dX2_followAll_2 : decode cX2_followAll 2 = .ok (.bipush 10, 2) := by decide +kernel
theorem dX2_followAll_4 : decode cX2_followAll 4 = .ok (.invokevirtual 173, 3) := by decide +kernel
theorem dX2_followAll_7 : decode cX2_followAll 7 = .ok (.areturn, 1) := by decide +kernel
theorem dX2_sail_0 : decode cX2_sail 0 = .ok (.aload_n 0, 1) := by decide +kernel
theorem dX2_sail_1 : decode cX2_sail 1 = .ok (.iload_n 2, 1) := by decide +kernel
theorem dX2_sail_2 : decode cX2_sail 2 = .ok (.invokevirtual 116, 3) := by decide +kernel
theorem dX2_sail_5 : decode cX2_sail 5 = .ok (.ifCond .ne 4, 3) := by decide +kernel
theorem dX2_sail_8 : decode cX2_sail 8 = .ok (.return_, 1) := by decide +kernel
theorem dX2_sail_9 : decode cX2_sail 9 = .ok (.aload_n 0, 1) := by decide +kernel
theorem dX2_sail_10 : decode cX2_sail 10 = .ok (.getfield 26, 3) := by decide +kernel
theorem dX2_sail_13 : decode cX2_sail 13 = .ok (.iload_n 2, 1) := by decide +kernel
theorem dX2_sail_14 : decode cX2_sail 14 = .ok (.aaload, 1) := by decide +kernel
theorem dX2_sail_15 : decode cX2_sail 15 = .ok (.astore_n 3, 1) := by decide +kernel
theorem dX2_sail_16 : decode cX2_sail 16 = .ok (.bipush 24, 2) := by decide +kernel
theorem dX2_sail_18 : decode cX2_sail 18 = .ok (.aload_n 1, 1) := by decide +kernel
theorem dX2_sail_19 : decode cX2_sail 19 = .ok (.getfield 83, 3) := by decide +kernel
theorem dX2_sail_22 : decode cX2_sail 22 = .ok (.imul, 1) := by decide +kernel
theorem dX2_sail_23 : decode cX2_sail 23 = .ok (.istore 4, 2) := by decide +kernel
theorem dX2_sail_25 : decode cX2_sail 25 = .ok (.aload_n 0, 1) := by decide +kernel
theorem dX2_sail_26 : decode cX2_sail 26 = .ok (.getfield 33, 3) := by decide +kernel
theorem dX2_sail_29 : decode cX2_sail 29 = .ok (.getfield 135, 3) := by decide +kernel
theorem dX2_sail_32 : decode cX2_sail 32 = .ok (.istore 5, 2) := by decide +kernel
theorem dX2_sail_34 : decode cX2_sail 34 = .ok (.aload_n 0, 1) := by decide +kernel
theorem dX2_sail_35 : decode cX2_sail 35 = .ok (.getfield 33, 3) := by decide +kernel
theorem dX2_sail_38 : decode cX2_sail 38 = .ok (.iload 5, 2) := by decide +kernel
theorem dX2_sail_40 : decode cX2_sail 40 = .ok (.aload_n 0, 1) := by decide +kernel
theorem dX2_sail_41 : decode cX2_sail 41 = .ok (.aload_n 0, 1) := by decide +kernel
theorem dX2_sail_42 : decode cX2_sail 42 = .ok (.getfield 33, 3) := by decide +kernel
theorem dX2_sail_45 : decode cX2_sail 45 = .ok (.getfield 162, 3) := by decide +kernel
theorem dX2_sail_48 : decode cX2_sail 48 = .ok (.aload_n 3, 1) := by decide +kernel
theorem dX2_sail_49 : decode cX2_sail 49 = .ok (.getfield 98, 3) := by decide +kernel
theorem dX2_sail_52 : decode cX2_sail 52 = .ok (.invokevirtual 177, 3) := by decide +kernel
theorem dX2_sail_55 : decode cX2_sail 55 = .ok (.iload 4, 2) := by decide +kernel
theorem dX2_sail_57 : decode cX2_sail 57 = .ok (.invokestatic 149, 3) := by decide +kernel
theorem dX2_sail_60 : decode cX2_sail 60 = .ok (.iadd, 1) := by decide +kernel
theorem dX2_sail_61 : decode cX2_sail 61 = .ok (.putfield 180, 3) := by decide +kernel
theorem dX2_sail_64 : decode cX2_sail 64 = .ok (.aload_n 0, 1) := by decide +kernel
theorem dX2_sail_65 : decode cX2_sail 65 = .ok (.getfield 33, 3) := by decide +kernel
theorem dX2_sail_68 : decode cX2_sail 68 = .ok (.aload_n 3, 1) := by decide +kernel
theorem dX2_sail_69 : decode cX2_sail 69 = .ok (.getfield 107, 3) := by decide +kernel
theorem dX2_sail_72 : decode cX2_sail 72 = .ok (.aload_n 0, 1) := by decide +kernel
theorem dX2_sail_73 : decode cX2_sail 73 = .ok (.getfield 33, 3) := by decide +kernel
theorem dX2_sail_76 : decode cX2_sail 76 = .ok (.getfield 180, 3) := by decide +kernel
theorem dX2_sail_79 : decode cX2_sail 79 = .ok (.isub, 1) := by decide +kernel
theorem dX2_sail_80 : decode cX2_sail 80 = .ok (.putfield 183, 3) := by decide +kernel
theorem dX2_sail_83 : decode cX2_sail 83 = .ok (.aload_n 0, 1) := by decide +kernel
theorem dX2_sail_84 : decode cX2_sail 84 = .ok (.getfield 33, 3) := by decide +kernel
theorem dX2_sail_87 : decode cX2_sail 87 = .ok (.aload_n 0, 1) := by decide +kernel
theorem dX2_sail_88 : decode cX2_sail 88 = .ok (.getfield 33, 3) := by decide +kernel
theorem dX2_sail_91 : decode cX2_sail 91 = .ok (.getfield 180, 3) := by decide +kernel
theorem dX2_sail_94 : decode cX2_sail 94 = .ok (.aload_n 3, 1) := by decide +kernel
theorem dX2_sail_95 : decode cX2_sail 95 = .ok (.getfield 104, 3) := by decide +kernel
theorem dX2_sail_98 : decode cX2_sail 98 = .ok (.invokestatic 186, 3) := by decide +kernel
theorem dX2_sail_101 : decode cX2_sail 101 = .ok (.putfield 191, 3) := by decide +kernel
theorem dX2_sail_104 : decode cX2_sail 104 = .ok (.aload_n 0, 1) := by decide +kernel
theorem dX2_sail_105 : decode cX2_sail 105 = .ok (.getfield 33, 3) := by decide +kernel
theorem dX2_sail_108 : decode cX2_sail 108 = .ok (.getfield 191, 3) := by decide +kernel
theorem dX2_sail_111 : decode cX2_sail 111 = .ok (.iconst 2, 1) := by decide +kernel
theorem dX2_sail_112 : decode cX2_sail 112 = .ok (.iadd, 1) := by decide +kernel
theorem dX2_sail_113 : decode cX2_sail 113 = .ok (.istore 6, 2) := by decide +kernel
theorem dX2_sail_115 : decode cX2_sail 115 = .ok (.aload_n 0, 1) := by decide +kernel
theorem dX2_sail_116 : decode cX2_sail 116 = .ok (.getfield 33, 3) := by decide +kernel
theorem dX2_sail_119 : decode cX2_sail 119 = .ok (.iload 6, 2) := by decide +kernel
theorem dX2_sail_121 : decode cX2_sail 121 = .ok (.aload_n 0, 1) := by decide +kernel
theorem dX2_sail_122 : decode cX2_sail 122 = .ok (.aload_n 3, 1) := by decide +kernel
theorem dX2_sail_123 : decode cX2_sail 123 = .ok (.getfield 98, 3) := by decide +kernel
theorem dX2_sail_126 : decode cX2_sail 126 = .ok (.aload_n 3, 1) := by decide +kernel
theorem dX2_sail_127 : decode cX2_sail 127 = .ok (.getfield 101, 3) := by decide +kernel
theorem dX2_sail_130 : decode cX2_sail 130 = .ok (.invokevirtual 177, 3) := by decide +kernel
theorem dX2_sail_133 : decode cX2_sail 133 = .ok (.iload 4, 2) := by decide +kernel
theorem dX2_sail_135 : decode cX2_sail 135 = .ok (.invokestatic 149, 3) := by decide +kernel
theorem dX2_sail_138 : decode cX2_sail 138 = .ok (.iadd, 1) := by decide +kernel
theorem dX2_sail_139 : decode cX2_sail 139 = .ok (.iconst 2, 1) := by decide +kernel
theorem dX2_sail_140 : decode cX2_sail 140 = .ok (.iadd, 1) := by decide +kernel
theorem dX2_sail_141 : decode cX2_sail 141 = .ok (.putfield 135, 3) := by decide +kernel
theorem dX2_sail_144 : decode cX2_sail 144 = .ok (.aload_n 0, 1) := by decide +kernel
theorem dX2_sail_145 : decode cX2_sail 145 = .ok (.getfield 33, 3) := by decide +kernel
theorem dX2_sail_148 : decode cX2_sail 148 = .ok (.aload_n 3, 1) := by decide +kernel
theorem dX2_sail_149 : decode cX2_sail 149 = .ok (.getfield 101, 3) := by decide +kernel
theorem dX2_sail_152 : decode cX2_sail 152 = .ok (.putfield 162, 3) := by decide +kernel
theorem dX2_sail_155 : decode cX2_sail 155 = .ok (.aload_n 0, 1) := by decide +kernel
theorem dX2_sail_156 : decode cX2_sail 156 = .ok (.getfield 33, 3) := by decide +kernel
theorem dX2_sail_159 : decode cX2_sail 159 = .ok (.aload_n 0, 1) := by decide +kernel
theorem dX2_sail_160 : decode cX2_sail 160 = .ok (.getfield 33, 3) := by decide +kernel
theorem dX2_sail_163 : decode cX2_sail 163 = .ok (.getfield 135, 3) := by decide +kernel
theorem dX2_sail_166 : decode cX2_sail 166 = .ok (.iload 5, 2) := by decide +kernel
theorem dX2_sail_168 : decode cX2_sail 168 = .ok (.isub, 1) := by decide +kernel
theorem dX2_sail_169 : decode cX2_sail 169 = .ok (.putfield 194, 3) := by decide +kernel
theorem dX2_sail_172 : decode cX2_sail 172 = .ok (.aload_n 0, 1) := by decide +kernel
theorem dX2_sail_173 : decode cX2_sail 173 = .ok (.getfield 33, 3) := by decide +kernel
theorem dX2_sail_176 : decode cX2_sail 176 = .ok (.aload_n 3, 1) := by decide +kernel
theorem dX2_sail_177 : decode cX2_sail 177 = .ok (.invokevirtual 145, 3) := by decide +kernel
theorem dX2_sail_180 : decode cX2_sail 180 = .ok (.aload_n 0, 1) := by decide +kernel
theorem dX2_sail_181 : decode cX2_sail 181 = .ok (.getfield 33, 3) := by decide +kernel
theorem dX2_sail_184 : decode cX2_sail 184 = .ok (.getfield 194, 3) := by decide +kernel
theorem dX2_sail_187 : decode cX2_sail 187 = .ok (.aload_n 1, 1) := by decide +kernel
theorem dX2_sail_188 : decode cX2_sail 188 = .ok (.getfield 86, 3) := by decide +kernel
theorem dX2_sail_191 : decode cX2_sail 191 = .ok (.imul, 1) := by decide +kernel
theorem dX2_sail_192 : decode cX2_sail 192 = .ok (.isub, 1) := by decide +kernel
theorem dX2_sail_193 : decode cX2_sail 193 = .ok (.putfield 197, 3) := by decide +kernel
theorem dX2_sail_196 : decode cX2_sail 196 = .ok (.aload_n 0, 1) := by decide +kernel
theorem dX2_sail_197 : decode cX2_sail 197 = .ok (.getfield 33, 3) := by decide +kernel
theorem dX2_sail_200 : decode cX2_sail 200 = .ok (.dup, 1) := by decide +kernel
theorem dX2_sail_201 : decode cX2_sail 201 = .ok (.getfield 159, 3) := by decide +kernel
theorem dX2_sail_204 : decode cX2_sail 204 = .ok (.aload_n 0, 1) := by decide +kernel
theorem dX2_sail_205 : decode cX2_sail 205 = .ok (.getfield 33, 3) := by decide +kernel
theorem dX2_sail_208 : decode cX2_sail 208 = .ok (.getfield 197, 3) := by decide +kernel
theorem dX2_sail_211 : decode cX2_sail 211 = .ok (.iadd, 1) := by decide +kernel
theorem dX2_sail_212 : decode cX2_sail 212 = .ok (.putfield 159, 3) := by decide +kernel
theorem dX2_sail_215 : decode cX2_sail 215 = .ok (.return_, 1) := by decide +kernel
theorem dX2_hindrance_0 : decode cX2_hindrance 0 = .ok (.aload_n 0, 1) := by decide +kernel
theorem dX2_hindrance_1 : decode cX2_hindrance 1 = .ok (.iload_n 1, 1) := by decide +kernel
theorem dX2_hindrance_2 : decode cX2_hindrance 2 = .ok (.bipush 10, 2) := by decide +kernel
theorem dX2_hindrance_4 : decode cX2_hindrance 4 = .ok (.invokevirtual 173, 3) := by decide +kernel
theorem dX2_hindrance_7 : decode cX2_hindrance 7 = .ok (.pop, 1) := by decide +kernel
theorem dX2_hindrance_8 : decode cX2_hindrance 8 = .ok (.aload_n 0, 1) := by decide +kernel
theorem dX2_hindrance_9 : decode cX2_hindrance 9 = .ok (.aload_n 0, 1) := by decide +kernel
theorem dX2_hindrance_10 : decode cX2_hindrance 10 = .ok (.getfield 20, 3) := by decide +kernel
theorem dX2_hindrance_13 : decode cX2_hindrance 13 = .ok (.iload_n 1, 1) := by decide +kernel
theorem dX2_hindrance_14 : decode cX2_hindrance 14 = .ok (.aaload, 1) := by decide +kernel
theorem dX2_hindrance_15 : decode cX2_hindrance 15 = .ok (.iload_n 2, 1) := by decide +kernel
theorem dX2_hindrance_16 : decode cX2_hindrance 16 = .ok (.invokevirtual 169, 3) := by decide +kernel
theorem dX2_hindrance_19 : decode cX2_hindrance 19 = .ok (.aload_n 0, 1) := by decide +kernel
theorem dX2_hindrance_20 : decode cX2_hindrance 20 = .ok (.getfield 26, 3) := by decide +kernel
theorem dX2_hindrance_23 : decode cX2_hindrance 23 = .ok (.iload_n 2, 1) := by decide +kernel
theorem dX2_hindrance_24 : decode cX2_hindrance 24 = .ok (.aaload, 1) := by decide +kernel
theorem dX2_hindrance_25 : decode cX2_hindrance 25 = .ok (.getfield 95, 3) := by decide +kernel
theorem dX2_hindrance_28 : decode cX2_hindrance 28 = .ok (.aload_n 0, 1) := by decide +kernel
theorem dX2_hindrance_29 : decode cX2_hindrance 29 = .ok (.getfield 20, 3) := by decide +kernel
theorem dX2_hindrance_32 : decode cX2_hindrance 32 = .ok (.iload_n 1, 1) := by decide +kernel
theorem dX2_hindrance_33 : decode cX2_hindrance 33 = .ok (.aaload, 1) := by decide +kernel
theorem dX2_hindrance_34 : decode cX2_hindrance 34 = .ok (.getfield 80, 3) := by decide +kernel
theorem dX2_hindrance_37 : decode cX2_hindrance 37 = .ok (.if_icmp .le 5, 3) := by decide +kernel
theorem dX2_hindrance_40 : decode cX2_hindrance 40 = .ok (.iconst 1, 1) := by decide +kernel
theorem dX2_hindrance_41 : decode cX2_hindrance 41 = .ok (.ireturn, 1) := by decide +kernel
theorem dX2_hindrance_42 : decode cX2_hindrance 42 = .ok (.aload_n 0, 1) := by decide +kernel
theorem dX2_hindrance_43 : decode cX2_hindrance 43 = .ok (.getfield 33, 3) := by decide +kernel
theorem dX2_hindrance_46 : decode cX2_hindrance 46 = .ok (.getfield 183, 3) := by decide +kernel
theorem dX2_hindrance_49 : decode cX2_hindrance 49 = .ok (.ifCond .ge 7, 3) := by decide +kernel
theorem dX2_hindrance_52 : decode cX2_hindrance 52 = .ok (.iconst 2, 1) := by decide +kernel
theorem dX2_hindrance_53 : decode cX2_hindrance 53 = .ok (.goto 4, 3) := by decide +kernel
theorem dX2_hindrance_56 : decode cX2_hindrance 56 = .ok (.iconst 0, 1) := by decide +kernel
theorem dX2_hindrance_57 : decode cX2_hindrance 57 = .ok (.ireturn, 1) := by decide +kernel
theorem dX2_fixturesInTime_0 : decode cX2_fixturesInTime 0 = .ok (.aload_n 0, 1) := by decide +kernel
theorem dX2_fixturesInTime_1 : decode cX2_fixturesInTime 1 = .ok (.getfield 20, 3) := by decide +kernel
theorem dX2_fixturesInTime_4 : decode cX2_fixturesInTime 4 = .ok (.iload_n 1, 1) := by decide +kernel
theorem dX2_fixturesInTime_5 : decode cX2_fixturesInTime 5 = .ok (.aaload, 1) := by decide +kernel
theorem dX2_fixturesInTime_6 : decode cX2_fixturesInTime 6 = .ok (.astore_n 2, 1) := by decide +kernel
theorem dX2_fixturesInTime_7 : decode cX2_fixturesInTime 7 = .ok (.aload_n 0, 1) := by decide +kernel
theorem dX2_fixturesInTime_8 : decode cX2_fixturesInTime 8 = .ok (.getfield 33, 3) := by decide +kernel
theorem dX2_fixturesInTime_11 : decode cX2_fixturesInTime 11 = .ok (.aload_n 2, 1) := by decide +kernel
theorem dX2_fixturesInTime_12 : decode cX2_fixturesInTime 12 = .ok (.invokevirtual 166, 3) := by decide +kernel
theorem dX2_fixturesInTime_15 : decode cX2_fixturesInTime 15 = .ok (.iconst 0, 1) := by decide +kernel
theorem dX2_fixturesInTime_16 : decode cX2_fixturesInTime 16 = .ok (.istore_n 3, 1) := by decide +kernel
theorem dX2_fixturesInTime_17 : decode cX2_fixturesInTime 17 = .ok (.iload_n 3, 1) := by decide +kernel
theorem dX2_fixturesInTime_18 : decode cX2_fixturesInTime 18 = .ok (.aload_n 2, 1) := by decide +kernel
theorem dX2_fixturesInTime_19 : decode cX2_fixturesInTime 19 = .ok (.getfield 126, 3) := by decide +kernel
theorem dX2_fixturesInTime_22 : decode cX2_fixturesInTime 22 = .ok (.if_icmp .ge 32, 3) := by decide +kernel
theorem dX2_fixturesInTime_25 : decode cX2_fixturesInTime 25 = .ok (.aload_n 0, 1) := by decide +kernel
theorem dX2_fixturesInTime_26 : decode cX2_fixturesInTime 26 = .ok (.aload_n 2, 1) := by decide +kernel
theorem dX2_fixturesInTime_27 : decode cX2_fixturesInTime 27 = .ok (.aload_n 2, 1) := by decide +kernel
theorem dX2_fixturesInTime_28 : decode cX2_fixturesInTime 28 = .ok (.getfield 129, 3) := by decide +kernel
theorem dX2_fixturesInTime_31 : decode cX2_fixturesInTime 31 = .ok (.iload_n 3, 1) := by decide +kernel
theorem dX2_fixturesInTime_32 : decode cX2_fixturesInTime 32 = .ok (.iaload, 1) := by decide +kernel
theorem dX2_fixturesInTime_33 : decode cX2_fixturesInTime 33 = .ok (.invokevirtual 169, 3) := by decide +kernel
theorem dX2_fixturesInTime_36 : decode cX2_fixturesInTime 36 = .ok (.aload_n 0, 1) := by decide +kernel
theorem dX2_fixturesInTime_37 : decode cX2_fixturesInTime 37 = .ok (.getfield 33, 3) := by decide +kernel
theorem dX2_fixturesInTime_40 : decode cX2_fixturesInTime 40 = .ok (.getfield 183, 3) := by decide +kernel
theorem dX2_fixturesInTime_43 : decode cX2_fixturesInTime 43 = .ok (.ifCond .ge 5, 3) := by decide +kernel
theorem dX2_fixturesInTime_46 : decode cX2_fixturesInTime 46 = .ok (.iload_n 3, 1) := by decide +kernel
theorem dX2_fixturesInTime_47 : decode cX2_fixturesInTime 47 = .ok (.ireturn, 1) := by decide +kernel
theorem dX2_fixturesInTime_48 : decode cX2_fixturesInTime 48 = .ok (.iinc 3 1, 3) := by decide +kernel
theorem dX2_fixturesInTime_51 : decode cX2_fixturesInTime 51 = .ok (.goto (-34), 3) := by decide +kernel
theorem dX2_fixturesInTime_54 : decode cX2_fixturesInTime 54 = .ok (.aload_n 2, 1) := by decide +kernel
theorem dX2_fixturesInTime_55 : decode cX2_fixturesInTime 55 = .ok (.getfield 126, 3) := by decide +kernel
theorem dX2_fixturesInTime_58 : decode cX2_fixturesInTime 58 = .ok (.ireturn, 1) := by decide +kernel
theorem dX2_slackOf_0 : decode cX2_slackOf 0 = .ok (.aload_n 0, 1) := by decide +kernel
theorem dX2_slackOf_1 : decode cX2_slackOf 1 = .ok (.getfield 20, 3) := by decide +kernel
theorem dX2_slackOf_4 : decode cX2_slackOf 4 = .ok (.iload_n 1, 1) := by decide +kernel
theorem dX2_slackOf_5 : decode cX2_slackOf 5 = .ok (.aaload, 1) := by decide +kernel
theorem dX2_slackOf_6 : decode cX2_slackOf 6 = .ok (.astore_n 2, 1) := by decide +kernel
theorem dX2_slackOf_7 : decode cX2_slackOf 7 = .ok (.ldc 200, 2) := by decide +kernel
theorem dX2_slackOf_9 : decode cX2_slackOf 9 = .ok (.istore_n 3, 1) := by decide +kernel
theorem dX2_slackOf_10 : decode cX2_slackOf 10 = .ok (.iconst 0, 1) := by decide +kernel
theorem dX2_slackOf_11 : decode cX2_slackOf 11 = .ok (.istore 4, 2) := by decide +kernel
theorem dX2_slackOf_13 : decode cX2_slackOf 13 = .ok (.aload_n 0, 1) := by decide +kernel
theorem dX2_slackOf_14 : decode cX2_slackOf 14 = .ok (.getfield 33, 3) := by decide +kernel
theorem dX2_slackOf_17 : decode cX2_slackOf 17 = .ok (.aload_n 2, 1) := by decide +kernel
theorem dX2_slackOf_18 : decode cX2_slackOf 18 = .ok (.invokevirtual 166, 3) := by decide +kernel
theorem dX2_slackOf_21 : decode cX2_slackOf 21 = .ok (.iconst 0, 1) := by decide +kernel
theorem dX2_slackOf_22 : decode cX2_slackOf 22 = .ok (.istore 5, 2) := by decide +kernel
theorem dX2_slackOf_24 : decode cX2_slackOf 24 = .ok (.iload 5, 2) := by decide +kernel
theorem dX2_slackOf_26 : decode cX2_slackOf 26 = .ok (.aload_n 2, 1) := by decide +kernel
theorem dX2_slackOf_27 : decode cX2_slackOf 27 = .ok (.getfield 126, 3) := by decide +kernel
theorem dX2_slackOf_30 : decode cX2_slackOf 30 = .ok (.if_icmp .ge 70, 3) := by decide +kernel
theorem dX2_slackOf_33 : decode cX2_slackOf 33 = .ok (.aload_n 0, 1) := by decide +kernel
theorem dX2_slackOf_34 : decode cX2_slackOf 34 = .ok (.aload_n 2, 1) := by decide +kernel
theorem dX2_slackOf_35 : decode cX2_slackOf 35 = .ok (.aload_n 2, 1) := by decide +kernel
theorem dX2_slackOf_36 : decode cX2_slackOf 36 = .ok (.getfield 129, 3) := by decide +kernel
theorem dX2_slackOf_39 : decode cX2_slackOf 39 = .ok (.iload 5, 2) := by decide +kernel
theorem dX2_slackOf_41 : decode cX2_slackOf 41 = .ok (.iaload, 1) := by decide +kernel
theorem dX2_slackOf_42 : decode cX2_slackOf 42 = .ok (.invokevirtual 169, 3) := by decide +kernel
theorem dX2_slackOf_45 : decode cX2_slackOf 45 = .ok (.aload_n 0, 1) := by decide +kernel
theorem dX2_slackOf_46 : decode cX2_slackOf 46 = .ok (.getfield 33, 3) := by decide +kernel
theorem dX2_slackOf_49 : decode cX2_slackOf 49 = .ok (.getfield 183, 3) := by decide +kernel
theorem dX2_slackOf_52 : decode cX2_slackOf 52 = .ok (.iload 4, 2) := by decide +kernel
theorem dX2_slackOf_54 : decode cX2_slackOf 54 = .ok (.iadd, 1) := by decide +kernel
theorem dX2_slackOf_55 : decode cX2_slackOf 55 = .ok (.istore 6, 2) := by decide +kernel
theorem dX2_slackOf_57 : decode cX2_slackOf 57 = .ok (.iload 5, 2) := by decide +kernel
theorem dX2_slackOf_59 : decode cX2_slackOf 59 = .ok (.ifCond .ne 8, 3) := by decide +kernel
theorem dX2_slackOf_62 : decode cX2_slackOf 62 = .ok (.iload 6, 2) := by decide +kernel
theorem dX2_slackOf_64 : decode cX2_slackOf 64 = .ok (.goto 9, 3) := by decide +kernel
theorem dX2_slackOf_67 : decode cX2_slackOf 67 = .ok (.iload_n 3, 1) := by decide +kernel
theorem dX2_slackOf_68 : decode cX2_slackOf 68 = .ok (.iload 6, 2) := by decide +kernel
theorem dX2_slackOf_70 : decode cX2_slackOf 70 = .ok (.invokestatic 201, 3) := by decide +kernel
theorem dX2_slackOf_73 : decode cX2_slackOf 73 = .ok (.istore_n 3, 1) := by decide +kernel
theorem dX2_slackOf_74 : decode cX2_slackOf 74 = .ok (.iload 4, 2) := by decide +kernel
theorem dX2_slackOf_76 : decode cX2_slackOf 76 = .ok (.aload_n 0, 1) := by decide +kernel
theorem dX2_slackOf_77 : decode cX2_slackOf 77 = .ok (.getfield 33, 3) := by decide +kernel
theorem dX2_slackOf_80 : decode cX2_slackOf 80 = .ok (.getfield 191, 3) := by decide +kernel
theorem dX2_slackOf_83 : decode cX2_slackOf 83 = .ok (.aload_n 0, 1) := by decide +kernel
theorem dX2_slackOf_84 : decode cX2_slackOf 84 = .ok (.getfield 33, 3) := by decide +kernel
theorem dX2_slackOf_87 : decode cX2_slackOf 87 = .ok (.getfield 180, 3) := by decide +kernel
theorem dX2_slackOf_90 : decode cX2_slackOf 90 = .ok (.isub, 1) := by decide +kernel
theorem dX2_slackOf_91 : decode cX2_slackOf 91 = .ok (.iadd, 1) := by decide +kernel
theorem dX2_slackOf_92 : decode cX2_slackOf 92 = .ok (.istore 4, 2) := by decide +kernel
theorem dX2_slackOf_94 : decode cX2_slackOf 94 = .ok (.iinc 5 1, 3) := by decide +kernel
theorem dX2_slackOf_97 : decode cX2_slackOf 97 = .ok (.goto (-73), 3) := by decide +kernel
theorem dX2_slackOf_100 : decode cX2_slackOf 100 = .ok (.iload_n 3, 1) := by decide +kernel
theorem dX2_slackOf_101 : decode cX2_slackOf 101 = .ok (.ireturn, 1) := by decide +kernel
theorem dX2_choose_0 : decode cX2_choose 0 = .ok (.iconst 0, 1) := by decide +kernel
theorem dX2_choose_1 : decode cX2_choose 1 = .ok (.istore 5, 2) := by decide +kernel
theorem dX2_choose_3 : decode cX2_choose 3 = .ok (.iload_n 1, 1) := by decide +kernel
theorem dX2_choose_4 : decode cX2_choose 4 = .ok (.istore 6, 2) := by decide +kernel
theorem dX2_choose_6 : decode cX2_choose 6 = .ok (.iload 6, 2) := by decide +kernel
theorem dX2_choose_8 : decode cX2_choose 8 = .ok (.iload_n 2, 1) := by decide +kernel
theorem dX2_choose_9 : decode cX2_choose 9 = .ok (.if_icmp .ge 97, 3) := by decide +kernel
theorem dX2_choose_12 : decode cX2_choose 12 = .ok (.iload_n 3, 1) := by decide +kernel
theorem dX2_choose_13 : decode cX2_choose 13 = .ok (.istore 7, 2) := by decide +kernel
theorem dX2_choose_15 : decode cX2_choose 15 = .ok (.iload 7, 2) := by decide +kernel
theorem dX2_choose_17 : decode cX2_choose 17 = .ok (.iload 4, 2) := by decide +kernel
theorem dX2_choose_19 : decode cX2_choose 19 = .ok (.if_icmp .ge 81, 3) := by decide +kernel
theorem dX2_choose_22 : decode cX2_choose 22 = .ok (.aload_n 0, 1) := by decide +kernel
theorem dX2_choose_23 : decode cX2_choose 23 = .ok (.getfield 26, 3) := by decide +kernel
theorem dX2_choose_26 : decode cX2_choose 26 = .ok (.iload 7, 2) := by decide +kernel
theorem dX2_choose_28 : decode cX2_choose 28 = .ok (.aaload, 1) := by decide +kernel
theorem dX2_choose_29 : decode cX2_choose 29 = .ok (.getfield 119, 3) := by decide +kernel
theorem dX2_choose_32 : decode cX2_choose 32 = .ok (.ifCond .ne 62, 3) := by decide +kernel
theorem dX2_choose_35 : decode cX2_choose 35 = .ok (.aload_n 0, 1) := by decide +kernel
theorem dX2_choose_36 : decode cX2_choose 36 = .ok (.iload 6, 2) := by decide +kernel
theorem dX2_choose_38 : decode cX2_choose 38 = .ok (.iload 7, 2) := by decide +kernel
theorem dX2_choose_40 : decode cX2_choose 40 = .ok (.invokevirtual 122, 3) := by decide +kernel
theorem dX2_choose_43 : decode cX2_choose 43 = .ok (.ifCond .eq 6, 3) := by decide +kernel
theorem dX2_choose_46 : decode cX2_choose 46 = .ok (.goto 48, 3) := by decide +kernel
theorem dX2_choose_49 : decode cX2_choose 49 = .ok (.iload 5, 2) := by decide +kernel
theorem dX2_choose_51 : decode cX2_choose 51 = .ok (.ifCond .eq 17, 3) := by decide +kernel
theorem dX2_choose_54 : decode cX2_choose 54 = .ok (.aload_n 0, 1) := by decide +kernel
theorem dX2_choose_55 : decode cX2_choose 55 = .ok (.getfield 33, 3) := by decide +kernel
theorem dX2_choose_58 : decode cX2_choose 58 = .ok (.getfield 197, 3) := by decide +kernel
theorem dX2_choose_61 : decode cX2_choose 61 = .ok (.aload_n 0, 1) := by decide +kernel
theorem dX2_choose_62 : decode cX2_choose 62 = .ok (.getfield 204, 3) := by decide +kernel
theorem dX2_choose_65 : decode cX2_choose 65 = .ok (.if_icmp .le 29, 3) := by decide +kernel
theorem dX2_choose_68 : decode cX2_choose 68 = .ok (.iconst 1, 1) := by decide +kernel
theorem dX2_choose_69 : decode cX2_choose 69 = .ok (.istore 5, 2) := by decide +kernel
theorem dX2_choose_71 : decode cX2_choose 71 = .ok (.aload_n 0, 1) := by decide +kernel
theorem dX2_choose_72 : decode cX2_choose 72 = .ok (.iload 6, 2) := by decide +kernel
theorem dX2_choose_74 : decode cX2_choose 74 = .ok (.putfield 207, 3) := by decide +kernel
theorem dX2_choose_77 : decode cX2_choose 77 = .ok (.aload_n 0, 1) := by decide +kernel
theorem dX2_choose_78 : decode cX2_choose 78 = .ok (.iload 7, 2) := by decide +kernel
theorem dX2_choose_80 : decode cX2_choose 80 = .ok (.putfield 210, 3) := by decide +kernel
theorem dX2_choose_83 : decode cX2_choose 83 = .ok (.aload_n 0, 1) := by decide +kernel
theorem dX2_choose_84 : decode cX2_choose 84 = .ok (.aload_n 0, 1) := by decide +kernel
theorem dX2_choose_85 : decode cX2_choose 85 = .ok (.getfield 33, 3) := by decide +kernel
theorem dX2_choose_88 : decode cX2_choose 88 = .ok (.getfield 197, 3) := by decide +kernel
theorem dX2_choose_91 : decode cX2_choose 91 = .ok (.putfield 204, 3) := by decide +kernel
theorem dX2_choose_94 : decode cX2_choose 94 = .ok (.iinc 7 1, 3) := by decide +kernel
theorem dX2_choose_97 : decode cX2_choose 97 = .ok (.goto (-82), 3) := by decide +kernel
theorem dX2_choose_100 : decode cX2_choose 100 = .ok (.iinc 6 1, 3) := by decide +kernel
theorem dX2_choose_103 : decode cX2_choose 103 = .ok (.goto (-97), 3) := by decide +kernel
theorem dX2_choose_106 : decode cX2_choose 106 = .ok (.iload 5, 2) := by decide +kernel
theorem dX2_choose_108 : decode cX2_choose 108 = .ok (.ireturn, 1) := by decide +kernel
theorem dX2_chooseGainful_0 : decode cX2_chooseGainful 0 = .ok (.aload_n 0, 1) := by decide +kernel
theorem dX2_chooseGainful_1 : decode cX2_chooseGainful 1 = .ok (.iconst 0, 1) := by decide +kernel
theorem dX2_chooseGainful_2 : decode cX2_chooseGainful 2 = .ok (.aload_n 0, 1) := by decide +kernel
theorem dX2_chooseGainful_3 : decode cX2_chooseGainful 3 = .ok (.getfield 52, 3) := by decide +kernel
theorem dX2_chooseGainful_6 : decode cX2_chooseGainful 6 = .ok (.iconst 0, 1) := by decide +kernel
theorem dX2_chooseGainful_7 : decode cX2_chooseGainful 7 = .ok (.aload_n 0, 1) := by decide +kernel
theorem dX2_chooseGainful_8 : decode cX2_chooseGainful 8 = .ok (.getfield 56, 3) := by decide +kernel
theorem dX2_chooseGainful_11 : decode cX2_chooseGainful 11 = .ok (.invokevirtual 213, 3) := by decide +kernel
theorem dX2_chooseGainful_14 : decode cX2_chooseGainful 14 = .ok (.ifCond .eq 14, 3) := by decide +kernel
theorem dX2_chooseGainful_17 : decode cX2_chooseGainful 17 = .ok (.aload_n 0, 1) := by decide +kernel
theorem dX2_chooseGainful_18 : decode cX2_chooseGainful 18 = .ok (.getfield 204, 3) := by decide +kernel
theorem dX2_chooseGainful_21 : decode cX2_chooseGainful 21 = .ok (.ifCond .le 7, 3) := by decide +kernel
theorem dX2_chooseGainful_24 : decode cX2_chooseGainful 24 = .ok (.iconst 1, 1) := by decide +kernel
theorem dX2_chooseGainful_25 : decode cX2_chooseGainful 25 = .ok (.goto 4, 3) := by decide +kernel
theorem dX2_chooseGainful_28 : decode cX2_chooseGainful 28 = .ok (.iconst 0, 1) := by decide +kernel
theorem dX2_chooseGainful_29 : decode cX2_chooseGainful 29 = .ok (.ireturn, 1) := by decide +kernel
theorem dX2_cargoesThatAre_0 : decode cX2_cargoesThatAre 0 = .ok (.iconst 0, 1) := by decide +kernel
theorem dX2_cargoesThatAre_1 : decode cX2_cargoesThatAre 1 = .ok (.istore_n 2, 1) := by decide +kernel
theorem dX2_cargoesThatAre_2 : decode cX2_cargoesThatAre 2 = .ok (.iconst 0, 1) := by decide +kernel
theorem dX2_cargoesThatAre_3 : decode cX2_cargoesThatAre 3 = .ok (.istore_n 3, 1) := by decide +kernel
theorem dX2_cargoesThatAre_4 : decode cX2_cargoesThatAre 4 = .ok (.iload_n 3, 1) := by decide +kernel
theorem dX2_cargoesThatAre_5 : decode cX2_cargoesThatAre 5 = .ok (.aload_n 0, 1) := by decide +kernel
theorem dX2_cargoesThatAre_6 : decode cX2_cargoesThatAre 6 = .ok (.getfield 56, 3) := by decide +kernel
theorem dX2_cargoesThatAre_9 : decode cX2_cargoesThatAre 9 = .ok (.if_icmp .ge 25, 3) := by decide +kernel
theorem dX2_cargoesThatAre_12 : decode cX2_cargoesThatAre 12 = .ok (.aload_n 0, 1) := by decide +kernel
theorem dX2_cargoesThatAre_13 : decode cX2_cargoesThatAre 13 = .ok (.getfield 26, 3) := by decide +kernel
theorem dX2_cargoesThatAre_16 : decode cX2_cargoesThatAre 16 = .ok (.iload_n 3, 1) := by decide +kernel
theorem dX2_cargoesThatAre_17 : decode cX2_cargoesThatAre 17 = .ok (.aaload, 1) := by decide +kernel
theorem dX2_cargoesThatAre_18 : decode cX2_cargoesThatAre 18 = .ok (.getfield 119, 3) := by decide +kernel
theorem dX2_cargoesThatAre_21 : decode cX2_cargoesThatAre 21 = .ok (.iload_n 1, 1) := by decide +kernel
theorem dX2_cargoesThatAre_22 : decode cX2_cargoesThatAre 22 = .ok (.if_icmp .ne 6, 3) := by decide +kernel
theorem dX2_cargoesThatAre_25 : decode cX2_cargoesThatAre 25 = .ok (.iinc 2 1, 3) := by decide +kernel
theorem dX2_cargoesThatAre_28 : decode cX2_cargoesThatAre 28 = .ok (.iinc 3 1, 3) := by decide +kernel
theorem dX2_cargoesThatAre_31 : decode cX2_cargoesThatAre 31 = .ok (.goto (-27), 3) := by decide +kernel
theorem dX2_cargoesThatAre_34 : decode cX2_cargoesThatAre 34 = .ok (.iload_n 2, 1) := by decide +kernel
theorem dX2_cargoesThatAre_35 : decode cX2_cargoesThatAre 35 = .ok (.ireturn, 1) := by decide +kernel
theorem dX2_openCargoes_0 : decode cX2_openCargoes 0 = .ok (.iconst 0, 1) := by decide +kernel
theorem dX2_openCargoes_1 : decode cX2_openCargoes 1 = .ok (.istore_n 1, 1) := by decide +kernel
theorem dX2_openCargoes_2 : decode cX2_openCargoes 2 = .ok (.iconst 0, 1) := by decide +kernel
theorem dX2_openCargoes_3 : decode cX2_openCargoes 3 = .ok (.istore_n 2, 1) := by decide +kernel
theorem dX2_openCargoes_4 : decode cX2_openCargoes 4 = .ok (.iload_n 2, 1) := by decide +kernel
theorem dX2_openCargoes_5 : decode cX2_openCargoes 5 = .ok (.aload_n 0, 1) := by decide +kernel
theorem dX2_openCargoes_6 : decode cX2_openCargoes 6 = .ok (.getfield 56, 3) := by decide +kernel
theorem dX2_openCargoes_9 : decode cX2_openCargoes 9 = .ok (.if_icmp .ge 27, 3) := by decide +kernel
theorem dX2_openCargoes_12 : decode cX2_openCargoes 12 = .ok (.aload_n 0, 1) := by decide +kernel
theorem dX2_openCargoes_13 : decode cX2_openCargoes 13 = .ok (.getfield 26, 3) := by decide +kernel
theorem dX2_openCargoes_16 : decode cX2_openCargoes 16 = .ok (.iload_n 2, 1) := by decide +kernel
theorem dX2_openCargoes_17 : decode cX2_openCargoes 17 = .ok (.aaload, 1) := by decide +kernel
theorem dX2_openCargoes_18 : decode cX2_openCargoes 18 = .ok (.getfield 119, 3) := by decide +kernel
theorem dX2_openCargoes_21 : decode cX2_openCargoes 21 = .ok (.ifCond .ne 9, 3) := by decide +kernel
theorem dX2_openCargoes_24 : decode cX2_openCargoes 24 = .ok (.iload_n 1, 1) := by decide +kernel
theorem dX2_openCargoes_25 : decode cX2_openCargoes 25 = .ok (.iconst 1, 1) := by decide +kernel
theorem dX2_openCargoes_26 : decode cX2_openCargoes 26 = .ok (.iload_n 2, 1) := by decide +kernel
theorem dX2_openCargoes_27 : decode cX2_openCargoes 27 = .ok (.ishl, 1) := by decide +kernel
theorem dX2_openCargoes_28 : decode cX2_openCargoes 28 = .ok (.ior, 1) := by decide +kernel
theorem dX2_openCargoes_29 : decode cX2_openCargoes 29 = .ok (.istore_n 1, 1) := by decide +kernel
theorem dX2_openCargoes_30 : decode cX2_openCargoes 30 = .ok (.iinc 2 1, 3) := by decide +kernel
theorem dX2_openCargoes_33 : decode cX2_openCargoes 33 = .ok (.goto (-29), 3) := by decide +kernel
theorem dX2_openCargoes_36 : decode cX2_openCargoes 36 = .ok (.iload_n 1, 1) := by decide +kernel
theorem dX2_openCargoes_37 : decode cX2_openCargoes 37 = .ok (.ireturn, 1) := by decide +kernel
theorem dX2_pairOf_0 : decode cX2_pairOf 0 = .ok (.aload_n 0, 1) := by decide +kernel
theorem dX2_pairOf_1 : decode cX2_pairOf 1 = .ok (.iload_n 1, 1) := by decide +kernel
theorem dX2_pairOf_2 : decode cX2_pairOf 2 = .ok (.invokevirtual 116, 3) := by decide +kernel
theorem dX2_pairOf_5 : decode cX2_pairOf 5 = .ok (.ifCond .eq 30, 3) := by decide +kernel
theorem dX2_pairOf_8 : decode cX2_pairOf 8 = .ok (.lconst 1, 1) := by decide +kernel
theorem dX2_pairOf_9 : decode cX2_pairOf 9 = .ok (.bipush 8, 2) := by decide +kernel
theorem dX2_pairOf_11 : decode cX2_pairOf 11 = .ok (.aload_n 0, 1) := by decide +kernel
theorem dX2_pairOf_12 : decode cX2_pairOf 12 = .ok (.getfield 26, 3) := by decide +kernel
theorem dX2_pairOf_15 : decode cX2_pairOf 15 = .ok (.iload_n 1, 1) := by decide +kernel
theorem dX2_pairOf_16 : decode cX2_pairOf 16 = .ok (.aaload, 1) := by decide +kernel
theorem dX2_pairOf_17 : decode cX2_pairOf 17 = .ok (.getfield 98, 3) := by decide +kernel
theorem dX2_pairOf_20 : decode cX2_pairOf 20 = .ok (.imul, 1) := by decide +kernel
theorem dX2_pairOf_21 : decode cX2_pairOf 21 = .ok (.aload_n 0, 1) := by decide +kernel
theorem dX2_pairOf_22 : decode cX2_pairOf 22 = .ok (.getfield 26, 3) := by decide +kernel
theorem dX2_pairOf_25 : decode cX2_pairOf 25 = .ok (.iload_n 1, 1) := by decide +kernel
theorem dX2_pairOf_26 : decode cX2_pairOf 26 = .ok (.aaload, 1) := by decide +kernel
theorem dX2_pairOf_27 : decode cX2_pairOf 27 = .ok (.getfield 101, 3) := by decide +kernel
theorem dX2_pairOf_30 : decode cX2_pairOf 30 = .ok (.iadd, 1) := by decide +kernel
theorem dX2_pairOf_31 : decode cX2_pairOf 31 = .ok (.lshl, 1) := by decide +kernel
theorem dX2_pairOf_32 : decode cX2_pairOf 32 = .ok (.goto 4, 3) := by decide +kernel
theorem dX2_pairOf_35 : decode cX2_pairOf 35 = .ok (.lconst 0, 1) := by decide +kernel
theorem dX2_pairOf_36 : decode cX2_pairOf 36 = .ok (.lreturn, 1) := by decide +kernel
theorem dX2_accountsTogether_0 : decode cX2_accountsTogether 0 = .ok (.iconst 0, 1) := by decide +kernel
theorem dX2_accountsTogether_1 : decode cX2_accountsTogether 1 = .ok (.istore_n 1, 1) := by decide +kernel
theorem dX2_accountsTogether_2 : decode cX2_accountsTogether 2 = .ok (.iconst 0, 1) := by decide +kernel
theorem dX2_accountsTogether_3 : decode cX2_accountsTogether 3 = .ok (.istore_n 2, 1) := by decide +kernel
theorem dX2_accountsTogether_4 : decode cX2_accountsTogether 4 = .ok (.iload_n 2, 1) := by decide +kernel
theorem dX2_accountsTogether_5 : decode cX2_accountsTogether 5 = .ok (.aload_n 0, 1) := by decide +kernel
theorem dX2_accountsTogether_6 : decode cX2_accountsTogether 6 = .ok (.getfield 52, 3) := by decide +kernel
theorem dX2_accountsTogether_9 : decode cX2_accountsTogether 9 = .ok (.if_icmp .ge 21, 3) := by decide +kernel
theorem dX2_accountsTogether_12 : decode cX2_accountsTogether 12 = .ok (.iload_n 1, 1) := by decide +kernel
theorem dX2_accountsTogether_13 : decode cX2_accountsTogether 13 = .ok (.aload_n 0, 1) := by decide +kernel
theorem dX2_accountsTogether_14 : decode cX2_accountsTogether 14 = .ok (.getfield 20, 3) := by decide +kernel
theorem dX2_accountsTogether_17 : decode cX2_accountsTogether 17 = .ok (.iload_n 2, 1) := by decide +kernel
theorem dX2_accountsTogether_18 : decode cX2_accountsTogether 18 = .ok (.aaload, 1) := by decide +kernel
theorem dX2_accountsTogether_19 : decode cX2_accountsTogether 19 = .ok (.getfield 152, 3) := by decide +kernel
theorem dX2_accountsTogether_22 : decode cX2_accountsTogether 22 = .ok (.iadd, 1) := by decide +kernel
theorem dX2_accountsTogether_23 : decode cX2_accountsTogether 23 = .ok (.istore_n 1, 1) := by decide +kernel
theorem dX2_accountsTogether_24 : decode cX2_accountsTogether 24 = .ok (.iinc 2 1, 3) := by decide +kernel
theorem dX2_accountsTogether_27 : decode cX2_accountsTogether 27 = .ok (.goto (-23), 3) := by decide +kernel
theorem dX2_accountsTogether_30 : decode cX2_accountsTogether 30 = .ok (.iload_n 1, 1) := by decide +kernel
theorem dX2_accountsTogether_31 : decode cX2_accountsTogether 31 = .ok (.ireturn, 1) := by decide +kernel
theorem dX3_init_0 : decode cX3_init 0 = .ok (.aload_n 0, 1) := by decide +kernel
theorem dX3_init_1 : decode cX3_init 1 = .ok (.invokespecial 1, 3) := by decide +kernel
theorem dX3_init_4 : decode cX3_init 4 = .ok (.return_, 1) := by decide +kernel
theorem dX4_init_0 : decode cX4_init 0 = .ok (.aload_n 0, 1) := by decide +kernel
theorem dX4_init_1 : decode cX4_init 1 = .ok (.invokespecial 3, 3) := by decide +kernel
theorem dX4_init_4 : decode cX4_init 4 = .ok (.aload_n 0, 1) := by decide +kernel
theorem dX4_init_5 : decode cX4_init 5 = .ok (.iconst 4, 1) := by decide +kernel
theorem dX4_init_6 : decode cX4_init 6 = .ok (.anewarray 9, 3) := by decide +kernel
theorem dX4_init_9 : decode cX4_init 9 = .ok (.putfield 11, 3) := by decide +kernel
theorem dX4_init_12 : decode cX4_init 12 = .ok (.iconst 0, 1) := by decide +kernel
theorem dX4_init_13 : decode cX4_init 13 = .ok (.istore_n 1, 1) := by decide +kernel
theorem dX4_init_14 : decode cX4_init 14 = .ok (.iload_n 1, 1) := by decide +kernel
theorem dX4_init_15 : decode cX4_init 15 = .ok (.iconst 4, 1) := by decide +kernel
theorem dX4_init_16 : decode cX4_init 16 = .ok (.if_icmp .ge 22, 3) := by decide +kernel
theorem dX4_init_19 : decode cX4_init 19 = .ok (.aload_n 0, 1) := by decide +kernel
theorem dX4_init_20 : decode cX4_init 20 = .ok (.getfield 11, 3) := by decide +kernel
theorem dX4_init_23 : decode cX4_init 23 = .ok (.iload_n 1, 1) := by decide +kernel
theorem dX4_init_24 : decode cX4_init 24 = .ok (.new 9, 3) := by decide +kernel
theorem dX4_init_27 : decode cX4_init 27 = .ok (.dup, 1) := by decide +kernel
theorem dX4_init_28 : decode cX4_init 28 = .ok (.invokespecial 17, 3) := by decide +kernel
theorem dX4_init_31 : decode cX4_init 31 = .ok (.aastore, 1) := by decide +kernel
theorem dX4_init_32 : decode cX4_init 32 = .ok (.iinc 1 1, 3) := by decide +kernel
theorem dX4_init_35 : decode cX4_init 35 = .ok (.goto (-21), 3) := by decide +kernel
theorem dX4_init_38 : decode cX4_init 38 = .ok (.return_, 1) := by decide +kernel
theorem dX4_record_0 : decode cX4_record 0 = .ok (.aload_n 0, 1) := by decide +kernel
theorem dX4_record_1 : decode cX4_record 1 = .ok (.getfield 18, 3) := by decide +kernel
theorem dX4_record_4 : decode cX4_record 4 = .ok (.iconst 4, 1) := by decide +kernel
theorem dX4_record_5 : decode cX4_record 5 = .ok (.if_icmp .lt 7, 3) := by decide +kernel
theorem dX4_record_8 : decode cX4_record 8 = .ok (.aload_n 0, 1) := by decide +kernel
theorem dX4_record_9 : decode cX4_record 9 = .ok (.invokevirtual 22, 3) := by decide +kernel
theorem dX4_record_12 : decode cX4_record 12 = .ok (.aload_n 0, 1) := by decide +kernel
theorem dX4_record_13 : decode cX4_record 13 = .ok (.getfield 11, 3) := by decide +kernel
theorem dX4_record_16 : decode cX4_record 16 = .ok (.aload_n 0, 1) := by decide +kernel
theorem dX4_record_17 : decode cX4_record 17 = .ok (.getfield 18, 3) := by decide +kernel
theorem dX4_record_20 : decode cX4_record 20 = .ok (.aaload, 1) := by decide +kernel
theorem dX4_record_21 : decode cX4_record 21 = .ok (.aload_n 1, 1) := by decide +kernel
theorem dX4_record_22 : decode cX4_record 22 = .ok (.invokevirtual 25, 3) := by decide +kernel
theorem dX4_record_25 : decode cX4_record 25 = .ok (.aload_n 0, 1) := by decide +kernel
theorem dX4_record_26 : decode cX4_record 26 = .ok (.dup, 1) := by decide +kernel
theorem dX4_record_27 : decode cX4_record 27 = .ok (.getfield 18, 3) := by decide +kernel
theorem dX4_record_30 : decode cX4_record 30 = .ok (.iconst 1, 1) := by decide +kernel
theorem dX4_record_31 : decode cX4_record 31 = .ok (.iadd, 1) := by decide +kernel
theorem dX4_record_32 : decode cX4_record 32 = .ok (.putfield 18, 3) := by decide +kernel
theorem dX4_record_35 : decode cX4_record 35 = .ok (.return_, 1) := by decide +kernel
theorem dX4_dropOldest_0 : decode cX4_dropOldest 0 = .ok (.aload_n 0, 1) := by decide +kernel
theorem dX4_dropOldest_1 : decode cX4_dropOldest 1 = .ok (.getfield 11, 3) := by decide +kernel
theorem dX4_dropOldest_4 : decode cX4_dropOldest 4 = .ok (.iconst 0, 1) := by decide +kernel
theorem dX4_dropOldest_5 : decode cX4_dropOldest 5 = .ok (.aaload, 1) := by decide +kernel
theorem dX4_dropOldest_6 : decode cX4_dropOldest 6 = .ok (.astore_n 1, 1) := by decide +kernel
theorem dX4_dropOldest_7 : decode cX4_dropOldest 7 = .ok (.iconst 1, 1) := by decide +kernel
theorem dX4_dropOldest_8 : decode cX4_dropOldest 8 = .ok (.istore_n 2, 1) := by decide +kernel
theorem dX4_dropOldest_9 : decode cX4_dropOldest 9 = .ok (.iload_n 2, 1) := by decide +kernel
theorem dX4_dropOldest_10 : decode cX4_dropOldest 10 = .ok (.iconst 4, 1) := by decide +kernel
theorem dX4_dropOldest_11 : decode cX4_dropOldest 11 = .ok (.if_icmp .ge 23, 3) := by decide +kernel
theorem dX4_dropOldest_14 : decode cX4_dropOldest 14 = .ok (.aload_n 0, 1) := by decide +kernel
theorem dX4_dropOldest_15 : decode cX4_dropOldest 15 = .ok (.getfield 11, 3) := by decide +kernel
theorem dX4_dropOldest_18 : decode cX4_dropOldest 18 = .ok (.iload_n 2, 1) := by decide +kernel
theorem dX4_dropOldest_19 : decode cX4_dropOldest 19 = .ok (.iconst 1, 1) := by decide +kernel
theorem dX4_dropOldest_20 : decode cX4_dropOldest 20 = .ok (.isub, 1) := by decide +kernel
theorem dX4_dropOldest_21 : decode cX4_dropOldest 21 = .ok (.aload_n 0, 1) := by decide +kernel
theorem dX4_dropOldest_22 : decode cX4_dropOldest 22 = .ok (.getfield 11, 3) := by decide +kernel
theorem dX4_dropOldest_25 : decode cX4_dropOldest 25 = .ok (.iload_n 2, 1) := by decide +kernel
theorem dX4_dropOldest_26 : decode cX4_dropOldest 26 = .ok (.aaload, 1) := by decide +kernel
theorem dX4_dropOldest_27 : decode cX4_dropOldest 27 = .ok (.aastore, 1) := by decide +kernel
theorem dX4_dropOldest_28 : decode cX4_dropOldest 28 = .ok (.iinc 2 1, 3) := by decide +kernel
theorem dX4_dropOldest_31 : decode cX4_dropOldest 31 = .ok (.goto (-22), 3) := by decide +kernel
theorem dX4_dropOldest_34 : decode cX4_dropOldest 34 = .ok (.aload_n 0, 1) := by decide +kernel
theorem dX4_dropOldest_35 : decode cX4_dropOldest 35 = .ok (.getfield 11, 3) := by decide +kernel
theorem dX4_dropOldest_38 : decode cX4_dropOldest 38 = .ok (.iconst 3, 1) := by decide +kernel
theorem dX4_dropOldest_39 : decode cX4_dropOldest 39 = .ok (.aload_n 1, 1) := by decide +kernel
theorem dX4_dropOldest_40 : decode cX4_dropOldest 40 = .ok (.aastore, 1) := by decide +kernel
theorem dX4_dropOldest_41 : decode cX4_dropOldest 41 = .ok (.aload_n 0, 1) := by decide +kernel
theorem dX4_dropOldest_42 : decode cX4_dropOldest 42 = .ok (.iconst 3, 1) := by decide +kernel
theorem dX4_dropOldest_43 : decode cX4_dropOldest 43 = .ok (.putfield 18, 3) := by decide +kernel
theorem dX4_dropOldest_46 : decode cX4_dropOldest 46 = .ok (.return_, 1) := by decide +kernel
theorem dX4_restore_0 : decode cX4_restore 0 = .ok (.aload_n 0, 1) := by decide +kernel
theorem dX4_restore_1 : decode cX4_restore 1 = .ok (.getfield 18, 3) := by decide +kernel
theorem dX4_restore_4 : decode cX4_restore 4 = .ok (.iconst 1, 1) := by decide +kernel
theorem dX4_restore_5 : decode cX4_restore 5 = .ok (.if_icmp .ge 5, 3) := by decide +kernel
theorem dX4_restore_8 : decode cX4_restore 8 = .ok (.iconst 0, 1) := by decide +kernel
theorem dX4_restore_9 : decode cX4_restore 9 = .ok (.ireturn, 1) := by decide +kernel
theorem dX4_restore_10 : decode cX4_restore 10 = .ok (.aload_n 0, 1) := by decide +kernel
theorem dX4_restore_11 : decode cX4_restore 11 = .ok (.dup, 1) := by decide +kernel
theorem dX4_restore_12 : decode cX4_restore 12 = .ok (.getfield 18, 3) := by decide +kernel
theorem dX4_restore_15 : decode cX4_restore 15 = .ok (.iconst 1, 1) := by decide +kernel
theorem dX4_restore_16 : decode cX4_restore 16 = .ok (.isub, 1) := by decide +kernel
theorem dX4_restore_17 : decode cX4_restore 17 = .ok (.putfield 18, 3) := by decide +kernel
theorem dX4_restore_20 : decode cX4_restore 20 = .ok (.aload_n 1, 1) := by decide +kernel
theorem dX4_restore_21 : decode cX4_restore 21 = .ok (.aload_n 0, 1) := by decide +kernel
theorem dX4_restore_22 : decode cX4_restore 22 = .ok (.getfield 11, 3) := by decide +kernel
theorem dX4_restore_25 : decode cX4_restore 25 = .ok (.aload_n 0, 1) := by decide +kernel
theorem dX4_restore_26 : decode cX4_restore 26 = .ok (.getfield 18, 3) := by decide +kernel
theorem dX4_restore_29 : decode cX4_restore 29 = .ok (.aaload, 1) := by decide +kernel
theorem dX4_restore_30 : decode cX4_restore 30 = .ok (.invokevirtual 25, 3) := by decide +kernel
theorem dX4_restore_33 : decode cX4_restore 33 = .ok (.iconst 1, 1) := by decide +kernel
theorem dX4_restore_34 : decode cX4_restore 34 = .ok (.ireturn, 1) := by decide +kernel
theorem dX5_init_0 : decode cX5_init 0 = .ok (.aload_n 0, 1) := by decide +kernel
theorem dX5_init_1 : decode cX5_init 1 = .ok (.invokespecial 3, 3) := by decide +kernel
theorem dX5_init_4 : decode cX5_init 4 = .ok (.aload_n 0, 1) := by decide +kernel
theorem dX5_init_5 : decode cX5_init 5 = .ok (.bipush 60, 2) := by decide +kernel
theorem dX5_init_7 : decode cX5_init 7 = .ok (.newarray .char, 2) := by decide +kernel
theorem dX5_init_9 : decode cX5_init 9 = .ok (.putfield 9, 3) := by decide +kernel
theorem dX5_init_12 : decode cX5_init 12 = .ok (.aload_n 0, 1) := by decide +kernel
theorem dX5_init_13 : decode cX5_init 13 = .ok (.bipush 6, 2) := by decide +kernel
theorem dX5_init_15 : decode cX5_init 15 = .ok (.newarray .int, 2) := by decide +kernel
theorem dX5_init_17 : decode cX5_init 17 = .ok (.putfield 15, 3) := by decide +kernel
theorem dX5_init_20 : decode cX5_init 20 = .ok (.return_, 1) := by decide +kernel
theorem dX6_init_0 : decode cX6_init 0 = .ok (.aload_n 0, 1) := by decide +kernel
theorem dX6_init_1 : decode cX6_init 1 = .ok (.invokespecial 3, 3) := by decide +kernel
theorem dX6_init_4 : decode cX6_init 4 = .ok (.aload_n 0, 1) := by decide +kernel
theorem dX6_init_5 : decode cX6_init 5 = .ok (.bipush 10, 2) := by decide +kernel
theorem dX6_init_7 : decode cX6_init 7 = .ok (.newarray .int, 2) := by decide +kernel
theorem dX6_init_9 : decode cX6_init 9 = .ok (.putfield 9, 3) := by decide +kernel
theorem dX6_init_12 : decode cX6_init 12 = .ok (.return_, 1) := by decide +kernel
theorem dX6_copyFrom_0 : decode cX6_copyFrom 0 = .ok (.aload_n 0, 1) := by decide +kernel
theorem dX6_copyFrom_1 : decode cX6_copyFrom 1 = .ok (.aload_n 1, 1) := by decide +kernel
theorem dX6_copyFrom_2 : decode cX6_copyFrom 2 = .ok (.getfield 15, 3) := by decide +kernel
theorem dX6_copyFrom_5 : decode cX6_copyFrom 5 = .ok (.putfield 15, 3) := by decide +kernel
theorem dX6_copyFrom_8 : decode cX6_copyFrom 8 = .ok (.aload_n 0, 1) := by decide +kernel
theorem dX6_copyFrom_9 : decode cX6_copyFrom 9 = .ok (.aload_n 1, 1) := by decide +kernel
theorem dX6_copyFrom_10 : decode cX6_copyFrom 10 = .ok (.getfield 19, 3) := by decide +kernel
theorem dX6_copyFrom_13 : decode cX6_copyFrom 13 = .ok (.putfield 19, 3) := by decide +kernel
theorem dX6_copyFrom_16 : decode cX6_copyFrom 16 = .ok (.aload_n 0, 1) := by decide +kernel
theorem dX6_copyFrom_17 : decode cX6_copyFrom 17 = .ok (.aload_n 1, 1) := by decide +kernel
theorem dX6_copyFrom_18 : decode cX6_copyFrom 18 = .ok (.getfield 22, 3) := by decide +kernel
theorem dX6_copyFrom_21 : decode cX6_copyFrom 21 = .ok (.putfield 22, 3) := by decide +kernel
theorem dX6_copyFrom_24 : decode cX6_copyFrom 24 = .ok (.aload_n 0, 1) := by decide +kernel
theorem dX6_copyFrom_25 : decode cX6_copyFrom 25 = .ok (.aload_n 1, 1) := by decide +kernel
theorem dX6_copyFrom_26 : decode cX6_copyFrom 26 = .ok (.getfield 25, 3) := by decide +kernel
theorem dX6_copyFrom_29 : decode cX6_copyFrom 29 = .ok (.putfield 25, 3) := by decide +kernel
theorem dX6_copyFrom_32 : decode cX6_copyFrom 32 = .ok (.aload_n 0, 1) := by decide +kernel
theorem dX6_copyFrom_33 : decode cX6_copyFrom 33 = .ok (.aload_n 1, 1) := by decide +kernel
theorem dX6_copyFrom_34 : decode cX6_copyFrom 34 = .ok (.getfield 28, 3) := by decide +kernel
theorem dX6_copyFrom_37 : decode cX6_copyFrom 37 = .ok (.putfield 28, 3) := by decide +kernel
theorem dX6_copyFrom_40 : decode cX6_copyFrom 40 = .ok (.aload_n 0, 1) := by decide +kernel
theorem dX6_copyFrom_41 : decode cX6_copyFrom 41 = .ok (.aload_n 1, 1) := by decide +kernel
theorem dX6_copyFrom_42 : decode cX6_copyFrom 42 = .ok (.getfield 31, 3) := by decide +kernel
theorem dX6_copyFrom_45 : decode cX6_copyFrom 45 = .ok (.putfield 31, 3) := by decide +kernel
theorem dX6_copyFrom_48 : decode cX6_copyFrom 48 = .ok (.aload_n 0, 1) := by decide +kernel
theorem dX6_copyFrom_49 : decode cX6_copyFrom 49 = .ok (.aload_n 1, 1) := by decide +kernel
theorem dX6_copyFrom_50 : decode cX6_copyFrom 50 = .ok (.getfield 34, 3) := by decide +kernel
theorem dX6_copyFrom_53 : decode cX6_copyFrom 53 = .ok (.putfield 34, 3) := by decide +kernel
theorem dX6_copyFrom_56 : decode cX6_copyFrom 56 = .ok (.aload_n 1, 1) := by decide +kernel
theorem dX6_copyFrom_57 : decode cX6_copyFrom 57 = .ok (.getfield 9, 3) := by decide +kernel
theorem dX6_copyFrom_60 : decode cX6_copyFrom 60 = .ok (.iconst 0, 1) := by decide +kernel
theorem dX6_copyFrom_61 : decode cX6_copyFrom 61 = .ok (.aload_n 0, 1) := by decide +kernel
theorem dX6_copyFrom_62 : decode cX6_copyFrom 62 = .ok (.getfield 9, 3) := by decide +kernel
theorem dX6_copyFrom_65 : decode cX6_copyFrom 65 = .ok (.iconst 0, 1) := by decide +kernel
theorem dX6_copyFrom_66 : decode cX6_copyFrom 66 = .ok (.bipush 10, 2) := by decide +kernel
theorem dX6_copyFrom_68 : decode cX6_copyFrom 68 = .ok (.invokestatic 37, 3) := by decide +kernel
theorem dX6_copyFrom_71 : decode cX6_copyFrom 71 = .ok (.return_, 1) := by decide +kernel
theorem dX7_init_0 : decode cX7_init 0 = .ok (.aload_n 0, 1) := by decide +kernel
theorem dX7_init_1 : decode cX7_init 1 = .ok (.invokespecial 1, 3) := by decide +kernel
theorem dX7_init_4 : decode cX7_init 4 = .ok (.aload_n 0, 1) := by decide +kernel
theorem dX7_init_5 : decode cX7_init 5 = .ok (.new 7, 3) := by decide +kernel
theorem dX7_init_8 : decode cX7_init 8 = .ok (.dup, 1) := by decide +kernel
theorem dX7_init_9 : decode cX7_init 9 = .ok (.invokespecial 9, 3) := by decide +kernel
theorem dX7_init_12 : decode cX7_init 12 = .ok (.putfield 10, 3) := by decide +kernel
theorem dX7_init_15 : decode cX7_init 15 = .ok (.aload_n 0, 1) := by decide +kernel
theorem dX7_init_16 : decode cX7_init 16 = .ok (.new 7, 3) := by decide +kernel
theorem dX7_init_19 : decode cX7_init 19 = .ok (.dup, 1) := by decide +kernel
theorem dX7_init_20 : decode cX7_init 20 = .ok (.invokespecial 9, 3) := by decide +kernel
theorem dX7_init_23 : decode cX7_init 23 = .ok (.putfield 16, 3) := by decide +kernel
theorem dX7_init_26 : decode cX7_init 26 = .ok (.aload_n 0, 1) := by decide +kernel
theorem dX7_init_27 : decode cX7_init 27 = .ok (.new 19, 3) := by decide +kernel
theorem dX7_init_30 : decode cX7_init 30 = .ok (.dup, 1) := by decide +kernel
theorem dX7_init_31 : decode cX7_init 31 = .ok (.invokespecial 21, 3) := by decide +kernel
theorem dX7_init_34 : decode cX7_init 34 = .ok (.putfield 22, 3) := by decide +kernel
theorem dX7_init_37 : decode cX7_init 37 = .ok (.aload_n 0, 1) := by decide +kernel
theorem dX7_init_38 : decode cX7_init 38 = .ok (.new 26, 3) := by decide +kernel
theorem dX7_init_41 : decode cX7_init 41 = .ok (.dup, 1) := by decide +kernel
theorem dX7_init_42 : decode cX7_init 42 = .ok (.invokespecial 28, 3) := by decide +kernel
theorem dX7_init_45 : decode cX7_init 45 = .ok (.putfield 29, 3) := by decide +kernel
theorem dX7_init_48 : decode cX7_init 48 = .ok (.aload_n 0, 1) := by decide +kernel
theorem dX7_init_49 : decode cX7_init 49 = .ok (.new 33, 3) := by decide +kernel
theorem dX7_init_52 : decode cX7_init 52 = .ok (.dup, 1) := by decide +kernel
theorem dX7_init_53 : decode cX7_init 53 = .ok (.invokespecial 35, 3) := by decide +kernel
theorem dX7_init_56 : decode cX7_init 56 = .ok (.putfield 36, 3) := by decide +kernel
theorem dX7_init_59 : decode cX7_init 59 = .ok (.return_, 1) := by decide +kernel
theorem dX7_port_0 : decode cX7_port 0 = .ok (.aload_n 0, 1) := by decide +kernel
theorem dX7_port_1 : decode cX7_port 1 = .ok (.aload_n 0, 1) := by decide +kernel
theorem dX7_port_2 : decode cX7_port 2 = .ok (.invokevirtual 40, 3) := by decide +kernel
theorem dX7_port_5 : decode cX7_port 5 = .ok (.iload_n 1, 1) := by decide +kernel
theorem dX7_port_6 : decode cX7_port 6 = .ok (.iload_n 2, 1) := by decide +kernel
theorem dX7_port_7 : decode cX7_port 7 = .ok (.iload_n 3, 1) := by decide +kernel
theorem dX7_port_8 : decode cX7_port 8 = .ok (.invokevirtual 44, 3) := by decide +kernel
theorem dX7_port_11 : decode cX7_port 11 = .ok (.invokevirtual 48, 3) := by decide +kernel
theorem dX7_port_14 : decode cX7_port 14 = .ok (.ireturn, 1) := by decide +kernel
theorem dX7_ship_0 : decode cX7_ship 0 = .ok (.aload_n 0, 1) := by decide +kernel
theorem dX7_ship_1 : decode cX7_ship 1 = .ok (.aload_n 0, 1) := by decide +kernel
theorem dX7_ship_2 : decode cX7_ship 2 = .ok (.invokevirtual 40, 3) := by decide +kernel
theorem dX7_ship_5 : decode cX7_ship 5 = .ok (.iload_n 1, 1) := by decide +kernel
theorem dX7_ship_6 : decode cX7_ship 6 = .ok (.iload_n 2, 1) := by decide +kernel
theorem dX7_ship_7 : decode cX7_ship 7 = .ok (.iload_n 3, 1) := by decide +kernel
theorem dX7_ship_8 : decode cX7_ship 8 = .ok (.iload 4, 2) := by decide +kernel
theorem dX7_ship_10 : decode cX7_ship 10 = .ok (.iload 5, 2) := by decide +kernel
theorem dX7_ship_12 : decode cX7_ship 12 = .ok (.invokevirtual 52, 3) := by decide +kernel
theorem dX7_ship_15 : decode cX7_ship 15 = .ok (.invokevirtual 48, 3) := by decide +kernel
theorem dX7_ship_18 : decode cX7_ship 18 = .ok (.ireturn, 1) := by decide +kernel
theorem dX7_cargo_0 : decode cX7_cargo 0 = .ok (.aload_n 0, 1) := by decide +kernel
theorem dX7_cargo_1 : decode cX7_cargo 1 = .ok (.aload_n 0, 1) := by decide +kernel
theorem dX7_cargo_2 : decode cX7_cargo 2 = .ok (.invokevirtual 40, 3) := by decide +kernel
theorem dX7_cargo_5 : decode cX7_cargo 5 = .ok (.iload_n 1, 1) := by decide +kernel
theorem dX7_cargo_6 : decode cX7_cargo 6 = .ok (.iload_n 2, 1) := by decide +kernel
theorem dX7_cargo_7 : decode cX7_cargo 7 = .ok (.iload_n 3, 1) := by decide +kernel
theorem dX7_cargo_8 : decode cX7_cargo 8 = .ok (.iload 4, 2) := by decide +kernel
theorem dX7_cargo_10 : decode cX7_cargo 10 = .ok (.iload 5, 2) := by decide +kernel
theorem dX7_cargo_12 : decode cX7_cargo 12 = .ok (.iload 6, 2) := by decide +kernel
theorem dX7_cargo_14 : decode cX7_cargo 14 = .ok (.invokevirtual 56, 3) := by decide +kernel
theorem dX7_cargo_17 : decode cX7_cargo 17 = .ok (.invokevirtual 48, 3) := by decide +kernel
theorem dX7_cargo_20 : decode cX7_cargo 20 = .ok (.ireturn, 1) := by decide +kernel
theorem dX7_fix_0 : decode cX7_fix 0 = .ok (.aload_n 0, 1) := by decide +kernel
theorem dX7_fix_1 : decode cX7_fix 1 = .ok (.aload_n 0, 1) := by decide +kernel
theorem dX7_fix_2 : decode cX7_fix 2 = .ok (.invokevirtual 40, 3) := by decide +kernel
theorem dX7_fix_5 : decode cX7_fix 5 = .ok (.iload_n 1, 1) := by decide +kernel
theorem dX7_fix_6 : decode cX7_fix 6 = .ok (.iload_n 2, 1) := by decide +kernel
theorem dX7_fix_7 : decode cX7_fix 7 = .ok (.invokevirtual 60, 3) := by decide +kernel
theorem dX7_fix_10 : decode cX7_fix 10 = .ok (.invokevirtual 48, 3) := by decide +kernel
theorem dX7_fix_13 : decode cX7_fix 13 = .ok (.ireturn, 1) := by decide +kernel
theorem dX7_delay_0 : decode cX7_delay 0 = .ok (.aload_n 0, 1) := by decide +kernel
theorem dX7_delay_1 : decode cX7_delay 1 = .ok (.aload_n 0, 1) := by decide +kernel
theorem dX7_delay_2 : decode cX7_delay 2 = .ok (.invokevirtual 40, 3) := by decide +kernel
theorem dX7_delay_5 : decode cX7_delay 5 = .ok (.iload_n 1, 1) := by decide +kernel
theorem dX7_delay_6 : decode cX7_delay 6 = .ok (.iload_n 2, 1) := by decide +kernel
theorem dX7_delay_7 : decode cX7_delay 7 = .ok (.invokevirtual 64, 3) := by decide +kernel
theorem dX7_delay_10 : decode cX7_delay 10 = .ok (.invokevirtual 48, 3) := by decide +kernel
theorem dX7_delay_13 : decode cX7_delay 13 = .ok (.ireturn, 1) := by decide +kernel
theorem dX7_callOff_0 : decode cX7_callOff 0 = .ok (.aload_n 0, 1) := by decide +kernel
theorem dX7_callOff_1 : decode cX7_callOff 1 = .ok (.aload_n 0, 1) := by decide +kernel
theorem dX7_callOff_2 : decode cX7_callOff 2 = .ok (.invokevirtual 40, 3) := by decide +kernel
theorem dX7_callOff_5 : decode cX7_callOff 5 = .ok (.iload_n 1, 1) := by decide +kernel
theorem dX7_callOff_6 : decode cX7_callOff 6 = .ok (.invokevirtual 67, 3) := by decide +kernel
theorem dX7_callOff_9 : decode cX7_callOff 9 = .ok (.invokevirtual 48, 3) := by decide +kernel
theorem dX7_callOff_12 : decode cX7_callOff 12 = .ok (.ireturn, 1) := by decide +kernel
theorem dX7_settle_0 : decode cX7_settle 0 = .ok (.aload_n 0, 1) := by decide +kernel
theorem dX7_settle_1 : decode cX7_settle 1 = .ok (.aload_n 0, 1) := by decide +kernel
theorem dX7_settle_2 : decode cX7_settle 2 = .ok (.invokevirtual 40, 3) := by decide +kernel
theorem dX7_settle_5 : decode cX7_settle 5 = .ok (.iload_n 1, 1) := by decide +kernel
theorem dX7_settle_6 : decode cX7_settle 6 = .ok (.invokevirtual 70, 3) := by decide +kernel
theorem dX7_settle_9 : decode cX7_settle 9 = .ok (.invokevirtual 48, 3) := by decide +kernel
theorem dX7_settle_12 : decode cX7_settle 12 = .ok (.ireturn, 1) := by decide +kernel
theorem dX7_shipOf_0 : decode cX7_shipOf 0 = .ok (.aload_n 0, 1) := by decide +kernel
theorem dX7_shipOf_1 : decode cX7_shipOf 1 = .ok (.getfield 10, 3) := by decide +kernel
theorem dX7_shipOf_4 : decode cX7_shipOf 4 = .ok (.iload_n 1, 1) := by decide +kernel
theorem dX7_shipOf_5 : decode cX7_shipOf 5 = .ok (.invokevirtual 73, 3) := by decide +kernel
theorem dX7_shipOf_8 : decode cX7_shipOf 8 = .ok (.ifCond .ne 6, 3) := by decide +kernel
theorem dX7_shipOf_11 : decode cX7_shipOf 11 = .ok (.ldc 77, 2) := by decide +kernel
theorem dX7_shipOf_13 : decode cX7_shipOf 13 = .ok (.ireturn, 1) := by decide +kernel
theorem dX7_shipOf_14 : decode cX7_shipOf 14 = .ok (.aload_n 0, 1) := by decide +kernel
theorem dX7_shipOf_15 : decode cX7_shipOf 15 = .ok (.getfield 10, 3) := by decide +kernel
theorem dX7_shipOf_18 : decode cX7_shipOf 18 = .ok (.getfield 78, 3) := by decide +kernel
theorem dX7_shipOf_21 : decode cX7_shipOf 21 = .ok (.iload_n 1, 1) := by decide +kernel
theorem dX7_shipOf_22 : decode cX7_shipOf 22 = .ok (.aaload, 1) := by decide +kernel
theorem dX7_shipOf_23 : decode cX7_shipOf 23 = .ok (.astore_n 3, 1) := by decide +kernel
theorem dX7_shipOf_24 : decode cX7_shipOf 24 = .ok (.iload_n 2, 1) := by decide +kernel
theorem dX7_shipOf_25 : decode cX7_shipOf 25 = .ok (.tableswitch 132 0 9 #[55, 60, 65, 70, 82, 94, 99, 104, 109, 117], 55) := by decide +kernel
theorem dX7_shipOf_80 : decode cX7_shipOf 80 = .ok (.aload_n 3, 1) := by decide +kernel
theorem dX7_shipOf_81 : decode cX7_shipOf 81 = .ok (.getfield 82, 3) := by decide +kernel
theorem dX7_shipOf_84 : decode cX7_shipOf 84 = .ok (.ireturn, 1) := by decide +kernel
theorem dX7_shipOf_85 : decode cX7_shipOf 85 = .ok (.aload_n 3, 1) := by decide +kernel
theorem dX7_shipOf_86 : decode cX7_shipOf 86 = .ok (.getfield 88, 3) := by decide +kernel
theorem dX7_shipOf_89 : decode cX7_shipOf 89 = .ok (.ireturn, 1) := by decide +kernel
theorem dX7_shipOf_90 : decode cX7_shipOf 90 = .ok (.aload_n 3, 1) := by decide +kernel
theorem dX7_shipOf_91 : decode cX7_shipOf 91 = .ok (.getfield 91, 3) := by decide +kernel
theorem dX7_shipOf_94 : decode cX7_shipOf 94 = .ok (.ireturn, 1) := by decide +kernel
theorem dX7_shipOf_95 : decode cX7_shipOf 95 = .ok (.aload_n 0, 1) := by decide +kernel
theorem dX7_shipOf_96 : decode cX7_shipOf 96 = .ok (.getfield 10, 3) := by decide +kernel
theorem dX7_shipOf_99 : decode cX7_shipOf 99 = .ok (.iload_n 1, 1) := by decide +kernel
theorem dX7_shipOf_100 : decode cX7_shipOf 100 = .ok (.invokevirtual 94, 3) := by decide +kernel
theorem dX7_shipOf_103 : decode cX7_shipOf 103 = .ok (.getfield 98, 3) := by decide +kernel
theorem dX7_shipOf_106 : decode cX7_shipOf 106 = .ok (.ireturn, 1) := by decide +kernel
theorem dX7_shipOf_107 : decode cX7_shipOf 107 = .ok (.aload_n 0, 1) := by decide +kernel
theorem dX7_shipOf_108 : decode cX7_shipOf 108 = .ok (.getfield 10, 3) := by decide +kernel
theorem dX7_shipOf_111 : decode cX7_shipOf 111 = .ok (.iload_n 1, 1) := by decide +kernel
theorem dX7_shipOf_112 : decode cX7_shipOf 112 = .ok (.invokevirtual 94, 3) := by decide +kernel
theorem dX7_shipOf_115 : decode cX7_shipOf 115 = .ok (.getfield 103, 3) := by decide +kernel
theorem dX7_shipOf_118 : decode cX7_shipOf 118 = .ok (.ireturn, 1) := by decide +kernel
theorem dX7_shipOf_119 : decode cX7_shipOf 119 = .ok (.aload_n 3, 1) := by decide +kernel
theorem dX7_shipOf_120 : decode cX7_shipOf 120 = .ok (.getfield 106, 3) := by decide +kernel
theorem dX7_shipOf_123 : decode cX7_shipOf 123 = .ok (.ireturn, 1) := by decide +kernel
theorem dX7_shipOf_124 : decode cX7_shipOf 124 = .ok (.aload_n 3, 1) := by decide +kernel
theorem dX7_shipOf_125 : decode cX7_shipOf 125 = .ok (.getfield 109, 3) := by decide +kernel
theorem dX7_shipOf_128 : decode cX7_shipOf 128 = .ok (.ireturn, 1) := by decide +kernel
theorem dX7_shipOf_129 : decode cX7_shipOf 129 = .ok (.aload_n 3, 1) := by decide +kernel
theorem dX7_shipOf_130 : decode cX7_shipOf 130 = .ok (.getfield 112, 3) := by decide +kernel
theorem dX7_shipOf_133 : decode cX7_shipOf 133 = .ok (.ireturn, 1) := by decide +kernel
theorem dX7_shipOf_134 : decode cX7_shipOf 134 = .ok (.aload_n 3, 1) := by decide +kernel
theorem dX7_shipOf_135 : decode cX7_shipOf 135 = .ok (.getfield 115, 3) := by decide +kernel
theorem dX7_shipOf_138 : decode cX7_shipOf 138 = .ok (.ldc 118, 2) := by decide +kernel
theorem dX7_shipOf_140 : decode cX7_shipOf 140 = .ok (.iadd, 1) := by decide +kernel
theorem dX7_shipOf_141 : decode cX7_shipOf 141 = .ok (.ireturn, 1) := by decide +kernel
theorem dX7_shipOf_142 : decode cX7_shipOf 142 = .ok (.aload_n 0, 1) := by decide +kernel
theorem dX7_shipOf_143 : decode cX7_shipOf 143 = .ok (.getfield 10, 3) := by decide +kernel
theorem dX7_shipOf_146 : decode cX7_shipOf 146 = .ok (.iload_n 1, 1) := by decide +kernel
theorem dX7_shipOf_147 : decode cX7_shipOf 147 = .ok (.invokevirtual 94, 3) := by decide +kernel
theorem dX7_shipOf_150 : decode cX7_shipOf 150 = .ok (.getfield 119, 3) := by decide +kernel
theorem dX7_shipOf_153 : decode cX7_shipOf 153 = .ok (.ldc 118, 2) := by decide +kernel
theorem dX7_shipOf_155 : decode cX7_shipOf 155 = .ok (.iadd, 1) := by decide +kernel
theorem dX7_shipOf_156 : decode cX7_shipOf 156 = .ok (.ireturn, 1) := by decide +kernel
theorem dX7_shipOf_157 : decode cX7_shipOf 157 = .ok (.ldc 77, 2) := by decide +kernel
theorem dX7_shipOf_159 : decode cX7_shipOf 159 = .ok (.ireturn, 1) := by decide +kernel
theorem dX7_cargoOf_0 : decode cX7_cargoOf 0 = .ok (.aload_n 0, 1) := by decide +kernel
theorem dX7_cargoOf_1 : decode cX7_cargoOf 1 = .ok (.getfield 10, 3) := by decide +kernel
theorem dX7_cargoOf_4 : decode cX7_cargoOf 4 = .ok (.iload_n 1, 1) := by decide +kernel
theorem dX7_cargoOf_5 : decode cX7_cargoOf 5 = .ok (.invokevirtual 122, 3) := by decide +kernel
theorem dX7_cargoOf_8 : decode cX7_cargoOf 8 = .ok (.ifCond .ne 6, 3) := by decide +kernel
theorem dX7_cargoOf_11 : decode cX7_cargoOf 11 = .ok (.ldc 77, 2) := by decide +kernel
theorem dX7_cargoOf_13 : decode cX7_cargoOf 13 = .ok (.ireturn, 1) := by decide +kernel
theorem dX7_cargoOf_14 : decode cX7_cargoOf 14 = .ok (.aload_n 0, 1) := by decide +kernel
theorem dX7_cargoOf_15 : decode cX7_cargoOf 15 = .ok (.getfield 10, 3) := by decide +kernel
theorem dX7_cargoOf_18 : decode cX7_cargoOf 18 = .ok (.getfield 125, 3) := by decide +kernel
theorem dX7_cargoOf_21 : decode cX7_cargoOf 21 = .ok (.iload_n 1, 1) := by decide +kernel
theorem dX7_cargoOf_22 : decode cX7_cargoOf 22 = .ok (.aaload, 1) := by decide +kernel
theorem dX7_cargoOf_23 : decode cX7_cargoOf 23 = .ok (.astore_n 3, 1) := by decide +kernel
theorem dX7_cargoOf_24 : decode cX7_cargoOf 24 = .ok (.iload_n 2, 1) := by decide +kernel
theorem dX7_cargoOf_25 : decode cX7_cargoOf 25 = .ok (.tableswitch 100 0 7 #[47, 52, 57, 62, 67, 72, 77, 82], 47) := by decide +kernel
theorem dX7_cargoOf_72 : decode cX7_cargoOf 72 = .ok (.aload_n 3, 1) := by decide +kernel
theorem dX7_cargoOf_73 : decode cX7_cargoOf 73 = .ok (.getfield 129, 3) := by decide +kernel
theorem dX7_cargoOf_76 : decode cX7_cargoOf 76 = .ok (.ireturn, 1) := by decide +kernel
theorem dX7_cargoOf_77 : decode cX7_cargoOf 77 = .ok (.aload_n 3, 1) := by decide +kernel
theorem dX7_cargoOf_78 : decode cX7_cargoOf 78 = .ok (.getfield 134, 3) := by decide +kernel
theorem dX7_cargoOf_81 : decode cX7_cargoOf 81 = .ok (.ireturn, 1) := by decide +kernel
theorem dX7_cargoOf_82 : decode cX7_cargoOf 82 = .ok (.aload_n 3, 1) := by decide +kernel
theorem dX7_cargoOf_83 : decode cX7_cargoOf 83 = .ok (.getfield 137, 3) := by decide +kernel
theorem dX7_cargoOf_86 : decode cX7_cargoOf 86 = .ok (.ireturn, 1) := by decide +kernel
theorem dX7_cargoOf_87 : decode cX7_cargoOf 87 = .ok (.aload_n 3, 1) := by decide +kernel
theorem dX7_cargoOf_88 : decode cX7_cargoOf 88 = .ok (.getfield 140, 3) := by decide +kernel
theorem dX7_cargoOf_91 : decode cX7_cargoOf 91 = .ok (.ireturn, 1) := by decide +kernel
theorem dX7_cargoOf_92 : decode cX7_cargoOf 92 = .ok (.aload_n 3, 1) := by decide +kernel
theorem dX7_cargoOf_93 : decode cX7_cargoOf 93 = .ok (.getfield 143, 3) := by decide +kernel
theorem dX7_cargoOf_96 : decode cX7_cargoOf 96 = .ok (.ireturn, 1) := by decide +kernel
theorem dX7_cargoOf_97 : decode cX7_cargoOf 97 = .ok (.aload_n 3, 1) := by decide +kernel
theorem dX7_cargoOf_98 : decode cX7_cargoOf 98 = .ok (.getfield 146, 3) := by decide +kernel
theorem dX7_cargoOf_101 : decode cX7_cargoOf 101 = .ok (.ireturn, 1) := by decide +kernel
theorem dX7_cargoOf_102 : decode cX7_cargoOf 102 = .ok (.aload_n 3, 1) := by decide +kernel
theorem dX7_cargoOf_103 : decode cX7_cargoOf 103 = .ok (.getfield 149, 3) := by decide +kernel
theorem dX7_cargoOf_106 : decode cX7_cargoOf 106 = .ok (.ireturn, 1) := by decide +kernel
theorem dX7_cargoOf_107 : decode cX7_cargoOf 107 = .ok (.aload_n 3, 1) := by decide +kernel
theorem dX7_cargoOf_108 : decode cX7_cargoOf 108 = .ok (.getfield 149, 3) := by decide +kernel
theorem dX7_cargoOf_111 : decode cX7_cargoOf 111 = .ok (.iconst 1, 1) := by decide +kernel
theorem dX7_cargoOf_112 : decode cX7_cargoOf 112 = .ok (.if_icmp .ne 10, 3) := by decide +kernel
theorem dX7_cargoOf_115 : decode cX7_cargoOf 115 = .ok (.aload_n 3, 1) := by decide +kernel
theorem dX7_cargoOf_116 : decode cX7_cargoOf 116 = .ok (.getfield 152, 3) := by decide +kernel
theorem dX7_cargoOf_119 : decode cX7_cargoOf 119 = .ok (.goto 5, 3) := by decide +kernel
theorem dX7_cargoOf_122 : decode cX7_cargoOf 122 = .ok (.ldc 155, 2) := by decide +kernel
theorem dX7_cargoOf_124 : decode cX7_cargoOf 124 = .ok (.ireturn, 1) := by decide +kernel
theorem dX7_cargoOf_125 : decode cX7_cargoOf 125 = .ok (.ldc 77, 2) := by decide +kernel
theorem dX7_cargoOf_127 : decode cX7_cargoOf 127 = .ok (.ireturn, 1) := by decide +kernel
theorem dX7_fixtureOf_0 : decode cX7_fixtureOf 0 = .ok (.aload_n 0, 1) := by decide +kernel
theorem dX7_fixtureOf_1 : decode cX7_fixtureOf 1 = .ok (.getfield 10, 3) := by decide +kernel
theorem dX7_fixtureOf_4 : decode cX7_fixtureOf 4 = .ok (.iload_n 1, 1) := by decide +kernel
theorem dX7_fixtureOf_5 : decode cX7_fixtureOf 5 = .ok (.invokevirtual 73, 3) := by decide +kernel
theorem dX7_fixtureOf_8 : decode cX7_fixtureOf 8 = .ok (.ifCond .eq 16, 3) := by decide +kernel
theorem dX7_fixtureOf_11 : decode cX7_fixtureOf 11 = .ok (.iload_n 2, 1) := by decide +kernel
theorem dX7_fixtureOf_12 : decode cX7_fixtureOf 12 = .ok (.ifCond .lt 12, 3) := by decide +kernel
theorem dX7_fixtureOf_15 : decode cX7_fixtureOf 15 = .ok (.iload_n 3, 1) := by decide +kernel
theorem dX7_fixtureOf_16 : decode cX7_fixtureOf 16 = .ok (.iconst 0, 1) := by decide +kernel
theorem dX7_fixtureOf_17 : decode cX7_fixtureOf 17 = .ok (.iconst 5, 1) := by decide +kernel
theorem dX7_fixtureOf_18 : decode cX7_fixtureOf 18 = .ok (.invokestatic 156, 3) := by decide +kernel
theorem dX7_fixtureOf_21 : decode cX7_fixtureOf 21 = .ok (.ifCond .ne 6, 3) := by decide +kernel
theorem dX7_fixtureOf_24 : decode cX7_fixtureOf 24 = .ok (.ldc 77, 2) := by decide +kernel
theorem dX7_fixtureOf_26 : decode cX7_fixtureOf 26 = .ok (.ireturn, 1) := by decide +kernel
theorem dX7_fixtureOf_27 : decode cX7_fixtureOf 27 = .ok (.aload_n 0, 1) := by decide +kernel
theorem dX7_fixtureOf_28 : decode cX7_fixtureOf 28 = .ok (.getfield 10, 3) := by decide +kernel
theorem dX7_fixtureOf_31 : decode cX7_fixtureOf 31 = .ok (.getfield 78, 3) := by decide +kernel
theorem dX7_fixtureOf_34 : decode cX7_fixtureOf 34 = .ok (.iload_n 1, 1) := by decide +kernel
theorem dX7_fixtureOf_35 : decode cX7_fixtureOf 35 = .ok (.aaload, 1) := by decide +kernel
theorem dX7_fixtureOf_36 : decode cX7_fixtureOf 36 = .ok (.astore 4, 2) := by decide +kernel
theorem dX7_fixtureOf_38 : decode cX7_fixtureOf 38 = .ok (.iload_n 2, 1) := by decide +kernel
theorem dX7_fixtureOf_39 : decode cX7_fixtureOf 39 = .ok (.aload 4, 2) := by decide +kernel
theorem dX7_fixtureOf_41 : decode cX7_fixtureOf 41 = .ok (.getfield 112, 3) := by decide +kernel
theorem dX7_fixtureOf_44 : decode cX7_fixtureOf 44 = .ok (.if_icmp .lt 6, 3) := by decide +kernel
theorem dX7_fixtureOf_47 : decode cX7_fixtureOf 47 = .ok (.ldc 155, 2) := by decide +kernel
theorem dX7_fixtureOf_49 : decode cX7_fixtureOf 49 = .ok (.ireturn, 1) := by decide +kernel
theorem dX7_fixtureOf_50 : decode cX7_fixtureOf 50 = .ok (.aload_n 0, 1) := by decide +kernel
theorem dX7_fixtureOf_51 : decode cX7_fixtureOf 51 = .ok (.getfield 10, 3) := by decide +kernel
theorem dX7_fixtureOf_54 : decode cX7_fixtureOf 54 = .ok (.iload_n 1, 1) := by decide +kernel
theorem dX7_fixtureOf_55 : decode cX7_fixtureOf 55 = .ok (.iload_n 2, 1) := by decide +kernel
theorem dX7_fixtureOf_56 : decode cX7_fixtureOf 56 = .ok (.iconst 1, 1) := by decide +kernel
theorem dX7_fixtureOf_57 : decode cX7_fixtureOf 57 = .ok (.iadd, 1) := by decide +kernel
theorem dX7_fixtureOf_58 : decode cX7_fixtureOf 58 = .ok (.invokevirtual 160, 3) := by decide +kernel
theorem dX7_fixtureOf_61 : decode cX7_fixtureOf 61 = .ok (.astore 5, 2) := by decide +kernel
theorem dX7_fixtureOf_63 : decode cX7_fixtureOf 63 = .ok (.iload_n 3, 1) := by decide +kernel
theorem dX7_fixtureOf_64 : decode cX7_fixtureOf 64 = .ok (.tableswitch 71 0 4 #[36, 44, 50, 56, 62], 36) := by decide +kernel
theorem dX7_fixtureOf_100 : decode cX7_fixtureOf 100 = .ok (.aload 4, 2) := by decide +kernel
theorem dX7_fixtureOf_102 : decode cX7_fixtureOf 102 = .ok (.getfield 164, 3) := by decide +kernel
theorem dX7_fixtureOf_105 : decode cX7_fixtureOf 105 = .ok (.iload_n 2, 1) := by decide +kernel
theorem dX7_fixtureOf_106 : decode cX7_fixtureOf 106 = .ok (.iaload, 1) := by decide +kernel
theorem dX7_fixtureOf_107 : decode cX7_fixtureOf 107 = .ok (.ireturn, 1) := by decide +kernel
theorem dX7_fixtureOf_108 : decode cX7_fixtureOf 108 = .ok (.aload 5, 2) := by decide +kernel
theorem dX7_fixtureOf_110 : decode cX7_fixtureOf 110 = .ok (.getfield 168, 3) := by decide +kernel
theorem dX7_fixtureOf_113 : decode cX7_fixtureOf 113 = .ok (.ireturn, 1) := by decide +kernel
theorem dX7_fixtureOf_114 : decode cX7_fixtureOf 114 = .ok (.aload 5, 2) := by decide +kernel
theorem dX7_fixtureOf_116 : decode cX7_fixtureOf 116 = .ok (.getfield 171, 3) := by decide +kernel
theorem dX7_fixtureOf_119 : decode cX7_fixtureOf 119 = .ok (.ireturn, 1) := by decide +kernel
theorem dX7_fixtureOf_120 : decode cX7_fixtureOf 120 = .ok (.aload 5, 2) := by decide +kernel
theorem dX7_fixtureOf_122 : decode cX7_fixtureOf 122 = .ok (.getfield 103, 3) := by decide +kernel
theorem dX7_fixtureOf_125 : decode cX7_fixtureOf 125 = .ok (.ireturn, 1) := by decide +kernel
theorem dX7_fixtureOf_126 : decode cX7_fixtureOf 126 = .ok (.aload 5, 2) := by decide +kernel
theorem dX7_fixtureOf_128 : decode cX7_fixtureOf 128 = .ok (.getfield 174, 3) := by decide +kernel
theorem dX7_fixtureOf_131 : decode cX7_fixtureOf 131 = .ok (.ldc 118, 2) := by decide +kernel
theorem dX7_fixtureOf_133 : decode cX7_fixtureOf 133 = .ok (.iadd, 1) := by decide +kernel
theorem dX7_fixtureOf_134 : decode cX7_fixtureOf 134 = .ok (.ireturn, 1) := by decide +kernel
theorem dX7_fixtureOf_135 : decode cX7_fixtureOf 135 = .ok (.aload 5, 2) := by decide +kernel
theorem dX7_fixtureOf_137 : decode cX7_fixtureOf 137 = .ok (.getfield 177, 3) := by decide +kernel
theorem dX7_fixtureOf_140 : decode cX7_fixtureOf 140 = .ok (.ireturn, 1) := by decide +kernel
theorem dX7_distance_0 : decode cX7_distance 0 = .ok (.iload_n 1, 1) := by decide +kernel
theorem dX7_distance_1 : decode cX7_distance 1 = .ok (.invokestatic 180, 3) := by decide +kernel
theorem dX7_distance_4 : decode cX7_distance 4 = .ok (.ifCond .eq 10, 3) := by decide +kernel
theorem dX7_distance_7 : decode cX7_distance 7 = .ok (.iload_n 2, 1) := by decide +kernel
theorem dX7_distance_8 : decode cX7_distance 8 = .ok (.invokestatic 180, 3) := by decide +kernel
theorem dX7_distance_11 : decode cX7_distance 11 = .ok (.ifCond .ne 6, 3) := by decide +kernel
theorem dX7_distance_14 : decode cX7_distance 14 = .ok (.ldc 77, 2) := by decide +kernel
theorem dX7_distance_16 : decode cX7_distance 16 = .ok (.ireturn, 1) := by decide +kernel
theorem dX7_distance_17 : decode cX7_distance 17 = .ok (.aload_n 0, 1) := by decide +kernel
theorem dX7_distance_18 : decode cX7_distance 18 = .ok (.getfield 10, 3) := by decide +kernel
theorem dX7_distance_21 : decode cX7_distance 21 = .ok (.iload_n 1, 1) := by decide +kernel
theorem dX7_distance_22 : decode cX7_distance 22 = .ok (.iload_n 2, 1) := by decide +kernel
theorem dX7_distance_23 : decode cX7_distance 23 = .ok (.invokevirtual 183, 3) := by decide +kernel
theorem dX7_distance_26 : decode cX7_distance 26 = .ok (.ireturn, 1) := by decide +kernel
theorem dX7_voyage_0 : decode cX7_voyage 0 = .ok (.aload_n 0, 1) := by decide +kernel
theorem dX7_voyage_1 : decode cX7_voyage 1 = .ok (.getfield 10, 3) := by decide +kernel
theorem dX7_voyage_4 : decode cX7_voyage 4 = .ok (.iload_n 1, 1) := by decide +kernel
theorem dX7_voyage_5 : decode cX7_voyage 5 = .ok (.invokevirtual 73, 3) := by decide +kernel
theorem dX7_voyage_8 : decode cX7_voyage 8 = .ok (.ifCond .eq 14, 3) := by decide +kernel
theorem dX7_voyage_11 : decode cX7_voyage 11 = .ok (.aload_n 0, 1) := by decide +kernel
theorem dX7_voyage_12 : decode cX7_voyage 12 = .ok (.getfield 10, 3) := by decide +kernel
theorem dX7_voyage_15 : decode cX7_voyage 15 = .ok (.iload_n 2, 1) := by decide +kernel
theorem dX7_voyage_16 : decode cX7_voyage 16 = .ok (.invokevirtual 122, 3) := by decide +kernel
theorem dX7_voyage_19 : decode cX7_voyage 19 = .ok (.ifCond .ne 6, 3) := by decide +kernel
theorem dX7_voyage_22 : decode cX7_voyage 22 = .ok (.ldc 77, 2) := by decide +kernel
theorem dX7_voyage_24 : decode cX7_voyage 24 = .ok (.ireturn, 1) := by decide +kernel
theorem dX7_voyage_25 : decode cX7_voyage 25 = .ok (.aload_n 0, 1) := by decide +kernel
theorem dX7_voyage_26 : decode cX7_voyage 26 = .ok (.getfield 10, 3) := by decide +kernel
theorem dX7_voyage_29 : decode cX7_voyage 29 = .ok (.iload_n 1, 1) := by decide +kernel
theorem dX7_voyage_30 : decode cX7_voyage 30 = .ok (.iload_n 2, 1) := by decide +kernel
theorem dX7_voyage_31 : decode cX7_voyage 31 = .ok (.invokevirtual 186, 3) := by decide +kernel
theorem dX7_voyage_34 : decode cX7_voyage 34 = .ok (.istore 4, 2) := by decide +kernel
theorem dX7_voyage_36 : decode cX7_voyage 36 = .ok (.aload_n 0, 1) := by decide +kernel
theorem dX7_voyage_37 : decode cX7_voyage 37 = .ok (.getfield 10, 3) := by decide +kernel
theorem dX7_voyage_40 : decode cX7_voyage 40 = .ok (.getfield 189, 3) := by decide +kernel
theorem dX7_voyage_43 : decode cX7_voyage 43 = .ok (.astore 5, 2) := by decide +kernel
theorem dX7_voyage_45 : decode cX7_voyage 45 = .ok (.iload_n 3, 1) := by decide +kernel
theorem dX7_voyage_46 : decode cX7_voyage 46 = .ok (.tableswitch 64 0 4 #[34, 37, 43, 49, 58], 34) := by decide +kernel
theorem dX7_voyage_80 : decode cX7_voyage 80 = .ok (.iload 4, 2) := by decide +kernel
theorem dX7_voyage_82 : decode cX7_voyage 82 = .ok (.ireturn, 1) := by decide +kernel
theorem dX7_voyage_83 : decode cX7_voyage 83 = .ok (.aload 5, 2) := by decide +kernel
theorem dX7_voyage_85 : decode cX7_voyage 85 = .ok (.getfield 171, 3) := by decide +kernel
theorem dX7_voyage_88 : decode cX7_voyage 88 = .ok (.ireturn, 1) := by decide +kernel
theorem dX7_voyage_89 : decode cX7_voyage 89 = .ok (.aload 5, 2) := by decide +kernel
theorem dX7_voyage_91 : decode cX7_voyage 91 = .ok (.getfield 193, 3) := by decide +kernel
theorem dX7_voyage_94 : decode cX7_voyage 94 = .ok (.ireturn, 1) := by decide +kernel
theorem dX7_voyage_95 : decode cX7_voyage 95 = .ok (.aload 5, 2) := by decide +kernel
theorem dX7_voyage_97 : decode cX7_voyage 97 = .ok (.getfield 174, 3) := by decide +kernel
theorem dX7_voyage_100 : decode cX7_voyage 100 = .ok (.ldc 118, 2) := by decide +kernel
theorem dX7_voyage_102 : decode cX7_voyage 102 = .ok (.iadd, 1) := by decide +kernel
theorem dX7_voyage_103 : decode cX7_voyage 103 = .ok (.ireturn, 1) := by decide +kernel
theorem dX7_voyage_104 : decode cX7_voyage 104 = .ok (.aload 5, 2) := by decide +kernel
theorem dX7_voyage_106 : decode cX7_voyage 106 = .ok (.invokevirtual 196, 3) := by decide +kernel
theorem dX7_voyage_109 : decode cX7_voyage 109 = .ok (.ireturn, 1) := by decide +kernel
theorem dX7_voyage_110 : decode cX7_voyage 110 = .ok (.ldc 77, 2) := by decide +kernel
theorem dX7_voyage_112 : decode cX7_voyage 112 = .ok (.ireturn, 1) := by decide +kernel
theorem dX7_bestCargo_0 : decode cX7_bestCargo 0 = .ok (.aload_n 0, 1) := by decide +kernel
theorem dX7_bestCargo_1 : decode cX7_bestCargo 1 = .ok (.getfield 10, 3) := by decide +kernel
theorem dX7_bestCargo_4 : decode cX7_bestCargo 4 = .ok (.iload_n 1, 1) := by decide +kernel
theorem dX7_bestCargo_5 : decode cX7_bestCargo 5 = .ok (.invokevirtual 73, 3) := by decide +kernel
theorem dX7_bestCargo_8 : decode cX7_bestCargo 8 = .ok (.ifCond .ne 6, 3) := by decide +kernel
theorem dX7_bestCargo_11 : decode cX7_bestCargo 11 = .ok (.ldc 77, 2) := by decide +kernel
theorem dX7_bestCargo_13 : decode cX7_bestCargo 13 = .ok (.ireturn, 1) := by decide +kernel
theorem dX7_bestCargo_14 : decode cX7_bestCargo 14 = .ok (.aload_n 0, 1) := by decide +kernel
theorem dX7_bestCargo_15 : decode cX7_bestCargo 15 = .ok (.getfield 10, 3) := by decide +kernel
theorem dX7_bestCargo_18 : decode cX7_bestCargo 18 = .ok (.iload_n 1, 1) := by decide +kernel
theorem dX7_bestCargo_19 : decode cX7_bestCargo 19 = .ok (.iload_n 1, 1) := by decide +kernel
theorem dX7_bestCargo_20 : decode cX7_bestCargo 20 = .ok (.iconst 1, 1) := by decide +kernel
theorem dX7_bestCargo_21 : decode cX7_bestCargo 21 = .ok (.iadd, 1) := by decide +kernel
theorem dX7_bestCargo_22 : decode cX7_bestCargo 22 = .ok (.iconst 0, 1) := by decide +kernel
theorem dX7_bestCargo_23 : decode cX7_bestCargo 23 = .ok (.aload_n 0, 1) := by decide +kernel
theorem dX7_bestCargo_24 : decode cX7_bestCargo 24 = .ok (.getfield 10, 3) := by decide +kernel
theorem dX7_bestCargo_27 : decode cX7_bestCargo 27 = .ok (.getfield 200, 3) := by decide +kernel
theorem dX7_bestCargo_30 : decode cX7_bestCargo 30 = .ok (.invokevirtual 203, 3) := by decide +kernel
theorem dX7_bestCargo_33 : decode cX7_bestCargo 33 = .ok (.ifCond .eq 13, 3) := by decide +kernel
theorem dX7_bestCargo_36 : decode cX7_bestCargo 36 = .ok (.aload_n 0, 1) := by decide +kernel
theorem dX7_bestCargo_37 : decode cX7_bestCargo 37 = .ok (.getfield 10, 3) := by decide +kernel
theorem dX7_bestCargo_40 : decode cX7_bestCargo 40 = .ok (.getfield 207, 3) := by decide +kernel
theorem dX7_bestCargo_43 : decode cX7_bestCargo 43 = .ok (.goto 5, 3) := by decide +kernel
theorem dX7_bestCargo_46 : decode cX7_bestCargo 46 = .ok (.ldc 155, 2) := by decide +kernel
theorem dX7_bestCargo_48 : decode cX7_bestCargo 48 = .ok (.ireturn, 1) := by decide +kernel
theorem dX7_plan_0 : decode cX7_plan 0 = .ok (.iload_n 1, 1) := by decide +kernel
theorem dX7_plan_1 : decode cX7_plan 1 = .ok (.iconst 0, 1) := by decide +kernel
theorem dX7_plan_2 : decode cX7_plan 2 = .ok (.iconst 3, 1) := by decide +kernel
theorem dX7_plan_3 : decode cX7_plan 3 = .ok (.invokestatic 156, 3) := by decide +kernel
theorem dX7_plan_6 : decode cX7_plan 6 = .ok (.ifCond .ne 6, 3) := by decide +kernel
theorem dX7_plan_9 : decode cX7_plan 9 = .ok (.ldc 77, 2) := by decide +kernel
theorem dX7_plan_11 : decode cX7_plan 11 = .ok (.ireturn, 1) := by decide +kernel
theorem dX7_plan_12 : decode cX7_plan 12 = .ok (.aload_n 0, 1) := by decide +kernel
theorem dX7_plan_13 : decode cX7_plan 13 = .ok (.invokevirtual 40, 3) := by decide +kernel
theorem dX7_plan_16 : decode cX7_plan 16 = .ok (.pop, 1) := by decide +kernel
theorem dX7_plan_17 : decode cX7_plan 17 = .ok (.iconst 0, 1) := by decide +kernel
theorem dX7_plan_18 : decode cX7_plan 18 = .ok (.istore_n 2, 1) := by decide +kernel
theorem dX7_plan_19 : decode cX7_plan 19 = .ok (.iconst 0, 1) := by decide +kernel
theorem dX7_plan_20 : decode cX7_plan 20 = .ok (.istore_n 3, 1) := by decide +kernel
theorem dX7_plan_21 : decode cX7_plan 21 = .ok (.lconst 0, 1) := by decide +kernel
theorem dX7_plan_22 : decode cX7_plan 22 = .ok (.lstore 4, 2) := by decide +kernel
theorem dX7_plan_24 : decode cX7_plan 24 = .ok (.iload_n 2, 1) := by decide +kernel
theorem dX7_plan_25 : decode cX7_plan 25 = .ok (.bipush 10, 2) := by decide +kernel
theorem dX7_plan_27 : decode cX7_plan 27 = .ok (.if_icmp .ge 70, 3) := by decide +kernel
theorem dX7_plan_30 : decode cX7_plan 30 = .ok (.aload_n 0, 1) := by decide +kernel
theorem dX7_plan_31 : decode cX7_plan 31 = .ok (.getfield 16, 3) := by decide +kernel
theorem dX7_plan_34 : decode cX7_plan 34 = .ok (.invokevirtual 217, 3) := by decide +kernel
theorem dX7_plan_37 : decode cX7_plan 37 = .ok (.ifCond .eq 60, 3) := by decide +kernel
theorem dX7_plan_40 : decode cX7_plan 40 = .ok (.iinc 2 1, 3) := by decide +kernel
theorem dX7_plan_43 : decode cX7_plan 43 = .ok (.iload_n 3, 1) := by decide +kernel
theorem dX7_plan_44 : decode cX7_plan 44 = .ok (.aload_n 0, 1) := by decide +kernel
theorem dX7_plan_45 : decode cX7_plan 45 = .ok (.getfield 16, 3) := by decide +kernel
theorem dX7_plan_48 : decode cX7_plan 48 = .ok (.getfield 221, 3) := by decide +kernel
theorem dX7_plan_51 : decode cX7_plan 51 = .ok (.iadd, 1) := by decide +kernel
theorem dX7_plan_52 : decode cX7_plan 52 = .ok (.istore_n 3, 1) := by decide +kernel
theorem dX7_plan_53 : decode cX7_plan 53 = .ok (.lload 4, 2) := by decide +kernel
theorem dX7_plan_55 : decode cX7_plan 55 = .ok (.aload_n 0, 1) := by decide +kernel
theorem dX7_plan_56 : decode cX7_plan 56 = .ok (.getfield 16, 3) := by decide +kernel
theorem dX7_plan_59 : decode cX7_plan 59 = .ok (.aload_n 0, 1) := by decide +kernel
theorem dX7_plan_60 : decode cX7_plan 60 = .ok (.getfield 16, 3) := by decide +kernel
theorem dX7_plan_63 : decode cX7_plan 63 = .ok (.getfield 207, 3) := by decide +kernel
theorem dX7_plan_66 : decode cX7_plan 66 = .ok (.invokevirtual 224, 3) := by decide +kernel
theorem dX7_plan_69 : decode cX7_plan 69 = .ok (.lor, 1) := by decide +kernel
theorem dX7_plan_70 : decode cX7_plan 70 = .ok (.lstore 4, 2) := by decide +kernel
theorem dX7_plan_72 : decode cX7_plan 72 = .ok (.aload_n 0, 1) := by decide +kernel
theorem dX7_plan_73 : decode cX7_plan 73 = .ok (.getfield 16, 3) := by decide +kernel
theorem dX7_plan_76 : decode cX7_plan 76 = .ok (.aload_n 0, 1) := by decide +kernel
theorem dX7_plan_77 : decode cX7_plan 77 = .ok (.getfield 16, 3) := by decide +kernel
theorem dX7_plan_80 : decode cX7_plan 80 = .ok (.getfield 214, 3) := by decide +kernel
theorem dX7_plan_83 : decode cX7_plan 83 = .ok (.aload_n 0, 1) := by decide +kernel
theorem dX7_plan_84 : decode cX7_plan 84 = .ok (.getfield 16, 3) := by decide +kernel
theorem dX7_plan_87 : decode cX7_plan 87 = .ok (.getfield 207, 3) := by decide +kernel
theorem dX7_plan_90 : decode cX7_plan 90 = .ok (.invokevirtual 60, 3) := by decide +kernel
theorem dX7_plan_93 : decode cX7_plan 93 = .ok (.pop, 1) := by decide +kernel
theorem dX7_plan_94 : decode cX7_plan 94 = .ok (.goto (-70), 3) := by decide +kernel
theorem dX7_plan_97 : decode cX7_plan 97 = .ok (.iload_n 1, 1) := by decide +kernel
theorem dX7_plan_98 : decode cX7_plan 98 = .ok (.tableswitch 38 0 2 #[26, 28, 30], 26) := by decide +kernel
theorem dX7_plan_124 : decode cX7_plan 124 = .ok (.iload_n 2, 1) := by decide +kernel
theorem dX7_plan_125 : decode cX7_plan 125 = .ok (.ireturn, 1) := by decide +kernel
theorem dX7_plan_126 : decode cX7_plan 126 = .ok (.iload_n 3, 1) := by decide +kernel
theorem dX7_plan_127 : decode cX7_plan 127 = .ok (.ireturn, 1) := by decide +kernel
theorem dX7_plan_128 : decode cX7_plan 128 = .ok (.aload_n 0, 1) := by decide +kernel
theorem dX7_plan_129 : decode cX7_plan 129 = .ok (.getfield 16, 3) := by decide +kernel
theorem dX7_plan_132 : decode cX7_plan 132 = .ok (.invokevirtual 228, 3) := by decide +kernel
theorem dX7_plan_135 : decode cX7_plan 135 = .ok (.ireturn, 1) := by decide +kernel
theorem dX7_plan_136 : decode cX7_plan 136 = .ok (.lload 4, 2) := by decide +kernel
theorem dX7_plan_138 : decode cX7_plan 138 = .ok (.invokestatic 231, 3) := by decide +kernel
theorem dX7_plan_141 : decode cX7_plan 141 = .ok (.ireturn, 1) := by decide +kernel
theorem dX7_slack_0 : decode cX7_slack 0 = .ok (.aload_n 0, 1) := by decide +kernel
theorem dX7_slack_1 : decode cX7_slack 1 = .ok (.getfield 10, 3) := by decide +kernel
theorem dX7_slack_4 : decode cX7_slack 4 = .ok (.iload_n 1, 1) := by decide +kernel
theorem dX7_slack_5 : decode cX7_slack 5 = .ok (.invokevirtual 73, 3) := by decide +kernel
theorem dX7_slack_8 : decode cX7_slack 8 = .ok (.ifCond .eq 14, 3) := by decide +kernel
theorem dX7_slack_11 : decode cX7_slack 11 = .ok (.aload_n 0, 1) := by decide +kernel
theorem dX7_slack_12 : decode cX7_slack 12 = .ok (.getfield 10, 3) := by decide +kernel
theorem dX7_slack_15 : decode cX7_slack 15 = .ok (.iload_n 1, 1) := by decide +kernel
theorem dX7_slack_16 : decode cX7_slack 16 = .ok (.invokevirtual 237, 3) := by decide +kernel
theorem dX7_slack_19 : decode cX7_slack 19 = .ok (.goto 5, 3) := by decide +kernel
theorem dX7_slack_22 : decode cX7_slack 22 = .ok (.ldc 77, 2) := by decide +kernel
theorem dX7_slack_24 : decode cX7_slack 24 = .ok (.ireturn, 1) := by decide +kernel
theorem dX7_count_0 : decode cX7_count 0 = .ok (.iload_n 1, 1) := by decide +kernel
theorem dX7_count_1 : decode cX7_count 1 = .ok (.tableswitch 128 0 8 #[51, 59, 67, 76, 85, 96, 104, 112, 120], 51) := by decide +kernel
theorem dX7_count_52 : decode cX7_count 52 = .ok (.aload_n 0, 1) := by decide +kernel
theorem dX7_count_53 : decode cX7_count 53 = .ok (.getfield 10, 3) := by decide +kernel
theorem dX7_count_56 : decode cX7_count 56 = .ok (.getfield 211, 3) := by decide +kernel
theorem dX7_count_59 : decode cX7_count 59 = .ok (.ireturn, 1) := by decide +kernel
theorem dX7_count_60 : decode cX7_count 60 = .ok (.aload_n 0, 1) := by decide +kernel
theorem dX7_count_61 : decode cX7_count 61 = .ok (.getfield 10, 3) := by decide +kernel
theorem dX7_count_64 : decode cX7_count 64 = .ok (.getfield 200, 3) := by decide +kernel
theorem dX7_count_67 : decode cX7_count 67 = .ok (.ireturn, 1) := by decide +kernel
theorem dX7_count_68 : decode cX7_count 68 = .ok (.aload_n 0, 1) := by decide +kernel
theorem dX7_count_69 : decode cX7_count 69 = .ok (.getfield 10, 3) := by decide +kernel
theorem dX7_count_72 : decode cX7_count 72 = .ok (.iconst 0, 1) := by decide +kernel
theorem dX7_count_73 : decode cX7_count 73 = .ok (.invokevirtual 240, 3) := by decide +kernel
theorem dX7_count_76 : decode cX7_count 76 = .ok (.ireturn, 1) := by decide +kernel
theorem dX7_count_77 : decode cX7_count 77 = .ok (.aload_n 0, 1) := by decide +kernel
theorem dX7_count_78 : decode cX7_count 78 = .ok (.getfield 10, 3) := by decide +kernel
theorem dX7_count_81 : decode cX7_count 81 = .ok (.iconst 1, 1) := by decide +kernel
theorem dX7_count_82 : decode cX7_count 82 = .ok (.invokevirtual 240, 3) := by decide +kernel
theorem dX7_count_85 : decode cX7_count 85 = .ok (.ireturn, 1) := by decide +kernel
theorem dX7_count_86 : decode cX7_count 86 = .ok (.aload_n 0, 1) := by decide +kernel
theorem dX7_count_87 : decode cX7_count 87 = .ok (.getfield 10, 3) := by decide +kernel
theorem dX7_count_90 : decode cX7_count 90 = .ok (.invokevirtual 243, 3) := by decide +kernel
theorem dX7_count_93 : decode cX7_count 93 = .ok (.ldc 118, 2) := by decide +kernel
theorem dX7_count_95 : decode cX7_count 95 = .ok (.iadd, 1) := by decide +kernel
theorem dX7_count_96 : decode cX7_count 96 = .ok (.ireturn, 1) := by decide +kernel
theorem dX7_count_97 : decode cX7_count 97 = .ok (.aload_n 0, 1) := by decide +kernel
theorem dX7_count_98 : decode cX7_count 98 = .ok (.getfield 10, 3) := by decide +kernel
theorem dX7_count_101 : decode cX7_count 101 = .ok (.getfield 246, 3) := by decide +kernel
theorem dX7_count_104 : decode cX7_count 104 = .ok (.ireturn, 1) := by decide +kernel
theorem dX7_count_105 : decode cX7_count 105 = .ok (.aload_n 0, 1) := by decide +kernel
theorem dX7_count_106 : decode cX7_count 106 = .ok (.getfield 10, 3) := by decide +kernel
theorem dX7_count_109 : decode cX7_count 109 = .ok (.getfield 249, 3) := by decide +kernel
theorem dX7_count_112 : decode cX7_count 112 = .ok (.ireturn, 1) := by decide +kernel
theorem dX7_count_113 : decode cX7_count 113 = .ok (.aload_n 0, 1) := by decide +kernel
theorem dX7_count_114 : decode cX7_count 114 = .ok (.getfield 22, 3) := by decide +kernel
theorem dX7_count_117 : decode cX7_count 117 = .ok (.getfield 252, 3) := by decide +kernel
theorem dX7_count_120 : decode cX7_count 120 = .ok (.ireturn, 1) := by decide +kernel
theorem dX7_count_121 : decode cX7_count 121 = .ok (.aload_n 0, 1) := by decide +kernel
theorem dX7_count_122 : decode cX7_count 122 = .ok (.getfield 29, 3) := by decide +kernel
theorem dX7_count_125 : decode cX7_count 125 = .ok (.getfield 253, 3) := by decide +kernel
theorem dX7_count_128 : decode cX7_count 128 = .ok (.ireturn, 1) := by decide +kernel
theorem dX7_count_129 : decode cX7_count 129 = .ok (.ldc 77, 2) := by decide +kernel
theorem dX7_count_131 : decode cX7_count 131 = .ok (.ireturn, 1) := by decide +kernel
theorem dX7_undo_0 : decode cX7_undo 0 = .ok (.aload_n 0, 1) := by decide +kernel
theorem dX7_undo_1 : decode cX7_undo 1 = .ok (.getfield 22, 3) := by decide +kernel
theorem dX7_undo_4 : decode cX7_undo 4 = .ok (.aload_n 0, 1) := by decide +kernel
theorem dX7_undo_5 : decode cX7_undo 5 = .ok (.getfield 10, 3) := by decide +kernel
theorem dX7_undo_8 : decode cX7_undo 8 = .ok (.invokevirtual 256, 3) := by decide +kernel
theorem dX7_undo_11 : decode cX7_undo 11 = .ok (.ifCond .eq 13, 3) := by decide +kernel
theorem dX7_undo_14 : decode cX7_undo 14 = .ok (.aload_n 0, 1) := by decide +kernel
theorem dX7_undo_15 : decode cX7_undo 15 = .ok (.getfield 22, 3) := by decide +kernel
theorem dX7_undo_18 : decode cX7_undo 18 = .ok (.getfield 252, 3) := by decide +kernel
theorem dX7_undo_21 : decode cX7_undo 21 = .ok (.goto 5, 3) := by decide +kernel
theorem dX7_undo_24 : decode cX7_undo 24 = .ok (.ldc 210, 2) := by decide +kernel
theorem dX7_undo_26 : decode cX7_undo 26 = .ok (.ireturn, 1) := by decide +kernel
theorem dX7_freshTrial_0 : decode cX7_freshTrial 0 = .ok (.aload_n 0, 1) := by decide +kernel
theorem dX7_freshTrial_1 : decode cX7_freshTrial 1 = .ok (.getfield 16, 3) := by decide +kernel
theorem dX7_freshTrial_4 : decode cX7_freshTrial 4 = .ok (.aload_n 0, 1) := by decide +kernel
theorem dX7_freshTrial_5 : decode cX7_freshTrial 5 = .ok (.getfield 10, 3) := by decide +kernel
theorem dX7_freshTrial_8 : decode cX7_freshTrial 8 = .ok (.invokevirtual 280, 3) := by decide +kernel
theorem dX7_freshTrial_11 : decode cX7_freshTrial 11 = .ok (.aload_n 0, 1) := by decide +kernel
theorem dX7_freshTrial_12 : decode cX7_freshTrial 12 = .ok (.getfield 16, 3) := by decide +kernel
theorem dX7_freshTrial_15 : decode cX7_freshTrial 15 = .ok (.areturn, 1) := by decide +kernel
theorem dX7_keep_0 : decode cX7_keep 0 = .ok (.iload_n 1, 1) := by decide +kernel
theorem dX7_keep_1 : decode cX7_keep 1 = .ok (.invokestatic 284, 3) := by decide +kernel
theorem dX7_keep_4 : decode cX7_keep 4 = .ok (.ifCond .ne 25, 3) := by decide +kernel
theorem dX7_keep_7 : decode cX7_keep 7 = .ok (.aload_n 0, 1) := by decide +kernel
theorem dX7_keep_8 : decode cX7_keep 8 = .ok (.getfield 22, 3) := by decide +kernel
theorem dX7_keep_11 : decode cX7_keep 11 = .ok (.aload_n 0, 1) := by decide +kernel
theorem dX7_keep_12 : decode cX7_keep 12 = .ok (.getfield 10, 3) := by decide +kernel
theorem dX7_keep_15 : decode cX7_keep 15 = .ok (.invokevirtual 287, 3) := by decide +kernel
theorem dX7_keep_18 : decode cX7_keep 18 = .ok (.aload_n 0, 1) := by decide +kernel
theorem dX7_keep_19 : decode cX7_keep 19 = .ok (.getfield 10, 3) := by decide +kernel
theorem dX7_keep_22 : decode cX7_keep 22 = .ok (.aload_n 0, 1) := by decide +kernel
theorem dX7_keep_23 : decode cX7_keep 23 = .ok (.getfield 16, 3) := by decide +kernel
theorem dX7_keep_26 : decode cX7_keep 26 = .ok (.invokevirtual 280, 3) := by decide +kernel
theorem dX7_keep_29 : decode cX7_keep 29 = .ok (.iload_n 1, 1) := by decide +kernel
theorem dX7_keep_30 : decode cX7_keep 30 = .ok (.ireturn, 1) := by decide +kernel
theorem dX7_isIn_0 : decode cX7_isIn 0 = .ok (.iload_n 0, 1) := by decide +kernel
theorem dX7_isIn_1 : decode cX7_isIn 1 = .ok (.iload_n 1, 1) := by decide +kernel
theorem dX7_isIn_2 : decode cX7_isIn 2 = .ok (.if_icmp .lt 12, 3) := by decide +kernel
theorem dX7_isIn_5 : decode cX7_isIn 5 = .ok (.iload_n 0, 1) := by decide +kernel
theorem dX7_isIn_6 : decode cX7_isIn 6 = .ok (.iload_n 2, 1) := by decide +kernel
theorem dX7_isIn_7 : decode cX7_isIn 7 = .ok (.if_icmp .gt 7, 3) := by decide +kernel
theorem dX7_isIn_10 : decode cX7_isIn 10 = .ok (.iconst 1, 1) := by decide +kernel
theorem dX7_isIn_11 : decode cX7_isIn 11 = .ok (.goto 4, 3) := by decide +kernel
theorem dX7_isIn_14 : decode cX7_isIn 14 = .ok (.iconst 0, 1) := by decide +kernel
theorem dX7_isIn_15 : decode cX7_isIn 15 = .ok (.ireturn, 1) := by decide +kernel
theorem dX7_isPort_0 : decode cX7_isPort 0 = .ok (.iload_n 0, 1) := by decide +kernel
theorem dX7_isPort_1 : decode cX7_isPort 1 = .ok (.iconst 0, 1) := by decide +kernel
theorem dX7_isPort_2 : decode cX7_isPort 2 = .ok (.bipush 7, 2) := by decide +kernel
theorem dX7_isPort_4 : decode cX7_isPort 4 = .ok (.invokestatic 156, 3) := by decide +kernel
theorem dX7_isPort_7 : decode cX7_isPort 7 = .ok (.ireturn, 1) := by decide +kernel
theorem dX7_isError_0 : decode cX7_isError 0 = .ok (.iload_n 0, 1) := by decide +kernel
theorem dX7_isError_1 : decode cX7_isError 1 = .ok (.ldc 155, 2) := by decide +kernel
theorem dX7_isError_3 : decode cX7_isError 3 = .ok (.ldc 77, 2) := by decide +kernel
theorem dX7_isError_5 : decode cX7_isError 5 = .ok (.invokestatic 156, 3) := by decide +kernel
theorem dX7_isError_8 : decode cX7_isError 8 = .ok (.ireturn, 1) := by decide +kernel
theorem dX7_divideUp_0 : decode cX7_divideUp 0 = .ok (.iload_n 1, 1) := by decide +kernel
theorem dX7_divideUp_1 : decode cX7_divideUp 1 = .ok (.iconst 1, 1) := by decide +kernel
theorem dX7_divideUp_2 : decode cX7_divideUp 2 = .ok (.if_icmp .ge 7, 3) := by decide +kernel
theorem dX7_divideUp_5 : decode cX7_divideUp 5 = .ok (.iconst 0, 1) := by decide +kernel
theorem dX7_divideUp_6 : decode cX7_divideUp 6 = .ok (.goto 10, 3) := by decide +kernel
theorem dX7_divideUp_9 : decode cX7_divideUp 9 = .ok (.iload_n 0, 1) := by decide +kernel
theorem dX7_divideUp_10 : decode cX7_divideUp 10 = .ok (.iload_n 1, 1) := by decide +kernel
theorem dX7_divideUp_11 : decode cX7_divideUp 11 = .ok (.iadd, 1) := by decide +kernel
theorem dX7_divideUp_12 : decode cX7_divideUp 12 = .ok (.iconst 1, 1) := by decide +kernel
theorem dX7_divideUp_13 : decode cX7_divideUp 13 = .ok (.isub, 1) := by decide +kernel
theorem dX7_divideUp_14 : decode cX7_divideUp 14 = .ok (.iload_n 1, 1) := by decide +kernel
theorem dX7_divideUp_15 : decode cX7_divideUp 15 = .ok (.idiv, 1) := by decide +kernel
theorem dX7_divideUp_16 : decode cX7_divideUp 16 = .ok (.ireturn, 1) := by decide +kernel
