theorem dX12_init_0 : decode cX12_init 0 = .ok (.aload_n 0, 1) := by decide +kernel
theorem dX12_init_1 : decode cX12_init 1 = .ok (.invokespecial 1, 3) := by decide +kernel
theorem dX12_init_4 : decode cX12_init 4 = .ok (.aload_n 0, 1) := by decide +kernel
theorem dX12_init_5 : decode cX12_init 5 = .ok (.sipush 156, 3) := by decide +kernel
theorem dX12_init_8 : decode cX12_init 8 = .ok (.newarray .int, 2) := by decide +kernel
theorem dX12_init_10 : decode cX12_init 10 = .ok (.putfield 7, 3) := by decide +kernel
theorem dX12_init_13 : decode cX12_init 13 = .ok (.aload_n 0, 1) := by decide +kernel
theorem dX12_init_14 : decode cX12_init 14 = .ok (.sipush 156, 3) := by decide +kernel
theorem dX12_init_17 : decode cX12_init 17 = .ok (.newarray .int, 2) := by decide +kernel
theorem dX12_init_19 : decode cX12_init 19 = .ok (.putfield 13, 3) := by decide +kernel
theorem dX12_init_22 : decode cX12_init 22 = .ok (.aload_n 0, 1) := by decide +kernel
theorem dX12_init_23 : decode cX12_init 23 = .ok (.sipush 156, 3) := by decide +kernel
theorem dX12_init_26 : decode cX12_init 26 = .ok (.newarray .int, 2) := by decide +kernel
theorem dX12_init_28 : decode cX12_init 28 = .ok (.putfield 16, 3) := by decide +kernel
theorem dX12_init_31 : decode cX12_init 31 = .ok (.aload_n 0, 1) := by decide +kernel
theorem dX12_init_32 : decode cX12_init 32 = .ok (.sipush 1248, 3) := by decide +kernel
theorem dX12_init_35 : decode cX12_init 35 = .ok (.newarray .int, 2) := by decide +kernel
theorem dX12_init_37 : decode cX12_init 37 = .ok (.putfield 19, 3) := by decide +kernel
theorem dX12_init_40 : decode cX12_init 40 = .ok (.aload_n 0, 1) := by decide +kernel
theorem dX12_init_41 : decode cX12_init 41 = .ok (.sipush 156, 3) := by decide +kernel
theorem dX12_init_44 : decode cX12_init 44 = .ok (.newarray .int, 2) := by decide +kernel
theorem dX12_init_46 : decode cX12_init 46 = .ok (.putfield 22, 3) := by decide +kernel
theorem dX12_init_49 : decode cX12_init 49 = .ok (.aload_n 0, 1) := by decide +kernel
theorem dX12_init_50 : decode cX12_init 50 = .ok (.bipush 60, 2) := by decide +kernel
theorem dX12_init_52 : decode cX12_init 52 = .ok (.newarray .char, 2) := by decide +kernel
theorem dX12_init_54 : decode cX12_init 54 = .ok (.putfield 25, 3) := by decide +kernel
theorem dX12_init_57 : decode cX12_init 57 = .ok (.aload_n 0, 1) := by decide +kernel
theorem dX12_init_58 : decode cX12_init 58 = .ok (.iconst (-1), 1) := by decide +kernel
theorem dX12_init_59 : decode cX12_init 59 = .ok (.putfield 29, 3) := by decide +kernel
theorem dX12_init_62 : decode cX12_init 62 = .ok (.aload_n 0, 1) := by decide +kernel
theorem dX12_init_63 : decode cX12_init 63 = .ok (.iconst (-1), 1) := by decide +kernel
theorem dX12_init_64 : decode cX12_init 64 = .ok (.putfield 33, 3) := by decide +kernel
theorem dX12_init_67 : decode cX12_init 67 = .ok (.aload_n 0, 1) := by decide +kernel
theorem dX12_init_68 : decode cX12_init 68 = .ok (.bipush 60, 2) := by decide +kernel
theorem dX12_init_70 : decode cX12_init 70 = .ok (.newarray .char, 2) := by decide +kernel
theorem dX12_init_72 : decode cX12_init 72 = .ok (.putfield 36, 3) := by decide +kernel
theorem dX12_init_75 : decode cX12_init 75 = .ok (.aload_n 0, 1) := by decide +kernel
theorem dX12_init_76 : decode cX12_init 76 = .ok (.sipush 240, 3) := by decide +kernel
theorem dX12_init_79 : decode cX12_init 79 = .ok (.newarray .int, 2) := by decide +kernel
theorem dX12_init_81 : decode cX12_init 81 = .ok (.putfield 39, 3) := by decide +kernel
theorem dX12_init_84 : decode cX12_init 84 = .ok (.iconst 0, 1) := by decide +kernel
theorem dX12_init_85 : decode cX12_init 85 = .ok (.istore_n 1, 1) := by decide +kernel
theorem dX12_init_86 : decode cX12_init 86 = .ok (.iload_n 1, 1) := by decide +kernel
theorem dX12_init_87 : decode cX12_init 87 = .ok (.bipush 8, 2) := by decide +kernel
theorem dX12_init_89 : decode cX12_init 89 = .ok (.if_icmp .ge 19, 3) := by decide +kernel
theorem dX12_init_92 : decode cX12_init 92 = .ok (.aload_n 0, 1) := by decide +kernel
theorem dX12_init_93 : decode cX12_init 93 = .ok (.getfield 7, 3) := by decide +kernel
theorem dX12_init_96 : decode cX12_init 96 = .ok (.bipush 16, 2) := by decide +kernel
theorem dX12_init_98 : decode cX12_init 98 = .ok (.iload_n 1, 1) := by decide +kernel
theorem dX12_init_99 : decode cX12_init 99 = .ok (.iadd, 1) := by decide +kernel
theorem dX12_init_100 : decode cX12_init 100 = .ok (.iconst 3, 1) := by decide +kernel
theorem dX12_init_101 : decode cX12_init 101 = .ok (.iastore, 1) := by decide +kernel
theorem dX12_init_102 : decode cX12_init 102 = .ok (.iinc 1 1, 3) := by decide +kernel
theorem dX12_init_105 : decode cX12_init 105 = .ok (.goto (-19), 3) := by decide +kernel
theorem dX12_init_108 : decode cX12_init 108 = .ok (.iconst 0, 1) := by decide +kernel
theorem dX12_init_109 : decode cX12_init 109 = .ok (.istore_n 1, 1) := by decide +kernel
theorem dX12_init_110 : decode cX12_init 110 = .ok (.iload_n 1, 1) := by decide +kernel
theorem dX12_init_111 : decode cX12_init 111 = .ok (.iconst 3, 1) := by decide +kernel
theorem dX12_init_112 : decode cX12_init 112 = .ok (.if_icmp .ge 19, 3) := by decide +kernel
theorem dX12_init_115 : decode cX12_init 115 = .ok (.aload_n 0, 1) := by decide +kernel
theorem dX12_init_116 : decode cX12_init 116 = .ok (.getfield 7, 3) := by decide +kernel
theorem dX12_init_119 : decode cX12_init 119 = .ok (.bipush 7, 2) := by decide +kernel
theorem dX12_init_121 : decode cX12_init 121 = .ok (.iload_n 1, 1) := by decide +kernel
theorem dX12_init_122 : decode cX12_init 122 = .ok (.iadd, 1) := by decide +kernel
theorem dX12_init_123 : decode cX12_init 123 = .ok (.iconst 1, 1) := by decide +kernel
theorem dX12_init_124 : decode cX12_init 124 = .ok (.iastore, 1) := by decide +kernel
theorem dX12_init_125 : decode cX12_init 125 = .ok (.iinc 1 1, 3) := by decide +kernel
theorem dX12_init_128 : decode cX12_init 128 = .ok (.goto (-18), 3) := by decide +kernel
theorem dX12_init_131 : decode cX12_init 131 = .ok (.return_, 1) := by decide +kernel
theorem dX12_thrown_0 : decode cX12_thrown 0 = .ok (.aload_n 0, 1) := by decide +kernel
theorem dX12_thrown_1 : decode cX12_thrown 1 = .ok (.getfield 42, 3) := by decide +kernel
theorem dX12_thrown_4 : decode cX12_thrown 4 = .ok (.ireturn, 1) := by decide +kernel
theorem dX12_in_0 : decode cX12_in 0 = .ok (.iload_n 0, 1) := by decide +kernel
theorem dX12_in_1 : decode cX12_in 1 = .ok (.iload_n 1, 1) := by decide +kernel
theorem dX12_in_2 : decode cX12_in 2 = .ok (.if_icmp .lt 12, 3) := by decide +kernel
theorem dX12_in_5 : decode cX12_in 5 = .ok (.iload_n 0, 1) := by decide +kernel
theorem dX12_in_6 : decode cX12_in 6 = .ok (.iload_n 2, 1) := by decide +kernel
theorem dX12_in_7 : decode cX12_in 7 = .ok (.if_icmp .gt 7, 3) := by decide +kernel
theorem dX12_in_10 : decode cX12_in 10 = .ok (.iconst 1, 1) := by decide +kernel
theorem dX12_in_11 : decode cX12_in 11 = .ok (.goto 4, 3) := by decide +kernel
theorem dX12_in_14 : decode cX12_in 14 = .ok (.iconst 0, 1) := by decide +kernel
theorem dX12_in_15 : decode cX12_in 15 = .ok (.ireturn, 1) := by decide +kernel
theorem dX12_done_0 : decode cX12_done 0 = .ok (.aload_n 0, 1) := by decide +kernel
theorem dX12_done_1 : decode cX12_done 1 = .ok (.iconst 0, 1) := by decide +kernel
theorem dX12_done_2 : decode cX12_done 2 = .ok (.putfield 42, 3) := by decide +kernel
theorem dX12_done_5 : decode cX12_done 5 = .ok (.iload_n 1, 1) := by decide +kernel
theorem dX12_done_6 : decode cX12_done 6 = .ok (.ireturn, 1) := by decide +kernel
theorem dX12_fails_0 : decode cX12_fails 0 = .ok (.aload_n 0, 1) := by decide +kernel
theorem dX12_fails_1 : decode cX12_fails 1 = .ok (.iload_n 1, 1) := by decide +kernel
theorem dX12_fails_2 : decode cX12_fails 2 = .ok (.putfield 42, 3) := by decide +kernel
theorem dX12_fails_5 : decode cX12_fails 5 = .ok (.iconst 0, 1) := by decide +kernel
theorem dX12_fails_6 : decode cX12_fails 6 = .ok (.ireturn, 1) := by decide +kernel
theorem dX12_copy_0 : decode cX12_copy 0 = .ok (.iconst 0, 1) := by decide +kernel
theorem dX12_copy_1 : decode cX12_copy 1 = .ok (.istore 4, 2) := by decide +kernel
theorem dX12_copy_3 : decode cX12_copy 3 = .ok (.iload 4, 2) := by decide +kernel
theorem dX12_copy_5 : decode cX12_copy 5 = .ok (.sipush 156, 3) := by decide +kernel
theorem dX12_copy_8 : decode cX12_copy 8 = .ok (.if_icmp .ge 21, 3) := by decide +kernel
theorem dX12_copy_11 : decode cX12_copy 11 = .ok (.aload_n 2, 1) := by decide +kernel
theorem dX12_copy_12 : decode cX12_copy 12 = .ok (.iload_n 3, 1) := by decide +kernel
theorem dX12_copy_13 : decode cX12_copy 13 = .ok (.iload 4, 2) := by decide +kernel
theorem dX12_copy_15 : decode cX12_copy 15 = .ok (.iadd, 1) := by decide +kernel
theorem dX12_copy_16 : decode cX12_copy 16 = .ok (.aload_n 0, 1) := by decide +kernel
theorem dX12_copy_17 : decode cX12_copy 17 = .ok (.iload_n 1, 1) := by decide +kernel
theorem dX12_copy_18 : decode cX12_copy 18 = .ok (.iload 4, 2) := by decide +kernel
theorem dX12_copy_20 : decode cX12_copy 20 = .ok (.iadd, 1) := by decide +kernel
theorem dX12_copy_21 : decode cX12_copy 21 = .ok (.iaload, 1) := by decide +kernel
theorem dX12_copy_22 : decode cX12_copy 22 = .ok (.iastore, 1) := by decide +kernel
theorem dX12_copy_23 : decode cX12_copy 23 = .ok (.iinc 4 1, 3) := by decide +kernel
theorem dX12_copy_26 : decode cX12_copy 26 = .ok (.goto (-23), 3) := by decide +kernel
theorem dX12_copy_29 : decode cX12_copy 29 = .ok (.return_, 1) := by decide +kernel
theorem dX12_begin_0 : decode cX12_begin 0 = .ok (.aload_n 0, 1) := by decide +kernel
theorem dX12_begin_1 : decode cX12_begin 1 = .ok (.getfield 7, 3) := by decide +kernel
theorem dX12_begin_4 : decode cX12_begin 4 = .ok (.iconst 0, 1) := by decide +kernel
theorem dX12_begin_5 : decode cX12_begin 5 = .ok (.aload_n 0, 1) := by decide +kernel
theorem dX12_begin_6 : decode cX12_begin 6 = .ok (.getfield 13, 3) := by decide +kernel
theorem dX12_begin_9 : decode cX12_begin 9 = .ok (.iconst 0, 1) := by decide +kernel
theorem dX12_begin_10 : decode cX12_begin 10 = .ok (.invokestatic 45, 3) := by decide +kernel
theorem dX12_begin_13 : decode cX12_begin 13 = .ok (.return_, 1) := by decide +kernel
theorem dX12_kept_0 : decode cX12_kept 0 = .ok (.aload_n 0, 1) := by decide +kernel
theorem dX12_kept_1 : decode cX12_kept 1 = .ok (.getfield 42, 3) := by decide +kernel
theorem dX12_kept_4 : decode cX12_kept 4 = .ok (.ifCond .eq 18, 3) := by decide +kernel
theorem dX12_kept_7 : decode cX12_kept 7 = .ok (.aload_n 0, 1) := by decide +kernel
theorem dX12_kept_8 : decode cX12_kept 8 = .ok (.getfield 13, 3) := by decide +kernel
theorem dX12_kept_11 : decode cX12_kept 11 = .ok (.iconst 0, 1) := by decide +kernel
theorem dX12_kept_12 : decode cX12_kept 12 = .ok (.aload_n 0, 1) := by decide +kernel
theorem dX12_kept_13 : decode cX12_kept 13 = .ok (.getfield 7, 3) := by decide +kernel
theorem dX12_kept_16 : decode cX12_kept 16 = .ok (.iconst 0, 1) := by decide +kernel
theorem dX12_kept_17 : decode cX12_kept 17 = .ok (.invokestatic 45, 3) := by decide +kernel
theorem dX12_kept_20 : decode cX12_kept 20 = .ok (.iconst 0, 1) := by decide +kernel
theorem dX12_kept_21 : decode cX12_kept 21 = .ok (.ireturn, 1) := by decide +kernel
theorem dX12_kept_22 : decode cX12_kept 22 = .ok (.aload_n 0, 1) := by decide +kernel
theorem dX12_kept_23 : decode cX12_kept 23 = .ok (.getfield 49, 3) := by decide +kernel
theorem dX12_kept_26 : decode cX12_kept 26 = .ok (.bipush 8, 2) := by decide +kernel
theorem dX12_kept_28 : decode cX12_kept 28 = .ok (.if_icmp .ne 44, 3) := by decide +kernel
theorem dX12_kept_31 : decode cX12_kept 31 = .ok (.iconst 0, 1) := by decide +kernel
theorem dX12_kept_32 : decode cX12_kept 32 = .ok (.istore_n 2, 1) := by decide +kernel
theorem dX12_kept_33 : decode cX12_kept 33 = .ok (.iload_n 2, 1) := by decide +kernel
theorem dX12_kept_34 : decode cX12_kept 34 = .ok (.sipush 1092, 3) := by decide +kernel
theorem dX12_kept_37 : decode cX12_kept 37 = .ok (.if_icmp .ge 25, 3) := by decide +kernel
theorem dX12_kept_40 : decode cX12_kept 40 = .ok (.aload_n 0, 1) := by decide +kernel
theorem dX12_kept_41 : decode cX12_kept 41 = .ok (.getfield 19, 3) := by decide +kernel
theorem dX12_kept_44 : decode cX12_kept 44 = .ok (.iload_n 2, 1) := by decide +kernel
theorem dX12_kept_45 : decode cX12_kept 45 = .ok (.aload_n 0, 1) := by decide +kernel
theorem dX12_kept_46 : decode cX12_kept 46 = .ok (.getfield 19, 3) := by decide +kernel
theorem dX12_kept_49 : decode cX12_kept 49 = .ok (.iload_n 2, 1) := by decide +kernel
theorem dX12_kept_50 : decode cX12_kept 50 = .ok (.sipush 156, 3) := by decide +kernel
theorem dX12_kept_53 : decode cX12_kept 53 = .ok (.iadd, 1) := by decide +kernel
theorem dX12_kept_54 : decode cX12_kept 54 = .ok (.iaload, 1) := by decide +kernel
theorem dX12_kept_55 : decode cX12_kept 55 = .ok (.iastore, 1) := by decide +kernel
theorem dX12_kept_56 : decode cX12_kept 56 = .ok (.iinc 2 1, 3) := by decide +kernel
theorem dX12_kept_59 : decode cX12_kept 59 = .ok (.goto (-26), 3) := by decide +kernel
theorem dX12_kept_62 : decode cX12_kept 62 = .ok (.aload_n 0, 1) := by decide +kernel
theorem dX12_kept_63 : decode cX12_kept 63 = .ok (.dup, 1) := by decide +kernel
theorem dX12_kept_64 : decode cX12_kept 64 = .ok (.getfield 49, 3) := by decide +kernel
theorem dX12_kept_67 : decode cX12_kept 67 = .ok (.iconst 1, 1) := by decide +kernel
theorem dX12_kept_68 : decode cX12_kept 68 = .ok (.isub, 1) := by decide +kernel
theorem dX12_kept_69 : decode cX12_kept 69 = .ok (.putfield 49, 3) := by decide +kernel
theorem dX12_kept_72 : decode cX12_kept 72 = .ok (.aload_n 0, 1) := by decide +kernel
theorem dX12_kept_73 : decode cX12_kept 73 = .ok (.getfield 13, 3) := by decide +kernel
theorem dX12_kept_76 : decode cX12_kept 76 = .ok (.iconst 0, 1) := by decide +kernel
theorem dX12_kept_77 : decode cX12_kept 77 = .ok (.aload_n 0, 1) := by decide +kernel
theorem dX12_kept_78 : decode cX12_kept 78 = .ok (.getfield 19, 3) := by decide +kernel
theorem dX12_kept_81 : decode cX12_kept 81 = .ok (.aload_n 0, 1) := by decide +kernel
theorem dX12_kept_82 : decode cX12_kept 82 = .ok (.getfield 49, 3) := by decide +kernel
theorem dX12_kept_85 : decode cX12_kept 85 = .ok (.sipush 156, 3) := by decide +kernel
theorem dX12_kept_88 : decode cX12_kept 88 = .ok (.imul, 1) := by decide +kernel
theorem dX12_kept_89 : decode cX12_kept 89 = .ok (.invokestatic 45, 3) := by decide +kernel
theorem dX12_kept_92 : decode cX12_kept 92 = .ok (.aload_n 0, 1) := by decide +kernel
theorem dX12_kept_93 : decode cX12_kept 93 = .ok (.dup, 1) := by decide +kernel
theorem dX12_kept_94 : decode cX12_kept 94 = .ok (.getfield 49, 3) := by decide +kernel
theorem dX12_kept_97 : decode cX12_kept 97 = .ok (.iconst 1, 1) := by decide +kernel
theorem dX12_kept_98 : decode cX12_kept 98 = .ok (.iadd, 1) := by decide +kernel
theorem dX12_kept_99 : decode cX12_kept 99 = .ok (.putfield 49, 3) := by decide +kernel
theorem dX12_kept_102 : decode cX12_kept 102 = .ok (.iload_n 1, 1) := by decide +kernel
theorem dX12_kept_103 : decode cX12_kept 103 = .ok (.ireturn, 1) := by decide +kernel
theorem dX12_isWheel_0 : decode cX12_isWheel 0 = .ok (.iload_n 0, 1) := by decide +kernel
theorem dX12_isWheel_1 : decode cX12_isWheel 1 = .ok (.iconst 0, 1) := by decide +kernel
theorem dX12_isWheel_2 : decode cX12_isWheel 2 = .ok (.iconst 2, 1) := by decide +kernel
theorem dX12_isWheel_3 : decode cX12_isWheel 3 = .ok (.invokestatic 52, 3) := by decide +kernel
theorem dX12_isWheel_6 : decode cX12_isWheel 6 = .ok (.ireturn, 1) := by decide +kernel
theorem dX12_isBand_0 : decode cX12_isBand 0 = .ok (.iload_n 0, 1) := by decide +kernel
theorem dX12_isBand_1 : decode cX12_isBand 1 = .ok (.iconst 0, 1) := by decide +kernel
theorem dX12_isBand_2 : decode cX12_isBand 2 = .ok (.bipush 7, 2) := by decide +kernel
theorem dX12_isBand_4 : decode cX12_isBand 4 = .ok (.invokestatic 52, 3) := by decide +kernel
theorem dX12_isBand_7 : decode cX12_isBand 7 = .ok (.ireturn, 1) := by decide +kernel
theorem dX12_isGrade_0 : decode cX12_isGrade 0 = .ok (.iload_n 0, 1) := by decide +kernel
theorem dX12_isGrade_1 : decode cX12_isGrade 1 = .ok (.iconst 0, 1) := by decide +kernel
theorem dX12_isGrade_2 : decode cX12_isGrade 2 = .ok (.iconst 3, 1) := by decide +kernel
theorem dX12_isGrade_3 : decode cX12_isGrade 3 = .ok (.invokestatic 52, 3) := by decide +kernel
theorem dX12_isGrade_6 : decode cX12_isGrade 6 = .ok (.ireturn, 1) := by decide +kernel
theorem dX12_placeOf_0 : decode cX12_placeOf 0 = .ok (.iconst 0, 1) := by decide +kernel
theorem dX12_placeOf_1 : decode cX12_placeOf 1 = .ok (.istore_n 2, 1) := by decide +kernel
theorem dX12_placeOf_2 : decode cX12_placeOf 2 = .ok (.iload_n 2, 1) := by decide +kernel
theorem dX12_placeOf_3 : decode cX12_placeOf 3 = .ok (.aload_n 0, 1) := by decide +kernel
theorem dX12_placeOf_4 : decode cX12_placeOf 4 = .ok (.getfield 7, 3) := by decide +kernel
theorem dX12_placeOf_7 : decode cX12_placeOf 7 = .ok (.iconst 2, 1) := by decide +kernel
theorem dX12_placeOf_8 : decode cX12_placeOf 8 = .ok (.iaload, 1) := by decide +kernel
theorem dX12_placeOf_9 : decode cX12_placeOf 9 = .ok (.if_icmp .ge 24, 3) := by decide +kernel
theorem dX12_placeOf_12 : decode cX12_placeOf 12 = .ok (.aload_n 0, 1) := by decide +kernel
theorem dX12_placeOf_13 : decode cX12_placeOf 13 = .ok (.getfield 7, 3) := by decide +kernel
theorem dX12_placeOf_16 : decode cX12_placeOf 16 = .ok (.bipush 72, 2) := by decide +kernel
theorem dX12_placeOf_18 : decode cX12_placeOf 18 = .ok (.iload_n 2, 1) := by decide +kernel
theorem dX12_placeOf_19 : decode cX12_placeOf 19 = .ok (.iadd, 1) := by decide +kernel
theorem dX12_placeOf_20 : decode cX12_placeOf 20 = .ok (.iaload, 1) := by decide +kernel
theorem dX12_placeOf_21 : decode cX12_placeOf 21 = .ok (.iload_n 1, 1) := by decide +kernel
theorem dX12_placeOf_22 : decode cX12_placeOf 22 = .ok (.if_icmp .ne 5, 3) := by decide +kernel
theorem dX12_placeOf_25 : decode cX12_placeOf 25 = .ok (.iload_n 2, 1) := by decide +kernel
theorem dX12_placeOf_26 : decode cX12_placeOf 26 = .ok (.ireturn, 1) := by decide +kernel
theorem dX12_placeOf_27 : decode cX12_placeOf 27 = .ok (.iinc 2 1, 3) := by decide +kernel
theorem dX12_placeOf_30 : decode cX12_placeOf 30 = .ok (.goto (-28), 3) := by decide +kernel
theorem dX12_placeOf_33 : decode cX12_placeOf 33 = .ok (.iconst (-1), 1) := by decide +kernel
theorem dX12_placeOf_34 : decode cX12_placeOf 34 = .ok (.ireturn, 1) := by decide +kernel
theorem dX12_holder_0 : decode cX12_holder 0 = .ok (.iconst 0, 1) := by decide +kernel
theorem dX12_holder_1 : decode cX12_holder 1 = .ok (.istore_n 2, 1) := by decide +kernel
theorem dX12_holder_2 : decode cX12_holder 2 = .ok (.iload_n 2, 1) := by decide +kernel
theorem dX12_holder_3 : decode cX12_holder 3 = .ok (.iconst 3, 1) := by decide +kernel
theorem dX12_holder_4 : decode cX12_holder 4 = .ok (.if_icmp .ge 26, 3) := by decide +kernel
theorem dX12_holder_7 : decode cX12_holder 7 = .ok (.aload_n 0, 1) := by decide +kernel
theorem dX12_holder_8 : decode cX12_holder 8 = .ok (.getfield 7, 3) := by decide +kernel
theorem dX12_holder_11 : decode cX12_holder 11 = .ok (.bipush 13, 2) := by decide +kernel
theorem dX12_holder_13 : decode cX12_holder 13 = .ok (.iload_n 2, 1) := by decide +kernel
theorem dX12_holder_14 : decode cX12_holder 14 = .ok (.iadd, 1) := by decide +kernel
theorem dX12_holder_15 : decode cX12_holder 15 = .ok (.iaload, 1) := by decide +kernel
theorem dX12_holder_16 : decode cX12_holder 16 = .ok (.iload_n 1, 1) := by decide +kernel
theorem dX12_holder_17 : decode cX12_holder 17 = .ok (.iconst 1, 1) := by decide +kernel
theorem dX12_holder_18 : decode cX12_holder 18 = .ok (.iadd, 1) := by decide +kernel
theorem dX12_holder_19 : decode cX12_holder 19 = .ok (.if_icmp .ne 5, 3) := by decide +kernel
theorem dX12_holder_22 : decode cX12_holder 22 = .ok (.iload_n 2, 1) := by decide +kernel
theorem dX12_holder_23 : decode cX12_holder 23 = .ok (.ireturn, 1) := by decide +kernel
theorem dX12_holder_24 : decode cX12_holder 24 = .ok (.iinc 2 1, 3) := by decide +kernel
theorem dX12_holder_27 : decode cX12_holder 27 = .ok (.goto (-25), 3) := by decide +kernel
theorem dX12_holder_30 : decode cX12_holder 30 = .ok (.iconst (-1), 1) := by decide +kernel
theorem dX12_holder_31 : decode cX12_holder 31 = .ok (.ireturn, 1) := by decide +kernel
theorem dX12_waits_0 : decode cX12_waits 0 = .ok (.aload_n 0, 1) := by decide +kernel
theorem dX12_waits_1 : decode cX12_waits 1 = .ok (.aload_n 0, 1) := by decide +kernel
theorem dX12_waits_2 : decode cX12_waits 2 = .ok (.getfield 7, 3) := by decide +kernel
theorem dX12_waits_5 : decode cX12_waits 5 = .ok (.bipush 72, 2) := by decide +kernel
theorem dX12_waits_7 : decode cX12_waits 7 = .ok (.iload_n 1, 1) := by decide +kernel
theorem dX12_waits_8 : decode cX12_waits 8 = .ok (.iadd, 1) := by decide +kernel
theorem dX12_waits_9 : decode cX12_waits 9 = .ok (.iaload, 1) := by decide +kernel
theorem dX12_waits_10 : decode cX12_waits 10 = .ok (.invokevirtual 56, 3) := by decide +kernel
theorem dX12_waits_13 : decode cX12_waits 13 = .ok (.iconst (-1), 1) := by decide +kernel
theorem dX12_waits_14 : decode cX12_waits 14 = .ok (.if_icmp .ne 7, 3) := by decide +kernel
theorem dX12_waits_17 : decode cX12_waits 17 = .ok (.iconst 1, 1) := by decide +kernel
theorem dX12_waits_18 : decode cX12_waits 18 = .ok (.goto 4, 3) := by decide +kernel
theorem dX12_waits_21 : decode cX12_waits 21 = .ok (.iconst 0, 1) := by decide +kernel
theorem dX12_waits_22 : decode cX12_waits 22 = .ok (.ireturn, 1) := by decide +kernel
theorem dX12_waiting_0 : decode cX12_waiting 0 = .ok (.iconst 0, 1) := by decide +kernel
theorem dX12_waiting_1 : decode cX12_waiting 1 = .ok (.istore_n 1, 1) := by decide +kernel
theorem dX12_waiting_2 : decode cX12_waiting 2 = .ok (.iconst 0, 1) := by decide +kernel
theorem dX12_waiting_3 : decode cX12_waiting 3 = .ok (.istore_n 2, 1) := by decide +kernel
theorem dX12_waiting_4 : decode cX12_waiting 4 = .ok (.iload_n 2, 1) := by decide +kernel
theorem dX12_waiting_5 : decode cX12_waiting 5 = .ok (.aload_n 0, 1) := by decide +kernel
theorem dX12_waiting_6 : decode cX12_waiting 6 = .ok (.getfield 7, 3) := by decide +kernel
theorem dX12_waiting_9 : decode cX12_waiting 9 = .ok (.iconst 2, 1) := by decide +kernel
theorem dX12_waiting_10 : decode cX12_waiting 10 = .ok (.iaload, 1) := by decide +kernel
theorem dX12_waiting_11 : decode cX12_waiting 11 = .ok (.if_icmp .ge 25, 3) := by decide +kernel
theorem dX12_waiting_14 : decode cX12_waiting 14 = .ok (.iload_n 1, 1) := by decide +kernel
theorem dX12_waiting_15 : decode cX12_waiting 15 = .ok (.aload_n 0, 1) := by decide +kernel
theorem dX12_waiting_16 : decode cX12_waiting 16 = .ok (.iload_n 2, 1) := by decide +kernel
theorem dX12_waiting_17 : decode cX12_waiting 17 = .ok (.invokevirtual 60, 3) := by decide +kernel
theorem dX12_waiting_20 : decode cX12_waiting 20 = .ok (.ifCond .eq 7, 3) := by decide +kernel
theorem dX12_waiting_23 : decode cX12_waiting 23 = .ok (.iconst 1, 1) := by decide +kernel
theorem dX12_waiting_24 : decode cX12_waiting 24 = .ok (.goto 4, 3) := by decide +kernel
theorem dX12_waiting_27 : decode cX12_waiting 27 = .ok (.iconst 0, 1) := by decide +kernel
theorem dX12_waiting_28 : decode cX12_waiting 28 = .ok (.iadd, 1) := by decide +kernel
theorem dX12_waiting_29 : decode cX12_waiting 29 = .ok (.istore_n 1, 1) := by decide +kernel
theorem dX12_waiting_30 : decode cX12_waiting 30 = .ok (.iinc 2 1, 3) := by decide +kernel
theorem dX12_waiting_33 : decode cX12_waiting 33 = .ok (.goto (-29), 3) := by decide +kernel
theorem dX12_waiting_36 : decode cX12_waiting 36 = .ok (.iload_n 1, 1) := by decide +kernel
theorem dX12_waiting_37 : decode cX12_waiting 37 = .ok (.ireturn, 1) := by decide +kernel
theorem dX12_isBefore_0 : decode cX12_isBefore 0 = .ok (.aload_n 0, 1) := by decide +kernel
theorem dX12_isBefore_1 : decode cX12_isBefore 1 = .ok (.getfield 7, 3) := by decide +kernel
theorem dX12_isBefore_4 : decode cX12_isBefore 4 = .ok (.bipush 102, 2) := by decide +kernel
theorem dX12_isBefore_6 : decode cX12_isBefore 6 = .ok (.iload_n 1, 1) := by decide +kernel
theorem dX12_isBefore_7 : decode cX12_isBefore 7 = .ok (.iadd, 1) := by decide +kernel
theorem dX12_isBefore_8 : decode cX12_isBefore 8 = .ok (.iaload, 1) := by decide +kernel
theorem dX12_isBefore_9 : decode cX12_isBefore 9 = .ok (.aload_n 0, 1) := by decide +kernel
theorem dX12_isBefore_10 : decode cX12_isBefore 10 = .ok (.getfield 7, 3) := by decide +kernel
theorem dX12_isBefore_13 : decode cX12_isBefore 13 = .ok (.bipush 102, 2) := by decide +kernel
theorem dX12_isBefore_15 : decode cX12_isBefore 15 = .ok (.iload_n 2, 1) := by decide +kernel
theorem dX12_isBefore_16 : decode cX12_isBefore 16 = .ok (.iadd, 1) := by decide +kernel
theorem dX12_isBefore_17 : decode cX12_isBefore 17 = .ok (.iaload, 1) := by decide +kernel
theorem dX12_isBefore_18 : decode cX12_isBefore 18 = .ok (.isub, 1) := by decide +kernel
theorem dX12_isBefore_19 : decode cX12_isBefore 19 = .ok (.istore_n 3, 1) := by decide +kernel
theorem dX12_isBefore_20 : decode cX12_isBefore 20 = .ok (.iload_n 3, 1) := by decide +kernel
theorem dX12_isBefore_21 : decode cX12_isBefore 21 = .ok (.ifCond .gt 28, 3) := by decide +kernel
theorem dX12_isBefore_24 : decode cX12_isBefore 24 = .ok (.iload_n 3, 1) := by decide +kernel
theorem dX12_isBefore_25 : decode cX12_isBefore 25 = .ok (.ifCond .ne 28, 3) := by decide +kernel
theorem dX12_isBefore_28 : decode cX12_isBefore 28 = .ok (.aload_n 0, 1) := by decide +kernel
theorem dX12_isBefore_29 : decode cX12_isBefore 29 = .ok (.getfield 7, 3) := by decide +kernel
theorem dX12_isBefore_32 : decode cX12_isBefore 32 = .ok (.bipush 72, 2) := by decide +kernel
theorem dX12_isBefore_34 : decode cX12_isBefore 34 = .ok (.iload_n 1, 1) := by decide +kernel
theorem dX12_isBefore_35 : decode cX12_isBefore 35 = .ok (.iadd, 1) := by decide +kernel
theorem dX12_isBefore_36 : decode cX12_isBefore 36 = .ok (.iaload, 1) := by decide +kernel
theorem dX12_isBefore_37 : decode cX12_isBefore 37 = .ok (.aload_n 0, 1) := by decide +kernel
theorem dX12_isBefore_38 : decode cX12_isBefore 38 = .ok (.getfield 7, 3) := by decide +kernel
theorem dX12_isBefore_41 : decode cX12_isBefore 41 = .ok (.bipush 72, 2) := by decide +kernel
theorem dX12_isBefore_43 : decode cX12_isBefore 43 = .ok (.iload_n 2, 1) := by decide +kernel
theorem dX12_isBefore_44 : decode cX12_isBefore 44 = .ok (.iadd, 1) := by decide +kernel
theorem dX12_isBefore_45 : decode cX12_isBefore 45 = .ok (.iaload, 1) := by decide +kernel
theorem dX12_isBefore_46 : decode cX12_isBefore 46 = .ok (.if_icmp .ge 7, 3) := by decide +kernel
theorem dX12_isBefore_49 : decode cX12_isBefore 49 = .ok (.iconst 1, 1) := by decide +kernel
theorem dX12_isBefore_50 : decode cX12_isBefore 50 = .ok (.goto 4, 3) := by decide +kernel
theorem dX12_isBefore_53 : decode cX12_isBefore 53 = .ok (.iconst 0, 1) := by decide +kernel
theorem dX12_isBefore_54 : decode cX12_isBefore 54 = .ok (.ireturn, 1) := by decide +kernel
theorem dX12_rank_0 : decode cX12_rank 0 = .ok (.iconst 0, 1) := by decide +kernel
theorem dX12_rank_1 : decode cX12_rank 1 = .ok (.istore_n 2, 1) := by decide +kernel
theorem dX12_rank_2 : decode cX12_rank 2 = .ok (.iconst 0, 1) := by decide +kernel
theorem dX12_rank_3 : decode cX12_rank 3 = .ok (.istore_n 3, 1) := by decide +kernel
theorem dX12_rank_4 : decode cX12_rank 4 = .ok (.iload_n 3, 1) := by decide +kernel
theorem dX12_rank_5 : decode cX12_rank 5 = .ok (.aload_n 0, 1) := by decide +kernel
theorem dX12_rank_6 : decode cX12_rank 6 = .ok (.getfield 7, 3) := by decide +kernel
theorem dX12_rank_9 : decode cX12_rank 9 = .ok (.iconst 2, 1) := by decide +kernel
theorem dX12_rank_10 : decode cX12_rank 10 = .ok (.iaload, 1) := by decide +kernel
theorem dX12_rank_11 : decode cX12_rank 11 = .ok (.if_icmp .ge 34, 3) := by decide +kernel
theorem dX12_rank_14 : decode cX12_rank 14 = .ok (.iload_n 2, 1) := by decide +kernel
theorem dX12_rank_15 : decode cX12_rank 15 = .ok (.aload_n 0, 1) := by decide +kernel
theorem dX12_rank_16 : decode cX12_rank 16 = .ok (.iload_n 3, 1) := by decide +kernel
theorem dX12_rank_17 : decode cX12_rank 17 = .ok (.invokevirtual 60, 3) := by decide +kernel
theorem dX12_rank_20 : decode cX12_rank 20 = .ok (.ifCond .eq 16, 3) := by decide +kernel
theorem dX12_rank_23 : decode cX12_rank 23 = .ok (.aload_n 0, 1) := by decide +kernel
theorem dX12_rank_24 : decode cX12_rank 24 = .ok (.iload_n 3, 1) := by decide +kernel
theorem dX12_rank_25 : decode cX12_rank 25 = .ok (.iload_n 1, 1) := by decide +kernel
theorem dX12_rank_26 : decode cX12_rank 26 = .ok (.invokevirtual 64, 3) := by decide +kernel
theorem dX12_rank_29 : decode cX12_rank 29 = .ok (.ifCond .eq 7, 3) := by decide +kernel
theorem dX12_rank_32 : decode cX12_rank 32 = .ok (.iconst 1, 1) := by decide +kernel
theorem dX12_rank_33 : decode cX12_rank 33 = .ok (.goto 4, 3) := by decide +kernel
theorem dX12_rank_36 : decode cX12_rank 36 = .ok (.iconst 0, 1) := by decide +kernel
theorem dX12_rank_37 : decode cX12_rank 37 = .ok (.iadd, 1) := by decide +kernel
theorem dX12_rank_38 : decode cX12_rank 38 = .ok (.istore_n 2, 1) := by decide +kernel
theorem dX12_rank_39 : decode cX12_rank 39 = .ok (.iinc 3 1, 3) := by decide +kernel
theorem dX12_rank_42 : decode cX12_rank 42 = .ok (.goto (-38), 3) := by decide +kernel
theorem dX12_rank_45 : decode cX12_rank 45 = .ok (.iload_n 2, 1) := by decide +kernel
theorem dX12_rank_46 : decode cX12_rank 46 = .ok (.ireturn, 1) := by decide +kernel
theorem dX12_ranked_0 : decode cX12_ranked 0 = .ok (.iconst 0, 1) := by decide +kernel
theorem dX12_ranked_1 : decode cX12_ranked 1 = .ok (.istore_n 2, 1) := by decide +kernel
theorem dX12_ranked_2 : decode cX12_ranked 2 = .ok (.iload_n 2, 1) := by decide +kernel
theorem dX12_ranked_3 : decode cX12_ranked 3 = .ok (.aload_n 0, 1) := by decide +kernel
theorem dX12_ranked_4 : decode cX12_ranked 4 = .ok (.getfield 7, 3) := by decide +kernel
theorem dX12_ranked_7 : decode cX12_ranked 7 = .ok (.iconst 2, 1) := by decide +kernel
theorem dX12_ranked_8 : decode cX12_ranked 8 = .ok (.iaload, 1) := by decide +kernel
theorem dX12_ranked_9 : decode cX12_ranked 9 = .ok (.if_icmp .ge 28, 3) := by decide +kernel
theorem dX12_ranked_12 : decode cX12_ranked 12 = .ok (.aload_n 0, 1) := by decide +kernel
theorem dX12_ranked_13 : decode cX12_ranked 13 = .ok (.iload_n 2, 1) := by decide +kernel
theorem dX12_ranked_14 : decode cX12_ranked 14 = .ok (.invokevirtual 60, 3) := by decide +kernel
theorem dX12_ranked_17 : decode cX12_ranked 17 = .ok (.ifCond .eq 14, 3) := by decide +kernel
theorem dX12_ranked_20 : decode cX12_ranked 20 = .ok (.aload_n 0, 1) := by decide +kernel
theorem dX12_ranked_21 : decode cX12_ranked 21 = .ok (.iload_n 2, 1) := by decide +kernel
theorem dX12_ranked_22 : decode cX12_ranked 22 = .ok (.invokevirtual 68, 3) := by decide +kernel
theorem dX12_ranked_25 : decode cX12_ranked 25 = .ok (.iload_n 1, 1) := by decide +kernel
theorem dX12_ranked_26 : decode cX12_ranked 26 = .ok (.if_icmp .ne 5, 3) := by decide +kernel
theorem dX12_ranked_29 : decode cX12_ranked 29 = .ok (.iload_n 2, 1) := by decide +kernel
theorem dX12_ranked_30 : decode cX12_ranked 30 = .ok (.ireturn, 1) := by decide +kernel
theorem dX12_ranked_31 : decode cX12_ranked 31 = .ok (.iinc 2 1, 3) := by decide +kernel
theorem dX12_ranked_34 : decode cX12_ranked 34 = .ok (.goto (-32), 3) := by decide +kernel
theorem dX12_ranked_37 : decode cX12_ranked 37 = .ok (.iconst (-1), 1) := by decide +kernel
theorem dX12_ranked_38 : decode cX12_ranked 38 = .ok (.ireturn, 1) := by decide +kernel
theorem dX12_adds_0 : decode cX12_adds 0 = .ok (.iload_n 1, 1) := by decide +kernel
theorem dX12_adds_1 : decode cX12_adds 1 = .ok (.invokestatic 71, 3) := by decide +kernel
theorem dX12_adds_4 : decode cX12_adds 4 = .ok (.ifCond .eq 23, 3) := by decide +kernel
theorem dX12_adds_7 : decode cX12_adds 7 = .ok (.iload_n 2, 1) := by decide +kernel
theorem dX12_adds_8 : decode cX12_adds 8 = .ok (.iconst 1, 1) := by decide +kernel
theorem dX12_adds_9 : decode cX12_adds 9 = .ok (.bipush 9, 2) := by decide +kernel
theorem dX12_adds_11 : decode cX12_adds 11 = .ok (.invokestatic 52, 3) := by decide +kernel
theorem dX12_adds_14 : decode cX12_adds 14 = .ok (.ifCond .eq 13, 3) := by decide +kernel
theorem dX12_adds_17 : decode cX12_adds 17 = .ok (.iload_n 3, 1) := by decide +kernel
theorem dX12_adds_18 : decode cX12_adds 18 = .ok (.iconst 1, 1) := by decide +kernel
theorem dX12_adds_19 : decode cX12_adds 19 = .ok (.bipush 60, 2) := by decide +kernel
theorem dX12_adds_21 : decode cX12_adds 21 = .ok (.invokestatic 52, 3) := by decide +kernel
theorem dX12_adds_24 : decode cX12_adds 24 = .ok (.ifCond .ne 9, 3) := by decide +kernel
theorem dX12_adds_27 : decode cX12_adds 27 = .ok (.aload_n 0, 1) := by decide +kernel
theorem dX12_adds_28 : decode cX12_adds 28 = .ok (.iconst 1, 1) := by decide +kernel
theorem dX12_adds_29 : decode cX12_adds 29 = .ok (.invokevirtual 74, 3) := by decide +kernel
theorem dX12_adds_32 : decode cX12_adds 32 = .ok (.ireturn, 1) := by decide +kernel
theorem dX12_adds_33 : decode cX12_adds 33 = .ok (.aload_n 0, 1) := by decide +kernel
theorem dX12_adds_34 : decode cX12_adds 34 = .ok (.invokevirtual 77, 3) := by decide +kernel
theorem dX12_adds_37 : decode cX12_adds 37 = .ok (.bipush 12, 2) := by decide +kernel
theorem dX12_adds_39 : decode cX12_adds 39 = .ok (.if_icmp .ne 9, 3) := by decide +kernel
theorem dX12_adds_42 : decode cX12_adds 42 = .ok (.aload_n 0, 1) := by decide +kernel
theorem dX12_adds_43 : decode cX12_adds 43 = .ok (.iconst 2, 1) := by decide +kernel
theorem dX12_adds_44 : decode cX12_adds 44 = .ok (.invokevirtual 74, 3) := by decide +kernel
theorem dX12_adds_47 : decode cX12_adds 47 = .ok (.ireturn, 1) := by decide +kernel
theorem dX12_adds_48 : decode cX12_adds 48 = .ok (.aload_n 0, 1) := by decide +kernel
theorem dX12_adds_49 : decode cX12_adds 49 = .ok (.getfield 7, 3) := by decide +kernel
theorem dX12_adds_52 : decode cX12_adds 52 = .ok (.iconst 2, 1) := by decide +kernel
theorem dX12_adds_53 : decode cX12_adds 53 = .ok (.iaload, 1) := by decide +kernel
theorem dX12_adds_54 : decode cX12_adds 54 = .ok (.istore 4, 2) := by decide +kernel
theorem dX12_adds_56 : decode cX12_adds 56 = .ok (.aload_n 0, 1) := by decide +kernel
theorem dX12_adds_57 : decode cX12_adds 57 = .ok (.getfield 7, 3) := by decide +kernel
theorem dX12_adds_60 : decode cX12_adds 60 = .ok (.bipush 72, 2) := by decide +kernel
theorem dX12_adds_62 : decode cX12_adds 62 = .ok (.iload 4, 2) := by decide +kernel
theorem dX12_adds_64 : decode cX12_adds 64 = .ok (.iadd, 1) := by decide +kernel
theorem dX12_adds_65 : decode cX12_adds 65 = .ok (.aload_n 0, 1) := by decide +kernel
theorem dX12_adds_66 : decode cX12_adds 66 = .ok (.getfield 7, 3) := by decide +kernel
theorem dX12_adds_69 : decode cX12_adds 69 = .ok (.iconst 1, 1) := by decide +kernel
theorem dX12_adds_70 : decode cX12_adds 70 = .ok (.iaload, 1) := by decide +kernel
theorem dX12_adds_71 : decode cX12_adds 71 = .ok (.iastore, 1) := by decide +kernel
theorem dX12_adds_72 : decode cX12_adds 72 = .ok (.aload_n 0, 1) := by decide +kernel
theorem dX12_adds_73 : decode cX12_adds 73 = .ok (.getfield 7, 3) := by decide +kernel
theorem dX12_adds_76 : decode cX12_adds 76 = .ok (.bipush 87, 2) := by decide +kernel
theorem dX12_adds_78 : decode cX12_adds 78 = .ok (.iload 4, 2) := by decide +kernel
theorem dX12_adds_80 : decode cX12_adds 80 = .ok (.iadd, 1) := by decide +kernel
theorem dX12_adds_81 : decode cX12_adds 81 = .ok (.iload_n 1, 1) := by decide +kernel
theorem dX12_adds_82 : decode cX12_adds 82 = .ok (.iastore, 1) := by decide +kernel
theorem dX12_adds_83 : decode cX12_adds 83 = .ok (.aload_n 0, 1) := by decide +kernel
theorem dX12_adds_84 : decode cX12_adds 84 = .ok (.getfield 7, 3) := by decide +kernel
theorem dX12_adds_87 : decode cX12_adds 87 = .ok (.bipush 102, 2) := by decide +kernel
theorem dX12_adds_89 : decode cX12_adds 89 = .ok (.iload 4, 2) := by decide +kernel
theorem dX12_adds_91 : decode cX12_adds 91 = .ok (.iadd, 1) := by decide +kernel
theorem dX12_adds_92 : decode cX12_adds 92 = .ok (.iload_n 2, 1) := by decide +kernel
theorem dX12_adds_93 : decode cX12_adds 93 = .ok (.iastore, 1) := by decide +kernel
theorem dX12_adds_94 : decode cX12_adds 94 = .ok (.aload_n 0, 1) := by decide +kernel
theorem dX12_adds_95 : decode cX12_adds 95 = .ok (.getfield 7, 3) := by decide +kernel
theorem dX12_adds_98 : decode cX12_adds 98 = .ok (.bipush 117, 2) := by decide +kernel
theorem dX12_adds_100 : decode cX12_adds 100 = .ok (.iload 4, 2) := by decide +kernel
theorem dX12_adds_102 : decode cX12_adds 102 = .ok (.iadd, 1) := by decide +kernel
theorem dX12_adds_103 : decode cX12_adds 103 = .ok (.iload_n 3, 1) := by decide +kernel
theorem dX12_adds_104 : decode cX12_adds 104 = .ok (.iastore, 1) := by decide +kernel
theorem dX12_adds_105 : decode cX12_adds 105 = .ok (.aload_n 0, 1) := by decide +kernel
theorem dX12_adds_106 : decode cX12_adds 106 = .ok (.getfield 7, 3) := by decide +kernel
theorem dX12_adds_109 : decode cX12_adds 109 = .ok (.iconst 2, 1) := by decide +kernel
theorem dX12_adds_110 : decode cX12_adds 110 = .ok (.dup2, 1) := by decide +kernel
theorem dX12_adds_111 : decode cX12_adds 111 = .ok (.iaload, 1) := by decide +kernel
theorem dX12_adds_112 : decode cX12_adds 112 = .ok (.iconst 1, 1) := by decide +kernel
theorem dX12_adds_113 : decode cX12_adds 113 = .ok (.iadd, 1) := by decide +kernel
theorem dX12_adds_114 : decode cX12_adds 114 = .ok (.iastore, 1) := by decide +kernel
theorem dX12_adds_115 : decode cX12_adds 115 = .ok (.aload_n 0, 1) := by decide +kernel
theorem dX12_adds_116 : decode cX12_adds 116 = .ok (.getfield 7, 3) := by decide +kernel
theorem dX12_adds_119 : decode cX12_adds 119 = .ok (.iconst 1, 1) := by decide +kernel
theorem dX12_adds_120 : decode cX12_adds 120 = .ok (.dup2, 1) := by decide +kernel
theorem dX12_adds_121 : decode cX12_adds 121 = .ok (.iaload, 1) := by decide +kernel
theorem dX12_adds_122 : decode cX12_adds 122 = .ok (.iconst 1, 1) := by decide +kernel
theorem dX12_adds_123 : decode cX12_adds 123 = .ok (.iadd, 1) := by decide +kernel
theorem dX12_adds_124 : decode cX12_adds 124 = .ok (.iastore, 1) := by decide +kernel
theorem dX12_adds_125 : decode cX12_adds 125 = .ok (.aload_n 0, 1) := by decide +kernel
theorem dX12_adds_126 : decode cX12_adds 126 = .ok (.aload_n 0, 1) := by decide +kernel
theorem dX12_adds_127 : decode cX12_adds 127 = .ok (.getfield 7, 3) := by decide +kernel
theorem dX12_adds_130 : decode cX12_adds 130 = .ok (.bipush 72, 2) := by decide +kernel
theorem dX12_adds_132 : decode cX12_adds 132 = .ok (.iload 4, 2) := by decide +kernel
theorem dX12_adds_134 : decode cX12_adds 134 = .ok (.iadd, 1) := by decide +kernel
theorem dX12_adds_135 : decode cX12_adds 135 = .ok (.iaload, 1) := by decide +kernel
theorem dX12_adds_136 : decode cX12_adds 136 = .ok (.invokevirtual 81, 3) := by decide +kernel
theorem dX12_adds_139 : decode cX12_adds 139 = .ok (.ireturn, 1) := by decide +kernel
theorem dX12_addNoise_0 : decode cX12_addNoise 0 = .ok (.aload_n 0, 1) := by decide +kernel
theorem dX12_addNoise_1 : decode cX12_addNoise 1 = .ok (.invokevirtual 84, 3) := by decide +kernel
theorem dX12_addNoise_4 : decode cX12_addNoise 4 = .ok (.aload_n 0, 1) := by decide +kernel
theorem dX12_addNoise_5 : decode cX12_addNoise 5 = .ok (.aload_n 0, 1) := by decide +kernel
theorem dX12_addNoise_6 : decode cX12_addNoise 6 = .ok (.iload_n 1, 1) := by decide +kernel
theorem dX12_addNoise_7 : decode cX12_addNoise 7 = .ok (.iload_n 2, 1) := by decide +kernel
theorem dX12_addNoise_8 : decode cX12_addNoise 8 = .ok (.iload_n 3, 1) := by decide +kernel
theorem dX12_addNoise_9 : decode cX12_addNoise 9 = .ok (.invokevirtual 87, 3) := by decide +kernel
theorem dX12_addNoise_12 : decode cX12_addNoise 12 = .ok (.invokevirtual 91, 3) := by decide +kernel
theorem dX12_addNoise_15 : decode cX12_addNoise 15 = .ok (.ireturn, 1) := by decide +kernel
theorem dX12_drops_0 : decode cX12_drops 0 = .ok (.bipush 72, 2) := by decide +kernel
theorem dX12_drops_2 : decode cX12_drops 2 = .ok (.istore_n 2, 1) := by decide +kernel
theorem dX12_drops_3 : decode cX12_drops 3 = .ok (.iload_n 2, 1) := by decide +kernel
theorem dX12_drops_4 : decode cX12_drops 4 = .ok (.sipush 132, 3) := by decide +kernel
theorem dX12_drops_7 : decode cX12_drops 7 = .ok (.if_icmp .ge 51, 3) := by decide +kernel
theorem dX12_drops_10 : decode cX12_drops 10 = .ok (.iload_n 1, 1) := by decide +kernel
theorem dX12_drops_11 : decode cX12_drops 11 = .ok (.istore_n 3, 1) := by decide +kernel
theorem dX12_drops_12 : decode cX12_drops 12 = .ok (.iload_n 3, 1) := by decide +kernel
theorem dX12_drops_13 : decode cX12_drops 13 = .ok (.bipush 15, 2) := by decide +kernel
theorem dX12_drops_15 : decode cX12_drops 15 = .ok (.if_icmp .ge 37, 3) := by decide +kernel
theorem dX12_drops_18 : decode cX12_drops 18 = .ok (.aload_n 0, 1) := by decide +kernel
theorem dX12_drops_19 : decode cX12_drops 19 = .ok (.getfield 7, 3) := by decide +kernel
theorem dX12_drops_22 : decode cX12_drops 22 = .ok (.iload_n 2, 1) := by decide +kernel
theorem dX12_drops_23 : decode cX12_drops 23 = .ok (.iload_n 3, 1) := by decide +kernel
theorem dX12_drops_24 : decode cX12_drops 24 = .ok (.iadd, 1) := by decide +kernel
theorem dX12_drops_25 : decode cX12_drops 25 = .ok (.iload_n 3, 1) := by decide +kernel
theorem dX12_drops_26 : decode cX12_drops 26 = .ok (.bipush 14, 2) := by decide +kernel
theorem dX12_drops_28 : decode cX12_drops 28 = .ok (.if_icmp .ge 16, 3) := by decide +kernel
theorem dX12_drops_31 : decode cX12_drops 31 = .ok (.aload_n 0, 1) := by decide +kernel
theorem dX12_drops_32 : decode cX12_drops 32 = .ok (.getfield 7, 3) := by decide +kernel
theorem dX12_drops_35 : decode cX12_drops 35 = .ok (.iload_n 2, 1) := by decide +kernel
theorem dX12_drops_36 : decode cX12_drops 36 = .ok (.iload_n 3, 1) := by decide +kernel
theorem dX12_drops_37 : decode cX12_drops 37 = .ok (.iadd, 1) := by decide +kernel
theorem dX12_drops_38 : decode cX12_drops 38 = .ok (.iconst 1, 1) := by decide +kernel
theorem dX12_drops_39 : decode cX12_drops 39 = .ok (.iadd, 1) := by decide +kernel
theorem dX12_drops_40 : decode cX12_drops 40 = .ok (.iaload, 1) := by decide +kernel
theorem dX12_drops_41 : decode cX12_drops 41 = .ok (.goto 4, 3) := by decide +kernel
theorem dX12_drops_44 : decode cX12_drops 44 = .ok (.iconst 0, 1) := by decide +kernel
theorem dX12_drops_45 : decode cX12_drops 45 = .ok (.iastore, 1) := by decide +kernel
theorem dX12_drops_46 : decode cX12_drops 46 = .ok (.iinc 3 1, 3) := by decide +kernel
theorem dX12_drops_49 : decode cX12_drops 49 = .ok (.goto (-37), 3) := by decide +kernel
theorem dX12_drops_52 : decode cX12_drops 52 = .ok (.iinc 2 15, 3) := by decide +kernel
theorem dX12_drops_55 : decode cX12_drops 55 = .ok (.goto (-52), 3) := by decide +kernel
theorem dX12_drops_58 : decode cX12_drops 58 = .ok (.aload_n 0, 1) := by decide +kernel
theorem dX12_drops_59 : decode cX12_drops 59 = .ok (.getfield 7, 3) := by decide +kernel
theorem dX12_drops_62 : decode cX12_drops 62 = .ok (.iconst 2, 1) := by decide +kernel
theorem dX12_drops_63 : decode cX12_drops 63 = .ok (.dup2, 1) := by decide +kernel
theorem dX12_drops_64 : decode cX12_drops 64 = .ok (.iaload, 1) := by decide +kernel
theorem dX12_drops_65 : decode cX12_drops 65 = .ok (.iconst 1, 1) := by decide +kernel
theorem dX12_drops_66 : decode cX12_drops 66 = .ok (.isub, 1) := by decide +kernel
theorem dX12_drops_67 : decode cX12_drops 67 = .ok (.iastore, 1) := by decide +kernel
theorem dX12_drops_68 : decode cX12_drops 68 = .ok (.return_, 1) := by decide +kernel
theorem dX12_removes_0 : decode cX12_removes 0 = .ok (.aload_n 0, 1) := by decide +kernel
theorem dX12_removes_1 : decode cX12_removes 1 = .ok (.iload_n 1, 1) := by decide +kernel
theorem dX12_removes_2 : decode cX12_removes 2 = .ok (.invokevirtual 94, 3) := by decide +kernel
theorem dX12_removes_5 : decode cX12_removes 5 = .ok (.istore_n 2, 1) := by decide +kernel
theorem dX12_removes_6 : decode cX12_removes 6 = .ok (.iload_n 2, 1) := by decide +kernel
theorem dX12_removes_7 : decode cX12_removes 7 = .ok (.iconst (-1), 1) := by decide +kernel
theorem dX12_removes_8 : decode cX12_removes 8 = .ok (.if_icmp .ne 9, 3) := by decide +kernel
theorem dX12_removes_11 : decode cX12_removes 11 = .ok (.aload_n 0, 1) := by decide +kernel
theorem dX12_removes_12 : decode cX12_removes 12 = .ok (.iconst 1, 1) := by decide +kernel
theorem dX12_removes_13 : decode cX12_removes 13 = .ok (.invokevirtual 74, 3) := by decide +kernel
theorem dX12_removes_16 : decode cX12_removes 16 = .ok (.ireturn, 1) := by decide +kernel
theorem dX12_removes_17 : decode cX12_removes 17 = .ok (.aload_n 0, 1) := by decide +kernel
theorem dX12_removes_18 : decode cX12_removes 18 = .ok (.iload_n 2, 1) := by decide +kernel
theorem dX12_removes_19 : decode cX12_removes 19 = .ok (.invokevirtual 60, 3) := by decide +kernel
theorem dX12_removes_22 : decode cX12_removes 22 = .ok (.ifCond .ne 9, 3) := by decide +kernel
theorem dX12_removes_25 : decode cX12_removes 25 = .ok (.aload_n 0, 1) := by decide +kernel
theorem dX12_removes_26 : decode cX12_removes 26 = .ok (.iconst 2, 1) := by decide +kernel
theorem dX12_removes_27 : decode cX12_removes 27 = .ok (.invokevirtual 74, 3) := by decide +kernel
theorem dX12_removes_30 : decode cX12_removes 30 = .ok (.ireturn, 1) := by decide +kernel
theorem dX12_removes_31 : decode cX12_removes 31 = .ok (.aload_n 0, 1) := by decide +kernel
theorem dX12_removes_32 : decode cX12_removes 32 = .ok (.getfield 7, 3) := by decide +kernel
theorem dX12_removes_35 : decode cX12_removes 35 = .ok (.bipush 117, 2) := by decide +kernel
theorem dX12_removes_37 : decode cX12_removes 37 = .ok (.iload_n 2, 1) := by decide +kernel
theorem dX12_removes_38 : decode cX12_removes 38 = .ok (.iadd, 1) := by decide +kernel
theorem dX12_removes_39 : decode cX12_removes 39 = .ok (.iaload, 1) := by decide +kernel
theorem dX12_removes_40 : decode cX12_removes 40 = .ok (.istore_n 3, 1) := by decide +kernel
theorem dX12_removes_41 : decode cX12_removes 41 = .ok (.aload_n 0, 1) := by decide +kernel
theorem dX12_removes_42 : decode cX12_removes 42 = .ok (.iload_n 2, 1) := by decide +kernel
theorem dX12_removes_43 : decode cX12_removes 43 = .ok (.invokevirtual 97, 3) := by decide +kernel
theorem dX12_removes_46 : decode cX12_removes 46 = .ok (.aload_n 0, 1) := by decide +kernel
theorem dX12_removes_47 : decode cX12_removes 47 = .ok (.iload_n 3, 1) := by decide +kernel
theorem dX12_removes_48 : decode cX12_removes 48 = .ok (.invokevirtual 81, 3) := by decide +kernel
theorem dX12_removes_51 : decode cX12_removes 51 = .ok (.ireturn, 1) := by decide +kernel
theorem dX12_removeNoise_0 : decode cX12_removeNoise 0 = .ok (.aload_n 0, 1) := by decide +kernel
theorem dX12_removeNoise_1 : decode cX12_removeNoise 1 = .ok (.invokevirtual 84, 3) := by decide +kernel
theorem dX12_removeNoise_4 : decode cX12_removeNoise 4 = .ok (.aload_n 0, 1) := by decide +kernel
theorem dX12_removeNoise_5 : decode cX12_removeNoise 5 = .ok (.aload_n 0, 1) := by decide +kernel
theorem dX12_removeNoise_6 : decode cX12_removeNoise 6 = .ok (.iload_n 1, 1) := by decide +kernel
theorem dX12_removeNoise_7 : decode cX12_removeNoise 7 = .ok (.invokevirtual 101, 3) := by decide +kernel
theorem dX12_removeNoise_10 : decode cX12_removeNoise 10 = .ok (.invokevirtual 91, 3) := by decide +kernel
theorem dX12_removeNoise_13 : decode cX12_removeNoise 13 = .ok (.ireturn, 1) := by decide +kernel
theorem dX12_gears_0 : decode cX12_gears 0 = .ok (.iload_n 1, 1) := by decide +kernel
theorem dX12_gears_1 : decode cX12_gears 1 = .ok (.invokestatic 104, 3) := by decide +kernel
theorem dX12_gears_4 : decode cX12_gears 4 = .ok (.ifCond .ne 9, 3) := by decide +kernel
theorem dX12_gears_7 : decode cX12_gears 7 = .ok (.aload_n 0, 1) := by decide +kernel
theorem dX12_gears_8 : decode cX12_gears 8 = .ok (.iconst 1, 1) := by decide +kernel
theorem dX12_gears_9 : decode cX12_gears 9 = .ok (.invokevirtual 74, 3) := by decide +kernel
theorem dX12_gears_12 : decode cX12_gears 12 = .ok (.ireturn, 1) := by decide +kernel
theorem dX12_gears_13 : decode cX12_gears 13 = .ok (.iload_n 2, 1) := by decide +kernel
theorem dX12_gears_14 : decode cX12_gears 14 = .ok (.iconst 1, 1) := by decide +kernel
theorem dX12_gears_15 : decode cX12_gears 15 = .ok (.iconst 5, 1) := by decide +kernel
theorem dX12_gears_16 : decode cX12_gears 16 = .ok (.invokestatic 52, 3) := by decide +kernel
theorem dX12_gears_19 : decode cX12_gears 19 = .ok (.ifCond .ne 9, 3) := by decide +kernel
theorem dX12_gears_22 : decode cX12_gears 22 = .ok (.aload_n 0, 1) := by decide +kernel
theorem dX12_gears_23 : decode cX12_gears 23 = .ok (.iconst 2, 1) := by decide +kernel
theorem dX12_gears_24 : decode cX12_gears 24 = .ok (.invokevirtual 74, 3) := by decide +kernel
theorem dX12_gears_27 : decode cX12_gears 27 = .ok (.ireturn, 1) := by decide +kernel
theorem dX12_gears_28 : decode cX12_gears 28 = .ok (.aload_n 0, 1) := by decide +kernel
theorem dX12_gears_29 : decode cX12_gears 29 = .ok (.getfield 7, 3) := by decide +kernel
theorem dX12_gears_32 : decode cX12_gears 32 = .ok (.bipush 7, 2) := by decide +kernel
theorem dX12_gears_34 : decode cX12_gears 34 = .ok (.iload_n 1, 1) := by decide +kernel
theorem dX12_gears_35 : decode cX12_gears 35 = .ok (.iadd, 1) := by decide +kernel
theorem dX12_gears_36 : decode cX12_gears 36 = .ok (.iaload, 1) := by decide +kernel
theorem dX12_gears_37 : decode cX12_gears 37 = .ok (.istore_n 3, 1) := by decide +kernel
theorem dX12_gears_38 : decode cX12_gears 38 = .ok (.aload_n 0, 1) := by decide +kernel
theorem dX12_gears_39 : decode cX12_gears 39 = .ok (.getfield 7, 3) := by decide +kernel
theorem dX12_gears_42 : decode cX12_gears 42 = .ok (.bipush 7, 2) := by decide +kernel
theorem dX12_gears_44 : decode cX12_gears 44 = .ok (.iload_n 1, 1) := by decide +kernel
theorem dX12_gears_45 : decode cX12_gears 45 = .ok (.iadd, 1) := by decide +kernel
theorem dX12_gears_46 : decode cX12_gears 46 = .ok (.iload_n 2, 1) := by decide +kernel
theorem dX12_gears_47 : decode cX12_gears 47 = .ok (.iastore, 1) := by decide +kernel
theorem dX12_gears_48 : decode cX12_gears 48 = .ok (.aload_n 0, 1) := by decide +kernel
theorem dX12_gears_49 : decode cX12_gears 49 = .ok (.iload_n 3, 1) := by decide +kernel
theorem dX12_gears_50 : decode cX12_gears 50 = .ok (.invokevirtual 81, 3) := by decide +kernel
theorem dX12_gears_53 : decode cX12_gears 53 = .ok (.ireturn, 1) := by decide +kernel
theorem dX12_setGear_0 : decode cX12_setGear 0 = .ok (.aload_n 0, 1) := by decide +kernel
theorem dX12_setGear_1 : decode cX12_setGear 1 = .ok (.invokevirtual 84, 3) := by decide +kernel
theorem dX12_setGear_4 : decode cX12_setGear 4 = .ok (.aload_n 0, 1) := by decide +kernel
theorem dX12_setGear_5 : decode cX12_setGear 5 = .ok (.aload_n 0, 1) := by decide +kernel
theorem dX12_setGear_6 : decode cX12_setGear 6 = .ok (.iload_n 1, 1) := by decide +kernel
theorem dX12_setGear_7 : decode cX12_setGear 7 = .ok (.iload_n 2, 1) := by decide +kernel
theorem dX12_setGear_8 : decode cX12_setGear 8 = .ok (.invokevirtual 107, 3) := by decide +kernel
theorem dX12_setGear_11 : decode cX12_setGear 11 = .ok (.invokevirtual 91, 3) := by decide +kernel
theorem dX12_setGear_14 : decode cX12_setGear 14 = .ok (.ireturn, 1) := by decide +kernel
theorem dX12_meshes_0 : decode cX12_meshes 0 = .ok (.iload_n 1, 1) := by decide +kernel
theorem dX12_meshes_1 : decode cX12_meshes 1 = .ok (.invokestatic 71, 3) := by decide +kernel
theorem dX12_meshes_4 : decode cX12_meshes 4 = .ok (.ifCond .eq 13, 3) := by decide +kernel
theorem dX12_meshes_7 : decode cX12_meshes 7 = .ok (.iload_n 2, 1) := by decide +kernel
theorem dX12_meshes_8 : decode cX12_meshes 8 = .ok (.iconst 0, 1) := by decide +kernel
theorem dX12_meshes_9 : decode cX12_meshes 9 = .ok (.bipush 9, 2) := by decide +kernel
theorem dX12_meshes_11 : decode cX12_meshes 11 = .ok (.invokestatic 52, 3) := by decide +kernel
theorem dX12_meshes_14 : decode cX12_meshes 14 = .ok (.ifCond .ne 9, 3) := by decide +kernel
theorem dX12_meshes_17 : decode cX12_meshes 17 = .ok (.aload_n 0, 1) := by decide +kernel
theorem dX12_meshes_18 : decode cX12_meshes 18 = .ok (.iconst 1, 1) := by decide +kernel
theorem dX12_meshes_19 : decode cX12_meshes 19 = .ok (.invokevirtual 74, 3) := by decide +kernel
theorem dX12_meshes_22 : decode cX12_meshes 22 = .ok (.ireturn, 1) := by decide +kernel
theorem dX12_meshes_23 : decode cX12_meshes 23 = .ok (.aload_n 0, 1) := by decide +kernel
theorem dX12_meshes_24 : decode cX12_meshes 24 = .ok (.getfield 7, 3) := by decide +kernel
theorem dX12_meshes_27 : decode cX12_meshes 27 = .ok (.bipush 16, 2) := by decide +kernel
theorem dX12_meshes_29 : decode cX12_meshes 29 = .ok (.iload_n 1, 1) := by decide +kernel
theorem dX12_meshes_30 : decode cX12_meshes 30 = .ok (.iadd, 1) := by decide +kernel
theorem dX12_meshes_31 : decode cX12_meshes 31 = .ok (.iaload, 1) := by decide +kernel
theorem dX12_meshes_32 : decode cX12_meshes 32 = .ok (.istore_n 3, 1) := by decide +kernel
theorem dX12_meshes_33 : decode cX12_meshes 33 = .ok (.aload_n 0, 1) := by decide +kernel
theorem dX12_meshes_34 : decode cX12_meshes 34 = .ok (.getfield 7, 3) := by decide +kernel
theorem dX12_meshes_37 : decode cX12_meshes 37 = .ok (.bipush 16, 2) := by decide +kernel
theorem dX12_meshes_39 : decode cX12_meshes 39 = .ok (.iload_n 1, 1) := by decide +kernel
theorem dX12_meshes_40 : decode cX12_meshes 40 = .ok (.iadd, 1) := by decide +kernel
theorem dX12_meshes_41 : decode cX12_meshes 41 = .ok (.iload_n 2, 1) := by decide +kernel
theorem dX12_meshes_42 : decode cX12_meshes 42 = .ok (.iastore, 1) := by decide +kernel
theorem dX12_meshes_43 : decode cX12_meshes 43 = .ok (.aload_n 0, 1) := by decide +kernel
theorem dX12_meshes_44 : decode cX12_meshes 44 = .ok (.iload_n 3, 1) := by decide +kernel
theorem dX12_meshes_45 : decode cX12_meshes 45 = .ok (.invokevirtual 81, 3) := by decide +kernel
theorem dX12_meshes_48 : decode cX12_meshes 48 = .ok (.ireturn, 1) := by decide +kernel
theorem dX12_setMesh_0 : decode cX12_setMesh 0 = .ok (.aload_n 0, 1) := by decide +kernel
theorem dX12_setMesh_1 : decode cX12_setMesh 1 = .ok (.invokevirtual 84, 3) := by decide +kernel
theorem dX12_setMesh_4 : decode cX12_setMesh 4 = .ok (.aload_n 0, 1) := by decide +kernel
theorem dX12_setMesh_5 : decode cX12_setMesh 5 = .ok (.aload_n 0, 1) := by decide +kernel
theorem dX12_setMesh_6 : decode cX12_setMesh 6 = .ok (.iload_n 1, 1) := by decide +kernel
theorem dX12_setMesh_7 : decode cX12_setMesh 7 = .ok (.iload_n 2, 1) := by decide +kernel
theorem dX12_setMesh_8 : decode cX12_setMesh 8 = .ok (.invokevirtual 111, 3) := by decide +kernel
theorem dX12_setMesh_11 : decode cX12_setMesh 11 = .ok (.invokevirtual 91, 3) := by decide +kernel
theorem dX12_setMesh_14 : decode cX12_setMesh 14 = .ok (.ireturn, 1) := by decide +kernel
theorem dX12_clears_0 : decode cX12_clears 0 = .ok (.iload_n 1, 1) := by decide +kernel
theorem dX12_clears_1 : decode cX12_clears 1 = .ok (.invokestatic 104, 3) := by decide +kernel
theorem dX12_clears_4 : decode cX12_clears 4 = .ok (.ifCond .ne 9, 3) := by decide +kernel
theorem dX12_clears_7 : decode cX12_clears 7 = .ok (.aload_n 0, 1) := by decide +kernel
theorem dX12_clears_8 : decode cX12_clears 8 = .ok (.iconst 1, 1) := by decide +kernel
theorem dX12_clears_9 : decode cX12_clears 9 = .ok (.invokevirtual 74, 3) := by decide +kernel
theorem dX12_clears_12 : decode cX12_clears 12 = .ok (.ireturn, 1) := by decide +kernel
theorem dX12_clears_13 : decode cX12_clears 13 = .ok (.aload_n 0, 1) := by decide +kernel
theorem dX12_clears_14 : decode cX12_clears 14 = .ok (.getfield 7, 3) := by decide +kernel
theorem dX12_clears_17 : decode cX12_clears 17 = .ok (.bipush 10, 2) := by decide +kernel
theorem dX12_clears_19 : decode cX12_clears 19 = .ok (.iload_n 1, 1) := by decide +kernel
theorem dX12_clears_20 : decode cX12_clears 20 = .ok (.iadd, 1) := by decide +kernel
theorem dX12_clears_21 : decode cX12_clears 21 = .ok (.iaload, 1) := by decide +kernel
theorem dX12_clears_22 : decode cX12_clears 22 = .ok (.istore_n 2, 1) := by decide +kernel
theorem dX12_clears_23 : decode cX12_clears 23 = .ok (.aload_n 0, 1) := by decide +kernel
theorem dX12_clears_24 : decode cX12_clears 24 = .ok (.getfield 7, 3) := by decide +kernel
theorem dX12_clears_27 : decode cX12_clears 27 = .ok (.bipush 10, 2) := by decide +kernel
theorem dX12_clears_29 : decode cX12_clears 29 = .ok (.iload_n 1, 1) := by decide +kernel
theorem dX12_clears_30 : decode cX12_clears 30 = .ok (.iadd, 1) := by decide +kernel
theorem dX12_clears_31 : decode cX12_clears 31 = .ok (.iconst 0, 1) := by decide +kernel
theorem dX12_clears_32 : decode cX12_clears 32 = .ok (.iastore, 1) := by decide +kernel
theorem dX12_clears_33 : decode cX12_clears 33 = .ok (.aload_n 0, 1) := by decide +kernel
theorem dX12_clears_34 : decode cX12_clears 34 = .ok (.iload_n 2, 1) := by decide +kernel
theorem dX12_clears_35 : decode cX12_clears 35 = .ok (.invokevirtual 81, 3) := by decide +kernel
theorem dX12_clears_38 : decode cX12_clears 38 = .ok (.ireturn, 1) := by decide +kernel
theorem dX12_clearWheel_0 : decode cX12_clearWheel 0 = .ok (.aload_n 0, 1) := by decide +kernel
theorem dX12_clearWheel_1 : decode cX12_clearWheel 1 = .ok (.invokevirtual 84, 3) := by decide +kernel
theorem dX12_clearWheel_4 : decode cX12_clearWheel 4 = .ok (.aload_n 0, 1) := by decide +kernel
theorem dX12_clearWheel_5 : decode cX12_clearWheel 5 = .ok (.aload_n 0, 1) := by decide +kernel
theorem dX12_clearWheel_6 : decode cX12_clearWheel 6 = .ok (.iload_n 1, 1) := by decide +kernel
theorem dX12_clearWheel_7 : decode cX12_clearWheel 7 = .ok (.invokevirtual 114, 3) := by decide +kernel
theorem dX12_clearWheel_10 : decode cX12_clearWheel 10 = .ok (.invokevirtual 91, 3) := by decide +kernel
theorem dX12_clearWheel_13 : decode cX12_clearWheel 13 = .ok (.ireturn, 1) := by decide +kernel
theorem dX12_releases_0 : decode cX12_releases 0 = .ok (.iload_n 1, 1) := by decide +kernel
theorem dX12_releases_1 : decode cX12_releases 1 = .ok (.invokestatic 104, 3) := by decide +kernel
theorem dX12_releases_4 : decode cX12_releases 4 = .ok (.ifCond .ne 9, 3) := by decide +kernel
theorem dX12_releases_7 : decode cX12_releases 7 = .ok (.aload_n 0, 1) := by decide +kernel
theorem dX12_releases_8 : decode cX12_releases 8 = .ok (.iconst 1, 1) := by decide +kernel
theorem dX12_releases_9 : decode cX12_releases 9 = .ok (.invokevirtual 74, 3) := by decide +kernel
theorem dX12_releases_12 : decode cX12_releases 12 = .ok (.ireturn, 1) := by decide +kernel
theorem dX12_releases_13 : decode cX12_releases 13 = .ok (.aload_n 0, 1) := by decide +kernel
theorem dX12_releases_14 : decode cX12_releases 14 = .ok (.getfield 7, 3) := by decide +kernel
theorem dX12_releases_17 : decode cX12_releases 17 = .ok (.bipush 13, 2) := by decide +kernel
theorem dX12_releases_19 : decode cX12_releases 19 = .ok (.iload_n 1, 1) := by decide +kernel
theorem dX12_releases_20 : decode cX12_releases 20 = .ok (.iadd, 1) := by decide +kernel
theorem dX12_releases_21 : decode cX12_releases 21 = .ok (.iaload, 1) := by decide +kernel
theorem dX12_releases_22 : decode cX12_releases 22 = .ok (.ifCond .ne 9, 3) := by decide +kernel
theorem dX12_releases_25 : decode cX12_releases 25 = .ok (.aload_n 0, 1) := by decide +kernel
theorem dX12_releases_26 : decode cX12_releases 26 = .ok (.iconst 2, 1) := by decide +kernel
theorem dX12_releases_27 : decode cX12_releases 27 = .ok (.invokevirtual 74, 3) := by decide +kernel
theorem dX12_releases_30 : decode cX12_releases 30 = .ok (.ireturn, 1) := by decide +kernel
theorem dX12_releases_31 : decode cX12_releases 31 = .ok (.aload_n 0, 1) := by decide +kernel
theorem dX12_releases_32 : decode cX12_releases 32 = .ok (.invokevirtual 77, 3) := by decide +kernel
theorem dX12_releases_35 : decode cX12_releases 35 = .ok (.bipush 12, 2) := by decide +kernel
theorem dX12_releases_37 : decode cX12_releases 37 = .ok (.if_icmp .ne 9, 3) := by decide +kernel
theorem dX12_releases_40 : decode cX12_releases 40 = .ok (.aload_n 0, 1) := by decide +kernel
theorem dX12_releases_41 : decode cX12_releases 41 = .ok (.iconst 3, 1) := by decide +kernel
theorem dX12_releases_42 : decode cX12_releases 42 = .ok (.invokevirtual 74, 3) := by decide +kernel
theorem dX12_releases_45 : decode cX12_releases 45 = .ok (.ireturn, 1) := by decide +kernel
theorem dX12_releases_46 : decode cX12_releases 46 = .ok (.aload_n 0, 1) := by decide +kernel
theorem dX12_releases_47 : decode cX12_releases 47 = .ok (.getfield 7, 3) := by decide +kernel
theorem dX12_releases_50 : decode cX12_releases 50 = .ok (.bipush 13, 2) := by decide +kernel
theorem dX12_releases_52 : decode cX12_releases 52 = .ok (.iload_n 1, 1) := by decide +kernel
theorem dX12_releases_53 : decode cX12_releases 53 = .ok (.iadd, 1) := by decide +kernel
theorem dX12_releases_54 : decode cX12_releases 54 = .ok (.iaload, 1) := by decide +kernel
theorem dX12_releases_55 : decode cX12_releases 55 = .ok (.iconst 1, 1) := by decide +kernel
theorem dX12_releases_56 : decode cX12_releases 56 = .ok (.isub, 1) := by decide +kernel
theorem dX12_releases_57 : decode cX12_releases 57 = .ok (.istore_n 2, 1) := by decide +kernel
theorem dX12_releases_58 : decode cX12_releases 58 = .ok (.aload_n 0, 1) := by decide +kernel
theorem dX12_releases_59 : decode cX12_releases 59 = .ok (.getfield 7, 3) := by decide +kernel
theorem dX12_releases_62 : decode cX12_releases 62 = .ok (.bipush 13, 2) := by decide +kernel
theorem dX12_releases_64 : decode cX12_releases 64 = .ok (.iload_n 1, 1) := by decide +kernel
theorem dX12_releases_65 : decode cX12_releases 65 = .ok (.iadd, 1) := by decide +kernel
theorem dX12_releases_66 : decode cX12_releases 66 = .ok (.iconst 0, 1) := by decide +kernel
theorem dX12_releases_67 : decode cX12_releases 67 = .ok (.iastore, 1) := by decide +kernel
theorem dX12_releases_68 : decode cX12_releases 68 = .ok (.aload_n 0, 1) := by decide +kernel
theorem dX12_releases_69 : decode cX12_releases 69 = .ok (.iload_n 2, 1) := by decide +kernel
theorem dX12_releases_70 : decode cX12_releases 70 = .ok (.invokevirtual 81, 3) := by decide +kernel
theorem dX12_releases_73 : decode cX12_releases 73 = .ok (.ireturn, 1) := by decide +kernel
theorem dX12_releaseNoise_0 : decode cX12_releaseNoise 0 = .ok (.aload_n 0, 1) := by decide +kernel
theorem dX12_releaseNoise_1 : decode cX12_releaseNoise 1 = .ok (.invokevirtual 84, 3) := by decide +kernel
theorem dX12_releaseNoise_4 : decode cX12_releaseNoise 4 = .ok (.aload_n 0, 1) := by decide +kernel
theorem dX12_releaseNoise_5 : decode cX12_releaseNoise 5 = .ok (.aload_n 0, 1) := by decide +kernel
theorem dX12_releaseNoise_6 : decode cX12_releaseNoise 6 = .ok (.iload_n 1, 1) := by decide +kernel
theorem dX12_releaseNoise_7 : decode cX12_releaseNoise 7 = .ok (.invokevirtual 117, 3) := by decide +kernel
theorem dX12_releaseNoise_10 : decode cX12_releaseNoise 10 = .ok (.invokevirtual 91, 3) := by decide +kernel
theorem dX12_releaseNoise_13 : decode cX12_releaseNoise 13 = .ok (.ireturn, 1) := by decide +kernel
theorem dX12_ships_0 : decode cX12_ships 0 = .ok (.iload_n 1, 1) := by decide +kernel
theorem dX12_ships_1 : decode cX12_ships 1 = .ok (.invokestatic 120, 3) := by decide +kernel
theorem dX12_ships_4 : decode cX12_ships 4 = .ok (.ifCond .eq 13, 3) := by decide +kernel
theorem dX12_ships_7 : decode cX12_ships 7 = .ok (.iload_n 2, 1) := by decide +kernel
theorem dX12_ships_8 : decode cX12_ships 8 = .ok (.iconst 1, 1) := by decide +kernel
theorem dX12_ships_9 : decode cX12_ships 9 = .ok (.bipush 6, 2) := by decide +kernel
theorem dX12_ships_11 : decode cX12_ships 11 = .ok (.invokestatic 52, 3) := by decide +kernel
theorem dX12_ships_14 : decode cX12_ships 14 = .ok (.ifCond .ne 9, 3) := by decide +kernel
theorem dX12_ships_17 : decode cX12_ships 17 = .ok (.aload_n 0, 1) := by decide +kernel
theorem dX12_ships_18 : decode cX12_ships 18 = .ok (.iconst 1, 1) := by decide +kernel
theorem dX12_ships_19 : decode cX12_ships 19 = .ok (.invokevirtual 74, 3) := by decide +kernel
theorem dX12_ships_22 : decode cX12_ships 22 = .ok (.ireturn, 1) := by decide +kernel
theorem dX12_ships_23 : decode cX12_ships 23 = .ok (.aload_n 0, 1) := by decide +kernel
theorem dX12_ships_24 : decode cX12_ships 24 = .ok (.getfield 7, 3) := by decide +kernel
theorem dX12_ships_27 : decode cX12_ships 27 = .ok (.bipush 28, 2) := by decide +kernel
theorem dX12_ships_29 : decode cX12_ships 29 = .ok (.iload_n 1, 1) := by decide +kernel
theorem dX12_ships_30 : decode cX12_ships 30 = .ok (.iadd, 1) := by decide +kernel
theorem dX12_ships_31 : decode cX12_ships 31 = .ok (.iaload, 1) := by decide +kernel
theorem dX12_ships_32 : decode cX12_ships 32 = .ok (.bipush 20, 2) := by decide +kernel
theorem dX12_ships_34 : decode cX12_ships 34 = .ok (.idiv, 1) := by decide +kernel
theorem dX12_ships_35 : decode cX12_ships 35 = .ok (.iload_n 2, 1) := by decide +kernel
theorem dX12_ships_36 : decode cX12_ships 36 = .ok (.if_icmp .ge 9, 3) := by decide +kernel
theorem dX12_ships_39 : decode cX12_ships 39 = .ok (.aload_n 0, 1) := by decide +kernel
theorem dX12_ships_40 : decode cX12_ships 40 = .ok (.iconst 2, 1) := by decide +kernel
theorem dX12_ships_41 : decode cX12_ships 41 = .ok (.invokevirtual 74, 3) := by decide +kernel
theorem dX12_ships_44 : decode cX12_ships 44 = .ok (.ireturn, 1) := by decide +kernel
theorem dX12_ships_45 : decode cX12_ships 45 = .ok (.aload_n 0, 1) := by decide +kernel
theorem dX12_ships_46 : decode cX12_ships 46 = .ok (.getfield 7, 3) := by decide +kernel
theorem dX12_ships_49 : decode cX12_ships 49 = .ok (.bipush 28, 2) := by decide +kernel
theorem dX12_ships_51 : decode cX12_ships 51 = .ok (.iload_n 1, 1) := by decide +kernel
theorem dX12_ships_52 : decode cX12_ships 52 = .ok (.iadd, 1) := by decide +kernel
theorem dX12_ships_53 : decode cX12_ships 53 = .ok (.dup2, 1) := by decide +kernel
theorem dX12_ships_54 : decode cX12_ships 54 = .ok (.iaload, 1) := by decide +kernel
theorem dX12_ships_55 : decode cX12_ships 55 = .ok (.bipush 20, 2) := by decide +kernel
theorem dX12_ships_57 : decode cX12_ships 57 = .ok (.iload_n 2, 1) := by decide +kernel
theorem dX12_ships_58 : decode cX12_ships 58 = .ok (.imul, 1) := by decide +kernel
theorem dX12_ships_59 : decode cX12_ships 59 = .ok (.isub, 1) := by decide +kernel
theorem dX12_ships_60 : decode cX12_ships 60 = .ok (.iastore, 1) := by decide +kernel
theorem dX12_ships_61 : decode cX12_ships 61 = .ok (.aload_n 0, 1) := by decide +kernel
theorem dX12_ships_62 : decode cX12_ships 62 = .ok (.getfield 7, 3) := by decide +kernel
theorem dX12_ships_65 : decode cX12_ships 65 = .ok (.bipush 24, 2) := by decide +kernel
theorem dX12_ships_67 : decode cX12_ships 67 = .ok (.iload_n 1, 1) := by decide +kernel
theorem dX12_ships_68 : decode cX12_ships 68 = .ok (.iadd, 1) := by decide +kernel
theorem dX12_ships_69 : decode cX12_ships 69 = .ok (.dup2, 1) := by decide +kernel
theorem dX12_ships_70 : decode cX12_ships 70 = .ok (.iaload, 1) := by decide +kernel
theorem dX12_ships_71 : decode cX12_ships 71 = .ok (.iload_n 2, 1) := by decide +kernel
theorem dX12_ships_72 : decode cX12_ships 72 = .ok (.iadd, 1) := by decide +kernel
theorem dX12_ships_73 : decode cX12_ships 73 = .ok (.iastore, 1) := by decide +kernel
theorem dX12_ships_74 : decode cX12_ships 74 = .ok (.aload_n 0, 1) := by decide +kernel
theorem dX12_ships_75 : decode cX12_ships 75 = .ok (.aload_n 0, 1) := by decide +kernel
theorem dX12_ships_76 : decode cX12_ships 76 = .ok (.getfield 7, 3) := by decide +kernel
theorem dX12_ships_79 : decode cX12_ships 79 = .ok (.bipush 28, 2) := by decide +kernel
theorem dX12_ships_81 : decode cX12_ships 81 = .ok (.iload_n 1, 1) := by decide +kernel
theorem dX12_ships_82 : decode cX12_ships 82 = .ok (.iadd, 1) := by decide +kernel
theorem dX12_ships_83 : decode cX12_ships 83 = .ok (.iaload, 1) := by decide +kernel
theorem dX12_ships_84 : decode cX12_ships 84 = .ok (.bipush 20, 2) := by decide +kernel
theorem dX12_ships_86 : decode cX12_ships 86 = .ok (.idiv, 1) := by decide +kernel
theorem dX12_ships_87 : decode cX12_ships 87 = .ok (.invokevirtual 81, 3) := by decide +kernel
theorem dX12_ships_90 : decode cX12_ships 90 = .ok (.ireturn, 1) := by decide +kernel
theorem dX12_shipSacks_0 : decode cX12_shipSacks 0 = .ok (.aload_n 0, 1) := by decide +kernel
theorem dX12_shipSacks_1 : decode cX12_shipSacks 1 = .ok (.invokevirtual 84, 3) := by decide +kernel
theorem dX12_shipSacks_4 : decode cX12_shipSacks 4 = .ok (.aload_n 0, 1) := by decide +kernel
theorem dX12_shipSacks_5 : decode cX12_shipSacks 5 = .ok (.aload_n 0, 1) := by decide +kernel
theorem dX12_shipSacks_6 : decode cX12_shipSacks 6 = .ok (.iload_n 1, 1) := by decide +kernel
theorem dX12_shipSacks_7 : decode cX12_shipSacks 7 = .ok (.iload_n 2, 1) := by decide +kernel
theorem dX12_shipSacks_8 : decode cX12_shipSacks 8 = .ok (.invokevirtual 123, 3) := by decide +kernel
theorem dX12_shipSacks_11 : decode cX12_shipSacks 11 = .ok (.invokevirtual 91, 3) := by decide +kernel
theorem dX12_shipSacks_14 : decode cX12_shipSacks 14 = .ok (.ireturn, 1) := by decide +kernel
theorem dX12_sacks_0 : decode cX12_sacks 0 = .ok (.iload_n 2, 1) := by decide +kernel
theorem dX12_sacks_1 : decode cX12_sacks 1 = .ok (.aload_n 0, 1) := by decide +kernel
theorem dX12_sacks_2 : decode cX12_sacks 2 = .ok (.getfield 7, 3) := by decide +kernel
theorem dX12_sacks_5 : decode cX12_sacks 5 = .ok (.bipush 16, 2) := by decide +kernel
theorem dX12_sacks_7 : decode cX12_sacks 7 = .ok (.iload_n 1, 1) := by decide +kernel
theorem dX12_sacks_8 : decode cX12_sacks 8 = .ok (.iadd, 1) := by decide +kernel
theorem dX12_sacks_9 : decode cX12_sacks 9 = .ok (.iaload, 1) := by decide +kernel
theorem dX12_sacks_10 : decode cX12_sacks 10 = .ok (.imul, 1) := by decide +kernel
theorem dX12_sacks_11 : decode cX12_sacks 11 = .ok (.bipush 10, 2) := by decide +kernel
theorem dX12_sacks_13 : decode cX12_sacks 13 = .ok (.idiv, 1) := by decide +kernel
theorem dX12_sacks_14 : decode cX12_sacks 14 = .ok (.istore_n 3, 1) := by decide +kernel
theorem dX12_sacks_15 : decode cX12_sacks 15 = .ok (.aload_n 0, 1) := by decide +kernel
theorem dX12_sacks_16 : decode cX12_sacks 16 = .ok (.getfield 7, 3) := by decide +kernel
theorem dX12_sacks_19 : decode cX12_sacks 19 = .ok (.bipush 16, 2) := by decide +kernel
theorem dX12_sacks_21 : decode cX12_sacks 21 = .ok (.iload_n 1, 1) := by decide +kernel
theorem dX12_sacks_22 : decode cX12_sacks 22 = .ok (.iadd, 1) := by decide +kernel
theorem dX12_sacks_23 : decode cX12_sacks 23 = .ok (.iaload, 1) := by decide +kernel
theorem dX12_sacks_24 : decode cX12_sacks 24 = .ok (.iconst 3, 1) := by decide +kernel
theorem dX12_sacks_25 : decode cX12_sacks 25 = .ok (.idiv, 1) := by decide +kernel
theorem dX12_sacks_26 : decode cX12_sacks 26 = .ok (.istore 4, 2) := by decide +kernel
theorem dX12_sacks_28 : decode cX12_sacks 28 = .ok (.sipush 139, 3) := by decide +kernel
theorem dX12_sacks_31 : decode cX12_sacks 31 = .ok (.aload_n 0, 1) := by decide +kernel
theorem dX12_sacks_32 : decode cX12_sacks 32 = .ok (.getfield 7, 3) := by decide +kernel
theorem dX12_sacks_35 : decode cX12_sacks 35 = .ok (.bipush 28, 2) := by decide +kernel
theorem dX12_sacks_37 : decode cX12_sacks 37 = .ok (.iload 4, 2) := by decide +kernel
theorem dX12_sacks_39 : decode cX12_sacks 39 = .ok (.iadd, 1) := by decide +kernel
theorem dX12_sacks_40 : decode cX12_sacks 40 = .ok (.iaload, 1) := by decide +kernel
theorem dX12_sacks_41 : decode cX12_sacks 41 = .ok (.isub, 1) := by decide +kernel
theorem dX12_sacks_42 : decode cX12_sacks 42 = .ok (.istore 5, 2) := by decide +kernel
theorem dX12_sacks_44 : decode cX12_sacks 44 = .ok (.iload_n 2, 1) := by decide +kernel
theorem dX12_sacks_45 : decode cX12_sacks 45 = .ok (.iload_n 3, 1) := by decide +kernel
theorem dX12_sacks_46 : decode cX12_sacks 46 = .ok (.isub, 1) := by decide +kernel
theorem dX12_sacks_47 : decode cX12_sacks 47 = .ok (.istore 6, 2) := by decide +kernel
theorem dX12_sacks_49 : decode cX12_sacks 49 = .ok (.iload 6, 2) := by decide +kernel
theorem dX12_sacks_51 : decode cX12_sacks 51 = .ok (.iload 5, 2) := by decide +kernel
theorem dX12_sacks_53 : decode cX12_sacks 53 = .ok (.if_icmp .ge 8, 3) := by decide +kernel
theorem dX12_sacks_56 : decode cX12_sacks 56 = .ok (.iload 6, 2) := by decide +kernel
theorem dX12_sacks_58 : decode cX12_sacks 58 = .ok (.goto 5, 3) := by decide +kernel
theorem dX12_sacks_61 : decode cX12_sacks 61 = .ok (.iload 5, 2) := by decide +kernel
theorem dX12_sacks_63 : decode cX12_sacks 63 = .ok (.istore 7, 2) := by decide +kernel
theorem dX12_sacks_65 : decode cX12_sacks 65 = .ok (.aload_n 0, 1) := by decide +kernel
theorem dX12_sacks_66 : decode cX12_sacks 66 = .ok (.getfield 7, 3) := by decide +kernel
theorem dX12_sacks_69 : decode cX12_sacks 69 = .ok (.iconst 4, 1) := by decide +kernel
theorem dX12_sacks_70 : decode cX12_sacks 70 = .ok (.dup2, 1) := by decide +kernel
theorem dX12_sacks_71 : decode cX12_sacks 71 = .ok (.iaload, 1) := by decide +kernel
theorem dX12_sacks_72 : decode cX12_sacks 72 = .ok (.iload_n 3, 1) := by decide +kernel
theorem dX12_sacks_73 : decode cX12_sacks 73 = .ok (.iadd, 1) := by decide +kernel
theorem dX12_sacks_74 : decode cX12_sacks 74 = .ok (.iastore, 1) := by decide +kernel
theorem dX12_sacks_75 : decode cX12_sacks 75 = .ok (.aload_n 0, 1) := by decide +kernel
theorem dX12_sacks_76 : decode cX12_sacks 76 = .ok (.getfield 7, 3) := by decide +kernel
theorem dX12_sacks_79 : decode cX12_sacks 79 = .ok (.iconst 5, 1) := by decide +kernel
theorem dX12_sacks_80 : decode cX12_sacks 80 = .ok (.dup2, 1) := by decide +kernel
theorem dX12_sacks_81 : decode cX12_sacks 81 = .ok (.iaload, 1) := by decide +kernel
theorem dX12_sacks_82 : decode cX12_sacks 82 = .ok (.iload 6, 2) := by decide +kernel
theorem dX12_sacks_84 : decode cX12_sacks 84 = .ok (.iload 7, 2) := by decide +kernel
theorem dX12_sacks_86 : decode cX12_sacks 86 = .ok (.isub, 1) := by decide +kernel
theorem dX12_sacks_87 : decode cX12_sacks 87 = .ok (.iadd, 1) := by decide +kernel
theorem dX12_sacks_88 : decode cX12_sacks 88 = .ok (.iastore, 1) := by decide +kernel
theorem dX12_sacks_89 : decode cX12_sacks 89 = .ok (.aload_n 0, 1) := by decide +kernel
theorem dX12_sacks_90 : decode cX12_sacks 90 = .ok (.getfield 7, 3) := by decide +kernel
theorem dX12_sacks_93 : decode cX12_sacks 93 = .ok (.bipush 28, 2) := by decide +kernel
theorem dX12_sacks_95 : decode cX12_sacks 95 = .ok (.iload 4, 2) := by decide +kernel
theorem dX12_sacks_97 : decode cX12_sacks 97 = .ok (.iadd, 1) := by decide +kernel
theorem dX12_sacks_98 : decode cX12_sacks 98 = .ok (.dup2, 1) := by decide +kernel
theorem dX12_sacks_99 : decode cX12_sacks 99 = .ok (.iaload, 1) := by decide +kernel
theorem dX12_sacks_100 : decode cX12_sacks 100 = .ok (.iload 7, 2) := by decide +kernel
theorem dX12_sacks_102 : decode cX12_sacks 102 = .ok (.iadd, 1) := by decide +kernel
theorem dX12_sacks_103 : decode cX12_sacks 103 = .ok (.iastore, 1) := by decide +kernel
theorem dX12_sacks_104 : decode cX12_sacks 104 = .ok (.aload_n 0, 1) := by decide +kernel
theorem dX12_sacks_105 : decode cX12_sacks 105 = .ok (.getfield 7, 3) := by decide +kernel
theorem dX12_sacks_108 : decode cX12_sacks 108 = .ok (.bipush 32, 2) := by decide +kernel
theorem dX12_sacks_110 : decode cX12_sacks 110 = .ok (.iconst 4, 1) := by decide +kernel
theorem dX12_sacks_111 : decode cX12_sacks 111 = .ok (.iload_n 1, 1) := by decide +kernel
theorem dX12_sacks_112 : decode cX12_sacks 112 = .ok (.imul, 1) := by decide +kernel
theorem dX12_sacks_113 : decode cX12_sacks 113 = .ok (.iadd, 1) := by decide +kernel
theorem dX12_sacks_114 : decode cX12_sacks 114 = .ok (.iload 4, 2) := by decide +kernel
theorem dX12_sacks_116 : decode cX12_sacks 116 = .ok (.iadd, 1) := by decide +kernel
theorem dX12_sacks_117 : decode cX12_sacks 117 = .ok (.dup2, 1) := by decide +kernel
theorem dX12_sacks_118 : decode cX12_sacks 118 = .ok (.iaload, 1) := by decide +kernel
theorem dX12_sacks_119 : decode cX12_sacks 119 = .ok (.iload 7, 2) := by decide +kernel
theorem dX12_sacks_121 : decode cX12_sacks 121 = .ok (.iadd, 1) := by decide +kernel
theorem dX12_sacks_122 : decode cX12_sacks 122 = .ok (.iastore, 1) := by decide +kernel
theorem dX12_sacks_123 : decode cX12_sacks 123 = .ok (.return_, 1) := by decide +kernel
theorem dX12_finishes_0 : decode cX12_finishes 0 = .ok (.aload_n 0, 1) := by decide +kernel
theorem dX12_finishes_1 : decode cX12_finishes 1 = .ok (.getfield 7, 3) := by decide +kernel
theorem dX12_finishes_4 : decode cX12_finishes 4 = .ok (.bipush 6, 2) := by decide +kernel
theorem dX12_finishes_6 : decode cX12_finishes 6 = .ok (.iaload, 1) := by decide +kernel
theorem dX12_finishes_7 : decode cX12_finishes 7 = .ok (.bipush 8, 2) := by decide +kernel
theorem dX12_finishes_9 : decode cX12_finishes 9 = .ok (.irem, 1) := by decide +kernel
theorem dX12_finishes_10 : decode cX12_finishes 10 = .ok (.istore_n 3, 1) := by decide +kernel
theorem dX12_finishes_11 : decode cX12_finishes 11 = .ok (.aload_n 0, 1) := by decide +kernel
theorem dX12_finishes_12 : decode cX12_finishes 12 = .ok (.getfield 7, 3) := by decide +kernel
theorem dX12_finishes_15 : decode cX12_finishes 15 = .ok (.sipush 132, 3) := by decide +kernel
theorem dX12_finishes_18 : decode cX12_finishes 18 = .ok (.iload_n 3, 1) := by decide +kernel
theorem dX12_finishes_19 : decode cX12_finishes 19 = .ok (.iadd, 1) := by decide +kernel
theorem dX12_finishes_20 : decode cX12_finishes 20 = .ok (.aload_n 0, 1) := by decide +kernel
theorem dX12_finishes_21 : decode cX12_finishes 21 = .ok (.getfield 7, 3) := by decide +kernel
theorem dX12_finishes_24 : decode cX12_finishes 24 = .ok (.bipush 72, 2) := by decide +kernel
theorem dX12_finishes_26 : decode cX12_finishes 26 = .ok (.iload_n 2, 1) := by decide +kernel
theorem dX12_finishes_27 : decode cX12_finishes 27 = .ok (.iadd, 1) := by decide +kernel
theorem dX12_finishes_28 : decode cX12_finishes 28 = .ok (.iaload, 1) := by decide +kernel
theorem dX12_finishes_29 : decode cX12_finishes 29 = .ok (.iastore, 1) := by decide +kernel
theorem dX12_finishes_30 : decode cX12_finishes 30 = .ok (.aload_n 0, 1) := by decide +kernel
theorem dX12_finishes_31 : decode cX12_finishes 31 = .ok (.getfield 7, 3) := by decide +kernel
theorem dX12_finishes_34 : decode cX12_finishes 34 = .ok (.sipush 140, 3) := by decide +kernel
theorem dX12_finishes_37 : decode cX12_finishes 37 = .ok (.iload_n 3, 1) := by decide +kernel
theorem dX12_finishes_38 : decode cX12_finishes 38 = .ok (.iadd, 1) := by decide +kernel
theorem dX12_finishes_39 : decode cX12_finishes 39 = .ok (.iload_n 1, 1) := by decide +kernel
theorem dX12_finishes_40 : decode cX12_finishes 40 = .ok (.iastore, 1) := by decide +kernel
theorem dX12_finishes_41 : decode cX12_finishes 41 = .ok (.aload_n 0, 1) := by decide +kernel
theorem dX12_finishes_42 : decode cX12_finishes 42 = .ok (.getfield 7, 3) := by decide +kernel
theorem dX12_finishes_45 : decode cX12_finishes 45 = .ok (.sipush 148, 3) := by decide +kernel
theorem dX12_finishes_48 : decode cX12_finishes 48 = .ok (.iload_n 3, 1) := by decide +kernel
theorem dX12_finishes_49 : decode cX12_finishes 49 = .ok (.iadd, 1) := by decide +kernel
theorem dX12_finishes_50 : decode cX12_finishes 50 = .ok (.aload_n 0, 1) := by decide +kernel
theorem dX12_finishes_51 : decode cX12_finishes 51 = .ok (.getfield 7, 3) := by decide +kernel
theorem dX12_finishes_54 : decode cX12_finishes 54 = .ok (.iconst 0, 1) := by decide +kernel
theorem dX12_finishes_55 : decode cX12_finishes 55 = .ok (.iaload, 1) := by decide +kernel
theorem dX12_finishes_56 : decode cX12_finishes 56 = .ok (.iastore, 1) := by decide +kernel
theorem dX12_finishes_57 : decode cX12_finishes 57 = .ok (.aload_n 0, 1) := by decide +kernel
theorem dX12_finishes_58 : decode cX12_finishes 58 = .ok (.getfield 7, 3) := by decide +kernel
theorem dX12_finishes_61 : decode cX12_finishes 61 = .ok (.bipush 6, 2) := by decide +kernel
theorem dX12_finishes_63 : decode cX12_finishes 63 = .ok (.dup2, 1) := by decide +kernel
theorem dX12_finishes_64 : decode cX12_finishes 64 = .ok (.iaload, 1) := by decide +kernel
theorem dX12_finishes_65 : decode cX12_finishes 65 = .ok (.iconst 1, 1) := by decide +kernel
theorem dX12_finishes_66 : decode cX12_finishes 66 = .ok (.iadd, 1) := by decide +kernel
theorem dX12_finishes_67 : decode cX12_finishes 67 = .ok (.iastore, 1) := by decide +kernel
theorem dX12_finishes_68 : decode cX12_finishes 68 = .ok (.aload_n 0, 1) := by decide +kernel
theorem dX12_finishes_69 : decode cX12_finishes 69 = .ok (.getfield 7, 3) := by decide +kernel
theorem dX12_finishes_72 : decode cX12_finishes 72 = .ok (.bipush 13, 2) := by decide +kernel
theorem dX12_finishes_74 : decode cX12_finishes 74 = .ok (.iload_n 1, 1) := by decide +kernel
theorem dX12_finishes_75 : decode cX12_finishes 75 = .ok (.iadd, 1) := by decide +kernel
theorem dX12_finishes_76 : decode cX12_finishes 76 = .ok (.iconst 0, 1) := by decide +kernel
theorem dX12_finishes_77 : decode cX12_finishes 77 = .ok (.iastore, 1) := by decide +kernel
theorem dX12_finishes_78 : decode cX12_finishes 78 = .ok (.aload_n 0, 1) := by decide +kernel
theorem dX12_finishes_79 : decode cX12_finishes 79 = .ok (.iload_n 2, 1) := by decide +kernel
theorem dX12_finishes_80 : decode cX12_finishes 80 = .ok (.invokevirtual 97, 3) := by decide +kernel
theorem dX12_finishes_83 : decode cX12_finishes 83 = .ok (.return_, 1) := by decide +kernel
theorem dX12_grinds_0 : decode cX12_grinds 0 = .ok (.aload_n 0, 1) := by decide +kernel
theorem dX12_grinds_1 : decode cX12_grinds 1 = .ok (.aload_n 0, 1) := by decide +kernel
theorem dX12_grinds_2 : decode cX12_grinds 2 = .ok (.getfield 7, 3) := by decide +kernel
theorem dX12_grinds_5 : decode cX12_grinds 5 = .ok (.bipush 13, 2) := by decide +kernel
theorem dX12_grinds_7 : decode cX12_grinds 7 = .ok (.iload_n 1, 1) := by decide +kernel
theorem dX12_grinds_8 : decode cX12_grinds 8 = .ok (.iadd, 1) := by decide +kernel
theorem dX12_grinds_9 : decode cX12_grinds 9 = .ok (.iaload, 1) := by decide +kernel
theorem dX12_grinds_10 : decode cX12_grinds 10 = .ok (.iconst 1, 1) := by decide +kernel
theorem dX12_grinds_11 : decode cX12_grinds 11 = .ok (.isub, 1) := by decide +kernel
theorem dX12_grinds_12 : decode cX12_grinds 12 = .ok (.invokevirtual 94, 3) := by decide +kernel
theorem dX12_grinds_15 : decode cX12_grinds 15 = .ok (.istore_n 2, 1) := by decide +kernel
theorem dX12_grinds_16 : decode cX12_grinds 16 = .ok (.iconst 2, 1) := by decide +kernel
theorem dX12_grinds_17 : decode cX12_grinds 17 = .ok (.aload_n 0, 1) := by decide +kernel
theorem dX12_grinds_18 : decode cX12_grinds 18 = .ok (.getfield 7, 3) := by decide +kernel
theorem dX12_grinds_21 : decode cX12_grinds 21 = .ok (.bipush 7, 2) := by decide +kernel
theorem dX12_grinds_23 : decode cX12_grinds 23 = .ok (.iload_n 1, 1) := by decide +kernel
theorem dX12_grinds_24 : decode cX12_grinds 24 = .ok (.iadd, 1) := by decide +kernel
theorem dX12_grinds_25 : decode cX12_grinds 25 = .ok (.iaload, 1) := by decide +kernel
theorem dX12_grinds_26 : decode cX12_grinds 26 = .ok (.imul, 1) := by decide +kernel
theorem dX12_grinds_27 : decode cX12_grinds 27 = .ok (.istore_n 3, 1) := by decide +kernel
theorem dX12_grinds_28 : decode cX12_grinds 28 = .ok (.iload_n 3, 1) := by decide +kernel
theorem dX12_grinds_29 : decode cX12_grinds 29 = .ok (.aload_n 0, 1) := by decide +kernel
theorem dX12_grinds_30 : decode cX12_grinds 30 = .ok (.getfield 7, 3) := by decide +kernel
theorem dX12_grinds_33 : decode cX12_grinds 33 = .ok (.bipush 117, 2) := by decide +kernel
theorem dX12_grinds_35 : decode cX12_grinds 35 = .ok (.iload_n 2, 1) := by decide +kernel
theorem dX12_grinds_36 : decode cX12_grinds 36 = .ok (.iadd, 1) := by decide +kernel
theorem dX12_grinds_37 : decode cX12_grinds 37 = .ok (.iaload, 1) := by decide +kernel
theorem dX12_grinds_38 : decode cX12_grinds 38 = .ok (.if_icmp .ge 7, 3) := by decide +kernel
theorem dX12_grinds_41 : decode cX12_grinds 41 = .ok (.iload_n 3, 1) := by decide +kernel
theorem dX12_grinds_42 : decode cX12_grinds 42 = .ok (.goto 12, 3) := by decide +kernel
theorem dX12_grinds_45 : decode cX12_grinds 45 = .ok (.aload_n 0, 1) := by decide +kernel
theorem dX12_grinds_46 : decode cX12_grinds 46 = .ok (.getfield 7, 3) := by decide +kernel
theorem dX12_grinds_49 : decode cX12_grinds 49 = .ok (.bipush 117, 2) := by decide +kernel
theorem dX12_grinds_51 : decode cX12_grinds 51 = .ok (.iload_n 2, 1) := by decide +kernel
theorem dX12_grinds_52 : decode cX12_grinds 52 = .ok (.iadd, 1) := by decide +kernel
theorem dX12_grinds_53 : decode cX12_grinds 53 = .ok (.iaload, 1) := by decide +kernel
theorem dX12_grinds_54 : decode cX12_grinds 54 = .ok (.istore 4, 2) := by decide +kernel
theorem dX12_grinds_56 : decode cX12_grinds 56 = .ok (.aload_n 0, 1) := by decide +kernel
theorem dX12_grinds_57 : decode cX12_grinds 57 = .ok (.getfield 7, 3) := by decide +kernel
theorem dX12_grinds_60 : decode cX12_grinds 60 = .ok (.bipush 87, 2) := by decide +kernel
theorem dX12_grinds_62 : decode cX12_grinds 62 = .ok (.iload_n 2, 1) := by decide +kernel
theorem dX12_grinds_63 : decode cX12_grinds 63 = .ok (.iadd, 1) := by decide +kernel
theorem dX12_grinds_64 : decode cX12_grinds 64 = .ok (.iaload, 1) := by decide +kernel
theorem dX12_grinds_65 : decode cX12_grinds 65 = .ok (.istore 5, 2) := by decide +kernel
theorem dX12_grinds_67 : decode cX12_grinds 67 = .ok (.aload_n 0, 1) := by decide +kernel
theorem dX12_grinds_68 : decode cX12_grinds 68 = .ok (.getfield 7, 3) := by decide +kernel
theorem dX12_grinds_71 : decode cX12_grinds 71 = .ok (.bipush 117, 2) := by decide +kernel
theorem dX12_grinds_73 : decode cX12_grinds 73 = .ok (.iload_n 2, 1) := by decide +kernel
theorem dX12_grinds_74 : decode cX12_grinds 74 = .ok (.iadd, 1) := by decide +kernel
theorem dX12_grinds_75 : decode cX12_grinds 75 = .ok (.dup2, 1) := by decide +kernel
theorem dX12_grinds_76 : decode cX12_grinds 76 = .ok (.iaload, 1) := by decide +kernel
theorem dX12_grinds_77 : decode cX12_grinds 77 = .ok (.iload 4, 2) := by decide +kernel
theorem dX12_grinds_79 : decode cX12_grinds 79 = .ok (.isub, 1) := by decide +kernel
theorem dX12_grinds_80 : decode cX12_grinds 80 = .ok (.iastore, 1) := by decide +kernel
theorem dX12_grinds_81 : decode cX12_grinds 81 = .ok (.aload_n 0, 1) := by decide +kernel
theorem dX12_grinds_82 : decode cX12_grinds 82 = .ok (.getfield 7, 3) := by decide +kernel
theorem dX12_grinds_85 : decode cX12_grinds 85 = .ok (.bipush 10, 2) := by decide +kernel
theorem dX12_grinds_87 : decode cX12_grinds 87 = .ok (.iload_n 1, 1) := by decide +kernel
theorem dX12_grinds_88 : decode cX12_grinds 88 = .ok (.iadd, 1) := by decide +kernel
theorem dX12_grinds_89 : decode cX12_grinds 89 = .ok (.dup2, 1) := by decide +kernel
theorem dX12_grinds_90 : decode cX12_grinds 90 = .ok (.iaload, 1) := by decide +kernel
theorem dX12_grinds_91 : decode cX12_grinds 91 = .ok (.aload_n 0, 1) := by decide +kernel
theorem dX12_grinds_92 : decode cX12_grinds 92 = .ok (.getfield 7, 3) := by decide +kernel
theorem dX12_grinds_95 : decode cX12_grinds 95 = .ok (.bipush 7, 2) := by decide +kernel
theorem dX12_grinds_97 : decode cX12_grinds 97 = .ok (.iload_n 1, 1) := by decide +kernel
theorem dX12_grinds_98 : decode cX12_grinds 98 = .ok (.iadd, 1) := by decide +kernel
theorem dX12_grinds_99 : decode cX12_grinds 99 = .ok (.iaload, 1) := by decide +kernel
theorem dX12_grinds_100 : decode cX12_grinds 100 = .ok (.iadd, 1) := by decide +kernel
theorem dX12_grinds_101 : decode cX12_grinds 101 = .ok (.iastore, 1) := by decide +kernel
theorem dX12_grinds_102 : decode cX12_grinds 102 = .ok (.aload_n 0, 1) := by decide +kernel
theorem dX12_grinds_103 : decode cX12_grinds 103 = .ok (.getfield 7, 3) := by decide +kernel
theorem dX12_grinds_106 : decode cX12_grinds 106 = .ok (.iconst 3, 1) := by decide +kernel
theorem dX12_grinds_107 : decode cX12_grinds 107 = .ok (.dup2, 1) := by decide +kernel
theorem dX12_grinds_108 : decode cX12_grinds 108 = .ok (.iaload, 1) := by decide +kernel
theorem dX12_grinds_109 : decode cX12_grinds 109 = .ok (.iload 4, 2) := by decide +kernel
theorem dX12_grinds_111 : decode cX12_grinds 111 = .ok (.iadd, 1) := by decide +kernel
theorem dX12_grinds_112 : decode cX12_grinds 112 = .ok (.iastore, 1) := by decide +kernel
theorem dX12_grinds_113 : decode cX12_grinds 113 = .ok (.aload_n 0, 1) := by decide +kernel
theorem dX12_grinds_114 : decode cX12_grinds 114 = .ok (.getfield 7, 3) := by decide +kernel
theorem dX12_grinds_117 : decode cX12_grinds 117 = .ok (.bipush 64, 2) := by decide +kernel
theorem dX12_grinds_119 : decode cX12_grinds 119 = .ok (.iload 5, 2) := by decide +kernel
theorem dX12_grinds_121 : decode cX12_grinds 121 = .ok (.iadd, 1) := by decide +kernel
theorem dX12_grinds_122 : decode cX12_grinds 122 = .ok (.iconst 1, 1) := by decide +kernel
theorem dX12_grinds_123 : decode cX12_grinds 123 = .ok (.iastore, 1) := by decide +kernel
theorem dX12_grinds_124 : decode cX12_grinds 124 = .ok (.aload_n 0, 1) := by decide +kernel
theorem dX12_grinds_125 : decode cX12_grinds 125 = .ok (.iload 5, 2) := by decide +kernel
theorem dX12_grinds_127 : decode cX12_grinds 127 = .ok (.iload 4, 2) := by decide +kernel
theorem dX12_grinds_129 : decode cX12_grinds 129 = .ok (.invokevirtual 126, 3) := by decide +kernel
theorem dX12_grinds_132 : decode cX12_grinds 132 = .ok (.aload_n 0, 1) := by decide +kernel
theorem dX12_grinds_133 : decode cX12_grinds 133 = .ok (.getfield 7, 3) := by decide +kernel
theorem dX12_grinds_136 : decode cX12_grinds 136 = .ok (.bipush 117, 2) := by decide +kernel
theorem dX12_grinds_138 : decode cX12_grinds 138 = .ok (.iload_n 2, 1) := by decide +kernel
theorem dX12_grinds_139 : decode cX12_grinds 139 = .ok (.iadd, 1) := by decide +kernel
theorem dX12_grinds_140 : decode cX12_grinds 140 = .ok (.iaload, 1) := by decide +kernel
theorem dX12_grinds_141 : decode cX12_grinds 141 = .ok (.ifCond .ne 9, 3) := by decide +kernel
theorem dX12_grinds_144 : decode cX12_grinds 144 = .ok (.aload_n 0, 1) := by decide +kernel
theorem dX12_grinds_145 : decode cX12_grinds 145 = .ok (.iload_n 1, 1) := by decide +kernel
theorem dX12_grinds_146 : decode cX12_grinds 146 = .ok (.iload_n 2, 1) := by decide +kernel
theorem dX12_grinds_147 : decode cX12_grinds 147 = .ok (.invokevirtual 130, 3) := by decide +kernel
theorem dX12_grinds_150 : decode cX12_grinds 150 = .ok (.return_, 1) := by decide +kernel
theorem dX12_acts_0 : decode cX12_acts 0 = .ok (.aload_n 0, 1) := by decide +kernel
theorem dX12_acts_1 : decode cX12_acts 1 = .ok (.getfield 7, 3) := by decide +kernel
theorem dX12_acts_4 : decode cX12_acts 4 = .ok (.bipush 10, 2) := by decide +kernel
theorem dX12_acts_6 : decode cX12_acts 6 = .ok (.iload_n 1, 1) := by decide +kernel
theorem dX12_acts_7 : decode cX12_acts 7 = .ok (.iadd, 1) := by decide +kernel
theorem dX12_acts_8 : decode cX12_acts 8 = .ok (.iaload, 1) := by decide +kernel
theorem dX12_acts_9 : decode cX12_acts 9 = .ok (.bipush 12, 2) := by decide +kernel
theorem dX12_acts_11 : decode cX12_acts 11 = .ok (.if_icmp .lt 4, 3) := by decide +kernel
theorem dX12_acts_14 : decode cX12_acts 14 = .ok (.return_, 1) := by decide +kernel
theorem dX12_acts_15 : decode cX12_acts 15 = .ok (.aload_n 0, 1) := by decide +kernel
theorem dX12_acts_16 : decode cX12_acts 16 = .ok (.iconst 0, 1) := by decide +kernel
theorem dX12_acts_17 : decode cX12_acts 17 = .ok (.invokevirtual 133, 3) := by decide +kernel
theorem dX12_acts_20 : decode cX12_acts 20 = .ok (.istore_n 2, 1) := by decide +kernel
theorem dX12_acts_21 : decode cX12_acts 21 = .ok (.aload_n 0, 1) := by decide +kernel
theorem dX12_acts_22 : decode cX12_acts 22 = .ok (.getfield 7, 3) := by decide +kernel
theorem dX12_acts_25 : decode cX12_acts 25 = .ok (.bipush 13, 2) := by decide +kernel
theorem dX12_acts_27 : decode cX12_acts 27 = .ok (.iload_n 1, 1) := by decide +kernel
theorem dX12_acts_28 : decode cX12_acts 28 = .ok (.iadd, 1) := by decide +kernel
theorem dX12_acts_29 : decode cX12_acts 29 = .ok (.iaload, 1) := by decide +kernel
theorem dX12_acts_30 : decode cX12_acts 30 = .ok (.ifCond .ne 28, 3) := by decide +kernel
theorem dX12_acts_33 : decode cX12_acts 33 = .ok (.iload_n 2, 1) := by decide +kernel
theorem dX12_acts_34 : decode cX12_acts 34 = .ok (.iconst (-1), 1) := by decide +kernel
theorem dX12_acts_35 : decode cX12_acts 35 = .ok (.if_icmp .eq 23, 3) := by decide +kernel
theorem dX12_acts_38 : decode cX12_acts 38 = .ok (.aload_n 0, 1) := by decide +kernel
theorem dX12_acts_39 : decode cX12_acts 39 = .ok (.getfield 7, 3) := by decide +kernel
theorem dX12_acts_42 : decode cX12_acts 42 = .ok (.bipush 13, 2) := by decide +kernel
theorem dX12_acts_44 : decode cX12_acts 44 = .ok (.iload_n 1, 1) := by decide +kernel
theorem dX12_acts_45 : decode cX12_acts 45 = .ok (.iadd, 1) := by decide +kernel
theorem dX12_acts_46 : decode cX12_acts 46 = .ok (.aload_n 0, 1) := by decide +kernel
theorem dX12_acts_47 : decode cX12_acts 47 = .ok (.getfield 7, 3) := by decide +kernel
theorem dX12_acts_50 : decode cX12_acts 50 = .ok (.bipush 72, 2) := by decide +kernel
theorem dX12_acts_52 : decode cX12_acts 52 = .ok (.iload_n 2, 1) := by decide +kernel
theorem dX12_acts_53 : decode cX12_acts 53 = .ok (.iadd, 1) := by decide +kernel
theorem dX12_acts_54 : decode cX12_acts 54 = .ok (.iaload, 1) := by decide +kernel
theorem dX12_acts_55 : decode cX12_acts 55 = .ok (.iconst 1, 1) := by decide +kernel
theorem dX12_acts_56 : decode cX12_acts 56 = .ok (.iadd, 1) := by decide +kernel
theorem dX12_acts_57 : decode cX12_acts 57 = .ok (.iastore, 1) := by decide +kernel
theorem dX12_acts_58 : decode cX12_acts 58 = .ok (.aload_n 0, 1) := by decide +kernel
theorem dX12_acts_59 : decode cX12_acts 59 = .ok (.getfield 7, 3) := by decide +kernel
theorem dX12_acts_62 : decode cX12_acts 62 = .ok (.bipush 13, 2) := by decide +kernel
theorem dX12_acts_64 : decode cX12_acts 64 = .ok (.iload_n 1, 1) := by decide +kernel
theorem dX12_acts_65 : decode cX12_acts 65 = .ok (.iadd, 1) := by decide +kernel
theorem dX12_acts_66 : decode cX12_acts 66 = .ok (.iaload, 1) := by decide +kernel
theorem dX12_acts_67 : decode cX12_acts 67 = .ok (.ifCond .le 8, 3) := by decide +kernel
theorem dX12_acts_70 : decode cX12_acts 70 = .ok (.aload_n 0, 1) := by decide +kernel
theorem dX12_acts_71 : decode cX12_acts 71 = .ok (.iload_n 1, 1) := by decide +kernel
theorem dX12_acts_72 : decode cX12_acts 72 = .ok (.invokevirtual 136, 3) := by decide +kernel
theorem dX12_acts_75 : decode cX12_acts 75 = .ok (.return_, 1) := by decide +kernel
theorem dX12_step_0 : decode cX12_step 0 = .ok (.aload_n 0, 1) := by decide +kernel
theorem dX12_step_1 : decode cX12_step 1 = .ok (.getfield 7, 3) := by decide +kernel
theorem dX12_step_4 : decode cX12_step 4 = .ok (.iconst 0, 1) := by decide +kernel
theorem dX12_step_5 : decode cX12_step 5 = .ok (.dup2, 1) := by decide +kernel
theorem dX12_step_6 : decode cX12_step 6 = .ok (.iaload, 1) := by decide +kernel
theorem dX12_step_7 : decode cX12_step 7 = .ok (.iconst 1, 1) := by decide +kernel
theorem dX12_step_8 : decode cX12_step 8 = .ok (.iadd, 1) := by decide +kernel
theorem dX12_step_9 : decode cX12_step 9 = .ok (.iastore, 1) := by decide +kernel
theorem dX12_step_10 : decode cX12_step 10 = .ok (.iconst 0, 1) := by decide +kernel
theorem dX12_step_11 : decode cX12_step 11 = .ok (.istore_n 1, 1) := by decide +kernel
theorem dX12_step_12 : decode cX12_step 12 = .ok (.iload_n 1, 1) := by decide +kernel
theorem dX12_step_13 : decode cX12_step 13 = .ok (.iconst 3, 1) := by decide +kernel
theorem dX12_step_14 : decode cX12_step 14 = .ok (.if_icmp .ge 14, 3) := by decide +kernel
theorem dX12_step_17 : decode cX12_step 17 = .ok (.aload_n 0, 1) := by decide +kernel
theorem dX12_step_18 : decode cX12_step 18 = .ok (.iload_n 1, 1) := by decide +kernel
theorem dX12_step_19 : decode cX12_step 19 = .ok (.invokevirtual 139, 3) := by decide +kernel
theorem dX12_step_22 : decode cX12_step 22 = .ok (.iinc 1 1, 3) := by decide +kernel
theorem dX12_step_25 : decode cX12_step 25 = .ok (.goto (-13), 3) := by decide +kernel
theorem dX12_step_28 : decode cX12_step 28 = .ok (.return_, 1) := by decide +kernel
theorem dX12_advances_0 : decode cX12_advances 0 = .ok (.iload_n 1, 1) := by decide +kernel
theorem dX12_advances_1 : decode cX12_advances 1 = .ok (.iconst 1, 1) := by decide +kernel
theorem dX12_advances_2 : decode cX12_advances 2 = .ok (.bipush 40, 2) := by decide +kernel
theorem dX12_advances_4 : decode cX12_advances 4 = .ok (.invokestatic 52, 3) := by decide +kernel
theorem dX12_advances_7 : decode cX12_advances 7 = .ok (.ifCond .ne 9, 3) := by decide +kernel
theorem dX12_advances_10 : decode cX12_advances 10 = .ok (.aload_n 0, 1) := by decide +kernel
theorem dX12_advances_11 : decode cX12_advances 11 = .ok (.iconst 1, 1) := by decide +kernel
theorem dX12_advances_12 : decode cX12_advances 12 = .ok (.invokevirtual 74, 3) := by decide +kernel
theorem dX12_advances_15 : decode cX12_advances 15 = .ok (.ireturn, 1) := by decide +kernel
theorem dX12_advances_16 : decode cX12_advances 16 = .ok (.aload_n 0, 1) := by decide +kernel
theorem dX12_advances_17 : decode cX12_advances 17 = .ok (.getfield 7, 3) := by decide +kernel
theorem dX12_advances_20 : decode cX12_advances 20 = .ok (.iconst 3, 1) := by decide +kernel
theorem dX12_advances_21 : decode cX12_advances 21 = .ok (.iaload, 1) := by decide +kernel
theorem dX12_advances_22 : decode cX12_advances 22 = .ok (.istore_n 2, 1) := by decide +kernel
theorem dX12_advances_23 : decode cX12_advances 23 = .ok (.iconst 0, 1) := by decide +kernel
theorem dX12_advances_24 : decode cX12_advances 24 = .ok (.istore_n 3, 1) := by decide +kernel
theorem dX12_advances_25 : decode cX12_advances 25 = .ok (.iload_n 3, 1) := by decide +kernel
theorem dX12_advances_26 : decode cX12_advances 26 = .ok (.iload_n 1, 1) := by decide +kernel
theorem dX12_advances_27 : decode cX12_advances 27 = .ok (.if_icmp .ge 13, 3) := by decide +kernel
theorem dX12_advances_30 : decode cX12_advances 30 = .ok (.aload_n 0, 1) := by decide +kernel
theorem dX12_advances_31 : decode cX12_advances 31 = .ok (.invokevirtual 142, 3) := by decide +kernel
theorem dX12_advances_34 : decode cX12_advances 34 = .ok (.iinc 3 1, 3) := by decide +kernel
theorem dX12_advances_37 : decode cX12_advances 37 = .ok (.goto (-12), 3) := by decide +kernel
theorem dX12_advances_40 : decode cX12_advances 40 = .ok (.aload_n 0, 1) := by decide +kernel
theorem dX12_advances_41 : decode cX12_advances 41 = .ok (.aload_n 0, 1) := by decide +kernel
theorem dX12_advances_42 : decode cX12_advances 42 = .ok (.getfield 7, 3) := by decide +kernel
theorem dX12_advances_45 : decode cX12_advances 45 = .ok (.iconst 3, 1) := by decide +kernel
theorem dX12_advances_46 : decode cX12_advances 46 = .ok (.iaload, 1) := by decide +kernel
theorem dX12_advances_47 : decode cX12_advances 47 = .ok (.iload_n 2, 1) := by decide +kernel
theorem dX12_advances_48 : decode cX12_advances 48 = .ok (.isub, 1) := by decide +kernel
theorem dX12_advances_49 : decode cX12_advances 49 = .ok (.invokevirtual 81, 3) := by decide +kernel
theorem dX12_advances_52 : decode cX12_advances 52 = .ok (.ireturn, 1) := by decide +kernel
theorem dX12_advance_0 : decode cX12_advance 0 = .ok (.aload_n 0, 1) := by decide +kernel
theorem dX12_advance_1 : decode cX12_advance 1 = .ok (.invokevirtual 84, 3) := by decide +kernel
theorem dX12_advance_4 : decode cX12_advance 4 = .ok (.aload_n 0, 1) := by decide +kernel
theorem dX12_advance_5 : decode cX12_advance 5 = .ok (.aload_n 0, 1) := by decide +kernel
theorem dX12_advance_6 : decode cX12_advance 6 = .ok (.iload_n 1, 1) := by decide +kernel
theorem dX12_advance_7 : decode cX12_advance 7 = .ok (.invokevirtual 145, 3) := by decide +kernel
theorem dX12_advance_10 : decode cX12_advance 10 = .ok (.invokevirtual 91, 3) := by decide +kernel
theorem dX12_advance_13 : decode cX12_advance 13 = .ok (.ireturn, 1) := by decide +kernel
theorem dX12_time_0 : decode cX12_time 0 = .ok (.aload_n 0, 1) := by decide +kernel
theorem dX12_time_1 : decode cX12_time 1 = .ok (.aload_n 0, 1) := by decide +kernel
theorem dX12_time_2 : decode cX12_time 2 = .ok (.getfield 7, 3) := by decide +kernel
theorem dX12_time_5 : decode cX12_time 5 = .ok (.iconst 0, 1) := by decide +kernel
theorem dX12_time_6 : decode cX12_time 6 = .ok (.iaload, 1) := by decide +kernel
theorem dX12_time_7 : decode cX12_time 7 = .ok (.invokevirtual 81, 3) := by decide +kernel
theorem dX12_time_10 : decode cX12_time 10 = .ok (.ireturn, 1) := by decide +kernel
theorem dX12_waitingCount_0 : decode cX12_waitingCount 0 = .ok (.aload_n 0, 1) := by decide +kernel
theorem dX12_waitingCount_1 : decode cX12_waitingCount 1 = .ok (.aload_n 0, 1) := by decide +kernel
theorem dX12_waitingCount_2 : decode cX12_waitingCount 2 = .ok (.invokevirtual 77, 3) := by decide +kernel
theorem dX12_waitingCount_5 : decode cX12_waitingCount 5 = .ok (.invokevirtual 81, 3) := by decide +kernel
theorem dX12_waitingCount_8 : decode cX12_waitingCount 8 = .ok (.ireturn, 1) := by decide +kernel
theorem dX12_waitingAt_0 : decode cX12_waitingAt 0 = .ok (.aload_n 0, 1) := by decide +kernel
theorem dX12_waitingAt_1 : decode cX12_waitingAt 1 = .ok (.iload_n 1, 1) := by decide +kernel
theorem dX12_waitingAt_2 : decode cX12_waitingAt 2 = .ok (.invokevirtual 133, 3) := by decide +kernel
theorem dX12_waitingAt_5 : decode cX12_waitingAt 5 = .ok (.istore_n 2, 1) := by decide +kernel
theorem dX12_waitingAt_6 : decode cX12_waitingAt 6 = .ok (.iload_n 2, 1) := by decide +kernel
theorem dX12_waitingAt_7 : decode cX12_waitingAt 7 = .ok (.iconst (-1), 1) := by decide +kernel
theorem dX12_waitingAt_8 : decode cX12_waitingAt 8 = .ok (.if_icmp .ne 11, 3) := by decide +kernel
theorem dX12_waitingAt_11 : decode cX12_waitingAt 11 = .ok (.aload_n 0, 1) := by decide +kernel
theorem dX12_waitingAt_12 : decode cX12_waitingAt 12 = .ok (.iconst 1, 1) := by decide +kernel
theorem dX12_waitingAt_13 : decode cX12_waitingAt 13 = .ok (.invokevirtual 74, 3) := by decide +kernel
theorem dX12_waitingAt_16 : decode cX12_waitingAt 16 = .ok (.goto 16, 3) := by decide +kernel
theorem dX12_waitingAt_19 : decode cX12_waitingAt 19 = .ok (.aload_n 0, 1) := by decide +kernel
theorem dX12_waitingAt_20 : decode cX12_waitingAt 20 = .ok (.aload_n 0, 1) := by decide +kernel
theorem dX12_waitingAt_21 : decode cX12_waitingAt 21 = .ok (.getfield 7, 3) := by decide +kernel
theorem dX12_waitingAt_24 : decode cX12_waitingAt 24 = .ok (.bipush 72, 2) := by decide +kernel
theorem dX12_waitingAt_26 : decode cX12_waitingAt 26 = .ok (.iload_n 2, 1) := by decide +kernel
theorem dX12_waitingAt_27 : decode cX12_waitingAt 27 = .ok (.iadd, 1) := by decide +kernel
theorem dX12_waitingAt_28 : decode cX12_waitingAt 28 = .ok (.iaload, 1) := by decide +kernel
theorem dX12_waitingAt_29 : decode cX12_waitingAt 29 = .ok (.invokevirtual 81, 3) := by decide +kernel
theorem dX12_waitingAt_32 : decode cX12_waitingAt 32 = .ok (.ireturn, 1) := by decide +kernel
theorem dX12_rankOf_0 : decode cX12_rankOf 0 = .ok (.aload_n 0, 1) := by decide +kernel
theorem dX12_rankOf_1 : decode cX12_rankOf 1 = .ok (.iload_n 1, 1) := by decide +kernel
theorem dX12_rankOf_2 : decode cX12_rankOf 2 = .ok (.invokevirtual 94, 3) := by decide +kernel
theorem dX12_rankOf_5 : decode cX12_rankOf 5 = .ok (.istore_n 2, 1) := by decide +kernel
theorem dX12_rankOf_6 : decode cX12_rankOf 6 = .ok (.iload_n 2, 1) := by decide +kernel
theorem dX12_rankOf_7 : decode cX12_rankOf 7 = .ok (.iconst (-1), 1) := by decide +kernel
theorem dX12_rankOf_8 : decode cX12_rankOf 8 = .ok (.if_icmp .ne 9, 3) := by decide +kernel
theorem dX12_rankOf_11 : decode cX12_rankOf 11 = .ok (.aload_n 0, 1) := by decide +kernel
theorem dX12_rankOf_12 : decode cX12_rankOf 12 = .ok (.iconst 1, 1) := by decide +kernel
theorem dX12_rankOf_13 : decode cX12_rankOf 13 = .ok (.invokevirtual 74, 3) := by decide +kernel
theorem dX12_rankOf_16 : decode cX12_rankOf 16 = .ok (.ireturn, 1) := by decide +kernel
theorem dX12_rankOf_17 : decode cX12_rankOf 17 = .ok (.aload_n 0, 1) := by decide +kernel
theorem dX12_rankOf_18 : decode cX12_rankOf 18 = .ok (.iload_n 2, 1) := by decide +kernel
theorem dX12_rankOf_19 : decode cX12_rankOf 19 = .ok (.invokevirtual 60, 3) := by decide +kernel
theorem dX12_rankOf_22 : decode cX12_rankOf 22 = .ok (.ifCond .eq 15, 3) := by decide +kernel
theorem dX12_rankOf_25 : decode cX12_rankOf 25 = .ok (.aload_n 0, 1) := by decide +kernel
theorem dX12_rankOf_26 : decode cX12_rankOf 26 = .ok (.aload_n 0, 1) := by decide +kernel
theorem dX12_rankOf_27 : decode cX12_rankOf 27 = .ok (.iload_n 2, 1) := by decide +kernel
theorem dX12_rankOf_28 : decode cX12_rankOf 28 = .ok (.invokevirtual 68, 3) := by decide +kernel
theorem dX12_rankOf_31 : decode cX12_rankOf 31 = .ok (.invokevirtual 81, 3) := by decide +kernel
theorem dX12_rankOf_34 : decode cX12_rankOf 34 = .ok (.goto 8, 3) := by decide +kernel
theorem dX12_rankOf_37 : decode cX12_rankOf 37 = .ok (.aload_n 0, 1) := by decide +kernel
theorem dX12_rankOf_38 : decode cX12_rankOf 38 = .ok (.iconst 2, 1) := by decide +kernel
theorem dX12_rankOf_39 : decode cX12_rankOf 39 = .ok (.invokevirtual 74, 3) := by decide +kernel
theorem dX12_rankOf_42 : decode cX12_rankOf 42 = .ok (.ireturn, 1) := by decide +kernel
theorem dX12_exists_0 : decode cX12_exists 0 = .ok (.aload_n 0, 1) := by decide +kernel
theorem dX12_exists_1 : decode cX12_exists 1 = .ok (.iconst 0, 1) := by decide +kernel
theorem dX12_exists_2 : decode cX12_exists 2 = .ok (.putfield 42, 3) := by decide +kernel
theorem dX12_exists_5 : decode cX12_exists 5 = .ok (.aload_n 0, 1) := by decide +kernel
theorem dX12_exists_6 : decode cX12_exists 6 = .ok (.iload_n 1, 1) := by decide +kernel
theorem dX12_exists_7 : decode cX12_exists 7 = .ok (.invokevirtual 94, 3) := by decide +kernel
theorem dX12_exists_10 : decode cX12_exists 10 = .ok (.iconst (-1), 1) := by decide +kernel
theorem dX12_exists_11 : decode cX12_exists 11 = .ok (.if_icmp .eq 7, 3) := by decide +kernel
theorem dX12_exists_14 : decode cX12_exists 14 = .ok (.iconst 1, 1) := by decide +kernel
theorem dX12_exists_15 : decode cX12_exists 15 = .ok (.goto 4, 3) := by decide +kernel
theorem dX12_exists_18 : decode cX12_exists 18 = .ok (.iconst 0, 1) := by decide +kernel
theorem dX12_exists_19 : decode cX12_exists 19 = .ok (.ireturn, 1) := by decide +kernel
theorem dX12_noiseNumber_0 : decode cX12_noiseNumber 0 = .ok (.aload_n 0, 1) := by decide +kernel
theorem dX12_noiseNumber_1 : decode cX12_noiseNumber 1 = .ok (.iload_n 2, 1) := by decide +kernel
theorem dX12_noiseNumber_2 : decode cX12_noiseNumber 2 = .ok (.invokevirtual 94, 3) := by decide +kernel
theorem dX12_noiseNumber_5 : decode cX12_noiseNumber 5 = .ok (.istore_n 3, 1) := by decide +kernel
theorem dX12_noiseNumber_6 : decode cX12_noiseNumber 6 = .ok (.iload_n 3, 1) := by decide +kernel
theorem dX12_noiseNumber_7 : decode cX12_noiseNumber 7 = .ok (.iconst (-1), 1) := by decide +kernel
theorem dX12_noiseNumber_8 : decode cX12_noiseNumber 8 = .ok (.if_icmp .ne 11, 3) := by decide +kernel
theorem dX12_noiseNumber_11 : decode cX12_noiseNumber 11 = .ok (.aload_n 0, 1) := by decide +kernel
theorem dX12_noiseNumber_12 : decode cX12_noiseNumber 12 = .ok (.iconst 1, 1) := by decide +kernel
theorem dX12_noiseNumber_13 : decode cX12_noiseNumber 13 = .ok (.invokevirtual 74, 3) := by decide +kernel
theorem dX12_noiseNumber_16 : decode cX12_noiseNumber 16 = .ok (.goto 15, 3) := by decide +kernel
theorem dX12_noiseNumber_19 : decode cX12_noiseNumber 19 = .ok (.aload_n 0, 1) := by decide +kernel
theorem dX12_noiseNumber_20 : decode cX12_noiseNumber 20 = .ok (.aload_n 0, 1) := by decide +kernel
theorem dX12_noiseNumber_21 : decode cX12_noiseNumber 21 = .ok (.getfield 7, 3) := by decide +kernel
theorem dX12_noiseNumber_24 : decode cX12_noiseNumber 24 = .ok (.iload_n 1, 1) := by decide +kernel
theorem dX12_noiseNumber_25 : decode cX12_noiseNumber 25 = .ok (.iload_n 3, 1) := by decide +kernel
theorem dX12_noiseNumber_26 : decode cX12_noiseNumber 26 = .ok (.iadd, 1) := by decide +kernel
theorem dX12_noiseNumber_27 : decode cX12_noiseNumber 27 = .ok (.iaload, 1) := by decide +kernel
theorem dX12_noiseNumber_28 : decode cX12_noiseNumber 28 = .ok (.invokevirtual 81, 3) := by decide +kernel
theorem dX12_noiseNumber_31 : decode cX12_noiseNumber 31 = .ok (.ireturn, 1) := by decide +kernel
theorem dX12_band_0 : decode cX12_band 0 = .ok (.aload_n 0, 1) := by decide +kernel
theorem dX12_band_1 : decode cX12_band 1 = .ok (.bipush 87, 2) := by decide +kernel
theorem dX12_band_3 : decode cX12_band 3 = .ok (.iload_n 1, 1) := by decide +kernel
theorem dX12_band_4 : decode cX12_band 4 = .ok (.invokevirtual 148, 3) := by decide +kernel
theorem dX12_band_7 : decode cX12_band 7 = .ok (.ireturn, 1) := by decide +kernel
theorem dX12_loudness_0 : decode cX12_loudness 0 = .ok (.aload_n 0, 1) := by decide +kernel
theorem dX12_loudness_1 : decode cX12_loudness 1 = .ok (.bipush 102, 2) := by decide +kernel
theorem dX12_loudness_3 : decode cX12_loudness 3 = .ok (.iload_n 1, 1) := by decide +kernel
theorem dX12_loudness_4 : decode cX12_loudness 4 = .ok (.invokevirtual 148, 3) := by decide +kernel
theorem dX12_loudness_7 : decode cX12_loudness 7 = .ok (.ireturn, 1) := by decide +kernel
theorem dX12_amount_0 : decode cX12_amount 0 = .ok (.aload_n 0, 1) := by decide +kernel
theorem dX12_amount_1 : decode cX12_amount 1 = .ok (.bipush 117, 2) := by decide +kernel
theorem dX12_amount_3 : decode cX12_amount 3 = .ok (.iload_n 1, 1) := by decide +kernel
theorem dX12_amount_4 : decode cX12_amount 4 = .ok (.invokevirtual 148, 3) := by decide +kernel
theorem dX12_amount_7 : decode cX12_amount 7 = .ok (.ireturn, 1) := by decide +kernel
theorem dX12_isWaiting_0 : decode cX12_isWaiting 0 = .ok (.aload_n 0, 1) := by decide +kernel
theorem dX12_isWaiting_1 : decode cX12_isWaiting 1 = .ok (.iload_n 1, 1) := by decide +kernel
theorem dX12_isWaiting_2 : decode cX12_isWaiting 2 = .ok (.invokevirtual 94, 3) := by decide +kernel
theorem dX12_isWaiting_5 : decode cX12_isWaiting 5 = .ok (.istore_n 2, 1) := by decide +kernel
theorem dX12_isWaiting_6 : decode cX12_isWaiting 6 = .ok (.aload_n 0, 1) := by decide +kernel
theorem dX12_isWaiting_7 : decode cX12_isWaiting 7 = .ok (.iload_n 2, 1) := by decide +kernel
theorem dX12_isWaiting_8 : decode cX12_isWaiting 8 = .ok (.iconst (-1), 1) := by decide +kernel
theorem dX12_isWaiting_9 : decode cX12_isWaiting 9 = .ok (.if_icmp .ne 7, 3) := by decide +kernel
theorem dX12_isWaiting_12 : decode cX12_isWaiting 12 = .ok (.iconst 1, 1) := by decide +kernel
theorem dX12_isWaiting_13 : decode cX12_isWaiting 13 = .ok (.goto 4, 3) := by decide +kernel
theorem dX12_isWaiting_16 : decode cX12_isWaiting 16 = .ok (.iconst 0, 1) := by decide +kernel
theorem dX12_isWaiting_17 : decode cX12_isWaiting 17 = .ok (.putfield 42, 3) := by decide +kernel
theorem dX12_isWaiting_20 : decode cX12_isWaiting 20 = .ok (.aload_n 0, 1) := by decide +kernel
theorem dX12_isWaiting_21 : decode cX12_isWaiting 21 = .ok (.getfield 42, 3) := by decide +kernel
theorem dX12_isWaiting_24 : decode cX12_isWaiting 24 = .ok (.ifCond .ne 15, 3) := by decide +kernel
theorem dX12_isWaiting_27 : decode cX12_isWaiting 27 = .ok (.aload_n 0, 1) := by decide +kernel
theorem dX12_isWaiting_28 : decode cX12_isWaiting 28 = .ok (.iload_n 2, 1) := by decide +kernel
theorem dX12_isWaiting_29 : decode cX12_isWaiting 29 = .ok (.invokevirtual 60, 3) := by decide +kernel
theorem dX12_isWaiting_32 : decode cX12_isWaiting 32 = .ok (.ifCond .eq 7, 3) := by decide +kernel
theorem dX12_isWaiting_35 : decode cX12_isWaiting 35 = .ok (.iconst 1, 1) := by decide +kernel
theorem dX12_isWaiting_36 : decode cX12_isWaiting 36 = .ok (.goto 4, 3) := by decide +kernel
theorem dX12_isWaiting_39 : decode cX12_isWaiting 39 = .ok (.iconst 0, 1) := by decide +kernel
theorem dX12_isWaiting_40 : decode cX12_isWaiting 40 = .ok (.ireturn, 1) := by decide +kernel
theorem dX12_wheelOf_0 : decode cX12_wheelOf 0 = .ok (.aload_n 0, 1) := by decide +kernel
theorem dX12_wheelOf_1 : decode cX12_wheelOf 1 = .ok (.iload_n 1, 1) := by decide +kernel
theorem dX12_wheelOf_2 : decode cX12_wheelOf 2 = .ok (.invokevirtual 94, 3) := by decide +kernel
theorem dX12_wheelOf_5 : decode cX12_wheelOf 5 = .ok (.iconst (-1), 1) := by decide +kernel
theorem dX12_wheelOf_6 : decode cX12_wheelOf 6 = .ok (.if_icmp .ne 7, 3) := by decide +kernel
theorem dX12_wheelOf_9 : decode cX12_wheelOf 9 = .ok (.iconst (-1), 1) := by decide +kernel
theorem dX12_wheelOf_10 : decode cX12_wheelOf 10 = .ok (.goto 8, 3) := by decide +kernel
theorem dX12_wheelOf_13 : decode cX12_wheelOf 13 = .ok (.aload_n 0, 1) := by decide +kernel
theorem dX12_wheelOf_14 : decode cX12_wheelOf 14 = .ok (.iload_n 1, 1) := by decide +kernel
theorem dX12_wheelOf_15 : decode cX12_wheelOf 15 = .ok (.invokevirtual 56, 3) := by decide +kernel
theorem dX12_wheelOf_18 : decode cX12_wheelOf 18 = .ok (.istore_n 2, 1) := by decide +kernel
theorem dX12_wheelOf_19 : decode cX12_wheelOf 19 = .ok (.iload_n 2, 1) := by decide +kernel
theorem dX12_wheelOf_20 : decode cX12_wheelOf 20 = .ok (.iconst (-1), 1) := by decide +kernel
theorem dX12_wheelOf_21 : decode cX12_wheelOf 21 = .ok (.if_icmp .ne 11, 3) := by decide +kernel
theorem dX12_wheelOf_24 : decode cX12_wheelOf 24 = .ok (.aload_n 0, 1) := by decide +kernel
theorem dX12_wheelOf_25 : decode cX12_wheelOf 25 = .ok (.iconst 1, 1) := by decide +kernel
theorem dX12_wheelOf_26 : decode cX12_wheelOf 26 = .ok (.invokevirtual 74, 3) := by decide +kernel
theorem dX12_wheelOf_29 : decode cX12_wheelOf 29 = .ok (.goto 8, 3) := by decide +kernel
theorem dX12_wheelOf_32 : decode cX12_wheelOf 32 = .ok (.aload_n 0, 1) := by decide +kernel
theorem dX12_wheelOf_33 : decode cX12_wheelOf 33 = .ok (.iload_n 2, 1) := by decide +kernel
theorem dX12_wheelOf_34 : decode cX12_wheelOf 34 = .ok (.invokevirtual 81, 3) := by decide +kernel
theorem dX12_wheelOf_37 : decode cX12_wheelOf 37 = .ok (.ireturn, 1) := by decide +kernel
theorem dX12_noiseOn_0 : decode cX12_noiseOn 0 = .ok (.iload_n 1, 1) := by decide +kernel
theorem dX12_noiseOn_1 : decode cX12_noiseOn 1 = .ok (.invokestatic 104, 3) := by decide +kernel
theorem dX12_noiseOn_4 : decode cX12_noiseOn 4 = .ok (.ifCond .ne 9, 3) := by decide +kernel
theorem dX12_noiseOn_7 : decode cX12_noiseOn 7 = .ok (.aload_n 0, 1) := by decide +kernel
theorem dX12_noiseOn_8 : decode cX12_noiseOn 8 = .ok (.iconst 1, 1) := by decide +kernel
theorem dX12_noiseOn_9 : decode cX12_noiseOn 9 = .ok (.invokevirtual 74, 3) := by decide +kernel
theorem dX12_noiseOn_12 : decode cX12_noiseOn 12 = .ok (.ireturn, 1) := by decide +kernel
theorem dX12_noiseOn_13 : decode cX12_noiseOn 13 = .ok (.aload_n 0, 1) := by decide +kernel
theorem dX12_noiseOn_14 : decode cX12_noiseOn 14 = .ok (.getfield 7, 3) := by decide +kernel
theorem dX12_noiseOn_17 : decode cX12_noiseOn 17 = .ok (.bipush 13, 2) := by decide +kernel
theorem dX12_noiseOn_19 : decode cX12_noiseOn 19 = .ok (.iload_n 1, 1) := by decide +kernel
theorem dX12_noiseOn_20 : decode cX12_noiseOn 20 = .ok (.iadd, 1) := by decide +kernel
theorem dX12_noiseOn_21 : decode cX12_noiseOn 21 = .ok (.iaload, 1) := by decide +kernel
theorem dX12_noiseOn_22 : decode cX12_noiseOn 22 = .ok (.ifCond .ne 11, 3) := by decide +kernel
theorem dX12_noiseOn_25 : decode cX12_noiseOn 25 = .ok (.aload_n 0, 1) := by decide +kernel
theorem dX12_noiseOn_26 : decode cX12_noiseOn 26 = .ok (.iconst 2, 1) := by decide +kernel
theorem dX12_noiseOn_27 : decode cX12_noiseOn 27 = .ok (.invokevirtual 74, 3) := by decide +kernel
theorem dX12_noiseOn_30 : decode cX12_noiseOn 30 = .ok (.goto 18, 3) := by decide +kernel
theorem dX12_noiseOn_33 : decode cX12_noiseOn 33 = .ok (.aload_n 0, 1) := by decide +kernel
theorem dX12_noiseOn_34 : decode cX12_noiseOn 34 = .ok (.aload_n 0, 1) := by decide +kernel
theorem dX12_noiseOn_35 : decode cX12_noiseOn 35 = .ok (.getfield 7, 3) := by decide +kernel
theorem dX12_noiseOn_38 : decode cX12_noiseOn 38 = .ok (.bipush 13, 2) := by decide +kernel
theorem dX12_noiseOn_40 : decode cX12_noiseOn 40 = .ok (.iload_n 1, 1) := by decide +kernel
theorem dX12_noiseOn_41 : decode cX12_noiseOn 41 = .ok (.iadd, 1) := by decide +kernel
theorem dX12_noiseOn_42 : decode cX12_noiseOn 42 = .ok (.iaload, 1) := by decide +kernel
theorem dX12_noiseOn_43 : decode cX12_noiseOn 43 = .ok (.iconst 1, 1) := by decide +kernel
theorem dX12_noiseOn_44 : decode cX12_noiseOn 44 = .ok (.isub, 1) := by decide +kernel
theorem dX12_noiseOn_45 : decode cX12_noiseOn 45 = .ok (.invokevirtual 81, 3) := by decide +kernel
theorem dX12_noiseOn_48 : decode cX12_noiseOn 48 = .ok (.ireturn, 1) := by decide +kernel
theorem dX12_wheelNumber_0 : decode cX12_wheelNumber 0 = .ok (.iload_n 2, 1) := by decide +kernel
theorem dX12_wheelNumber_1 : decode cX12_wheelNumber 1 = .ok (.invokestatic 104, 3) := by decide +kernel
theorem dX12_wheelNumber_4 : decode cX12_wheelNumber 4 = .ok (.ifCond .eq 18, 3) := by decide +kernel
theorem dX12_wheelNumber_7 : decode cX12_wheelNumber 7 = .ok (.aload_n 0, 1) := by decide +kernel
theorem dX12_wheelNumber_8 : decode cX12_wheelNumber 8 = .ok (.aload_n 0, 1) := by decide +kernel
theorem dX12_wheelNumber_9 : decode cX12_wheelNumber 9 = .ok (.getfield 7, 3) := by decide +kernel
theorem dX12_wheelNumber_12 : decode cX12_wheelNumber 12 = .ok (.iload_n 1, 1) := by decide +kernel
theorem dX12_wheelNumber_13 : decode cX12_wheelNumber 13 = .ok (.iload_n 2, 1) := by decide +kernel
theorem dX12_wheelNumber_14 : decode cX12_wheelNumber 14 = .ok (.iadd, 1) := by decide +kernel
theorem dX12_wheelNumber_15 : decode cX12_wheelNumber 15 = .ok (.iaload, 1) := by decide +kernel
theorem dX12_wheelNumber_16 : decode cX12_wheelNumber 16 = .ok (.invokevirtual 81, 3) := by decide +kernel
theorem dX12_wheelNumber_19 : decode cX12_wheelNumber 19 = .ok (.goto 8, 3) := by decide +kernel
theorem dX12_wheelNumber_22 : decode cX12_wheelNumber 22 = .ok (.aload_n 0, 1) := by decide +kernel
theorem dX12_wheelNumber_23 : decode cX12_wheelNumber 23 = .ok (.iconst 1, 1) := by decide +kernel
theorem dX12_wheelNumber_24 : decode cX12_wheelNumber 24 = .ok (.invokevirtual 74, 3) := by decide +kernel
theorem dX12_wheelNumber_27 : decode cX12_wheelNumber 27 = .ok (.ireturn, 1) := by decide +kernel
theorem dX12_gear_0 : decode cX12_gear 0 = .ok (.aload_n 0, 1) := by decide +kernel
theorem dX12_gear_1 : decode cX12_gear 1 = .ok (.bipush 7, 2) := by decide +kernel
theorem dX12_gear_3 : decode cX12_gear 3 = .ok (.iload_n 1, 1) := by decide +kernel
theorem dX12_gear_4 : decode cX12_gear 4 = .ok (.invokevirtual 151, 3) := by decide +kernel
theorem dX12_gear_7 : decode cX12_gear 7 = .ok (.ireturn, 1) := by decide +kernel
theorem dX12_wear_0 : decode cX12_wear 0 = .ok (.aload_n 0, 1) := by decide +kernel
theorem dX12_wear_1 : decode cX12_wear 1 = .ok (.bipush 10, 2) := by decide +kernel
theorem dX12_wear_3 : decode cX12_wear 3 = .ok (.iload_n 1, 1) := by decide +kernel
theorem dX12_wear_4 : decode cX12_wear 4 = .ok (.invokevirtual 151, 3) := by decide +kernel
theorem dX12_wear_7 : decode cX12_wear 7 = .ok (.ireturn, 1) := by decide +kernel
theorem dX12_isJammed_0 : decode cX12_isJammed 0 = .ok (.aload_n 0, 1) := by decide +kernel
theorem dX12_isJammed_1 : decode cX12_isJammed 1 = .ok (.bipush 10, 2) := by decide +kernel
theorem dX12_isJammed_3 : decode cX12_isJammed 3 = .ok (.iload_n 1, 1) := by decide +kernel
theorem dX12_isJammed_4 : decode cX12_isJammed 4 = .ok (.invokevirtual 151, 3) := by decide +kernel
theorem dX12_isJammed_7 : decode cX12_isJammed 7 = .ok (.bipush 12, 2) := by decide +kernel
theorem dX12_isJammed_9 : decode cX12_isJammed 9 = .ok (.if_icmp .lt 7, 3) := by decide +kernel
theorem dX12_isJammed_12 : decode cX12_isJammed 12 = .ok (.iconst 1, 1) := by decide +kernel
theorem dX12_isJammed_13 : decode cX12_isJammed 13 = .ok (.goto 4, 3) := by decide +kernel
theorem dX12_isJammed_16 : decode cX12_isJammed 16 = .ok (.iconst 0, 1) := by decide +kernel
theorem dX12_isJammed_17 : decode cX12_isJammed 17 = .ok (.ireturn, 1) := by decide +kernel
theorem dX12_bandNumber_0 : decode cX12_bandNumber 0 = .ok (.iload_n 2, 1) := by decide +kernel
theorem dX12_bandNumber_1 : decode cX12_bandNumber 1 = .ok (.invokestatic 71, 3) := by decide +kernel
theorem dX12_bandNumber_4 : decode cX12_bandNumber 4 = .ok (.ifCond .eq 18, 3) := by decide +kernel
theorem dX12_bandNumber_7 : decode cX12_bandNumber 7 = .ok (.aload_n 0, 1) := by decide +kernel
theorem dX12_bandNumber_8 : decode cX12_bandNumber 8 = .ok (.aload_n 0, 1) := by decide +kernel
theorem dX12_bandNumber_9 : decode cX12_bandNumber 9 = .ok (.getfield 7, 3) := by decide +kernel
theorem dX12_bandNumber_12 : decode cX12_bandNumber 12 = .ok (.iload_n 1, 1) := by decide +kernel
theorem dX12_bandNumber_13 : decode cX12_bandNumber 13 = .ok (.iload_n 2, 1) := by decide +kernel
theorem dX12_bandNumber_14 : decode cX12_bandNumber 14 = .ok (.iadd, 1) := by decide +kernel
theorem dX12_bandNumber_15 : decode cX12_bandNumber 15 = .ok (.iaload, 1) := by decide +kernel
theorem dX12_bandNumber_16 : decode cX12_bandNumber 16 = .ok (.invokevirtual 81, 3) := by decide +kernel
theorem dX12_bandNumber_19 : decode cX12_bandNumber 19 = .ok (.goto 8, 3) := by decide +kernel
theorem dX12_bandNumber_22 : decode cX12_bandNumber 22 = .ok (.aload_n 0, 1) := by decide +kernel
theorem dX12_bandNumber_23 : decode cX12_bandNumber 23 = .ok (.iconst 1, 1) := by decide +kernel
theorem dX12_bandNumber_24 : decode cX12_bandNumber 24 = .ok (.invokevirtual 74, 3) := by decide +kernel
theorem dX12_bandNumber_27 : decode cX12_bandNumber 27 = .ok (.ireturn, 1) := by decide +kernel
theorem dX12_mesh_0 : decode cX12_mesh 0 = .ok (.aload_n 0, 1) := by decide +kernel
theorem dX12_mesh_1 : decode cX12_mesh 1 = .ok (.bipush 16, 2) := by decide +kernel
theorem dX12_mesh_3 : decode cX12_mesh 3 = .ok (.iload_n 1, 1) := by decide +kernel
theorem dX12_mesh_4 : decode cX12_mesh 4 = .ok (.invokevirtual 154, 3) := by decide +kernel
theorem dX12_mesh_7 : decode cX12_mesh 7 = .ok (.ireturn, 1) := by decide +kernel
theorem dX12_isBandGround_0 : decode cX12_isBandGround 0 = .ok (.aload_n 0, 1) := by decide +kernel
theorem dX12_isBandGround_1 : decode cX12_isBandGround 1 = .ok (.bipush 64, 2) := by decide +kernel
theorem dX12_isBandGround_3 : decode cX12_isBandGround 3 = .ok (.iload_n 1, 1) := by decide +kernel
theorem dX12_isBandGround_4 : decode cX12_isBandGround 4 = .ok (.invokevirtual 154, 3) := by decide +kernel
theorem dX12_isBandGround_7 : decode cX12_isBandGround 7 = .ok (.iconst 1, 1) := by decide +kernel
theorem dX12_isBandGround_8 : decode cX12_isBandGround 8 = .ok (.if_icmp .ne 7, 3) := by decide +kernel
theorem dX12_isBandGround_11 : decode cX12_isBandGround 11 = .ok (.iconst 1, 1) := by decide +kernel
theorem dX12_isBandGround_12 : decode cX12_isBandGround 12 = .ok (.goto 4, 3) := by decide +kernel
theorem dX12_isBandGround_15 : decode cX12_isBandGround 15 = .ok (.iconst 0, 1) := by decide +kernel
theorem dX12_isBandGround_16 : decode cX12_isBandGround 16 = .ok (.ireturn, 1) := by decide +kernel
theorem dX12_groundBands_0 : decode cX12_groundBands 0 = .ok (.iconst 0, 1) := by decide +kernel
theorem dX12_groundBands_1 : decode cX12_groundBands 1 = .ok (.istore_n 1, 1) := by decide +kernel
theorem dX12_groundBands_2 : decode cX12_groundBands 2 = .ok (.iconst 0, 1) := by decide +kernel
theorem dX12_groundBands_3 : decode cX12_groundBands 3 = .ok (.istore_n 2, 1) := by decide +kernel
theorem dX12_groundBands_4 : decode cX12_groundBands 4 = .ok (.iload_n 2, 1) := by decide +kernel
theorem dX12_groundBands_5 : decode cX12_groundBands 5 = .ok (.bipush 8, 2) := by decide +kernel
theorem dX12_groundBands_7 : decode cX12_groundBands 7 = .ok (.if_icmp .ge 21, 3) := by decide +kernel
theorem dX12_groundBands_10 : decode cX12_groundBands 10 = .ok (.iload_n 1, 1) := by decide +kernel
theorem dX12_groundBands_11 : decode cX12_groundBands 11 = .ok (.aload_n 0, 1) := by decide +kernel
theorem dX12_groundBands_12 : decode cX12_groundBands 12 = .ok (.getfield 7, 3) := by decide +kernel
theorem dX12_groundBands_15 : decode cX12_groundBands 15 = .ok (.bipush 64, 2) := by decide +kernel
theorem dX12_groundBands_17 : decode cX12_groundBands 17 = .ok (.iload_n 2, 1) := by decide +kernel
theorem dX12_groundBands_18 : decode cX12_groundBands 18 = .ok (.iadd, 1) := by decide +kernel
theorem dX12_groundBands_19 : decode cX12_groundBands 19 = .ok (.iaload, 1) := by decide +kernel
theorem dX12_groundBands_20 : decode cX12_groundBands 20 = .ok (.iadd, 1) := by decide +kernel
theorem dX12_groundBands_21 : decode cX12_groundBands 21 = .ok (.istore_n 1, 1) := by decide +kernel
theorem dX12_groundBands_22 : decode cX12_groundBands 22 = .ok (.iinc 2 1, 3) := by decide +kernel
theorem dX12_groundBands_25 : decode cX12_groundBands 25 = .ok (.goto (-21), 3) := by decide +kernel
theorem dX12_groundBands_28 : decode cX12_groundBands 28 = .ok (.aload_n 0, 1) := by decide +kernel
theorem dX12_groundBands_29 : decode cX12_groundBands 29 = .ok (.iload_n 1, 1) := by decide +kernel
theorem dX12_groundBands_30 : decode cX12_groundBands 30 = .ok (.invokevirtual 81, 3) := by decide +kernel
theorem dX12_groundBands_33 : decode cX12_groundBands 33 = .ok (.ireturn, 1) := by decide +kernel
theorem dX12_flour_0 : decode cX12_flour 0 = .ok (.iload_n 1, 1) := by decide +kernel
theorem dX12_flour_1 : decode cX12_flour 1 = .ok (.invokestatic 120, 3) := by decide +kernel
theorem dX12_flour_4 : decode cX12_flour 4 = .ok (.ifCond .eq 19, 3) := by decide +kernel
theorem dX12_flour_7 : decode cX12_flour 7 = .ok (.aload_n 0, 1) := by decide +kernel
theorem dX12_flour_8 : decode cX12_flour 8 = .ok (.aload_n 0, 1) := by decide +kernel
theorem dX12_flour_9 : decode cX12_flour 9 = .ok (.getfield 7, 3) := by decide +kernel
theorem dX12_flour_12 : decode cX12_flour 12 = .ok (.bipush 28, 2) := by decide +kernel
theorem dX12_flour_14 : decode cX12_flour 14 = .ok (.iload_n 1, 1) := by decide +kernel
theorem dX12_flour_15 : decode cX12_flour 15 = .ok (.iadd, 1) := by decide +kernel
theorem dX12_flour_16 : decode cX12_flour 16 = .ok (.iaload, 1) := by decide +kernel
theorem dX12_flour_17 : decode cX12_flour 17 = .ok (.invokevirtual 81, 3) := by decide +kernel
theorem dX12_flour_20 : decode cX12_flour 20 = .ok (.goto 8, 3) := by decide +kernel
theorem dX12_flour_23 : decode cX12_flour 23 = .ok (.aload_n 0, 1) := by decide +kernel
theorem dX12_flour_24 : decode cX12_flour 24 = .ok (.iconst 1, 1) := by decide +kernel
theorem dX12_flour_25 : decode cX12_flour 25 = .ok (.invokevirtual 74, 3) := by decide +kernel
theorem dX12_flour_28 : decode cX12_flour 28 = .ok (.ireturn, 1) := by decide +kernel
theorem dX12_flourByRecords_0 : decode cX12_flourByRecords 0 = .ok (.aload_n 0, 1) := by decide +kernel
theorem dX12_flourByRecords_1 : decode cX12_flourByRecords 1 = .ok (.iload_n 1, 1) := by decide +kernel
theorem dX12_flourByRecords_2 : decode cX12_flourByRecords 2 = .ok (.invokevirtual 157, 3) := by decide +kernel
theorem dX12_flourByRecords_5 : decode cX12_flourByRecords 5 = .ok (.ireturn, 1) := by decide +kernel
theorem dX12_fullSacks_0 : decode cX12_fullSacks 0 = .ok (.iload_n 1, 1) := by decide +kernel
theorem dX12_fullSacks_1 : decode cX12_fullSacks 1 = .ok (.invokestatic 120, 3) := by decide +kernel
theorem dX12_fullSacks_4 : decode cX12_fullSacks 4 = .ok (.ifCond .eq 22, 3) := by decide +kernel
theorem dX12_fullSacks_7 : decode cX12_fullSacks 7 = .ok (.aload_n 0, 1) := by decide +kernel
theorem dX12_fullSacks_8 : decode cX12_fullSacks 8 = .ok (.aload_n 0, 1) := by decide +kernel
theorem dX12_fullSacks_9 : decode cX12_fullSacks 9 = .ok (.getfield 7, 3) := by decide +kernel
theorem dX12_fullSacks_12 : decode cX12_fullSacks 12 = .ok (.bipush 28, 2) := by decide +kernel
theorem dX12_fullSacks_14 : decode cX12_fullSacks 14 = .ok (.iload_n 1, 1) := by decide +kernel
theorem dX12_fullSacks_15 : decode cX12_fullSacks 15 = .ok (.iadd, 1) := by decide +kernel
theorem dX12_fullSacks_16 : decode cX12_fullSacks 16 = .ok (.iaload, 1) := by decide +kernel
theorem dX12_fullSacks_17 : decode cX12_fullSacks 17 = .ok (.bipush 20, 2) := by decide +kernel
theorem dX12_fullSacks_19 : decode cX12_fullSacks 19 = .ok (.idiv, 1) := by decide +kernel
theorem dX12_fullSacks_20 : decode cX12_fullSacks 20 = .ok (.invokevirtual 81, 3) := by decide +kernel
theorem dX12_fullSacks_23 : decode cX12_fullSacks 23 = .ok (.goto 8, 3) := by decide +kernel
theorem dX12_fullSacks_26 : decode cX12_fullSacks 26 = .ok (.aload_n 0, 1) := by decide +kernel
theorem dX12_fullSacks_27 : decode cX12_fullSacks 27 = .ok (.iconst 1, 1) := by decide +kernel
theorem dX12_fullSacks_28 : decode cX12_fullSacks 28 = .ok (.invokevirtual 74, 3) := by decide +kernel
theorem dX12_fullSacks_31 : decode cX12_fullSacks 31 = .ok (.ireturn, 1) := by decide +kernel
theorem dX12_openSack_0 : decode cX12_openSack 0 = .ok (.iload_n 1, 1) := by decide +kernel
theorem dX12_openSack_1 : decode cX12_openSack 1 = .ok (.invokestatic 120, 3) := by decide +kernel
theorem dX12_openSack_4 : decode cX12_openSack 4 = .ok (.ifCond .eq 22, 3) := by decide +kernel
theorem dX12_openSack_7 : decode cX12_openSack 7 = .ok (.aload_n 0, 1) := by decide +kernel
theorem dX12_openSack_8 : decode cX12_openSack 8 = .ok (.aload_n 0, 1) := by decide +kernel
theorem dX12_openSack_9 : decode cX12_openSack 9 = .ok (.getfield 7, 3) := by decide +kernel
theorem dX12_openSack_12 : decode cX12_openSack 12 = .ok (.bipush 28, 2) := by decide +kernel
theorem dX12_openSack_14 : decode cX12_openSack 14 = .ok (.iload_n 1, 1) := by decide +kernel
theorem dX12_openSack_15 : decode cX12_openSack 15 = .ok (.iadd, 1) := by decide +kernel
theorem dX12_openSack_16 : decode cX12_openSack 16 = .ok (.iaload, 1) := by decide +kernel
theorem dX12_openSack_17 : decode cX12_openSack 17 = .ok (.bipush 20, 2) := by decide +kernel
theorem dX12_openSack_19 : decode cX12_openSack 19 = .ok (.irem, 1) := by decide +kernel
theorem dX12_openSack_20 : decode cX12_openSack 20 = .ok (.invokevirtual 81, 3) := by decide +kernel
theorem dX12_openSack_23 : decode cX12_openSack 23 = .ok (.goto 8, 3) := by decide +kernel
theorem dX12_openSack_26 : decode cX12_openSack 26 = .ok (.aload_n 0, 1) := by decide +kernel
theorem dX12_openSack_27 : decode cX12_openSack 27 = .ok (.iconst 1, 1) := by decide +kernel
theorem dX12_openSack_28 : decode cX12_openSack 28 = .ok (.invokevirtual 74, 3) := by decide +kernel
theorem dX12_openSack_31 : decode cX12_openSack 31 = .ok (.ireturn, 1) := by decide +kernel
theorem dX12_shippedSacks_0 : decode cX12_shippedSacks 0 = .ok (.iload_n 1, 1) := by decide +kernel
theorem dX12_shippedSacks_1 : decode cX12_shippedSacks 1 = .ok (.invokestatic 120, 3) := by decide +kernel
theorem dX12_shippedSacks_4 : decode cX12_shippedSacks 4 = .ok (.ifCond .eq 19, 3) := by decide +kernel
theorem dX12_shippedSacks_7 : decode cX12_shippedSacks 7 = .ok (.aload_n 0, 1) := by decide +kernel
theorem dX12_shippedSacks_8 : decode cX12_shippedSacks 8 = .ok (.aload_n 0, 1) := by decide +kernel
theorem dX12_shippedSacks_9 : decode cX12_shippedSacks 9 = .ok (.getfield 7, 3) := by decide +kernel
theorem dX12_shippedSacks_12 : decode cX12_shippedSacks 12 = .ok (.bipush 24, 2) := by decide +kernel
theorem dX12_shippedSacks_14 : decode cX12_shippedSacks 14 = .ok (.iload_n 1, 1) := by decide +kernel
theorem dX12_shippedSacks_15 : decode cX12_shippedSacks 15 = .ok (.iadd, 1) := by decide +kernel
theorem dX12_shippedSacks_16 : decode cX12_shippedSacks 16 = .ok (.iaload, 1) := by decide +kernel
theorem dX12_shippedSacks_17 : decode cX12_shippedSacks 17 = .ok (.invokevirtual 81, 3) := by decide +kernel
theorem dX12_shippedSacks_20 : decode cX12_shippedSacks 20 = .ok (.goto 8, 3) := by decide +kernel
theorem dX12_shippedSacks_23 : decode cX12_shippedSacks 23 = .ok (.aload_n 0, 1) := by decide +kernel
theorem dX12_shippedSacks_24 : decode cX12_shippedSacks 24 = .ok (.iconst 1, 1) := by decide +kernel
theorem dX12_shippedSacks_25 : decode cX12_shippedSacks 25 = .ok (.invokevirtual 74, 3) := by decide +kernel
theorem dX12_shippedSacks_28 : decode cX12_shippedSacks 28 = .ok (.ireturn, 1) := by decide +kernel
theorem dX12_recorded_0 : decode cX12_recorded 0 = .ok (.iload_n 1, 1) := by decide +kernel
theorem dX12_recorded_1 : decode cX12_recorded 1 = .ok (.invokestatic 71, 3) := by decide +kernel
theorem dX12_recorded_4 : decode cX12_recorded 4 = .ok (.ifCond .eq 30, 3) := by decide +kernel
theorem dX12_recorded_7 : decode cX12_recorded 7 = .ok (.iload_n 2, 1) := by decide +kernel
theorem dX12_recorded_8 : decode cX12_recorded 8 = .ok (.invokestatic 120, 3) := by decide +kernel
theorem dX12_recorded_11 : decode cX12_recorded 11 = .ok (.ifCond .eq 23, 3) := by decide +kernel
theorem dX12_recorded_14 : decode cX12_recorded 14 = .ok (.aload_n 0, 1) := by decide +kernel
theorem dX12_recorded_15 : decode cX12_recorded 15 = .ok (.aload_n 0, 1) := by decide +kernel
theorem dX12_recorded_16 : decode cX12_recorded 16 = .ok (.getfield 7, 3) := by decide +kernel
theorem dX12_recorded_19 : decode cX12_recorded 19 = .ok (.bipush 32, 2) := by decide +kernel
theorem dX12_recorded_21 : decode cX12_recorded 21 = .ok (.iconst 4, 1) := by decide +kernel
theorem dX12_recorded_22 : decode cX12_recorded 22 = .ok (.iload_n 1, 1) := by decide +kernel
theorem dX12_recorded_23 : decode cX12_recorded 23 = .ok (.imul, 1) := by decide +kernel
theorem dX12_recorded_24 : decode cX12_recorded 24 = .ok (.iadd, 1) := by decide +kernel
theorem dX12_recorded_25 : decode cX12_recorded 25 = .ok (.iload_n 2, 1) := by decide +kernel
theorem dX12_recorded_26 : decode cX12_recorded 26 = .ok (.iadd, 1) := by decide +kernel
theorem dX12_recorded_27 : decode cX12_recorded 27 = .ok (.iaload, 1) := by decide +kernel
theorem dX12_recorded_28 : decode cX12_recorded 28 = .ok (.invokevirtual 81, 3) := by decide +kernel
theorem dX12_recorded_31 : decode cX12_recorded 31 = .ok (.goto 8, 3) := by decide +kernel
theorem dX12_recorded_34 : decode cX12_recorded 34 = .ok (.aload_n 0, 1) := by decide +kernel
theorem dX12_recorded_35 : decode cX12_recorded 35 = .ok (.iconst 1, 1) := by decide +kernel
theorem dX12_recorded_36 : decode cX12_recorded 36 = .ok (.invokevirtual 74, 3) := by decide +kernel
theorem dX12_recorded_39 : decode cX12_recorded 39 = .ok (.ireturn, 1) := by decide +kernel
theorem dX12_groundTotal_0 : decode cX12_groundTotal 0 = .ok (.aload_n 0, 1) := by decide +kernel
theorem dX12_groundTotal_1 : decode cX12_groundTotal 1 = .ok (.aload_n 0, 1) := by decide +kernel
theorem dX12_groundTotal_2 : decode cX12_groundTotal 2 = .ok (.getfield 7, 3) := by decide +kernel
theorem dX12_groundTotal_5 : decode cX12_groundTotal 5 = .ok (.iconst 3, 1) := by decide +kernel
theorem dX12_groundTotal_6 : decode cX12_groundTotal 6 = .ok (.iaload, 1) := by decide +kernel
theorem dX12_groundTotal_7 : decode cX12_groundTotal 7 = .ok (.invokevirtual 81, 3) := by decide +kernel
theorem dX12_groundTotal_10 : decode cX12_groundTotal 10 = .ok (.ireturn, 1) := by decide +kernel
theorem dX12_groundByParts_0 : decode cX12_groundByParts 0 = .ok (.aload_n 0, 1) := by decide +kernel
theorem dX12_groundByParts_1 : decode cX12_groundByParts 1 = .ok (.aload_n 0, 1) := by decide +kernel
theorem dX12_groundByParts_2 : decode cX12_groundByParts 2 = .ok (.getfield 7, 3) := by decide +kernel
theorem dX12_groundByParts_5 : decode cX12_groundByParts 5 = .ok (.iconst 3, 1) := by decide +kernel
theorem dX12_groundByParts_6 : decode cX12_groundByParts 6 = .ok (.iaload, 1) := by decide +kernel
theorem dX12_groundByParts_7 : decode cX12_groundByParts 7 = .ok (.invokevirtual 81, 3) := by decide +kernel
theorem dX12_groundByParts_10 : decode cX12_groundByParts 10 = .ok (.ireturn, 1) := by decide +kernel
theorem dX12_lostInSieves_0 : decode cX12_lostInSieves 0 = .ok (.aload_n 0, 1) := by decide +kernel
theorem dX12_lostInSieves_1 : decode cX12_lostInSieves 1 = .ok (.aload_n 0, 1) := by decide +kernel
theorem dX12_lostInSieves_2 : decode cX12_lostInSieves 2 = .ok (.getfield 7, 3) := by decide +kernel
theorem dX12_lostInSieves_5 : decode cX12_lostInSieves 5 = .ok (.iconst 4, 1) := by decide +kernel
theorem dX12_lostInSieves_6 : decode cX12_lostInSieves 6 = .ok (.iaload, 1) := by decide +kernel
theorem dX12_lostInSieves_7 : decode cX12_lostInSieves 7 = .ok (.invokevirtual 81, 3) := by decide +kernel
theorem dX12_lostInSieves_10 : decode cX12_lostInSieves 10 = .ok (.ireturn, 1) := by decide +kernel
theorem dX12_lostForRoom_0 : decode cX12_lostForRoom 0 = .ok (.aload_n 0, 1) := by decide +kernel
theorem dX12_lostForRoom_1 : decode cX12_lostForRoom 1 = .ok (.aload_n 0, 1) := by decide +kernel
theorem dX12_lostForRoom_2 : decode cX12_lostForRoom 2 = .ok (.getfield 7, 3) := by decide +kernel
theorem dX12_lostForRoom_5 : decode cX12_lostForRoom 5 = .ok (.iconst 5, 1) := by decide +kernel
theorem dX12_lostForRoom_6 : decode cX12_lostForRoom 6 = .ok (.iaload, 1) := by decide +kernel
theorem dX12_lostForRoom_7 : decode cX12_lostForRoom 7 = .ok (.invokevirtual 81, 3) := by decide +kernel
theorem dX12_lostForRoom_10 : decode cX12_lostForRoom 10 = .ok (.ireturn, 1) := by decide +kernel
theorem dX12_stepsFor_0 : decode cX12_stepsFor 0 = .ok (.aload_n 0, 1) := by decide +kernel
theorem dX12_stepsFor_1 : decode cX12_stepsFor 1 = .ok (.aload_n 0, 1) := by decide +kernel
theorem dX12_stepsFor_2 : decode cX12_stepsFor 2 = .ok (.getfield 7, 3) := by decide +kernel
theorem dX12_stepsFor_5 : decode cX12_stepsFor 5 = .ok (.bipush 13, 2) := by decide +kernel
theorem dX12_stepsFor_7 : decode cX12_stepsFor 7 = .ok (.iload_n 1, 1) := by decide +kernel
theorem dX12_stepsFor_8 : decode cX12_stepsFor 8 = .ok (.iadd, 1) := by decide +kernel
theorem dX12_stepsFor_9 : decode cX12_stepsFor 9 = .ok (.iaload, 1) := by decide +kernel
theorem dX12_stepsFor_10 : decode cX12_stepsFor 10 = .ok (.iconst 1, 1) := by decide +kernel
theorem dX12_stepsFor_11 : decode cX12_stepsFor 11 = .ok (.isub, 1) := by decide +kernel
theorem dX12_stepsFor_12 : decode cX12_stepsFor 12 = .ok (.invokevirtual 94, 3) := by decide +kernel
theorem dX12_stepsFor_15 : decode cX12_stepsFor 15 = .ok (.istore_n 2, 1) := by decide +kernel
theorem dX12_stepsFor_16 : decode cX12_stepsFor 16 = .ok (.aload_n 0, 1) := by decide +kernel
theorem dX12_stepsFor_17 : decode cX12_stepsFor 17 = .ok (.getfield 7, 3) := by decide +kernel
theorem dX12_stepsFor_20 : decode cX12_stepsFor 20 = .ok (.bipush 7, 2) := by decide +kernel
theorem dX12_stepsFor_22 : decode cX12_stepsFor 22 = .ok (.iload_n 1, 1) := by decide +kernel
theorem dX12_stepsFor_23 : decode cX12_stepsFor 23 = .ok (.iadd, 1) := by decide +kernel
theorem dX12_stepsFor_24 : decode cX12_stepsFor 24 = .ok (.iaload, 1) := by decide +kernel
theorem dX12_stepsFor_25 : decode cX12_stepsFor 25 = .ok (.istore_n 3, 1) := by decide +kernel
theorem dX12_stepsFor_26 : decode cX12_stepsFor 26 = .ok (.aload_n 0, 1) := by decide +kernel
theorem dX12_stepsFor_27 : decode cX12_stepsFor 27 = .ok (.getfield 7, 3) := by decide +kernel
theorem dX12_stepsFor_30 : decode cX12_stepsFor 30 = .ok (.bipush 117, 2) := by decide +kernel
theorem dX12_stepsFor_32 : decode cX12_stepsFor 32 = .ok (.iload_n 2, 1) := by decide +kernel
theorem dX12_stepsFor_33 : decode cX12_stepsFor 33 = .ok (.iadd, 1) := by decide +kernel
theorem dX12_stepsFor_34 : decode cX12_stepsFor 34 = .ok (.iaload, 1) := by decide +kernel
theorem dX12_stepsFor_35 : decode cX12_stepsFor 35 = .ok (.iconst 2, 1) := by decide +kernel
theorem dX12_stepsFor_36 : decode cX12_stepsFor 36 = .ok (.iload_n 3, 1) := by decide +kernel
theorem dX12_stepsFor_37 : decode cX12_stepsFor 37 = .ok (.imul, 1) := by decide +kernel
theorem dX12_stepsFor_38 : decode cX12_stepsFor 38 = .ok (.iadd, 1) := by decide +kernel
theorem dX12_stepsFor_39 : decode cX12_stepsFor 39 = .ok (.iconst 1, 1) := by decide +kernel
theorem dX12_stepsFor_40 : decode cX12_stepsFor 40 = .ok (.isub, 1) := by decide +kernel
theorem dX12_stepsFor_41 : decode cX12_stepsFor 41 = .ok (.iconst 2, 1) := by decide +kernel
theorem dX12_stepsFor_42 : decode cX12_stepsFor 42 = .ok (.iload_n 3, 1) := by decide +kernel
theorem dX12_stepsFor_43 : decode cX12_stepsFor 43 = .ok (.imul, 1) := by decide +kernel
theorem dX12_stepsFor_44 : decode cX12_stepsFor 44 = .ok (.idiv, 1) := by decide +kernel
theorem dX12_stepsFor_45 : decode cX12_stepsFor 45 = .ok (.istore 4, 2) := by decide +kernel
theorem dX12_stepsFor_47 : decode cX12_stepsFor 47 = .ok (.aload_n 0, 1) := by decide +kernel
theorem dX12_stepsFor_48 : decode cX12_stepsFor 48 = .ok (.getfield 7, 3) := by decide +kernel
theorem dX12_stepsFor_51 : decode cX12_stepsFor 51 = .ok (.bipush 10, 2) := by decide +kernel
theorem dX12_stepsFor_53 : decode cX12_stepsFor 53 = .ok (.iload_n 1, 1) := by decide +kernel
theorem dX12_stepsFor_54 : decode cX12_stepsFor 54 = .ok (.iadd, 1) := by decide +kernel
theorem dX12_stepsFor_55 : decode cX12_stepsFor 55 = .ok (.iaload, 1) := by decide +kernel
theorem dX12_stepsFor_56 : decode cX12_stepsFor 56 = .ok (.iload 4, 2) := by decide +kernel
theorem dX12_stepsFor_58 : decode cX12_stepsFor 58 = .ok (.iconst 1, 1) := by decide +kernel
theorem dX12_stepsFor_59 : decode cX12_stepsFor 59 = .ok (.isub, 1) := by decide +kernel
theorem dX12_stepsFor_60 : decode cX12_stepsFor 60 = .ok (.iload_n 3, 1) := by decide +kernel
theorem dX12_stepsFor_61 : decode cX12_stepsFor 61 = .ok (.imul, 1) := by decide +kernel
theorem dX12_stepsFor_62 : decode cX12_stepsFor 62 = .ok (.iadd, 1) := by decide +kernel
theorem dX12_stepsFor_63 : decode cX12_stepsFor 63 = .ok (.bipush 12, 2) := by decide +kernel
theorem dX12_stepsFor_65 : decode cX12_stepsFor 65 = .ok (.if_icmp .ge 8, 3) := by decide +kernel
theorem dX12_stepsFor_68 : decode cX12_stepsFor 68 = .ok (.iload 4, 2) := by decide +kernel
theorem dX12_stepsFor_70 : decode cX12_stepsFor 70 = .ok (.goto 4, 3) := by decide +kernel
theorem dX12_stepsFor_73 : decode cX12_stepsFor 73 = .ok (.iconst (-1), 1) := by decide +kernel
theorem dX12_stepsFor_74 : decode cX12_stepsFor 74 = .ok (.ireturn, 1) := by decide +kernel
theorem dX12_stepsUntilDone_0 : decode cX12_stepsUntilDone 0 = .ok (.iload_n 1, 1) := by decide +kernel
theorem dX12_stepsUntilDone_1 : decode cX12_stepsUntilDone 1 = .ok (.invokestatic 104, 3) := by decide +kernel
theorem dX12_stepsUntilDone_4 : decode cX12_stepsUntilDone 4 = .ok (.ifCond .ne 9, 3) := by decide +kernel
theorem dX12_stepsUntilDone_7 : decode cX12_stepsUntilDone 7 = .ok (.aload_n 0, 1) := by decide +kernel
theorem dX12_stepsUntilDone_8 : decode cX12_stepsUntilDone 8 = .ok (.iconst 1, 1) := by decide +kernel
theorem dX12_stepsUntilDone_9 : decode cX12_stepsUntilDone 9 = .ok (.invokevirtual 74, 3) := by decide +kernel
theorem dX12_stepsUntilDone_12 : decode cX12_stepsUntilDone 12 = .ok (.ireturn, 1) := by decide +kernel
theorem dX12_stepsUntilDone_13 : decode cX12_stepsUntilDone 13 = .ok (.aload_n 0, 1) := by decide +kernel
theorem dX12_stepsUntilDone_14 : decode cX12_stepsUntilDone 14 = .ok (.getfield 7, 3) := by decide +kernel
theorem dX12_stepsUntilDone_17 : decode cX12_stepsUntilDone 17 = .ok (.bipush 13, 2) := by decide +kernel
theorem dX12_stepsUntilDone_19 : decode cX12_stepsUntilDone 19 = .ok (.iload_n 1, 1) := by decide +kernel
theorem dX12_stepsUntilDone_20 : decode cX12_stepsUntilDone 20 = .ok (.iadd, 1) := by decide +kernel
theorem dX12_stepsUntilDone_21 : decode cX12_stepsUntilDone 21 = .ok (.iaload, 1) := by decide +kernel
theorem dX12_stepsUntilDone_22 : decode cX12_stepsUntilDone 22 = .ok (.ifCond .ne 7, 3) := by decide +kernel
theorem dX12_stepsUntilDone_25 : decode cX12_stepsUntilDone 25 = .ok (.iconst (-1), 1) := by decide +kernel
theorem dX12_stepsUntilDone_26 : decode cX12_stepsUntilDone 26 = .ok (.goto 8, 3) := by decide +kernel
theorem dX12_stepsUntilDone_29 : decode cX12_stepsUntilDone 29 = .ok (.aload_n 0, 1) := by decide +kernel
theorem dX12_stepsUntilDone_30 : decode cX12_stepsUntilDone 30 = .ok (.iload_n 1, 1) := by decide +kernel
theorem dX12_stepsUntilDone_31 : decode cX12_stepsUntilDone 31 = .ok (.invokevirtual 160, 3) := by decide +kernel
theorem dX12_stepsUntilDone_34 : decode cX12_stepsUntilDone 34 = .ok (.istore_n 2, 1) := by decide +kernel
theorem dX12_stepsUntilDone_35 : decode cX12_stepsUntilDone 35 = .ok (.iload_n 2, 1) := by decide +kernel
theorem dX12_stepsUntilDone_36 : decode cX12_stepsUntilDone 36 = .ok (.iconst (-1), 1) := by decide +kernel
theorem dX12_stepsUntilDone_37 : decode cX12_stepsUntilDone 37 = .ok (.if_icmp .ne 11, 3) := by decide +kernel
theorem dX12_stepsUntilDone_40 : decode cX12_stepsUntilDone 40 = .ok (.aload_n 0, 1) := by decide +kernel
theorem dX12_stepsUntilDone_41 : decode cX12_stepsUntilDone 41 = .ok (.iconst 2, 1) := by decide +kernel
theorem dX12_stepsUntilDone_42 : decode cX12_stepsUntilDone 42 = .ok (.invokevirtual 74, 3) := by decide +kernel
theorem dX12_stepsUntilDone_45 : decode cX12_stepsUntilDone 45 = .ok (.goto 8, 3) := by decide +kernel
theorem dX12_stepsUntilDone_48 : decode cX12_stepsUntilDone 48 = .ok (.aload_n 0, 1) := by decide +kernel
theorem dX12_stepsUntilDone_49 : decode cX12_stepsUntilDone 49 = .ok (.iload_n 2, 1) := by decide +kernel
theorem dX12_stepsUntilDone_50 : decode cX12_stepsUntilDone 50 = .ok (.invokevirtual 81, 3) := by decide +kernel
theorem dX12_stepsUntilDone_53 : decode cX12_stepsUntilDone 53 = .ok (.ireturn, 1) := by decide +kernel
theorem dX12_stepsUntilDoneByRate_0 : decode cX12_stepsUntilDoneByRate 0 = .ok (.aload_n 0, 1) := by decide +kernel
theorem dX12_stepsUntilDoneByRate_1 : decode cX12_stepsUntilDoneByRate 1 = .ok (.iload_n 1, 1) := by decide +kernel
theorem dX12_stepsUntilDoneByRate_2 : decode cX12_stepsUntilDoneByRate 2 = .ok (.invokevirtual 163, 3) := by decide +kernel
theorem dX12_stepsUntilDoneByRate_5 : decode cX12_stepsUntilDoneByRate 5 = .ok (.ireturn, 1) := by decide +kernel
theorem dX12_stepsUntilJam_0 : decode cX12_stepsUntilJam 0 = .ok (.iload_n 1, 1) := by decide +kernel
theorem dX12_stepsUntilJam_1 : decode cX12_stepsUntilJam 1 = .ok (.invokestatic 104, 3) := by decide +kernel
theorem dX12_stepsUntilJam_4 : decode cX12_stepsUntilJam 4 = .ok (.ifCond .ne 9, 3) := by decide +kernel
theorem dX12_stepsUntilJam_7 : decode cX12_stepsUntilJam 7 = .ok (.aload_n 0, 1) := by decide +kernel
theorem dX12_stepsUntilJam_8 : decode cX12_stepsUntilJam 8 = .ok (.iconst 1, 1) := by decide +kernel
theorem dX12_stepsUntilJam_9 : decode cX12_stepsUntilJam 9 = .ok (.invokevirtual 74, 3) := by decide +kernel
theorem dX12_stepsUntilJam_12 : decode cX12_stepsUntilJam 12 = .ok (.ireturn, 1) := by decide +kernel
theorem dX12_stepsUntilJam_13 : decode cX12_stepsUntilJam 13 = .ok (.aload_n 0, 1) := by decide +kernel
theorem dX12_stepsUntilJam_14 : decode cX12_stepsUntilJam 14 = .ok (.getfield 7, 3) := by decide +kernel
theorem dX12_stepsUntilJam_17 : decode cX12_stepsUntilJam 17 = .ok (.iconst 0, 1) := by decide +kernel
theorem dX12_stepsUntilJam_18 : decode cX12_stepsUntilJam 18 = .ok (.aload_n 0, 1) := by decide +kernel
theorem dX12_stepsUntilJam_19 : decode cX12_stepsUntilJam 19 = .ok (.getfield 16, 3) := by decide +kernel
theorem dX12_stepsUntilJam_22 : decode cX12_stepsUntilJam 22 = .ok (.iconst 0, 1) := by decide +kernel
theorem dX12_stepsUntilJam_23 : decode cX12_stepsUntilJam 23 = .ok (.invokestatic 45, 3) := by decide +kernel
theorem dX12_stepsUntilJam_26 : decode cX12_stepsUntilJam 26 = .ok (.iconst 0, 1) := by decide +kernel
theorem dX12_stepsUntilJam_27 : decode cX12_stepsUntilJam 27 = .ok (.istore_n 2, 1) := by decide +kernel
theorem dX12_stepsUntilJam_28 : decode cX12_stepsUntilJam 28 = .ok (.iload_n 2, 1) := by decide +kernel
theorem dX12_stepsUntilJam_29 : decode cX12_stepsUntilJam 29 = .ok (.bipush 60, 2) := by decide +kernel
theorem dX12_stepsUntilJam_31 : decode cX12_stepsUntilJam 31 = .ok (.if_icmp .gt 27, 3) := by decide +kernel
theorem dX12_stepsUntilJam_34 : decode cX12_stepsUntilJam 34 = .ok (.aload_n 0, 1) := by decide +kernel
theorem dX12_stepsUntilJam_35 : decode cX12_stepsUntilJam 35 = .ok (.getfield 7, 3) := by decide +kernel
theorem dX12_stepsUntilJam_38 : decode cX12_stepsUntilJam 38 = .ok (.bipush 10, 2) := by decide +kernel
theorem dX12_stepsUntilJam_40 : decode cX12_stepsUntilJam 40 = .ok (.iload_n 1, 1) := by decide +kernel
theorem dX12_stepsUntilJam_41 : decode cX12_stepsUntilJam 41 = .ok (.iadd, 1) := by decide +kernel
theorem dX12_stepsUntilJam_42 : decode cX12_stepsUntilJam 42 = .ok (.iaload, 1) := by decide +kernel
theorem dX12_stepsUntilJam_43 : decode cX12_stepsUntilJam 43 = .ok (.bipush 12, 2) := by decide +kernel
theorem dX12_stepsUntilJam_45 : decode cX12_stepsUntilJam 45 = .ok (.if_icmp .ge 13, 3) := by decide +kernel
theorem dX12_stepsUntilJam_48 : decode cX12_stepsUntilJam 48 = .ok (.aload_n 0, 1) := by decide +kernel
theorem dX12_stepsUntilJam_49 : decode cX12_stepsUntilJam 49 = .ok (.invokevirtual 142, 3) := by decide +kernel
theorem dX12_stepsUntilJam_52 : decode cX12_stepsUntilJam 52 = .ok (.iinc 2 1, 3) := by decide +kernel
theorem dX12_stepsUntilJam_55 : decode cX12_stepsUntilJam 55 = .ok (.goto (-27), 3) := by decide +kernel
theorem dX12_stepsUntilJam_58 : decode cX12_stepsUntilJam 58 = .ok (.aload_n 0, 1) := by decide +kernel
theorem dX12_stepsUntilJam_59 : decode cX12_stepsUntilJam 59 = .ok (.getfield 16, 3) := by decide +kernel
theorem dX12_stepsUntilJam_62 : decode cX12_stepsUntilJam 62 = .ok (.iconst 0, 1) := by decide +kernel
theorem dX12_stepsUntilJam_63 : decode cX12_stepsUntilJam 63 = .ok (.aload_n 0, 1) := by decide +kernel
theorem dX12_stepsUntilJam_64 : decode cX12_stepsUntilJam 64 = .ok (.getfield 7, 3) := by decide +kernel
theorem dX12_stepsUntilJam_67 : decode cX12_stepsUntilJam 67 = .ok (.iconst 0, 1) := by decide +kernel
theorem dX12_stepsUntilJam_68 : decode cX12_stepsUntilJam 68 = .ok (.invokestatic 45, 3) := by decide +kernel
theorem dX12_stepsUntilJam_71 : decode cX12_stepsUntilJam 71 = .ok (.iload_n 2, 1) := by decide +kernel
theorem dX12_stepsUntilJam_72 : decode cX12_stepsUntilJam 72 = .ok (.bipush 60, 2) := by decide +kernel
theorem dX12_stepsUntilJam_74 : decode cX12_stepsUntilJam 74 = .ok (.if_icmp .le 11, 3) := by decide +kernel
theorem dX12_stepsUntilJam_77 : decode cX12_stepsUntilJam 77 = .ok (.aload_n 0, 1) := by decide +kernel
theorem dX12_stepsUntilJam_78 : decode cX12_stepsUntilJam 78 = .ok (.iconst 2, 1) := by decide +kernel
theorem dX12_stepsUntilJam_79 : decode cX12_stepsUntilJam 79 = .ok (.invokevirtual 74, 3) := by decide +kernel
theorem dX12_stepsUntilJam_82 : decode cX12_stepsUntilJam 82 = .ok (.goto 8, 3) := by decide +kernel
theorem dX12_stepsUntilJam_85 : decode cX12_stepsUntilJam 85 = .ok (.aload_n 0, 1) := by decide +kernel
theorem dX12_stepsUntilJam_86 : decode cX12_stepsUntilJam 86 = .ok (.iload_n 2, 1) := by decide +kernel
theorem dX12_stepsUntilJam_87 : decode cX12_stepsUntilJam 87 = .ok (.invokevirtual 81, 3) := by decide +kernel
theorem dX12_stepsUntilJam_90 : decode cX12_stepsUntilJam 90 = .ok (.ireturn, 1) := by decide +kernel
theorem dX12_groundWithin_0 : decode cX12_groundWithin 0 = .ok (.iload_n 1, 1) := by decide +kernel
theorem dX12_groundWithin_1 : decode cX12_groundWithin 1 = .ok (.iconst 0, 1) := by decide +kernel
theorem dX12_groundWithin_2 : decode cX12_groundWithin 2 = .ok (.bipush 60, 2) := by decide +kernel
theorem dX12_groundWithin_4 : decode cX12_groundWithin 4 = .ok (.invokestatic 52, 3) := by decide +kernel
theorem dX12_groundWithin_7 : decode cX12_groundWithin 7 = .ok (.ifCond .ne 9, 3) := by decide +kernel
theorem dX12_groundWithin_10 : decode cX12_groundWithin 10 = .ok (.aload_n 0, 1) := by decide +kernel
theorem dX12_groundWithin_11 : decode cX12_groundWithin 11 = .ok (.iconst 1, 1) := by decide +kernel
theorem dX12_groundWithin_12 : decode cX12_groundWithin 12 = .ok (.invokevirtual 74, 3) := by decide +kernel
theorem dX12_groundWithin_15 : decode cX12_groundWithin 15 = .ok (.ireturn, 1) := by decide +kernel
theorem dX12_groundWithin_16 : decode cX12_groundWithin 16 = .ok (.aload_n 0, 1) := by decide +kernel
theorem dX12_groundWithin_17 : decode cX12_groundWithin 17 = .ok (.getfield 7, 3) := by decide +kernel
theorem dX12_groundWithin_20 : decode cX12_groundWithin 20 = .ok (.iconst 0, 1) := by decide +kernel
theorem dX12_groundWithin_21 : decode cX12_groundWithin 21 = .ok (.aload_n 0, 1) := by decide +kernel
theorem dX12_groundWithin_22 : decode cX12_groundWithin 22 = .ok (.getfield 16, 3) := by decide +kernel
theorem dX12_groundWithin_25 : decode cX12_groundWithin 25 = .ok (.iconst 0, 1) := by decide +kernel
theorem dX12_groundWithin_26 : decode cX12_groundWithin 26 = .ok (.invokestatic 45, 3) := by decide +kernel
theorem dX12_groundWithin_29 : decode cX12_groundWithin 29 = .ok (.iconst 0, 1) := by decide +kernel
theorem dX12_groundWithin_30 : decode cX12_groundWithin 30 = .ok (.istore_n 2, 1) := by decide +kernel
theorem dX12_groundWithin_31 : decode cX12_groundWithin 31 = .ok (.iload_n 2, 1) := by decide +kernel
theorem dX12_groundWithin_32 : decode cX12_groundWithin 32 = .ok (.iload_n 1, 1) := by decide +kernel
theorem dX12_groundWithin_33 : decode cX12_groundWithin 33 = .ok (.if_icmp .ge 13, 3) := by decide +kernel
theorem dX12_groundWithin_36 : decode cX12_groundWithin 36 = .ok (.aload_n 0, 1) := by decide +kernel
theorem dX12_groundWithin_37 : decode cX12_groundWithin 37 = .ok (.invokevirtual 142, 3) := by decide +kernel
theorem dX12_groundWithin_40 : decode cX12_groundWithin 40 = .ok (.iinc 2 1, 3) := by decide +kernel
theorem dX12_groundWithin_43 : decode cX12_groundWithin 43 = .ok (.goto (-12), 3) := by decide +kernel
theorem dX12_groundWithin_46 : decode cX12_groundWithin 46 = .ok (.aload_n 0, 1) := by decide +kernel
theorem dX12_groundWithin_47 : decode cX12_groundWithin 47 = .ok (.getfield 7, 3) := by decide +kernel
theorem dX12_groundWithin_50 : decode cX12_groundWithin 50 = .ok (.iconst 3, 1) := by decide +kernel
theorem dX12_groundWithin_51 : decode cX12_groundWithin 51 = .ok (.iaload, 1) := by decide +kernel
theorem dX12_groundWithin_52 : decode cX12_groundWithin 52 = .ok (.istore_n 2, 1) := by decide +kernel
theorem dX12_groundWithin_53 : decode cX12_groundWithin 53 = .ok (.aload_n 0, 1) := by decide +kernel
theorem dX12_groundWithin_54 : decode cX12_groundWithin 54 = .ok (.getfield 16, 3) := by decide +kernel
theorem dX12_groundWithin_57 : decode cX12_groundWithin 57 = .ok (.iconst 0, 1) := by decide +kernel
theorem dX12_groundWithin_58 : decode cX12_groundWithin 58 = .ok (.aload_n 0, 1) := by decide +kernel
theorem dX12_groundWithin_59 : decode cX12_groundWithin 59 = .ok (.getfield 7, 3) := by decide +kernel
theorem dX12_groundWithin_62 : decode cX12_groundWithin 62 = .ok (.iconst 0, 1) := by decide +kernel
theorem dX12_groundWithin_63 : decode cX12_groundWithin 63 = .ok (.invokestatic 45, 3) := by decide +kernel
theorem dX12_groundWithin_66 : decode cX12_groundWithin 66 = .ok (.aload_n 0, 1) := by decide +kernel
theorem dX12_groundWithin_67 : decode cX12_groundWithin 67 = .ok (.iload_n 2, 1) := by decide +kernel
theorem dX12_groundWithin_68 : decode cX12_groundWithin 68 = .ok (.aload_n 0, 1) := by decide +kernel
theorem dX12_groundWithin_69 : decode cX12_groundWithin 69 = .ok (.getfield 7, 3) := by decide +kernel
theorem dX12_groundWithin_72 : decode cX12_groundWithin 72 = .ok (.iconst 3, 1) := by decide +kernel
theorem dX12_groundWithin_73 : decode cX12_groundWithin 73 = .ok (.iaload, 1) := by decide +kernel
theorem dX12_groundWithin_74 : decode cX12_groundWithin 74 = .ok (.isub, 1) := by decide +kernel
theorem dX12_groundWithin_75 : decode cX12_groundWithin 75 = .ok (.invokevirtual 81, 3) := by decide +kernel
theorem dX12_groundWithin_78 : decode cX12_groundWithin 78 = .ok (.ireturn, 1) := by decide +kernel
theorem dX12_doneCount_0 : decode cX12_doneCount 0 = .ok (.aload_n 0, 1) := by decide +kernel
theorem dX12_doneCount_1 : decode cX12_doneCount 1 = .ok (.aload_n 0, 1) := by decide +kernel
theorem dX12_doneCount_2 : decode cX12_doneCount 2 = .ok (.getfield 7, 3) := by decide +kernel
theorem dX12_doneCount_5 : decode cX12_doneCount 5 = .ok (.bipush 6, 2) := by decide +kernel
theorem dX12_doneCount_7 : decode cX12_doneCount 7 = .ok (.iaload, 1) := by decide +kernel
theorem dX12_doneCount_8 : decode cX12_doneCount 8 = .ok (.invokevirtual 81, 3) := by decide +kernel
theorem dX12_doneCount_11 : decode cX12_doneCount 11 = .ok (.ireturn, 1) := by decide +kernel
theorem dX12_logNumber_0 : decode cX12_logNumber 0 = .ok (.iload_n 2, 1) := by decide +kernel
theorem dX12_logNumber_1 : decode cX12_logNumber 1 = .ok (.iconst 0, 1) := by decide +kernel
theorem dX12_logNumber_2 : decode cX12_logNumber 2 = .ok (.bipush 7, 2) := by decide +kernel
theorem dX12_logNumber_4 : decode cX12_logNumber 4 = .ok (.invokestatic 52, 3) := by decide +kernel
theorem dX12_logNumber_7 : decode cX12_logNumber 7 = .ok (.ifCond .eq 18, 3) := by decide +kernel
theorem dX12_logNumber_10 : decode cX12_logNumber 10 = .ok (.iload_n 2, 1) := by decide +kernel
theorem dX12_logNumber_11 : decode cX12_logNumber 11 = .ok (.aload_n 0, 1) := by decide +kernel
theorem dX12_logNumber_12 : decode cX12_logNumber 12 = .ok (.getfield 7, 3) := by decide +kernel
theorem dX12_logNumber_15 : decode cX12_logNumber 15 = .ok (.bipush 6, 2) := by decide +kernel
theorem dX12_logNumber_17 : decode cX12_logNumber 17 = .ok (.iaload, 1) := by decide +kernel
theorem dX12_logNumber_18 : decode cX12_logNumber 18 = .ok (.if_icmp .ge 7, 3) := by decide +kernel
theorem dX12_logNumber_21 : decode cX12_logNumber 21 = .ok (.iconst 1, 1) := by decide +kernel
theorem dX12_logNumber_22 : decode cX12_logNumber 22 = .ok (.goto 4, 3) := by decide +kernel
theorem dX12_logNumber_25 : decode cX12_logNumber 25 = .ok (.iconst 0, 1) := by decide +kernel
theorem dX12_logNumber_26 : decode cX12_logNumber 26 = .ok (.istore_n 3, 1) := by decide +kernel
theorem dX12_logNumber_27 : decode cX12_logNumber 27 = .ok (.iload_n 3, 1) := by decide +kernel
theorem dX12_logNumber_28 : decode cX12_logNumber 28 = .ok (.ifCond .eq 31, 3) := by decide +kernel
theorem dX12_logNumber_31 : decode cX12_logNumber 31 = .ok (.aload_n 0, 1) := by decide +kernel
theorem dX12_logNumber_32 : decode cX12_logNumber 32 = .ok (.aload_n 0, 1) := by decide +kernel
theorem dX12_logNumber_33 : decode cX12_logNumber 33 = .ok (.getfield 7, 3) := by decide +kernel
theorem dX12_logNumber_36 : decode cX12_logNumber 36 = .ok (.iload_n 1, 1) := by decide +kernel
theorem dX12_logNumber_37 : decode cX12_logNumber 37 = .ok (.aload_n 0, 1) := by decide +kernel
theorem dX12_logNumber_38 : decode cX12_logNumber 38 = .ok (.getfield 7, 3) := by decide +kernel
theorem dX12_logNumber_41 : decode cX12_logNumber 41 = .ok (.bipush 6, 2) := by decide +kernel
theorem dX12_logNumber_43 : decode cX12_logNumber 43 = .ok (.iaload, 1) := by decide +kernel
theorem dX12_logNumber_44 : decode cX12_logNumber 44 = .ok (.iconst 1, 1) := by decide +kernel
theorem dX12_logNumber_45 : decode cX12_logNumber 45 = .ok (.isub, 1) := by decide +kernel
theorem dX12_logNumber_46 : decode cX12_logNumber 46 = .ok (.iload_n 2, 1) := by decide +kernel
theorem dX12_logNumber_47 : decode cX12_logNumber 47 = .ok (.isub, 1) := by decide +kernel
theorem dX12_logNumber_48 : decode cX12_logNumber 48 = .ok (.bipush 8, 2) := by decide +kernel
theorem dX12_logNumber_50 : decode cX12_logNumber 50 = .ok (.irem, 1) := by decide +kernel
theorem dX12_logNumber_51 : decode cX12_logNumber 51 = .ok (.iadd, 1) := by decide +kernel
theorem dX12_logNumber_52 : decode cX12_logNumber 52 = .ok (.iaload, 1) := by decide +kernel
theorem dX12_logNumber_53 : decode cX12_logNumber 53 = .ok (.invokevirtual 81, 3) := by decide +kernel
theorem dX12_logNumber_56 : decode cX12_logNumber 56 = .ok (.goto 8, 3) := by decide +kernel
theorem dX12_logNumber_59 : decode cX12_logNumber 59 = .ok (.aload_n 0, 1) := by decide +kernel
theorem dX12_logNumber_60 : decode cX12_logNumber 60 = .ok (.iconst 1, 1) := by decide +kernel
theorem dX12_logNumber_61 : decode cX12_logNumber 61 = .ok (.invokevirtual 74, 3) := by decide +kernel
theorem dX12_logNumber_64 : decode cX12_logNumber 64 = .ok (.ireturn, 1) := by decide +kernel
theorem dX12_doneNumber_0 : decode cX12_doneNumber 0 = .ok (.aload_n 0, 1) := by decide +kernel
theorem dX12_doneNumber_1 : decode cX12_doneNumber 1 = .ok (.sipush 132, 3) := by decide +kernel
theorem dX12_doneNumber_4 : decode cX12_doneNumber 4 = .ok (.iload_n 1, 1) := by decide +kernel
theorem dX12_doneNumber_5 : decode cX12_doneNumber 5 = .ok (.invokevirtual 166, 3) := by decide +kernel
theorem dX12_doneNumber_8 : decode cX12_doneNumber 8 = .ok (.ireturn, 1) := by decide +kernel
theorem dX12_doneWheel_0 : decode cX12_doneWheel 0 = .ok (.aload_n 0, 1) := by decide +kernel
theorem dX12_doneWheel_1 : decode cX12_doneWheel 1 = .ok (.sipush 140, 3) := by decide +kernel
theorem dX12_doneWheel_4 : decode cX12_doneWheel 4 = .ok (.iload_n 1, 1) := by decide +kernel
theorem dX12_doneWheel_5 : decode cX12_doneWheel 5 = .ok (.invokevirtual 166, 3) := by decide +kernel
theorem dX12_doneWheel_8 : decode cX12_doneWheel 8 = .ok (.ireturn, 1) := by decide +kernel
theorem dX12_doneTime_0 : decode cX12_doneTime 0 = .ok (.aload_n 0, 1) := by decide +kernel
theorem dX12_doneTime_1 : decode cX12_doneTime 1 = .ok (.sipush 148, 3) := by decide +kernel
theorem dX12_doneTime_4 : decode cX12_doneTime 4 = .ok (.iload_n 1, 1) := by decide +kernel
theorem dX12_doneTime_5 : decode cX12_doneTime 5 = .ok (.invokevirtual 166, 3) := by decide +kernel
theorem dX12_doneTime_8 : decode cX12_doneTime 8 = .ok (.ireturn, 1) := by decide +kernel
theorem dX12_isWheelAhead_0 : decode cX12_isWheelAhead 0 = .ok (.aload_n 0, 1) := by decide +kernel
theorem dX12_isWheelAhead_1 : decode cX12_isWheelAhead 1 = .ok (.getfield 7, 3) := by decide +kernel
theorem dX12_isWheelAhead_4 : decode cX12_isWheelAhead 4 = .ok (.bipush 10, 2) := by decide +kernel
theorem dX12_isWheelAhead_6 : decode cX12_isWheelAhead 6 = .ok (.iload_n 1, 1) := by decide +kernel
theorem dX12_isWheelAhead_7 : decode cX12_isWheelAhead 7 = .ok (.iadd, 1) := by decide +kernel
theorem dX12_isWheelAhead_8 : decode cX12_isWheelAhead 8 = .ok (.iaload, 1) := by decide +kernel
theorem dX12_isWheelAhead_9 : decode cX12_isWheelAhead 9 = .ok (.aload_n 0, 1) := by decide +kernel
theorem dX12_isWheelAhead_10 : decode cX12_isWheelAhead 10 = .ok (.getfield 7, 3) := by decide +kernel
theorem dX12_isWheelAhead_13 : decode cX12_isWheelAhead 13 = .ok (.bipush 10, 2) := by decide +kernel
theorem dX12_isWheelAhead_15 : decode cX12_isWheelAhead 15 = .ok (.iload_n 2, 1) := by decide +kernel
theorem dX12_isWheelAhead_16 : decode cX12_isWheelAhead 16 = .ok (.iadd, 1) := by decide +kernel
theorem dX12_isWheelAhead_17 : decode cX12_isWheelAhead 17 = .ok (.iaload, 1) := by decide +kernel
theorem dX12_isWheelAhead_18 : decode cX12_isWheelAhead 18 = .ok (.isub, 1) := by decide +kernel
theorem dX12_isWheelAhead_19 : decode cX12_isWheelAhead 19 = .ok (.istore_n 3, 1) := by decide +kernel
theorem dX12_isWheelAhead_20 : decode cX12_isWheelAhead 20 = .ok (.aload_n 0, 1) := by decide +kernel
theorem dX12_isWheelAhead_21 : decode cX12_isWheelAhead 21 = .ok (.getfield 7, 3) := by decide +kernel
theorem dX12_isWheelAhead_24 : decode cX12_isWheelAhead 24 = .ok (.bipush 7, 2) := by decide +kernel
theorem dX12_isWheelAhead_26 : decode cX12_isWheelAhead 26 = .ok (.iload_n 1, 1) := by decide +kernel
theorem dX12_isWheelAhead_27 : decode cX12_isWheelAhead 27 = .ok (.iadd, 1) := by decide +kernel
theorem dX12_isWheelAhead_28 : decode cX12_isWheelAhead 28 = .ok (.iaload, 1) := by decide +kernel
theorem dX12_isWheelAhead_29 : decode cX12_isWheelAhead 29 = .ok (.aload_n 0, 1) := by decide +kernel
theorem dX12_isWheelAhead_30 : decode cX12_isWheelAhead 30 = .ok (.getfield 7, 3) := by decide +kernel
theorem dX12_isWheelAhead_33 : decode cX12_isWheelAhead 33 = .ok (.bipush 7, 2) := by decide +kernel
theorem dX12_isWheelAhead_35 : decode cX12_isWheelAhead 35 = .ok (.iload_n 2, 1) := by decide +kernel
theorem dX12_isWheelAhead_36 : decode cX12_isWheelAhead 36 = .ok (.iadd, 1) := by decide +kernel
theorem dX12_isWheelAhead_37 : decode cX12_isWheelAhead 37 = .ok (.iaload, 1) := by decide +kernel
theorem dX12_isWheelAhead_38 : decode cX12_isWheelAhead 38 = .ok (.isub, 1) := by decide +kernel
theorem dX12_isWheelAhead_39 : decode cX12_isWheelAhead 39 = .ok (.istore 4, 2) := by decide +kernel
theorem dX12_isWheelAhead_41 : decode cX12_isWheelAhead 41 = .ok (.iload_n 3, 1) := by decide +kernel
theorem dX12_isWheelAhead_42 : decode cX12_isWheelAhead 42 = .ok (.ifCond .gt 22, 3) := by decide +kernel
theorem dX12_isWheelAhead_45 : decode cX12_isWheelAhead 45 = .ok (.iload_n 3, 1) := by decide +kernel
theorem dX12_isWheelAhead_46 : decode cX12_isWheelAhead 46 = .ok (.ifCond .ne 22, 3) := by decide +kernel
theorem dX12_isWheelAhead_49 : decode cX12_isWheelAhead 49 = .ok (.iload 4, 2) := by decide +kernel
theorem dX12_isWheelAhead_51 : decode cX12_isWheelAhead 51 = .ok (.ifCond .gt 13, 3) := by decide +kernel
theorem dX12_isWheelAhead_54 : decode cX12_isWheelAhead 54 = .ok (.iload 4, 2) := by decide +kernel
theorem dX12_isWheelAhead_56 : decode cX12_isWheelAhead 56 = .ok (.ifCond .ne 12, 3) := by decide +kernel
theorem dX12_isWheelAhead_59 : decode cX12_isWheelAhead 59 = .ok (.iload_n 1, 1) := by decide +kernel
theorem dX12_isWheelAhead_60 : decode cX12_isWheelAhead 60 = .ok (.iload_n 2, 1) := by decide +kernel
theorem dX12_isWheelAhead_61 : decode cX12_isWheelAhead 61 = .ok (.if_icmp .ge 7, 3) := by decide +kernel
theorem dX12_isWheelAhead_64 : decode cX12_isWheelAhead 64 = .ok (.iconst 1, 1) := by decide +kernel
theorem dX12_isWheelAhead_65 : decode cX12_isWheelAhead 65 = .ok (.goto 4, 3) := by decide +kernel
theorem dX12_isWheelAhead_68 : decode cX12_isWheelAhead 68 = .ok (.iconst 0, 1) := by decide +kernel
theorem dX12_isWheelAhead_69 : decode cX12_isWheelAhead 69 = .ok (.ireturn, 1) := by decide +kernel
theorem dX12_wheelByWear_0 : decode cX12_wheelByWear 0 = .ok (.iconst 0, 1) := by decide +kernel
theorem dX12_wheelByWear_1 : decode cX12_wheelByWear 1 = .ok (.istore_n 2, 1) := by decide +kernel
theorem dX12_wheelByWear_2 : decode cX12_wheelByWear 2 = .ok (.iload_n 2, 1) := by decide +kernel
theorem dX12_wheelByWear_3 : decode cX12_wheelByWear 3 = .ok (.iconst 3, 1) := by decide +kernel
theorem dX12_wheelByWear_4 : decode cX12_wheelByWear 4 = .ok (.if_icmp .ge 55, 3) := by decide +kernel
theorem dX12_wheelByWear_7 : decode cX12_wheelByWear 7 = .ok (.iconst 0, 1) := by decide +kernel
theorem dX12_wheelByWear_8 : decode cX12_wheelByWear 8 = .ok (.istore_n 3, 1) := by decide +kernel
theorem dX12_wheelByWear_9 : decode cX12_wheelByWear 9 = .ok (.iconst 0, 1) := by decide +kernel
theorem dX12_wheelByWear_10 : decode cX12_wheelByWear 10 = .ok (.istore 4, 2) := by decide +kernel
theorem dX12_wheelByWear_12 : decode cX12_wheelByWear 12 = .ok (.iload 4, 2) := by decide +kernel
theorem dX12_wheelByWear_14 : decode cX12_wheelByWear 14 = .ok (.iconst 3, 1) := by decide +kernel
theorem dX12_wheelByWear_15 : decode cX12_wheelByWear 15 = .ok (.if_icmp .ge 27, 3) := by decide +kernel
theorem dX12_wheelByWear_18 : decode cX12_wheelByWear 18 = .ok (.iload_n 3, 1) := by decide +kernel
theorem dX12_wheelByWear_19 : decode cX12_wheelByWear 19 = .ok (.aload_n 0, 1) := by decide +kernel
theorem dX12_wheelByWear_20 : decode cX12_wheelByWear 20 = .ok (.iload 4, 2) := by decide +kernel
theorem dX12_wheelByWear_22 : decode cX12_wheelByWear 22 = .ok (.iload_n 2, 1) := by decide +kernel
theorem dX12_wheelByWear_23 : decode cX12_wheelByWear 23 = .ok (.invokevirtual 169, 3) := by decide +kernel
theorem dX12_wheelByWear_26 : decode cX12_wheelByWear 26 = .ok (.ifCond .eq 7, 3) := by decide +kernel
theorem dX12_wheelByWear_29 : decode cX12_wheelByWear 29 = .ok (.iconst 1, 1) := by decide +kernel
theorem dX12_wheelByWear_30 : decode cX12_wheelByWear 30 = .ok (.goto 4, 3) := by decide +kernel
theorem dX12_wheelByWear_33 : decode cX12_wheelByWear 33 = .ok (.iconst 0, 1) := by decide +kernel
theorem dX12_wheelByWear_34 : decode cX12_wheelByWear 34 = .ok (.iadd, 1) := by decide +kernel
theorem dX12_wheelByWear_35 : decode cX12_wheelByWear 35 = .ok (.istore_n 3, 1) := by decide +kernel
theorem dX12_wheelByWear_36 : decode cX12_wheelByWear 36 = .ok (.iinc 4 1, 3) := by decide +kernel
theorem dX12_wheelByWear_39 : decode cX12_wheelByWear 39 = .ok (.goto (-27), 3) := by decide +kernel
theorem dX12_wheelByWear_42 : decode cX12_wheelByWear 42 = .ok (.iload_n 3, 1) := by decide +kernel
theorem dX12_wheelByWear_43 : decode cX12_wheelByWear 43 = .ok (.iload_n 1, 1) := by decide +kernel
theorem dX12_wheelByWear_44 : decode cX12_wheelByWear 44 = .ok (.if_icmp .ne 9, 3) := by decide +kernel
theorem dX12_wheelByWear_47 : decode cX12_wheelByWear 47 = .ok (.aload_n 0, 1) := by decide +kernel
theorem dX12_wheelByWear_48 : decode cX12_wheelByWear 48 = .ok (.iload_n 2, 1) := by decide +kernel
theorem dX12_wheelByWear_49 : decode cX12_wheelByWear 49 = .ok (.invokevirtual 81, 3) := by decide +kernel
theorem dX12_wheelByWear_52 : decode cX12_wheelByWear 52 = .ok (.ireturn, 1) := by decide +kernel
theorem dX12_wheelByWear_53 : decode cX12_wheelByWear 53 = .ok (.iinc 2 1, 3) := by decide +kernel
theorem dX12_wheelByWear_56 : decode cX12_wheelByWear 56 = .ok (.goto (-54), 3) := by decide +kernel
theorem dX12_wheelByWear_59 : decode cX12_wheelByWear 59 = .ok (.aload_n 0, 1) := by decide +kernel
theorem dX12_wheelByWear_60 : decode cX12_wheelByWear 60 = .ok (.iconst 1, 1) := by decide +kernel
theorem dX12_wheelByWear_61 : decode cX12_wheelByWear 61 = .ok (.invokevirtual 74, 3) := by decide +kernel
theorem dX12_wheelByWear_64 : decode cX12_wheelByWear 64 = .ok (.ireturn, 1) := by decide +kernel
theorem dX12_grainsOf_0 : decode cX12_grainsOf 0 = .ok (.iconst 0, 1) := by decide +kernel
theorem dX12_grainsOf_1 : decode cX12_grainsOf 1 = .ok (.istore_n 2, 1) := by decide +kernel
theorem dX12_grainsOf_2 : decode cX12_grainsOf 2 = .ok (.iconst 0, 1) := by decide +kernel
theorem dX12_grainsOf_3 : decode cX12_grainsOf 3 = .ok (.istore_n 3, 1) := by decide +kernel
theorem dX12_grainsOf_4 : decode cX12_grainsOf 4 = .ok (.iload_n 3, 1) := by decide +kernel
theorem dX12_grainsOf_5 : decode cX12_grainsOf 5 = .ok (.iconst 4, 1) := by decide +kernel
theorem dX12_grainsOf_6 : decode cX12_grainsOf 6 = .ok (.if_icmp .ge 25, 3) := by decide +kernel
theorem dX12_grainsOf_9 : decode cX12_grainsOf 9 = .ok (.iload_n 2, 1) := by decide +kernel
theorem dX12_grainsOf_10 : decode cX12_grainsOf 10 = .ok (.aload_n 0, 1) := by decide +kernel
theorem dX12_grainsOf_11 : decode cX12_grainsOf 11 = .ok (.getfield 7, 3) := by decide +kernel
theorem dX12_grainsOf_14 : decode cX12_grainsOf 14 = .ok (.bipush 32, 2) := by decide +kernel
theorem dX12_grainsOf_16 : decode cX12_grainsOf 16 = .ok (.iconst 4, 1) := by decide +kernel
theorem dX12_grainsOf_17 : decode cX12_grainsOf 17 = .ok (.iload_n 1, 1) := by decide +kernel
theorem dX12_grainsOf_18 : decode cX12_grainsOf 18 = .ok (.imul, 1) := by decide +kernel
theorem dX12_grainsOf_19 : decode cX12_grainsOf 19 = .ok (.iadd, 1) := by decide +kernel
theorem dX12_grainsOf_20 : decode cX12_grainsOf 20 = .ok (.iload_n 3, 1) := by decide +kernel
theorem dX12_grainsOf_21 : decode cX12_grainsOf 21 = .ok (.iadd, 1) := by decide +kernel
theorem dX12_grainsOf_22 : decode cX12_grainsOf 22 = .ok (.iaload, 1) := by decide +kernel
theorem dX12_grainsOf_23 : decode cX12_grainsOf 23 = .ok (.iadd, 1) := by decide +kernel
theorem dX12_grainsOf_24 : decode cX12_grainsOf 24 = .ok (.istore_n 2, 1) := by decide +kernel
theorem dX12_grainsOf_25 : decode cX12_grainsOf 25 = .ok (.iinc 3 1, 3) := by decide +kernel
theorem dX12_grainsOf_28 : decode cX12_grainsOf 28 = .ok (.goto (-24), 3) := by decide +kernel
theorem dX12_grainsOf_31 : decode cX12_grainsOf 31 = .ok (.iload_n 2, 1) := by decide +kernel
theorem dX12_grainsOf_32 : decode cX12_grainsOf 32 = .ok (.ireturn, 1) := by decide +kernel
theorem dX12_isBandAhead_0 : decode cX12_isBandAhead 0 = .ok (.aload_n 0, 1) := by decide +kernel
theorem dX12_isBandAhead_1 : decode cX12_isBandAhead 1 = .ok (.iload_n 1, 1) := by decide +kernel
theorem dX12_isBandAhead_2 : decode cX12_isBandAhead 2 = .ok (.invokevirtual 172, 3) := by decide +kernel
theorem dX12_isBandAhead_5 : decode cX12_isBandAhead 5 = .ok (.aload_n 0, 1) := by decide +kernel
theorem dX12_isBandAhead_6 : decode cX12_isBandAhead 6 = .ok (.iload_n 2, 1) := by decide +kernel
theorem dX12_isBandAhead_7 : decode cX12_isBandAhead 7 = .ok (.invokevirtual 172, 3) := by decide +kernel
theorem dX12_isBandAhead_10 : decode cX12_isBandAhead 10 = .ok (.isub, 1) := by decide +kernel
theorem dX12_isBandAhead_11 : decode cX12_isBandAhead 11 = .ok (.istore_n 3, 1) := by decide +kernel
theorem dX12_isBandAhead_12 : decode cX12_isBandAhead 12 = .ok (.aload_n 0, 1) := by decide +kernel
theorem dX12_isBandAhead_13 : decode cX12_isBandAhead 13 = .ok (.getfield 7, 3) := by decide +kernel
theorem dX12_isBandAhead_16 : decode cX12_isBandAhead 16 = .ok (.bipush 16, 2) := by decide +kernel
theorem dX12_isBandAhead_18 : decode cX12_isBandAhead 18 = .ok (.iload_n 2, 1) := by decide +kernel
theorem dX12_isBandAhead_19 : decode cX12_isBandAhead 19 = .ok (.iadd, 1) := by decide +kernel
theorem dX12_isBandAhead_20 : decode cX12_isBandAhead 20 = .ok (.iaload, 1) := by decide +kernel
theorem dX12_isBandAhead_21 : decode cX12_isBandAhead 21 = .ok (.aload_n 0, 1) := by decide +kernel
theorem dX12_isBandAhead_22 : decode cX12_isBandAhead 22 = .ok (.getfield 7, 3) := by decide +kernel
theorem dX12_isBandAhead_25 : decode cX12_isBandAhead 25 = .ok (.bipush 16, 2) := by decide +kernel
theorem dX12_isBandAhead_27 : decode cX12_isBandAhead 27 = .ok (.iload_n 1, 1) := by decide +kernel
theorem dX12_isBandAhead_28 : decode cX12_isBandAhead 28 = .ok (.iadd, 1) := by decide +kernel
theorem dX12_isBandAhead_29 : decode cX12_isBandAhead 29 = .ok (.iaload, 1) := by decide +kernel
theorem dX12_isBandAhead_30 : decode cX12_isBandAhead 30 = .ok (.isub, 1) := by decide +kernel
theorem dX12_isBandAhead_31 : decode cX12_isBandAhead 31 = .ok (.istore 4, 2) := by decide +kernel
theorem dX12_isBandAhead_33 : decode cX12_isBandAhead 33 = .ok (.iload_n 3, 1) := by decide +kernel
theorem dX12_isBandAhead_34 : decode cX12_isBandAhead 34 = .ok (.ifCond .gt 22, 3) := by decide +kernel
theorem dX12_isBandAhead_37 : decode cX12_isBandAhead 37 = .ok (.iload_n 3, 1) := by decide +kernel
theorem dX12_isBandAhead_38 : decode cX12_isBandAhead 38 = .ok (.ifCond .ne 22, 3) := by decide +kernel
theorem dX12_isBandAhead_41 : decode cX12_isBandAhead 41 = .ok (.iload 4, 2) := by decide +kernel
theorem dX12_isBandAhead_43 : decode cX12_isBandAhead 43 = .ok (.ifCond .gt 13, 3) := by decide +kernel
theorem dX12_isBandAhead_46 : decode cX12_isBandAhead 46 = .ok (.iload 4, 2) := by decide +kernel
theorem dX12_isBandAhead_48 : decode cX12_isBandAhead 48 = .ok (.ifCond .ne 12, 3) := by decide +kernel
theorem dX12_isBandAhead_51 : decode cX12_isBandAhead 51 = .ok (.iload_n 1, 1) := by decide +kernel
theorem dX12_isBandAhead_52 : decode cX12_isBandAhead 52 = .ok (.iload_n 2, 1) := by decide +kernel
theorem dX12_isBandAhead_53 : decode cX12_isBandAhead 53 = .ok (.if_icmp .ge 7, 3) := by decide +kernel
theorem dX12_isBandAhead_56 : decode cX12_isBandAhead 56 = .ok (.iconst 1, 1) := by decide +kernel
theorem dX12_isBandAhead_57 : decode cX12_isBandAhead 57 = .ok (.goto 4, 3) := by decide +kernel
theorem dX12_isBandAhead_60 : decode cX12_isBandAhead 60 = .ok (.iconst 0, 1) := by decide +kernel
theorem dX12_isBandAhead_61 : decode cX12_isBandAhead 61 = .ok (.ireturn, 1) := by decide +kernel
theorem dX12_bandByGrains_0 : decode cX12_bandByGrains 0 = .ok (.iconst 0, 1) := by decide +kernel
theorem dX12_bandByGrains_1 : decode cX12_bandByGrains 1 = .ok (.istore_n 2, 1) := by decide +kernel
theorem dX12_bandByGrains_2 : decode cX12_bandByGrains 2 = .ok (.iload_n 2, 1) := by decide +kernel
theorem dX12_bandByGrains_3 : decode cX12_bandByGrains 3 = .ok (.bipush 8, 2) := by decide +kernel
theorem dX12_bandByGrains_5 : decode cX12_bandByGrains 5 = .ok (.if_icmp .ge 56, 3) := by decide +kernel
theorem dX12_bandByGrains_8 : decode cX12_bandByGrains 8 = .ok (.iconst 0, 1) := by decide +kernel
theorem dX12_bandByGrains_9 : decode cX12_bandByGrains 9 = .ok (.istore_n 3, 1) := by decide +kernel
theorem dX12_bandByGrains_10 : decode cX12_bandByGrains 10 = .ok (.iconst 0, 1) := by decide +kernel
theorem dX12_bandByGrains_11 : decode cX12_bandByGrains 11 = .ok (.istore 4, 2) := by decide +kernel
theorem dX12_bandByGrains_13 : decode cX12_bandByGrains 13 = .ok (.iload 4, 2) := by decide +kernel
theorem dX12_bandByGrains_15 : decode cX12_bandByGrains 15 = .ok (.bipush 8, 2) := by decide +kernel
theorem dX12_bandByGrains_17 : decode cX12_bandByGrains 17 = .ok (.if_icmp .ge 27, 3) := by decide +kernel
theorem dX12_bandByGrains_20 : decode cX12_bandByGrains 20 = .ok (.iload_n 3, 1) := by decide +kernel
theorem dX12_bandByGrains_21 : decode cX12_bandByGrains 21 = .ok (.aload_n 0, 1) := by decide +kernel
theorem dX12_bandByGrains_22 : decode cX12_bandByGrains 22 = .ok (.iload 4, 2) := by decide +kernel
theorem dX12_bandByGrains_24 : decode cX12_bandByGrains 24 = .ok (.iload_n 2, 1) := by decide +kernel
theorem dX12_bandByGrains_25 : decode cX12_bandByGrains 25 = .ok (.invokevirtual 175, 3) := by decide +kernel
theorem dX12_bandByGrains_28 : decode cX12_bandByGrains 28 = .ok (.ifCond .eq 7, 3) := by decide +kernel
theorem dX12_bandByGrains_31 : decode cX12_bandByGrains 31 = .ok (.iconst 1, 1) := by decide +kernel
theorem dX12_bandByGrains_32 : decode cX12_bandByGrains 32 = .ok (.goto 4, 3) := by decide +kernel
theorem dX12_bandByGrains_35 : decode cX12_bandByGrains 35 = .ok (.iconst 0, 1) := by decide +kernel
theorem dX12_bandByGrains_36 : decode cX12_bandByGrains 36 = .ok (.iadd, 1) := by decide +kernel
theorem dX12_bandByGrains_37 : decode cX12_bandByGrains 37 = .ok (.istore_n 3, 1) := by decide +kernel
theorem dX12_bandByGrains_38 : decode cX12_bandByGrains 38 = .ok (.iinc 4 1, 3) := by decide +kernel
theorem dX12_bandByGrains_41 : decode cX12_bandByGrains 41 = .ok (.goto (-28), 3) := by decide +kernel
theorem dX12_bandByGrains_44 : decode cX12_bandByGrains 44 = .ok (.iload_n 3, 1) := by decide +kernel
theorem dX12_bandByGrains_45 : decode cX12_bandByGrains 45 = .ok (.iload_n 1, 1) := by decide +kernel
theorem dX12_bandByGrains_46 : decode cX12_bandByGrains 46 = .ok (.if_icmp .ne 9, 3) := by decide +kernel
theorem dX12_bandByGrains_49 : decode cX12_bandByGrains 49 = .ok (.aload_n 0, 1) := by decide +kernel
theorem dX12_bandByGrains_50 : decode cX12_bandByGrains 50 = .ok (.iload_n 2, 1) := by decide +kernel
theorem dX12_bandByGrains_51 : decode cX12_bandByGrains 51 = .ok (.invokevirtual 81, 3) := by decide +kernel
theorem dX12_bandByGrains_54 : decode cX12_bandByGrains 54 = .ok (.ireturn, 1) := by decide +kernel
theorem dX12_bandByGrains_55 : decode cX12_bandByGrains 55 = .ok (.iinc 2 1, 3) := by decide +kernel
theorem dX12_bandByGrains_58 : decode cX12_bandByGrains 58 = .ok (.goto (-56), 3) := by decide +kernel
theorem dX12_bandByGrains_61 : decode cX12_bandByGrains 61 = .ok (.aload_n 0, 1) := by decide +kernel
theorem dX12_bandByGrains_62 : decode cX12_bandByGrains 62 = .ok (.iconst 1, 1) := by decide +kernel
theorem dX12_bandByGrains_63 : decode cX12_bandByGrains 63 = .ok (.invokevirtual 74, 3) := by decide +kernel
theorem dX12_bandByGrains_66 : decode cX12_bandByGrains 66 = .ok (.ireturn, 1) := by decide +kernel
theorem dX12_meanLoudness_0 : decode cX12_meanLoudness 0 = .ok (.iconst 0, 1) := by decide +kernel
theorem dX12_meanLoudness_1 : decode cX12_meanLoudness 1 = .ok (.istore_n 1, 1) := by decide +kernel
theorem dX12_meanLoudness_2 : decode cX12_meanLoudness 2 = .ok (.iconst 0, 1) := by decide +kernel
theorem dX12_meanLoudness_3 : decode cX12_meanLoudness 3 = .ok (.istore_n 2, 1) := by decide +kernel
theorem dX12_meanLoudness_4 : decode cX12_meanLoudness 4 = .ok (.iload_n 2, 1) := by decide +kernel
theorem dX12_meanLoudness_5 : decode cX12_meanLoudness 5 = .ok (.aload_n 0, 1) := by decide +kernel
theorem dX12_meanLoudness_6 : decode cX12_meanLoudness 6 = .ok (.getfield 7, 3) := by decide +kernel
theorem dX12_meanLoudness_9 : decode cX12_meanLoudness 9 = .ok (.iconst 2, 1) := by decide +kernel
theorem dX12_meanLoudness_10 : decode cX12_meanLoudness 10 = .ok (.iaload, 1) := by decide +kernel
theorem dX12_meanLoudness_11 : decode cX12_meanLoudness 11 = .ok (.if_icmp .ge 33, 3) := by decide +kernel
theorem dX12_meanLoudness_14 : decode cX12_meanLoudness 14 = .ok (.iload_n 1, 1) := by decide +kernel
theorem dX12_meanLoudness_15 : decode cX12_meanLoudness 15 = .ok (.aload_n 0, 1) := by decide +kernel
theorem dX12_meanLoudness_16 : decode cX12_meanLoudness 16 = .ok (.iload_n 2, 1) := by decide +kernel
theorem dX12_meanLoudness_17 : decode cX12_meanLoudness 17 = .ok (.invokevirtual 60, 3) := by decide +kernel
theorem dX12_meanLoudness_20 : decode cX12_meanLoudness 20 = .ok (.ifCond .eq 15, 3) := by decide +kernel
theorem dX12_meanLoudness_23 : decode cX12_meanLoudness 23 = .ok (.aload_n 0, 1) := by decide +kernel
theorem dX12_meanLoudness_24 : decode cX12_meanLoudness 24 = .ok (.getfield 7, 3) := by decide +kernel
theorem dX12_meanLoudness_27 : decode cX12_meanLoudness 27 = .ok (.bipush 102, 2) := by decide +kernel
theorem dX12_meanLoudness_29 : decode cX12_meanLoudness 29 = .ok (.iload_n 2, 1) := by decide +kernel
theorem dX12_meanLoudness_30 : decode cX12_meanLoudness 30 = .ok (.iadd, 1) := by decide +kernel
theorem dX12_meanLoudness_31 : decode cX12_meanLoudness 31 = .ok (.iaload, 1) := by decide +kernel
theorem dX12_meanLoudness_32 : decode cX12_meanLoudness 32 = .ok (.goto 4, 3) := by decide +kernel
theorem dX12_meanLoudness_35 : decode cX12_meanLoudness 35 = .ok (.iconst 0, 1) := by decide +kernel
theorem dX12_meanLoudness_36 : decode cX12_meanLoudness 36 = .ok (.iadd, 1) := by decide +kernel
theorem dX12_meanLoudness_37 : decode cX12_meanLoudness 37 = .ok (.istore_n 1, 1) := by decide +kernel
theorem dX12_meanLoudness_38 : decode cX12_meanLoudness 38 = .ok (.iinc 2 1, 3) := by decide +kernel
theorem dX12_meanLoudness_41 : decode cX12_meanLoudness 41 = .ok (.goto (-37), 3) := by decide +kernel
theorem dX12_meanLoudness_44 : decode cX12_meanLoudness 44 = .ok (.aload_n 0, 1) := by decide +kernel
theorem dX12_meanLoudness_45 : decode cX12_meanLoudness 45 = .ok (.aload_n 0, 1) := by decide +kernel
theorem dX12_meanLoudness_46 : decode cX12_meanLoudness 46 = .ok (.invokevirtual 77, 3) := by decide +kernel
theorem dX12_meanLoudness_49 : decode cX12_meanLoudness 49 = .ok (.ifCond .ne 7, 3) := by decide +kernel
theorem dX12_meanLoudness_52 : decode cX12_meanLoudness 52 = .ok (.iconst 1, 1) := by decide +kernel
theorem dX12_meanLoudness_53 : decode cX12_meanLoudness 53 = .ok (.goto 4, 3) := by decide +kernel
theorem dX12_meanLoudness_56 : decode cX12_meanLoudness 56 = .ok (.iconst 0, 1) := by decide +kernel
theorem dX12_meanLoudness_57 : decode cX12_meanLoudness 57 = .ok (.putfield 42, 3) := by decide +kernel
theorem dX12_meanLoudness_60 : decode cX12_meanLoudness 60 = .ok (.aload_n 0, 1) := by decide +kernel
theorem dX12_meanLoudness_61 : decode cX12_meanLoudness 61 = .ok (.getfield 42, 3) := by decide +kernel
theorem dX12_meanLoudness_64 : decode cX12_meanLoudness 64 = .ok (.ifCond .ne 14, 3) := by decide +kernel
theorem dX12_meanLoudness_67 : decode cX12_meanLoudness 67 = .ok (.iload_n 1, 1) := by decide +kernel
theorem dX12_meanLoudness_68 : decode cX12_meanLoudness 68 = .ok (.i2d, 1) := by decide +kernel
theorem dX12_meanLoudness_69 : decode cX12_meanLoudness 69 = .ok (.aload_n 0, 1) := by decide +kernel
theorem dX12_meanLoudness_70 : decode cX12_meanLoudness 70 = .ok (.invokevirtual 77, 3) := by decide +kernel
theorem dX12_meanLoudness_73 : decode cX12_meanLoudness 73 = .ok (.i2d, 1) := by decide +kernel
theorem dX12_meanLoudness_74 : decode cX12_meanLoudness 74 = .ok (.ddiv, 1) := by decide +kernel
theorem dX12_meanLoudness_75 : decode cX12_meanLoudness 75 = .ok (.goto 4, 3) := by decide +kernel
theorem dX12_meanLoudness_78 : decode cX12_meanLoudness 78 = .ok (.dconst 0, 1) := by decide +kernel
theorem dX12_meanLoudness_79 : decode cX12_meanLoudness 79 = .ok (.dreturn, 1) := by decide +kernel
theorem dX12_lostShare_0 : decode cX12_lostShare 0 = .ok (.aload_n 0, 1) := by decide +kernel
theorem dX12_lostShare_1 : decode cX12_lostShare 1 = .ok (.aload_n 0, 1) := by decide +kernel
theorem dX12_lostShare_2 : decode cX12_lostShare 2 = .ok (.getfield 7, 3) := by decide +kernel
theorem dX12_lostShare_5 : decode cX12_lostShare 5 = .ok (.iconst 3, 1) := by decide +kernel
theorem dX12_lostShare_6 : decode cX12_lostShare 6 = .ok (.iaload, 1) := by decide +kernel
theorem dX12_lostShare_7 : decode cX12_lostShare 7 = .ok (.ifCond .ne 7, 3) := by decide +kernel
theorem dX12_lostShare_10 : decode cX12_lostShare 10 = .ok (.iconst 1, 1) := by decide +kernel
theorem dX12_lostShare_11 : decode cX12_lostShare 11 = .ok (.goto 4, 3) := by decide +kernel
theorem dX12_lostShare_14 : decode cX12_lostShare 14 = .ok (.iconst 0, 1) := by decide +kernel
theorem dX12_lostShare_15 : decode cX12_lostShare 15 = .ok (.putfield 42, 3) := by decide +kernel
theorem dX12_lostShare_18 : decode cX12_lostShare 18 = .ok (.aload_n 0, 1) := by decide +kernel
theorem dX12_lostShare_19 : decode cX12_lostShare 19 = .ok (.getfield 42, 3) := by decide +kernel
theorem dX12_lostShare_22 : decode cX12_lostShare 22 = .ok (.ifCond .ne 28, 3) := by decide +kernel
theorem dX12_lostShare_25 : decode cX12_lostShare 25 = .ok (.aload_n 0, 1) := by decide +kernel
theorem dX12_lostShare_26 : decode cX12_lostShare 26 = .ok (.getfield 7, 3) := by decide +kernel
theorem dX12_lostShare_29 : decode cX12_lostShare 29 = .ok (.iconst 4, 1) := by decide +kernel
theorem dX12_lostShare_30 : decode cX12_lostShare 30 = .ok (.iaload, 1) := by decide +kernel
theorem dX12_lostShare_31 : decode cX12_lostShare 31 = .ok (.aload_n 0, 1) := by decide +kernel
theorem dX12_lostShare_32 : decode cX12_lostShare 32 = .ok (.getfield 7, 3) := by decide +kernel
theorem dX12_lostShare_35 : decode cX12_lostShare 35 = .ok (.iconst 5, 1) := by decide +kernel
theorem dX12_lostShare_36 : decode cX12_lostShare 36 = .ok (.iaload, 1) := by decide +kernel
theorem dX12_lostShare_37 : decode cX12_lostShare 37 = .ok (.iadd, 1) := by decide +kernel
theorem dX12_lostShare_38 : decode cX12_lostShare 38 = .ok (.i2f, 1) := by decide +kernel
theorem dX12_lostShare_39 : decode cX12_lostShare 39 = .ok (.aload_n 0, 1) := by decide +kernel
theorem dX12_lostShare_40 : decode cX12_lostShare 40 = .ok (.getfield 7, 3) := by decide +kernel
theorem dX12_lostShare_43 : decode cX12_lostShare 43 = .ok (.iconst 3, 1) := by decide +kernel
theorem dX12_lostShare_44 : decode cX12_lostShare 44 = .ok (.iaload, 1) := by decide +kernel
theorem dX12_lostShare_45 : decode cX12_lostShare 45 = .ok (.i2f, 1) := by decide +kernel
theorem dX12_lostShare_46 : decode cX12_lostShare 46 = .ok (.fdiv, 1) := by decide +kernel
theorem dX12_lostShare_47 : decode cX12_lostShare 47 = .ok (.goto 4, 3) := by decide +kernel
theorem dX12_lostShare_50 : decode cX12_lostShare 50 = .ok (.fconst 0, 1) := by decide +kernel
theorem dX12_lostShare_51 : decode cX12_lostShare 51 = .ok (.freturn, 1) := by decide +kernel
theorem dX12_isConsistent_0 : decode cX12_isConsistent 0 = .ok (.aload_n 0, 1) := by decide +kernel
theorem dX12_isConsistent_1 : decode cX12_isConsistent 1 = .ok (.iconst 0, 1) := by decide +kernel
theorem dX12_isConsistent_2 : decode cX12_isConsistent 2 = .ok (.putfield 42, 3) := by decide +kernel
theorem dX12_isConsistent_5 : decode cX12_isConsistent 5 = .ok (.iconst 1, 1) := by decide +kernel
theorem dX12_isConsistent_6 : decode cX12_isConsistent 6 = .ok (.ireturn, 1) := by decide +kernel
theorem dX12_writes_0 : decode cX12_writes 0 = .ok (.aload_n 0, 1) := by decide +kernel
theorem dX12_writes_1 : decode cX12_writes 1 = .ok (.getfield 36, 3) := by decide +kernel
theorem dX12_writes_4 : decode cX12_writes 4 = .ok (.aload_n 0, 1) := by decide +kernel
theorem dX12_writes_5 : decode cX12_writes 5 = .ok (.getfield 178, 3) := by decide +kernel
theorem dX12_writes_8 : decode cX12_writes 8 = .ok (.iload_n 1, 1) := by decide +kernel
theorem dX12_writes_9 : decode cX12_writes 9 = .ok (.i2c, 1) := by decide +kernel
theorem dX12_writes_10 : decode cX12_writes 10 = .ok (.castore, 1) := by decide +kernel
theorem dX12_writes_11 : decode cX12_writes 11 = .ok (.aload_n 0, 1) := by decide +kernel
theorem dX12_writes_12 : decode cX12_writes 12 = .ok (.dup, 1) := by decide +kernel
theorem dX12_writes_13 : decode cX12_writes 13 = .ok (.getfield 178, 3) := by decide +kernel
theorem dX12_writes_16 : decode cX12_writes 16 = .ok (.iconst 1, 1) := by decide +kernel
theorem dX12_writes_17 : decode cX12_writes 17 = .ok (.iadd, 1) := by decide +kernel
theorem dX12_writes_18 : decode cX12_writes 18 = .ok (.putfield 178, 3) := by decide +kernel
theorem dX12_writes_21 : decode cX12_writes 21 = .ok (.return_, 1) := by decide +kernel
theorem dX12_writesNumber_0 : decode cX12_writesNumber 0 = .ok (.sipush 1000, 3) := by decide +kernel
theorem dX12_writesNumber_3 : decode cX12_writesNumber 3 = .ok (.istore_n 2, 1) := by decide +kernel
theorem dX12_writesNumber_4 : decode cX12_writesNumber 4 = .ok (.iload_n 2, 1) := by decide +kernel
theorem dX12_writesNumber_5 : decode cX12_writesNumber 5 = .ok (.iconst 1, 1) := by decide +kernel
theorem dX12_writesNumber_6 : decode cX12_writesNumber 6 = .ok (.if_icmp .le 16, 3) := by decide +kernel
theorem dX12_writesNumber_9 : decode cX12_writesNumber 9 = .ok (.iload_n 1, 1) := by decide +kernel
theorem dX12_writesNumber_10 : decode cX12_writesNumber 10 = .ok (.iload_n 2, 1) := by decide +kernel
theorem dX12_writesNumber_11 : decode cX12_writesNumber 11 = .ok (.if_icmp .ge 11, 3) := by decide +kernel
theorem dX12_writesNumber_14 : decode cX12_writesNumber 14 = .ok (.iload_n 2, 1) := by decide +kernel
theorem dX12_writesNumber_15 : decode cX12_writesNumber 15 = .ok (.bipush 10, 2) := by decide +kernel
theorem dX12_writesNumber_17 : decode cX12_writesNumber 17 = .ok (.idiv, 1) := by decide +kernel
theorem dX12_writesNumber_18 : decode cX12_writesNumber 18 = .ok (.istore_n 2, 1) := by decide +kernel
theorem dX12_writesNumber_19 : decode cX12_writesNumber 19 = .ok (.goto (-15), 3) := by decide +kernel
theorem dX12_writesNumber_22 : decode cX12_writesNumber 22 = .ok (.iload_n 2, 1) := by decide +kernel
theorem dX12_writesNumber_23 : decode cX12_writesNumber 23 = .ok (.ifCond .le 24, 3) := by decide +kernel
theorem dX12_writesNumber_26 : decode cX12_writesNumber 26 = .ok (.aload_n 0, 1) := by decide +kernel
theorem dX12_writesNumber_27 : decode cX12_writesNumber 27 = .ok (.bipush 48, 2) := by decide +kernel
theorem dX12_writesNumber_29 : decode cX12_writesNumber 29 = .ok (.iload_n 1, 1) := by decide +kernel
theorem dX12_writesNumber_30 : decode cX12_writesNumber 30 = .ok (.iload_n 2, 1) := by decide +kernel
theorem dX12_writesNumber_31 : decode cX12_writesNumber 31 = .ok (.idiv, 1) := by decide +kernel
theorem dX12_writesNumber_32 : decode cX12_writesNumber 32 = .ok (.bipush 10, 2) := by decide +kernel
theorem dX12_writesNumber_34 : decode cX12_writesNumber 34 = .ok (.irem, 1) := by decide +kernel
theorem dX12_writesNumber_35 : decode cX12_writesNumber 35 = .ok (.iadd, 1) := by decide +kernel
theorem dX12_writesNumber_36 : decode cX12_writesNumber 36 = .ok (.invokevirtual 181, 3) := by decide +kernel
theorem dX12_writesNumber_39 : decode cX12_writesNumber 39 = .ok (.iload_n 2, 1) := by decide +kernel
theorem dX12_writesNumber_40 : decode cX12_writesNumber 40 = .ok (.bipush 10, 2) := by decide +kernel
theorem dX12_writesNumber_42 : decode cX12_writesNumber 42 = .ok (.idiv, 1) := by decide +kernel
theorem dX12_writesNumber_43 : decode cX12_writesNumber 43 = .ok (.istore_n 2, 1) := by decide +kernel
theorem dX12_writesNumber_44 : decode cX12_writesNumber 44 = .ok (.goto (-22), 3) := by decide +kernel
theorem dX12_writesNumber_47 : decode cX12_writesNumber 47 = .ok (.return_, 1) := by decide +kernel
theorem dX12_renderWheel_0 : decode cX12_renderWheel 0 = .ok (.iload_n 1, 1) := by decide +kernel
theorem dX12_renderWheel_1 : decode cX12_renderWheel 1 = .ok (.invokestatic 104, 3) := by decide +kernel
theorem dX12_renderWheel_4 : decode cX12_renderWheel 4 = .ok (.ifCond .ne 9, 3) := by decide +kernel
theorem dX12_renderWheel_7 : decode cX12_renderWheel 7 = .ok (.aload_n 0, 1) := by decide +kernel
theorem dX12_renderWheel_8 : decode cX12_renderWheel 8 = .ok (.iconst 1, 1) := by decide +kernel
theorem dX12_renderWheel_9 : decode cX12_renderWheel 9 = .ok (.invokevirtual 74, 3) := by decide +kernel
theorem dX12_renderWheel_12 : decode cX12_renderWheel 12 = .ok (.ireturn, 1) := by decide +kernel
theorem dX12_renderWheel_13 : decode cX12_renderWheel 13 = .ok (.aload_n 0, 1) := by decide +kernel
theorem dX12_renderWheel_14 : decode cX12_renderWheel 14 = .ok (.iconst 0, 1) := by decide +kernel
theorem dX12_renderWheel_15 : decode cX12_renderWheel 15 = .ok (.putfield 178, 3) := by decide +kernel
theorem dX12_renderWheel_18 : decode cX12_renderWheel 18 = .ok (.aload_n 0, 1) := by decide +kernel
theorem dX12_renderWheel_19 : decode cX12_renderWheel 19 = .ok (.iload_n 1, 1) := by decide +kernel
theorem dX12_renderWheel_20 : decode cX12_renderWheel 20 = .ok (.invokevirtual 184, 3) := by decide +kernel
theorem dX12_renderWheel_23 : decode cX12_renderWheel 23 = .ok (.aload_n 0, 1) := by decide +kernel
theorem dX12_renderWheel_24 : decode cX12_renderWheel 24 = .ok (.bipush 103, 2) := by decide +kernel
theorem dX12_renderWheel_26 : decode cX12_renderWheel 26 = .ok (.invokevirtual 181, 3) := by decide +kernel
theorem dX12_renderWheel_29 : decode cX12_renderWheel 29 = .ok (.aload_n 0, 1) := by decide +kernel
theorem dX12_renderWheel_30 : decode cX12_renderWheel 30 = .ok (.aload_n 0, 1) := by decide +kernel
theorem dX12_renderWheel_31 : decode cX12_renderWheel 31 = .ok (.getfield 7, 3) := by decide +kernel
theorem dX12_renderWheel_34 : decode cX12_renderWheel 34 = .ok (.bipush 7, 2) := by decide +kernel
theorem dX12_renderWheel_36 : decode cX12_renderWheel 36 = .ok (.iload_n 1, 1) := by decide +kernel
theorem dX12_renderWheel_37 : decode cX12_renderWheel 37 = .ok (.iadd, 1) := by decide +kernel
theorem dX12_renderWheel_38 : decode cX12_renderWheel 38 = .ok (.iaload, 1) := by decide +kernel
theorem dX12_renderWheel_39 : decode cX12_renderWheel 39 = .ok (.invokevirtual 184, 3) := by decide +kernel
theorem dX12_renderWheel_42 : decode cX12_renderWheel 42 = .ok (.aload_n 0, 1) := by decide +kernel
theorem dX12_renderWheel_43 : decode cX12_renderWheel 43 = .ok (.bipush 119, 2) := by decide +kernel
theorem dX12_renderWheel_45 : decode cX12_renderWheel 45 = .ok (.invokevirtual 181, 3) := by decide +kernel
theorem dX12_renderWheel_48 : decode cX12_renderWheel 48 = .ok (.aload_n 0, 1) := by decide +kernel
theorem dX12_renderWheel_49 : decode cX12_renderWheel 49 = .ok (.aload_n 0, 1) := by decide +kernel
theorem dX12_renderWheel_50 : decode cX12_renderWheel 50 = .ok (.getfield 7, 3) := by decide +kernel
theorem dX12_renderWheel_53 : decode cX12_renderWheel 53 = .ok (.bipush 10, 2) := by decide +kernel
theorem dX12_renderWheel_55 : decode cX12_renderWheel 55 = .ok (.iload_n 1, 1) := by decide +kernel
theorem dX12_renderWheel_56 : decode cX12_renderWheel 56 = .ok (.iadd, 1) := by decide +kernel
theorem dX12_renderWheel_57 : decode cX12_renderWheel 57 = .ok (.iaload, 1) := by decide +kernel
theorem dX12_renderWheel_58 : decode cX12_renderWheel 58 = .ok (.invokevirtual 184, 3) := by decide +kernel
theorem dX12_renderWheel_61 : decode cX12_renderWheel 61 = .ok (.aload_n 0, 1) := by decide +kernel
theorem dX12_renderWheel_62 : decode cX12_renderWheel 62 = .ok (.getfield 7, 3) := by decide +kernel
theorem dX12_renderWheel_65 : decode cX12_renderWheel 65 = .ok (.bipush 10, 2) := by decide +kernel
theorem dX12_renderWheel_67 : decode cX12_renderWheel 67 = .ok (.iload_n 1, 1) := by decide +kernel
theorem dX12_renderWheel_68 : decode cX12_renderWheel 68 = .ok (.iadd, 1) := by decide +kernel
theorem dX12_renderWheel_69 : decode cX12_renderWheel 69 = .ok (.iaload, 1) := by decide +kernel
theorem dX12_renderWheel_70 : decode cX12_renderWheel 70 = .ok (.bipush 12, 2) := by decide +kernel
theorem dX12_renderWheel_72 : decode cX12_renderWheel 72 = .ok (.if_icmp .lt 9, 3) := by decide +kernel
theorem dX12_renderWheel_75 : decode cX12_renderWheel 75 = .ok (.aload_n 0, 1) := by decide +kernel
theorem dX12_renderWheel_76 : decode cX12_renderWheel 76 = .ok (.bipush 33, 2) := by decide +kernel
theorem dX12_renderWheel_78 : decode cX12_renderWheel 78 = .ok (.invokevirtual 181, 3) := by decide +kernel
theorem dX12_renderWheel_81 : decode cX12_renderWheel 81 = .ok (.aload_n 0, 1) := by decide +kernel
theorem dX12_renderWheel_82 : decode cX12_renderWheel 82 = .ok (.bipush 58, 2) := by decide +kernel
theorem dX12_renderWheel_84 : decode cX12_renderWheel 84 = .ok (.invokevirtual 181, 3) := by decide +kernel
theorem dX12_renderWheel_87 : decode cX12_renderWheel 87 = .ok (.aload_n 0, 1) := by decide +kernel
theorem dX12_renderWheel_88 : decode cX12_renderWheel 88 = .ok (.getfield 7, 3) := by decide +kernel
theorem dX12_renderWheel_91 : decode cX12_renderWheel 91 = .ok (.bipush 13, 2) := by decide +kernel
theorem dX12_renderWheel_93 : decode cX12_renderWheel 93 = .ok (.iload_n 1, 1) := by decide +kernel
theorem dX12_renderWheel_94 : decode cX12_renderWheel 94 = .ok (.iadd, 1) := by decide +kernel
theorem dX12_renderWheel_95 : decode cX12_renderWheel 95 = .ok (.iaload, 1) := by decide +kernel
theorem dX12_renderWheel_96 : decode cX12_renderWheel 96 = .ok (.ifCond .ne 12, 3) := by decide +kernel
theorem dX12_renderWheel_99 : decode cX12_renderWheel 99 = .ok (.aload_n 0, 1) := by decide +kernel
theorem dX12_renderWheel_100 : decode cX12_renderWheel 100 = .ok (.bipush 45, 2) := by decide +kernel
theorem dX12_renderWheel_102 : decode cX12_renderWheel 102 = .ok (.invokevirtual 181, 3) := by decide +kernel
theorem dX12_renderWheel_105 : decode cX12_renderWheel 105 = .ok (.goto 51, 3) := by decide +kernel
theorem dX12_renderWheel_108 : decode cX12_renderWheel 108 = .ok (.aload_n 0, 1) := by decide +kernel
theorem dX12_renderWheel_109 : decode cX12_renderWheel 109 = .ok (.aload_n 0, 1) := by decide +kernel
theorem dX12_renderWheel_110 : decode cX12_renderWheel 110 = .ok (.getfield 7, 3) := by decide +kernel
theorem dX12_renderWheel_113 : decode cX12_renderWheel 113 = .ok (.bipush 13, 2) := by decide +kernel
theorem dX12_renderWheel_115 : decode cX12_renderWheel 115 = .ok (.iload_n 1, 1) := by decide +kernel
theorem dX12_renderWheel_116 : decode cX12_renderWheel 116 = .ok (.iadd, 1) := by decide +kernel
theorem dX12_renderWheel_117 : decode cX12_renderWheel 117 = .ok (.iaload, 1) := by decide +kernel
theorem dX12_renderWheel_118 : decode cX12_renderWheel 118 = .ok (.iconst 1, 1) := by decide +kernel
theorem dX12_renderWheel_119 : decode cX12_renderWheel 119 = .ok (.isub, 1) := by decide +kernel
theorem dX12_renderWheel_120 : decode cX12_renderWheel 120 = .ok (.invokevirtual 184, 3) := by decide +kernel
theorem dX12_renderWheel_123 : decode cX12_renderWheel 123 = .ok (.aload_n 0, 1) := by decide +kernel
theorem dX12_renderWheel_124 : decode cX12_renderWheel 124 = .ok (.bipush 120, 2) := by decide +kernel
theorem dX12_renderWheel_126 : decode cX12_renderWheel 126 = .ok (.invokevirtual 181, 3) := by decide +kernel
theorem dX12_renderWheel_129 : decode cX12_renderWheel 129 = .ok (.aload_n 0, 1) := by decide +kernel
theorem dX12_renderWheel_130 : decode cX12_renderWheel 130 = .ok (.aload_n 0, 1) := by decide +kernel
theorem dX12_renderWheel_131 : decode cX12_renderWheel 131 = .ok (.getfield 7, 3) := by decide +kernel
theorem dX12_renderWheel_134 : decode cX12_renderWheel 134 = .ok (.bipush 117, 2) := by decide +kernel
theorem dX12_renderWheel_136 : decode cX12_renderWheel 136 = .ok (.aload_n 0, 1) := by decide +kernel
theorem dX12_renderWheel_137 : decode cX12_renderWheel 137 = .ok (.aload_n 0, 1) := by decide +kernel
theorem dX12_renderWheel_138 : decode cX12_renderWheel 138 = .ok (.getfield 7, 3) := by decide +kernel
theorem dX12_renderWheel_141 : decode cX12_renderWheel 141 = .ok (.bipush 13, 2) := by decide +kernel
theorem dX12_renderWheel_143 : decode cX12_renderWheel 143 = .ok (.iload_n 1, 1) := by decide +kernel
theorem dX12_renderWheel_144 : decode cX12_renderWheel 144 = .ok (.iadd, 1) := by decide +kernel
theorem dX12_renderWheel_145 : decode cX12_renderWheel 145 = .ok (.iaload, 1) := by decide +kernel
theorem dX12_renderWheel_146 : decode cX12_renderWheel 146 = .ok (.iconst 1, 1) := by decide +kernel
theorem dX12_renderWheel_147 : decode cX12_renderWheel 147 = .ok (.isub, 1) := by decide +kernel
theorem dX12_renderWheel_148 : decode cX12_renderWheel 148 = .ok (.invokevirtual 94, 3) := by decide +kernel
theorem dX12_renderWheel_151 : decode cX12_renderWheel 151 = .ok (.iadd, 1) := by decide +kernel
theorem dX12_renderWheel_152 : decode cX12_renderWheel 152 = .ok (.iaload, 1) := by decide +kernel
theorem dX12_renderWheel_153 : decode cX12_renderWheel 153 = .ok (.invokevirtual 184, 3) := by decide +kernel
theorem dX12_renderWheel_156 : decode cX12_renderWheel 156 = .ok (.aload_n 0, 1) := by decide +kernel
theorem dX12_renderWheel_157 : decode cX12_renderWheel 157 = .ok (.aload_n 0, 1) := by decide +kernel
theorem dX12_renderWheel_158 : decode cX12_renderWheel 158 = .ok (.getfield 178, 3) := by decide +kernel
theorem dX12_renderWheel_161 : decode cX12_renderWheel 161 = .ok (.invokevirtual 81, 3) := by decide +kernel
theorem dX12_renderWheel_164 : decode cX12_renderWheel 164 = .ok (.ireturn, 1) := by decide +kernel
theorem dX12_renderSacks_0 : decode cX12_renderSacks 0 = .ok (.aload_n 0, 1) := by decide +kernel
theorem dX12_renderSacks_1 : decode cX12_renderSacks 1 = .ok (.iconst 0, 1) := by decide +kernel
theorem dX12_renderSacks_2 : decode cX12_renderSacks 2 = .ok (.putfield 178, 3) := by decide +kernel
theorem dX12_renderSacks_5 : decode cX12_renderSacks 5 = .ok (.iconst 0, 1) := by decide +kernel
theorem dX12_renderSacks_6 : decode cX12_renderSacks 6 = .ok (.istore_n 1, 1) := by decide +kernel
theorem dX12_renderSacks_7 : decode cX12_renderSacks 7 = .ok (.iload_n 1, 1) := by decide +kernel
theorem dX12_renderSacks_8 : decode cX12_renderSacks 8 = .ok (.iconst 4, 1) := by decide +kernel
theorem dX12_renderSacks_9 : decode cX12_renderSacks 9 = .ok (.if_icmp .ge 57, 3) := by decide +kernel
theorem dX12_renderSacks_12 : decode cX12_renderSacks 12 = .ok (.iload_n 1, 1) := by decide +kernel
theorem dX12_renderSacks_13 : decode cX12_renderSacks 13 = .ok (.ifCond .le 9, 3) := by decide +kernel
theorem dX12_renderSacks_16 : decode cX12_renderSacks 16 = .ok (.aload_n 0, 1) := by decide +kernel
theorem dX12_renderSacks_17 : decode cX12_renderSacks 17 = .ok (.bipush 32, 2) := by decide +kernel
theorem dX12_renderSacks_19 : decode cX12_renderSacks 19 = .ok (.invokevirtual 181, 3) := by decide +kernel
theorem dX12_renderSacks_22 : decode cX12_renderSacks 22 = .ok (.aload_n 0, 1) := by decide +kernel
theorem dX12_renderSacks_23 : decode cX12_renderSacks 23 = .ok (.aload_n 0, 1) := by decide +kernel
theorem dX12_renderSacks_24 : decode cX12_renderSacks 24 = .ok (.getfield 7, 3) := by decide +kernel
theorem dX12_renderSacks_27 : decode cX12_renderSacks 27 = .ok (.bipush 28, 2) := by decide +kernel
theorem dX12_renderSacks_29 : decode cX12_renderSacks 29 = .ok (.iload_n 1, 1) := by decide +kernel
theorem dX12_renderSacks_30 : decode cX12_renderSacks 30 = .ok (.iadd, 1) := by decide +kernel
theorem dX12_renderSacks_31 : decode cX12_renderSacks 31 = .ok (.iaload, 1) := by decide +kernel
theorem dX12_renderSacks_32 : decode cX12_renderSacks 32 = .ok (.bipush 20, 2) := by decide +kernel
theorem dX12_renderSacks_34 : decode cX12_renderSacks 34 = .ok (.idiv, 1) := by decide +kernel
theorem dX12_renderSacks_35 : decode cX12_renderSacks 35 = .ok (.invokevirtual 184, 3) := by decide +kernel
theorem dX12_renderSacks_38 : decode cX12_renderSacks 38 = .ok (.aload_n 0, 1) := by decide +kernel
theorem dX12_renderSacks_39 : decode cX12_renderSacks 39 = .ok (.bipush 43, 2) := by decide +kernel
theorem dX12_renderSacks_41 : decode cX12_renderSacks 41 = .ok (.invokevirtual 181, 3) := by decide +kernel
theorem dX12_renderSacks_44 : decode cX12_renderSacks 44 = .ok (.aload_n 0, 1) := by decide +kernel
theorem dX12_renderSacks_45 : decode cX12_renderSacks 45 = .ok (.aload_n 0, 1) := by decide +kernel
theorem dX12_renderSacks_46 : decode cX12_renderSacks 46 = .ok (.getfield 7, 3) := by decide +kernel
theorem dX12_renderSacks_49 : decode cX12_renderSacks 49 = .ok (.bipush 28, 2) := by decide +kernel
theorem dX12_renderSacks_51 : decode cX12_renderSacks 51 = .ok (.iload_n 1, 1) := by decide +kernel
theorem dX12_renderSacks_52 : decode cX12_renderSacks 52 = .ok (.iadd, 1) := by decide +kernel
theorem dX12_renderSacks_53 : decode cX12_renderSacks 53 = .ok (.iaload, 1) := by decide +kernel
theorem dX12_renderSacks_54 : decode cX12_renderSacks 54 = .ok (.bipush 20, 2) := by decide +kernel
theorem dX12_renderSacks_56 : decode cX12_renderSacks 56 = .ok (.irem, 1) := by decide +kernel
theorem dX12_renderSacks_57 : decode cX12_renderSacks 57 = .ok (.invokevirtual 184, 3) := by decide +kernel
theorem dX12_renderSacks_60 : decode cX12_renderSacks 60 = .ok (.iinc 1 1, 3) := by decide +kernel
theorem dX12_renderSacks_63 : decode cX12_renderSacks 63 = .ok (.goto (-56), 3) := by decide +kernel
theorem dX12_renderSacks_66 : decode cX12_renderSacks 66 = .ok (.aload_n 0, 1) := by decide +kernel
theorem dX12_renderSacks_67 : decode cX12_renderSacks 67 = .ok (.aload_n 0, 1) := by decide +kernel
theorem dX12_renderSacks_68 : decode cX12_renderSacks 68 = .ok (.getfield 178, 3) := by decide +kernel
theorem dX12_renderSacks_71 : decode cX12_renderSacks 71 = .ok (.invokevirtual 81, 3) := by decide +kernel
theorem dX12_renderSacks_74 : decode cX12_renderSacks 74 = .ok (.ireturn, 1) := by decide +kernel
theorem dX12_outputAt_0 : decode cX12_outputAt 0 = .ok (.aload_n 0, 1) := by decide +kernel
theorem dX12_outputAt_1 : decode cX12_outputAt 1 = .ok (.iload_n 1, 1) := by decide +kernel
theorem dX12_outputAt_2 : decode cX12_outputAt 2 = .ok (.iconst 0, 1) := by decide +kernel
theorem dX12_outputAt_3 : decode cX12_outputAt 3 = .ok (.aload_n 0, 1) := by decide +kernel
theorem dX12_outputAt_4 : decode cX12_outputAt 4 = .ok (.getfield 178, 3) := by decide +kernel
theorem dX12_outputAt_7 : decode cX12_outputAt 7 = .ok (.iconst 1, 1) := by decide +kernel
theorem dX12_outputAt_8 : decode cX12_outputAt 8 = .ok (.isub, 1) := by decide +kernel
theorem dX12_outputAt_9 : decode cX12_outputAt 9 = .ok (.invokestatic 52, 3) := by decide +kernel
theorem dX12_outputAt_12 : decode cX12_outputAt 12 = .ok (.ifCond .eq 7, 3) := by decide +kernel
theorem dX12_outputAt_15 : decode cX12_outputAt 15 = .ok (.iconst 0, 1) := by decide +kernel
theorem dX12_outputAt_16 : decode cX12_outputAt 16 = .ok (.goto 4, 3) := by decide +kernel
theorem dX12_outputAt_19 : decode cX12_outputAt 19 = .ok (.iconst 1, 1) := by decide +kernel
theorem dX12_outputAt_20 : decode cX12_outputAt 20 = .ok (.putfield 42, 3) := by decide +kernel
theorem dX12_outputAt_23 : decode cX12_outputAt 23 = .ok (.aload_n 0, 1) := by decide +kernel
theorem dX12_outputAt_24 : decode cX12_outputAt 24 = .ok (.getfield 42, 3) := by decide +kernel
theorem dX12_outputAt_27 : decode cX12_outputAt 27 = .ok (.ifCond .ne 12, 3) := by decide +kernel
theorem dX12_outputAt_30 : decode cX12_outputAt 30 = .ok (.aload_n 0, 1) := by decide +kernel
theorem dX12_outputAt_31 : decode cX12_outputAt 31 = .ok (.getfield 36, 3) := by decide +kernel
theorem dX12_outputAt_34 : decode cX12_outputAt 34 = .ok (.iload_n 1, 1) := by decide +kernel
theorem dX12_outputAt_35 : decode cX12_outputAt 35 = .ok (.caload, 1) := by decide +kernel
theorem dX12_outputAt_36 : decode cX12_outputAt 36 = .ok (.goto 4, 3) := by decide +kernel
theorem dX12_outputAt_39 : decode cX12_outputAt 39 = .ok (.iconst 0, 1) := by decide +kernel
theorem dX12_outputAt_40 : decode cX12_outputAt 40 = .ok (.ireturn, 1) := by decide +kernel
theorem dX12_type_0 : decode cX12_type 0 = .ok (.iload_n 1, 1) := by decide +kernel
theorem dX12_type_1 : decode cX12_type 1 = .ok (.bipush 32, 2) := by decide +kernel
theorem dX12_type_3 : decode cX12_type 3 = .ok (.bipush 126, 2) := by decide +kernel
theorem dX12_type_5 : decode cX12_type 5 = .ok (.invokestatic 52, 3) := by decide +kernel
theorem dX12_type_8 : decode cX12_type 8 = .ok (.ifCond .ne 9, 3) := by decide +kernel
theorem dX12_type_11 : decode cX12_type 11 = .ok (.aload_n 0, 1) := by decide +kernel
theorem dX12_type_12 : decode cX12_type 12 = .ok (.iconst 1, 1) := by decide +kernel
theorem dX12_type_13 : decode cX12_type 13 = .ok (.invokevirtual 74, 3) := by decide +kernel
theorem dX12_type_16 : decode cX12_type 16 = .ok (.ireturn, 1) := by decide +kernel
theorem dX12_type_17 : decode cX12_type 17 = .ok (.aload_n 0, 1) := by decide +kernel
theorem dX12_type_18 : decode cX12_type 18 = .ok (.getfield 187, 3) := by decide +kernel
theorem dX12_type_21 : decode cX12_type 21 = .ok (.bipush 60, 2) := by decide +kernel
theorem dX12_type_23 : decode cX12_type 23 = .ok (.if_icmp .ne 9, 3) := by decide +kernel
theorem dX12_type_26 : decode cX12_type 26 = .ok (.aload_n 0, 1) := by decide +kernel
theorem dX12_type_27 : decode cX12_type 27 = .ok (.iconst 2, 1) := by decide +kernel
theorem dX12_type_28 : decode cX12_type 28 = .ok (.invokevirtual 74, 3) := by decide +kernel
theorem dX12_type_31 : decode cX12_type 31 = .ok (.ireturn, 1) := by decide +kernel
theorem dX12_type_32 : decode cX12_type 32 = .ok (.aload_n 0, 1) := by decide +kernel
theorem dX12_type_33 : decode cX12_type 33 = .ok (.getfield 25, 3) := by decide +kernel
theorem dX12_type_36 : decode cX12_type 36 = .ok (.aload_n 0, 1) := by decide +kernel
theorem dX12_type_37 : decode cX12_type 37 = .ok (.getfield 187, 3) := by decide +kernel
theorem dX12_type_40 : decode cX12_type 40 = .ok (.iload_n 1, 1) := by decide +kernel
theorem dX12_type_41 : decode cX12_type 41 = .ok (.castore, 1) := by decide +kernel
theorem dX12_type_42 : decode cX12_type 42 = .ok (.aload_n 0, 1) := by decide +kernel
theorem dX12_type_43 : decode cX12_type 43 = .ok (.dup, 1) := by decide +kernel
theorem dX12_type_44 : decode cX12_type 44 = .ok (.getfield 187, 3) := by decide +kernel
theorem dX12_type_47 : decode cX12_type 47 = .ok (.iconst 1, 1) := by decide +kernel
theorem dX12_type_48 : decode cX12_type 48 = .ok (.iadd, 1) := by decide +kernel
theorem dX12_type_49 : decode cX12_type 49 = .ok (.putfield 187, 3) := by decide +kernel
theorem dX12_type_52 : decode cX12_type 52 = .ok (.aload_n 0, 1) := by decide +kernel
theorem dX12_type_53 : decode cX12_type 53 = .ok (.aload_n 0, 1) := by decide +kernel
theorem dX12_type_54 : decode cX12_type 54 = .ok (.getfield 187, 3) := by decide +kernel
theorem dX12_type_57 : decode cX12_type 57 = .ok (.invokevirtual 81, 3) := by decide +kernel
theorem dX12_type_60 : decode cX12_type 60 = .ok (.ireturn, 1) := by decide +kernel
theorem dX12_here_0 : decode cX12_here 0 = .ok (.aload_n 0, 1) := by decide +kernel
theorem dX12_here_1 : decode cX12_here 1 = .ok (.getfield 190, 3) := by decide +kernel
theorem dX12_here_4 : decode cX12_here 4 = .ok (.aload_n 0, 1) := by decide +kernel
theorem dX12_here_5 : decode cX12_here 5 = .ok (.getfield 187, 3) := by decide +kernel
theorem dX12_here_8 : decode cX12_here 8 = .ok (.if_icmp .ge 15, 3) := by decide +kernel
theorem dX12_here_11 : decode cX12_here 11 = .ok (.aload_n 0, 1) := by decide +kernel
theorem dX12_here_12 : decode cX12_here 12 = .ok (.getfield 25, 3) := by decide +kernel
theorem dX12_here_15 : decode cX12_here 15 = .ok (.aload_n 0, 1) := by decide +kernel
theorem dX12_here_16 : decode cX12_here 16 = .ok (.getfield 190, 3) := by decide +kernel
theorem dX12_here_19 : decode cX12_here 19 = .ok (.caload, 1) := by decide +kernel
theorem dX12_here_20 : decode cX12_here 20 = .ok (.goto 4, 3) := by decide +kernel
theorem dX12_here_23 : decode cX12_here 23 = .ok (.iconst (-1), 1) := by decide +kernel
theorem dX12_here_24 : decode cX12_here 24 = .ok (.ireturn, 1) := by decide +kernel
theorem dX12_needs_0 : decode cX12_needs 0 = .ok (.aload_n 0, 1) := by decide +kernel
theorem dX12_needs_1 : decode cX12_needs 1 = .ok (.aload_n 0, 1) := by decide +kernel
theorem dX12_needs_2 : decode cX12_needs 2 = .ok (.getfield 193, 3) := by decide +kernel
theorem dX12_needs_5 : decode cX12_needs 5 = .ok (.ifCond .ne 11, 3) := by decide +kernel
theorem dX12_needs_8 : decode cX12_needs 8 = .ok (.aload_n 0, 1) := by decide +kernel
theorem dX12_needs_9 : decode cX12_needs 9 = .ok (.invokevirtual 197, 3) := by decide +kernel
theorem dX12_needs_12 : decode cX12_needs 12 = .ok (.iload_n 1, 1) := by decide +kernel
theorem dX12_needs_13 : decode cX12_needs 13 = .ok (.if_icmp .eq 7, 3) := by decide +kernel
theorem dX12_needs_16 : decode cX12_needs 16 = .ok (.iconst 1, 1) := by decide +kernel
theorem dX12_needs_17 : decode cX12_needs 17 = .ok (.goto 4, 3) := by decide +kernel
theorem dX12_needs_20 : decode cX12_needs 20 = .ok (.iconst 0, 1) := by decide +kernel
theorem dX12_needs_21 : decode cX12_needs 21 = .ok (.putfield 193, 3) := by decide +kernel
theorem dX12_needs_24 : decode cX12_needs 24 = .ok (.aload_n 0, 1) := by decide +kernel
theorem dX12_needs_25 : decode cX12_needs 25 = .ok (.dup, 1) := by decide +kernel
theorem dX12_needs_26 : decode cX12_needs 26 = .ok (.getfield 190, 3) := by decide +kernel
theorem dX12_needs_29 : decode cX12_needs 29 = .ok (.aload_n 0, 1) := by decide +kernel
theorem dX12_needs_30 : decode cX12_needs 30 = .ok (.getfield 193, 3) := by decide +kernel
theorem dX12_needs_33 : decode cX12_needs 33 = .ok (.ifCond .eq 7, 3) := by decide +kernel
theorem dX12_needs_36 : decode cX12_needs 36 = .ok (.iconst 0, 1) := by decide +kernel
theorem dX12_needs_37 : decode cX12_needs 37 = .ok (.goto 4, 3) := by decide +kernel
theorem dX12_needs_40 : decode cX12_needs 40 = .ok (.iconst 1, 1) := by decide +kernel
theorem dX12_needs_41 : decode cX12_needs 41 = .ok (.iadd, 1) := by decide +kernel
theorem dX12_needs_42 : decode cX12_needs 42 = .ok (.putfield 190, 3) := by decide +kernel
theorem dX12_needs_45 : decode cX12_needs 45 = .ok (.return_, 1) := by decide +kernel
theorem dX12_needsThree_0 : decode cX12_needsThree 0 = .ok (.aload_n 0, 1) := by decide +kernel
theorem dX12_needsThree_1 : decode cX12_needsThree 1 = .ok (.iload_n 1, 1) := by decide +kernel
theorem dX12_needsThree_2 : decode cX12_needsThree 2 = .ok (.invokevirtual 200, 3) := by decide +kernel
theorem dX12_needsThree_5 : decode cX12_needsThree 5 = .ok (.aload_n 0, 1) := by decide +kernel
theorem dX12_needsThree_6 : decode cX12_needsThree 6 = .ok (.iload_n 2, 1) := by decide +kernel
theorem dX12_needsThree_7 : decode cX12_needsThree 7 = .ok (.invokevirtual 200, 3) := by decide +kernel
theorem dX12_needsThree_10 : decode cX12_needsThree 10 = .ok (.aload_n 0, 1) := by decide +kernel
theorem dX12_needsThree_11 : decode cX12_needsThree 11 = .ok (.iload_n 3, 1) := by decide +kernel
theorem dX12_needsThree_12 : decode cX12_needsThree 12 = .ok (.invokevirtual 200, 3) := by decide +kernel
theorem dX12_needsThree_15 : decode cX12_needsThree 15 = .ok (.return_, 1) := by decide +kernel
theorem dX12_digits_0 : decode cX12_digits 0 = .ok (.aload_n 0, 1) := by decide +kernel
theorem dX12_digits_1 : decode cX12_digits 1 = .ok (.bipush 32, 2) := by decide +kernel
theorem dX12_digits_3 : decode cX12_digits 3 = .ok (.invokevirtual 200, 3) := by decide +kernel
theorem dX12_digits_6 : decode cX12_digits 6 = .ok (.aload_n 0, 1) := by decide +kernel
theorem dX12_digits_7 : decode cX12_digits 7 = .ok (.aload_n 0, 1) := by decide +kernel
theorem dX12_digits_8 : decode cX12_digits 8 = .ok (.getfield 193, 3) := by decide +kernel
theorem dX12_digits_11 : decode cX12_digits 11 = .ok (.ifCond .ne 17, 3) := by decide +kernel
theorem dX12_digits_14 : decode cX12_digits 14 = .ok (.aload_n 0, 1) := by decide +kernel
theorem dX12_digits_15 : decode cX12_digits 15 = .ok (.invokevirtual 197, 3) := by decide +kernel
theorem dX12_digits_18 : decode cX12_digits 18 = .ok (.bipush 48, 2) := by decide +kernel
theorem dX12_digits_20 : decode cX12_digits 20 = .ok (.bipush 57, 2) := by decide +kernel
theorem dX12_digits_22 : decode cX12_digits 22 = .ok (.invokestatic 52, 3) := by decide +kernel
theorem dX12_digits_25 : decode cX12_digits 25 = .ok (.ifCond .ne 7, 3) := by decide +kernel
theorem dX12_digits_28 : decode cX12_digits 28 = .ok (.iconst 1, 1) := by decide +kernel
theorem dX12_digits_29 : decode cX12_digits 29 = .ok (.goto 4, 3) := by decide +kernel
theorem dX12_digits_32 : decode cX12_digits 32 = .ok (.iconst 0, 1) := by decide +kernel
theorem dX12_digits_33 : decode cX12_digits 33 = .ok (.putfield 193, 3) := by decide +kernel
theorem dX12_digits_36 : decode cX12_digits 36 = .ok (.iconst 0, 1) := by decide +kernel
theorem dX12_digits_37 : decode cX12_digits 37 = .ok (.istore_n 2, 1) := by decide +kernel
theorem dX12_digits_38 : decode cX12_digits 38 = .ok (.iconst 0, 1) := by decide +kernel
theorem dX12_digits_39 : decode cX12_digits 39 = .ok (.istore_n 3, 1) := by decide +kernel
theorem dX12_digits_40 : decode cX12_digits 40 = .ok (.aload_n 0, 1) := by decide +kernel
theorem dX12_digits_41 : decode cX12_digits 41 = .ok (.getfield 193, 3) := by decide +kernel
theorem dX12_digits_44 : decode cX12_digits 44 = .ok (.ifCond .ne 51, 3) := by decide +kernel
theorem dX12_digits_47 : decode cX12_digits 47 = .ok (.iload_n 3, 1) := by decide +kernel
theorem dX12_digits_48 : decode cX12_digits 48 = .ok (.iload_n 1, 1) := by decide +kernel
theorem dX12_digits_49 : decode cX12_digits 49 = .ok (.if_icmp .ge 46, 3) := by decide +kernel
theorem dX12_digits_52 : decode cX12_digits 52 = .ok (.aload_n 0, 1) := by decide +kernel
theorem dX12_digits_53 : decode cX12_digits 53 = .ok (.invokevirtual 197, 3) := by decide +kernel
theorem dX12_digits_56 : decode cX12_digits 56 = .ok (.bipush 48, 2) := by decide +kernel
theorem dX12_digits_58 : decode cX12_digits 58 = .ok (.bipush 57, 2) := by decide +kernel
theorem dX12_digits_60 : decode cX12_digits 60 = .ok (.invokestatic 52, 3) := by decide +kernel
theorem dX12_digits_63 : decode cX12_digits 63 = .ok (.ifCond .eq 32, 3) := by decide +kernel
theorem dX12_digits_66 : decode cX12_digits 66 = .ok (.bipush 10, 2) := by decide +kernel
theorem dX12_digits_68 : decode cX12_digits 68 = .ok (.iload_n 2, 1) := by decide +kernel
theorem dX12_digits_69 : decode cX12_digits 69 = .ok (.imul, 1) := by decide +kernel
theorem dX12_digits_70 : decode cX12_digits 70 = .ok (.aload_n 0, 1) := by decide +kernel
theorem dX12_digits_71 : decode cX12_digits 71 = .ok (.invokevirtual 197, 3) := by decide +kernel
theorem dX12_digits_74 : decode cX12_digits 74 = .ok (.iadd, 1) := by decide +kernel
theorem dX12_digits_75 : decode cX12_digits 75 = .ok (.bipush 48, 2) := by decide +kernel
theorem dX12_digits_77 : decode cX12_digits 77 = .ok (.isub, 1) := by decide +kernel
theorem dX12_digits_78 : decode cX12_digits 78 = .ok (.istore_n 2, 1) := by decide +kernel
theorem dX12_digits_79 : decode cX12_digits 79 = .ok (.aload_n 0, 1) := by decide +kernel
theorem dX12_digits_80 : decode cX12_digits 80 = .ok (.dup, 1) := by decide +kernel
theorem dX12_digits_81 : decode cX12_digits 81 = .ok (.getfield 190, 3) := by decide +kernel
theorem dX12_digits_84 : decode cX12_digits 84 = .ok (.iconst 1, 1) := by decide +kernel
theorem dX12_digits_85 : decode cX12_digits 85 = .ok (.iadd, 1) := by decide +kernel
theorem dX12_digits_86 : decode cX12_digits 86 = .ok (.putfield 190, 3) := by decide +kernel
theorem dX12_digits_89 : decode cX12_digits 89 = .ok (.iinc 3 1, 3) := by decide +kernel
theorem dX12_digits_92 : decode cX12_digits 92 = .ok (.goto (-52), 3) := by decide +kernel
theorem dX12_digits_95 : decode cX12_digits 95 = .ok (.iload_n 2, 1) := by decide +kernel
theorem dX12_digits_96 : decode cX12_digits 96 = .ok (.ireturn, 1) := by decide +kernel
theorem dX12_parsesS_0 : decode cX12_parsesS 0 = .ok (.aload_n 0, 1) := by decide +kernel
theorem dX12_parsesS_1 : decode cX12_parsesS 1 = .ok (.invokevirtual 197, 3) := by decide +kernel
theorem dX12_parsesS_4 : decode cX12_parsesS 4 = .ok (.bipush 104, 2) := by decide +kernel
theorem dX12_parsesS_6 : decode cX12_parsesS 6 = .ok (.if_icmp .ne 50, 3) := by decide +kernel
theorem dX12_parsesS_9 : decode cX12_parsesS 9 = .ok (.aload_n 0, 1) := by decide +kernel
theorem dX12_parsesS_10 : decode cX12_parsesS 10 = .ok (.getfield 39, 3) := by decide +kernel
theorem dX12_parsesS_13 : decode cX12_parsesS 13 = .ok (.iload_n 1, 1) := by decide +kernel
theorem dX12_parsesS_14 : decode cX12_parsesS 14 = .ok (.bipush 104, 2) := by decide +kernel
theorem dX12_parsesS_16 : decode cX12_parsesS 16 = .ok (.iastore, 1) := by decide +kernel
theorem dX12_parsesS_17 : decode cX12_parsesS 17 = .ok (.aload_n 0, 1) := by decide +kernel
theorem dX12_parsesS_18 : decode cX12_parsesS 18 = .ok (.bipush 104, 2) := by decide +kernel
theorem dX12_parsesS_20 : decode cX12_parsesS 20 = .ok (.bipush 105, 2) := by decide +kernel
theorem dX12_parsesS_22 : decode cX12_parsesS 22 = .ok (.bipush 112, 2) := by decide +kernel
theorem dX12_parsesS_24 : decode cX12_parsesS 24 = .ok (.invokevirtual 203, 3) := by decide +kernel
theorem dX12_parsesS_27 : decode cX12_parsesS 27 = .ok (.aload_n 0, 1) := by decide +kernel
theorem dX12_parsesS_28 : decode cX12_parsesS 28 = .ok (.getfield 39, 3) := by decide +kernel
theorem dX12_parsesS_31 : decode cX12_parsesS 31 = .ok (.iload_n 1, 1) := by decide +kernel
theorem dX12_parsesS_32 : decode cX12_parsesS 32 = .ok (.iconst 1, 1) := by decide +kernel
theorem dX12_parsesS_33 : decode cX12_parsesS 33 = .ok (.iadd, 1) := by decide +kernel
theorem dX12_parsesS_34 : decode cX12_parsesS 34 = .ok (.aload_n 0, 1) := by decide +kernel
theorem dX12_parsesS_35 : decode cX12_parsesS 35 = .ok (.iconst 1, 1) := by decide +kernel
theorem dX12_parsesS_36 : decode cX12_parsesS 36 = .ok (.invokevirtual 207, 3) := by decide +kernel
theorem dX12_parsesS_39 : decode cX12_parsesS 39 = .ok (.iastore, 1) := by decide +kernel
theorem dX12_parsesS_40 : decode cX12_parsesS 40 = .ok (.aload_n 0, 1) := by decide +kernel
theorem dX12_parsesS_41 : decode cX12_parsesS 41 = .ok (.getfield 39, 3) := by decide +kernel
theorem dX12_parsesS_44 : decode cX12_parsesS 44 = .ok (.iload_n 1, 1) := by decide +kernel
theorem dX12_parsesS_45 : decode cX12_parsesS 45 = .ok (.iconst 2, 1) := by decide +kernel
theorem dX12_parsesS_46 : decode cX12_parsesS 46 = .ok (.iadd, 1) := by decide +kernel
theorem dX12_parsesS_47 : decode cX12_parsesS 47 = .ok (.aload_n 0, 1) := by decide +kernel
theorem dX12_parsesS_48 : decode cX12_parsesS 48 = .ok (.iconst 1, 1) := by decide +kernel
theorem dX12_parsesS_49 : decode cX12_parsesS 49 = .ok (.invokevirtual 207, 3) := by decide +kernel
theorem dX12_parsesS_52 : decode cX12_parsesS 52 = .ok (.iastore, 1) := by decide +kernel
theorem dX12_parsesS_53 : decode cX12_parsesS 53 = .ok (.goto 46, 3) := by decide +kernel
theorem dX12_parsesS_56 : decode cX12_parsesS 56 = .ok (.aload_n 0, 1) := by decide +kernel
theorem dX12_parsesS_57 : decode cX12_parsesS 57 = .ok (.bipush 116, 2) := by decide +kernel
theorem dX12_parsesS_59 : decode cX12_parsesS 59 = .ok (.bipush 101, 2) := by decide +kernel
theorem dX12_parsesS_61 : decode cX12_parsesS 61 = .ok (.bipush 112, 2) := by decide +kernel
theorem dX12_parsesS_63 : decode cX12_parsesS 63 = .ok (.invokevirtual 203, 3) := by decide +kernel
theorem dX12_parsesS_66 : decode cX12_parsesS 66 = .ok (.aload_n 0, 1) := by decide +kernel
theorem dX12_parsesS_67 : decode cX12_parsesS 67 = .ok (.getfield 39, 3) := by decide +kernel
theorem dX12_parsesS_70 : decode cX12_parsesS 70 = .ok (.iload_n 1, 1) := by decide +kernel
theorem dX12_parsesS_71 : decode cX12_parsesS 71 = .ok (.iconst 1, 1) := by decide +kernel
theorem dX12_parsesS_72 : decode cX12_parsesS 72 = .ok (.iadd, 1) := by decide +kernel
theorem dX12_parsesS_73 : decode cX12_parsesS 73 = .ok (.aload_n 0, 1) := by decide +kernel
theorem dX12_parsesS_74 : decode cX12_parsesS 74 = .ok (.getfield 193, 3) := by decide +kernel
theorem dX12_parsesS_77 : decode cX12_parsesS 77 = .ok (.ifCond .ne 20, 3) := by decide +kernel
theorem dX12_parsesS_80 : decode cX12_parsesS 80 = .ok (.aload_n 0, 1) := by decide +kernel
theorem dX12_parsesS_81 : decode cX12_parsesS 81 = .ok (.invokevirtual 197, 3) := by decide +kernel
theorem dX12_parsesS_84 : decode cX12_parsesS 84 = .ok (.bipush 32, 2) := by decide +kernel
theorem dX12_parsesS_86 : decode cX12_parsesS 86 = .ok (.if_icmp .ne 11, 3) := by decide +kernel
theorem dX12_parsesS_89 : decode cX12_parsesS 89 = .ok (.aload_n 0, 1) := by decide +kernel
theorem dX12_parsesS_90 : decode cX12_parsesS 90 = .ok (.iconst 2, 1) := by decide +kernel
theorem dX12_parsesS_91 : decode cX12_parsesS 91 = .ok (.invokevirtual 207, 3) := by decide +kernel
theorem dX12_parsesS_94 : decode cX12_parsesS 94 = .ok (.goto 4, 3) := by decide +kernel
theorem dX12_parsesS_97 : decode cX12_parsesS 97 = .ok (.iconst 1, 1) := by decide +kernel
theorem dX12_parsesS_98 : decode cX12_parsesS 98 = .ok (.iastore, 1) := by decide +kernel
theorem dX12_parsesS_99 : decode cX12_parsesS 99 = .ok (.return_, 1) := by decide +kernel
theorem dX12_parsesCommand_0 : decode cX12_parsesCommand 0 = .ok (.aload_n 0, 1) := by decide +kernel
theorem dX12_parsesCommand_1 : decode cX12_parsesCommand 1 = .ok (.invokevirtual 197, 3) := by decide +kernel
theorem dX12_parsesCommand_4 : decode cX12_parsesCommand 4 = .ok (.istore_n 2, 1) := by decide +kernel
theorem dX12_parsesCommand_5 : decode cX12_parsesCommand 5 = .ok (.aload_n 0, 1) := by decide +kernel
theorem dX12_parsesCommand_6 : decode cX12_parsesCommand 6 = .ok (.dup, 1) := by decide +kernel
theorem dX12_parsesCommand_7 : decode cX12_parsesCommand 7 = .ok (.getfield 190, 3) := by decide +kernel
theorem dX12_parsesCommand_10 : decode cX12_parsesCommand 10 = .ok (.iconst 1, 1) := by decide +kernel
theorem dX12_parsesCommand_11 : decode cX12_parsesCommand 11 = .ok (.iadd, 1) := by decide +kernel
theorem dX12_parsesCommand_12 : decode cX12_parsesCommand 12 = .ok (.putfield 190, 3) := by decide +kernel
theorem dX12_parsesCommand_15 : decode cX12_parsesCommand 15 = .ok (.aload_n 0, 1) := by decide +kernel
theorem dX12_parsesCommand_16 : decode cX12_parsesCommand 16 = .ok (.getfield 39, 3) := by decide +kernel
theorem dX12_parsesCommand_19 : decode cX12_parsesCommand 19 = .ok (.iload_n 1, 1) := by decide +kernel
theorem dX12_parsesCommand_20 : decode cX12_parsesCommand 20 = .ok (.iload_n 2, 1) := by decide +kernel
theorem dX12_parsesCommand_21 : decode cX12_parsesCommand 21 = .ok (.iastore, 1) := by decide +kernel
theorem dX12_parsesCommand_22 : decode cX12_parsesCommand 22 = .ok (.iload_n 2, 1) := by decide +kernel
theorem dX12_parsesCommand_23 : decode cX12_parsesCommand 23 = .ok (.tableswitch 319 99 115 #[243, 139, 319, 319, 165, 319, 319, 319, 319, 319, 204, 81, 319, 319, 319, 275, 311], 81) := by decide +kernel
theorem dX12_parsesCommand_104 : decode cX12_parsesCommand 104 = .ok (.aload_n 0, 1) := by decide +kernel
theorem dX12_parsesCommand_105 : decode cX12_parsesCommand 105 = .ok (.bipush 111, 2) := by decide +kernel
theorem dX12_parsesCommand_107 : decode cX12_parsesCommand 107 = .ok (.bipush 105, 2) := by decide +kernel
theorem dX12_parsesCommand_109 : decode cX12_parsesCommand 109 = .ok (.bipush 115, 2) := by decide +kernel
theorem dX12_parsesCommand_111 : decode cX12_parsesCommand 111 = .ok (.invokevirtual 203, 3) := by decide +kernel
theorem dX12_parsesCommand_114 : decode cX12_parsesCommand 114 = .ok (.aload_n 0, 1) := by decide +kernel
theorem dX12_parsesCommand_115 : decode cX12_parsesCommand 115 = .ok (.bipush 101, 2) := by decide +kernel
theorem dX12_parsesCommand_117 : decode cX12_parsesCommand 117 = .ok (.invokevirtual 200, 3) := by decide +kernel
theorem dX12_parsesCommand_120 : decode cX12_parsesCommand 120 = .ok (.aload_n 0, 1) := by decide +kernel
theorem dX12_parsesCommand_121 : decode cX12_parsesCommand 121 = .ok (.getfield 39, 3) := by decide +kernel
theorem dX12_parsesCommand_124 : decode cX12_parsesCommand 124 = .ok (.iload_n 1, 1) := by decide +kernel
theorem dX12_parsesCommand_125 : decode cX12_parsesCommand 125 = .ok (.iconst 1, 1) := by decide +kernel
theorem dX12_parsesCommand_126 : decode cX12_parsesCommand 126 = .ok (.iadd, 1) := by decide +kernel
theorem dX12_parsesCommand_127 : decode cX12_parsesCommand 127 = .ok (.aload_n 0, 1) := by decide +kernel
theorem dX12_parsesCommand_128 : decode cX12_parsesCommand 128 = .ok (.iconst 1, 1) := by decide +kernel
theorem dX12_parsesCommand_129 : decode cX12_parsesCommand 129 = .ok (.invokevirtual 207, 3) := by decide +kernel
theorem dX12_parsesCommand_132 : decode cX12_parsesCommand 132 = .ok (.iastore, 1) := by decide +kernel
theorem dX12_parsesCommand_133 : decode cX12_parsesCommand 133 = .ok (.aload_n 0, 1) := by decide +kernel
theorem dX12_parsesCommand_134 : decode cX12_parsesCommand 134 = .ok (.getfield 39, 3) := by decide +kernel
theorem dX12_parsesCommand_137 : decode cX12_parsesCommand 137 = .ok (.iload_n 1, 1) := by decide +kernel
theorem dX12_parsesCommand_138 : decode cX12_parsesCommand 138 = .ok (.iconst 2, 1) := by decide +kernel
theorem dX12_parsesCommand_139 : decode cX12_parsesCommand 139 = .ok (.iadd, 1) := by decide +kernel
theorem dX12_parsesCommand_140 : decode cX12_parsesCommand 140 = .ok (.aload_n 0, 1) := by decide +kernel
theorem dX12_parsesCommand_141 : decode cX12_parsesCommand 141 = .ok (.iconst 1, 1) := by decide +kernel
theorem dX12_parsesCommand_142 : decode cX12_parsesCommand 142 = .ok (.invokevirtual 207, 3) := by decide +kernel
theorem dX12_parsesCommand_145 : decode cX12_parsesCommand 145 = .ok (.iastore, 1) := by decide +kernel
theorem dX12_parsesCommand_146 : decode cX12_parsesCommand 146 = .ok (.aload_n 0, 1) := by decide +kernel
theorem dX12_parsesCommand_147 : decode cX12_parsesCommand 147 = .ok (.getfield 39, 3) := by decide +kernel
theorem dX12_parsesCommand_150 : decode cX12_parsesCommand 150 = .ok (.iload_n 1, 1) := by decide +kernel
theorem dX12_parsesCommand_151 : decode cX12_parsesCommand 151 = .ok (.iconst 3, 1) := by decide +kernel
theorem dX12_parsesCommand_152 : decode cX12_parsesCommand 152 = .ok (.iadd, 1) := by decide +kernel
theorem dX12_parsesCommand_153 : decode cX12_parsesCommand 153 = .ok (.aload_n 0, 1) := by decide +kernel
theorem dX12_parsesCommand_154 : decode cX12_parsesCommand 154 = .ok (.iconst 2, 1) := by decide +kernel
theorem dX12_parsesCommand_155 : decode cX12_parsesCommand 155 = .ok (.invokevirtual 207, 3) := by decide +kernel
theorem dX12_parsesCommand_158 : decode cX12_parsesCommand 158 = .ok (.iastore, 1) := by decide +kernel
theorem dX12_parsesCommand_159 : decode cX12_parsesCommand 159 = .ok (.goto 198, 3) := by decide +kernel
theorem dX12_parsesCommand_162 : decode cX12_parsesCommand 162 = .ok (.aload_n 0, 1) := by decide +kernel
theorem dX12_parsesCommand_163 : decode cX12_parsesCommand 163 = .ok (.bipush 114, 2) := by decide +kernel
theorem dX12_parsesCommand_165 : decode cX12_parsesCommand 165 = .ok (.bipush 111, 2) := by decide +kernel
theorem dX12_parsesCommand_167 : decode cX12_parsesCommand 167 = .ok (.bipush 112, 2) := by decide +kernel
theorem dX12_parsesCommand_169 : decode cX12_parsesCommand 169 = .ok (.invokevirtual 203, 3) := by decide +kernel
theorem dX12_parsesCommand_172 : decode cX12_parsesCommand 172 = .ok (.aload_n 0, 1) := by decide +kernel
theorem dX12_parsesCommand_173 : decode cX12_parsesCommand 173 = .ok (.getfield 39, 3) := by decide +kernel
theorem dX12_parsesCommand_176 : decode cX12_parsesCommand 176 = .ok (.iload_n 1, 1) := by decide +kernel
theorem dX12_parsesCommand_177 : decode cX12_parsesCommand 177 = .ok (.iconst 1, 1) := by decide +kernel
theorem dX12_parsesCommand_178 : decode cX12_parsesCommand 178 = .ok (.iadd, 1) := by decide +kernel
theorem dX12_parsesCommand_179 : decode cX12_parsesCommand 179 = .ok (.aload_n 0, 1) := by decide +kernel
theorem dX12_parsesCommand_180 : decode cX12_parsesCommand 180 = .ok (.iconst 2, 1) := by decide +kernel
theorem dX12_parsesCommand_181 : decode cX12_parsesCommand 181 = .ok (.invokevirtual 207, 3) := by decide +kernel
theorem dX12_parsesCommand_184 : decode cX12_parsesCommand 184 = .ok (.iastore, 1) := by decide +kernel
theorem dX12_parsesCommand_185 : decode cX12_parsesCommand 185 = .ok (.goto 172, 3) := by decide +kernel
theorem dX12_parsesCommand_188 : decode cX12_parsesCommand 188 = .ok (.aload_n 0, 1) := by decide +kernel
theorem dX12_parsesCommand_189 : decode cX12_parsesCommand 189 = .ok (.bipush 101, 2) := by decide +kernel
theorem dX12_parsesCommand_191 : decode cX12_parsesCommand 191 = .ok (.bipush 97, 2) := by decide +kernel
theorem dX12_parsesCommand_193 : decode cX12_parsesCommand 193 = .ok (.bipush 114, 2) := by decide +kernel
theorem dX12_parsesCommand_195 : decode cX12_parsesCommand 195 = .ok (.invokevirtual 203, 3) := by decide +kernel
theorem dX12_parsesCommand_198 : decode cX12_parsesCommand 198 = .ok (.aload_n 0, 1) := by decide +kernel
theorem dX12_parsesCommand_199 : decode cX12_parsesCommand 199 = .ok (.getfield 39, 3) := by decide +kernel
theorem dX12_parsesCommand_202 : decode cX12_parsesCommand 202 = .ok (.iload_n 1, 1) := by decide +kernel
theorem dX12_parsesCommand_203 : decode cX12_parsesCommand 203 = .ok (.iconst 1, 1) := by decide +kernel
theorem dX12_parsesCommand_204 : decode cX12_parsesCommand 204 = .ok (.iadd, 1) := by decide +kernel
theorem dX12_parsesCommand_205 : decode cX12_parsesCommand 205 = .ok (.aload_n 0, 1) := by decide +kernel
theorem dX12_parsesCommand_206 : decode cX12_parsesCommand 206 = .ok (.iconst 1, 1) := by decide +kernel
theorem dX12_parsesCommand_207 : decode cX12_parsesCommand 207 = .ok (.invokevirtual 207, 3) := by decide +kernel
theorem dX12_parsesCommand_210 : decode cX12_parsesCommand 210 = .ok (.iastore, 1) := by decide +kernel
theorem dX12_parsesCommand_211 : decode cX12_parsesCommand 211 = .ok (.aload_n 0, 1) := by decide +kernel
theorem dX12_parsesCommand_212 : decode cX12_parsesCommand 212 = .ok (.getfield 39, 3) := by decide +kernel
theorem dX12_parsesCommand_215 : decode cX12_parsesCommand 215 = .ok (.iload_n 1, 1) := by decide +kernel
theorem dX12_parsesCommand_216 : decode cX12_parsesCommand 216 = .ok (.iconst 2, 1) := by decide +kernel
theorem dX12_parsesCommand_217 : decode cX12_parsesCommand 217 = .ok (.iadd, 1) := by decide +kernel
theorem dX12_parsesCommand_218 : decode cX12_parsesCommand 218 = .ok (.aload_n 0, 1) := by decide +kernel
theorem dX12_parsesCommand_219 : decode cX12_parsesCommand 219 = .ok (.iconst 1, 1) := by decide +kernel
theorem dX12_parsesCommand_220 : decode cX12_parsesCommand 220 = .ok (.invokevirtual 207, 3) := by decide +kernel
theorem dX12_parsesCommand_223 : decode cX12_parsesCommand 223 = .ok (.iastore, 1) := by decide +kernel
theorem dX12_parsesCommand_224 : decode cX12_parsesCommand 224 = .ok (.goto 133, 3) := by decide +kernel
theorem dX12_parsesCommand_227 : decode cX12_parsesCommand 227 = .ok (.aload_n 0, 1) := by decide +kernel
theorem dX12_parsesCommand_228 : decode cX12_parsesCommand 228 = .ok (.bipush 101, 2) := by decide +kernel
theorem dX12_parsesCommand_230 : decode cX12_parsesCommand 230 = .ok (.bipush 115, 2) := by decide +kernel
theorem dX12_parsesCommand_232 : decode cX12_parsesCommand 232 = .ok (.bipush 104, 2) := by decide +kernel
theorem dX12_parsesCommand_234 : decode cX12_parsesCommand 234 = .ok (.invokevirtual 203, 3) := by decide +kernel
theorem dX12_parsesCommand_237 : decode cX12_parsesCommand 237 = .ok (.aload_n 0, 1) := by decide +kernel
theorem dX12_parsesCommand_238 : decode cX12_parsesCommand 238 = .ok (.getfield 39, 3) := by decide +kernel
theorem dX12_parsesCommand_241 : decode cX12_parsesCommand 241 = .ok (.iload_n 1, 1) := by decide +kernel
theorem dX12_parsesCommand_242 : decode cX12_parsesCommand 242 = .ok (.iconst 1, 1) := by decide +kernel
theorem dX12_parsesCommand_243 : decode cX12_parsesCommand 243 = .ok (.iadd, 1) := by decide +kernel
theorem dX12_parsesCommand_244 : decode cX12_parsesCommand 244 = .ok (.aload_n 0, 1) := by decide +kernel
theorem dX12_parsesCommand_245 : decode cX12_parsesCommand 245 = .ok (.iconst 1, 1) := by decide +kernel
theorem dX12_parsesCommand_246 : decode cX12_parsesCommand 246 = .ok (.invokevirtual 207, 3) := by decide +kernel
theorem dX12_parsesCommand_249 : decode cX12_parsesCommand 249 = .ok (.iastore, 1) := by decide +kernel
theorem dX12_parsesCommand_250 : decode cX12_parsesCommand 250 = .ok (.aload_n 0, 1) := by decide +kernel
theorem dX12_parsesCommand_251 : decode cX12_parsesCommand 251 = .ok (.getfield 39, 3) := by decide +kernel
theorem dX12_parsesCommand_254 : decode cX12_parsesCommand 254 = .ok (.iload_n 1, 1) := by decide +kernel
theorem dX12_parsesCommand_255 : decode cX12_parsesCommand 255 = .ok (.iconst 2, 1) := by decide +kernel
theorem dX12_parsesCommand_256 : decode cX12_parsesCommand 256 = .ok (.iadd, 1) := by decide +kernel
theorem dX12_parsesCommand_257 : decode cX12_parsesCommand 257 = .ok (.aload_n 0, 1) := by decide +kernel
theorem dX12_parsesCommand_258 : decode cX12_parsesCommand 258 = .ok (.iconst 1, 1) := by decide +kernel
theorem dX12_parsesCommand_259 : decode cX12_parsesCommand 259 = .ok (.invokevirtual 207, 3) := by decide +kernel
theorem dX12_parsesCommand_262 : decode cX12_parsesCommand 262 = .ok (.iastore, 1) := by decide +kernel
theorem dX12_parsesCommand_263 : decode cX12_parsesCommand 263 = .ok (.goto 94, 3) := by decide +kernel
theorem dX12_parsesCommand_266 : decode cX12_parsesCommand 266 = .ok (.aload_n 0, 1) := by decide +kernel
theorem dX12_parsesCommand_267 : decode cX12_parsesCommand 267 = .ok (.bipush 108, 2) := by decide +kernel
theorem dX12_parsesCommand_269 : decode cX12_parsesCommand 269 = .ok (.bipush 101, 2) := by decide +kernel
theorem dX12_parsesCommand_271 : decode cX12_parsesCommand 271 = .ok (.bipush 97, 2) := by decide +kernel
theorem dX12_parsesCommand_273 : decode cX12_parsesCommand 273 = .ok (.invokevirtual 203, 3) := by decide +kernel
theorem dX12_parsesCommand_276 : decode cX12_parsesCommand 276 = .ok (.aload_n 0, 1) := by decide +kernel
theorem dX12_parsesCommand_277 : decode cX12_parsesCommand 277 = .ok (.bipush 114, 2) := by decide +kernel
theorem dX12_parsesCommand_279 : decode cX12_parsesCommand 279 = .ok (.invokevirtual 200, 3) := by decide +kernel
theorem dX12_parsesCommand_282 : decode cX12_parsesCommand 282 = .ok (.aload_n 0, 1) := by decide +kernel
theorem dX12_parsesCommand_283 : decode cX12_parsesCommand 283 = .ok (.getfield 39, 3) := by decide +kernel
theorem dX12_parsesCommand_286 : decode cX12_parsesCommand 286 = .ok (.iload_n 1, 1) := by decide +kernel
theorem dX12_parsesCommand_287 : decode cX12_parsesCommand 287 = .ok (.iconst 1, 1) := by decide +kernel
theorem dX12_parsesCommand_288 : decode cX12_parsesCommand 288 = .ok (.iadd, 1) := by decide +kernel
theorem dX12_parsesCommand_289 : decode cX12_parsesCommand 289 = .ok (.aload_n 0, 1) := by decide +kernel
theorem dX12_parsesCommand_290 : decode cX12_parsesCommand 290 = .ok (.iconst 1, 1) := by decide +kernel
theorem dX12_parsesCommand_291 : decode cX12_parsesCommand 291 = .ok (.invokevirtual 207, 3) := by decide +kernel
theorem dX12_parsesCommand_294 : decode cX12_parsesCommand 294 = .ok (.iastore, 1) := by decide +kernel
theorem dX12_parsesCommand_295 : decode cX12_parsesCommand 295 = .ok (.goto 62, 3) := by decide +kernel
theorem dX12_parsesCommand_298 : decode cX12_parsesCommand 298 = .ok (.aload_n 0, 1) := by decide +kernel
theorem dX12_parsesCommand_299 : decode cX12_parsesCommand 299 = .ok (.bipush 101, 2) := by decide +kernel
theorem dX12_parsesCommand_301 : decode cX12_parsesCommand 301 = .ok (.bipush 108, 2) := by decide +kernel
theorem dX12_parsesCommand_303 : decode cX12_parsesCommand 303 = .ok (.bipush 101, 2) := by decide +kernel
theorem dX12_parsesCommand_305 : decode cX12_parsesCommand 305 = .ok (.invokevirtual 203, 3) := by decide +kernel
theorem dX12_parsesCommand_308 : decode cX12_parsesCommand 308 = .ok (.aload_n 0, 1) := by decide +kernel
theorem dX12_parsesCommand_309 : decode cX12_parsesCommand 309 = .ok (.bipush 97, 2) := by decide +kernel
theorem dX12_parsesCommand_311 : decode cX12_parsesCommand 311 = .ok (.bipush 115, 2) := by decide +kernel
theorem dX12_parsesCommand_313 : decode cX12_parsesCommand 313 = .ok (.bipush 101, 2) := by decide +kernel
theorem dX12_parsesCommand_315 : decode cX12_parsesCommand 315 = .ok (.invokevirtual 203, 3) := by decide +kernel
theorem dX12_parsesCommand_318 : decode cX12_parsesCommand 318 = .ok (.aload_n 0, 1) := by decide +kernel
theorem dX12_parsesCommand_319 : decode cX12_parsesCommand 319 = .ok (.getfield 39, 3) := by decide +kernel
theorem dX12_parsesCommand_322 : decode cX12_parsesCommand 322 = .ok (.iload_n 1, 1) := by decide +kernel
theorem dX12_parsesCommand_323 : decode cX12_parsesCommand 323 = .ok (.iconst 1, 1) := by decide +kernel
theorem dX12_parsesCommand_324 : decode cX12_parsesCommand 324 = .ok (.iadd, 1) := by decide +kernel
theorem dX12_parsesCommand_325 : decode cX12_parsesCommand 325 = .ok (.aload_n 0, 1) := by decide +kernel
theorem dX12_parsesCommand_326 : decode cX12_parsesCommand 326 = .ok (.iconst 1, 1) := by decide +kernel
theorem dX12_parsesCommand_327 : decode cX12_parsesCommand 327 = .ok (.invokevirtual 207, 3) := by decide +kernel
theorem dX12_parsesCommand_330 : decode cX12_parsesCommand 330 = .ok (.iastore, 1) := by decide +kernel
theorem dX12_parsesCommand_331 : decode cX12_parsesCommand 331 = .ok (.goto 26, 3) := by decide +kernel
theorem dX12_parsesCommand_334 : decode cX12_parsesCommand 334 = .ok (.aload_n 0, 1) := by decide +kernel
theorem dX12_parsesCommand_335 : decode cX12_parsesCommand 335 = .ok (.iload_n 1, 1) := by decide +kernel
theorem dX12_parsesCommand_336 : decode cX12_parsesCommand 336 = .ok (.invokevirtual 210, 3) := by decide +kernel
theorem dX12_parsesCommand_339 : decode cX12_parsesCommand 339 = .ok (.goto 18, 3) := by decide +kernel
theorem dX12_parsesCommand_342 : decode cX12_parsesCommand 342 = .ok (.aload_n 0, 1) := by decide +kernel
theorem dX12_parsesCommand_343 : decode cX12_parsesCommand 343 = .ok (.iconst 1, 1) := by decide +kernel
theorem dX12_parsesCommand_344 : decode cX12_parsesCommand 344 = .ok (.putfield 193, 3) := by decide +kernel
theorem dX12_parsesCommand_347 : decode cX12_parsesCommand 347 = .ok (.aload_n 0, 1) := by decide +kernel
theorem dX12_parsesCommand_348 : decode cX12_parsesCommand 348 = .ok (.dup, 1) := by decide +kernel
theorem dX12_parsesCommand_349 : decode cX12_parsesCommand 349 = .ok (.getfield 190, 3) := by decide +kernel
theorem dX12_parsesCommand_352 : decode cX12_parsesCommand 352 = .ok (.iconst 1, 1) := by decide +kernel
theorem dX12_parsesCommand_353 : decode cX12_parsesCommand 353 = .ok (.isub, 1) := by decide +kernel
theorem dX12_parsesCommand_354 : decode cX12_parsesCommand 354 = .ok (.putfield 190, 3) := by decide +kernel
theorem dX12_parsesCommand_357 : decode cX12_parsesCommand 357 = .ok (.return_, 1) := by decide +kernel
theorem dX12_carriesOut_0 : decode cX12_carriesOut 0 = .ok (.aload_n 0, 1) := by decide +kernel
theorem dX12_carriesOut_1 : decode cX12_carriesOut 1 = .ok (.getfield 39, 3) := by decide +kernel
theorem dX12_carriesOut_4 : decode cX12_carriesOut 4 = .ok (.iload_n 1, 1) := by decide +kernel
theorem dX12_carriesOut_5 : decode cX12_carriesOut 5 = .ok (.iconst 1, 1) := by decide +kernel
theorem dX12_carriesOut_6 : decode cX12_carriesOut 6 = .ok (.iadd, 1) := by decide +kernel
theorem dX12_carriesOut_7 : decode cX12_carriesOut 7 = .ok (.iaload, 1) := by decide +kernel
theorem dX12_carriesOut_8 : decode cX12_carriesOut 8 = .ok (.istore_n 2, 1) := by decide +kernel
theorem dX12_carriesOut_9 : decode cX12_carriesOut 9 = .ok (.aload_n 0, 1) := by decide +kernel
theorem dX12_carriesOut_10 : decode cX12_carriesOut 10 = .ok (.getfield 39, 3) := by decide +kernel
theorem dX12_carriesOut_13 : decode cX12_carriesOut 13 = .ok (.iload_n 1, 1) := by decide +kernel
theorem dX12_carriesOut_14 : decode cX12_carriesOut 14 = .ok (.iconst 2, 1) := by decide +kernel
theorem dX12_carriesOut_15 : decode cX12_carriesOut 15 = .ok (.iadd, 1) := by decide +kernel
theorem dX12_carriesOut_16 : decode cX12_carriesOut 16 = .ok (.iaload, 1) := by decide +kernel
theorem dX12_carriesOut_17 : decode cX12_carriesOut 17 = .ok (.istore_n 3, 1) := by decide +kernel
theorem dX12_carriesOut_18 : decode cX12_carriesOut 18 = .ok (.aload_n 0, 1) := by decide +kernel
theorem dX12_carriesOut_19 : decode cX12_carriesOut 19 = .ok (.getfield 39, 3) := by decide +kernel
theorem dX12_carriesOut_22 : decode cX12_carriesOut 22 = .ok (.iload_n 1, 1) := by decide +kernel
theorem dX12_carriesOut_23 : decode cX12_carriesOut 23 = .ok (.iaload, 1) := by decide +kernel
theorem dX12_carriesOut_24 : decode cX12_carriesOut 24 = .ok (.tableswitch 134 99 114 #[115, 95, 134, 134, 101, 127, 134, 134, 134, 134, 108, 80, 134, 134, 134, 121], 80) := by decide +kernel
theorem dX12_carriesOut_104 : decode cX12_carriesOut 104 = .ok (.aload_n 0, 1) := by decide +kernel
theorem dX12_carriesOut_105 : decode cX12_carriesOut 105 = .ok (.iload_n 2, 1) := by decide +kernel
theorem dX12_carriesOut_106 : decode cX12_carriesOut 106 = .ok (.iload_n 3, 1) := by decide +kernel
theorem dX12_carriesOut_107 : decode cX12_carriesOut 107 = .ok (.aload_n 0, 1) := by decide +kernel
theorem dX12_carriesOut_108 : decode cX12_carriesOut 108 = .ok (.getfield 39, 3) := by decide +kernel
theorem dX12_carriesOut_111 : decode cX12_carriesOut 111 = .ok (.iload_n 1, 1) := by decide +kernel
theorem dX12_carriesOut_112 : decode cX12_carriesOut 112 = .ok (.iconst 3, 1) := by decide +kernel
theorem dX12_carriesOut_113 : decode cX12_carriesOut 113 = .ok (.iadd, 1) := by decide +kernel
theorem dX12_carriesOut_114 : decode cX12_carriesOut 114 = .ok (.iaload, 1) := by decide +kernel
theorem dX12_carriesOut_115 : decode cX12_carriesOut 115 = .ok (.invokevirtual 87, 3) := by decide +kernel
theorem dX12_carriesOut_118 : decode cX12_carriesOut 118 = .ok (.ireturn, 1) := by decide +kernel
theorem dX12_carriesOut_119 : decode cX12_carriesOut 119 = .ok (.aload_n 0, 1) := by decide +kernel
theorem dX12_carriesOut_120 : decode cX12_carriesOut 120 = .ok (.iload_n 2, 1) := by decide +kernel
theorem dX12_carriesOut_121 : decode cX12_carriesOut 121 = .ok (.invokevirtual 101, 3) := by decide +kernel
theorem dX12_carriesOut_124 : decode cX12_carriesOut 124 = .ok (.ireturn, 1) := by decide +kernel
theorem dX12_carriesOut_125 : decode cX12_carriesOut 125 = .ok (.aload_n 0, 1) := by decide +kernel
theorem dX12_carriesOut_126 : decode cX12_carriesOut 126 = .ok (.iload_n 2, 1) := by decide +kernel
theorem dX12_carriesOut_127 : decode cX12_carriesOut 127 = .ok (.iload_n 3, 1) := by decide +kernel
theorem dX12_carriesOut_128 : decode cX12_carriesOut 128 = .ok (.invokevirtual 107, 3) := by decide +kernel
theorem dX12_carriesOut_131 : decode cX12_carriesOut 131 = .ok (.ireturn, 1) := by decide +kernel
theorem dX12_carriesOut_132 : decode cX12_carriesOut 132 = .ok (.aload_n 0, 1) := by decide +kernel
theorem dX12_carriesOut_133 : decode cX12_carriesOut 133 = .ok (.iload_n 2, 1) := by decide +kernel
theorem dX12_carriesOut_134 : decode cX12_carriesOut 134 = .ok (.iload_n 3, 1) := by decide +kernel
theorem dX12_carriesOut_135 : decode cX12_carriesOut 135 = .ok (.invokevirtual 111, 3) := by decide +kernel
theorem dX12_carriesOut_138 : decode cX12_carriesOut 138 = .ok (.ireturn, 1) := by decide +kernel
theorem dX12_carriesOut_139 : decode cX12_carriesOut 139 = .ok (.aload_n 0, 1) := by decide +kernel
theorem dX12_carriesOut_140 : decode cX12_carriesOut 140 = .ok (.iload_n 2, 1) := by decide +kernel
theorem dX12_carriesOut_141 : decode cX12_carriesOut 141 = .ok (.invokevirtual 114, 3) := by decide +kernel
theorem dX12_carriesOut_144 : decode cX12_carriesOut 144 = .ok (.ireturn, 1) := by decide +kernel
theorem dX12_carriesOut_145 : decode cX12_carriesOut 145 = .ok (.aload_n 0, 1) := by decide +kernel
theorem dX12_carriesOut_146 : decode cX12_carriesOut 146 = .ok (.iload_n 2, 1) := by decide +kernel
theorem dX12_carriesOut_147 : decode cX12_carriesOut 147 = .ok (.invokevirtual 117, 3) := by decide +kernel
theorem dX12_carriesOut_150 : decode cX12_carriesOut 150 = .ok (.ireturn, 1) := by decide +kernel
theorem dX12_carriesOut_151 : decode cX12_carriesOut 151 = .ok (.aload_n 0, 1) := by decide +kernel
theorem dX12_carriesOut_152 : decode cX12_carriesOut 152 = .ok (.iload_n 2, 1) := by decide +kernel
theorem dX12_carriesOut_153 : decode cX12_carriesOut 153 = .ok (.iload_n 3, 1) := by decide +kernel
theorem dX12_carriesOut_154 : decode cX12_carriesOut 154 = .ok (.invokevirtual 123, 3) := by decide +kernel
theorem dX12_carriesOut_157 : decode cX12_carriesOut 157 = .ok (.ireturn, 1) := by decide +kernel
theorem dX12_carriesOut_158 : decode cX12_carriesOut 158 = .ok (.aload_n 0, 1) := by decide +kernel
theorem dX12_carriesOut_159 : decode cX12_carriesOut 159 = .ok (.iload_n 2, 1) := by decide +kernel
theorem dX12_carriesOut_160 : decode cX12_carriesOut 160 = .ok (.invokevirtual 145, 3) := by decide +kernel
theorem dX12_carriesOut_163 : decode cX12_carriesOut 163 = .ok (.ireturn, 1) := by decide +kernel
theorem dX12_runScript_0 : decode cX12_runScript 0 = .ok (.aload_n 0, 1) := by decide +kernel
theorem dX12_runScript_1 : decode cX12_runScript 1 = .ok (.iconst 0, 1) := by decide +kernel
theorem dX12_runScript_2 : decode cX12_runScript 2 = .ok (.putfield 190, 3) := by decide +kernel
theorem dX12_runScript_5 : decode cX12_runScript 5 = .ok (.aload_n 0, 1) := by decide +kernel
theorem dX12_runScript_6 : decode cX12_runScript 6 = .ok (.iconst 0, 1) := by decide +kernel
theorem dX12_runScript_7 : decode cX12_runScript 7 = .ok (.putfield 193, 3) := by decide +kernel
theorem dX12_runScript_10 : decode cX12_runScript 10 = .ok (.iconst 0, 1) := by decide +kernel
theorem dX12_runScript_11 : decode cX12_runScript 11 = .ok (.istore_n 1, 1) := by decide +kernel
theorem dX12_runScript_12 : decode cX12_runScript 12 = .ok (.iconst 1, 1) := by decide +kernel
theorem dX12_runScript_13 : decode cX12_runScript 13 = .ok (.istore_n 2, 1) := by decide +kernel
theorem dX12_runScript_14 : decode cX12_runScript 14 = .ok (.iload_n 2, 1) := by decide +kernel
theorem dX12_runScript_15 : decode cX12_runScript 15 = .ok (.ifCond .eq 56, 3) := by decide +kernel
theorem dX12_runScript_18 : decode cX12_runScript 18 = .ok (.aload_n 0, 1) := by decide +kernel
theorem dX12_runScript_19 : decode cX12_runScript 19 = .ok (.iconst 4, 1) := by decide +kernel
theorem dX12_runScript_20 : decode cX12_runScript 20 = .ok (.iload_n 1, 1) := by decide +kernel
theorem dX12_runScript_21 : decode cX12_runScript 21 = .ok (.imul, 1) := by decide +kernel
theorem dX12_runScript_22 : decode cX12_runScript 22 = .ok (.invokevirtual 213, 3) := by decide +kernel
theorem dX12_runScript_25 : decode cX12_runScript 25 = .ok (.iinc 1 1, 3) := by decide +kernel
theorem dX12_runScript_28 : decode cX12_runScript 28 = .ok (.aload_n 0, 1) := by decide +kernel
theorem dX12_runScript_29 : decode cX12_runScript 29 = .ok (.getfield 193, 3) := by decide +kernel
theorem dX12_runScript_32 : decode cX12_runScript 32 = .ok (.ifCond .ne 16, 3) := by decide +kernel
theorem dX12_runScript_35 : decode cX12_runScript 35 = .ok (.aload_n 0, 1) := by decide +kernel
theorem dX12_runScript_36 : decode cX12_runScript 36 = .ok (.invokevirtual 197, 3) := by decide +kernel
theorem dX12_runScript_39 : decode cX12_runScript 39 = .ok (.bipush 59, 2) := by decide +kernel
theorem dX12_runScript_41 : decode cX12_runScript 41 = .ok (.if_icmp .ne 7, 3) := by decide +kernel
theorem dX12_runScript_44 : decode cX12_runScript 44 = .ok (.iconst 1, 1) := by decide +kernel
theorem dX12_runScript_45 : decode cX12_runScript 45 = .ok (.goto 4, 3) := by decide +kernel
theorem dX12_runScript_48 : decode cX12_runScript 48 = .ok (.iconst 0, 1) := by decide +kernel
theorem dX12_runScript_49 : decode cX12_runScript 49 = .ok (.istore_n 2, 1) := by decide +kernel
theorem dX12_runScript_50 : decode cX12_runScript 50 = .ok (.aload_n 0, 1) := by decide +kernel
theorem dX12_runScript_51 : decode cX12_runScript 51 = .ok (.dup, 1) := by decide +kernel
theorem dX12_runScript_52 : decode cX12_runScript 52 = .ok (.getfield 190, 3) := by decide +kernel
theorem dX12_runScript_55 : decode cX12_runScript 55 = .ok (.iload_n 2, 1) := by decide +kernel
theorem dX12_runScript_56 : decode cX12_runScript 56 = .ok (.ifCond .eq 7, 3) := by decide +kernel
theorem dX12_runScript_59 : decode cX12_runScript 59 = .ok (.iconst 1, 1) := by decide +kernel
theorem dX12_runScript_60 : decode cX12_runScript 60 = .ok (.goto 4, 3) := by decide +kernel
theorem dX12_runScript_63 : decode cX12_runScript 63 = .ok (.iconst 0, 1) := by decide +kernel
theorem dX12_runScript_64 : decode cX12_runScript 64 = .ok (.iadd, 1) := by decide +kernel
theorem dX12_runScript_65 : decode cX12_runScript 65 = .ok (.putfield 190, 3) := by decide +kernel
theorem dX12_runScript_68 : decode cX12_runScript 68 = .ok (.goto (-54), 3) := by decide +kernel
theorem dX12_runScript_71 : decode cX12_runScript 71 = .ok (.aload_n 0, 1) := by decide +kernel
theorem dX12_runScript_72 : decode cX12_runScript 72 = .ok (.aload_n 0, 1) := by decide +kernel
theorem dX12_runScript_73 : decode cX12_runScript 73 = .ok (.getfield 193, 3) := by decide +kernel
theorem dX12_runScript_76 : decode cX12_runScript 76 = .ok (.ifCond .ne 14, 3) := by decide +kernel
theorem dX12_runScript_79 : decode cX12_runScript 79 = .ok (.aload_n 0, 1) := by decide +kernel
theorem dX12_runScript_80 : decode cX12_runScript 80 = .ok (.getfield 190, 3) := by decide +kernel
theorem dX12_runScript_83 : decode cX12_runScript 83 = .ok (.aload_n 0, 1) := by decide +kernel
theorem dX12_runScript_84 : decode cX12_runScript 84 = .ok (.getfield 187, 3) := by decide +kernel
theorem dX12_runScript_87 : decode cX12_runScript 87 = .ok (.if_icmp .ge 7, 3) := by decide +kernel
theorem dX12_runScript_90 : decode cX12_runScript 90 = .ok (.iconst 1, 1) := by decide +kernel
theorem dX12_runScript_91 : decode cX12_runScript 91 = .ok (.goto 4, 3) := by decide +kernel
theorem dX12_runScript_94 : decode cX12_runScript 94 = .ok (.iconst 0, 1) := by decide +kernel
theorem dX12_runScript_95 : decode cX12_runScript 95 = .ok (.putfield 193, 3) := by decide +kernel
theorem dX12_runScript_98 : decode cX12_runScript 98 = .ok (.aload_n 0, 1) := by decide +kernel
theorem dX12_runScript_99 : decode cX12_runScript 99 = .ok (.iconst 0, 1) := by decide +kernel
theorem dX12_runScript_100 : decode cX12_runScript 100 = .ok (.putfield 187, 3) := by decide +kernel
theorem dX12_runScript_103 : decode cX12_runScript 103 = .ok (.aload_n 0, 1) := by decide +kernel
theorem dX12_runScript_104 : decode cX12_runScript 104 = .ok (.getfield 193, 3) := by decide +kernel
theorem dX12_runScript_107 : decode cX12_runScript 107 = .ok (.ifCond .eq 17, 3) := by decide +kernel
theorem dX12_runScript_110 : decode cX12_runScript 110 = .ok (.aload_n 0, 1) := by decide +kernel
theorem dX12_runScript_111 : decode cX12_runScript 111 = .ok (.aload_n 0, 1) := by decide +kernel
theorem dX12_runScript_112 : decode cX12_runScript 112 = .ok (.getfield 190, 3) := by decide +kernel
theorem dX12_runScript_115 : decode cX12_runScript 115 = .ok (.putfield 29, 3) := by decide +kernel
theorem dX12_runScript_118 : decode cX12_runScript 118 = .ok (.aload_n 0, 1) := by decide +kernel
theorem dX12_runScript_119 : decode cX12_runScript 119 = .ok (.iconst 1, 1) := by decide +kernel
theorem dX12_runScript_120 : decode cX12_runScript 120 = .ok (.invokevirtual 74, 3) := by decide +kernel
theorem dX12_runScript_123 : decode cX12_runScript 123 = .ok (.ireturn, 1) := by decide +kernel
theorem dX12_runScript_124 : decode cX12_runScript 124 = .ok (.aload_n 0, 1) := by decide +kernel
theorem dX12_runScript_125 : decode cX12_runScript 125 = .ok (.invokevirtual 84, 3) := by decide +kernel
theorem dX12_runScript_128 : decode cX12_runScript 128 = .ok (.iconst 0, 1) := by decide +kernel
theorem dX12_runScript_129 : decode cX12_runScript 129 = .ok (.istore_n 3, 1) := by decide +kernel
theorem dX12_runScript_130 : decode cX12_runScript 130 = .ok (.iload_n 3, 1) := by decide +kernel
theorem dX12_runScript_131 : decode cX12_runScript 131 = .ok (.iload_n 1, 1) := by decide +kernel
theorem dX12_runScript_132 : decode cX12_runScript 132 = .ok (.if_icmp .ge 42, 3) := by decide +kernel
theorem dX12_runScript_135 : decode cX12_runScript 135 = .ok (.aload_n 0, 1) := by decide +kernel
theorem dX12_runScript_136 : decode cX12_runScript 136 = .ok (.iconst 4, 1) := by decide +kernel
theorem dX12_runScript_137 : decode cX12_runScript 137 = .ok (.iload_n 3, 1) := by decide +kernel
theorem dX12_runScript_138 : decode cX12_runScript 138 = .ok (.imul, 1) := by decide +kernel
theorem dX12_runScript_139 : decode cX12_runScript 139 = .ok (.invokevirtual 216, 3) := by decide +kernel
theorem dX12_runScript_142 : decode cX12_runScript 142 = .ok (.istore 4, 2) := by decide +kernel
theorem dX12_runScript_144 : decode cX12_runScript 144 = .ok (.aload_n 0, 1) := by decide +kernel
theorem dX12_runScript_145 : decode cX12_runScript 145 = .ok (.getfield 42, 3) := by decide +kernel
theorem dX12_runScript_148 : decode cX12_runScript 148 = .ok (.ifCond .eq 20, 3) := by decide +kernel
theorem dX12_runScript_151 : decode cX12_runScript 151 = .ok (.aload_n 0, 1) := by decide +kernel
theorem dX12_runScript_152 : decode cX12_runScript 152 = .ok (.iload_n 3, 1) := by decide +kernel
theorem dX12_runScript_153 : decode cX12_runScript 153 = .ok (.putfield 33, 3) := by decide +kernel
theorem dX12_runScript_156 : decode cX12_runScript 156 = .ok (.aload_n 0, 1) := by decide +kernel
theorem dX12_runScript_157 : decode cX12_runScript 157 = .ok (.iconst 2, 1) := by decide +kernel
theorem dX12_runScript_158 : decode cX12_runScript 158 = .ok (.putfield 42, 3) := by decide +kernel
theorem dX12_runScript_161 : decode cX12_runScript 161 = .ok (.aload_n 0, 1) := by decide +kernel
theorem dX12_runScript_162 : decode cX12_runScript 162 = .ok (.iload 4, 2) := by decide +kernel
theorem dX12_runScript_164 : decode cX12_runScript 164 = .ok (.invokevirtual 91, 3) := by decide +kernel
theorem dX12_runScript_167 : decode cX12_runScript 167 = .ok (.ireturn, 1) := by decide +kernel
theorem dX12_runScript_168 : decode cX12_runScript 168 = .ok (.iinc 3 1, 3) := by decide +kernel
theorem dX12_runScript_171 : decode cX12_runScript 171 = .ok (.goto (-41), 3) := by decide +kernel
theorem dX12_runScript_174 : decode cX12_runScript 174 = .ok (.aload_n 0, 1) := by decide +kernel
theorem dX12_runScript_175 : decode cX12_runScript 175 = .ok (.aload_n 0, 1) := by decide +kernel
theorem dX12_runScript_176 : decode cX12_runScript 176 = .ok (.iload_n 1, 1) := by decide +kernel
theorem dX12_runScript_177 : decode cX12_runScript 177 = .ok (.invokevirtual 81, 3) := by decide +kernel
theorem dX12_runScript_180 : decode cX12_runScript 180 = .ok (.invokevirtual 91, 3) := by decide +kernel
theorem dX12_runScript_183 : decode cX12_runScript 183 = .ok (.ireturn, 1) := by decide +kernel
theorem dX12_errorPosition_0 : decode cX12_errorPosition 0 = .ok (.aload_n 0, 1) := by decide +kernel
theorem dX12_errorPosition_1 : decode cX12_errorPosition 1 = .ok (.getfield 29, 3) := by decide +kernel
theorem dX12_errorPosition_4 : decode cX12_errorPosition 4 = .ok (.iconst (-1), 1) := by decide +kernel
theorem dX12_errorPosition_5 : decode cX12_errorPosition 5 = .ok (.if_icmp .ne 11, 3) := by decide +kernel
theorem dX12_errorPosition_8 : decode cX12_errorPosition 8 = .ok (.aload_n 0, 1) := by decide +kernel
theorem dX12_errorPosition_9 : decode cX12_errorPosition 9 = .ok (.iconst 1, 1) := by decide +kernel
theorem dX12_errorPosition_10 : decode cX12_errorPosition 10 = .ok (.invokevirtual 74, 3) := by decide +kernel
theorem dX12_errorPosition_13 : decode cX12_errorPosition 13 = .ok (.goto 11, 3) := by decide +kernel
theorem dX12_errorPosition_16 : decode cX12_errorPosition 16 = .ok (.aload_n 0, 1) := by decide +kernel
theorem dX12_errorPosition_17 : decode cX12_errorPosition 17 = .ok (.aload_n 0, 1) := by decide +kernel
theorem dX12_errorPosition_18 : decode cX12_errorPosition 18 = .ok (.getfield 29, 3) := by decide +kernel
theorem dX12_errorPosition_21 : decode cX12_errorPosition 21 = .ok (.invokevirtual 81, 3) := by decide +kernel
theorem dX12_errorPosition_24 : decode cX12_errorPosition 24 = .ok (.ireturn, 1) := by decide +kernel
theorem dX12_failedCommand_0 : decode cX12_failedCommand 0 = .ok (.aload_n 0, 1) := by decide +kernel
theorem dX12_failedCommand_1 : decode cX12_failedCommand 1 = .ok (.getfield 33, 3) := by decide +kernel
theorem dX12_failedCommand_4 : decode cX12_failedCommand 4 = .ok (.iconst (-1), 1) := by decide +kernel
theorem dX12_failedCommand_5 : decode cX12_failedCommand 5 = .ok (.if_icmp .ne 11, 3) := by decide +kernel
theorem dX12_failedCommand_8 : decode cX12_failedCommand 8 = .ok (.aload_n 0, 1) := by decide +kernel
theorem dX12_failedCommand_9 : decode cX12_failedCommand 9 = .ok (.iconst 1, 1) := by decide +kernel
theorem dX12_failedCommand_10 : decode cX12_failedCommand 10 = .ok (.invokevirtual 74, 3) := by decide +kernel
theorem dX12_failedCommand_13 : decode cX12_failedCommand 13 = .ok (.goto 11, 3) := by decide +kernel
theorem dX12_failedCommand_16 : decode cX12_failedCommand 16 = .ok (.aload_n 0, 1) := by decide +kernel
theorem dX12_failedCommand_17 : decode cX12_failedCommand 17 = .ok (.aload_n 0, 1) := by decide +kernel
theorem dX12_failedCommand_18 : decode cX12_failedCommand 18 = .ok (.getfield 33, 3) := by decide +kernel
theorem dX12_failedCommand_21 : decode cX12_failedCommand 21 = .ok (.invokevirtual 81, 3) := by decide +kernel
theorem dX12_failedCommand_24 : decode cX12_failedCommand 24 = .ok (.ireturn, 1) := by decide +kernel
theorem dX12_undo_0 : decode cX12_undo 0 = .ok (.aload_n 0, 1) := by decide +kernel
theorem dX12_undo_1 : decode cX12_undo 1 = .ok (.getfield 49, 3) := by decide +kernel
theorem dX12_undo_4 : decode cX12_undo 4 = .ok (.ifCond .ne 9, 3) := by decide +kernel
theorem dX12_undo_7 : decode cX12_undo 7 = .ok (.aload_n 0, 1) := by decide +kernel
theorem dX12_undo_8 : decode cX12_undo 8 = .ok (.iconst 1, 1) := by decide +kernel
theorem dX12_undo_9 : decode cX12_undo 9 = .ok (.invokevirtual 74, 3) := by decide +kernel
theorem dX12_undo_12 : decode cX12_undo 12 = .ok (.ireturn, 1) := by decide +kernel
theorem dX12_undo_13 : decode cX12_undo 13 = .ok (.aload_n 0, 1) := by decide +kernel
theorem dX12_undo_14 : decode cX12_undo 14 = .ok (.dup, 1) := by decide +kernel
theorem dX12_undo_15 : decode cX12_undo 15 = .ok (.getfield 49, 3) := by decide +kernel
theorem dX12_undo_18 : decode cX12_undo 18 = .ok (.iconst 1, 1) := by decide +kernel
theorem dX12_undo_19 : decode cX12_undo 19 = .ok (.isub, 1) := by decide +kernel
theorem dX12_undo_20 : decode cX12_undo 20 = .ok (.putfield 49, 3) := by decide +kernel
theorem dX12_undo_23 : decode cX12_undo 23 = .ok (.aload_n 0, 1) := by decide +kernel
theorem dX12_undo_24 : decode cX12_undo 24 = .ok (.getfield 19, 3) := by decide +kernel
theorem dX12_undo_27 : decode cX12_undo 27 = .ok (.aload_n 0, 1) := by decide +kernel
theorem dX12_undo_28 : decode cX12_undo 28 = .ok (.getfield 49, 3) := by decide +kernel
theorem dX12_undo_31 : decode cX12_undo 31 = .ok (.sipush 156, 3) := by decide +kernel
theorem dX12_undo_34 : decode cX12_undo 34 = .ok (.imul, 1) := by decide +kernel
theorem dX12_undo_35 : decode cX12_undo 35 = .ok (.aload_n 0, 1) := by decide +kernel
theorem dX12_undo_36 : decode cX12_undo 36 = .ok (.getfield 7, 3) := by decide +kernel
theorem dX12_undo_39 : decode cX12_undo 39 = .ok (.iconst 0, 1) := by decide +kernel
theorem dX12_undo_40 : decode cX12_undo 40 = .ok (.invokestatic 45, 3) := by decide +kernel
theorem dX12_undo_43 : decode cX12_undo 43 = .ok (.aload_n 0, 1) := by decide +kernel
theorem dX12_undo_44 : decode cX12_undo 44 = .ok (.aload_n 0, 1) := by decide +kernel
theorem dX12_undo_45 : decode cX12_undo 45 = .ok (.getfield 49, 3) := by decide +kernel
theorem dX12_undo_48 : decode cX12_undo 48 = .ok (.invokevirtual 81, 3) := by decide +kernel
theorem dX12_undo_51 : decode cX12_undo 51 = .ok (.ireturn, 1) := by decide +kernel
theorem dX12_save_0 : decode cX12_save 0 = .ok (.aload_n 0, 1) := by decide +kernel
theorem dX12_save_1 : decode cX12_save 1 = .ok (.getfield 7, 3) := by decide +kernel
theorem dX12_save_4 : decode cX12_save 4 = .ok (.iconst 0, 1) := by decide +kernel
theorem dX12_save_5 : decode cX12_save 5 = .ok (.aload_n 0, 1) := by decide +kernel
theorem dX12_save_6 : decode cX12_save 6 = .ok (.getfield 22, 3) := by decide +kernel
theorem dX12_save_9 : decode cX12_save 9 = .ok (.iconst 0, 1) := by decide +kernel
theorem dX12_save_10 : decode cX12_save 10 = .ok (.invokestatic 45, 3) := by decide +kernel
theorem dX12_save_13 : decode cX12_save 13 = .ok (.aload_n 0, 1) := by decide +kernel
theorem dX12_save_14 : decode cX12_save 14 = .ok (.iconst 1, 1) := by decide +kernel
theorem dX12_save_15 : decode cX12_save 15 = .ok (.putfield 219, 3) := by decide +kernel
theorem dX12_save_18 : decode cX12_save 18 = .ok (.aload_n 0, 1) := by decide +kernel
theorem dX12_save_19 : decode cX12_save 19 = .ok (.aload_n 0, 1) := by decide +kernel
theorem dX12_save_20 : decode cX12_save 20 = .ok (.invokevirtual 77, 3) := by decide +kernel
theorem dX12_save_23 : decode cX12_save 23 = .ok (.invokevirtual 81, 3) := by decide +kernel
theorem dX12_save_26 : decode cX12_save 26 = .ok (.ireturn, 1) := by decide +kernel
theorem dX12_restore_0 : decode cX12_restore 0 = .ok (.aload_n 0, 1) := by decide +kernel
theorem dX12_restore_1 : decode cX12_restore 1 = .ok (.getfield 219, 3) := by decide +kernel
theorem dX12_restore_4 : decode cX12_restore 4 = .ok (.ifCond .ne 9, 3) := by decide +kernel
theorem dX12_restore_7 : decode cX12_restore 7 = .ok (.aload_n 0, 1) := by decide +kernel
theorem dX12_restore_8 : decode cX12_restore 8 = .ok (.iconst 1, 1) := by decide +kernel
theorem dX12_restore_9 : decode cX12_restore 9 = .ok (.invokevirtual 74, 3) := by decide +kernel
theorem dX12_restore_12 : decode cX12_restore 12 = .ok (.ireturn, 1) := by decide +kernel
theorem dX12_restore_13 : decode cX12_restore 13 = .ok (.aload_n 0, 1) := by decide +kernel
theorem dX12_restore_14 : decode cX12_restore 14 = .ok (.getfield 22, 3) := by decide +kernel
theorem dX12_restore_17 : decode cX12_restore 17 = .ok (.iconst 0, 1) := by decide +kernel
theorem dX12_restore_18 : decode cX12_restore 18 = .ok (.aload_n 0, 1) := by decide +kernel
theorem dX12_restore_19 : decode cX12_restore 19 = .ok (.getfield 7, 3) := by decide +kernel
theorem dX12_restore_22 : decode cX12_restore 22 = .ok (.iconst 0, 1) := by decide +kernel
theorem dX12_restore_23 : decode cX12_restore 23 = .ok (.invokestatic 45, 3) := by decide +kernel
theorem dX12_restore_26 : decode cX12_restore 26 = .ok (.aload_n 0, 1) := by decide +kernel
theorem dX12_restore_27 : decode cX12_restore 27 = .ok (.iconst 0, 1) := by decide +kernel
theorem dX12_restore_28 : decode cX12_restore 28 = .ok (.putfield 49, 3) := by decide +kernel
theorem dX12_restore_31 : decode cX12_restore 31 = .ok (.aload_n 0, 1) := by decide +kernel
theorem dX12_restore_32 : decode cX12_restore 32 = .ok (.aload_n 0, 1) := by decide +kernel
theorem dX12_restore_33 : decode cX12_restore 33 = .ok (.invokevirtual 77, 3) := by decide +kernel
theorem dX12_restore_36 : decode cX12_restore 36 = .ok (.invokevirtual 81, 3) := by decide +kernel
theorem dX12_restore_39 : decode cX12_restore 39 = .ok (.ireturn, 1) := by decide +kernel
