theorem dX7_init_0 : decode cX7_init 0 = .ok (.aload_n 0, 1) := by decide +kernel
theorem dX7_init_1 : decode cX7_init 1 = .ok (.invokespecial 1, 3) := by decide +kernel
theorem dX7_init_4 : decode cX7_init 4 = .ok (.aload_n 0, 1) := by decide +kernel
theorem dX7_init_5 : decode cX7_init 5 = .ok (.sipush 434, 3) := by decide +kernel
theorem dX7_init_8 : decode cX7_init 8 = .ok (.newarray .int, 2) := by decide +kernel
theorem dX7_init_10 : decode cX7_init 10 = .ok (.putfield 7, 3) := by decide +kernel
theorem dX7_init_13 : decode cX7_init 13 = .ok (.aload_n 0, 1) := by decide +kernel
theorem dX7_init_14 : decode cX7_init 14 = .ok (.sipush 434, 3) := by decide +kernel
theorem dX7_init_17 : decode cX7_init 17 = .ok (.newarray .int, 2) := by decide +kernel
theorem dX7_init_19 : decode cX7_init 19 = .ok (.putfield 13, 3) := by decide +kernel
theorem dX7_init_22 : decode cX7_init 22 = .ok (.aload_n 0, 1) := by decide +kernel
theorem dX7_init_23 : decode cX7_init 23 = .ok (.sipush 2604, 3) := by decide +kernel
theorem dX7_init_26 : decode cX7_init 26 = .ok (.newarray .int, 2) := by decide +kernel
theorem dX7_init_28 : decode cX7_init 28 = .ok (.putfield 16, 3) := by decide +kernel
theorem dX7_init_31 : decode cX7_init 31 = .ok (.aload_n 0, 1) := by decide +kernel
theorem dX7_init_32 : decode cX7_init 32 = .ok (.sipush 434, 3) := by decide +kernel
theorem dX7_init_35 : decode cX7_init 35 = .ok (.newarray .int, 2) := by decide +kernel
theorem dX7_init_37 : decode cX7_init 37 = .ok (.putfield 19, 3) := by decide +kernel
theorem dX7_init_40 : decode cX7_init 40 = .ok (.aload_n 0, 1) := by decide +kernel
theorem dX7_init_41 : decode cX7_init 41 = .ok (.bipush 60, 2) := by decide +kernel
theorem dX7_init_43 : decode cX7_init 43 = .ok (.newarray .int, 2) := by decide +kernel
theorem dX7_init_45 : decode cX7_init 45 = .ok (.putfield 22, 3) := by decide +kernel
theorem dX7_init_48 : decode cX7_init 48 = .ok (.aload_n 0, 1) := by decide +kernel
theorem dX7_init_49 : decode cX7_init 49 = .ok (.bipush 40, 2) := by decide +kernel
theorem dX7_init_51 : decode cX7_init 51 = .ok (.newarray .int, 2) := by decide +kernel
theorem dX7_init_53 : decode cX7_init 53 = .ok (.putfield 25, 3) := by decide +kernel
theorem dX7_init_56 : decode cX7_init 56 = .ok (.aload_n 0, 1) := by decide +kernel
theorem dX7_init_57 : decode cX7_init 57 = .ok (.bipush 8, 2) := by decide +kernel
theorem dX7_init_59 : decode cX7_init 59 = .ok (.newarray .int, 2) := by decide +kernel
theorem dX7_init_61 : decode cX7_init 61 = .ok (.putfield 28, 3) := by decide +kernel
theorem dX7_init_64 : decode cX7_init 64 = .ok (.aload_n 0, 1) := by decide +kernel
theorem dX7_init_65 : decode cX7_init 65 = .ok (.getfield 7, 3) := by decide +kernel
theorem dX7_init_68 : decode cX7_init 68 = .ok (.iconst 0, 1) := by decide +kernel
theorem dX7_init_69 : decode cX7_init 69 = .ok (.iconst 4, 1) := by decide +kernel
theorem dX7_init_70 : decode cX7_init 70 = .ok (.iastore, 1) := by decide +kernel
theorem dX7_init_71 : decode cX7_init 71 = .ok (.aload_n 0, 1) := by decide +kernel
theorem dX7_init_72 : decode cX7_init 72 = .ok (.getfield 7, 3) := by decide +kernel
theorem dX7_init_75 : decode cX7_init 75 = .ok (.iconst 1, 1) := by decide +kernel
theorem dX7_init_76 : decode cX7_init 76 = .ok (.bipush 10, 2) := by decide +kernel
theorem dX7_init_78 : decode cX7_init 78 = .ok (.iastore, 1) := by decide +kernel
theorem dX7_init_79 : decode cX7_init 79 = .ok (.aload_n 0, 1) := by decide +kernel
theorem dX7_init_80 : decode cX7_init 80 = .ok (.getfield 7, 3) := by decide +kernel
theorem dX7_init_83 : decode cX7_init 83 = .ok (.iconst 2, 1) := by decide +kernel
theorem dX7_init_84 : decode cX7_init 84 = .ok (.iconst 3, 1) := by decide +kernel
theorem dX7_init_85 : decode cX7_init 85 = .ok (.iastore, 1) := by decide +kernel
theorem dX7_init_86 : decode cX7_init 86 = .ok (.aload_n 0, 1) := by decide +kernel
theorem dX7_init_87 : decode cX7_init 87 = .ok (.getfield 7, 3) := by decide +kernel
theorem dX7_init_90 : decode cX7_init 90 = .ok (.iconst 3, 1) := by decide +kernel
theorem dX7_init_91 : decode cX7_init 91 = .ok (.bipush 20, 2) := by decide +kernel
theorem dX7_init_93 : decode cX7_init 93 = .ok (.iastore, 1) := by decide +kernel
theorem dX7_init_94 : decode cX7_init 94 = .ok (.aload_n 0, 1) := by decide +kernel
theorem dX7_init_95 : decode cX7_init 95 = .ok (.getfield 7, 3) := by decide +kernel
theorem dX7_init_98 : decode cX7_init 98 = .ok (.iconst 4, 1) := by decide +kernel
theorem dX7_init_99 : decode cX7_init 99 = .ok (.bipush 8, 2) := by decide +kernel
theorem dX7_init_101 : decode cX7_init 101 = .ok (.iastore, 1) := by decide +kernel
theorem dX7_init_102 : decode cX7_init 102 = .ok (.aload_n 0, 1) := by decide +kernel
theorem dX7_init_103 : decode cX7_init 103 = .ok (.getfield 7, 3) := by decide +kernel
theorem dX7_init_106 : decode cX7_init 106 = .ok (.iconst 5, 1) := by decide +kernel
theorem dX7_init_107 : decode cX7_init 107 = .ok (.bipush 6, 2) := by decide +kernel
theorem dX7_init_109 : decode cX7_init 109 = .ok (.iastore, 1) := by decide +kernel
theorem dX7_init_110 : decode cX7_init 110 = .ok (.aload_n 0, 1) := by decide +kernel
theorem dX7_init_111 : decode cX7_init 111 = .ok (.getfield 7, 3) := by decide +kernel
theorem dX7_init_114 : decode cX7_init 114 = .ok (.bipush 6, 2) := by decide +kernel
theorem dX7_init_116 : decode cX7_init 116 = .ok (.bipush 40, 2) := by decide +kernel
theorem dX7_init_118 : decode cX7_init 118 = .ok (.iastore, 1) := by decide +kernel
theorem dX7_init_119 : decode cX7_init 119 = .ok (.aload_n 0, 1) := by decide +kernel
theorem dX7_init_120 : decode cX7_init 120 = .ok (.getfield 7, 3) := by decide +kernel
theorem dX7_init_123 : decode cX7_init 123 = .ok (.bipush 7, 2) := by decide +kernel
theorem dX7_init_125 : decode cX7_init 125 = .ok (.iconst 2, 1) := by decide +kernel
theorem dX7_init_126 : decode cX7_init 126 = .ok (.iastore, 1) := by decide +kernel
theorem dX7_init_127 : decode cX7_init 127 = .ok (.aload_n 0, 1) := by decide +kernel
theorem dX7_init_128 : decode cX7_init 128 = .ok (.getfield 7, 3) := by decide +kernel
theorem dX7_init_131 : decode cX7_init 131 = .ok (.bipush 8, 2) := by decide +kernel
theorem dX7_init_133 : decode cX7_init 133 = .ok (.iconst 4, 1) := by decide +kernel
theorem dX7_init_134 : decode cX7_init 134 = .ok (.iastore, 1) := by decide +kernel
theorem dX7_init_135 : decode cX7_init 135 = .ok (.aload_n 0, 1) := by decide +kernel
theorem dX7_init_136 : decode cX7_init 136 = .ok (.getfield 7, 3) := by decide +kernel
theorem dX7_init_139 : decode cX7_init 139 = .ok (.bipush 12, 2) := by decide +kernel
theorem dX7_init_141 : decode cX7_init 141 = .ok (.iconst (-1), 1) := by decide +kernel
theorem dX7_init_142 : decode cX7_init 142 = .ok (.iastore, 1) := by decide +kernel
theorem dX7_init_143 : decode cX7_init 143 = .ok (.aload_n 0, 1) := by decide +kernel
theorem dX7_init_144 : decode cX7_init 144 = .ok (.getfield 7, 3) := by decide +kernel
theorem dX7_init_147 : decode cX7_init 147 = .ok (.bipush 13, 2) := by decide +kernel
theorem dX7_init_149 : decode cX7_init 149 = .ok (.iconst (-1), 1) := by decide +kernel
theorem dX7_init_150 : decode cX7_init 150 = .ok (.iastore, 1) := by decide +kernel
theorem dX7_init_151 : decode cX7_init 151 = .ok (.return_, 1) := by decide +kernel
theorem dX7_thrown_0 : decode cX7_thrown 0 = .ok (.aload_n 0, 1) := by decide +kernel
theorem dX7_thrown_1 : decode cX7_thrown 1 = .ok (.getfield 31, 3) := by decide +kernel
theorem dX7_thrown_4 : decode cX7_thrown 4 = .ok (.ireturn, 1) := by decide +kernel
theorem dX7_fails_0 : decode cX7_fails 0 = .ok (.aload_n 0, 1) := by decide +kernel
theorem dX7_fails_1 : decode cX7_fails 1 = .ok (.iload_n 1, 1) := by decide +kernel
theorem dX7_fails_2 : decode cX7_fails 2 = .ok (.putfield 31, 3) := by decide +kernel
theorem dX7_fails_5 : decode cX7_fails 5 = .ok (.iconst 0, 1) := by decide +kernel
theorem dX7_fails_6 : decode cX7_fails 6 = .ok (.ireturn, 1) := by decide +kernel
theorem dX7_within_0 : decode cX7_within 0 = .ok (.iload_n 0, 1) := by decide +kernel
theorem dX7_within_1 : decode cX7_within 1 = .ok (.iload_n 1, 1) := by decide +kernel
theorem dX7_within_2 : decode cX7_within 2 = .ok (.if_icmp .lt 12, 3) := by decide +kernel
theorem dX7_within_5 : decode cX7_within 5 = .ok (.iload_n 0, 1) := by decide +kernel
theorem dX7_within_6 : decode cX7_within 6 = .ok (.iload_n 2, 1) := by decide +kernel
theorem dX7_within_7 : decode cX7_within 7 = .ok (.if_icmp .gt 7, 3) := by decide +kernel
theorem dX7_within_10 : decode cX7_within 10 = .ok (.iconst 1, 1) := by decide +kernel
theorem dX7_within_11 : decode cX7_within 11 = .ok (.goto 4, 3) := by decide +kernel
theorem dX7_within_14 : decode cX7_within 14 = .ok (.iconst 0, 1) := by decide +kernel
theorem dX7_within_15 : decode cX7_within 15 = .ok (.ireturn, 1) := by decide +kernel
theorem dX7_sizeOf_0 : decode cX7_sizeOf 0 = .ok (.iload_n 0, 1) := by decide +kernel
theorem dX7_sizeOf_1 : decode cX7_sizeOf 1 = .ok (.ifCond .ge 8, 3) := by decide +kernel
theorem dX7_sizeOf_4 : decode cX7_sizeOf 4 = .ok (.iload_n 0, 1) := by decide +kernel
theorem dX7_sizeOf_5 : decode cX7_sizeOf 5 = .ok (.ineg, 1) := by decide +kernel
theorem dX7_sizeOf_6 : decode cX7_sizeOf 6 = .ok (.goto 4, 3) := by decide +kernel
theorem dX7_sizeOf_9 : decode cX7_sizeOf 9 = .ok (.iload_n 0, 1) := by decide +kernel
theorem dX7_sizeOf_10 : decode cX7_sizeOf 10 = .ok (.ireturn, 1) := by decide +kernel
theorem dX7_isSheet_0 : decode cX7_isSheet 0 = .ok (.iload_n 1, 1) := by decide +kernel
theorem dX7_isSheet_1 : decode cX7_isSheet 1 = .ok (.iconst 0, 1) := by decide +kernel
theorem dX7_isSheet_2 : decode cX7_isSheet 2 = .ok (.aload_n 0, 1) := by decide +kernel
theorem dX7_isSheet_3 : decode cX7_isSheet 3 = .ok (.getfield 7, 3) := by decide +kernel
theorem dX7_isSheet_6 : decode cX7_isSheet 6 = .ok (.bipush 9, 2) := by decide +kernel
theorem dX7_isSheet_8 : decode cX7_isSheet 8 = .ok (.iaload, 1) := by decide +kernel
theorem dX7_isSheet_9 : decode cX7_isSheet 9 = .ok (.iconst 1, 1) := by decide +kernel
theorem dX7_isSheet_10 : decode cX7_isSheet 10 = .ok (.isub, 1) := by decide +kernel
theorem dX7_isSheet_11 : decode cX7_isSheet 11 = .ok (.invokestatic 35, 3) := by decide +kernel
theorem dX7_isSheet_14 : decode cX7_isSheet 14 = .ok (.ireturn, 1) := by decide +kernel
theorem dX7_of_0 : decode cX7_of 0 = .ok (.aload_n 0, 1) := by decide +kernel
theorem dX7_of_1 : decode cX7_of 1 = .ok (.getfield 7, 3) := by decide +kernel
theorem dX7_of_4 : decode cX7_of 4 = .ok (.bipush 98, 2) := by decide +kernel
theorem dX7_of_6 : decode cX7_of 6 = .ok (.bipush 42, 2) := by decide +kernel
theorem dX7_of_8 : decode cX7_of 8 = .ok (.iload_n 1, 1) := by decide +kernel
theorem dX7_of_9 : decode cX7_of 9 = .ok (.imul, 1) := by decide +kernel
theorem dX7_of_10 : decode cX7_of 10 = .ok (.iadd, 1) := by decide +kernel
theorem dX7_of_11 : decode cX7_of 11 = .ok (.iload_n 2, 1) := by decide +kernel
theorem dX7_of_12 : decode cX7_of 12 = .ok (.iadd, 1) := by decide +kernel
theorem dX7_of_13 : decode cX7_of 13 = .ok (.iaload, 1) := by decide +kernel
theorem dX7_of_14 : decode cX7_of 14 = .ok (.ireturn, 1) := by decide +kernel
theorem dX7_ofStroke_0 : decode cX7_ofStroke 0 = .ok (.aload_n 0, 1) := by decide +kernel
theorem dX7_ofStroke_1 : decode cX7_ofStroke 1 = .ok (.iload_n 1, 1) := by decide +kernel
theorem dX7_ofStroke_2 : decode cX7_ofStroke 2 = .ok (.iconst 2, 1) := by decide +kernel
theorem dX7_ofStroke_3 : decode cX7_ofStroke 3 = .ok (.iconst 5, 1) := by decide +kernel
theorem dX7_ofStroke_4 : decode cX7_ofStroke 4 = .ok (.iload_n 2, 1) := by decide +kernel
theorem dX7_ofStroke_5 : decode cX7_ofStroke 5 = .ok (.imul, 1) := by decide +kernel
theorem dX7_ofStroke_6 : decode cX7_ofStroke 6 = .ok (.iadd, 1) := by decide +kernel
theorem dX7_ofStroke_7 : decode cX7_ofStroke 7 = .ok (.iload_n 3, 1) := by decide +kernel
theorem dX7_ofStroke_8 : decode cX7_ofStroke 8 = .ok (.iadd, 1) := by decide +kernel
theorem dX7_ofStroke_9 : decode cX7_ofStroke 9 = .ok (.invokevirtual 39, 3) := by decide +kernel
theorem dX7_ofStroke_12 : decode cX7_ofStroke 12 = .ok (.ireturn, 1) := by decide +kernel
theorem dX7_ofOath_0 : decode cX7_ofOath 0 = .ok (.aload_n 0, 1) := by decide +kernel
theorem dX7_ofOath_1 : decode cX7_ofOath 1 = .ok (.getfield 7, 3) := by decide +kernel
theorem dX7_ofOath_4 : decode cX7_ofOath 4 = .ok (.bipush 14, 2) := by decide +kernel
theorem dX7_ofOath_6 : decode cX7_ofOath 6 = .ok (.iconst 3, 1) := by decide +kernel
theorem dX7_ofOath_7 : decode cX7_ofOath 7 = .ok (.iload_n 1, 1) := by decide +kernel
theorem dX7_ofOath_8 : decode cX7_ofOath 8 = .ok (.imul, 1) := by decide +kernel
theorem dX7_ofOath_9 : decode cX7_ofOath 9 = .ok (.iadd, 1) := by decide +kernel
theorem dX7_ofOath_10 : decode cX7_ofOath 10 = .ok (.iload_n 2, 1) := by decide +kernel
theorem dX7_ofOath_11 : decode cX7_ofOath 11 = .ok (.iadd, 1) := by decide +kernel
theorem dX7_ofOath_12 : decode cX7_ofOath 12 = .ok (.iaload, 1) := by decide +kernel
theorem dX7_ofOath_13 : decode cX7_ofOath 13 = .ok (.ireturn, 1) := by decide +kernel
theorem dX7_save_0 : decode cX7_save 0 = .ok (.aload_n 0, 1) := by decide +kernel
theorem dX7_save_1 : decode cX7_save 1 = .ok (.getfield 43, 3) := by decide +kernel
theorem dX7_save_4 : decode cX7_save 4 = .ok (.bipush 6, 2) := by decide +kernel
theorem dX7_save_6 : decode cX7_save 6 = .ok (.if_icmp .ne 44, 3) := by decide +kernel
theorem dX7_save_9 : decode cX7_save 9 = .ok (.iconst 0, 1) := by decide +kernel
theorem dX7_save_10 : decode cX7_save 10 = .ok (.istore_n 1, 1) := by decide +kernel
theorem dX7_save_11 : decode cX7_save 11 = .ok (.iload_n 1, 1) := by decide +kernel
theorem dX7_save_12 : decode cX7_save 12 = .ok (.sipush 2170, 3) := by decide +kernel
theorem dX7_save_15 : decode cX7_save 15 = .ok (.if_icmp .ge 25, 3) := by decide +kernel
theorem dX7_save_18 : decode cX7_save 18 = .ok (.aload_n 0, 1) := by decide +kernel
theorem dX7_save_19 : decode cX7_save 19 = .ok (.getfield 16, 3) := by decide +kernel
theorem dX7_save_22 : decode cX7_save 22 = .ok (.iload_n 1, 1) := by decide +kernel
theorem dX7_save_23 : decode cX7_save 23 = .ok (.aload_n 0, 1) := by decide +kernel
theorem dX7_save_24 : decode cX7_save 24 = .ok (.getfield 16, 3) := by decide +kernel
theorem dX7_save_27 : decode cX7_save 27 = .ok (.iload_n 1, 1) := by decide +kernel
theorem dX7_save_28 : decode cX7_save 28 = .ok (.sipush 434, 3) := by decide +kernel
theorem dX7_save_31 : decode cX7_save 31 = .ok (.iadd, 1) := by decide +kernel
theorem dX7_save_32 : decode cX7_save 32 = .ok (.iaload, 1) := by decide +kernel
theorem dX7_save_33 : decode cX7_save 33 = .ok (.iastore, 1) := by decide +kernel
theorem dX7_save_34 : decode cX7_save 34 = .ok (.iinc 1 1, 3) := by decide +kernel
theorem dX7_save_37 : decode cX7_save 37 = .ok (.goto (-26), 3) := by decide +kernel
theorem dX7_save_40 : decode cX7_save 40 = .ok (.aload_n 0, 1) := by decide +kernel
theorem dX7_save_41 : decode cX7_save 41 = .ok (.dup, 1) := by decide +kernel
theorem dX7_save_42 : decode cX7_save 42 = .ok (.getfield 43, 3) := by decide +kernel
theorem dX7_save_45 : decode cX7_save 45 = .ok (.iconst 1, 1) := by decide +kernel
theorem dX7_save_46 : decode cX7_save 46 = .ok (.isub, 1) := by decide +kernel
theorem dX7_save_47 : decode cX7_save 47 = .ok (.putfield 43, 3) := by decide +kernel
theorem dX7_save_50 : decode cX7_save 50 = .ok (.iconst 0, 1) := by decide +kernel
theorem dX7_save_51 : decode cX7_save 51 = .ok (.istore_n 1, 1) := by decide +kernel
theorem dX7_save_52 : decode cX7_save 52 = .ok (.iload_n 1, 1) := by decide +kernel
theorem dX7_save_53 : decode cX7_save 53 = .ok (.sipush 434, 3) := by decide +kernel
theorem dX7_save_56 : decode cX7_save 56 = .ok (.if_icmp .ge 30, 3) := by decide +kernel
theorem dX7_save_59 : decode cX7_save 59 = .ok (.aload_n 0, 1) := by decide +kernel
theorem dX7_save_60 : decode cX7_save 60 = .ok (.getfield 16, 3) := by decide +kernel
theorem dX7_save_63 : decode cX7_save 63 = .ok (.aload_n 0, 1) := by decide +kernel
theorem dX7_save_64 : decode cX7_save 64 = .ok (.getfield 43, 3) := by decide +kernel
theorem dX7_save_67 : decode cX7_save 67 = .ok (.sipush 434, 3) := by decide +kernel
theorem dX7_save_70 : decode cX7_save 70 = .ok (.imul, 1) := by decide +kernel
theorem dX7_save_71 : decode cX7_save 71 = .ok (.iload_n 1, 1) := by decide +kernel
theorem dX7_save_72 : decode cX7_save 72 = .ok (.iadd, 1) := by decide +kernel
theorem dX7_save_73 : decode cX7_save 73 = .ok (.aload_n 0, 1) := by decide +kernel
theorem dX7_save_74 : decode cX7_save 74 = .ok (.getfield 7, 3) := by decide +kernel
theorem dX7_save_77 : decode cX7_save 77 = .ok (.iload_n 1, 1) := by decide +kernel
theorem dX7_save_78 : decode cX7_save 78 = .ok (.iaload, 1) := by decide +kernel
theorem dX7_save_79 : decode cX7_save 79 = .ok (.iastore, 1) := by decide +kernel
theorem dX7_save_80 : decode cX7_save 80 = .ok (.iinc 1 1, 3) := by decide +kernel
theorem dX7_save_83 : decode cX7_save 83 = .ok (.goto (-31), 3) := by decide +kernel
theorem dX7_save_86 : decode cX7_save 86 = .ok (.aload_n 0, 1) := by decide +kernel
theorem dX7_save_87 : decode cX7_save 87 = .ok (.dup, 1) := by decide +kernel
theorem dX7_save_88 : decode cX7_save 88 = .ok (.getfield 43, 3) := by decide +kernel
theorem dX7_save_91 : decode cX7_save 91 = .ok (.iconst 1, 1) := by decide +kernel
theorem dX7_save_92 : decode cX7_save 92 = .ok (.iadd, 1) := by decide +kernel
theorem dX7_save_93 : decode cX7_save 93 = .ok (.putfield 43, 3) := by decide +kernel
theorem dX7_save_96 : decode cX7_save 96 = .ok (.return_, 1) := by decide +kernel
theorem dX7_undo_0 : decode cX7_undo 0 = .ok (.aload_n 0, 1) := by decide +kernel
theorem dX7_undo_1 : decode cX7_undo 1 = .ok (.iconst 0, 1) := by decide +kernel
theorem dX7_undo_2 : decode cX7_undo 2 = .ok (.putfield 31, 3) := by decide +kernel
theorem dX7_undo_5 : decode cX7_undo 5 = .ok (.aload_n 0, 1) := by decide +kernel
theorem dX7_undo_6 : decode cX7_undo 6 = .ok (.getfield 43, 3) := by decide +kernel
theorem dX7_undo_9 : decode cX7_undo 9 = .ok (.ifCond .ne 9, 3) := by decide +kernel
theorem dX7_undo_12 : decode cX7_undo 12 = .ok (.aload_n 0, 1) := by decide +kernel
theorem dX7_undo_13 : decode cX7_undo 13 = .ok (.iconst 1, 1) := by decide +kernel
theorem dX7_undo_14 : decode cX7_undo 14 = .ok (.invokevirtual 46, 3) := by decide +kernel
theorem dX7_undo_17 : decode cX7_undo 17 = .ok (.ireturn, 1) := by decide +kernel
theorem dX7_undo_18 : decode cX7_undo 18 = .ok (.aload_n 0, 1) := by decide +kernel
theorem dX7_undo_19 : decode cX7_undo 19 = .ok (.dup, 1) := by decide +kernel
theorem dX7_undo_20 : decode cX7_undo 20 = .ok (.getfield 43, 3) := by decide +kernel
theorem dX7_undo_23 : decode cX7_undo 23 = .ok (.iconst 1, 1) := by decide +kernel
theorem dX7_undo_24 : decode cX7_undo 24 = .ok (.isub, 1) := by decide +kernel
theorem dX7_undo_25 : decode cX7_undo 25 = .ok (.putfield 43, 3) := by decide +kernel
theorem dX7_undo_28 : decode cX7_undo 28 = .ok (.iconst 0, 1) := by decide +kernel
theorem dX7_undo_29 : decode cX7_undo 29 = .ok (.istore_n 1, 1) := by decide +kernel
theorem dX7_undo_30 : decode cX7_undo 30 = .ok (.iload_n 1, 1) := by decide +kernel
theorem dX7_undo_31 : decode cX7_undo 31 = .ok (.sipush 434, 3) := by decide +kernel
theorem dX7_undo_34 : decode cX7_undo 34 = .ok (.if_icmp .ge 30, 3) := by decide +kernel
theorem dX7_undo_37 : decode cX7_undo 37 = .ok (.aload_n 0, 1) := by decide +kernel
theorem dX7_undo_38 : decode cX7_undo 38 = .ok (.getfield 7, 3) := by decide +kernel
theorem dX7_undo_41 : decode cX7_undo 41 = .ok (.iload_n 1, 1) := by decide +kernel
theorem dX7_undo_42 : decode cX7_undo 42 = .ok (.aload_n 0, 1) := by decide +kernel
theorem dX7_undo_43 : decode cX7_undo 43 = .ok (.getfield 16, 3) := by decide +kernel
theorem dX7_undo_46 : decode cX7_undo 46 = .ok (.aload_n 0, 1) := by decide +kernel
theorem dX7_undo_47 : decode cX7_undo 47 = .ok (.getfield 43, 3) := by decide +kernel
theorem dX7_undo_50 : decode cX7_undo 50 = .ok (.sipush 434, 3) := by decide +kernel
theorem dX7_undo_53 : decode cX7_undo 53 = .ok (.imul, 1) := by decide +kernel
theorem dX7_undo_54 : decode cX7_undo 54 = .ok (.iload_n 1, 1) := by decide +kernel
theorem dX7_undo_55 : decode cX7_undo 55 = .ok (.iadd, 1) := by decide +kernel
theorem dX7_undo_56 : decode cX7_undo 56 = .ok (.iaload, 1) := by decide +kernel
theorem dX7_undo_57 : decode cX7_undo 57 = .ok (.iastore, 1) := by decide +kernel
theorem dX7_undo_58 : decode cX7_undo 58 = .ok (.iinc 1 1, 3) := by decide +kernel
theorem dX7_undo_61 : decode cX7_undo 61 = .ok (.goto (-31), 3) := by decide +kernel
theorem dX7_undo_64 : decode cX7_undo 64 = .ok (.aload_n 0, 1) := by decide +kernel
theorem dX7_undo_65 : decode cX7_undo 65 = .ok (.getfield 43, 3) := by decide +kernel
theorem dX7_undo_68 : decode cX7_undo 68 = .ok (.ireturn, 1) := by decide +kernel
theorem dX7_keep_0 : decode cX7_keep 0 = .ok (.aload_n 0, 1) := by decide +kernel
theorem dX7_keep_1 : decode cX7_keep 1 = .ok (.iconst 0, 1) := by decide +kernel
theorem dX7_keep_2 : decode cX7_keep 2 = .ok (.putfield 31, 3) := by decide +kernel
theorem dX7_keep_5 : decode cX7_keep 5 = .ok (.iconst 0, 1) := by decide +kernel
theorem dX7_keep_6 : decode cX7_keep 6 = .ok (.istore_n 1, 1) := by decide +kernel
theorem dX7_keep_7 : decode cX7_keep 7 = .ok (.iload_n 1, 1) := by decide +kernel
theorem dX7_keep_8 : decode cX7_keep 8 = .ok (.sipush 434, 3) := by decide +kernel
theorem dX7_keep_11 : decode cX7_keep 11 = .ok (.if_icmp .ge 21, 3) := by decide +kernel
theorem dX7_keep_14 : decode cX7_keep 14 = .ok (.aload_n 0, 1) := by decide +kernel
theorem dX7_keep_15 : decode cX7_keep 15 = .ok (.getfield 19, 3) := by decide +kernel
theorem dX7_keep_18 : decode cX7_keep 18 = .ok (.iload_n 1, 1) := by decide +kernel
theorem dX7_keep_19 : decode cX7_keep 19 = .ok (.aload_n 0, 1) := by decide +kernel
theorem dX7_keep_20 : decode cX7_keep 20 = .ok (.getfield 7, 3) := by decide +kernel
theorem dX7_keep_23 : decode cX7_keep 23 = .ok (.iload_n 1, 1) := by decide +kernel
theorem dX7_keep_24 : decode cX7_keep 24 = .ok (.iaload, 1) := by decide +kernel
theorem dX7_keep_25 : decode cX7_keep 25 = .ok (.iastore, 1) := by decide +kernel
theorem dX7_keep_26 : decode cX7_keep 26 = .ok (.iinc 1 1, 3) := by decide +kernel
theorem dX7_keep_29 : decode cX7_keep 29 = .ok (.goto (-22), 3) := by decide +kernel
theorem dX7_keep_32 : decode cX7_keep 32 = .ok (.aload_n 0, 1) := by decide +kernel
theorem dX7_keep_33 : decode cX7_keep 33 = .ok (.iconst 1, 1) := by decide +kernel
theorem dX7_keep_34 : decode cX7_keep 34 = .ok (.putfield 50, 3) := by decide +kernel
theorem dX7_keep_37 : decode cX7_keep 37 = .ok (.aload_n 0, 1) := by decide +kernel
theorem dX7_keep_38 : decode cX7_keep 38 = .ok (.getfield 7, 3) := by decide +kernel
theorem dX7_keep_41 : decode cX7_keep 41 = .ok (.bipush 9, 2) := by decide +kernel
theorem dX7_keep_43 : decode cX7_keep 43 = .ok (.iaload, 1) := by decide +kernel
theorem dX7_keep_44 : decode cX7_keep 44 = .ok (.ireturn, 1) := by decide +kernel
theorem dX7_restore_0 : decode cX7_restore 0 = .ok (.aload_n 0, 1) := by decide +kernel
theorem dX7_restore_1 : decode cX7_restore 1 = .ok (.iconst 0, 1) := by decide +kernel
theorem dX7_restore_2 : decode cX7_restore 2 = .ok (.putfield 31, 3) := by decide +kernel
theorem dX7_restore_5 : decode cX7_restore 5 = .ok (.aload_n 0, 1) := by decide +kernel
theorem dX7_restore_6 : decode cX7_restore 6 = .ok (.getfield 50, 3) := by decide +kernel
theorem dX7_restore_9 : decode cX7_restore 9 = .ok (.ifCond .ne 9, 3) := by decide +kernel
theorem dX7_restore_12 : decode cX7_restore 12 = .ok (.aload_n 0, 1) := by decide +kernel
theorem dX7_restore_13 : decode cX7_restore 13 = .ok (.iconst 1, 1) := by decide +kernel
theorem dX7_restore_14 : decode cX7_restore 14 = .ok (.invokevirtual 46, 3) := by decide +kernel
theorem dX7_restore_17 : decode cX7_restore 17 = .ok (.ireturn, 1) := by decide +kernel
theorem dX7_restore_18 : decode cX7_restore 18 = .ok (.aload_n 0, 1) := by decide +kernel
theorem dX7_restore_19 : decode cX7_restore 19 = .ok (.invokevirtual 54, 3) := by decide +kernel
theorem dX7_restore_22 : decode cX7_restore 22 = .ok (.iconst 0, 1) := by decide +kernel
theorem dX7_restore_23 : decode cX7_restore 23 = .ok (.istore_n 1, 1) := by decide +kernel
theorem dX7_restore_24 : decode cX7_restore 24 = .ok (.iload_n 1, 1) := by decide +kernel
theorem dX7_restore_25 : decode cX7_restore 25 = .ok (.sipush 434, 3) := by decide +kernel
theorem dX7_restore_28 : decode cX7_restore 28 = .ok (.if_icmp .ge 21, 3) := by decide +kernel
theorem dX7_restore_31 : decode cX7_restore 31 = .ok (.aload_n 0, 1) := by decide +kernel
theorem dX7_restore_32 : decode cX7_restore 32 = .ok (.getfield 7, 3) := by decide +kernel
theorem dX7_restore_35 : decode cX7_restore 35 = .ok (.iload_n 1, 1) := by decide +kernel
theorem dX7_restore_36 : decode cX7_restore 36 = .ok (.aload_n 0, 1) := by decide +kernel
theorem dX7_restore_37 : decode cX7_restore 37 = .ok (.getfield 19, 3) := by decide +kernel
theorem dX7_restore_40 : decode cX7_restore 40 = .ok (.iload_n 1, 1) := by decide +kernel
theorem dX7_restore_41 : decode cX7_restore 41 = .ok (.iaload, 1) := by decide +kernel
theorem dX7_restore_42 : decode cX7_restore 42 = .ok (.iastore, 1) := by decide +kernel
theorem dX7_restore_43 : decode cX7_restore 43 = .ok (.iinc 1 1, 3) := by decide +kernel
theorem dX7_restore_46 : decode cX7_restore 46 = .ok (.goto (-22), 3) := by decide +kernel
theorem dX7_restore_49 : decode cX7_restore 49 = .ok (.aload_n 0, 1) := by decide +kernel
theorem dX7_restore_50 : decode cX7_restore 50 = .ok (.getfield 7, 3) := by decide +kernel
theorem dX7_restore_53 : decode cX7_restore 53 = .ok (.bipush 9, 2) := by decide +kernel
theorem dX7_restore_55 : decode cX7_restore 55 = .ok (.iaload, 1) := by decide +kernel
theorem dX7_restore_56 : decode cX7_restore 56 = .ok (.ireturn, 1) := by decide +kernel
theorem dX7_putAside_0 : decode cX7_putAside 0 = .ok (.iconst 0, 1) := by decide +kernel
theorem dX7_putAside_1 : decode cX7_putAside 1 = .ok (.istore_n 1, 1) := by decide +kernel
theorem dX7_putAside_2 : decode cX7_putAside 2 = .ok (.iload_n 1, 1) := by decide +kernel
theorem dX7_putAside_3 : decode cX7_putAside 3 = .ok (.sipush 434, 3) := by decide +kernel
theorem dX7_putAside_6 : decode cX7_putAside 6 = .ok (.if_icmp .ge 21, 3) := by decide +kernel
theorem dX7_putAside_9 : decode cX7_putAside 9 = .ok (.aload_n 0, 1) := by decide +kernel
theorem dX7_putAside_10 : decode cX7_putAside 10 = .ok (.getfield 13, 3) := by decide +kernel
theorem dX7_putAside_13 : decode cX7_putAside 13 = .ok (.iload_n 1, 1) := by decide +kernel
theorem dX7_putAside_14 : decode cX7_putAside 14 = .ok (.aload_n 0, 1) := by decide +kernel
theorem dX7_putAside_15 : decode cX7_putAside 15 = .ok (.getfield 7, 3) := by decide +kernel
theorem dX7_putAside_18 : decode cX7_putAside 18 = .ok (.iload_n 1, 1) := by decide +kernel
theorem dX7_putAside_19 : decode cX7_putAside 19 = .ok (.iaload, 1) := by decide +kernel
theorem dX7_putAside_20 : decode cX7_putAside 20 = .ok (.iastore, 1) := by decide +kernel
theorem dX7_putAside_21 : decode cX7_putAside 21 = .ok (.iinc 1 1, 3) := by decide +kernel
theorem dX7_putAside_24 : decode cX7_putAside 24 = .ok (.goto (-22), 3) := by decide +kernel
theorem dX7_putAside_27 : decode cX7_putAside 27 = .ok (.return_, 1) := by decide +kernel
theorem dX7_takeBack_0 : decode cX7_takeBack 0 = .ok (.iconst 0, 1) := by decide +kernel
theorem dX7_takeBack_1 : decode cX7_takeBack 1 = .ok (.istore_n 1, 1) := by decide +kernel
theorem dX7_takeBack_2 : decode cX7_takeBack 2 = .ok (.iload_n 1, 1) := by decide +kernel
theorem dX7_takeBack_3 : decode cX7_takeBack 3 = .ok (.sipush 434, 3) := by decide +kernel
theorem dX7_takeBack_6 : decode cX7_takeBack 6 = .ok (.if_icmp .ge 21, 3) := by decide +kernel
theorem dX7_takeBack_9 : decode cX7_takeBack 9 = .ok (.aload_n 0, 1) := by decide +kernel
theorem dX7_takeBack_10 : decode cX7_takeBack 10 = .ok (.getfield 7, 3) := by decide +kernel
theorem dX7_takeBack_13 : decode cX7_takeBack 13 = .ok (.iload_n 1, 1) := by decide +kernel
theorem dX7_takeBack_14 : decode cX7_takeBack 14 = .ok (.aload_n 0, 1) := by decide +kernel
theorem dX7_takeBack_15 : decode cX7_takeBack 15 = .ok (.getfield 13, 3) := by decide +kernel
theorem dX7_takeBack_18 : decode cX7_takeBack 18 = .ok (.iload_n 1, 1) := by decide +kernel
theorem dX7_takeBack_19 : decode cX7_takeBack 19 = .ok (.iaload, 1) := by decide +kernel
theorem dX7_takeBack_20 : decode cX7_takeBack 20 = .ok (.iastore, 1) := by decide +kernel
theorem dX7_takeBack_21 : decode cX7_takeBack 21 = .ok (.iinc 1 1, 3) := by decide +kernel
theorem dX7_takeBack_24 : decode cX7_takeBack 24 = .ok (.goto (-22), 3) := by decide +kernel
theorem dX7_takeBack_27 : decode cX7_takeBack 27 = .ok (.return_, 1) := by decide +kernel
theorem dX7_divided_0 : decode cX7_divided 0 = .ok (.iload_n 0, 1) := by decide +kernel
theorem dX7_divided_1 : decode cX7_divided 1 = .ok (.ifCond .lt 9, 3) := by decide +kernel
theorem dX7_divided_4 : decode cX7_divided 4 = .ok (.iload_n 0, 1) := by decide +kernel
theorem dX7_divided_5 : decode cX7_divided 5 = .ok (.iload_n 1, 1) := by decide +kernel
theorem dX7_divided_6 : decode cX7_divided 6 = .ok (.idiv, 1) := by decide +kernel
theorem dX7_divided_7 : decode cX7_divided 7 = .ok (.goto 12, 3) := by decide +kernel
theorem dX7_divided_10 : decode cX7_divided 10 = .ok (.iload_n 0, 1) := by decide +kernel
theorem dX7_divided_11 : decode cX7_divided 11 = .ok (.ineg, 1) := by decide +kernel
theorem dX7_divided_12 : decode cX7_divided 12 = .ok (.iload_n 1, 1) := by decide +kernel
theorem dX7_divided_13 : decode cX7_divided 13 = .ok (.iadd, 1) := by decide +kernel
theorem dX7_divided_14 : decode cX7_divided 14 = .ok (.iconst 1, 1) := by decide +kernel
theorem dX7_divided_15 : decode cX7_divided 15 = .ok (.isub, 1) := by decide +kernel
theorem dX7_divided_16 : decode cX7_divided 16 = .ok (.iload_n 1, 1) := by decide +kernel
theorem dX7_divided_17 : decode cX7_divided 17 = .ok (.idiv, 1) := by decide +kernel
theorem dX7_divided_18 : decode cX7_divided 18 = .ok (.ineg, 1) := by decide +kernel
theorem dX7_divided_19 : decode cX7_divided 19 = .ok (.ireturn, 1) := by decide +kernel
theorem dX7_sumOf_0 : decode cX7_sumOf 0 = .ok (.iconst 0, 1) := by decide +kernel
theorem dX7_sumOf_1 : decode cX7_sumOf 1 = .ok (.istore_n 3, 1) := by decide +kernel
theorem dX7_sumOf_2 : decode cX7_sumOf 2 = .ok (.iconst 0, 1) := by decide +kernel
theorem dX7_sumOf_3 : decode cX7_sumOf 3 = .ok (.istore 4, 2) := by decide +kernel
theorem dX7_sumOf_5 : decode cX7_sumOf 5 = .ok (.iload 4, 2) := by decide +kernel
theorem dX7_sumOf_7 : decode cX7_sumOf 7 = .ok (.aload_n 0, 1) := by decide +kernel
theorem dX7_sumOf_8 : decode cX7_sumOf 8 = .ok (.iload_n 1, 1) := by decide +kernel
theorem dX7_sumOf_9 : decode cX7_sumOf 9 = .ok (.iconst 1, 1) := by decide +kernel
theorem dX7_sumOf_10 : decode cX7_sumOf 10 = .ok (.invokevirtual 39, 3) := by decide +kernel
theorem dX7_sumOf_13 : decode cX7_sumOf 13 = .ok (.if_icmp .ge 20, 3) := by decide +kernel
theorem dX7_sumOf_16 : decode cX7_sumOf 16 = .ok (.iload_n 3, 1) := by decide +kernel
theorem dX7_sumOf_17 : decode cX7_sumOf 17 = .ok (.aload_n 0, 1) := by decide +kernel
theorem dX7_sumOf_18 : decode cX7_sumOf 18 = .ok (.iload_n 1, 1) := by decide +kernel
theorem dX7_sumOf_19 : decode cX7_sumOf 19 = .ok (.iload 4, 2) := by decide +kernel
theorem dX7_sumOf_21 : decode cX7_sumOf 21 = .ok (.iload_n 2, 1) := by decide +kernel
theorem dX7_sumOf_22 : decode cX7_sumOf 22 = .ok (.invokevirtual 57, 3) := by decide +kernel
theorem dX7_sumOf_25 : decode cX7_sumOf 25 = .ok (.iadd, 1) := by decide +kernel
theorem dX7_sumOf_26 : decode cX7_sumOf 26 = .ok (.istore_n 3, 1) := by decide +kernel
theorem dX7_sumOf_27 : decode cX7_sumOf 27 = .ok (.iinc 4 1, 3) := by decide +kernel
theorem dX7_sumOf_30 : decode cX7_sumOf 30 = .ok (.goto (-25), 3) := by decide +kernel
theorem dX7_sumOf_33 : decode cX7_sumOf 33 = .ok (.iload_n 3, 1) := by decide +kernel
theorem dX7_sumOf_34 : decode cX7_sumOf 34 = .ok (.ireturn, 1) := by decide +kernel
theorem dX7_spread_0 : decode cX7_spread 0 = .ok (.aload_n 0, 1) := by decide +kernel
theorem dX7_spread_1 : decode cX7_spread 1 = .ok (.iload_n 1, 1) := by decide +kernel
theorem dX7_spread_2 : decode cX7_spread 2 = .ok (.iconst 0, 1) := by decide +kernel
theorem dX7_spread_3 : decode cX7_spread 3 = .ok (.iconst 0, 1) := by decide +kernel
theorem dX7_spread_4 : decode cX7_spread 4 = .ok (.invokevirtual 57, 3) := by decide +kernel
theorem dX7_spread_7 : decode cX7_spread 7 = .ok (.istore_n 2, 1) := by decide +kernel
theorem dX7_spread_8 : decode cX7_spread 8 = .ok (.iload_n 2, 1) := by decide +kernel
theorem dX7_spread_9 : decode cX7_spread 9 = .ok (.istore_n 3, 1) := by decide +kernel
theorem dX7_spread_10 : decode cX7_spread 10 = .ok (.iconst 1, 1) := by decide +kernel
theorem dX7_spread_11 : decode cX7_spread 11 = .ok (.istore 4, 2) := by decide +kernel
theorem dX7_spread_13 : decode cX7_spread 13 = .ok (.iload 4, 2) := by decide +kernel
theorem dX7_spread_15 : decode cX7_spread 15 = .ok (.aload_n 0, 1) := by decide +kernel
theorem dX7_spread_16 : decode cX7_spread 16 = .ok (.iload_n 1, 1) := by decide +kernel
theorem dX7_spread_17 : decode cX7_spread 17 = .ok (.iconst 1, 1) := by decide +kernel
theorem dX7_spread_18 : decode cX7_spread 18 = .ok (.invokevirtual 39, 3) := by decide +kernel
theorem dX7_spread_21 : decode cX7_spread 21 = .ok (.if_icmp .ge 45, 3) := by decide +kernel
theorem dX7_spread_24 : decode cX7_spread 24 = .ok (.aload_n 0, 1) := by decide +kernel
theorem dX7_spread_25 : decode cX7_spread 25 = .ok (.iload_n 1, 1) := by decide +kernel
theorem dX7_spread_26 : decode cX7_spread 26 = .ok (.iload 4, 2) := by decide +kernel
theorem dX7_spread_28 : decode cX7_spread 28 = .ok (.iconst 0, 1) := by decide +kernel
theorem dX7_spread_29 : decode cX7_spread 29 = .ok (.invokevirtual 57, 3) := by decide +kernel
theorem dX7_spread_32 : decode cX7_spread 32 = .ok (.istore 5, 2) := by decide +kernel
theorem dX7_spread_34 : decode cX7_spread 34 = .ok (.iload 5, 2) := by decide +kernel
theorem dX7_spread_36 : decode cX7_spread 36 = .ok (.iload_n 2, 1) := by decide +kernel
theorem dX7_spread_37 : decode cX7_spread 37 = .ok (.if_icmp .ge 8, 3) := by decide +kernel
theorem dX7_spread_40 : decode cX7_spread 40 = .ok (.iload 5, 2) := by decide +kernel
theorem dX7_spread_42 : decode cX7_spread 42 = .ok (.goto 4, 3) := by decide +kernel
theorem dX7_spread_45 : decode cX7_spread 45 = .ok (.iload_n 2, 1) := by decide +kernel
theorem dX7_spread_46 : decode cX7_spread 46 = .ok (.istore_n 2, 1) := by decide +kernel
theorem dX7_spread_47 : decode cX7_spread 47 = .ok (.iload 5, 2) := by decide +kernel
theorem dX7_spread_49 : decode cX7_spread 49 = .ok (.iload_n 3, 1) := by decide +kernel
theorem dX7_spread_50 : decode cX7_spread 50 = .ok (.if_icmp .le 8, 3) := by decide +kernel
theorem dX7_spread_53 : decode cX7_spread 53 = .ok (.iload 5, 2) := by decide +kernel
theorem dX7_spread_55 : decode cX7_spread 55 = .ok (.goto 4, 3) := by decide +kernel
theorem dX7_spread_58 : decode cX7_spread 58 = .ok (.iload_n 3, 1) := by decide +kernel
theorem dX7_spread_59 : decode cX7_spread 59 = .ok (.istore_n 3, 1) := by decide +kernel
theorem dX7_spread_60 : decode cX7_spread 60 = .ok (.iinc 4 1, 3) := by decide +kernel
theorem dX7_spread_63 : decode cX7_spread 63 = .ok (.goto (-50), 3) := by decide +kernel
theorem dX7_spread_66 : decode cX7_spread 66 = .ok (.iload_n 3, 1) := by decide +kernel
theorem dX7_spread_67 : decode cX7_spread 67 = .ok (.iload_n 2, 1) := by decide +kernel
theorem dX7_spread_68 : decode cX7_spread 68 = .ok (.isub, 1) := by decide +kernel
theorem dX7_spread_69 : decode cX7_spread 69 = .ok (.ireturn, 1) := by decide +kernel
theorem dX7_loopHeight_0 : decode cX7_loopHeight 0 = .ok (.aload_n 0, 1) := by decide +kernel
theorem dX7_loopHeight_1 : decode cX7_loopHeight 1 = .ok (.iload_n 1, 1) := by decide +kernel
theorem dX7_loopHeight_2 : decode cX7_loopHeight 2 = .ok (.iconst 2, 1) := by decide +kernel
theorem dX7_loopHeight_3 : decode cX7_loopHeight 3 = .ok (.invokevirtual 61, 3) := by decide +kernel
theorem dX7_loopHeight_6 : decode cX7_loopHeight 6 = .ok (.istore_n 2, 1) := by decide +kernel
theorem dX7_loopHeight_7 : decode cX7_loopHeight 7 = .ok (.iload_n 2, 1) := by decide +kernel
theorem dX7_loopHeight_8 : decode cX7_loopHeight 8 = .ok (.ifCond .ne 5, 3) := by decide +kernel
theorem dX7_loopHeight_11 : decode cX7_loopHeight 11 = .ok (.iconst 0, 1) := by decide +kernel
theorem dX7_loopHeight_12 : decode cX7_loopHeight 12 = .ok (.ireturn, 1) := by decide +kernel
theorem dX7_loopHeight_13 : decode cX7_loopHeight 13 = .ok (.iconst 0, 1) := by decide +kernel
theorem dX7_loopHeight_14 : decode cX7_loopHeight 14 = .ok (.istore_n 3, 1) := by decide +kernel
theorem dX7_loopHeight_15 : decode cX7_loopHeight 15 = .ok (.iconst 0, 1) := by decide +kernel
theorem dX7_loopHeight_16 : decode cX7_loopHeight 16 = .ok (.istore 4, 2) := by decide +kernel
theorem dX7_loopHeight_18 : decode cX7_loopHeight 18 = .ok (.iload 4, 2) := by decide +kernel
theorem dX7_loopHeight_20 : decode cX7_loopHeight 20 = .ok (.aload_n 0, 1) := by decide +kernel
theorem dX7_loopHeight_21 : decode cX7_loopHeight 21 = .ok (.iload_n 1, 1) := by decide +kernel
theorem dX7_loopHeight_22 : decode cX7_loopHeight 22 = .ok (.iconst 1, 1) := by decide +kernel
theorem dX7_loopHeight_23 : decode cX7_loopHeight 23 = .ok (.invokevirtual 39, 3) := by decide +kernel
theorem dX7_loopHeight_26 : decode cX7_loopHeight 26 = .ok (.if_icmp .ge 29, 3) := by decide +kernel
theorem dX7_loopHeight_29 : decode cX7_loopHeight 29 = .ok (.iload_n 3, 1) := by decide +kernel
theorem dX7_loopHeight_30 : decode cX7_loopHeight 30 = .ok (.aload_n 0, 1) := by decide +kernel
theorem dX7_loopHeight_31 : decode cX7_loopHeight 31 = .ok (.iload_n 1, 1) := by decide +kernel
theorem dX7_loopHeight_32 : decode cX7_loopHeight 32 = .ok (.iload 4, 2) := by decide +kernel
theorem dX7_loopHeight_34 : decode cX7_loopHeight 34 = .ok (.iconst 2, 1) := by decide +kernel
theorem dX7_loopHeight_35 : decode cX7_loopHeight 35 = .ok (.invokevirtual 57, 3) := by decide +kernel
theorem dX7_loopHeight_38 : decode cX7_loopHeight 38 = .ok (.aload_n 0, 1) := by decide +kernel
theorem dX7_loopHeight_39 : decode cX7_loopHeight 39 = .ok (.iload_n 1, 1) := by decide +kernel
theorem dX7_loopHeight_40 : decode cX7_loopHeight 40 = .ok (.iload 4, 2) := by decide +kernel
theorem dX7_loopHeight_42 : decode cX7_loopHeight 42 = .ok (.iconst 1, 1) := by decide +kernel
theorem dX7_loopHeight_43 : decode cX7_loopHeight 43 = .ok (.invokevirtual 57, 3) := by decide +kernel
theorem dX7_loopHeight_46 : decode cX7_loopHeight 46 = .ok (.imul, 1) := by decide +kernel
theorem dX7_loopHeight_47 : decode cX7_loopHeight 47 = .ok (.iadd, 1) := by decide +kernel
theorem dX7_loopHeight_48 : decode cX7_loopHeight 48 = .ok (.istore_n 3, 1) := by decide +kernel
theorem dX7_loopHeight_49 : decode cX7_loopHeight 49 = .ok (.iinc 4 1, 3) := by decide +kernel
theorem dX7_loopHeight_52 : decode cX7_loopHeight 52 = .ok (.goto (-34), 3) := by decide +kernel
theorem dX7_loopHeight_55 : decode cX7_loopHeight 55 = .ok (.iload_n 3, 1) := by decide +kernel
theorem dX7_loopHeight_56 : decode cX7_loopHeight 56 = .ok (.iload_n 2, 1) := by decide +kernel
theorem dX7_loopHeight_57 : decode cX7_loopHeight 57 = .ok (.idiv, 1) := by decide +kernel
theorem dX7_loopHeight_58 : decode cX7_loopHeight 58 = .ok (.bipush 10, 2) := by decide +kernel
theorem dX7_loopHeight_60 : decode cX7_loopHeight 60 = .ok (.imul, 1) := by decide +kernel
theorem dX7_loopHeight_61 : decode cX7_loopHeight 61 = .ok (.aload_n 0, 1) := by decide +kernel
theorem dX7_loopHeight_62 : decode cX7_loopHeight 62 = .ok (.iload_n 1, 1) := by decide +kernel
theorem dX7_loopHeight_63 : decode cX7_loopHeight 63 = .ok (.iconst 1, 1) := by decide +kernel
theorem dX7_loopHeight_64 : decode cX7_loopHeight 64 = .ok (.invokevirtual 61, 3) := by decide +kernel
theorem dX7_loopHeight_67 : decode cX7_loopHeight 67 = .ok (.aload_n 0, 1) := by decide +kernel
theorem dX7_loopHeight_68 : decode cX7_loopHeight 68 = .ok (.iload_n 1, 1) := by decide +kernel
theorem dX7_loopHeight_69 : decode cX7_loopHeight 69 = .ok (.iconst 1, 1) := by decide +kernel
theorem dX7_loopHeight_70 : decode cX7_loopHeight 70 = .ok (.invokevirtual 39, 3) := by decide +kernel
theorem dX7_loopHeight_73 : decode cX7_loopHeight 73 = .ok (.idiv, 1) := by decide +kernel
theorem dX7_loopHeight_74 : decode cX7_loopHeight 74 = .ok (.idiv, 1) := by decide +kernel
theorem dX7_loopHeight_75 : decode cX7_loopHeight 75 = .ok (.ireturn, 1) := by decide +kernel
theorem dX7_unrest_0 : decode cX7_unrest 0 = .ok (.aload_n 0, 1) := by decide +kernel
theorem dX7_unrest_1 : decode cX7_unrest 1 = .ok (.iload_n 1, 1) := by decide +kernel
theorem dX7_unrest_2 : decode cX7_unrest 2 = .ok (.iconst 1, 1) := by decide +kernel
theorem dX7_unrest_3 : decode cX7_unrest 3 = .ok (.invokevirtual 39, 3) := by decide +kernel
theorem dX7_unrest_6 : decode cX7_unrest 6 = .ok (.istore_n 2, 1) := by decide +kernel
theorem dX7_unrest_7 : decode cX7_unrest 7 = .ok (.iconst 0, 1) := by decide +kernel
theorem dX7_unrest_8 : decode cX7_unrest 8 = .ok (.istore_n 3, 1) := by decide +kernel
theorem dX7_unrest_9 : decode cX7_unrest 9 = .ok (.iconst 1, 1) := by decide +kernel
theorem dX7_unrest_10 : decode cX7_unrest 10 = .ok (.istore 4, 2) := by decide +kernel
theorem dX7_unrest_12 : decode cX7_unrest 12 = .ok (.iload 4, 2) := by decide +kernel
theorem dX7_unrest_14 : decode cX7_unrest 14 = .ok (.iload_n 2, 1) := by decide +kernel
theorem dX7_unrest_15 : decode cX7_unrest 15 = .ok (.if_icmp .ge 34, 3) := by decide +kernel
theorem dX7_unrest_18 : decode cX7_unrest 18 = .ok (.iload_n 3, 1) := by decide +kernel
theorem dX7_unrest_19 : decode cX7_unrest 19 = .ok (.aload_n 0, 1) := by decide +kernel
theorem dX7_unrest_20 : decode cX7_unrest 20 = .ok (.iload_n 1, 1) := by decide +kernel
theorem dX7_unrest_21 : decode cX7_unrest 21 = .ok (.iload 4, 2) := by decide +kernel
theorem dX7_unrest_23 : decode cX7_unrest 23 = .ok (.iconst 3, 1) := by decide +kernel
theorem dX7_unrest_24 : decode cX7_unrest 24 = .ok (.invokevirtual 57, 3) := by decide +kernel
theorem dX7_unrest_27 : decode cX7_unrest 27 = .ok (.aload_n 0, 1) := by decide +kernel
theorem dX7_unrest_28 : decode cX7_unrest 28 = .ok (.iload_n 1, 1) := by decide +kernel
theorem dX7_unrest_29 : decode cX7_unrest 29 = .ok (.iload 4, 2) := by decide +kernel
theorem dX7_unrest_31 : decode cX7_unrest 31 = .ok (.iconst 1, 1) := by decide +kernel
theorem dX7_unrest_32 : decode cX7_unrest 32 = .ok (.isub, 1) := by decide +kernel
theorem dX7_unrest_33 : decode cX7_unrest 33 = .ok (.iconst 3, 1) := by decide +kernel
theorem dX7_unrest_34 : decode cX7_unrest 34 = .ok (.invokevirtual 57, 3) := by decide +kernel
theorem dX7_unrest_37 : decode cX7_unrest 37 = .ok (.isub, 1) := by decide +kernel
theorem dX7_unrest_38 : decode cX7_unrest 38 = .ok (.invokestatic 64, 3) := by decide +kernel
theorem dX7_unrest_41 : decode cX7_unrest 41 = .ok (.iadd, 1) := by decide +kernel
theorem dX7_unrest_42 : decode cX7_unrest 42 = .ok (.istore_n 3, 1) := by decide +kernel
theorem dX7_unrest_43 : decode cX7_unrest 43 = .ok (.iinc 4 1, 3) := by decide +kernel
theorem dX7_unrest_46 : decode cX7_unrest 46 = .ok (.goto (-34), 3) := by decide +kernel
theorem dX7_unrest_49 : decode cX7_unrest 49 = .ok (.iload_n 2, 1) := by decide +kernel
theorem dX7_unrest_50 : decode cX7_unrest 50 = .ok (.iconst 1, 1) := by decide +kernel
theorem dX7_unrest_51 : decode cX7_unrest 51 = .ok (.if_icmp .ne 7, 3) := by decide +kernel
theorem dX7_unrest_54 : decode cX7_unrest 54 = .ok (.iconst 0, 1) := by decide +kernel
theorem dX7_unrest_55 : decode cX7_unrest 55 = .ok (.goto 11, 3) := by decide +kernel
theorem dX7_unrest_58 : decode cX7_unrest 58 = .ok (.iload_n 3, 1) := by decide +kernel
theorem dX7_unrest_59 : decode cX7_unrest 59 = .ok (.bipush 10, 2) := by decide +kernel
theorem dX7_unrest_61 : decode cX7_unrest 61 = .ok (.imul, 1) := by decide +kernel
theorem dX7_unrest_62 : decode cX7_unrest 62 = .ok (.iload_n 2, 1) := by decide +kernel
theorem dX7_unrest_63 : decode cX7_unrest 63 = .ok (.iconst 1, 1) := by decide +kernel
theorem dX7_unrest_64 : decode cX7_unrest 64 = .ok (.isub, 1) := by decide +kernel
theorem dX7_unrest_65 : decode cX7_unrest 65 = .ok (.idiv, 1) := by decide +kernel
theorem dX7_unrest_66 : decode cX7_unrest 66 = .ok (.ireturn, 1) := by decide +kernel
theorem dX7_markOf_0 : decode cX7_markOf 0 = .ok (.iload_n 2, 1) := by decide +kernel
theorem dX7_markOf_1 : decode cX7_markOf 1 = .ok (.tableswitch 97 0 4 #[35, 51, 57, 63, 80], 35) := by decide +kernel
theorem dX7_markOf_36 : decode cX7_markOf 36 = .ok (.aload_n 0, 1) := by decide +kernel
theorem dX7_markOf_37 : decode cX7_markOf 37 = .ok (.iload_n 1, 1) := by decide +kernel
theorem dX7_markOf_38 : decode cX7_markOf 38 = .ok (.iconst 0, 1) := by decide +kernel
theorem dX7_markOf_39 : decode cX7_markOf 39 = .ok (.invokevirtual 61, 3) := by decide +kernel
theorem dX7_markOf_42 : decode cX7_markOf 42 = .ok (.aload_n 0, 1) := by decide +kernel
theorem dX7_markOf_43 : decode cX7_markOf 43 = .ok (.iload_n 1, 1) := by decide +kernel
theorem dX7_markOf_44 : decode cX7_markOf 44 = .ok (.iconst 1, 1) := by decide +kernel
theorem dX7_markOf_45 : decode cX7_markOf 45 = .ok (.invokevirtual 39, 3) := by decide +kernel
theorem dX7_markOf_48 : decode cX7_markOf 48 = .ok (.invokestatic 67, 3) := by decide +kernel
theorem dX7_markOf_51 : decode cX7_markOf 51 = .ok (.ireturn, 1) := by decide +kernel
theorem dX7_markOf_52 : decode cX7_markOf 52 = .ok (.aload_n 0, 1) := by decide +kernel
theorem dX7_markOf_53 : decode cX7_markOf 53 = .ok (.iload_n 1, 1) := by decide +kernel
theorem dX7_markOf_54 : decode cX7_markOf 54 = .ok (.invokevirtual 70, 3) := by decide +kernel
theorem dX7_markOf_57 : decode cX7_markOf 57 = .ok (.ireturn, 1) := by decide +kernel
theorem dX7_markOf_58 : decode cX7_markOf 58 = .ok (.aload_n 0, 1) := by decide +kernel
theorem dX7_markOf_59 : decode cX7_markOf 59 = .ok (.iload_n 1, 1) := by decide +kernel
theorem dX7_markOf_60 : decode cX7_markOf 60 = .ok (.invokevirtual 73, 3) := by decide +kernel
theorem dX7_markOf_63 : decode cX7_markOf 63 = .ok (.ireturn, 1) := by decide +kernel
theorem dX7_markOf_64 : decode cX7_markOf 64 = .ok (.bipush 100, 2) := by decide +kernel
theorem dX7_markOf_66 : decode cX7_markOf 66 = .ok (.aload_n 0, 1) := by decide +kernel
theorem dX7_markOf_67 : decode cX7_markOf 67 = .ok (.iload_n 1, 1) := by decide +kernel
theorem dX7_markOf_68 : decode cX7_markOf 68 = .ok (.iconst 2, 1) := by decide +kernel
theorem dX7_markOf_69 : decode cX7_markOf 69 = .ok (.invokevirtual 61, 3) := by decide +kernel
theorem dX7_markOf_72 : decode cX7_markOf 72 = .ok (.imul, 1) := by decide +kernel
theorem dX7_markOf_73 : decode cX7_markOf 73 = .ok (.aload_n 0, 1) := by decide +kernel
theorem dX7_markOf_74 : decode cX7_markOf 74 = .ok (.iload_n 1, 1) := by decide +kernel
theorem dX7_markOf_75 : decode cX7_markOf 75 = .ok (.iconst 1, 1) := by decide +kernel
theorem dX7_markOf_76 : decode cX7_markOf 76 = .ok (.invokevirtual 39, 3) := by decide +kernel
theorem dX7_markOf_79 : decode cX7_markOf 79 = .ok (.idiv, 1) := by decide +kernel
theorem dX7_markOf_80 : decode cX7_markOf 80 = .ok (.ireturn, 1) := by decide +kernel
theorem dX7_markOf_81 : decode cX7_markOf 81 = .ok (.bipush 10, 2) := by decide +kernel
theorem dX7_markOf_83 : decode cX7_markOf 83 = .ok (.aload_n 0, 1) := by decide +kernel
theorem dX7_markOf_84 : decode cX7_markOf 84 = .ok (.iload_n 1, 1) := by decide +kernel
theorem dX7_markOf_85 : decode cX7_markOf 85 = .ok (.iconst 3, 1) := by decide +kernel
theorem dX7_markOf_86 : decode cX7_markOf 86 = .ok (.invokevirtual 61, 3) := by decide +kernel
theorem dX7_markOf_89 : decode cX7_markOf 89 = .ok (.imul, 1) := by decide +kernel
theorem dX7_markOf_90 : decode cX7_markOf 90 = .ok (.aload_n 0, 1) := by decide +kernel
theorem dX7_markOf_91 : decode cX7_markOf 91 = .ok (.iload_n 1, 1) := by decide +kernel
theorem dX7_markOf_92 : decode cX7_markOf 92 = .ok (.iconst 1, 1) := by decide +kernel
theorem dX7_markOf_93 : decode cX7_markOf 93 = .ok (.invokevirtual 39, 3) := by decide +kernel
theorem dX7_markOf_96 : decode cX7_markOf 96 = .ok (.idiv, 1) := by decide +kernel
theorem dX7_markOf_97 : decode cX7_markOf 97 = .ok (.ireturn, 1) := by decide +kernel
theorem dX7_markOf_98 : decode cX7_markOf 98 = .ok (.aload_n 0, 1) := by decide +kernel
theorem dX7_markOf_99 : decode cX7_markOf 99 = .ok (.iload_n 1, 1) := by decide +kernel
theorem dX7_markOf_100 : decode cX7_markOf 100 = .ok (.invokevirtual 76, 3) := by decide +kernel
theorem dX7_markOf_103 : decode cX7_markOf 103 = .ok (.ireturn, 1) := by decide +kernel
theorem dX7_hasFaded_0 : decode cX7_hasFaded 0 = .ok (.aload_n 0, 1) := by decide +kernel
theorem dX7_hasFaded_1 : decode cX7_hasFaded 1 = .ok (.iload_n 1, 1) := by decide +kernel
theorem dX7_hasFaded_2 : decode cX7_hasFaded 2 = .ok (.iconst 0, 1) := by decide +kernel
theorem dX7_hasFaded_3 : decode cX7_hasFaded 3 = .ok (.invokevirtual 39, 3) := by decide +kernel
theorem dX7_hasFaded_6 : decode cX7_hasFaded 6 = .ok (.aload_n 0, 1) := by decide +kernel
theorem dX7_hasFaded_7 : decode cX7_hasFaded 7 = .ok (.getfield 7, 3) := by decide +kernel
theorem dX7_hasFaded_10 : decode cX7_hasFaded 10 = .ok (.bipush 6, 2) := by decide +kernel
theorem dX7_hasFaded_12 : decode cX7_hasFaded 12 = .ok (.iaload, 1) := by decide +kernel
theorem dX7_hasFaded_13 : decode cX7_hasFaded 13 = .ok (.if_icmp .lt 7, 3) := by decide +kernel
theorem dX7_hasFaded_16 : decode cX7_hasFaded 16 = .ok (.iconst 1, 1) := by decide +kernel
theorem dX7_hasFaded_17 : decode cX7_hasFaded 17 = .ok (.goto 4, 3) := by decide +kernel
theorem dX7_hasFaded_20 : decode cX7_hasFaded 20 = .ok (.iconst 0, 1) := by decide +kernel
theorem dX7_hasFaded_21 : decode cX7_hasFaded 21 = .ok (.ireturn, 1) := by decide +kernel
theorem dX7_isGone_0 : decode cX7_isGone 0 = .ok (.iload_n 3, 1) := by decide +kernel
theorem dX7_isGone_1 : decode cX7_isGone 1 = .ok (.iconst 2, 1) := by decide +kernel
theorem dX7_isGone_2 : decode cX7_isGone 2 = .ok (.iconst 3, 1) := by decide +kernel
theorem dX7_isGone_3 : decode cX7_isGone 3 = .ok (.invokestatic 35, 3) := by decide +kernel
theorem dX7_isGone_6 : decode cX7_isGone 6 = .ok (.ifCond .eq 23, 3) := by decide +kernel
theorem dX7_isGone_9 : decode cX7_isGone 9 = .ok (.aload_n 0, 1) := by decide +kernel
theorem dX7_isGone_10 : decode cX7_isGone 10 = .ok (.iload_n 1, 1) := by decide +kernel
theorem dX7_isGone_11 : decode cX7_isGone 11 = .ok (.invokevirtual 79, 3) := by decide +kernel
theorem dX7_isGone_14 : decode cX7_isGone 14 = .ok (.ifCond .ne 11, 3) := by decide +kernel
theorem dX7_isGone_17 : decode cX7_isGone 17 = .ok (.aload_n 0, 1) := by decide +kernel
theorem dX7_isGone_18 : decode cX7_isGone 18 = .ok (.iload_n 2, 1) := by decide +kernel
theorem dX7_isGone_19 : decode cX7_isGone 19 = .ok (.invokevirtual 79, 3) := by decide +kernel
theorem dX7_isGone_22 : decode cX7_isGone 22 = .ok (.ifCond .eq 7, 3) := by decide +kernel
theorem dX7_isGone_25 : decode cX7_isGone 25 = .ok (.iconst 1, 1) := by decide +kernel
theorem dX7_isGone_26 : decode cX7_isGone 26 = .ok (.goto 4, 3) := by decide +kernel
theorem dX7_isGone_29 : decode cX7_isGone 29 = .ok (.iconst 0, 1) := by decide +kernel
theorem dX7_isGone_30 : decode cX7_isGone 30 = .ok (.ireturn, 1) := by decide +kernel
theorem dX7_differ_0 : decode cX7_differ 0 = .ok (.aload_n 0, 1) := by decide +kernel
theorem dX7_differ_1 : decode cX7_differ 1 = .ok (.iload_n 1, 1) := by decide +kernel
theorem dX7_differ_2 : decode cX7_differ 2 = .ok (.iload_n 3, 1) := by decide +kernel
theorem dX7_differ_3 : decode cX7_differ 3 = .ok (.invokevirtual 83, 3) := by decide +kernel
theorem dX7_differ_6 : decode cX7_differ 6 = .ok (.aload_n 0, 1) := by decide +kernel
theorem dX7_differ_7 : decode cX7_differ 7 = .ok (.iload_n 2, 1) := by decide +kernel
theorem dX7_differ_8 : decode cX7_differ 8 = .ok (.iload_n 3, 1) := by decide +kernel
theorem dX7_differ_9 : decode cX7_differ 9 = .ok (.invokevirtual 83, 3) := by decide +kernel
theorem dX7_differ_12 : decode cX7_differ 12 = .ok (.isub, 1) := by decide +kernel
theorem dX7_differ_13 : decode cX7_differ 13 = .ok (.invokestatic 64, 3) := by decide +kernel
theorem dX7_differ_16 : decode cX7_differ 16 = .ok (.aload_n 0, 1) := by decide +kernel
theorem dX7_differ_17 : decode cX7_differ 17 = .ok (.iload_n 1, 1) := by decide +kernel
theorem dX7_differ_18 : decode cX7_differ 18 = .ok (.iconst 0, 1) := by decide +kernel
theorem dX7_differ_19 : decode cX7_differ 19 = .ok (.invokevirtual 39, 3) := by decide +kernel
theorem dX7_differ_22 : decode cX7_differ 22 = .ok (.aload_n 0, 1) := by decide +kernel
theorem dX7_differ_23 : decode cX7_differ 23 = .ok (.iload_n 2, 1) := by decide +kernel
theorem dX7_differ_24 : decode cX7_differ 24 = .ok (.iconst 0, 1) := by decide +kernel
theorem dX7_differ_25 : decode cX7_differ 25 = .ok (.invokevirtual 39, 3) := by decide +kernel
theorem dX7_differ_28 : decode cX7_differ 28 = .ok (.isub, 1) := by decide +kernel
theorem dX7_differ_29 : decode cX7_differ 29 = .ok (.invokestatic 64, 3) := by decide +kernel
theorem dX7_differ_32 : decode cX7_differ 32 = .ok (.bipush 10, 2) := by decide +kernel
theorem dX7_differ_34 : decode cX7_differ 34 = .ok (.idiv, 1) := by decide +kernel
theorem dX7_differ_35 : decode cX7_differ 35 = .ok (.isub, 1) := by decide +kernel
theorem dX7_differ_36 : decode cX7_differ 36 = .ok (.ireturn, 1) := by decide +kernel
theorem dX7_agreeing_0 : decode cX7_agreeing 0 = .ok (.iconst 0, 1) := by decide +kernel
theorem dX7_agreeing_1 : decode cX7_agreeing 1 = .ok (.istore_n 3, 1) := by decide +kernel
theorem dX7_agreeing_2 : decode cX7_agreeing 2 = .ok (.iconst 0, 1) := by decide +kernel
theorem dX7_agreeing_3 : decode cX7_agreeing 3 = .ok (.istore 4, 2) := by decide +kernel
theorem dX7_agreeing_5 : decode cX7_agreeing 5 = .ok (.iload 4, 2) := by decide +kernel
theorem dX7_agreeing_7 : decode cX7_agreeing 7 = .ok (.bipush 6, 2) := by decide +kernel
theorem dX7_agreeing_9 : decode cX7_agreeing 9 = .ok (.if_icmp .ge 51, 3) := by decide +kernel
theorem dX7_agreeing_12 : decode cX7_agreeing 12 = .ok (.iload_n 3, 1) := by decide +kernel
theorem dX7_agreeing_13 : decode cX7_agreeing 13 = .ok (.aload_n 0, 1) := by decide +kernel
theorem dX7_agreeing_14 : decode cX7_agreeing 14 = .ok (.iload_n 1, 1) := by decide +kernel
theorem dX7_agreeing_15 : decode cX7_agreeing 15 = .ok (.iload_n 2, 1) := by decide +kernel
theorem dX7_agreeing_16 : decode cX7_agreeing 16 = .ok (.iload 4, 2) := by decide +kernel
theorem dX7_agreeing_18 : decode cX7_agreeing 18 = .ok (.invokevirtual 86, 3) := by decide +kernel
theorem dX7_agreeing_21 : decode cX7_agreeing 21 = .ok (.ifCond .ne 30, 3) := by decide +kernel
theorem dX7_agreeing_24 : decode cX7_agreeing 24 = .ok (.aload_n 0, 1) := by decide +kernel
theorem dX7_agreeing_25 : decode cX7_agreeing 25 = .ok (.iload_n 1, 1) := by decide +kernel
theorem dX7_agreeing_26 : decode cX7_agreeing 26 = .ok (.iload_n 2, 1) := by decide +kernel
theorem dX7_agreeing_27 : decode cX7_agreeing 27 = .ok (.iload 4, 2) := by decide +kernel
theorem dX7_agreeing_29 : decode cX7_agreeing 29 = .ok (.invokevirtual 89, 3) := by decide +kernel
theorem dX7_agreeing_32 : decode cX7_agreeing 32 = .ok (.aload_n 0, 1) := by decide +kernel
theorem dX7_agreeing_33 : decode cX7_agreeing 33 = .ok (.getfield 7, 3) := by decide +kernel
theorem dX7_agreeing_36 : decode cX7_agreeing 36 = .ok (.iconst 0, 1) := by decide +kernel
theorem dX7_agreeing_37 : decode cX7_agreeing 37 = .ok (.iload 4, 2) := by decide +kernel
theorem dX7_agreeing_39 : decode cX7_agreeing 39 = .ok (.iadd, 1) := by decide +kernel
theorem dX7_agreeing_40 : decode cX7_agreeing 40 = .ok (.iaload, 1) := by decide +kernel
theorem dX7_agreeing_41 : decode cX7_agreeing 41 = .ok (.if_icmp .gt 10, 3) := by decide +kernel
theorem dX7_agreeing_44 : decode cX7_agreeing 44 = .ok (.iconst 1, 1) := by decide +kernel
theorem dX7_agreeing_45 : decode cX7_agreeing 45 = .ok (.iload 4, 2) := by decide +kernel
theorem dX7_agreeing_47 : decode cX7_agreeing 47 = .ok (.ishl, 1) := by decide +kernel
theorem dX7_agreeing_48 : decode cX7_agreeing 48 = .ok (.goto 4, 3) := by decide +kernel
theorem dX7_agreeing_51 : decode cX7_agreeing 51 = .ok (.iconst 0, 1) := by decide +kernel
theorem dX7_agreeing_52 : decode cX7_agreeing 52 = .ok (.ior, 1) := by decide +kernel
theorem dX7_agreeing_53 : decode cX7_agreeing 53 = .ok (.istore_n 3, 1) := by decide +kernel
theorem dX7_agreeing_54 : decode cX7_agreeing 54 = .ok (.iinc 4 1, 3) := by decide +kernel
theorem dX7_agreeing_57 : decode cX7_agreeing 57 = .ok (.goto (-52), 3) := by decide +kernel
theorem dX7_agreeing_60 : decode cX7_agreeing 60 = .ok (.iload_n 3, 1) := by decide +kernel
theorem dX7_agreeing_61 : decode cX7_agreeing 61 = .ok (.ireturn, 1) := by decide +kernel
theorem dX7_ones_0 : decode cX7_ones 0 = .ok (.iconst 0, 1) := by decide +kernel
theorem dX7_ones_1 : decode cX7_ones 1 = .ok (.istore_n 1, 1) := by decide +kernel
theorem dX7_ones_2 : decode cX7_ones 2 = .ok (.iconst 0, 1) := by decide +kernel
theorem dX7_ones_3 : decode cX7_ones 3 = .ok (.istore_n 2, 1) := by decide +kernel
theorem dX7_ones_4 : decode cX7_ones 4 = .ok (.iload_n 2, 1) := by decide +kernel
theorem dX7_ones_5 : decode cX7_ones 5 = .ok (.bipush 8, 2) := by decide +kernel
theorem dX7_ones_7 : decode cX7_ones 7 = .ok (.if_icmp .ge 17, 3) := by decide +kernel
theorem dX7_ones_10 : decode cX7_ones 10 = .ok (.iload_n 1, 1) := by decide +kernel
theorem dX7_ones_11 : decode cX7_ones 11 = .ok (.iload_n 0, 1) := by decide +kernel
theorem dX7_ones_12 : decode cX7_ones 12 = .ok (.iload_n 2, 1) := by decide +kernel
theorem dX7_ones_13 : decode cX7_ones 13 = .ok (.ishr, 1) := by decide +kernel
theorem dX7_ones_14 : decode cX7_ones 14 = .ok (.iconst 1, 1) := by decide +kernel
theorem dX7_ones_15 : decode cX7_ones 15 = .ok (.iand, 1) := by decide +kernel
theorem dX7_ones_16 : decode cX7_ones 16 = .ok (.iadd, 1) := by decide +kernel
theorem dX7_ones_17 : decode cX7_ones 17 = .ok (.istore_n 1, 1) := by decide +kernel
theorem dX7_ones_18 : decode cX7_ones 18 = .ok (.iinc 2 1, 3) := by decide +kernel
theorem dX7_ones_21 : decode cX7_ones 21 = .ok (.goto (-17), 3) := by decide +kernel
theorem dX7_ones_24 : decode cX7_ones 24 = .ok (.iload_n 1, 1) := by decide +kernel
theorem dX7_ones_25 : decode cX7_ones 25 = .ok (.ireturn, 1) := by decide +kernel
theorem dX7_likeness_0 : decode cX7_likeness 0 = .ok (.aload_n 0, 1) := by decide +kernel
theorem dX7_likeness_1 : decode cX7_likeness 1 = .ok (.iload_n 1, 1) := by decide +kernel
theorem dX7_likeness_2 : decode cX7_likeness 2 = .ok (.iload_n 2, 1) := by decide +kernel
theorem dX7_likeness_3 : decode cX7_likeness 3 = .ok (.invokevirtual 92, 3) := by decide +kernel
theorem dX7_likeness_6 : decode cX7_likeness 6 = .ok (.invokestatic 95, 3) := by decide +kernel
theorem dX7_likeness_9 : decode cX7_likeness 9 = .ok (.ireturn, 1) := by decide +kernel
theorem dX7_trembles_0 : decode cX7_trembles 0 = .ok (.aload_n 0, 1) := by decide +kernel
theorem dX7_trembles_1 : decode cX7_trembles 1 = .ok (.iload_n 1, 1) := by decide +kernel
theorem dX7_trembles_2 : decode cX7_trembles 2 = .ok (.iconst 4, 1) := by decide +kernel
theorem dX7_trembles_3 : decode cX7_trembles 3 = .ok (.invokevirtual 61, 3) := by decide +kernel
theorem dX7_trembles_6 : decode cX7_trembles 6 = .ok (.aload_n 0, 1) := by decide +kernel
theorem dX7_trembles_7 : decode cX7_trembles 7 = .ok (.iload_n 1, 1) := by decide +kernel
theorem dX7_trembles_8 : decode cX7_trembles 8 = .ok (.iconst 1, 1) := by decide +kernel
theorem dX7_trembles_9 : decode cX7_trembles 9 = .ok (.invokevirtual 39, 3) := by decide +kernel
theorem dX7_trembles_12 : decode cX7_trembles 12 = .ok (.aload_n 0, 1) := by decide +kernel
theorem dX7_trembles_13 : decode cX7_trembles 13 = .ok (.getfield 7, 3) := by decide +kernel
theorem dX7_trembles_16 : decode cX7_trembles 16 = .ok (.bipush 7, 2) := by decide +kernel
theorem dX7_trembles_18 : decode cX7_trembles 18 = .ok (.iaload, 1) := by decide +kernel
theorem dX7_trembles_19 : decode cX7_trembles 19 = .ok (.imul, 1) := by decide +kernel
theorem dX7_trembles_20 : decode cX7_trembles 20 = .ok (.if_icmp .le 7, 3) := by decide +kernel
theorem dX7_trembles_23 : decode cX7_trembles 23 = .ok (.iconst 1, 1) := by decide +kernel
theorem dX7_trembles_24 : decode cX7_trembles 24 = .ok (.goto 4, 3) := by decide +kernel
theorem dX7_trembles_27 : decode cX7_trembles 27 = .ok (.iconst 0, 1) := by decide +kernel
theorem dX7_trembles_28 : decode cX7_trembles 28 = .ok (.ireturn, 1) := by decide +kernel
theorem dX7_join_0 : decode cX7_join 0 = .ok (.aload_n 0, 1) := by decide +kernel
theorem dX7_join_1 : decode cX7_join 1 = .ok (.getfield 28, 3) := by decide +kernel
theorem dX7_join_4 : decode cX7_join 4 = .ok (.iload_n 1, 1) := by decide +kernel
theorem dX7_join_5 : decode cX7_join 5 = .ok (.iaload, 1) := by decide +kernel
theorem dX7_join_6 : decode cX7_join 6 = .ok (.istore_n 3, 1) := by decide +kernel
theorem dX7_join_7 : decode cX7_join 7 = .ok (.aload_n 0, 1) := by decide +kernel
theorem dX7_join_8 : decode cX7_join 8 = .ok (.getfield 28, 3) := by decide +kernel
theorem dX7_join_11 : decode cX7_join 11 = .ok (.iload_n 2, 1) := by decide +kernel
theorem dX7_join_12 : decode cX7_join 12 = .ok (.iaload, 1) := by decide +kernel
theorem dX7_join_13 : decode cX7_join 13 = .ok (.istore 4, 2) := by decide +kernel
theorem dX7_join_15 : decode cX7_join 15 = .ok (.iload_n 3, 1) := by decide +kernel
theorem dX7_join_16 : decode cX7_join 16 = .ok (.iload 4, 2) := by decide +kernel
theorem dX7_join_18 : decode cX7_join 18 = .ok (.if_icmp .ge 7, 3) := by decide +kernel
theorem dX7_join_21 : decode cX7_join 21 = .ok (.iload_n 3, 1) := by decide +kernel
theorem dX7_join_22 : decode cX7_join 22 = .ok (.goto 5, 3) := by decide +kernel
theorem dX7_join_25 : decode cX7_join 25 = .ok (.iload 4, 2) := by decide +kernel
theorem dX7_join_27 : decode cX7_join 27 = .ok (.istore 5, 2) := by decide +kernel
theorem dX7_join_29 : decode cX7_join 29 = .ok (.iconst 0, 1) := by decide +kernel
theorem dX7_join_30 : decode cX7_join 30 = .ok (.istore 6, 2) := by decide +kernel
theorem dX7_join_32 : decode cX7_join 32 = .ok (.iload 6, 2) := by decide +kernel
theorem dX7_join_34 : decode cX7_join 34 = .ok (.aload_n 0, 1) := by decide +kernel
theorem dX7_join_35 : decode cX7_join 35 = .ok (.getfield 7, 3) := by decide +kernel
theorem dX7_join_38 : decode cX7_join 38 = .ok (.bipush 9, 2) := by decide +kernel
theorem dX7_join_40 : decode cX7_join 40 = .ok (.iaload, 1) := by decide +kernel
theorem dX7_join_41 : decode cX7_join 41 = .ok (.if_icmp .ge 51, 3) := by decide +kernel
theorem dX7_join_44 : decode cX7_join 44 = .ok (.aload_n 0, 1) := by decide +kernel
theorem dX7_join_45 : decode cX7_join 45 = .ok (.getfield 28, 3) := by decide +kernel
theorem dX7_join_48 : decode cX7_join 48 = .ok (.iload 6, 2) := by decide +kernel
theorem dX7_join_50 : decode cX7_join 50 = .ok (.aload_n 0, 1) := by decide +kernel
theorem dX7_join_51 : decode cX7_join 51 = .ok (.getfield 28, 3) := by decide +kernel
theorem dX7_join_54 : decode cX7_join 54 = .ok (.iload 6, 2) := by decide +kernel
theorem dX7_join_56 : decode cX7_join 56 = .ok (.iaload, 1) := by decide +kernel
theorem dX7_join_57 : decode cX7_join 57 = .ok (.iload_n 3, 1) := by decide +kernel
theorem dX7_join_58 : decode cX7_join 58 = .ok (.if_icmp .eq 15, 3) := by decide +kernel
theorem dX7_join_61 : decode cX7_join 61 = .ok (.aload_n 0, 1) := by decide +kernel
theorem dX7_join_62 : decode cX7_join 62 = .ok (.getfield 28, 3) := by decide +kernel
theorem dX7_join_65 : decode cX7_join 65 = .ok (.iload 6, 2) := by decide +kernel
theorem dX7_join_67 : decode cX7_join 67 = .ok (.iaload, 1) := by decide +kernel
theorem dX7_join_68 : decode cX7_join 68 = .ok (.iload 4, 2) := by decide +kernel
theorem dX7_join_70 : decode cX7_join 70 = .ok (.if_icmp .ne 8, 3) := by decide +kernel
theorem dX7_join_73 : decode cX7_join 73 = .ok (.iload 5, 2) := by decide +kernel
theorem dX7_join_75 : decode cX7_join 75 = .ok (.goto 10, 3) := by decide +kernel
theorem dX7_join_78 : decode cX7_join 78 = .ok (.aload_n 0, 1) := by decide +kernel
theorem dX7_join_79 : decode cX7_join 79 = .ok (.getfield 28, 3) := by decide +kernel
theorem dX7_join_82 : decode cX7_join 82 = .ok (.iload 6, 2) := by decide +kernel
theorem dX7_join_84 : decode cX7_join 84 = .ok (.iaload, 1) := by decide +kernel
theorem dX7_join_85 : decode cX7_join 85 = .ok (.iastore, 1) := by decide +kernel
theorem dX7_join_86 : decode cX7_join 86 = .ok (.iinc 6 1, 3) := by decide +kernel
theorem dX7_join_89 : decode cX7_join 89 = .ok (.goto (-57), 3) := by decide +kernel
theorem dX7_join_92 : decode cX7_join 92 = .ok (.return_, 1) := by decide +kernel
theorem dX7_layHands_0 : decode cX7_layHands 0 = .ok (.iconst 0, 1) := by decide +kernel
theorem dX7_layHands_1 : decode cX7_layHands 1 = .ok (.istore_n 2, 1) := by decide +kernel
theorem dX7_layHands_2 : decode cX7_layHands 2 = .ok (.iload_n 2, 1) := by decide +kernel
theorem dX7_layHands_3 : decode cX7_layHands 3 = .ok (.bipush 8, 2) := by decide +kernel
theorem dX7_layHands_5 : decode cX7_layHands 5 = .ok (.if_icmp .ge 16, 3) := by decide +kernel
theorem dX7_layHands_8 : decode cX7_layHands 8 = .ok (.aload_n 0, 1) := by decide +kernel
theorem dX7_layHands_9 : decode cX7_layHands 9 = .ok (.getfield 28, 3) := by decide +kernel
theorem dX7_layHands_12 : decode cX7_layHands 12 = .ok (.iload_n 2, 1) := by decide +kernel
theorem dX7_layHands_13 : decode cX7_layHands 13 = .ok (.iload_n 2, 1) := by decide +kernel
theorem dX7_layHands_14 : decode cX7_layHands 14 = .ok (.iastore, 1) := by decide +kernel
theorem dX7_layHands_15 : decode cX7_layHands 15 = .ok (.iinc 2 1, 3) := by decide +kernel
theorem dX7_layHands_18 : decode cX7_layHands 18 = .ok (.goto (-16), 3) := by decide +kernel
theorem dX7_layHands_21 : decode cX7_layHands 21 = .ok (.iconst 0, 1) := by decide +kernel
theorem dX7_layHands_22 : decode cX7_layHands 22 = .ok (.istore_n 2, 1) := by decide +kernel
theorem dX7_layHands_23 : decode cX7_layHands 23 = .ok (.iload_n 2, 1) := by decide +kernel
theorem dX7_layHands_24 : decode cX7_layHands 24 = .ok (.aload_n 0, 1) := by decide +kernel
theorem dX7_layHands_25 : decode cX7_layHands 25 = .ok (.getfield 7, 3) := by decide +kernel
theorem dX7_layHands_28 : decode cX7_layHands 28 = .ok (.bipush 10, 2) := by decide +kernel
theorem dX7_layHands_30 : decode cX7_layHands 30 = .ok (.iaload, 1) := by decide +kernel
theorem dX7_layHands_31 : decode cX7_layHands 31 = .ok (.if_icmp .ge 40, 3) := by decide +kernel
theorem dX7_layHands_34 : decode cX7_layHands 34 = .ok (.iload_n 2, 1) := by decide +kernel
theorem dX7_layHands_35 : decode cX7_layHands 35 = .ok (.iload_n 1, 1) := by decide +kernel
theorem dX7_layHands_36 : decode cX7_layHands 36 = .ok (.if_icmp .eq 29, 3) := by decide +kernel
theorem dX7_layHands_39 : decode cX7_layHands 39 = .ok (.aload_n 0, 1) := by decide +kernel
theorem dX7_layHands_40 : decode cX7_layHands 40 = .ok (.iload_n 2, 1) := by decide +kernel
theorem dX7_layHands_41 : decode cX7_layHands 41 = .ok (.iconst 2, 1) := by decide +kernel
theorem dX7_layHands_42 : decode cX7_layHands 42 = .ok (.invokevirtual 98, 3) := by decide +kernel
theorem dX7_layHands_45 : decode cX7_layHands 45 = .ok (.iconst 1, 1) := by decide +kernel
theorem dX7_layHands_46 : decode cX7_layHands 46 = .ok (.if_icmp .ne 19, 3) := by decide +kernel
theorem dX7_layHands_49 : decode cX7_layHands 49 = .ok (.aload_n 0, 1) := by decide +kernel
theorem dX7_layHands_50 : decode cX7_layHands 50 = .ok (.aload_n 0, 1) := by decide +kernel
theorem dX7_layHands_51 : decode cX7_layHands 51 = .ok (.iload_n 2, 1) := by decide +kernel
theorem dX7_layHands_52 : decode cX7_layHands 52 = .ok (.iconst 0, 1) := by decide +kernel
theorem dX7_layHands_53 : decode cX7_layHands 53 = .ok (.invokevirtual 98, 3) := by decide +kernel
theorem dX7_layHands_56 : decode cX7_layHands 56 = .ok (.aload_n 0, 1) := by decide +kernel
theorem dX7_layHands_57 : decode cX7_layHands 57 = .ok (.iload_n 2, 1) := by decide +kernel
theorem dX7_layHands_58 : decode cX7_layHands 58 = .ok (.iconst 1, 1) := by decide +kernel
theorem dX7_layHands_59 : decode cX7_layHands 59 = .ok (.invokevirtual 98, 3) := by decide +kernel
theorem dX7_layHands_62 : decode cX7_layHands 62 = .ok (.invokevirtual 101, 3) := by decide +kernel
theorem dX7_layHands_65 : decode cX7_layHands 65 = .ok (.iinc 2 1, 3) := by decide +kernel
theorem dX7_layHands_68 : decode cX7_layHands 68 = .ok (.goto (-45), 3) := by decide +kernel
theorem dX7_layHands_71 : decode cX7_layHands 71 = .ok (.return_, 1) := by decide +kernel
theorem dX7_hands_0 : decode cX7_hands 0 = .ok (.aload_n 0, 1) := by decide +kernel
theorem dX7_hands_1 : decode cX7_hands 1 = .ok (.iconst (-1), 1) := by decide +kernel
theorem dX7_hands_2 : decode cX7_hands 2 = .ok (.invokevirtual 105, 3) := by decide +kernel
theorem dX7_hands_5 : decode cX7_hands 5 = .ok (.iconst 0, 1) := by decide +kernel
theorem dX7_hands_6 : decode cX7_hands 6 = .ok (.istore_n 1, 1) := by decide +kernel
theorem dX7_hands_7 : decode cX7_hands 7 = .ok (.iconst 0, 1) := by decide +kernel
theorem dX7_hands_8 : decode cX7_hands 8 = .ok (.istore_n 2, 1) := by decide +kernel
theorem dX7_hands_9 : decode cX7_hands 9 = .ok (.iload_n 2, 1) := by decide +kernel
theorem dX7_hands_10 : decode cX7_hands 10 = .ok (.aload_n 0, 1) := by decide +kernel
theorem dX7_hands_11 : decode cX7_hands 11 = .ok (.getfield 7, 3) := by decide +kernel
theorem dX7_hands_14 : decode cX7_hands 14 = .ok (.bipush 9, 2) := by decide +kernel
theorem dX7_hands_16 : decode cX7_hands 16 = .ok (.iaload, 1) := by decide +kernel
theorem dX7_hands_17 : decode cX7_hands 17 = .ok (.if_icmp .ge 27, 3) := by decide +kernel
theorem dX7_hands_20 : decode cX7_hands 20 = .ok (.iload_n 1, 1) := by decide +kernel
theorem dX7_hands_21 : decode cX7_hands 21 = .ok (.aload_n 0, 1) := by decide +kernel
theorem dX7_hands_22 : decode cX7_hands 22 = .ok (.getfield 28, 3) := by decide +kernel
theorem dX7_hands_25 : decode cX7_hands 25 = .ok (.iload_n 2, 1) := by decide +kernel
theorem dX7_hands_26 : decode cX7_hands 26 = .ok (.iaload, 1) := by decide +kernel
theorem dX7_hands_27 : decode cX7_hands 27 = .ok (.iload_n 2, 1) := by decide +kernel
theorem dX7_hands_28 : decode cX7_hands 28 = .ok (.if_icmp .ne 7, 3) := by decide +kernel
theorem dX7_hands_31 : decode cX7_hands 31 = .ok (.iconst 1, 1) := by decide +kernel
theorem dX7_hands_32 : decode cX7_hands 32 = .ok (.goto 4, 3) := by decide +kernel
theorem dX7_hands_35 : decode cX7_hands 35 = .ok (.iconst 0, 1) := by decide +kernel
theorem dX7_hands_36 : decode cX7_hands 36 = .ok (.iadd, 1) := by decide +kernel
theorem dX7_hands_37 : decode cX7_hands 37 = .ok (.istore_n 1, 1) := by decide +kernel
theorem dX7_hands_38 : decode cX7_hands 38 = .ok (.iinc 2 1, 3) := by decide +kernel
theorem dX7_hands_41 : decode cX7_hands 41 = .ok (.goto (-32), 3) := by decide +kernel
theorem dX7_hands_44 : decode cX7_hands 44 = .ok (.iload_n 1, 1) := by decide +kernel
theorem dX7_hands_45 : decode cX7_hands 45 = .ok (.ireturn, 1) := by decide +kernel
theorem dX7_areOfOne_0 : decode cX7_areOfOne 0 = .ok (.aload_n 0, 1) := by decide +kernel
theorem dX7_areOfOne_1 : decode cX7_areOfOne 1 = .ok (.iconst (-1), 1) := by decide +kernel
theorem dX7_areOfOne_2 : decode cX7_areOfOne 2 = .ok (.invokevirtual 105, 3) := by decide +kernel
theorem dX7_areOfOne_5 : decode cX7_areOfOne 5 = .ok (.aload_n 0, 1) := by decide +kernel
theorem dX7_areOfOne_6 : decode cX7_areOfOne 6 = .ok (.getfield 28, 3) := by decide +kernel
theorem dX7_areOfOne_9 : decode cX7_areOfOne 9 = .ok (.iload_n 1, 1) := by decide +kernel
theorem dX7_areOfOne_10 : decode cX7_areOfOne 10 = .ok (.iaload, 1) := by decide +kernel
theorem dX7_areOfOne_11 : decode cX7_areOfOne 11 = .ok (.aload_n 0, 1) := by decide +kernel
theorem dX7_areOfOne_12 : decode cX7_areOfOne 12 = .ok (.getfield 28, 3) := by decide +kernel
theorem dX7_areOfOne_15 : decode cX7_areOfOne 15 = .ok (.iload_n 2, 1) := by decide +kernel
theorem dX7_areOfOne_16 : decode cX7_areOfOne 16 = .ok (.iaload, 1) := by decide +kernel
theorem dX7_areOfOne_17 : decode cX7_areOfOne 17 = .ok (.if_icmp .ne 7, 3) := by decide +kernel
theorem dX7_areOfOne_20 : decode cX7_areOfOne 20 = .ok (.iconst 1, 1) := by decide +kernel
theorem dX7_areOfOne_21 : decode cX7_areOfOne 21 = .ok (.goto 4, 3) := by decide +kernel
theorem dX7_areOfOne_24 : decode cX7_areOfOne 24 = .ok (.iconst 0, 1) := by decide +kernel
theorem dX7_areOfOne_25 : decode cX7_areOfOne 25 = .ok (.ireturn, 1) := by decide +kernel
theorem dX7_findOath_0 : decode cX7_findOath 0 = .ok (.iconst 0, 1) := by decide +kernel
theorem dX7_findOath_1 : decode cX7_findOath 1 = .ok (.istore_n 3, 1) := by decide +kernel
theorem dX7_findOath_2 : decode cX7_findOath 2 = .ok (.iload_n 3, 1) := by decide +kernel
theorem dX7_findOath_3 : decode cX7_findOath 3 = .ok (.aload_n 0, 1) := by decide +kernel
theorem dX7_findOath_4 : decode cX7_findOath 4 = .ok (.getfield 7, 3) := by decide +kernel
theorem dX7_findOath_7 : decode cX7_findOath 7 = .ok (.bipush 10, 2) := by decide +kernel
theorem dX7_findOath_9 : decode cX7_findOath 9 = .ok (.iaload, 1) := by decide +kernel
theorem dX7_findOath_10 : decode cX7_findOath 10 = .ok (.if_icmp .ge 51, 3) := by decide +kernel
theorem dX7_findOath_13 : decode cX7_findOath 13 = .ok (.aload_n 0, 1) := by decide +kernel
theorem dX7_findOath_14 : decode cX7_findOath 14 = .ok (.iload_n 3, 1) := by decide +kernel
theorem dX7_findOath_15 : decode cX7_findOath 15 = .ok (.iconst 0, 1) := by decide +kernel
theorem dX7_findOath_16 : decode cX7_findOath 16 = .ok (.invokevirtual 98, 3) := by decide +kernel
theorem dX7_findOath_19 : decode cX7_findOath 19 = .ok (.istore 4, 2) := by decide +kernel
theorem dX7_findOath_21 : decode cX7_findOath 21 = .ok (.aload_n 0, 1) := by decide +kernel
theorem dX7_findOath_22 : decode cX7_findOath 22 = .ok (.iload_n 3, 1) := by decide +kernel
theorem dX7_findOath_23 : decode cX7_findOath 23 = .ok (.iconst 1, 1) := by decide +kernel
theorem dX7_findOath_24 : decode cX7_findOath 24 = .ok (.invokevirtual 98, 3) := by decide +kernel
theorem dX7_findOath_27 : decode cX7_findOath 27 = .ok (.istore 5, 2) := by decide +kernel
theorem dX7_findOath_29 : decode cX7_findOath 29 = .ok (.iload 4, 2) := by decide +kernel
theorem dX7_findOath_31 : decode cX7_findOath 31 = .ok (.iload_n 1, 1) := by decide +kernel
theorem dX7_findOath_32 : decode cX7_findOath 32 = .ok (.if_icmp .ne 9, 3) := by decide +kernel
theorem dX7_findOath_35 : decode cX7_findOath 35 = .ok (.iload 5, 2) := by decide +kernel
theorem dX7_findOath_37 : decode cX7_findOath 37 = .ok (.iload_n 2, 1) := by decide +kernel
theorem dX7_findOath_38 : decode cX7_findOath 38 = .ok (.if_icmp .eq 15, 3) := by decide +kernel
theorem dX7_findOath_41 : decode cX7_findOath 41 = .ok (.iload 4, 2) := by decide +kernel
theorem dX7_findOath_43 : decode cX7_findOath 43 = .ok (.iload_n 2, 1) := by decide +kernel
theorem dX7_findOath_44 : decode cX7_findOath 44 = .ok (.if_icmp .ne 11, 3) := by decide +kernel
theorem dX7_findOath_47 : decode cX7_findOath 47 = .ok (.iload 5, 2) := by decide +kernel
theorem dX7_findOath_49 : decode cX7_findOath 49 = .ok (.iload_n 1, 1) := by decide +kernel
theorem dX7_findOath_50 : decode cX7_findOath 50 = .ok (.if_icmp .ne 5, 3) := by decide +kernel
theorem dX7_findOath_53 : decode cX7_findOath 53 = .ok (.iload_n 3, 1) := by decide +kernel
theorem dX7_findOath_54 : decode cX7_findOath 54 = .ok (.ireturn, 1) := by decide +kernel
theorem dX7_findOath_55 : decode cX7_findOath 55 = .ok (.iinc 3 1, 3) := by decide +kernel
theorem dX7_findOath_58 : decode cX7_findOath 58 = .ok (.goto (-56), 3) := by decide +kernel
theorem dX7_findOath_61 : decode cX7_findOath 61 = .ok (.iconst (-1), 1) := by decide +kernel
theorem dX7_findOath_62 : decode cX7_findOath 62 = .ok (.ireturn, 1) := by decide +kernel
theorem dX7_breaks_0 : decode cX7_breaks 0 = .ok (.aload_n 0, 1) := by decide +kernel
theorem dX7_breaks_1 : decode cX7_breaks 1 = .ok (.iconst (-1), 1) := by decide +kernel
theorem dX7_breaks_2 : decode cX7_breaks 2 = .ok (.invokevirtual 105, 3) := by decide +kernel
theorem dX7_breaks_5 : decode cX7_breaks 5 = .ok (.aload_n 0, 1) := by decide +kernel
theorem dX7_breaks_6 : decode cX7_breaks 6 = .ok (.iload_n 1, 1) := by decide +kernel
theorem dX7_breaks_7 : decode cX7_breaks 7 = .ok (.iload_n 2, 1) := by decide +kernel
theorem dX7_breaks_8 : decode cX7_breaks 8 = .ok (.invokevirtual 101, 3) := by decide +kernel
theorem dX7_breaks_11 : decode cX7_breaks 11 = .ok (.iconst 0, 1) := by decide +kernel
theorem dX7_breaks_12 : decode cX7_breaks 12 = .ok (.istore_n 3, 1) := by decide +kernel
theorem dX7_breaks_13 : decode cX7_breaks 13 = .ok (.iconst 0, 1) := by decide +kernel
theorem dX7_breaks_14 : decode cX7_breaks 14 = .ok (.istore 4, 2) := by decide +kernel
theorem dX7_breaks_16 : decode cX7_breaks 16 = .ok (.iload 4, 2) := by decide +kernel
theorem dX7_breaks_18 : decode cX7_breaks 18 = .ok (.aload_n 0, 1) := by decide +kernel
theorem dX7_breaks_19 : decode cX7_breaks 19 = .ok (.getfield 7, 3) := by decide +kernel
theorem dX7_breaks_22 : decode cX7_breaks 22 = .ok (.bipush 10, 2) := by decide +kernel
theorem dX7_breaks_24 : decode cX7_breaks 24 = .ok (.iaload, 1) := by decide +kernel
theorem dX7_breaks_25 : decode cX7_breaks 25 = .ok (.if_icmp .ge 56, 3) := by decide +kernel
theorem dX7_breaks_28 : decode cX7_breaks 28 = .ok (.iload_n 3, 1) := by decide +kernel
theorem dX7_breaks_29 : decode cX7_breaks 29 = .ok (.ifCond .ne 40, 3) := by decide +kernel
theorem dX7_breaks_32 : decode cX7_breaks 32 = .ok (.aload_n 0, 1) := by decide +kernel
theorem dX7_breaks_33 : decode cX7_breaks 33 = .ok (.iload 4, 2) := by decide +kernel
theorem dX7_breaks_35 : decode cX7_breaks 35 = .ok (.iconst 2, 1) := by decide +kernel
theorem dX7_breaks_36 : decode cX7_breaks 36 = .ok (.invokevirtual 98, 3) := by decide +kernel
theorem dX7_breaks_39 : decode cX7_breaks 39 = .ok (.ifCond .ne 34, 3) := by decide +kernel
theorem dX7_breaks_42 : decode cX7_breaks 42 = .ok (.aload_n 0, 1) := by decide +kernel
theorem dX7_breaks_43 : decode cX7_breaks 43 = .ok (.getfield 28, 3) := by decide +kernel
theorem dX7_breaks_46 : decode cX7_breaks 46 = .ok (.aload_n 0, 1) := by decide +kernel
theorem dX7_breaks_47 : decode cX7_breaks 47 = .ok (.iload 4, 2) := by decide +kernel
theorem dX7_breaks_49 : decode cX7_breaks 49 = .ok (.iconst 0, 1) := by decide +kernel
theorem dX7_breaks_50 : decode cX7_breaks 50 = .ok (.invokevirtual 98, 3) := by decide +kernel
theorem dX7_breaks_53 : decode cX7_breaks 53 = .ok (.iaload, 1) := by decide +kernel
theorem dX7_breaks_54 : decode cX7_breaks 54 = .ok (.aload_n 0, 1) := by decide +kernel
theorem dX7_breaks_55 : decode cX7_breaks 55 = .ok (.getfield 28, 3) := by decide +kernel
theorem dX7_breaks_58 : decode cX7_breaks 58 = .ok (.aload_n 0, 1) := by decide +kernel
theorem dX7_breaks_59 : decode cX7_breaks 59 = .ok (.iload 4, 2) := by decide +kernel
theorem dX7_breaks_61 : decode cX7_breaks 61 = .ok (.iconst 1, 1) := by decide +kernel
theorem dX7_breaks_62 : decode cX7_breaks 62 = .ok (.invokevirtual 98, 3) := by decide +kernel
theorem dX7_breaks_65 : decode cX7_breaks 65 = .ok (.iaload, 1) := by decide +kernel
theorem dX7_breaks_66 : decode cX7_breaks 66 = .ok (.if_icmp .ne 7, 3) := by decide +kernel
theorem dX7_breaks_69 : decode cX7_breaks 69 = .ok (.iconst 1, 1) := by decide +kernel
theorem dX7_breaks_70 : decode cX7_breaks 70 = .ok (.goto 4, 3) := by decide +kernel
theorem dX7_breaks_73 : decode cX7_breaks 73 = .ok (.iconst 0, 1) := by decide +kernel
theorem dX7_breaks_74 : decode cX7_breaks 74 = .ok (.istore_n 3, 1) := by decide +kernel
theorem dX7_breaks_75 : decode cX7_breaks 75 = .ok (.iinc 4 1, 3) := by decide +kernel
theorem dX7_breaks_78 : decode cX7_breaks 78 = .ok (.goto (-62), 3) := by decide +kernel
theorem dX7_breaks_81 : decode cX7_breaks 81 = .ok (.iload_n 3, 1) := by decide +kernel
theorem dX7_breaks_82 : decode cX7_breaks 82 = .ok (.ireturn, 1) := by decide +kernel
theorem dX7_whyNotSworn_0 : decode cX7_whyNotSworn 0 = .ok (.iload_n 1, 1) := by decide +kernel
theorem dX7_whyNotSworn_1 : decode cX7_whyNotSworn 1 = .ok (.iload_n 2, 1) := by decide +kernel
theorem dX7_whyNotSworn_2 : decode cX7_whyNotSworn 2 = .ok (.if_icmp .ne 5, 3) := by decide +kernel
theorem dX7_whyNotSworn_5 : decode cX7_whyNotSworn 5 = .ok (.iconst 1, 1) := by decide +kernel
theorem dX7_whyNotSworn_6 : decode cX7_whyNotSworn 6 = .ok (.ireturn, 1) := by decide +kernel
theorem dX7_whyNotSworn_7 : decode cX7_whyNotSworn 7 = .ok (.aload_n 0, 1) := by decide +kernel
theorem dX7_whyNotSworn_8 : decode cX7_whyNotSworn 8 = .ok (.iload_n 1, 1) := by decide +kernel
theorem dX7_whyNotSworn_9 : decode cX7_whyNotSworn 9 = .ok (.iload_n 2, 1) := by decide +kernel
theorem dX7_whyNotSworn_10 : decode cX7_whyNotSworn 10 = .ok (.invokevirtual 109, 3) := by decide +kernel
theorem dX7_whyNotSworn_13 : decode cX7_whyNotSworn 13 = .ok (.iconst (-1), 1) := by decide +kernel
theorem dX7_whyNotSworn_14 : decode cX7_whyNotSworn 14 = .ok (.if_icmp .eq 5, 3) := by decide +kernel
theorem dX7_whyNotSworn_17 : decode cX7_whyNotSworn 17 = .ok (.iconst 2, 1) := by decide +kernel
theorem dX7_whyNotSworn_18 : decode cX7_whyNotSworn 18 = .ok (.ireturn, 1) := by decide +kernel
theorem dX7_whyNotSworn_19 : decode cX7_whyNotSworn 19 = .ok (.iload_n 3, 1) := by decide +kernel
theorem dX7_whyNotSworn_20 : decode cX7_whyNotSworn 20 = .ok (.ifCond .ne 19, 3) := by decide +kernel
theorem dX7_whyNotSworn_23 : decode cX7_whyNotSworn 23 = .ok (.aload_n 0, 1) := by decide +kernel
theorem dX7_whyNotSworn_24 : decode cX7_whyNotSworn 24 = .ok (.iload_n 1, 1) := by decide +kernel
theorem dX7_whyNotSworn_25 : decode cX7_whyNotSworn 25 = .ok (.iload_n 2, 1) := by decide +kernel
theorem dX7_whyNotSworn_26 : decode cX7_whyNotSworn 26 = .ok (.invokevirtual 112, 3) := by decide +kernel
theorem dX7_whyNotSworn_29 : decode cX7_whyNotSworn 29 = .ok (.ifCond .eq 8, 3) := by decide +kernel
theorem dX7_whyNotSworn_32 : decode cX7_whyNotSworn 32 = .ok (.bipush 6, 2) := by decide +kernel
theorem dX7_whyNotSworn_34 : decode cX7_whyNotSworn 34 = .ok (.goto 4, 3) := by decide +kernel
theorem dX7_whyNotSworn_37 : decode cX7_whyNotSworn 37 = .ok (.iconst 0, 1) := by decide +kernel
theorem dX7_whyNotSworn_38 : decode cX7_whyNotSworn 38 = .ok (.ireturn, 1) := by decide +kernel
theorem dX7_whyNotSworn_39 : decode cX7_whyNotSworn 39 = .ok (.aload_n 0, 1) := by decide +kernel
theorem dX7_whyNotSworn_40 : decode cX7_whyNotSworn 40 = .ok (.iload_n 1, 1) := by decide +kernel
theorem dX7_whyNotSworn_41 : decode cX7_whyNotSworn 41 = .ok (.invokevirtual 116, 3) := by decide +kernel
theorem dX7_whyNotSworn_44 : decode cX7_whyNotSworn 44 = .ok (.ifCond .ne 11, 3) := by decide +kernel
theorem dX7_whyNotSworn_47 : decode cX7_whyNotSworn 47 = .ok (.aload_n 0, 1) := by decide +kernel
theorem dX7_whyNotSworn_48 : decode cX7_whyNotSworn 48 = .ok (.iload_n 2, 1) := by decide +kernel
theorem dX7_whyNotSworn_49 : decode cX7_whyNotSworn 49 = .ok (.invokevirtual 116, 3) := by decide +kernel
theorem dX7_whyNotSworn_52 : decode cX7_whyNotSworn 52 = .ok (.ifCond .eq 5, 3) := by decide +kernel
theorem dX7_whyNotSworn_55 : decode cX7_whyNotSworn 55 = .ok (.iconst 3, 1) := by decide +kernel
theorem dX7_whyNotSworn_56 : decode cX7_whyNotSworn 56 = .ok (.ireturn, 1) := by decide +kernel
theorem dX7_whyNotSworn_57 : decode cX7_whyNotSworn 57 = .ok (.aload_n 0, 1) := by decide +kernel
theorem dX7_whyNotSworn_58 : decode cX7_whyNotSworn 58 = .ok (.iload_n 1, 1) := by decide +kernel
theorem dX7_whyNotSworn_59 : decode cX7_whyNotSworn 59 = .ok (.iload_n 2, 1) := by decide +kernel
theorem dX7_whyNotSworn_60 : decode cX7_whyNotSworn 60 = .ok (.invokevirtual 119, 3) := by decide +kernel
theorem dX7_whyNotSworn_63 : decode cX7_whyNotSworn 63 = .ok (.aload_n 0, 1) := by decide +kernel
theorem dX7_whyNotSworn_64 : decode cX7_whyNotSworn 64 = .ok (.getfield 7, 3) := by decide +kernel
theorem dX7_whyNotSworn_67 : decode cX7_whyNotSworn 67 = .ok (.bipush 8, 2) := by decide +kernel
theorem dX7_whyNotSworn_69 : decode cX7_whyNotSworn 69 = .ok (.iaload, 1) := by decide +kernel
theorem dX7_whyNotSworn_70 : decode cX7_whyNotSworn 70 = .ok (.if_icmp .ge 7, 3) := by decide +kernel
theorem dX7_whyNotSworn_73 : decode cX7_whyNotSworn 73 = .ok (.iconst 4, 1) := by decide +kernel
theorem dX7_whyNotSworn_74 : decode cX7_whyNotSworn 74 = .ok (.goto 17, 3) := by decide +kernel
theorem dX7_whyNotSworn_77 : decode cX7_whyNotSworn 77 = .ok (.aload_n 0, 1) := by decide +kernel
theorem dX7_whyNotSworn_78 : decode cX7_whyNotSworn 78 = .ok (.iload_n 1, 1) := by decide +kernel
theorem dX7_whyNotSworn_79 : decode cX7_whyNotSworn 79 = .ok (.iload_n 2, 1) := by decide +kernel
theorem dX7_whyNotSworn_80 : decode cX7_whyNotSworn 80 = .ok (.invokevirtual 122, 3) := by decide +kernel
theorem dX7_whyNotSworn_83 : decode cX7_whyNotSworn 83 = .ok (.ifCond .eq 7, 3) := by decide +kernel
theorem dX7_whyNotSworn_86 : decode cX7_whyNotSworn 86 = .ok (.iconst 5, 1) := by decide +kernel
theorem dX7_whyNotSworn_87 : decode cX7_whyNotSworn 87 = .ok (.goto 4, 3) := by decide +kernel
theorem dX7_whyNotSworn_90 : decode cX7_whyNotSworn 90 = .ok (.iconst 0, 1) := by decide +kernel
theorem dX7_whyNotSworn_91 : decode cX7_whyNotSworn 91 = .ok (.ireturn, 1) := by decide +kernel
theorem dX7_swears_0 : decode cX7_swears 0 = .ok (.bipush 14, 2) := by decide +kernel
theorem dX7_swears_2 : decode cX7_swears 2 = .ok (.iconst 3, 1) := by decide +kernel
theorem dX7_swears_3 : decode cX7_swears 3 = .ok (.aload_n 0, 1) := by decide +kernel
theorem dX7_swears_4 : decode cX7_swears 4 = .ok (.getfield 7, 3) := by decide +kernel
theorem dX7_swears_7 : decode cX7_swears 7 = .ok (.bipush 10, 2) := by decide +kernel
theorem dX7_swears_9 : decode cX7_swears 9 = .ok (.iaload, 1) := by decide +kernel
theorem dX7_swears_10 : decode cX7_swears 10 = .ok (.imul, 1) := by decide +kernel
theorem dX7_swears_11 : decode cX7_swears 11 = .ok (.iadd, 1) := by decide +kernel
theorem dX7_swears_12 : decode cX7_swears 12 = .ok (.istore 4, 2) := by decide +kernel
theorem dX7_swears_14 : decode cX7_swears 14 = .ok (.aload_n 0, 1) := by decide +kernel
theorem dX7_swears_15 : decode cX7_swears 15 = .ok (.getfield 7, 3) := by decide +kernel
theorem dX7_swears_18 : decode cX7_swears 18 = .ok (.iload 4, 2) := by decide +kernel
theorem dX7_swears_20 : decode cX7_swears 20 = .ok (.iload_n 1, 1) := by decide +kernel
theorem dX7_swears_21 : decode cX7_swears 21 = .ok (.iastore, 1) := by decide +kernel
theorem dX7_swears_22 : decode cX7_swears 22 = .ok (.aload_n 0, 1) := by decide +kernel
theorem dX7_swears_23 : decode cX7_swears 23 = .ok (.getfield 7, 3) := by decide +kernel
theorem dX7_swears_26 : decode cX7_swears 26 = .ok (.iload 4, 2) := by decide +kernel
theorem dX7_swears_28 : decode cX7_swears 28 = .ok (.iconst 1, 1) := by decide +kernel
theorem dX7_swears_29 : decode cX7_swears 29 = .ok (.iadd, 1) := by decide +kernel
theorem dX7_swears_30 : decode cX7_swears 30 = .ok (.iload_n 2, 1) := by decide +kernel
theorem dX7_swears_31 : decode cX7_swears 31 = .ok (.iastore, 1) := by decide +kernel
theorem dX7_swears_32 : decode cX7_swears 32 = .ok (.aload_n 0, 1) := by decide +kernel
theorem dX7_swears_33 : decode cX7_swears 33 = .ok (.getfield 7, 3) := by decide +kernel
theorem dX7_swears_36 : decode cX7_swears 36 = .ok (.iload 4, 2) := by decide +kernel
theorem dX7_swears_38 : decode cX7_swears 38 = .ok (.iconst 2, 1) := by decide +kernel
theorem dX7_swears_39 : decode cX7_swears 39 = .ok (.iadd, 1) := by decide +kernel
theorem dX7_swears_40 : decode cX7_swears 40 = .ok (.iload_n 3, 1) := by decide +kernel
theorem dX7_swears_41 : decode cX7_swears 41 = .ok (.ifCond .eq 7, 3) := by decide +kernel
theorem dX7_swears_44 : decode cX7_swears 44 = .ok (.iconst 1, 1) := by decide +kernel
theorem dX7_swears_45 : decode cX7_swears 45 = .ok (.goto 4, 3) := by decide +kernel
theorem dX7_swears_48 : decode cX7_swears 48 = .ok (.iconst 0, 1) := by decide +kernel
theorem dX7_swears_49 : decode cX7_swears 49 = .ok (.iastore, 1) := by decide +kernel
theorem dX7_swears_50 : decode cX7_swears 50 = .ok (.aload_n 0, 1) := by decide +kernel
theorem dX7_swears_51 : decode cX7_swears 51 = .ok (.getfield 7, 3) := by decide +kernel
theorem dX7_swears_54 : decode cX7_swears 54 = .ok (.bipush 10, 2) := by decide +kernel
theorem dX7_swears_56 : decode cX7_swears 56 = .ok (.dup2, 1) := by decide +kernel
theorem dX7_swears_57 : decode cX7_swears 57 = .ok (.iaload, 1) := by decide +kernel
theorem dX7_swears_58 : decode cX7_swears 58 = .ok (.iconst 1, 1) := by decide +kernel
theorem dX7_swears_59 : decode cX7_swears 59 = .ok (.iadd, 1) := by decide +kernel
theorem dX7_swears_60 : decode cX7_swears 60 = .ok (.iastore, 1) := by decide +kernel
theorem dX7_swears_61 : decode cX7_swears 61 = .ok (.aload_n 0, 1) := by decide +kernel
theorem dX7_swears_62 : decode cX7_swears 62 = .ok (.getfield 7, 3) := by decide +kernel
theorem dX7_swears_65 : decode cX7_swears 65 = .ok (.bipush 11, 2) := by decide +kernel
theorem dX7_swears_67 : decode cX7_swears 67 = .ok (.dup2, 1) := by decide +kernel
theorem dX7_swears_68 : decode cX7_swears 68 = .ok (.iaload, 1) := by decide +kernel
theorem dX7_swears_69 : decode cX7_swears 69 = .ok (.iconst 1, 1) := by decide +kernel
theorem dX7_swears_70 : decode cX7_swears 70 = .ok (.iadd, 1) := by decide +kernel
theorem dX7_swears_71 : decode cX7_swears 71 = .ok (.iastore, 1) := by decide +kernel
theorem dX7_swears_72 : decode cX7_swears 72 = .ok (.aload_n 0, 1) := by decide +kernel
theorem dX7_swears_73 : decode cX7_swears 73 = .ok (.invokevirtual 125, 3) := by decide +kernel
theorem dX7_swears_76 : decode cX7_swears 76 = .ok (.ireturn, 1) := by decide +kernel
theorem dX7_dropOath_0 : decode cX7_dropOath 0 = .ok (.aload_n 0, 1) := by decide +kernel
theorem dX7_dropOath_1 : decode cX7_dropOath 1 = .ok (.getfield 7, 3) := by decide +kernel
theorem dX7_dropOath_4 : decode cX7_dropOath 4 = .ok (.bipush 10, 2) := by decide +kernel
theorem dX7_dropOath_6 : decode cX7_dropOath 6 = .ok (.dup2, 1) := by decide +kernel
theorem dX7_dropOath_7 : decode cX7_dropOath 7 = .ok (.iaload, 1) := by decide +kernel
theorem dX7_dropOath_8 : decode cX7_dropOath 8 = .ok (.iconst 1, 1) := by decide +kernel
theorem dX7_dropOath_9 : decode cX7_dropOath 9 = .ok (.isub, 1) := by decide +kernel
theorem dX7_dropOath_10 : decode cX7_dropOath 10 = .ok (.iastore, 1) := by decide +kernel
theorem dX7_dropOath_11 : decode cX7_dropOath 11 = .ok (.bipush 14, 2) := by decide +kernel
theorem dX7_dropOath_13 : decode cX7_dropOath 13 = .ok (.iconst 3, 1) := by decide +kernel
theorem dX7_dropOath_14 : decode cX7_dropOath 14 = .ok (.iload_n 1, 1) := by decide +kernel
theorem dX7_dropOath_15 : decode cX7_dropOath 15 = .ok (.imul, 1) := by decide +kernel
theorem dX7_dropOath_16 : decode cX7_dropOath 16 = .ok (.iadd, 1) := by decide +kernel
theorem dX7_dropOath_17 : decode cX7_dropOath 17 = .ok (.istore_n 2, 1) := by decide +kernel
theorem dX7_dropOath_18 : decode cX7_dropOath 18 = .ok (.iload_n 2, 1) := by decide +kernel
theorem dX7_dropOath_19 : decode cX7_dropOath 19 = .ok (.bipush 14, 2) := by decide +kernel
theorem dX7_dropOath_21 : decode cX7_dropOath 21 = .ok (.iconst 3, 1) := by decide +kernel
theorem dX7_dropOath_22 : decode cX7_dropOath 22 = .ok (.aload_n 0, 1) := by decide +kernel
theorem dX7_dropOath_23 : decode cX7_dropOath 23 = .ok (.getfield 7, 3) := by decide +kernel
theorem dX7_dropOath_26 : decode cX7_dropOath 26 = .ok (.bipush 10, 2) := by decide +kernel
theorem dX7_dropOath_28 : decode cX7_dropOath 28 = .ok (.iaload, 1) := by decide +kernel
theorem dX7_dropOath_29 : decode cX7_dropOath 29 = .ok (.imul, 1) := by decide +kernel
theorem dX7_dropOath_30 : decode cX7_dropOath 30 = .ok (.iadd, 1) := by decide +kernel
theorem dX7_dropOath_31 : decode cX7_dropOath 31 = .ok (.if_icmp .ge 23, 3) := by decide +kernel
theorem dX7_dropOath_34 : decode cX7_dropOath 34 = .ok (.aload_n 0, 1) := by decide +kernel
theorem dX7_dropOath_35 : decode cX7_dropOath 35 = .ok (.getfield 7, 3) := by decide +kernel
theorem dX7_dropOath_38 : decode cX7_dropOath 38 = .ok (.iload_n 2, 1) := by decide +kernel
theorem dX7_dropOath_39 : decode cX7_dropOath 39 = .ok (.aload_n 0, 1) := by decide +kernel
theorem dX7_dropOath_40 : decode cX7_dropOath 40 = .ok (.getfield 7, 3) := by decide +kernel
theorem dX7_dropOath_43 : decode cX7_dropOath 43 = .ok (.iload_n 2, 1) := by decide +kernel
theorem dX7_dropOath_44 : decode cX7_dropOath 44 = .ok (.iconst 3, 1) := by decide +kernel
theorem dX7_dropOath_45 : decode cX7_dropOath 45 = .ok (.iadd, 1) := by decide +kernel
theorem dX7_dropOath_46 : decode cX7_dropOath 46 = .ok (.iaload, 1) := by decide +kernel
theorem dX7_dropOath_47 : decode cX7_dropOath 47 = .ok (.iastore, 1) := by decide +kernel
theorem dX7_dropOath_48 : decode cX7_dropOath 48 = .ok (.iinc 2 1, 3) := by decide +kernel
theorem dX7_dropOath_51 : decode cX7_dropOath 51 = .ok (.goto (-33), 3) := by decide +kernel
theorem dX7_dropOath_54 : decode cX7_dropOath 54 = .ok (.return_, 1) := by decide +kernel
theorem dX7_holds_0 : decode cX7_holds 0 = .ok (.aload_n 0, 1) := by decide +kernel
theorem dX7_holds_1 : decode cX7_holds 1 = .ok (.iload_n 1, 1) := by decide +kernel
theorem dX7_holds_2 : decode cX7_holds 2 = .ok (.invokevirtual 105, 3) := by decide +kernel
theorem dX7_holds_5 : decode cX7_holds 5 = .ok (.aload_n 0, 1) := by decide +kernel
theorem dX7_holds_6 : decode cX7_holds 6 = .ok (.iload_n 1, 1) := by decide +kernel
theorem dX7_holds_7 : decode cX7_holds 7 = .ok (.iconst 2, 1) := by decide +kernel
theorem dX7_holds_8 : decode cX7_holds 8 = .ok (.invokevirtual 98, 3) := by decide +kernel
theorem dX7_holds_11 : decode cX7_holds 11 = .ok (.iconst 1, 1) := by decide +kernel
theorem dX7_holds_12 : decode cX7_holds 12 = .ok (.if_icmp .ne 32, 3) := by decide +kernel
theorem dX7_holds_15 : decode cX7_holds 15 = .ok (.aload_n 0, 1) := by decide +kernel
theorem dX7_holds_16 : decode cX7_holds 16 = .ok (.getfield 28, 3) := by decide +kernel
theorem dX7_holds_19 : decode cX7_holds 19 = .ok (.aload_n 0, 1) := by decide +kernel
theorem dX7_holds_20 : decode cX7_holds 20 = .ok (.iload_n 1, 1) := by decide +kernel
theorem dX7_holds_21 : decode cX7_holds 21 = .ok (.iconst 0, 1) := by decide +kernel
theorem dX7_holds_22 : decode cX7_holds 22 = .ok (.invokevirtual 98, 3) := by decide +kernel
theorem dX7_holds_25 : decode cX7_holds 25 = .ok (.iaload, 1) := by decide +kernel
theorem dX7_holds_26 : decode cX7_holds 26 = .ok (.aload_n 0, 1) := by decide +kernel
theorem dX7_holds_27 : decode cX7_holds 27 = .ok (.getfield 28, 3) := by decide +kernel
theorem dX7_holds_30 : decode cX7_holds 30 = .ok (.aload_n 0, 1) := by decide +kernel
theorem dX7_holds_31 : decode cX7_holds 31 = .ok (.iload_n 1, 1) := by decide +kernel
theorem dX7_holds_32 : decode cX7_holds 32 = .ok (.iconst 1, 1) := by decide +kernel
theorem dX7_holds_33 : decode cX7_holds 33 = .ok (.invokevirtual 98, 3) := by decide +kernel
theorem dX7_holds_36 : decode cX7_holds 36 = .ok (.iaload, 1) := by decide +kernel
theorem dX7_holds_37 : decode cX7_holds 37 = .ok (.if_icmp .eq 7, 3) := by decide +kernel
theorem dX7_holds_40 : decode cX7_holds 40 = .ok (.iconst 1, 1) := by decide +kernel
theorem dX7_holds_41 : decode cX7_holds 41 = .ok (.goto 4, 3) := by decide +kernel
theorem dX7_holds_44 : decode cX7_holds 44 = .ok (.iconst 0, 1) := by decide +kernel
theorem dX7_holds_45 : decode cX7_holds 45 = .ok (.ireturn, 1) := by decide +kernel
theorem dX7_drops_0 : decode cX7_drops 0 = .ok (.iconst 0, 1) := by decide +kernel
theorem dX7_drops_1 : decode cX7_drops 1 = .ok (.istore_n 2, 1) := by decide +kernel
theorem dX7_drops_2 : decode cX7_drops 2 = .ok (.aload_n 0, 1) := by decide +kernel
theorem dX7_drops_3 : decode cX7_drops 3 = .ok (.getfield 7, 3) := by decide +kernel
theorem dX7_drops_6 : decode cX7_drops 6 = .ok (.bipush 10, 2) := by decide +kernel
theorem dX7_drops_8 : decode cX7_drops 8 = .ok (.iaload, 1) := by decide +kernel
theorem dX7_drops_9 : decode cX7_drops 9 = .ok (.iconst 1, 1) := by decide +kernel
theorem dX7_drops_10 : decode cX7_drops 10 = .ok (.isub, 1) := by decide +kernel
theorem dX7_drops_11 : decode cX7_drops 11 = .ok (.istore_n 3, 1) := by decide +kernel
theorem dX7_drops_12 : decode cX7_drops 12 = .ok (.iload_n 3, 1) := by decide +kernel
theorem dX7_drops_13 : decode cX7_drops 13 = .ok (.ifCond .lt 37, 3) := by decide +kernel
theorem dX7_drops_16 : decode cX7_drops 16 = .ok (.aload_n 0, 1) := by decide +kernel
theorem dX7_drops_17 : decode cX7_drops 17 = .ok (.iload_n 3, 1) := by decide +kernel
theorem dX7_drops_18 : decode cX7_drops 18 = .ok (.iconst 0, 1) := by decide +kernel
theorem dX7_drops_19 : decode cX7_drops 19 = .ok (.invokevirtual 98, 3) := by decide +kernel
theorem dX7_drops_22 : decode cX7_drops 22 = .ok (.iload_n 1, 1) := by decide +kernel
theorem dX7_drops_23 : decode cX7_drops 23 = .ok (.if_icmp .eq 13, 3) := by decide +kernel
theorem dX7_drops_26 : decode cX7_drops 26 = .ok (.aload_n 0, 1) := by decide +kernel
theorem dX7_drops_27 : decode cX7_drops 27 = .ok (.iload_n 3, 1) := by decide +kernel
theorem dX7_drops_28 : decode cX7_drops 28 = .ok (.iconst 1, 1) := by decide +kernel
theorem dX7_drops_29 : decode cX7_drops 29 = .ok (.invokevirtual 98, 3) := by decide +kernel
theorem dX7_drops_32 : decode cX7_drops 32 = .ok (.iload_n 1, 1) := by decide +kernel
theorem dX7_drops_33 : decode cX7_drops 33 = .ok (.if_icmp .ne 11, 3) := by decide +kernel
theorem dX7_drops_36 : decode cX7_drops 36 = .ok (.aload_n 0, 1) := by decide +kernel
theorem dX7_drops_37 : decode cX7_drops 37 = .ok (.iload_n 3, 1) := by decide +kernel
theorem dX7_drops_38 : decode cX7_drops 38 = .ok (.invokevirtual 129, 3) := by decide +kernel
theorem dX7_drops_41 : decode cX7_drops 41 = .ok (.iinc 2 1, 3) := by decide +kernel
theorem dX7_drops_44 : decode cX7_drops 44 = .ok (.iinc 3 (-1), 3) := by decide +kernel
theorem dX7_drops_47 : decode cX7_drops 47 = .ok (.goto (-35), 3) := by decide +kernel
theorem dX7_drops_50 : decode cX7_drops 50 = .ok (.iconst 0, 1) := by decide +kernel
theorem dX7_drops_51 : decode cX7_drops 51 = .ok (.istore_n 3, 1) := by decide +kernel
theorem dX7_drops_52 : decode cX7_drops 52 = .ok (.iload_n 3, 1) := by decide +kernel
theorem dX7_drops_53 : decode cX7_drops 53 = .ok (.aload_n 0, 1) := by decide +kernel
theorem dX7_drops_54 : decode cX7_drops 54 = .ok (.getfield 7, 3) := by decide +kernel
theorem dX7_drops_57 : decode cX7_drops 57 = .ok (.bipush 10, 2) := by decide +kernel
theorem dX7_drops_59 : decode cX7_drops 59 = .ok (.iaload, 1) := by decide +kernel
theorem dX7_drops_60 : decode cX7_drops 60 = .ok (.if_icmp .ge 69, 3) := by decide +kernel
theorem dX7_drops_63 : decode cX7_drops 63 = .ok (.aload_n 0, 1) := by decide +kernel
theorem dX7_drops_64 : decode cX7_drops 64 = .ok (.getfield 7, 3) := by decide +kernel
theorem dX7_drops_67 : decode cX7_drops 67 = .ok (.bipush 14, 2) := by decide +kernel
theorem dX7_drops_69 : decode cX7_drops 69 = .ok (.iconst 3, 1) := by decide +kernel
theorem dX7_drops_70 : decode cX7_drops 70 = .ok (.iload_n 3, 1) := by decide +kernel
theorem dX7_drops_71 : decode cX7_drops 71 = .ok (.imul, 1) := by decide +kernel
theorem dX7_drops_72 : decode cX7_drops 72 = .ok (.iadd, 1) := by decide +kernel
theorem dX7_drops_73 : decode cX7_drops 73 = .ok (.dup2, 1) := by decide +kernel
theorem dX7_drops_74 : decode cX7_drops 74 = .ok (.iaload, 1) := by decide +kernel
theorem dX7_drops_75 : decode cX7_drops 75 = .ok (.aload_n 0, 1) := by decide +kernel
theorem dX7_drops_76 : decode cX7_drops 76 = .ok (.iload_n 3, 1) := by decide +kernel
theorem dX7_drops_77 : decode cX7_drops 77 = .ok (.iconst 0, 1) := by decide +kernel
theorem dX7_drops_78 : decode cX7_drops 78 = .ok (.invokevirtual 98, 3) := by decide +kernel
theorem dX7_drops_81 : decode cX7_drops 81 = .ok (.iload_n 1, 1) := by decide +kernel
theorem dX7_drops_82 : decode cX7_drops 82 = .ok (.if_icmp .le 7, 3) := by decide +kernel
theorem dX7_drops_85 : decode cX7_drops 85 = .ok (.iconst 1, 1) := by decide +kernel
theorem dX7_drops_86 : decode cX7_drops 86 = .ok (.goto 4, 3) := by decide +kernel
theorem dX7_drops_89 : decode cX7_drops 89 = .ok (.iconst 0, 1) := by decide +kernel
theorem dX7_drops_90 : decode cX7_drops 90 = .ok (.isub, 1) := by decide +kernel
theorem dX7_drops_91 : decode cX7_drops 91 = .ok (.iastore, 1) := by decide +kernel
theorem dX7_drops_92 : decode cX7_drops 92 = .ok (.aload_n 0, 1) := by decide +kernel
theorem dX7_drops_93 : decode cX7_drops 93 = .ok (.getfield 7, 3) := by decide +kernel
theorem dX7_drops_96 : decode cX7_drops 96 = .ok (.bipush 14, 2) := by decide +kernel
theorem dX7_drops_98 : decode cX7_drops 98 = .ok (.iconst 3, 1) := by decide +kernel
theorem dX7_drops_99 : decode cX7_drops 99 = .ok (.iload_n 3, 1) := by decide +kernel
theorem dX7_drops_100 : decode cX7_drops 100 = .ok (.imul, 1) := by decide +kernel
theorem dX7_drops_101 : decode cX7_drops 101 = .ok (.iadd, 1) := by decide +kernel
theorem dX7_drops_102 : decode cX7_drops 102 = .ok (.iconst 1, 1) := by decide +kernel
theorem dX7_drops_103 : decode cX7_drops 103 = .ok (.iadd, 1) := by decide +kernel
theorem dX7_drops_104 : decode cX7_drops 104 = .ok (.dup2, 1) := by decide +kernel
theorem dX7_drops_105 : decode cX7_drops 105 = .ok (.iaload, 1) := by decide +kernel
theorem dX7_drops_106 : decode cX7_drops 106 = .ok (.aload_n 0, 1) := by decide +kernel
theorem dX7_drops_107 : decode cX7_drops 107 = .ok (.iload_n 3, 1) := by decide +kernel
theorem dX7_drops_108 : decode cX7_drops 108 = .ok (.iconst 1, 1) := by decide +kernel
theorem dX7_drops_109 : decode cX7_drops 109 = .ok (.invokevirtual 98, 3) := by decide +kernel
theorem dX7_drops_112 : decode cX7_drops 112 = .ok (.iload_n 1, 1) := by decide +kernel
theorem dX7_drops_113 : decode cX7_drops 113 = .ok (.if_icmp .le 7, 3) := by decide +kernel
theorem dX7_drops_116 : decode cX7_drops 116 = .ok (.iconst 1, 1) := by decide +kernel
theorem dX7_drops_117 : decode cX7_drops 117 = .ok (.goto 4, 3) := by decide +kernel
theorem dX7_drops_120 : decode cX7_drops 120 = .ok (.iconst 0, 1) := by decide +kernel
theorem dX7_drops_121 : decode cX7_drops 121 = .ok (.isub, 1) := by decide +kernel
theorem dX7_drops_122 : decode cX7_drops 122 = .ok (.iastore, 1) := by decide +kernel
theorem dX7_drops_123 : decode cX7_drops 123 = .ok (.iinc 3 1, 3) := by decide +kernel
theorem dX7_drops_126 : decode cX7_drops 126 = .ok (.goto (-74), 3) := by decide +kernel
theorem dX7_drops_129 : decode cX7_drops 129 = .ok (.aload_n 0, 1) := by decide +kernel
theorem dX7_drops_130 : decode cX7_drops 130 = .ok (.getfield 7, 3) := by decide +kernel
theorem dX7_drops_133 : decode cX7_drops 133 = .ok (.bipush 9, 2) := by decide +kernel
theorem dX7_drops_135 : decode cX7_drops 135 = .ok (.dup2, 1) := by decide +kernel
theorem dX7_drops_136 : decode cX7_drops 136 = .ok (.iaload, 1) := by decide +kernel
theorem dX7_drops_137 : decode cX7_drops 137 = .ok (.iconst 1, 1) := by decide +kernel
theorem dX7_drops_138 : decode cX7_drops 138 = .ok (.isub, 1) := by decide +kernel
theorem dX7_drops_139 : decode cX7_drops 139 = .ok (.iastore, 1) := by decide +kernel
theorem dX7_drops_140 : decode cX7_drops 140 = .ok (.bipush 98, 2) := by decide +kernel
theorem dX7_drops_142 : decode cX7_drops 142 = .ok (.bipush 42, 2) := by decide +kernel
theorem dX7_drops_144 : decode cX7_drops 144 = .ok (.iload_n 1, 1) := by decide +kernel
theorem dX7_drops_145 : decode cX7_drops 145 = .ok (.imul, 1) := by decide +kernel
theorem dX7_drops_146 : decode cX7_drops 146 = .ok (.iadd, 1) := by decide +kernel
theorem dX7_drops_147 : decode cX7_drops 147 = .ok (.istore_n 3, 1) := by decide +kernel
theorem dX7_drops_148 : decode cX7_drops 148 = .ok (.iload_n 3, 1) := by decide +kernel
theorem dX7_drops_149 : decode cX7_drops 149 = .ok (.bipush 98, 2) := by decide +kernel
theorem dX7_drops_151 : decode cX7_drops 151 = .ok (.bipush 42, 2) := by decide +kernel
theorem dX7_drops_153 : decode cX7_drops 153 = .ok (.aload_n 0, 1) := by decide +kernel
theorem dX7_drops_154 : decode cX7_drops 154 = .ok (.getfield 7, 3) := by decide +kernel
theorem dX7_drops_157 : decode cX7_drops 157 = .ok (.bipush 9, 2) := by decide +kernel
theorem dX7_drops_159 : decode cX7_drops 159 = .ok (.iaload, 1) := by decide +kernel
theorem dX7_drops_160 : decode cX7_drops 160 = .ok (.imul, 1) := by decide +kernel
theorem dX7_drops_161 : decode cX7_drops 161 = .ok (.iadd, 1) := by decide +kernel
theorem dX7_drops_162 : decode cX7_drops 162 = .ok (.if_icmp .ge 24, 3) := by decide +kernel
theorem dX7_drops_165 : decode cX7_drops 165 = .ok (.aload_n 0, 1) := by decide +kernel
theorem dX7_drops_166 : decode cX7_drops 166 = .ok (.getfield 7, 3) := by decide +kernel
theorem dX7_drops_169 : decode cX7_drops 169 = .ok (.iload_n 3, 1) := by decide +kernel
theorem dX7_drops_170 : decode cX7_drops 170 = .ok (.aload_n 0, 1) := by decide +kernel
theorem dX7_drops_171 : decode cX7_drops 171 = .ok (.getfield 7, 3) := by decide +kernel
theorem dX7_drops_174 : decode cX7_drops 174 = .ok (.iload_n 3, 1) := by decide +kernel
theorem dX7_drops_175 : decode cX7_drops 175 = .ok (.bipush 42, 2) := by decide +kernel
theorem dX7_drops_177 : decode cX7_drops 177 = .ok (.iadd, 1) := by decide +kernel
theorem dX7_drops_178 : decode cX7_drops 178 = .ok (.iaload, 1) := by decide +kernel
theorem dX7_drops_179 : decode cX7_drops 179 = .ok (.iastore, 1) := by decide +kernel
theorem dX7_drops_180 : decode cX7_drops 180 = .ok (.iinc 3 1, 3) := by decide +kernel
theorem dX7_drops_183 : decode cX7_drops 183 = .ok (.goto (-35), 3) := by decide +kernel
theorem dX7_drops_186 : decode cX7_drops 186 = .ok (.iload_n 2, 1) := by decide +kernel
theorem dX7_drops_187 : decode cX7_drops 187 = .ok (.ireturn, 1) := by decide +kernel
theorem dX7_passes_0 : decode cX7_passes 0 = .ok (.iconst (-1), 1) := by decide +kernel
theorem dX7_passes_1 : decode cX7_passes 1 = .ok (.istore_n 2, 1) := by decide +kernel
theorem dX7_passes_2 : decode cX7_passes 2 = .ok (.iconst 0, 1) := by decide +kernel
theorem dX7_passes_3 : decode cX7_passes 3 = .ok (.istore_n 3, 1) := by decide +kernel
theorem dX7_passes_4 : decode cX7_passes 4 = .ok (.iload_n 3, 1) := by decide +kernel
theorem dX7_passes_5 : decode cX7_passes 5 = .ok (.aload_n 0, 1) := by decide +kernel
theorem dX7_passes_6 : decode cX7_passes 6 = .ok (.getfield 7, 3) := by decide +kernel
theorem dX7_passes_9 : decode cX7_passes 9 = .ok (.bipush 9, 2) := by decide +kernel
theorem dX7_passes_11 : decode cX7_passes 11 = .ok (.iaload, 1) := by decide +kernel
theorem dX7_passes_12 : decode cX7_passes 12 = .ok (.if_icmp .ge 64, 3) := by decide +kernel
theorem dX7_passes_15 : decode cX7_passes 15 = .ok (.aload_n 0, 1) := by decide +kernel
theorem dX7_passes_16 : decode cX7_passes 16 = .ok (.iload_n 3, 1) := by decide +kernel
theorem dX7_passes_17 : decode cX7_passes 17 = .ok (.iconst 0, 1) := by decide +kernel
theorem dX7_passes_18 : decode cX7_passes 18 = .ok (.invokevirtual 39, 3) := by decide +kernel
theorem dX7_passes_21 : decode cX7_passes 21 = .ok (.iload_n 1, 1) := by decide +kernel
theorem dX7_passes_22 : decode cX7_passes 22 = .ok (.iadd, 1) := by decide +kernel
theorem dX7_passes_23 : decode cX7_passes 23 = .ok (.istore 4, 2) := by decide +kernel
theorem dX7_passes_25 : decode cX7_passes 25 = .ok (.iload 4, 2) := by decide +kernel
theorem dX7_passes_27 : decode cX7_passes 27 = .ok (.bipush 99, 2) := by decide +kernel
theorem dX7_passes_29 : decode cX7_passes 29 = .ok (.if_icmp .le 8, 3) := by decide +kernel
theorem dX7_passes_32 : decode cX7_passes 32 = .ok (.bipush 99, 2) := by decide +kernel
theorem dX7_passes_34 : decode cX7_passes 34 = .ok (.goto 5, 3) := by decide +kernel
theorem dX7_passes_37 : decode cX7_passes 37 = .ok (.iload 4, 2) := by decide +kernel
theorem dX7_passes_39 : decode cX7_passes 39 = .ok (.istore 4, 2) := by decide +kernel
theorem dX7_passes_41 : decode cX7_passes 41 = .ok (.aload_n 0, 1) := by decide +kernel
theorem dX7_passes_42 : decode cX7_passes 42 = .ok (.getfield 7, 3) := by decide +kernel
theorem dX7_passes_45 : decode cX7_passes 45 = .ok (.bipush 98, 2) := by decide +kernel
theorem dX7_passes_47 : decode cX7_passes 47 = .ok (.bipush 42, 2) := by decide +kernel
theorem dX7_passes_49 : decode cX7_passes 49 = .ok (.iload_n 3, 1) := by decide +kernel
theorem dX7_passes_50 : decode cX7_passes 50 = .ok (.imul, 1) := by decide +kernel
theorem dX7_passes_51 : decode cX7_passes 51 = .ok (.iadd, 1) := by decide +kernel
theorem dX7_passes_52 : decode cX7_passes 52 = .ok (.iconst 0, 1) := by decide +kernel
theorem dX7_passes_53 : decode cX7_passes 53 = .ok (.iadd, 1) := by decide +kernel
theorem dX7_passes_54 : decode cX7_passes 54 = .ok (.iload 4, 2) := by decide +kernel
theorem dX7_passes_56 : decode cX7_passes 56 = .ok (.iastore, 1) := by decide +kernel
theorem dX7_passes_57 : decode cX7_passes 57 = .ok (.iload 4, 2) := by decide +kernel
theorem dX7_passes_59 : decode cX7_passes 59 = .ok (.iload_n 2, 1) := by decide +kernel
theorem dX7_passes_60 : decode cX7_passes 60 = .ok (.if_icmp .le 8, 3) := by decide +kernel
theorem dX7_passes_63 : decode cX7_passes 63 = .ok (.iload 4, 2) := by decide +kernel
theorem dX7_passes_65 : decode cX7_passes 65 = .ok (.goto 4, 3) := by decide +kernel
theorem dX7_passes_68 : decode cX7_passes 68 = .ok (.iload_n 2, 1) := by decide +kernel
theorem dX7_passes_69 : decode cX7_passes 69 = .ok (.istore_n 2, 1) := by decide +kernel
theorem dX7_passes_70 : decode cX7_passes 70 = .ok (.iinc 3 1, 3) := by decide +kernel
theorem dX7_passes_73 : decode cX7_passes 73 = .ok (.goto (-69), 3) := by decide +kernel
theorem dX7_passes_76 : decode cX7_passes 76 = .ok (.iload_n 2, 1) := by decide +kernel
theorem dX7_passes_77 : decode cX7_passes 77 = .ok (.ireturn, 1) := by decide +kernel
theorem dX7_lay_0 : decode cX7_lay 0 = .ok (.aload_n 0, 1) := by decide +kernel
theorem dX7_lay_1 : decode cX7_lay 1 = .ok (.iconst 0, 1) := by decide +kernel
theorem dX7_lay_2 : decode cX7_lay 2 = .ok (.putfield 31, 3) := by decide +kernel
theorem dX7_lay_5 : decode cX7_lay 5 = .ok (.aload_n 0, 1) := by decide +kernel
theorem dX7_lay_6 : decode cX7_lay 6 = .ok (.invokevirtual 132, 3) := by decide +kernel
theorem dX7_lay_9 : decode cX7_lay 9 = .ok (.ifCond .eq 13, 3) := by decide +kernel
theorem dX7_lay_12 : decode cX7_lay 12 = .ok (.iload_n 1, 1) := by decide +kernel
theorem dX7_lay_13 : decode cX7_lay 13 = .ok (.iconst 0, 1) := by decide +kernel
theorem dX7_lay_14 : decode cX7_lay 14 = .ok (.bipush 99, 2) := by decide +kernel
theorem dX7_lay_16 : decode cX7_lay 16 = .ok (.invokestatic 35, 3) := by decide +kernel
theorem dX7_lay_19 : decode cX7_lay 19 = .ok (.ifCond .ne 9, 3) := by decide +kernel
theorem dX7_lay_22 : decode cX7_lay 22 = .ok (.aload_n 0, 1) := by decide +kernel
theorem dX7_lay_23 : decode cX7_lay 23 = .ok (.iconst 1, 1) := by decide +kernel
theorem dX7_lay_24 : decode cX7_lay 24 = .ok (.invokevirtual 46, 3) := by decide +kernel
theorem dX7_lay_27 : decode cX7_lay 27 = .ok (.ireturn, 1) := by decide +kernel
theorem dX7_lay_28 : decode cX7_lay 28 = .ok (.aload_n 0, 1) := by decide +kernel
theorem dX7_lay_29 : decode cX7_lay 29 = .ok (.getfield 7, 3) := by decide +kernel
theorem dX7_lay_32 : decode cX7_lay 32 = .ok (.bipush 9, 2) := by decide +kernel
theorem dX7_lay_34 : decode cX7_lay 34 = .ok (.iaload, 1) := by decide +kernel
theorem dX7_lay_35 : decode cX7_lay 35 = .ok (.bipush 8, 2) := by decide +kernel
theorem dX7_lay_37 : decode cX7_lay 37 = .ok (.if_icmp .ne 9, 3) := by decide +kernel
theorem dX7_lay_40 : decode cX7_lay 40 = .ok (.aload_n 0, 1) := by decide +kernel
theorem dX7_lay_41 : decode cX7_lay 41 = .ok (.iconst 2, 1) := by decide +kernel
theorem dX7_lay_42 : decode cX7_lay 42 = .ok (.invokevirtual 46, 3) := by decide +kernel
theorem dX7_lay_45 : decode cX7_lay 45 = .ok (.ireturn, 1) := by decide +kernel
theorem dX7_lay_46 : decode cX7_lay 46 = .ok (.aload_n 0, 1) := by decide +kernel
theorem dX7_lay_47 : decode cX7_lay 47 = .ok (.invokevirtual 54, 3) := by decide +kernel
theorem dX7_lay_50 : decode cX7_lay 50 = .ok (.bipush 98, 2) := by decide +kernel
theorem dX7_lay_52 : decode cX7_lay 52 = .ok (.bipush 42, 2) := by decide +kernel
theorem dX7_lay_54 : decode cX7_lay 54 = .ok (.aload_n 0, 1) := by decide +kernel
theorem dX7_lay_55 : decode cX7_lay 55 = .ok (.getfield 7, 3) := by decide +kernel
theorem dX7_lay_58 : decode cX7_lay 58 = .ok (.bipush 9, 2) := by decide +kernel
theorem dX7_lay_60 : decode cX7_lay 60 = .ok (.iaload, 1) := by decide +kernel
theorem dX7_lay_61 : decode cX7_lay 61 = .ok (.imul, 1) := by decide +kernel
theorem dX7_lay_62 : decode cX7_lay 62 = .ok (.iadd, 1) := by decide +kernel
theorem dX7_lay_63 : decode cX7_lay 63 = .ok (.istore_n 2, 1) := by decide +kernel
theorem dX7_lay_64 : decode cX7_lay 64 = .ok (.aload_n 0, 1) := by decide +kernel
theorem dX7_lay_65 : decode cX7_lay 65 = .ok (.getfield 7, 3) := by decide +kernel
theorem dX7_lay_68 : decode cX7_lay 68 = .ok (.iload_n 2, 1) := by decide +kernel
theorem dX7_lay_69 : decode cX7_lay 69 = .ok (.iconst 0, 1) := by decide +kernel
theorem dX7_lay_70 : decode cX7_lay 70 = .ok (.iadd, 1) := by decide +kernel
theorem dX7_lay_71 : decode cX7_lay 71 = .ok (.iload_n 1, 1) := by decide +kernel
theorem dX7_lay_72 : decode cX7_lay 72 = .ok (.iastore, 1) := by decide +kernel
theorem dX7_lay_73 : decode cX7_lay 73 = .ok (.aload_n 0, 1) := by decide +kernel
theorem dX7_lay_74 : decode cX7_lay 74 = .ok (.getfield 7, 3) := by decide +kernel
theorem dX7_lay_77 : decode cX7_lay 77 = .ok (.iload_n 2, 1) := by decide +kernel
theorem dX7_lay_78 : decode cX7_lay 78 = .ok (.iconst 1, 1) := by decide +kernel
theorem dX7_lay_79 : decode cX7_lay 79 = .ok (.iadd, 1) := by decide +kernel
theorem dX7_lay_80 : decode cX7_lay 80 = .ok (.aload_n 0, 1) := by decide +kernel
theorem dX7_lay_81 : decode cX7_lay 81 = .ok (.getfield 136, 3) := by decide +kernel
theorem dX7_lay_84 : decode cX7_lay 84 = .ok (.iastore, 1) := by decide +kernel
theorem dX7_lay_85 : decode cX7_lay 85 = .ok (.iconst 0, 1) := by decide +kernel
theorem dX7_lay_86 : decode cX7_lay 86 = .ok (.istore_n 3, 1) := by decide +kernel
theorem dX7_lay_87 : decode cX7_lay 87 = .ok (.iload_n 3, 1) := by decide +kernel
theorem dX7_lay_88 : decode cX7_lay 88 = .ok (.bipush 40, 2) := by decide +kernel
theorem dX7_lay_90 : decode cX7_lay 90 = .ok (.if_icmp .ge 39, 3) := by decide +kernel
theorem dX7_lay_93 : decode cX7_lay 93 = .ok (.aload_n 0, 1) := by decide +kernel
theorem dX7_lay_94 : decode cX7_lay 94 = .ok (.getfield 7, 3) := by decide +kernel
theorem dX7_lay_97 : decode cX7_lay 97 = .ok (.iload_n 2, 1) := by decide +kernel
theorem dX7_lay_98 : decode cX7_lay 98 = .ok (.iconst 2, 1) := by decide +kernel
theorem dX7_lay_99 : decode cX7_lay 99 = .ok (.iadd, 1) := by decide +kernel
theorem dX7_lay_100 : decode cX7_lay 100 = .ok (.iload_n 3, 1) := by decide +kernel
theorem dX7_lay_101 : decode cX7_lay 101 = .ok (.iadd, 1) := by decide +kernel
theorem dX7_lay_102 : decode cX7_lay 102 = .ok (.iload_n 3, 1) := by decide +kernel
theorem dX7_lay_103 : decode cX7_lay 103 = .ok (.iconst 5, 1) := by decide +kernel
theorem dX7_lay_104 : decode cX7_lay 104 = .ok (.aload_n 0, 1) := by decide +kernel
theorem dX7_lay_105 : decode cX7_lay 105 = .ok (.getfield 136, 3) := by decide +kernel
theorem dX7_lay_108 : decode cX7_lay 108 = .ok (.imul, 1) := by decide +kernel
theorem dX7_lay_109 : decode cX7_lay 109 = .ok (.if_icmp .ge 12, 3) := by decide +kernel
theorem dX7_lay_112 : decode cX7_lay 112 = .ok (.aload_n 0, 1) := by decide +kernel
theorem dX7_lay_113 : decode cX7_lay 113 = .ok (.getfield 25, 3) := by decide +kernel
theorem dX7_lay_116 : decode cX7_lay 116 = .ok (.iload_n 3, 1) := by decide +kernel
theorem dX7_lay_117 : decode cX7_lay 117 = .ok (.iaload, 1) := by decide +kernel
theorem dX7_lay_118 : decode cX7_lay 118 = .ok (.goto 4, 3) := by decide +kernel
theorem dX7_lay_121 : decode cX7_lay 121 = .ok (.iconst 0, 1) := by decide +kernel
theorem dX7_lay_122 : decode cX7_lay 122 = .ok (.iastore, 1) := by decide +kernel
theorem dX7_lay_123 : decode cX7_lay 123 = .ok (.iinc 3 1, 3) := by decide +kernel
theorem dX7_lay_126 : decode cX7_lay 126 = .ok (.goto (-39), 3) := by decide +kernel
theorem dX7_lay_129 : decode cX7_lay 129 = .ok (.aload_n 0, 1) := by decide +kernel
theorem dX7_lay_130 : decode cX7_lay 130 = .ok (.getfield 7, 3) := by decide +kernel
theorem dX7_lay_133 : decode cX7_lay 133 = .ok (.bipush 9, 2) := by decide +kernel
theorem dX7_lay_135 : decode cX7_lay 135 = .ok (.dup2, 1) := by decide +kernel
theorem dX7_lay_136 : decode cX7_lay 136 = .ok (.iaload, 1) := by decide +kernel
theorem dX7_lay_137 : decode cX7_lay 137 = .ok (.iconst 1, 1) := by decide +kernel
theorem dX7_lay_138 : decode cX7_lay 138 = .ok (.iadd, 1) := by decide +kernel
theorem dX7_lay_139 : decode cX7_lay 139 = .ok (.iastore, 1) := by decide +kernel
theorem dX7_lay_140 : decode cX7_lay 140 = .ok (.aload_n 0, 1) := by decide +kernel
theorem dX7_lay_141 : decode cX7_lay 141 = .ok (.iconst 0, 1) := by decide +kernel
theorem dX7_lay_142 : decode cX7_lay 142 = .ok (.putfield 139, 3) := by decide +kernel
theorem dX7_lay_145 : decode cX7_lay 145 = .ok (.aload_n 0, 1) := by decide +kernel
theorem dX7_lay_146 : decode cX7_lay 146 = .ok (.getfield 7, 3) := by decide +kernel
theorem dX7_lay_149 : decode cX7_lay 149 = .ok (.bipush 9, 2) := by decide +kernel
theorem dX7_lay_151 : decode cX7_lay 151 = .ok (.iaload, 1) := by decide +kernel
theorem dX7_lay_152 : decode cX7_lay 152 = .ok (.iconst 1, 1) := by decide +kernel
theorem dX7_lay_153 : decode cX7_lay 153 = .ok (.isub, 1) := by decide +kernel
theorem dX7_lay_154 : decode cX7_lay 154 = .ok (.ireturn, 1) := by decide +kernel
theorem dX7_drop_0 : decode cX7_drop 0 = .ok (.aload_n 0, 1) := by decide +kernel
theorem dX7_drop_1 : decode cX7_drop 1 = .ok (.iconst 0, 1) := by decide +kernel
theorem dX7_drop_2 : decode cX7_drop 2 = .ok (.putfield 31, 3) := by decide +kernel
theorem dX7_drop_5 : decode cX7_drop 5 = .ok (.aload_n 0, 1) := by decide +kernel
theorem dX7_drop_6 : decode cX7_drop 6 = .ok (.iload_n 1, 1) := by decide +kernel
theorem dX7_drop_7 : decode cX7_drop 7 = .ok (.invokevirtual 142, 3) := by decide +kernel
theorem dX7_drop_10 : decode cX7_drop 10 = .ok (.ifCond .ne 9, 3) := by decide +kernel
theorem dX7_drop_13 : decode cX7_drop 13 = .ok (.aload_n 0, 1) := by decide +kernel
theorem dX7_drop_14 : decode cX7_drop 14 = .ok (.iconst 1, 1) := by decide +kernel
theorem dX7_drop_15 : decode cX7_drop 15 = .ok (.invokevirtual 46, 3) := by decide +kernel
theorem dX7_drop_18 : decode cX7_drop 18 = .ok (.ireturn, 1) := by decide +kernel
theorem dX7_drop_19 : decode cX7_drop 19 = .ok (.aload_n 0, 1) := by decide +kernel
theorem dX7_drop_20 : decode cX7_drop 20 = .ok (.invokevirtual 54, 3) := by decide +kernel
theorem dX7_drop_23 : decode cX7_drop 23 = .ok (.aload_n 0, 1) := by decide +kernel
theorem dX7_drop_24 : decode cX7_drop 24 = .ok (.iload_n 1, 1) := by decide +kernel
theorem dX7_drop_25 : decode cX7_drop 25 = .ok (.invokevirtual 145, 3) := by decide +kernel
theorem dX7_drop_28 : decode cX7_drop 28 = .ok (.ireturn, 1) := by decide +kernel
theorem dX7_pass_0 : decode cX7_pass 0 = .ok (.aload_n 0, 1) := by decide +kernel
theorem dX7_pass_1 : decode cX7_pass 1 = .ok (.iconst 0, 1) := by decide +kernel
theorem dX7_pass_2 : decode cX7_pass 2 = .ok (.putfield 31, 3) := by decide +kernel
theorem dX7_pass_5 : decode cX7_pass 5 = .ok (.iload_n 1, 1) := by decide +kernel
theorem dX7_pass_6 : decode cX7_pass 6 = .ok (.iconst 1, 1) := by decide +kernel
theorem dX7_pass_7 : decode cX7_pass 7 = .ok (.bipush 99, 2) := by decide +kernel
theorem dX7_pass_9 : decode cX7_pass 9 = .ok (.invokestatic 35, 3) := by decide +kernel
theorem dX7_pass_12 : decode cX7_pass 12 = .ok (.ifCond .ne 9, 3) := by decide +kernel
theorem dX7_pass_15 : decode cX7_pass 15 = .ok (.aload_n 0, 1) := by decide +kernel
theorem dX7_pass_16 : decode cX7_pass 16 = .ok (.iconst 1, 1) := by decide +kernel
theorem dX7_pass_17 : decode cX7_pass 17 = .ok (.invokevirtual 46, 3) := by decide +kernel
theorem dX7_pass_20 : decode cX7_pass 20 = .ok (.ireturn, 1) := by decide +kernel
theorem dX7_pass_21 : decode cX7_pass 21 = .ok (.aload_n 0, 1) := by decide +kernel
theorem dX7_pass_22 : decode cX7_pass 22 = .ok (.invokevirtual 54, 3) := by decide +kernel
theorem dX7_pass_25 : decode cX7_pass 25 = .ok (.aload_n 0, 1) := by decide +kernel
theorem dX7_pass_26 : decode cX7_pass 26 = .ok (.iload_n 1, 1) := by decide +kernel
theorem dX7_pass_27 : decode cX7_pass 27 = .ok (.invokevirtual 148, 3) := by decide +kernel
theorem dX7_pass_30 : decode cX7_pass 30 = .ok (.ireturn, 1) := by decide +kernel
theorem dX7_mostOf_0 : decode cX7_mostOf 0 = .ok (.iload_n 0, 1) := by decide +kernel
theorem dX7_mostOf_1 : decode cX7_mostOf 1 = .ok (.bipush 6, 2) := by decide +kernel
theorem dX7_mostOf_3 : decode cX7_mostOf 3 = .ok (.if_icmp .ge 8, 3) := by decide +kernel
theorem dX7_mostOf_6 : decode cX7_mostOf 6 = .ok (.bipush 50, 2) := by decide +kernel
theorem dX7_mostOf_8 : decode cX7_mostOf 8 = .ok (.goto 27, 3) := by decide +kernel
theorem dX7_mostOf_11 : decode cX7_mostOf 11 = .ok (.iload_n 0, 1) := by decide +kernel
theorem dX7_mostOf_12 : decode cX7_mostOf 12 = .ok (.bipush 6, 2) := by decide +kernel
theorem dX7_mostOf_14 : decode cX7_mostOf 14 = .ok (.if_icmp .ne 8, 3) := by decide +kernel
theorem dX7_mostOf_17 : decode cX7_mostOf 17 = .ok (.bipush 99, 2) := by decide +kernel
theorem dX7_mostOf_19 : decode cX7_mostOf 19 = .ok (.goto 16, 3) := by decide +kernel
theorem dX7_mostOf_22 : decode cX7_mostOf 22 = .ok (.iload_n 0, 1) := by decide +kernel
theorem dX7_mostOf_23 : decode cX7_mostOf 23 = .ok (.bipush 7, 2) := by decide +kernel
theorem dX7_mostOf_25 : decode cX7_mostOf 25 = .ok (.if_icmp .ne 8, 3) := by decide +kernel
theorem dX7_mostOf_28 : decode cX7_mostOf 28 = .ok (.bipush 9, 2) := by decide +kernel
theorem dX7_mostOf_30 : decode cX7_mostOf 30 = .ok (.goto 5, 3) := by decide +kernel
theorem dX7_mostOf_33 : decode cX7_mostOf 33 = .ok (.bipush 6, 2) := by decide +kernel
theorem dX7_mostOf_35 : decode cX7_mostOf 35 = .ok (.ireturn, 1) := by decide +kernel
theorem dX7_set_0 : decode cX7_set 0 = .ok (.aload_n 0, 1) := by decide +kernel
theorem dX7_set_1 : decode cX7_set 1 = .ok (.iconst 0, 1) := by decide +kernel
theorem dX7_set_2 : decode cX7_set 2 = .ok (.putfield 31, 3) := by decide +kernel
theorem dX7_set_5 : decode cX7_set 5 = .ok (.iload_n 1, 1) := by decide +kernel
theorem dX7_set_6 : decode cX7_set 6 = .ok (.iconst 0, 1) := by decide +kernel
theorem dX7_set_7 : decode cX7_set 7 = .ok (.bipush 8, 2) := by decide +kernel
theorem dX7_set_9 : decode cX7_set 9 = .ok (.invokestatic 35, 3) := by decide +kernel
theorem dX7_set_12 : decode cX7_set 12 = .ok (.ifCond .ne 9, 3) := by decide +kernel
theorem dX7_set_15 : decode cX7_set 15 = .ok (.aload_n 0, 1) := by decide +kernel
theorem dX7_set_16 : decode cX7_set 16 = .ok (.iconst 1, 1) := by decide +kernel
theorem dX7_set_17 : decode cX7_set 17 = .ok (.invokevirtual 46, 3) := by decide +kernel
theorem dX7_set_20 : decode cX7_set 20 = .ok (.ireturn, 1) := by decide +kernel
theorem dX7_set_21 : decode cX7_set 21 = .ok (.iload_n 2, 1) := by decide +kernel
theorem dX7_set_22 : decode cX7_set 22 = .ok (.iconst 0, 1) := by decide +kernel
theorem dX7_set_23 : decode cX7_set 23 = .ok (.iload_n 1, 1) := by decide +kernel
theorem dX7_set_24 : decode cX7_set 24 = .ok (.invokestatic 151, 3) := by decide +kernel
theorem dX7_set_27 : decode cX7_set 27 = .ok (.invokestatic 35, 3) := by decide +kernel
theorem dX7_set_30 : decode cX7_set 30 = .ok (.ifCond .ne 9, 3) := by decide +kernel
theorem dX7_set_33 : decode cX7_set 33 = .ok (.aload_n 0, 1) := by decide +kernel
theorem dX7_set_34 : decode cX7_set 34 = .ok (.iconst 2, 1) := by decide +kernel
theorem dX7_set_35 : decode cX7_set 35 = .ok (.invokevirtual 46, 3) := by decide +kernel
theorem dX7_set_38 : decode cX7_set 38 = .ok (.ireturn, 1) := by decide +kernel
theorem dX7_set_39 : decode cX7_set 39 = .ok (.aload_n 0, 1) := by decide +kernel
theorem dX7_set_40 : decode cX7_set 40 = .ok (.invokevirtual 54, 3) := by decide +kernel
theorem dX7_set_43 : decode cX7_set 43 = .ok (.aload_n 0, 1) := by decide +kernel
theorem dX7_set_44 : decode cX7_set 44 = .ok (.getfield 7, 3) := by decide +kernel
theorem dX7_set_47 : decode cX7_set 47 = .ok (.iconst 0, 1) := by decide +kernel
theorem dX7_set_48 : decode cX7_set 48 = .ok (.iload_n 1, 1) := by decide +kernel
theorem dX7_set_49 : decode cX7_set 49 = .ok (.iadd, 1) := by decide +kernel
theorem dX7_set_50 : decode cX7_set 50 = .ok (.iaload, 1) := by decide +kernel
theorem dX7_set_51 : decode cX7_set 51 = .ok (.istore_n 3, 1) := by decide +kernel
theorem dX7_set_52 : decode cX7_set 52 = .ok (.aload_n 0, 1) := by decide +kernel
theorem dX7_set_53 : decode cX7_set 53 = .ok (.getfield 7, 3) := by decide +kernel
theorem dX7_set_56 : decode cX7_set 56 = .ok (.iconst 0, 1) := by decide +kernel
theorem dX7_set_57 : decode cX7_set 57 = .ok (.iload_n 1, 1) := by decide +kernel
theorem dX7_set_58 : decode cX7_set 58 = .ok (.iadd, 1) := by decide +kernel
theorem dX7_set_59 : decode cX7_set 59 = .ok (.iload_n 2, 1) := by decide +kernel
theorem dX7_set_60 : decode cX7_set 60 = .ok (.iastore, 1) := by decide +kernel
theorem dX7_set_61 : decode cX7_set 61 = .ok (.iload_n 3, 1) := by decide +kernel
theorem dX7_set_62 : decode cX7_set 62 = .ok (.ireturn, 1) := by decide +kernel
theorem dX7_swear_0 : decode cX7_swear 0 = .ok (.aload_n 0, 1) := by decide +kernel
theorem dX7_swear_1 : decode cX7_swear 1 = .ok (.iconst 0, 1) := by decide +kernel
theorem dX7_swear_2 : decode cX7_swear 2 = .ok (.putfield 31, 3) := by decide +kernel
theorem dX7_swear_5 : decode cX7_swear 5 = .ok (.aload_n 0, 1) := by decide +kernel
theorem dX7_swear_6 : decode cX7_swear 6 = .ok (.iload_n 1, 1) := by decide +kernel
theorem dX7_swear_7 : decode cX7_swear 7 = .ok (.invokevirtual 142, 3) := by decide +kernel
theorem dX7_swear_10 : decode cX7_swear 10 = .ok (.ifCond .eq 11, 3) := by decide +kernel
theorem dX7_swear_13 : decode cX7_swear 13 = .ok (.aload_n 0, 1) := by decide +kernel
theorem dX7_swear_14 : decode cX7_swear 14 = .ok (.iload_n 2, 1) := by decide +kernel
theorem dX7_swear_15 : decode cX7_swear 15 = .ok (.invokevirtual 142, 3) := by decide +kernel
theorem dX7_swear_18 : decode cX7_swear 18 = .ok (.ifCond .ne 9, 3) := by decide +kernel
theorem dX7_swear_21 : decode cX7_swear 21 = .ok (.aload_n 0, 1) := by decide +kernel
theorem dX7_swear_22 : decode cX7_swear 22 = .ok (.iconst 1, 1) := by decide +kernel
theorem dX7_swear_23 : decode cX7_swear 23 = .ok (.invokevirtual 46, 3) := by decide +kernel
theorem dX7_swear_26 : decode cX7_swear 26 = .ok (.ireturn, 1) := by decide +kernel
theorem dX7_swear_27 : decode cX7_swear 27 = .ok (.aload_n 0, 1) := by decide +kernel
theorem dX7_swear_28 : decode cX7_swear 28 = .ok (.iload_n 1, 1) := by decide +kernel
theorem dX7_swear_29 : decode cX7_swear 29 = .ok (.iload_n 2, 1) := by decide +kernel
theorem dX7_swear_30 : decode cX7_swear 30 = .ok (.iload_n 3, 1) := by decide +kernel
theorem dX7_swear_31 : decode cX7_swear 31 = .ok (.invokevirtual 154, 3) := by decide +kernel
theorem dX7_swear_34 : decode cX7_swear 34 = .ok (.ifCond .eq 9, 3) := by decide +kernel
theorem dX7_swear_37 : decode cX7_swear 37 = .ok (.aload_n 0, 1) := by decide +kernel
theorem dX7_swear_38 : decode cX7_swear 38 = .ok (.iconst 2, 1) := by decide +kernel
theorem dX7_swear_39 : decode cX7_swear 39 = .ok (.invokevirtual 46, 3) := by decide +kernel
theorem dX7_swear_42 : decode cX7_swear 42 = .ok (.ireturn, 1) := by decide +kernel
theorem dX7_swear_43 : decode cX7_swear 43 = .ok (.aload_n 0, 1) := by decide +kernel
theorem dX7_swear_44 : decode cX7_swear 44 = .ok (.invokevirtual 54, 3) := by decide +kernel
theorem dX7_swear_47 : decode cX7_swear 47 = .ok (.aload_n 0, 1) := by decide +kernel
theorem dX7_swear_48 : decode cX7_swear 48 = .ok (.iload_n 1, 1) := by decide +kernel
theorem dX7_swear_49 : decode cX7_swear 49 = .ok (.iload_n 2, 1) := by decide +kernel
theorem dX7_swear_50 : decode cX7_swear 50 = .ok (.iload_n 3, 1) := by decide +kernel
theorem dX7_swear_51 : decode cX7_swear 51 = .ok (.invokevirtual 158, 3) := by decide +kernel
theorem dX7_swear_54 : decode cX7_swear 54 = .ok (.ireturn, 1) := by decide +kernel
theorem dX7_recant_0 : decode cX7_recant 0 = .ok (.aload_n 0, 1) := by decide +kernel
theorem dX7_recant_1 : decode cX7_recant 1 = .ok (.iconst 0, 1) := by decide +kernel
theorem dX7_recant_2 : decode cX7_recant 2 = .ok (.putfield 31, 3) := by decide +kernel
theorem dX7_recant_5 : decode cX7_recant 5 = .ok (.aload_n 0, 1) := by decide +kernel
theorem dX7_recant_6 : decode cX7_recant 6 = .ok (.iload_n 1, 1) := by decide +kernel
theorem dX7_recant_7 : decode cX7_recant 7 = .ok (.invokevirtual 142, 3) := by decide +kernel
theorem dX7_recant_10 : decode cX7_recant 10 = .ok (.ifCond .eq 11, 3) := by decide +kernel
theorem dX7_recant_13 : decode cX7_recant 13 = .ok (.aload_n 0, 1) := by decide +kernel
theorem dX7_recant_14 : decode cX7_recant 14 = .ok (.iload_n 2, 1) := by decide +kernel
theorem dX7_recant_15 : decode cX7_recant 15 = .ok (.invokevirtual 142, 3) := by decide +kernel
theorem dX7_recant_18 : decode cX7_recant 18 = .ok (.ifCond .ne 9, 3) := by decide +kernel
theorem dX7_recant_21 : decode cX7_recant 21 = .ok (.aload_n 0, 1) := by decide +kernel
theorem dX7_recant_22 : decode cX7_recant 22 = .ok (.iconst 1, 1) := by decide +kernel
theorem dX7_recant_23 : decode cX7_recant 23 = .ok (.invokevirtual 46, 3) := by decide +kernel
theorem dX7_recant_26 : decode cX7_recant 26 = .ok (.ireturn, 1) := by decide +kernel
theorem dX7_recant_27 : decode cX7_recant 27 = .ok (.aload_n 0, 1) := by decide +kernel
theorem dX7_recant_28 : decode cX7_recant 28 = .ok (.invokevirtual 54, 3) := by decide +kernel
theorem dX7_recant_31 : decode cX7_recant 31 = .ok (.aload_n 0, 1) := by decide +kernel
theorem dX7_recant_32 : decode cX7_recant 32 = .ok (.iload_n 1, 1) := by decide +kernel
theorem dX7_recant_33 : decode cX7_recant 33 = .ok (.iload_n 2, 1) := by decide +kernel
theorem dX7_recant_34 : decode cX7_recant 34 = .ok (.invokevirtual 109, 3) := by decide +kernel
theorem dX7_recant_37 : decode cX7_recant 37 = .ok (.istore_n 3, 1) := by decide +kernel
theorem dX7_recant_38 : decode cX7_recant 38 = .ok (.iload_n 3, 1) := by decide +kernel
theorem dX7_recant_39 : decode cX7_recant 39 = .ok (.iconst (-1), 1) := by decide +kernel
theorem dX7_recant_40 : decode cX7_recant 40 = .ok (.if_icmp .eq 8, 3) := by decide +kernel
theorem dX7_recant_43 : decode cX7_recant 43 = .ok (.aload_n 0, 1) := by decide +kernel
theorem dX7_recant_44 : decode cX7_recant 44 = .ok (.iload_n 3, 1) := by decide +kernel
theorem dX7_recant_45 : decode cX7_recant 45 = .ok (.invokevirtual 129, 3) := by decide +kernel
theorem dX7_recant_48 : decode cX7_recant 48 = .ok (.iload_n 3, 1) := by decide +kernel
theorem dX7_recant_49 : decode cX7_recant 49 = .ok (.iconst (-1), 1) := by decide +kernel
theorem dX7_recant_50 : decode cX7_recant 50 = .ok (.if_icmp .ne 7, 3) := by decide +kernel
theorem dX7_recant_53 : decode cX7_recant 53 = .ok (.iconst 0, 1) := by decide +kernel
theorem dX7_recant_54 : decode cX7_recant 54 = .ok (.goto 4, 3) := by decide +kernel
theorem dX7_recant_57 : decode cX7_recant 57 = .ok (.iconst 1, 1) := by decide +kernel
theorem dX7_recant_58 : decode cX7_recant 58 = .ok (.ireturn, 1) := by decide +kernel
theorem dX7_append_0 : decode cX7_append 0 = .ok (.aload_n 0, 1) := by decide +kernel
theorem dX7_append_1 : decode cX7_append 1 = .ok (.iconst 0, 1) := by decide +kernel
theorem dX7_append_2 : decode cX7_append 2 = .ok (.putfield 31, 3) := by decide +kernel
theorem dX7_append_5 : decode cX7_append 5 = .ok (.iload_n 1, 1) := by decide +kernel
theorem dX7_append_6 : decode cX7_append 6 = .ok (.bipush 33, 2) := by decide +kernel
theorem dX7_append_8 : decode cX7_append 8 = .ok (.bipush 126, 2) := by decide +kernel
theorem dX7_append_10 : decode cX7_append 10 = .ok (.invokestatic 35, 3) := by decide +kernel
theorem dX7_append_13 : decode cX7_append 13 = .ok (.ifCond .ne 9, 3) := by decide +kernel
theorem dX7_append_16 : decode cX7_append 16 = .ok (.aload_n 0, 1) := by decide +kernel
theorem dX7_append_17 : decode cX7_append 17 = .ok (.iconst 1, 1) := by decide +kernel
theorem dX7_append_18 : decode cX7_append 18 = .ok (.invokevirtual 46, 3) := by decide +kernel
theorem dX7_append_21 : decode cX7_append 21 = .ok (.ireturn, 1) := by decide +kernel
theorem dX7_append_22 : decode cX7_append 22 = .ok (.aload_n 0, 1) := by decide +kernel
theorem dX7_append_23 : decode cX7_append 23 = .ok (.getfield 139, 3) := by decide +kernel
theorem dX7_append_26 : decode cX7_append 26 = .ok (.bipush 60, 2) := by decide +kernel
theorem dX7_append_28 : decode cX7_append 28 = .ok (.if_icmp .ne 9, 3) := by decide +kernel
theorem dX7_append_31 : decode cX7_append 31 = .ok (.aload_n 0, 1) := by decide +kernel
theorem dX7_append_32 : decode cX7_append 32 = .ok (.iconst 2, 1) := by decide +kernel
theorem dX7_append_33 : decode cX7_append 33 = .ok (.invokevirtual 46, 3) := by decide +kernel
theorem dX7_append_36 : decode cX7_append 36 = .ok (.ireturn, 1) := by decide +kernel
theorem dX7_append_37 : decode cX7_append 37 = .ok (.aload_n 0, 1) := by decide +kernel
theorem dX7_append_38 : decode cX7_append 38 = .ok (.getfield 22, 3) := by decide +kernel
theorem dX7_append_41 : decode cX7_append 41 = .ok (.aload_n 0, 1) := by decide +kernel
theorem dX7_append_42 : decode cX7_append 42 = .ok (.getfield 139, 3) := by decide +kernel
theorem dX7_append_45 : decode cX7_append 45 = .ok (.iload_n 1, 1) := by decide +kernel
theorem dX7_append_46 : decode cX7_append 46 = .ok (.iastore, 1) := by decide +kernel
theorem dX7_append_47 : decode cX7_append 47 = .ok (.aload_n 0, 1) := by decide +kernel
theorem dX7_append_48 : decode cX7_append 48 = .ok (.dup, 1) := by decide +kernel
theorem dX7_append_49 : decode cX7_append 49 = .ok (.getfield 139, 3) := by decide +kernel
theorem dX7_append_52 : decode cX7_append 52 = .ok (.iconst 1, 1) := by decide +kernel
theorem dX7_append_53 : decode cX7_append 53 = .ok (.iadd, 1) := by decide +kernel
theorem dX7_append_54 : decode cX7_append 54 = .ok (.putfield 139, 3) := by decide +kernel
theorem dX7_append_57 : decode cX7_append 57 = .ok (.aload_n 0, 1) := by decide +kernel
theorem dX7_append_58 : decode cX7_append 58 = .ok (.getfield 139, 3) := by decide +kernel
theorem dX7_append_61 : decode cX7_append 61 = .ok (.ireturn, 1) := by decide +kernel
theorem dX7_clearBuffer_0 : decode cX7_clearBuffer 0 = .ok (.aload_n 0, 1) := by decide +kernel
theorem dX7_clearBuffer_1 : decode cX7_clearBuffer 1 = .ok (.iconst 0, 1) := by decide +kernel
theorem dX7_clearBuffer_2 : decode cX7_clearBuffer 2 = .ok (.putfield 31, 3) := by decide +kernel
theorem dX7_clearBuffer_5 : decode cX7_clearBuffer 5 = .ok (.aload_n 0, 1) := by decide +kernel
theorem dX7_clearBuffer_6 : decode cX7_clearBuffer 6 = .ok (.getfield 139, 3) := by decide +kernel
theorem dX7_clearBuffer_9 : decode cX7_clearBuffer 9 = .ok (.istore_n 1, 1) := by decide +kernel
theorem dX7_clearBuffer_10 : decode cX7_clearBuffer 10 = .ok (.aload_n 0, 1) := by decide +kernel
theorem dX7_clearBuffer_11 : decode cX7_clearBuffer 11 = .ok (.iconst 0, 1) := by decide +kernel
theorem dX7_clearBuffer_12 : decode cX7_clearBuffer 12 = .ok (.putfield 139, 3) := by decide +kernel
theorem dX7_clearBuffer_15 : decode cX7_clearBuffer 15 = .ok (.iload_n 1, 1) := by decide +kernel
theorem dX7_clearBuffer_16 : decode cX7_clearBuffer 16 = .ok (.ireturn, 1) := by decide +kernel
theorem dX7_next_0 : decode cX7_next 0 = .ok (.aload_n 0, 1) := by decide +kernel
theorem dX7_next_1 : decode cX7_next 1 = .ok (.getfield 161, 3) := by decide +kernel
theorem dX7_next_4 : decode cX7_next 4 = .ok (.aload_n 0, 1) := by decide +kernel
theorem dX7_next_5 : decode cX7_next 5 = .ok (.getfield 139, 3) := by decide +kernel
theorem dX7_next_8 : decode cX7_next 8 = .ok (.if_icmp .ge 15, 3) := by decide +kernel
theorem dX7_next_11 : decode cX7_next 11 = .ok (.aload_n 0, 1) := by decide +kernel
theorem dX7_next_12 : decode cX7_next 12 = .ok (.getfield 22, 3) := by decide +kernel
theorem dX7_next_15 : decode cX7_next 15 = .ok (.aload_n 0, 1) := by decide +kernel
theorem dX7_next_16 : decode cX7_next 16 = .ok (.getfield 161, 3) := by decide +kernel
theorem dX7_next_19 : decode cX7_next 19 = .ok (.iaload, 1) := by decide +kernel
theorem dX7_next_20 : decode cX7_next 20 = .ok (.goto 4, 3) := by decide +kernel
theorem dX7_next_23 : decode cX7_next 23 = .ok (.iconst 0, 1) := by decide +kernel
theorem dX7_next_24 : decode cX7_next 24 = .ok (.ireturn, 1) := by decide +kernel
theorem dX7_takes_0 : decode cX7_takes 0 = .ok (.aload_n 0, 1) := by decide +kernel
theorem dX7_takes_1 : decode cX7_takes 1 = .ok (.invokevirtual 164, 3) := by decide +kernel
theorem dX7_takes_4 : decode cX7_takes 4 = .ok (.iload_n 1, 1) := by decide +kernel
theorem dX7_takes_5 : decode cX7_takes 5 = .ok (.if_icmp .ne 7, 3) := by decide +kernel
theorem dX7_takes_8 : decode cX7_takes 8 = .ok (.iconst 1, 1) := by decide +kernel
theorem dX7_takes_9 : decode cX7_takes 9 = .ok (.goto 4, 3) := by decide +kernel
theorem dX7_takes_12 : decode cX7_takes 12 = .ok (.iconst 0, 1) := by decide +kernel
theorem dX7_takes_13 : decode cX7_takes 13 = .ok (.istore_n 2, 1) := by decide +kernel
theorem dX7_takes_14 : decode cX7_takes 14 = .ok (.aload_n 0, 1) := by decide +kernel
theorem dX7_takes_15 : decode cX7_takes 15 = .ok (.dup, 1) := by decide +kernel
theorem dX7_takes_16 : decode cX7_takes 16 = .ok (.getfield 161, 3) := by decide +kernel
theorem dX7_takes_19 : decode cX7_takes 19 = .ok (.iload_n 2, 1) := by decide +kernel
theorem dX7_takes_20 : decode cX7_takes 20 = .ok (.ifCond .eq 7, 3) := by decide +kernel
theorem dX7_takes_23 : decode cX7_takes 23 = .ok (.iconst 1, 1) := by decide +kernel
theorem dX7_takes_24 : decode cX7_takes 24 = .ok (.goto 4, 3) := by decide +kernel
theorem dX7_takes_27 : decode cX7_takes 27 = .ok (.iconst 0, 1) := by decide +kernel
theorem dX7_takes_28 : decode cX7_takes 28 = .ok (.iadd, 1) := by decide +kernel
theorem dX7_takes_29 : decode cX7_takes 29 = .ok (.putfield 161, 3) := by decide +kernel
theorem dX7_takes_32 : decode cX7_takes 32 = .ok (.iload_n 2, 1) := by decide +kernel
theorem dX7_takes_33 : decode cX7_takes 33 = .ok (.ireturn, 1) := by decide +kernel
theorem dX7_readNumber_0 : decode cX7_readNumber 0 = .ok (.aload_n 0, 1) := by decide +kernel
theorem dX7_readNumber_1 : decode cX7_readNumber 1 = .ok (.invokevirtual 164, 3) := by decide +kernel
theorem dX7_readNumber_4 : decode cX7_readNumber 4 = .ok (.bipush 48, 2) := by decide +kernel
theorem dX7_readNumber_6 : decode cX7_readNumber 6 = .ok (.isub, 1) := by decide +kernel
theorem dX7_readNumber_7 : decode cX7_readNumber 7 = .ok (.istore_n 3, 1) := by decide +kernel
theorem dX7_readNumber_8 : decode cX7_readNumber 8 = .ok (.iload_n 3, 1) := by decide +kernel
theorem dX7_readNumber_9 : decode cX7_readNumber 9 = .ok (.iload_n 1, 1) := by decide +kernel
theorem dX7_readNumber_10 : decode cX7_readNumber 10 = .ok (.bipush 9, 2) := by decide +kernel
theorem dX7_readNumber_12 : decode cX7_readNumber 12 = .ok (.invokestatic 35, 3) := by decide +kernel
theorem dX7_readNumber_15 : decode cX7_readNumber 15 = .ok (.ifCond .eq 8, 3) := by decide +kernel
theorem dX7_readNumber_18 : decode cX7_readNumber 18 = .ok (.iload_n 3, 1) := by decide +kernel
theorem dX7_readNumber_19 : decode cX7_readNumber 19 = .ok (.iload_n 2, 1) := by decide +kernel
theorem dX7_readNumber_20 : decode cX7_readNumber 20 = .ok (.if_icmp .le 5, 3) := by decide +kernel
theorem dX7_readNumber_23 : decode cX7_readNumber 23 = .ok (.iconst (-1), 1) := by decide +kernel
theorem dX7_readNumber_24 : decode cX7_readNumber 24 = .ok (.ireturn, 1) := by decide +kernel
theorem dX7_readNumber_25 : decode cX7_readNumber 25 = .ok (.aload_n 0, 1) := by decide +kernel
theorem dX7_readNumber_26 : decode cX7_readNumber 26 = .ok (.dup, 1) := by decide +kernel
theorem dX7_readNumber_27 : decode cX7_readNumber 27 = .ok (.getfield 161, 3) := by decide +kernel
theorem dX7_readNumber_30 : decode cX7_readNumber 30 = .ok (.iconst 1, 1) := by decide +kernel
theorem dX7_readNumber_31 : decode cX7_readNumber 31 = .ok (.iadd, 1) := by decide +kernel
theorem dX7_readNumber_32 : decode cX7_readNumber 32 = .ok (.putfield 161, 3) := by decide +kernel
theorem dX7_readNumber_35 : decode cX7_readNumber 35 = .ok (.iload_n 3, 1) := by decide +kernel
theorem dX7_readNumber_36 : decode cX7_readNumber 36 = .ok (.ifCond .le 56, 3) := by decide +kernel
theorem dX7_readNumber_39 : decode cX7_readNumber 39 = .ok (.aload_n 0, 1) := by decide +kernel
theorem dX7_readNumber_40 : decode cX7_readNumber 40 = .ok (.invokevirtual 164, 3) := by decide +kernel
theorem dX7_readNumber_43 : decode cX7_readNumber 43 = .ok (.bipush 48, 2) := by decide +kernel
theorem dX7_readNumber_45 : decode cX7_readNumber 45 = .ok (.bipush 57, 2) := by decide +kernel
theorem dX7_readNumber_47 : decode cX7_readNumber 47 = .ok (.invokestatic 35, 3) := by decide +kernel
theorem dX7_readNumber_50 : decode cX7_readNumber 50 = .ok (.ifCond .eq 42, 3) := by decide +kernel
theorem dX7_readNumber_53 : decode cX7_readNumber 53 = .ok (.bipush 10, 2) := by decide +kernel
theorem dX7_readNumber_55 : decode cX7_readNumber 55 = .ok (.iload_n 3, 1) := by decide +kernel
theorem dX7_readNumber_56 : decode cX7_readNumber 56 = .ok (.imul, 1) := by decide +kernel
theorem dX7_readNumber_57 : decode cX7_readNumber 57 = .ok (.aload_n 0, 1) := by decide +kernel
theorem dX7_readNumber_58 : decode cX7_readNumber 58 = .ok (.invokevirtual 164, 3) := by decide +kernel
theorem dX7_readNumber_61 : decode cX7_readNumber 61 = .ok (.iadd, 1) := by decide +kernel
theorem dX7_readNumber_62 : decode cX7_readNumber 62 = .ok (.bipush 48, 2) := by decide +kernel
theorem dX7_readNumber_64 : decode cX7_readNumber 64 = .ok (.isub, 1) := by decide +kernel
theorem dX7_readNumber_65 : decode cX7_readNumber 65 = .ok (.iload_n 2, 1) := by decide +kernel
theorem dX7_readNumber_66 : decode cX7_readNumber 66 = .ok (.if_icmp .gt 26, 3) := by decide +kernel
theorem dX7_readNumber_69 : decode cX7_readNumber 69 = .ok (.bipush 10, 2) := by decide +kernel
theorem dX7_readNumber_71 : decode cX7_readNumber 71 = .ok (.iload_n 3, 1) := by decide +kernel
theorem dX7_readNumber_72 : decode cX7_readNumber 72 = .ok (.imul, 1) := by decide +kernel
theorem dX7_readNumber_73 : decode cX7_readNumber 73 = .ok (.aload_n 0, 1) := by decide +kernel
theorem dX7_readNumber_74 : decode cX7_readNumber 74 = .ok (.invokevirtual 164, 3) := by decide +kernel
theorem dX7_readNumber_77 : decode cX7_readNumber 77 = .ok (.iadd, 1) := by decide +kernel
theorem dX7_readNumber_78 : decode cX7_readNumber 78 = .ok (.bipush 48, 2) := by decide +kernel
theorem dX7_readNumber_80 : decode cX7_readNumber 80 = .ok (.isub, 1) := by decide +kernel
theorem dX7_readNumber_81 : decode cX7_readNumber 81 = .ok (.istore_n 3, 1) := by decide +kernel
theorem dX7_readNumber_82 : decode cX7_readNumber 82 = .ok (.aload_n 0, 1) := by decide +kernel
theorem dX7_readNumber_83 : decode cX7_readNumber 83 = .ok (.dup, 1) := by decide +kernel
theorem dX7_readNumber_84 : decode cX7_readNumber 84 = .ok (.getfield 161, 3) := by decide +kernel
theorem dX7_readNumber_87 : decode cX7_readNumber 87 = .ok (.iconst 1, 1) := by decide +kernel
theorem dX7_readNumber_88 : decode cX7_readNumber 88 = .ok (.iadd, 1) := by decide +kernel
theorem dX7_readNumber_89 : decode cX7_readNumber 89 = .ok (.putfield 161, 3) := by decide +kernel
theorem dX7_readNumber_92 : decode cX7_readNumber 92 = .ok (.iload_n 3, 1) := by decide +kernel
theorem dX7_readNumber_93 : decode cX7_readNumber 93 = .ok (.ireturn, 1) := by decide +kernel
theorem dX7_readsStroke_0 : decode cX7_readsStroke 0 = .ok (.iconst 5, 1) := by decide +kernel
theorem dX7_readsStroke_1 : decode cX7_readsStroke 1 = .ok (.aload_n 0, 1) := by decide +kernel
theorem dX7_readsStroke_2 : decode cX7_readsStroke 2 = .ok (.getfield 136, 3) := by decide +kernel
theorem dX7_readsStroke_5 : decode cX7_readsStroke 5 = .ok (.imul, 1) := by decide +kernel
theorem dX7_readsStroke_6 : decode cX7_readsStroke 6 = .ok (.istore_n 1, 1) := by decide +kernel
theorem dX7_readsStroke_7 : decode cX7_readsStroke 7 = .ok (.aload_n 0, 1) := by decide +kernel
theorem dX7_readsStroke_8 : decode cX7_readsStroke 8 = .ok (.bipush 45, 2) := by decide +kernel
theorem dX7_readsStroke_10 : decode cX7_readsStroke 10 = .ok (.invokevirtual 167, 3) := by decide +kernel
theorem dX7_readsStroke_13 : decode cX7_readsStroke 13 = .ok (.istore_n 2, 1) := by decide +kernel
theorem dX7_readsStroke_14 : decode cX7_readsStroke 14 = .ok (.aload_n 0, 1) := by decide +kernel
theorem dX7_readsStroke_15 : decode cX7_readsStroke 15 = .ok (.iload_n 2, 1) := by decide +kernel
theorem dX7_readsStroke_16 : decode cX7_readsStroke 16 = .ok (.ifCond .eq 7, 3) := by decide +kernel
theorem dX7_readsStroke_19 : decode cX7_readsStroke 19 = .ok (.iconst 1, 1) := by decide +kernel
theorem dX7_readsStroke_20 : decode cX7_readsStroke 20 = .ok (.goto 4, 3) := by decide +kernel
theorem dX7_readsStroke_23 : decode cX7_readsStroke 23 = .ok (.iconst 0, 1) := by decide +kernel
theorem dX7_readsStroke_24 : decode cX7_readsStroke 24 = .ok (.bipush 45, 2) := by decide +kernel
theorem dX7_readsStroke_26 : decode cX7_readsStroke 26 = .ok (.invokevirtual 170, 3) := by decide +kernel
theorem dX7_readsStroke_29 : decode cX7_readsStroke 29 = .ok (.istore_n 3, 1) := by decide +kernel
theorem dX7_readsStroke_30 : decode cX7_readsStroke 30 = .ok (.iload_n 3, 1) := by decide +kernel
theorem dX7_readsStroke_31 : decode cX7_readsStroke 31 = .ok (.iconst (-1), 1) := by decide +kernel
theorem dX7_readsStroke_32 : decode cX7_readsStroke 32 = .ok (.if_icmp .eq 12, 3) := by decide +kernel
theorem dX7_readsStroke_35 : decode cX7_readsStroke 35 = .ok (.aload_n 0, 1) := by decide +kernel
theorem dX7_readsStroke_36 : decode cX7_readsStroke 36 = .ok (.bipush 58, 2) := by decide +kernel
theorem dX7_readsStroke_38 : decode cX7_readsStroke 38 = .ok (.invokevirtual 167, 3) := by decide +kernel
theorem dX7_readsStroke_41 : decode cX7_readsStroke 41 = .ok (.ifCond .ne 5, 3) := by decide +kernel
theorem dX7_readsStroke_44 : decode cX7_readsStroke 44 = .ok (.iconst 0, 1) := by decide +kernel
theorem dX7_readsStroke_45 : decode cX7_readsStroke 45 = .ok (.ireturn, 1) := by decide +kernel
theorem dX7_readsStroke_46 : decode cX7_readsStroke 46 = .ok (.aload_n 0, 1) := by decide +kernel
theorem dX7_readsStroke_47 : decode cX7_readsStroke 47 = .ok (.iconst 1, 1) := by decide +kernel
theorem dX7_readsStroke_48 : decode cX7_readsStroke 48 = .ok (.bipush 60, 2) := by decide +kernel
theorem dX7_readsStroke_50 : decode cX7_readsStroke 50 = .ok (.invokevirtual 170, 3) := by decide +kernel
theorem dX7_readsStroke_53 : decode cX7_readsStroke 53 = .ok (.istore 4, 2) := by decide +kernel
theorem dX7_readsStroke_55 : decode cX7_readsStroke 55 = .ok (.iload 4, 2) := by decide +kernel
theorem dX7_readsStroke_57 : decode cX7_readsStroke 57 = .ok (.iconst (-1), 1) := by decide +kernel
theorem dX7_readsStroke_58 : decode cX7_readsStroke 58 = .ok (.if_icmp .eq 16, 3) := by decide +kernel
theorem dX7_readsStroke_61 : decode cX7_readsStroke 61 = .ok (.aload_n 0, 1) := by decide +kernel
theorem dX7_readsStroke_62 : decode cX7_readsStroke 62 = .ok (.bipush 111, 2) := by decide +kernel
theorem dX7_readsStroke_64 : decode cX7_readsStroke 64 = .ok (.invokevirtual 167, 3) := by decide +kernel
theorem dX7_readsStroke_67 : decode cX7_readsStroke 67 = .ok (.ifCond .eq 7, 3) := by decide +kernel
theorem dX7_readsStroke_70 : decode cX7_readsStroke 70 = .ok (.iconst 1, 1) := by decide +kernel
theorem dX7_readsStroke_71 : decode cX7_readsStroke 71 = .ok (.goto 4, 3) := by decide +kernel
theorem dX7_readsStroke_74 : decode cX7_readsStroke 74 = .ok (.iconst 0, 1) := by decide +kernel
theorem dX7_readsStroke_75 : decode cX7_readsStroke 75 = .ok (.istore 5, 2) := by decide +kernel
theorem dX7_readsStroke_77 : decode cX7_readsStroke 77 = .ok (.iload 4, 2) := by decide +kernel
theorem dX7_readsStroke_79 : decode cX7_readsStroke 79 = .ok (.iconst (-1), 1) := by decide +kernel
theorem dX7_readsStroke_80 : decode cX7_readsStroke 80 = .ok (.if_icmp .eq 12, 3) := by decide +kernel
theorem dX7_readsStroke_83 : decode cX7_readsStroke 83 = .ok (.aload_n 0, 1) := by decide +kernel
theorem dX7_readsStroke_84 : decode cX7_readsStroke 84 = .ok (.bipush 112, 2) := by decide +kernel
theorem dX7_readsStroke_86 : decode cX7_readsStroke 86 = .ok (.invokevirtual 167, 3) := by decide +kernel
theorem dX7_readsStroke_89 : decode cX7_readsStroke 89 = .ok (.ifCond .ne 5, 3) := by decide +kernel
theorem dX7_readsStroke_92 : decode cX7_readsStroke 92 = .ok (.iconst 0, 1) := by decide +kernel
theorem dX7_readsStroke_93 : decode cX7_readsStroke 93 = .ok (.ireturn, 1) := by decide +kernel
theorem dX7_readsStroke_94 : decode cX7_readsStroke 94 = .ok (.aload_n 0, 1) := by decide +kernel
theorem dX7_readsStroke_95 : decode cX7_readsStroke 95 = .ok (.iconst 1, 1) := by decide +kernel
theorem dX7_readsStroke_96 : decode cX7_readsStroke 96 = .ok (.bipush 9, 2) := by decide +kernel
theorem dX7_readsStroke_98 : decode cX7_readsStroke 98 = .ok (.invokevirtual 170, 3) := by decide +kernel
theorem dX7_readsStroke_101 : decode cX7_readsStroke 101 = .ok (.istore 6, 2) := by decide +kernel
theorem dX7_readsStroke_103 : decode cX7_readsStroke 103 = .ok (.iload 6, 2) := by decide +kernel
theorem dX7_readsStroke_105 : decode cX7_readsStroke 105 = .ok (.iconst (-1), 1) := by decide +kernel
theorem dX7_readsStroke_106 : decode cX7_readsStroke 106 = .ok (.if_icmp .eq 16, 3) := by decide +kernel
theorem dX7_readsStroke_109 : decode cX7_readsStroke 109 = .ok (.aload_n 0, 1) := by decide +kernel
theorem dX7_readsStroke_110 : decode cX7_readsStroke 110 = .ok (.bipush 126, 2) := by decide +kernel
theorem dX7_readsStroke_112 : decode cX7_readsStroke 112 = .ok (.invokevirtual 167, 3) := by decide +kernel
theorem dX7_readsStroke_115 : decode cX7_readsStroke 115 = .ok (.ifCond .eq 7, 3) := by decide +kernel
theorem dX7_readsStroke_118 : decode cX7_readsStroke 118 = .ok (.iconst 1, 1) := by decide +kernel
theorem dX7_readsStroke_119 : decode cX7_readsStroke 119 = .ok (.goto 4, 3) := by decide +kernel
theorem dX7_readsStroke_122 : decode cX7_readsStroke 122 = .ok (.iconst 0, 1) := by decide +kernel
theorem dX7_readsStroke_123 : decode cX7_readsStroke 123 = .ok (.istore 7, 2) := by decide +kernel
theorem dX7_readsStroke_125 : decode cX7_readsStroke 125 = .ok (.iload 7, 2) := by decide +kernel
theorem dX7_readsStroke_127 : decode cX7_readsStroke 127 = .ok (.ifCond .eq 13, 3) := by decide +kernel
theorem dX7_readsStroke_130 : decode cX7_readsStroke 130 = .ok (.aload_n 0, 1) := by decide +kernel
theorem dX7_readsStroke_131 : decode cX7_readsStroke 131 = .ok (.iconst 1, 1) := by decide +kernel
theorem dX7_readsStroke_132 : decode cX7_readsStroke 132 = .ok (.bipush 9, 2) := by decide +kernel
theorem dX7_readsStroke_134 : decode cX7_readsStroke 134 = .ok (.invokevirtual 170, 3) := by decide +kernel
theorem dX7_readsStroke_137 : decode cX7_readsStroke 137 = .ok (.goto 4, 3) := by decide +kernel
theorem dX7_readsStroke_140 : decode cX7_readsStroke 140 = .ok (.iconst 0, 1) := by decide +kernel
theorem dX7_readsStroke_141 : decode cX7_readsStroke 141 = .ok (.istore 8, 2) := by decide +kernel
theorem dX7_readsStroke_143 : decode cX7_readsStroke 143 = .ok (.aload_n 0, 1) := by decide +kernel
theorem dX7_readsStroke_144 : decode cX7_readsStroke 144 = .ok (.getfield 25, 3) := by decide +kernel
theorem dX7_readsStroke_147 : decode cX7_readsStroke 147 = .ok (.iload_n 1, 1) := by decide +kernel
theorem dX7_readsStroke_148 : decode cX7_readsStroke 148 = .ok (.iconst 0, 1) := by decide +kernel
theorem dX7_readsStroke_149 : decode cX7_readsStroke 149 = .ok (.iadd, 1) := by decide +kernel
theorem dX7_readsStroke_150 : decode cX7_readsStroke 150 = .ok (.iload_n 2, 1) := by decide +kernel
theorem dX7_readsStroke_151 : decode cX7_readsStroke 151 = .ok (.ifCond .eq 8, 3) := by decide +kernel
theorem dX7_readsStroke_154 : decode cX7_readsStroke 154 = .ok (.iload_n 3, 1) := by decide +kernel
theorem dX7_readsStroke_155 : decode cX7_readsStroke 155 = .ok (.ineg, 1) := by decide +kernel
theorem dX7_readsStroke_156 : decode cX7_readsStroke 156 = .ok (.goto 4, 3) := by decide +kernel
theorem dX7_readsStroke_159 : decode cX7_readsStroke 159 = .ok (.iload_n 3, 1) := by decide +kernel
theorem dX7_readsStroke_160 : decode cX7_readsStroke 160 = .ok (.iastore, 1) := by decide +kernel
theorem dX7_readsStroke_161 : decode cX7_readsStroke 161 = .ok (.aload_n 0, 1) := by decide +kernel
theorem dX7_readsStroke_162 : decode cX7_readsStroke 162 = .ok (.getfield 25, 3) := by decide +kernel
theorem dX7_readsStroke_165 : decode cX7_readsStroke 165 = .ok (.iload_n 1, 1) := by decide +kernel
theorem dX7_readsStroke_166 : decode cX7_readsStroke 166 = .ok (.iconst 1, 1) := by decide +kernel
theorem dX7_readsStroke_167 : decode cX7_readsStroke 167 = .ok (.iadd, 1) := by decide +kernel
theorem dX7_readsStroke_168 : decode cX7_readsStroke 168 = .ok (.iload 4, 2) := by decide +kernel
theorem dX7_readsStroke_170 : decode cX7_readsStroke 170 = .ok (.iastore, 1) := by decide +kernel
theorem dX7_readsStroke_171 : decode cX7_readsStroke 171 = .ok (.aload_n 0, 1) := by decide +kernel
theorem dX7_readsStroke_172 : decode cX7_readsStroke 172 = .ok (.getfield 25, 3) := by decide +kernel
theorem dX7_readsStroke_175 : decode cX7_readsStroke 175 = .ok (.iload_n 1, 1) := by decide +kernel
theorem dX7_readsStroke_176 : decode cX7_readsStroke 176 = .ok (.iconst 2, 1) := by decide +kernel
theorem dX7_readsStroke_177 : decode cX7_readsStroke 177 = .ok (.iadd, 1) := by decide +kernel
theorem dX7_readsStroke_178 : decode cX7_readsStroke 178 = .ok (.iload 5, 2) := by decide +kernel
theorem dX7_readsStroke_180 : decode cX7_readsStroke 180 = .ok (.ifCond .eq 7, 3) := by decide +kernel
theorem dX7_readsStroke_183 : decode cX7_readsStroke 183 = .ok (.iconst 1, 1) := by decide +kernel
theorem dX7_readsStroke_184 : decode cX7_readsStroke 184 = .ok (.goto 4, 3) := by decide +kernel
theorem dX7_readsStroke_187 : decode cX7_readsStroke 187 = .ok (.iconst 0, 1) := by decide +kernel
theorem dX7_readsStroke_188 : decode cX7_readsStroke 188 = .ok (.iastore, 1) := by decide +kernel
theorem dX7_readsStroke_189 : decode cX7_readsStroke 189 = .ok (.aload_n 0, 1) := by decide +kernel
theorem dX7_readsStroke_190 : decode cX7_readsStroke 190 = .ok (.getfield 25, 3) := by decide +kernel
theorem dX7_readsStroke_193 : decode cX7_readsStroke 193 = .ok (.iload_n 1, 1) := by decide +kernel
theorem dX7_readsStroke_194 : decode cX7_readsStroke 194 = .ok (.iconst 3, 1) := by decide +kernel
theorem dX7_readsStroke_195 : decode cX7_readsStroke 195 = .ok (.iadd, 1) := by decide +kernel
theorem dX7_readsStroke_196 : decode cX7_readsStroke 196 = .ok (.iload 6, 2) := by decide +kernel
theorem dX7_readsStroke_198 : decode cX7_readsStroke 198 = .ok (.iastore, 1) := by decide +kernel
theorem dX7_readsStroke_199 : decode cX7_readsStroke 199 = .ok (.aload_n 0, 1) := by decide +kernel
theorem dX7_readsStroke_200 : decode cX7_readsStroke 200 = .ok (.getfield 25, 3) := by decide +kernel
theorem dX7_readsStroke_203 : decode cX7_readsStroke 203 = .ok (.iload_n 1, 1) := by decide +kernel
theorem dX7_readsStroke_204 : decode cX7_readsStroke 204 = .ok (.iconst 4, 1) := by decide +kernel
theorem dX7_readsStroke_205 : decode cX7_readsStroke 205 = .ok (.iadd, 1) := by decide +kernel
theorem dX7_readsStroke_206 : decode cX7_readsStroke 206 = .ok (.iload 8, 2) := by decide +kernel
theorem dX7_readsStroke_208 : decode cX7_readsStroke 208 = .ok (.iastore, 1) := by decide +kernel
theorem dX7_readsStroke_209 : decode cX7_readsStroke 209 = .ok (.aload_n 0, 1) := by decide +kernel
theorem dX7_readsStroke_210 : decode cX7_readsStroke 210 = .ok (.dup, 1) := by decide +kernel
theorem dX7_readsStroke_211 : decode cX7_readsStroke 211 = .ok (.getfield 136, 3) := by decide +kernel
theorem dX7_readsStroke_214 : decode cX7_readsStroke 214 = .ok (.iconst 1, 1) := by decide +kernel
theorem dX7_readsStroke_215 : decode cX7_readsStroke 215 = .ok (.iadd, 1) := by decide +kernel
theorem dX7_readsStroke_216 : decode cX7_readsStroke 216 = .ok (.putfield 136, 3) := by decide +kernel
theorem dX7_readsStroke_219 : decode cX7_readsStroke 219 = .ok (.iload 6, 2) := by decide +kernel
theorem dX7_readsStroke_221 : decode cX7_readsStroke 221 = .ok (.iconst (-1), 1) := by decide +kernel
theorem dX7_readsStroke_222 : decode cX7_readsStroke 222 = .ok (.if_icmp .eq 13, 3) := by decide +kernel
theorem dX7_readsStroke_225 : decode cX7_readsStroke 225 = .ok (.iload 8, 2) := by decide +kernel
theorem dX7_readsStroke_227 : decode cX7_readsStroke 227 = .ok (.iconst (-1), 1) := by decide +kernel
theorem dX7_readsStroke_228 : decode cX7_readsStroke 228 = .ok (.if_icmp .eq 7, 3) := by decide +kernel
theorem dX7_readsStroke_231 : decode cX7_readsStroke 231 = .ok (.iconst 1, 1) := by decide +kernel
theorem dX7_readsStroke_232 : decode cX7_readsStroke 232 = .ok (.goto 4, 3) := by decide +kernel
theorem dX7_readsStroke_235 : decode cX7_readsStroke 235 = .ok (.iconst 0, 1) := by decide +kernel
theorem dX7_readsStroke_236 : decode cX7_readsStroke 236 = .ok (.ireturn, 1) := by decide +kernel
theorem dX7_findSheetError_0 : decode cX7_findSheetError 0 = .ok (.aload_n 0, 1) := by decide +kernel
theorem dX7_findSheetError_1 : decode cX7_findSheetError 1 = .ok (.iconst 0, 1) := by decide +kernel
theorem dX7_findSheetError_2 : decode cX7_findSheetError 2 = .ok (.putfield 161, 3) := by decide +kernel
theorem dX7_findSheetError_5 : decode cX7_findSheetError 5 = .ok (.aload_n 0, 1) := by decide +kernel
theorem dX7_findSheetError_6 : decode cX7_findSheetError 6 = .ok (.iconst 0, 1) := by decide +kernel
theorem dX7_findSheetError_7 : decode cX7_findSheetError 7 = .ok (.putfield 136, 3) := by decide +kernel
theorem dX7_findSheetError_10 : decode cX7_findSheetError 10 = .ok (.aload_n 0, 1) := by decide +kernel
theorem dX7_findSheetError_11 : decode cX7_findSheetError 11 = .ok (.invokevirtual 173, 3) := by decide +kernel
theorem dX7_findSheetError_14 : decode cX7_findSheetError 14 = .ok (.ifCond .eq 39, 3) := by decide +kernel
theorem dX7_findSheetError_17 : decode cX7_findSheetError 17 = .ok (.aload_n 0, 1) := by decide +kernel
theorem dX7_findSheetError_18 : decode cX7_findSheetError 18 = .ok (.getfield 161, 3) := by decide +kernel
theorem dX7_findSheetError_21 : decode cX7_findSheetError 21 = .ok (.aload_n 0, 1) := by decide +kernel
theorem dX7_findSheetError_22 : decode cX7_findSheetError 22 = .ok (.getfield 139, 3) := by decide +kernel
theorem dX7_findSheetError_25 : decode cX7_findSheetError 25 = .ok (.if_icmp .ne 5, 3) := by decide +kernel
theorem dX7_findSheetError_28 : decode cX7_findSheetError 28 = .ok (.iconst (-1), 1) := by decide +kernel
theorem dX7_findSheetError_29 : decode cX7_findSheetError 29 = .ok (.ireturn, 1) := by decide +kernel
theorem dX7_findSheetError_30 : decode cX7_findSheetError 30 = .ok (.aload_n 0, 1) := by decide +kernel
theorem dX7_findSheetError_31 : decode cX7_findSheetError 31 = .ok (.getfield 136, 3) := by decide +kernel
theorem dX7_findSheetError_34 : decode cX7_findSheetError 34 = .ok (.bipush 8, 2) := by decide +kernel
theorem dX7_findSheetError_36 : decode cX7_findSheetError 36 = .ok (.if_icmp .eq 12, 3) := by decide +kernel
theorem dX7_findSheetError_39 : decode cX7_findSheetError 39 = .ok (.aload_n 0, 1) := by decide +kernel
theorem dX7_findSheetError_40 : decode cX7_findSheetError 40 = .ok (.bipush 44, 2) := by decide +kernel
theorem dX7_findSheetError_42 : decode cX7_findSheetError 42 = .ok (.invokevirtual 167, 3) := by decide +kernel
theorem dX7_findSheetError_45 : decode cX7_findSheetError 45 = .ok (.ifCond .ne (-35), 3) := by decide +kernel
theorem dX7_findSheetError_48 : decode cX7_findSheetError 48 = .ok (.aload_n 0, 1) := by decide +kernel
theorem dX7_findSheetError_49 : decode cX7_findSheetError 49 = .ok (.getfield 161, 3) := by decide +kernel
theorem dX7_findSheetError_52 : decode cX7_findSheetError 52 = .ok (.ireturn, 1) := by decide +kernel
theorem dX7_findSheetError_53 : decode cX7_findSheetError 53 = .ok (.aload_n 0, 1) := by decide +kernel
theorem dX7_findSheetError_54 : decode cX7_findSheetError 54 = .ok (.getfield 161, 3) := by decide +kernel
theorem dX7_findSheetError_57 : decode cX7_findSheetError 57 = .ok (.ireturn, 1) := by decide +kernel
theorem dX7_isSheetText_0 : decode cX7_isSheetText 0 = .ok (.aload_n 0, 1) := by decide +kernel
theorem dX7_isSheetText_1 : decode cX7_isSheetText 1 = .ok (.invokevirtual 176, 3) := by decide +kernel
theorem dX7_isSheetText_4 : decode cX7_isSheetText 4 = .ok (.iconst (-1), 1) := by decide +kernel
theorem dX7_isSheetText_5 : decode cX7_isSheetText 5 = .ok (.if_icmp .ne 7, 3) := by decide +kernel
theorem dX7_isSheetText_8 : decode cX7_isSheetText 8 = .ok (.iconst 1, 1) := by decide +kernel
theorem dX7_isSheetText_9 : decode cX7_isSheetText 9 = .ok (.goto 4, 3) := by decide +kernel
theorem dX7_isSheetText_12 : decode cX7_isSheetText 12 = .ok (.iconst 0, 1) := by decide +kernel
theorem dX7_isSheetText_13 : decode cX7_isSheetText 13 = .ok (.ireturn, 1) := by decide +kernel
theorem dX7_readsPart_0 : decode cX7_readsPart 0 = .ok (.aload_n 0, 1) := by decide +kernel
theorem dX7_readsPart_1 : decode cX7_readsPart 1 = .ok (.aload_n 0, 1) := by decide +kernel
theorem dX7_readsPart_2 : decode cX7_readsPart 2 = .ok (.invokevirtual 164, 3) := by decide +kernel
theorem dX7_readsPart_5 : decode cX7_readsPart 5 = .ok (.putfield 179, 3) := by decide +kernel
theorem dX7_readsPart_8 : decode cX7_readsPart 8 = .ok (.aload_n 0, 1) := by decide +kernel
theorem dX7_readsPart_9 : decode cX7_readsPart 9 = .ok (.getfield 179, 3) := by decide +kernel
theorem dX7_readsPart_12 : decode cX7_readsPart 12 = .ok (.bipush 108, 2) := by decide +kernel
theorem dX7_readsPart_14 : decode cX7_readsPart 14 = .ok (.if_icmp .eq 32, 3) := by decide +kernel
theorem dX7_readsPart_17 : decode cX7_readsPart 17 = .ok (.aload_n 0, 1) := by decide +kernel
theorem dX7_readsPart_18 : decode cX7_readsPart 18 = .ok (.getfield 179, 3) := by decide +kernel
theorem dX7_readsPart_21 : decode cX7_readsPart 21 = .ok (.bipush 117, 2) := by decide +kernel
theorem dX7_readsPart_23 : decode cX7_readsPart 23 = .ok (.if_icmp .eq 23, 3) := by decide +kernel
theorem dX7_readsPart_26 : decode cX7_readsPart 26 = .ok (.aload_n 0, 1) := by decide +kernel
theorem dX7_readsPart_27 : decode cX7_readsPart 27 = .ok (.getfield 179, 3) := by decide +kernel
theorem dX7_readsPart_30 : decode cX7_readsPart 30 = .ok (.bipush 121, 2) := by decide +kernel
theorem dX7_readsPart_32 : decode cX7_readsPart 32 = .ok (.if_icmp .eq 14, 3) := by decide +kernel
theorem dX7_readsPart_35 : decode cX7_readsPart 35 = .ok (.aload_n 0, 1) := by decide +kernel
theorem dX7_readsPart_36 : decode cX7_readsPart 36 = .ok (.getfield 179, 3) := by decide +kernel
theorem dX7_readsPart_39 : decode cX7_readsPart 39 = .ok (.bipush 100, 2) := by decide +kernel
theorem dX7_readsPart_41 : decode cX7_readsPart 41 = .ok (.if_icmp .eq 5, 3) := by decide +kernel
theorem dX7_readsPart_44 : decode cX7_readsPart 44 = .ok (.iconst 0, 1) := by decide +kernel
theorem dX7_readsPart_45 : decode cX7_readsPart 45 = .ok (.ireturn, 1) := by decide +kernel
theorem dX7_readsPart_46 : decode cX7_readsPart 46 = .ok (.aload_n 0, 1) := by decide +kernel
theorem dX7_readsPart_47 : decode cX7_readsPart 47 = .ok (.dup, 1) := by decide +kernel
theorem dX7_readsPart_48 : decode cX7_readsPart 48 = .ok (.getfield 161, 3) := by decide +kernel
theorem dX7_readsPart_51 : decode cX7_readsPart 51 = .ok (.iconst 1, 1) := by decide +kernel
theorem dX7_readsPart_52 : decode cX7_readsPart 52 = .ok (.iadd, 1) := by decide +kernel
theorem dX7_readsPart_53 : decode cX7_readsPart 53 = .ok (.putfield 161, 3) := by decide +kernel
theorem dX7_readsPart_56 : decode cX7_readsPart 56 = .ok (.aload_n 0, 1) := by decide +kernel
theorem dX7_readsPart_57 : decode cX7_readsPart 57 = .ok (.aload_n 0, 1) := by decide +kernel
theorem dX7_readsPart_58 : decode cX7_readsPart 58 = .ok (.getfield 179, 3) := by decide +kernel
theorem dX7_readsPart_61 : decode cX7_readsPart 61 = .ok (.bipush 121, 2) := by decide +kernel
theorem dX7_readsPart_63 : decode cX7_readsPart 63 = .ok (.if_icmp .ne 13, 3) := by decide +kernel
theorem dX7_readsPart_66 : decode cX7_readsPart 66 = .ok (.aload_n 0, 1) := by decide +kernel
theorem dX7_readsPart_67 : decode cX7_readsPart 67 = .ok (.iconst 1, 1) := by decide +kernel
theorem dX7_readsPart_68 : decode cX7_readsPart 68 = .ok (.bipush 99, 2) := by decide +kernel
theorem dX7_readsPart_70 : decode cX7_readsPart 70 = .ok (.invokevirtual 170, 3) := by decide +kernel
theorem dX7_readsPart_73 : decode cX7_readsPart 73 = .ok (.goto 10, 3) := by decide +kernel
theorem dX7_readsPart_76 : decode cX7_readsPart 76 = .ok (.aload_n 0, 1) := by decide +kernel
theorem dX7_readsPart_77 : decode cX7_readsPart 77 = .ok (.iconst 0, 1) := by decide +kernel
theorem dX7_readsPart_78 : decode cX7_readsPart 78 = .ok (.bipush 7, 2) := by decide +kernel
theorem dX7_readsPart_80 : decode cX7_readsPart 80 = .ok (.invokevirtual 170, 3) := by decide +kernel
theorem dX7_readsPart_83 : decode cX7_readsPart 83 = .ok (.putfield 182, 3) := by decide +kernel
theorem dX7_readsPart_86 : decode cX7_readsPart 86 = .ok (.aload_n 0, 1) := by decide +kernel
theorem dX7_readsPart_87 : decode cX7_readsPart 87 = .ok (.getfield 182, 3) := by decide +kernel
theorem dX7_readsPart_90 : decode cX7_readsPart 90 = .ok (.iconst (-1), 1) := by decide +kernel
theorem dX7_readsPart_91 : decode cX7_readsPart 91 = .ok (.if_icmp .eq 21, 3) := by decide +kernel
theorem dX7_readsPart_94 : decode cX7_readsPart 94 = .ok (.aload_n 0, 1) := by decide +kernel
theorem dX7_readsPart_95 : decode cX7_readsPart 95 = .ok (.getfield 179, 3) := by decide +kernel
theorem dX7_readsPart_98 : decode cX7_readsPart 98 = .ok (.bipush 121, 2) := by decide +kernel
theorem dX7_readsPart_100 : decode cX7_readsPart 100 = .ok (.if_icmp .eq 12, 3) := by decide +kernel
theorem dX7_readsPart_103 : decode cX7_readsPart 103 = .ok (.aload_n 0, 1) := by decide +kernel
theorem dX7_readsPart_104 : decode cX7_readsPart 104 = .ok (.getfield 179, 3) := by decide +kernel
theorem dX7_readsPart_107 : decode cX7_readsPart 107 = .ok (.bipush 100, 2) := by decide +kernel
theorem dX7_readsPart_109 : decode cX7_readsPart 109 = .ok (.if_icmp .ne 17, 3) := by decide +kernel
theorem dX7_readsPart_112 : decode cX7_readsPart 112 = .ok (.aload_n 0, 1) := by decide +kernel
theorem dX7_readsPart_113 : decode cX7_readsPart 113 = .ok (.getfield 182, 3) := by decide +kernel
theorem dX7_readsPart_116 : decode cX7_readsPart 116 = .ok (.iconst (-1), 1) := by decide +kernel
theorem dX7_readsPart_117 : decode cX7_readsPart 117 = .ok (.if_icmp .eq 7, 3) := by decide +kernel
theorem dX7_readsPart_120 : decode cX7_readsPart 120 = .ok (.iconst 1, 1) := by decide +kernel
theorem dX7_readsPart_121 : decode cX7_readsPart 121 = .ok (.goto 4, 3) := by decide +kernel
theorem dX7_readsPart_124 : decode cX7_readsPart 124 = .ok (.iconst 0, 1) := by decide +kernel
theorem dX7_readsPart_125 : decode cX7_readsPart 125 = .ok (.ireturn, 1) := by decide +kernel
theorem dX7_readsPart_126 : decode cX7_readsPart 126 = .ok (.aload_n 0, 1) := by decide +kernel
theorem dX7_readsPart_127 : decode cX7_readsPart 127 = .ok (.bipush 47, 2) := by decide +kernel
theorem dX7_readsPart_129 : decode cX7_readsPart 129 = .ok (.invokevirtual 167, 3) := by decide +kernel
theorem dX7_readsPart_132 : decode cX7_readsPart 132 = .ok (.ifCond .ne 5, 3) := by decide +kernel
theorem dX7_readsPart_135 : decode cX7_readsPart 135 = .ok (.iconst 0, 1) := by decide +kernel
theorem dX7_readsPart_136 : decode cX7_readsPart 136 = .ok (.ireturn, 1) := by decide +kernel
theorem dX7_readsPart_137 : decode cX7_readsPart 137 = .ok (.aload_n 0, 1) := by decide +kernel
theorem dX7_readsPart_138 : decode cX7_readsPart 138 = .ok (.aload_n 0, 1) := by decide +kernel
theorem dX7_readsPart_139 : decode cX7_readsPart 139 = .ok (.iconst 0, 1) := by decide +kernel
theorem dX7_readsPart_140 : decode cX7_readsPart 140 = .ok (.bipush 7, 2) := by decide +kernel
theorem dX7_readsPart_142 : decode cX7_readsPart 142 = .ok (.invokevirtual 170, 3) := by decide +kernel
theorem dX7_readsPart_145 : decode cX7_readsPart 145 = .ok (.putfield 185, 3) := by decide +kernel
theorem dX7_readsPart_148 : decode cX7_readsPart 148 = .ok (.aload_n 0, 1) := by decide +kernel
theorem dX7_readsPart_149 : decode cX7_readsPart 149 = .ok (.getfield 185, 3) := by decide +kernel
theorem dX7_readsPart_152 : decode cX7_readsPart 152 = .ok (.iconst (-1), 1) := by decide +kernel
theorem dX7_readsPart_153 : decode cX7_readsPart 153 = .ok (.if_icmp .eq 7, 3) := by decide +kernel
theorem dX7_readsPart_156 : decode cX7_readsPart 156 = .ok (.iconst 1, 1) := by decide +kernel
theorem dX7_readsPart_157 : decode cX7_readsPart 157 = .ok (.goto 4, 3) := by decide +kernel
theorem dX7_readsPart_160 : decode cX7_readsPart 160 = .ok (.iconst 0, 1) := by decide +kernel
theorem dX7_readsPart_161 : decode cX7_readsPart 161 = .ok (.ireturn, 1) := by decide +kernel
theorem dX7_findWorksError_0 : decode cX7_findWorksError 0 = .ok (.aload_n 0, 1) := by decide +kernel
theorem dX7_findWorksError_1 : decode cX7_findWorksError 1 = .ok (.iconst 0, 1) := by decide +kernel
theorem dX7_findWorksError_2 : decode cX7_findWorksError 2 = .ok (.putfield 161, 3) := by decide +kernel
theorem dX7_findWorksError_5 : decode cX7_findWorksError 5 = .ok (.aload_n 0, 1) := by decide +kernel
theorem dX7_findWorksError_6 : decode cX7_findWorksError 6 = .ok (.invokevirtual 188, 3) := by decide +kernel
theorem dX7_findWorksError_9 : decode cX7_findWorksError 9 = .ok (.ifCond .eq 30, 3) := by decide +kernel
theorem dX7_findWorksError_12 : decode cX7_findWorksError 12 = .ok (.aload_n 0, 1) := by decide +kernel
theorem dX7_findWorksError_13 : decode cX7_findWorksError 13 = .ok (.getfield 161, 3) := by decide +kernel
theorem dX7_findWorksError_16 : decode cX7_findWorksError 16 = .ok (.aload_n 0, 1) := by decide +kernel
theorem dX7_findWorksError_17 : decode cX7_findWorksError 17 = .ok (.getfield 139, 3) := by decide +kernel
theorem dX7_findWorksError_20 : decode cX7_findWorksError 20 = .ok (.if_icmp .ne 5, 3) := by decide +kernel
theorem dX7_findWorksError_23 : decode cX7_findWorksError 23 = .ok (.iconst (-1), 1) := by decide +kernel
theorem dX7_findWorksError_24 : decode cX7_findWorksError 24 = .ok (.ireturn, 1) := by decide +kernel
theorem dX7_findWorksError_25 : decode cX7_findWorksError 25 = .ok (.aload_n 0, 1) := by decide +kernel
theorem dX7_findWorksError_26 : decode cX7_findWorksError 26 = .ok (.bipush 59, 2) := by decide +kernel
theorem dX7_findWorksError_28 : decode cX7_findWorksError 28 = .ok (.invokevirtual 167, 3) := by decide +kernel
theorem dX7_findWorksError_31 : decode cX7_findWorksError 31 = .ok (.ifCond .ne (-26), 3) := by decide +kernel
theorem dX7_findWorksError_34 : decode cX7_findWorksError 34 = .ok (.aload_n 0, 1) := by decide +kernel
theorem dX7_findWorksError_35 : decode cX7_findWorksError 35 = .ok (.getfield 161, 3) := by decide +kernel
theorem dX7_findWorksError_38 : decode cX7_findWorksError 38 = .ok (.ireturn, 1) := by decide +kernel
theorem dX7_findWorksError_39 : decode cX7_findWorksError 39 = .ok (.aload_n 0, 1) := by decide +kernel
theorem dX7_findWorksError_40 : decode cX7_findWorksError 40 = .ok (.getfield 161, 3) := by decide +kernel
theorem dX7_findWorksError_43 : decode cX7_findWorksError 43 = .ok (.ireturn, 1) := by decide +kernel
theorem dX7_firstError_0 : decode cX7_firstError 0 = .ok (.aload_n 0, 1) := by decide +kernel
theorem dX7_firstError_1 : decode cX7_firstError 1 = .ok (.iconst 0, 1) := by decide +kernel
theorem dX7_firstError_2 : decode cX7_firstError 2 = .ok (.putfield 31, 3) := by decide +kernel
theorem dX7_firstError_5 : decode cX7_firstError 5 = .ok (.iload_n 1, 1) := by decide +kernel
theorem dX7_firstError_6 : decode cX7_firstError 6 = .ok (.ifCond .eq 10, 3) := by decide +kernel
theorem dX7_firstError_9 : decode cX7_firstError 9 = .ok (.aload_n 0, 1) := by decide +kernel
theorem dX7_firstError_10 : decode cX7_firstError 10 = .ok (.invokevirtual 191, 3) := by decide +kernel
theorem dX7_firstError_13 : decode cX7_firstError 13 = .ok (.goto 7, 3) := by decide +kernel
theorem dX7_firstError_16 : decode cX7_firstError 16 = .ok (.aload_n 0, 1) := by decide +kernel
theorem dX7_firstError_17 : decode cX7_firstError 17 = .ok (.invokevirtual 176, 3) := by decide +kernel
theorem dX7_firstError_20 : decode cX7_firstError 20 = .ok (.istore_n 2, 1) := by decide +kernel
theorem dX7_firstError_21 : decode cX7_firstError 21 = .ok (.iload_n 2, 1) := by decide +kernel
theorem dX7_firstError_22 : decode cX7_firstError 22 = .ok (.iconst (-1), 1) := by decide +kernel
theorem dX7_firstError_23 : decode cX7_firstError 23 = .ok (.if_icmp .ne 10, 3) := by decide +kernel
theorem dX7_firstError_26 : decode cX7_firstError 26 = .ok (.aload_n 0, 1) := by decide +kernel
theorem dX7_firstError_27 : decode cX7_firstError 27 = .ok (.getfield 139, 3) := by decide +kernel
theorem dX7_firstError_30 : decode cX7_firstError 30 = .ok (.goto 4, 3) := by decide +kernel
theorem dX7_firstError_33 : decode cX7_firstError 33 = .ok (.iload_n 2, 1) := by decide +kernel
theorem dX7_firstError_34 : decode cX7_firstError 34 = .ok (.ireturn, 1) := by decide +kernel
theorem dX7_whyNotPart_0 : decode cX7_whyNotPart 0 = .ok (.aload_n 0, 1) := by decide +kernel
theorem dX7_whyNotPart_1 : decode cX7_whyNotPart 1 = .ok (.getfield 179, 3) := by decide +kernel
theorem dX7_whyNotPart_4 : decode cX7_whyNotPart 4 = .ok (.bipush 121, 2) := by decide +kernel
theorem dX7_whyNotPart_6 : decode cX7_whyNotPart 6 = .ok (.if_icmp .ne 5, 3) := by decide +kernel
theorem dX7_whyNotPart_9 : decode cX7_whyNotPart 9 = .ok (.iconst 0, 1) := by decide +kernel
theorem dX7_whyNotPart_10 : decode cX7_whyNotPart 10 = .ok (.ireturn, 1) := by decide +kernel
theorem dX7_whyNotPart_11 : decode cX7_whyNotPart 11 = .ok (.aload_n 0, 1) := by decide +kernel
theorem dX7_whyNotPart_12 : decode cX7_whyNotPart 12 = .ok (.aload_n 0, 1) := by decide +kernel
theorem dX7_whyNotPart_13 : decode cX7_whyNotPart 13 = .ok (.getfield 182, 3) := by decide +kernel
theorem dX7_whyNotPart_16 : decode cX7_whyNotPart 16 = .ok (.invokevirtual 142, 3) := by decide +kernel
theorem dX7_whyNotPart_19 : decode cX7_whyNotPart 19 = .ok (.ifCond .eq 23, 3) := by decide +kernel
theorem dX7_whyNotPart_22 : decode cX7_whyNotPart 22 = .ok (.aload_n 0, 1) := by decide +kernel
theorem dX7_whyNotPart_23 : decode cX7_whyNotPart 23 = .ok (.getfield 179, 3) := by decide +kernel
theorem dX7_whyNotPart_26 : decode cX7_whyNotPart 26 = .ok (.bipush 100, 2) := by decide +kernel
theorem dX7_whyNotPart_28 : decode cX7_whyNotPart 28 = .ok (.if_icmp .eq 17, 3) := by decide +kernel
theorem dX7_whyNotPart_31 : decode cX7_whyNotPart 31 = .ok (.aload_n 0, 1) := by decide +kernel
theorem dX7_whyNotPart_32 : decode cX7_whyNotPart 32 = .ok (.aload_n 0, 1) := by decide +kernel
theorem dX7_whyNotPart_33 : decode cX7_whyNotPart 33 = .ok (.getfield 185, 3) := by decide +kernel
theorem dX7_whyNotPart_36 : decode cX7_whyNotPart 36 = .ok (.invokevirtual 142, 3) := by decide +kernel
theorem dX7_whyNotPart_39 : decode cX7_whyNotPart 39 = .ok (.ifCond .ne 6, 3) := by decide +kernel
theorem dX7_whyNotPart_42 : decode cX7_whyNotPart 42 = .ok (.bipush 7, 2) := by decide +kernel
theorem dX7_whyNotPart_44 : decode cX7_whyNotPart 44 = .ok (.ireturn, 1) := by decide +kernel
theorem dX7_whyNotPart_45 : decode cX7_whyNotPart 45 = .ok (.aload_n 0, 1) := by decide +kernel
theorem dX7_whyNotPart_46 : decode cX7_whyNotPart 46 = .ok (.getfield 179, 3) := by decide +kernel
theorem dX7_whyNotPart_49 : decode cX7_whyNotPart 49 = .ok (.bipush 100, 2) := by decide +kernel
theorem dX7_whyNotPart_51 : decode cX7_whyNotPart 51 = .ok (.if_icmp .ne 7, 3) := by decide +kernel
theorem dX7_whyNotPart_54 : decode cX7_whyNotPart 54 = .ok (.iconst 0, 1) := by decide +kernel
theorem dX7_whyNotPart_55 : decode cX7_whyNotPart 55 = .ok (.goto 29, 3) := by decide +kernel
theorem dX7_whyNotPart_58 : decode cX7_whyNotPart 58 = .ok (.aload_n 0, 1) := by decide +kernel
theorem dX7_whyNotPart_59 : decode cX7_whyNotPart 59 = .ok (.aload_n 0, 1) := by decide +kernel
theorem dX7_whyNotPart_60 : decode cX7_whyNotPart 60 = .ok (.getfield 182, 3) := by decide +kernel
theorem dX7_whyNotPart_63 : decode cX7_whyNotPart 63 = .ok (.aload_n 0, 1) := by decide +kernel
theorem dX7_whyNotPart_64 : decode cX7_whyNotPart 64 = .ok (.getfield 185, 3) := by decide +kernel
theorem dX7_whyNotPart_67 : decode cX7_whyNotPart 67 = .ok (.aload_n 0, 1) := by decide +kernel
theorem dX7_whyNotPart_68 : decode cX7_whyNotPart 68 = .ok (.getfield 179, 3) := by decide +kernel
theorem dX7_whyNotPart_71 : decode cX7_whyNotPart 71 = .ok (.bipush 108, 2) := by decide +kernel
theorem dX7_whyNotPart_73 : decode cX7_whyNotPart 73 = .ok (.if_icmp .ne 7, 3) := by decide +kernel
theorem dX7_whyNotPart_76 : decode cX7_whyNotPart 76 = .ok (.iconst 1, 1) := by decide +kernel
theorem dX7_whyNotPart_77 : decode cX7_whyNotPart 77 = .ok (.goto 4, 3) := by decide +kernel
theorem dX7_whyNotPart_80 : decode cX7_whyNotPart 80 = .ok (.iconst 0, 1) := by decide +kernel
theorem dX7_whyNotPart_81 : decode cX7_whyNotPart 81 = .ok (.invokevirtual 154, 3) := by decide +kernel
theorem dX7_whyNotPart_84 : decode cX7_whyNotPart 84 = .ok (.ireturn, 1) := by decide +kernel
theorem dX7_doPart_0 : decode cX7_doPart 0 = .ok (.aload_n 0, 1) := by decide +kernel
theorem dX7_doPart_1 : decode cX7_doPart 1 = .ok (.getfield 179, 3) := by decide +kernel
theorem dX7_doPart_4 : decode cX7_doPart 4 = .ok (.bipush 121, 2) := by decide +kernel
theorem dX7_doPart_6 : decode cX7_doPart 6 = .ok (.if_icmp .ne 18, 3) := by decide +kernel
theorem dX7_doPart_9 : decode cX7_doPart 9 = .ok (.aload_n 0, 1) := by decide +kernel
theorem dX7_doPart_10 : decode cX7_doPart 10 = .ok (.aload_n 0, 1) := by decide +kernel
theorem dX7_doPart_11 : decode cX7_doPart 11 = .ok (.aload_n 0, 1) := by decide +kernel
theorem dX7_doPart_12 : decode cX7_doPart 12 = .ok (.getfield 182, 3) := by decide +kernel
theorem dX7_doPart_15 : decode cX7_doPart 15 = .ok (.invokevirtual 148, 3) := by decide +kernel
theorem dX7_doPart_18 : decode cX7_doPart 18 = .ok (.putfield 182, 3) := by decide +kernel
theorem dX7_doPart_21 : decode cX7_doPart 21 = .ok (.goto 57, 3) := by decide +kernel
theorem dX7_doPart_24 : decode cX7_doPart 24 = .ok (.aload_n 0, 1) := by decide +kernel
theorem dX7_doPart_25 : decode cX7_doPart 25 = .ok (.getfield 179, 3) := by decide +kernel
theorem dX7_doPart_28 : decode cX7_doPart 28 = .ok (.bipush 100, 2) := by decide +kernel
theorem dX7_doPart_30 : decode cX7_doPart 30 = .ok (.if_icmp .ne 18, 3) := by decide +kernel
theorem dX7_doPart_33 : decode cX7_doPart 33 = .ok (.aload_n 0, 1) := by decide +kernel
theorem dX7_doPart_34 : decode cX7_doPart 34 = .ok (.aload_n 0, 1) := by decide +kernel
theorem dX7_doPart_35 : decode cX7_doPart 35 = .ok (.aload_n 0, 1) := by decide +kernel
theorem dX7_doPart_36 : decode cX7_doPart 36 = .ok (.getfield 182, 3) := by decide +kernel
theorem dX7_doPart_39 : decode cX7_doPart 39 = .ok (.invokevirtual 145, 3) := by decide +kernel
theorem dX7_doPart_42 : decode cX7_doPart 42 = .ok (.putfield 182, 3) := by decide +kernel
theorem dX7_doPart_45 : decode cX7_doPart 45 = .ok (.goto 33, 3) := by decide +kernel
theorem dX7_doPart_48 : decode cX7_doPart 48 = .ok (.aload_n 0, 1) := by decide +kernel
theorem dX7_doPart_49 : decode cX7_doPart 49 = .ok (.aload_n 0, 1) := by decide +kernel
theorem dX7_doPart_50 : decode cX7_doPart 50 = .ok (.aload_n 0, 1) := by decide +kernel
theorem dX7_doPart_51 : decode cX7_doPart 51 = .ok (.getfield 182, 3) := by decide +kernel
theorem dX7_doPart_54 : decode cX7_doPart 54 = .ok (.aload_n 0, 1) := by decide +kernel
theorem dX7_doPart_55 : decode cX7_doPart 55 = .ok (.getfield 185, 3) := by decide +kernel
theorem dX7_doPart_58 : decode cX7_doPart 58 = .ok (.aload_n 0, 1) := by decide +kernel
theorem dX7_doPart_59 : decode cX7_doPart 59 = .ok (.getfield 179, 3) := by decide +kernel
theorem dX7_doPart_62 : decode cX7_doPart 62 = .ok (.bipush 108, 2) := by decide +kernel
theorem dX7_doPart_64 : decode cX7_doPart 64 = .ok (.if_icmp .ne 7, 3) := by decide +kernel
theorem dX7_doPart_67 : decode cX7_doPart 67 = .ok (.iconst 1, 1) := by decide +kernel
theorem dX7_doPart_68 : decode cX7_doPart 68 = .ok (.goto 4, 3) := by decide +kernel
theorem dX7_doPart_71 : decode cX7_doPart 71 = .ok (.iconst 0, 1) := by decide +kernel
theorem dX7_doPart_72 : decode cX7_doPart 72 = .ok (.invokevirtual 158, 3) := by decide +kernel
theorem dX7_doPart_75 : decode cX7_doPart 75 = .ok (.putfield 182, 3) := by decide +kernel
theorem dX7_doPart_78 : decode cX7_doPart 78 = .ok (.return_, 1) := by decide +kernel
theorem dX7_work_0 : decode cX7_work 0 = .ok (.aload_n 0, 1) := by decide +kernel
theorem dX7_work_1 : decode cX7_work 1 = .ok (.iconst 0, 1) := by decide +kernel
theorem dX7_work_2 : decode cX7_work 2 = .ok (.putfield 31, 3) := by decide +kernel
theorem dX7_work_5 : decode cX7_work 5 = .ok (.aload_n 0, 1) := by decide +kernel
theorem dX7_work_6 : decode cX7_work 6 = .ok (.invokevirtual 191, 3) := by decide +kernel
theorem dX7_work_9 : decode cX7_work 9 = .ok (.iconst (-1), 1) := by decide +kernel
theorem dX7_work_10 : decode cX7_work 10 = .ok (.if_icmp .eq 9, 3) := by decide +kernel
theorem dX7_work_13 : decode cX7_work 13 = .ok (.aload_n 0, 1) := by decide +kernel
theorem dX7_work_14 : decode cX7_work 14 = .ok (.iconst 1, 1) := by decide +kernel
theorem dX7_work_15 : decode cX7_work 15 = .ok (.invokevirtual 46, 3) := by decide +kernel
theorem dX7_work_18 : decode cX7_work 18 = .ok (.ireturn, 1) := by decide +kernel
theorem dX7_work_19 : decode cX7_work 19 = .ok (.aload_n 0, 1) := by decide +kernel
theorem dX7_work_20 : decode cX7_work 20 = .ok (.invokevirtual 54, 3) := by decide +kernel
theorem dX7_work_23 : decode cX7_work 23 = .ok (.aload_n 0, 1) := by decide +kernel
theorem dX7_work_24 : decode cX7_work 24 = .ok (.iconst 0, 1) := by decide +kernel
theorem dX7_work_25 : decode cX7_work 25 = .ok (.putfield 161, 3) := by decide +kernel
theorem dX7_work_28 : decode cX7_work 28 = .ok (.iconst 0, 1) := by decide +kernel
theorem dX7_work_29 : decode cX7_work 29 = .ok (.istore_n 1, 1) := by decide +kernel
theorem dX7_work_30 : decode cX7_work 30 = .ok (.iconst 0, 1) := by decide +kernel
theorem dX7_work_31 : decode cX7_work 31 = .ok (.istore_n 2, 1) := by decide +kernel
theorem dX7_work_32 : decode cX7_work 32 = .ok (.iload_n 2, 1) := by decide +kernel
theorem dX7_work_33 : decode cX7_work 33 = .ok (.ifCond .ne 54, 3) := by decide +kernel
theorem dX7_work_36 : decode cX7_work 36 = .ok (.aload_n 0, 1) := by decide +kernel
theorem dX7_work_37 : decode cX7_work 37 = .ok (.getfield 161, 3) := by decide +kernel
theorem dX7_work_40 : decode cX7_work 40 = .ok (.aload_n 0, 1) := by decide +kernel
theorem dX7_work_41 : decode cX7_work 41 = .ok (.getfield 139, 3) := by decide +kernel
theorem dX7_work_44 : decode cX7_work 44 = .ok (.if_icmp .ge 43, 3) := by decide +kernel
theorem dX7_work_47 : decode cX7_work 47 = .ok (.aload_n 0, 1) := by decide +kernel
theorem dX7_work_48 : decode cX7_work 48 = .ok (.invokevirtual 188, 3) := by decide +kernel
theorem dX7_work_51 : decode cX7_work 51 = .ok (.ifCond .eq 10, 3) := by decide +kernel
theorem dX7_work_54 : decode cX7_work 54 = .ok (.aload_n 0, 1) := by decide +kernel
theorem dX7_work_55 : decode cX7_work 55 = .ok (.invokevirtual 194, 3) := by decide +kernel
theorem dX7_work_58 : decode cX7_work 58 = .ok (.goto 4, 3) := by decide +kernel
theorem dX7_work_61 : decode cX7_work 61 = .ok (.iconst (-1), 1) := by decide +kernel
theorem dX7_work_62 : decode cX7_work 62 = .ok (.istore_n 2, 1) := by decide +kernel
theorem dX7_work_63 : decode cX7_work 63 = .ok (.iload_n 2, 1) := by decide +kernel
theorem dX7_work_64 : decode cX7_work 64 = .ok (.ifCond .ne 10, 3) := by decide +kernel
theorem dX7_work_67 : decode cX7_work 67 = .ok (.aload_n 0, 1) := by decide +kernel
theorem dX7_work_68 : decode cX7_work 68 = .ok (.invokevirtual 197, 3) := by decide +kernel
theorem dX7_work_71 : decode cX7_work 71 = .ok (.iinc 1 1, 3) := by decide +kernel
theorem dX7_work_74 : decode cX7_work 74 = .ok (.aload_n 0, 1) := by decide +kernel
theorem dX7_work_75 : decode cX7_work 75 = .ok (.dup, 1) := by decide +kernel
theorem dX7_work_76 : decode cX7_work 76 = .ok (.getfield 161, 3) := by decide +kernel
theorem dX7_work_79 : decode cX7_work 79 = .ok (.iconst 1, 1) := by decide +kernel
theorem dX7_work_80 : decode cX7_work 80 = .ok (.iadd, 1) := by decide +kernel
theorem dX7_work_81 : decode cX7_work 81 = .ok (.putfield 161, 3) := by decide +kernel
theorem dX7_work_84 : decode cX7_work 84 = .ok (.goto (-52), 3) := by decide +kernel
theorem dX7_work_87 : decode cX7_work 87 = .ok (.aload_n 0, 1) := by decide +kernel
theorem dX7_work_88 : decode cX7_work 88 = .ok (.getfield 7, 3) := by decide +kernel
theorem dX7_work_91 : decode cX7_work 91 = .ok (.bipush 12, 2) := by decide +kernel
theorem dX7_work_93 : decode cX7_work 93 = .ok (.iload_n 2, 1) := by decide +kernel
theorem dX7_work_94 : decode cX7_work 94 = .ok (.ifCond .ne 7, 3) := by decide +kernel
theorem dX7_work_97 : decode cX7_work 97 = .ok (.iconst (-1), 1) := by decide +kernel
theorem dX7_work_98 : decode cX7_work 98 = .ok (.goto 4, 3) := by decide +kernel
theorem dX7_work_101 : decode cX7_work 101 = .ok (.iload_n 1, 1) := by decide +kernel
theorem dX7_work_102 : decode cX7_work 102 = .ok (.iastore, 1) := by decide +kernel
theorem dX7_work_103 : decode cX7_work 103 = .ok (.aload_n 0, 1) := by decide +kernel
theorem dX7_work_104 : decode cX7_work 104 = .ok (.getfield 7, 3) := by decide +kernel
theorem dX7_work_107 : decode cX7_work 107 = .ok (.bipush 13, 2) := by decide +kernel
theorem dX7_work_109 : decode cX7_work 109 = .ok (.iload_n 2, 1) := by decide +kernel
theorem dX7_work_110 : decode cX7_work 110 = .ok (.ifCond .ne 7, 3) := by decide +kernel
theorem dX7_work_113 : decode cX7_work 113 = .ok (.iconst (-1), 1) := by decide +kernel
theorem dX7_work_114 : decode cX7_work 114 = .ok (.goto 4, 3) := by decide +kernel
theorem dX7_work_117 : decode cX7_work 117 = .ok (.iload_n 2, 1) := by decide +kernel
theorem dX7_work_118 : decode cX7_work 118 = .ok (.iastore, 1) := by decide +kernel
theorem dX7_work_119 : decode cX7_work 119 = .ok (.aload_n 0, 1) := by decide +kernel
theorem dX7_work_120 : decode cX7_work 120 = .ok (.iconst 0, 1) := by decide +kernel
theorem dX7_work_121 : decode cX7_work 121 = .ok (.putfield 139, 3) := by decide +kernel
theorem dX7_work_124 : decode cX7_work 124 = .ok (.iload_n 1, 1) := by decide +kernel
theorem dX7_work_125 : decode cX7_work 125 = .ok (.ireturn, 1) := by decide +kernel
theorem dX7_stopped_0 : decode cX7_stopped 0 = .ok (.aload_n 0, 1) := by decide +kernel
theorem dX7_stopped_1 : decode cX7_stopped 1 = .ok (.iconst 0, 1) := by decide +kernel
theorem dX7_stopped_2 : decode cX7_stopped 2 = .ok (.putfield 31, 3) := by decide +kernel
theorem dX7_stopped_5 : decode cX7_stopped 5 = .ok (.iload_n 1, 1) := by decide +kernel
theorem dX7_stopped_6 : decode cX7_stopped 6 = .ok (.iconst 0, 1) := by decide +kernel
theorem dX7_stopped_7 : decode cX7_stopped 7 = .ok (.iconst 1, 1) := by decide +kernel
theorem dX7_stopped_8 : decode cX7_stopped 8 = .ok (.invokestatic 35, 3) := by decide +kernel
theorem dX7_stopped_11 : decode cX7_stopped 11 = .ok (.ifCond .eq 15, 3) := by decide +kernel
theorem dX7_stopped_14 : decode cX7_stopped 14 = .ok (.aload_n 0, 1) := by decide +kernel
theorem dX7_stopped_15 : decode cX7_stopped 15 = .ok (.getfield 7, 3) := by decide +kernel
theorem dX7_stopped_18 : decode cX7_stopped 18 = .ok (.bipush 12, 2) := by decide +kernel
theorem dX7_stopped_20 : decode cX7_stopped 20 = .ok (.iload_n 1, 1) := by decide +kernel
theorem dX7_stopped_21 : decode cX7_stopped 21 = .ok (.iadd, 1) := by decide +kernel
theorem dX7_stopped_22 : decode cX7_stopped 22 = .ok (.iaload, 1) := by decide +kernel
theorem dX7_stopped_23 : decode cX7_stopped 23 = .ok (.goto 8, 3) := by decide +kernel
theorem dX7_stopped_26 : decode cX7_stopped 26 = .ok (.aload_n 0, 1) := by decide +kernel
theorem dX7_stopped_27 : decode cX7_stopped 27 = .ok (.iconst 1, 1) := by decide +kernel
theorem dX7_stopped_28 : decode cX7_stopped 28 = .ok (.invokevirtual 46, 3) := by decide +kernel
theorem dX7_stopped_31 : decode cX7_stopped 31 = .ok (.ireturn, 1) := by decide +kernel
theorem dX7_handOf_0 : decode cX7_handOf 0 = .ok (.aload_n 0, 1) := by decide +kernel
theorem dX7_handOf_1 : decode cX7_handOf 1 = .ok (.iconst (-1), 1) := by decide +kernel
theorem dX7_handOf_2 : decode cX7_handOf 2 = .ok (.invokevirtual 105, 3) := by decide +kernel
theorem dX7_handOf_5 : decode cX7_handOf 5 = .ok (.aload_n 0, 1) := by decide +kernel
theorem dX7_handOf_6 : decode cX7_handOf 6 = .ok (.getfield 28, 3) := by decide +kernel
theorem dX7_handOf_9 : decode cX7_handOf 9 = .ok (.iload_n 1, 1) := by decide +kernel
theorem dX7_handOf_10 : decode cX7_handOf 10 = .ok (.iaload, 1) := by decide +kernel
theorem dX7_handOf_11 : decode cX7_handOf 11 = .ok (.ireturn, 1) := by decide +kernel
theorem dX7_oathsOf_0 : decode cX7_oathsOf 0 = .ok (.iconst 0, 1) := by decide +kernel
theorem dX7_oathsOf_1 : decode cX7_oathsOf 1 = .ok (.istore_n 2, 1) := by decide +kernel
theorem dX7_oathsOf_2 : decode cX7_oathsOf 2 = .ok (.iconst 0, 1) := by decide +kernel
theorem dX7_oathsOf_3 : decode cX7_oathsOf 3 = .ok (.istore_n 3, 1) := by decide +kernel
theorem dX7_oathsOf_4 : decode cX7_oathsOf 4 = .ok (.iload_n 3, 1) := by decide +kernel
theorem dX7_oathsOf_5 : decode cX7_oathsOf 5 = .ok (.aload_n 0, 1) := by decide +kernel
theorem dX7_oathsOf_6 : decode cX7_oathsOf 6 = .ok (.getfield 7, 3) := by decide +kernel
theorem dX7_oathsOf_9 : decode cX7_oathsOf 9 = .ok (.bipush 10, 2) := by decide +kernel
theorem dX7_oathsOf_11 : decode cX7_oathsOf 11 = .ok (.iaload, 1) := by decide +kernel
theorem dX7_oathsOf_12 : decode cX7_oathsOf 12 = .ok (.if_icmp .ge 37, 3) := by decide +kernel
theorem dX7_oathsOf_15 : decode cX7_oathsOf 15 = .ok (.iload_n 2, 1) := by decide +kernel
theorem dX7_oathsOf_16 : decode cX7_oathsOf 16 = .ok (.aload_n 0, 1) := by decide +kernel
theorem dX7_oathsOf_17 : decode cX7_oathsOf 17 = .ok (.iload_n 3, 1) := by decide +kernel
theorem dX7_oathsOf_18 : decode cX7_oathsOf 18 = .ok (.iconst 0, 1) := by decide +kernel
theorem dX7_oathsOf_19 : decode cX7_oathsOf 19 = .ok (.invokevirtual 98, 3) := by decide +kernel
theorem dX7_oathsOf_22 : decode cX7_oathsOf 22 = .ok (.iload_n 1, 1) := by decide +kernel
theorem dX7_oathsOf_23 : decode cX7_oathsOf 23 = .ok (.if_icmp .eq 13, 3) := by decide +kernel
theorem dX7_oathsOf_26 : decode cX7_oathsOf 26 = .ok (.aload_n 0, 1) := by decide +kernel
theorem dX7_oathsOf_27 : decode cX7_oathsOf 27 = .ok (.iload_n 3, 1) := by decide +kernel
theorem dX7_oathsOf_28 : decode cX7_oathsOf 28 = .ok (.iconst 1, 1) := by decide +kernel
theorem dX7_oathsOf_29 : decode cX7_oathsOf 29 = .ok (.invokevirtual 98, 3) := by decide +kernel
theorem dX7_oathsOf_32 : decode cX7_oathsOf 32 = .ok (.iload_n 1, 1) := by decide +kernel
theorem dX7_oathsOf_33 : decode cX7_oathsOf 33 = .ok (.if_icmp .ne 7, 3) := by decide +kernel
theorem dX7_oathsOf_36 : decode cX7_oathsOf 36 = .ok (.iconst 1, 1) := by decide +kernel
theorem dX7_oathsOf_37 : decode cX7_oathsOf 37 = .ok (.goto 4, 3) := by decide +kernel
theorem dX7_oathsOf_40 : decode cX7_oathsOf 40 = .ok (.iconst 0, 1) := by decide +kernel
theorem dX7_oathsOf_41 : decode cX7_oathsOf 41 = .ok (.iadd, 1) := by decide +kernel
theorem dX7_oathsOf_42 : decode cX7_oathsOf 42 = .ok (.istore_n 2, 1) := by decide +kernel
theorem dX7_oathsOf_43 : decode cX7_oathsOf 43 = .ok (.iinc 3 1, 3) := by decide +kernel
theorem dX7_oathsOf_46 : decode cX7_oathsOf 46 = .ok (.goto (-42), 3) := by decide +kernel
theorem dX7_oathsOf_49 : decode cX7_oathsOf 49 = .ok (.iload_n 2, 1) := by decide +kernel
theorem dX7_oathsOf_50 : decode cX7_oathsOf 50 = .ok (.ireturn, 1) := by decide +kernel
theorem dX7_tellsSheet_0 : decode cX7_tellsSheet 0 = .ok (.iload_n 2, 1) := by decide +kernel
theorem dX7_tellsSheet_1 : decode cX7_tellsSheet 1 = .ok (.tableswitch 86 0 5 #[39, 46, 53, 60, 74, 80], 39) := by decide +kernel
theorem dX7_tellsSheet_40 : decode cX7_tellsSheet 40 = .ok (.aload_n 0, 1) := by decide +kernel
theorem dX7_tellsSheet_41 : decode cX7_tellsSheet 41 = .ok (.iload_n 1, 1) := by decide +kernel
theorem dX7_tellsSheet_42 : decode cX7_tellsSheet 42 = .ok (.iconst 1, 1) := by decide +kernel
theorem dX7_tellsSheet_43 : decode cX7_tellsSheet 43 = .ok (.invokevirtual 39, 3) := by decide +kernel
theorem dX7_tellsSheet_46 : decode cX7_tellsSheet 46 = .ok (.ireturn, 1) := by decide +kernel
theorem dX7_tellsSheet_47 : decode cX7_tellsSheet 47 = .ok (.aload_n 0, 1) := by decide +kernel
theorem dX7_tellsSheet_48 : decode cX7_tellsSheet 48 = .ok (.iload_n 1, 1) := by decide +kernel
theorem dX7_tellsSheet_49 : decode cX7_tellsSheet 49 = .ok (.iconst 0, 1) := by decide +kernel
theorem dX7_tellsSheet_50 : decode cX7_tellsSheet 50 = .ok (.invokevirtual 39, 3) := by decide +kernel
theorem dX7_tellsSheet_53 : decode cX7_tellsSheet 53 = .ok (.ireturn, 1) := by decide +kernel
theorem dX7_tellsSheet_54 : decode cX7_tellsSheet 54 = .ok (.aload_n 0, 1) := by decide +kernel
theorem dX7_tellsSheet_55 : decode cX7_tellsSheet 55 = .ok (.iload_n 1, 1) := by decide +kernel
theorem dX7_tellsSheet_56 : decode cX7_tellsSheet 56 = .ok (.iconst 2, 1) := by decide +kernel
theorem dX7_tellsSheet_57 : decode cX7_tellsSheet 57 = .ok (.invokevirtual 61, 3) := by decide +kernel
theorem dX7_tellsSheet_60 : decode cX7_tellsSheet 60 = .ok (.ireturn, 1) := by decide +kernel
theorem dX7_tellsSheet_61 : decode cX7_tellsSheet 61 = .ok (.aload_n 0, 1) := by decide +kernel
theorem dX7_tellsSheet_62 : decode cX7_tellsSheet 62 = .ok (.iload_n 1, 1) := by decide +kernel
theorem dX7_tellsSheet_63 : decode cX7_tellsSheet 63 = .ok (.invokevirtual 116, 3) := by decide +kernel
theorem dX7_tellsSheet_66 : decode cX7_tellsSheet 66 = .ok (.ifCond .eq 7, 3) := by decide +kernel
theorem dX7_tellsSheet_69 : decode cX7_tellsSheet 69 = .ok (.iconst 1, 1) := by decide +kernel
theorem dX7_tellsSheet_70 : decode cX7_tellsSheet 70 = .ok (.goto 4, 3) := by decide +kernel
theorem dX7_tellsSheet_73 : decode cX7_tellsSheet 73 = .ok (.iconst 0, 1) := by decide +kernel
theorem dX7_tellsSheet_74 : decode cX7_tellsSheet 74 = .ok (.ireturn, 1) := by decide +kernel
theorem dX7_tellsSheet_75 : decode cX7_tellsSheet 75 = .ok (.aload_n 0, 1) := by decide +kernel
theorem dX7_tellsSheet_76 : decode cX7_tellsSheet 76 = .ok (.iload_n 1, 1) := by decide +kernel
theorem dX7_tellsSheet_77 : decode cX7_tellsSheet 77 = .ok (.invokevirtual 200, 3) := by decide +kernel
theorem dX7_tellsSheet_80 : decode cX7_tellsSheet 80 = .ok (.ireturn, 1) := by decide +kernel
theorem dX7_tellsSheet_81 : decode cX7_tellsSheet 81 = .ok (.aload_n 0, 1) := by decide +kernel
theorem dX7_tellsSheet_82 : decode cX7_tellsSheet 82 = .ok (.iload_n 1, 1) := by decide +kernel
theorem dX7_tellsSheet_83 : decode cX7_tellsSheet 83 = .ok (.invokevirtual 203, 3) := by decide +kernel
theorem dX7_tellsSheet_86 : decode cX7_tellsSheet 86 = .ok (.ireturn, 1) := by decide +kernel
theorem dX7_tellsSheet_87 : decode cX7_tellsSheet 87 = .ok (.aload_n 0, 1) := by decide +kernel
theorem dX7_tellsSheet_88 : decode cX7_tellsSheet 88 = .ok (.iload_n 1, 1) := by decide +kernel
theorem dX7_tellsSheet_89 : decode cX7_tellsSheet 89 = .ok (.invokevirtual 79, 3) := by decide +kernel
theorem dX7_tellsSheet_92 : decode cX7_tellsSheet 92 = .ok (.ifCond .eq 7, 3) := by decide +kernel
theorem dX7_tellsSheet_95 : decode cX7_tellsSheet 95 = .ok (.iconst 1, 1) := by decide +kernel
theorem dX7_tellsSheet_96 : decode cX7_tellsSheet 96 = .ok (.goto 4, 3) := by decide +kernel
theorem dX7_tellsSheet_99 : decode cX7_tellsSheet 99 = .ok (.iconst 0, 1) := by decide +kernel
theorem dX7_tellsSheet_100 : decode cX7_tellsSheet 100 = .ok (.ireturn, 1) := by decide +kernel
theorem dX7_sheet_0 : decode cX7_sheet 0 = .ok (.aload_n 0, 1) := by decide +kernel
theorem dX7_sheet_1 : decode cX7_sheet 1 = .ok (.iconst 0, 1) := by decide +kernel
theorem dX7_sheet_2 : decode cX7_sheet 2 = .ok (.putfield 31, 3) := by decide +kernel
theorem dX7_sheet_5 : decode cX7_sheet 5 = .ok (.aload_n 0, 1) := by decide +kernel
theorem dX7_sheet_6 : decode cX7_sheet 6 = .ok (.iload_n 1, 1) := by decide +kernel
theorem dX7_sheet_7 : decode cX7_sheet 7 = .ok (.invokevirtual 142, 3) := by decide +kernel
theorem dX7_sheet_10 : decode cX7_sheet 10 = .ok (.ifCond .ne 9, 3) := by decide +kernel
theorem dX7_sheet_13 : decode cX7_sheet 13 = .ok (.aload_n 0, 1) := by decide +kernel
theorem dX7_sheet_14 : decode cX7_sheet 14 = .ok (.iconst 1, 1) := by decide +kernel
theorem dX7_sheet_15 : decode cX7_sheet 15 = .ok (.invokevirtual 46, 3) := by decide +kernel
theorem dX7_sheet_18 : decode cX7_sheet 18 = .ok (.ireturn, 1) := by decide +kernel
theorem dX7_sheet_19 : decode cX7_sheet 19 = .ok (.iload_n 2, 1) := by decide +kernel
theorem dX7_sheet_20 : decode cX7_sheet 20 = .ok (.iconst 0, 1) := by decide +kernel
theorem dX7_sheet_21 : decode cX7_sheet 21 = .ok (.bipush 6, 2) := by decide +kernel
theorem dX7_sheet_23 : decode cX7_sheet 23 = .ok (.invokestatic 35, 3) := by decide +kernel
theorem dX7_sheet_26 : decode cX7_sheet 26 = .ok (.ifCond .eq 12, 3) := by decide +kernel
theorem dX7_sheet_29 : decode cX7_sheet 29 = .ok (.aload_n 0, 1) := by decide +kernel
theorem dX7_sheet_30 : decode cX7_sheet 30 = .ok (.iload_n 1, 1) := by decide +kernel
theorem dX7_sheet_31 : decode cX7_sheet 31 = .ok (.iload_n 2, 1) := by decide +kernel
theorem dX7_sheet_32 : decode cX7_sheet 32 = .ok (.invokevirtual 206, 3) := by decide +kernel
theorem dX7_sheet_35 : decode cX7_sheet 35 = .ok (.goto 8, 3) := by decide +kernel
theorem dX7_sheet_38 : decode cX7_sheet 38 = .ok (.aload_n 0, 1) := by decide +kernel
theorem dX7_sheet_39 : decode cX7_sheet 39 = .ok (.iconst 2, 1) := by decide +kernel
theorem dX7_sheet_40 : decode cX7_sheet 40 = .ok (.invokevirtual 46, 3) := by decide +kernel
theorem dX7_sheet_43 : decode cX7_sheet 43 = .ok (.ireturn, 1) := by decide +kernel
theorem dX7_tellsStroke_0 : decode cX7_tellsStroke 0 = .ok (.iload_n 2, 1) := by decide +kernel
theorem dX7_tellsStroke_1 : decode cX7_tellsStroke 1 = .ok (.aload_n 0, 1) := by decide +kernel
theorem dX7_tellsStroke_2 : decode cX7_tellsStroke 2 = .ok (.iload_n 1, 1) := by decide +kernel
theorem dX7_tellsStroke_3 : decode cX7_tellsStroke 3 = .ok (.iconst 1, 1) := by decide +kernel
theorem dX7_tellsStroke_4 : decode cX7_tellsStroke 4 = .ok (.invokevirtual 39, 3) := by decide +kernel
theorem dX7_tellsStroke_7 : decode cX7_tellsStroke 7 = .ok (.if_icmp .lt 5, 3) := by decide +kernel
theorem dX7_tellsStroke_10 : decode cX7_tellsStroke 10 = .ok (.iconst (-1), 1) := by decide +kernel
theorem dX7_tellsStroke_11 : decode cX7_tellsStroke 11 = .ok (.ireturn, 1) := by decide +kernel
theorem dX7_tellsStroke_12 : decode cX7_tellsStroke 12 = .ok (.aload_n 0, 1) := by decide +kernel
theorem dX7_tellsStroke_13 : decode cX7_tellsStroke 13 = .ok (.iload_n 1, 1) := by decide +kernel
theorem dX7_tellsStroke_14 : decode cX7_tellsStroke 14 = .ok (.iload_n 2, 1) := by decide +kernel
theorem dX7_tellsStroke_15 : decode cX7_tellsStroke 15 = .ok (.iload_n 3, 1) := by decide +kernel
theorem dX7_tellsStroke_16 : decode cX7_tellsStroke 16 = .ok (.invokevirtual 57, 3) := by decide +kernel
theorem dX7_tellsStroke_19 : decode cX7_tellsStroke 19 = .ok (.iload_n 3, 1) := by decide +kernel
theorem dX7_tellsStroke_20 : decode cX7_tellsStroke 20 = .ok (.ifCond .ne 8, 3) := by decide +kernel
theorem dX7_tellsStroke_23 : decode cX7_tellsStroke 23 = .ok (.bipush 100, 2) := by decide +kernel
theorem dX7_tellsStroke_25 : decode cX7_tellsStroke 25 = .ok (.goto 4, 3) := by decide +kernel
theorem dX7_tellsStroke_28 : decode cX7_tellsStroke 28 = .ok (.iconst 0, 1) := by decide +kernel
theorem dX7_tellsStroke_29 : decode cX7_tellsStroke 29 = .ok (.iadd, 1) := by decide +kernel
theorem dX7_tellsStroke_30 : decode cX7_tellsStroke 30 = .ok (.ireturn, 1) := by decide +kernel
theorem dX7_stroke_0 : decode cX7_stroke 0 = .ok (.aload_n 0, 1) := by decide +kernel
theorem dX7_stroke_1 : decode cX7_stroke 1 = .ok (.iconst 0, 1) := by decide +kernel
theorem dX7_stroke_2 : decode cX7_stroke 2 = .ok (.putfield 31, 3) := by decide +kernel
theorem dX7_stroke_5 : decode cX7_stroke 5 = .ok (.aload_n 0, 1) := by decide +kernel
theorem dX7_stroke_6 : decode cX7_stroke 6 = .ok (.iload_n 1, 1) := by decide +kernel
theorem dX7_stroke_7 : decode cX7_stroke 7 = .ok (.invokevirtual 142, 3) := by decide +kernel
theorem dX7_stroke_10 : decode cX7_stroke 10 = .ok (.ifCond .ne 9, 3) := by decide +kernel
theorem dX7_stroke_13 : decode cX7_stroke 13 = .ok (.aload_n 0, 1) := by decide +kernel
theorem dX7_stroke_14 : decode cX7_stroke 14 = .ok (.iconst 1, 1) := by decide +kernel
theorem dX7_stroke_15 : decode cX7_stroke 15 = .ok (.invokevirtual 46, 3) := by decide +kernel
theorem dX7_stroke_18 : decode cX7_stroke 18 = .ok (.ireturn, 1) := by decide +kernel
theorem dX7_stroke_19 : decode cX7_stroke 19 = .ok (.iload_n 2, 1) := by decide +kernel
theorem dX7_stroke_20 : decode cX7_stroke 20 = .ok (.iconst 0, 1) := by decide +kernel
theorem dX7_stroke_21 : decode cX7_stroke 21 = .ok (.bipush 7, 2) := by decide +kernel
theorem dX7_stroke_23 : decode cX7_stroke 23 = .ok (.invokestatic 35, 3) := by decide +kernel
theorem dX7_stroke_26 : decode cX7_stroke 26 = .ok (.ifCond .eq 22, 3) := by decide +kernel
theorem dX7_stroke_29 : decode cX7_stroke 29 = .ok (.iload_n 3, 1) := by decide +kernel
theorem dX7_stroke_30 : decode cX7_stroke 30 = .ok (.iconst 0, 1) := by decide +kernel
theorem dX7_stroke_31 : decode cX7_stroke 31 = .ok (.iconst 4, 1) := by decide +kernel
theorem dX7_stroke_32 : decode cX7_stroke 32 = .ok (.invokestatic 35, 3) := by decide +kernel
theorem dX7_stroke_35 : decode cX7_stroke 35 = .ok (.ifCond .eq 13, 3) := by decide +kernel
theorem dX7_stroke_38 : decode cX7_stroke 38 = .ok (.aload_n 0, 1) := by decide +kernel
theorem dX7_stroke_39 : decode cX7_stroke 39 = .ok (.iload_n 1, 1) := by decide +kernel
theorem dX7_stroke_40 : decode cX7_stroke 40 = .ok (.iload_n 2, 1) := by decide +kernel
theorem dX7_stroke_41 : decode cX7_stroke 41 = .ok (.iload_n 3, 1) := by decide +kernel
theorem dX7_stroke_42 : decode cX7_stroke 42 = .ok (.invokevirtual 209, 3) := by decide +kernel
theorem dX7_stroke_45 : decode cX7_stroke 45 = .ok (.goto 8, 3) := by decide +kernel
theorem dX7_stroke_48 : decode cX7_stroke 48 = .ok (.aload_n 0, 1) := by decide +kernel
theorem dX7_stroke_49 : decode cX7_stroke 49 = .ok (.iconst 2, 1) := by decide +kernel
theorem dX7_stroke_50 : decode cX7_stroke 50 = .ok (.invokevirtual 46, 3) := by decide +kernel
theorem dX7_stroke_53 : decode cX7_stroke 53 = .ok (.ireturn, 1) := by decide +kernel
theorem dX7_mark_0 : decode cX7_mark 0 = .ok (.aload_n 0, 1) := by decide +kernel
theorem dX7_mark_1 : decode cX7_mark 1 = .ok (.iconst 0, 1) := by decide +kernel
theorem dX7_mark_2 : decode cX7_mark 2 = .ok (.putfield 31, 3) := by decide +kernel
theorem dX7_mark_5 : decode cX7_mark 5 = .ok (.aload_n 0, 1) := by decide +kernel
theorem dX7_mark_6 : decode cX7_mark 6 = .ok (.iload_n 1, 1) := by decide +kernel
theorem dX7_mark_7 : decode cX7_mark 7 = .ok (.invokevirtual 142, 3) := by decide +kernel
theorem dX7_mark_10 : decode cX7_mark 10 = .ok (.ifCond .ne 9, 3) := by decide +kernel
theorem dX7_mark_13 : decode cX7_mark 13 = .ok (.aload_n 0, 1) := by decide +kernel
theorem dX7_mark_14 : decode cX7_mark 14 = .ok (.iconst 1, 1) := by decide +kernel
theorem dX7_mark_15 : decode cX7_mark 15 = .ok (.invokevirtual 46, 3) := by decide +kernel
theorem dX7_mark_18 : decode cX7_mark 18 = .ok (.ireturn, 1) := by decide +kernel
theorem dX7_mark_19 : decode cX7_mark 19 = .ok (.iload_n 2, 1) := by decide +kernel
theorem dX7_mark_20 : decode cX7_mark 20 = .ok (.iconst 0, 1) := by decide +kernel
theorem dX7_mark_21 : decode cX7_mark 21 = .ok (.iconst 5, 1) := by decide +kernel
theorem dX7_mark_22 : decode cX7_mark 22 = .ok (.invokestatic 35, 3) := by decide +kernel
theorem dX7_mark_25 : decode cX7_mark 25 = .ok (.ifCond .eq 16, 3) := by decide +kernel
theorem dX7_mark_28 : decode cX7_mark 28 = .ok (.aload_n 0, 1) := by decide +kernel
theorem dX7_mark_29 : decode cX7_mark 29 = .ok (.iload_n 1, 1) := by decide +kernel
theorem dX7_mark_30 : decode cX7_mark 30 = .ok (.iload_n 2, 1) := by decide +kernel
theorem dX7_mark_31 : decode cX7_mark 31 = .ok (.invokevirtual 83, 3) := by decide +kernel
theorem dX7_mark_34 : decode cX7_mark 34 = .ok (.sipush 1000, 3) := by decide +kernel
theorem dX7_mark_37 : decode cX7_mark 37 = .ok (.iadd, 1) := by decide +kernel
theorem dX7_mark_38 : decode cX7_mark 38 = .ok (.goto 8, 3) := by decide +kernel
theorem dX7_mark_41 : decode cX7_mark 41 = .ok (.aload_n 0, 1) := by decide +kernel
theorem dX7_mark_42 : decode cX7_mark 42 = .ok (.iconst 2, 1) := by decide +kernel
theorem dX7_mark_43 : decode cX7_mark 43 = .ok (.invokevirtual 46, 3) := by decide +kernel
theorem dX7_mark_46 : decode cX7_mark 46 = .ok (.ireturn, 1) := by decide +kernel
theorem dX7_tellsOathOf_0 : decode cX7_tellsOathOf 0 = .ok (.aload_n 0, 1) := by decide +kernel
theorem dX7_tellsOathOf_1 : decode cX7_tellsOathOf 1 = .ok (.iload_n 1, 1) := by decide +kernel
theorem dX7_tellsOathOf_2 : decode cX7_tellsOathOf 2 = .ok (.iload_n 2, 1) := by decide +kernel
theorem dX7_tellsOathOf_3 : decode cX7_tellsOathOf 3 = .ok (.invokevirtual 109, 3) := by decide +kernel
theorem dX7_tellsOathOf_6 : decode cX7_tellsOathOf 6 = .ok (.istore_n 3, 1) := by decide +kernel
theorem dX7_tellsOathOf_7 : decode cX7_tellsOathOf 7 = .ok (.iload_n 3, 1) := by decide +kernel
theorem dX7_tellsOathOf_8 : decode cX7_tellsOathOf 8 = .ok (.iconst (-1), 1) := by decide +kernel
theorem dX7_tellsOathOf_9 : decode cX7_tellsOathOf 9 = .ok (.if_icmp .ne 7, 3) := by decide +kernel
theorem dX7_tellsOathOf_12 : decode cX7_tellsOathOf 12 = .ok (.iconst (-1), 1) := by decide +kernel
theorem dX7_tellsOathOf_13 : decode cX7_tellsOathOf 13 = .ok (.goto 9, 3) := by decide +kernel
theorem dX7_tellsOathOf_16 : decode cX7_tellsOathOf 16 = .ok (.aload_n 0, 1) := by decide +kernel
theorem dX7_tellsOathOf_17 : decode cX7_tellsOathOf 17 = .ok (.iload_n 3, 1) := by decide +kernel
theorem dX7_tellsOathOf_18 : decode cX7_tellsOathOf 18 = .ok (.iconst 2, 1) := by decide +kernel
theorem dX7_tellsOathOf_19 : decode cX7_tellsOathOf 19 = .ok (.invokevirtual 98, 3) := by decide +kernel
theorem dX7_tellsOathOf_22 : decode cX7_tellsOathOf 22 = .ok (.ireturn, 1) := by decide +kernel
theorem dX7_compares_0 : decode cX7_compares 0 = .ok (.iload_n 3, 1) := by decide +kernel
theorem dX7_compares_1 : decode cX7_compares 1 = .ok (.tableswitch 60 0 3 #[31, 38, 45, 45], 31) := by decide +kernel
theorem dX7_compares_32 : decode cX7_compares 32 = .ok (.aload_n 0, 1) := by decide +kernel
theorem dX7_compares_33 : decode cX7_compares 33 = .ok (.iload_n 1, 1) := by decide +kernel
theorem dX7_compares_34 : decode cX7_compares 34 = .ok (.iload_n 2, 1) := by decide +kernel
theorem dX7_compares_35 : decode cX7_compares 35 = .ok (.invokevirtual 119, 3) := by decide +kernel
theorem dX7_compares_38 : decode cX7_compares 38 = .ok (.ireturn, 1) := by decide +kernel
theorem dX7_compares_39 : decode cX7_compares 39 = .ok (.aload_n 0, 1) := by decide +kernel
theorem dX7_compares_40 : decode cX7_compares 40 = .ok (.iload_n 1, 1) := by decide +kernel
theorem dX7_compares_41 : decode cX7_compares 41 = .ok (.iload_n 2, 1) := by decide +kernel
theorem dX7_compares_42 : decode cX7_compares 42 = .ok (.invokevirtual 92, 3) := by decide +kernel
theorem dX7_compares_45 : decode cX7_compares 45 = .ok (.ireturn, 1) := by decide +kernel
theorem dX7_compares_46 : decode cX7_compares 46 = .ok (.aload_n 0, 1) := by decide +kernel
theorem dX7_compares_47 : decode cX7_compares 47 = .ok (.iload_n 1, 1) := by decide +kernel
theorem dX7_compares_48 : decode cX7_compares 48 = .ok (.iload_n 2, 1) := by decide +kernel
theorem dX7_compares_49 : decode cX7_compares 49 = .ok (.invokevirtual 112, 3) := by decide +kernel
theorem dX7_compares_52 : decode cX7_compares 52 = .ok (.ifCond .eq 7, 3) := by decide +kernel
theorem dX7_compares_55 : decode cX7_compares 55 = .ok (.iconst 1, 1) := by decide +kernel
theorem dX7_compares_56 : decode cX7_compares 56 = .ok (.goto 4, 3) := by decide +kernel
theorem dX7_compares_59 : decode cX7_compares 59 = .ok (.iconst 0, 1) := by decide +kernel
theorem dX7_compares_60 : decode cX7_compares 60 = .ok (.ireturn, 1) := by decide +kernel
theorem dX7_compares_61 : decode cX7_compares 61 = .ok (.aload_n 0, 1) := by decide +kernel
theorem dX7_compares_62 : decode cX7_compares 62 = .ok (.iload_n 1, 1) := by decide +kernel
theorem dX7_compares_63 : decode cX7_compares 63 = .ok (.iload_n 2, 1) := by decide +kernel
theorem dX7_compares_64 : decode cX7_compares 64 = .ok (.invokevirtual 212, 3) := by decide +kernel
theorem dX7_compares_67 : decode cX7_compares 67 = .ok (.ireturn, 1) := by decide +kernel
theorem dX7_compare_0 : decode cX7_compare 0 = .ok (.aload_n 0, 1) := by decide +kernel
theorem dX7_compare_1 : decode cX7_compare 1 = .ok (.iconst 0, 1) := by decide +kernel
theorem dX7_compare_2 : decode cX7_compare 2 = .ok (.putfield 31, 3) := by decide +kernel
theorem dX7_compare_5 : decode cX7_compare 5 = .ok (.aload_n 0, 1) := by decide +kernel
theorem dX7_compare_6 : decode cX7_compare 6 = .ok (.iload_n 1, 1) := by decide +kernel
theorem dX7_compare_7 : decode cX7_compare 7 = .ok (.invokevirtual 142, 3) := by decide +kernel
theorem dX7_compare_10 : decode cX7_compare 10 = .ok (.ifCond .eq 11, 3) := by decide +kernel
theorem dX7_compare_13 : decode cX7_compare 13 = .ok (.aload_n 0, 1) := by decide +kernel
theorem dX7_compare_14 : decode cX7_compare 14 = .ok (.iload_n 2, 1) := by decide +kernel
theorem dX7_compare_15 : decode cX7_compare 15 = .ok (.invokevirtual 142, 3) := by decide +kernel
theorem dX7_compare_18 : decode cX7_compare 18 = .ok (.ifCond .ne 9, 3) := by decide +kernel
theorem dX7_compare_21 : decode cX7_compare 21 = .ok (.aload_n 0, 1) := by decide +kernel
theorem dX7_compare_22 : decode cX7_compare 22 = .ok (.iconst 1, 1) := by decide +kernel
theorem dX7_compare_23 : decode cX7_compare 23 = .ok (.invokevirtual 46, 3) := by decide +kernel
theorem dX7_compare_26 : decode cX7_compare 26 = .ok (.ireturn, 1) := by decide +kernel
theorem dX7_compare_27 : decode cX7_compare 27 = .ok (.iload_n 3, 1) := by decide +kernel
theorem dX7_compare_28 : decode cX7_compare 28 = .ok (.iconst 0, 1) := by decide +kernel
theorem dX7_compare_29 : decode cX7_compare 29 = .ok (.iconst 4, 1) := by decide +kernel
theorem dX7_compare_30 : decode cX7_compare 30 = .ok (.invokestatic 35, 3) := by decide +kernel
theorem dX7_compare_33 : decode cX7_compare 33 = .ok (.ifCond .eq 13, 3) := by decide +kernel
theorem dX7_compare_36 : decode cX7_compare 36 = .ok (.aload_n 0, 1) := by decide +kernel
theorem dX7_compare_37 : decode cX7_compare 37 = .ok (.iload_n 1, 1) := by decide +kernel
theorem dX7_compare_38 : decode cX7_compare 38 = .ok (.iload_n 2, 1) := by decide +kernel
theorem dX7_compare_39 : decode cX7_compare 39 = .ok (.iload_n 3, 1) := by decide +kernel
theorem dX7_compare_40 : decode cX7_compare 40 = .ok (.invokevirtual 215, 3) := by decide +kernel
theorem dX7_compare_43 : decode cX7_compare 43 = .ok (.goto 8, 3) := by decide +kernel
theorem dX7_compare_46 : decode cX7_compare 46 = .ok (.aload_n 0, 1) := by decide +kernel
theorem dX7_compare_47 : decode cX7_compare 47 = .ok (.iconst 2, 1) := by decide +kernel
theorem dX7_compare_48 : decode cX7_compare 48 = .ok (.invokevirtual 46, 3) := by decide +kernel
theorem dX7_compare_51 : decode cX7_compare 51 = .ok (.ireturn, 1) := by decide +kernel
theorem dX7_tellsOath_0 : decode cX7_tellsOath 0 = .ok (.iload_n 1, 1) := by decide +kernel
theorem dX7_tellsOath_1 : decode cX7_tellsOath 1 = .ok (.aload_n 0, 1) := by decide +kernel
theorem dX7_tellsOath_2 : decode cX7_tellsOath 2 = .ok (.getfield 7, 3) := by decide +kernel
theorem dX7_tellsOath_5 : decode cX7_tellsOath 5 = .ok (.bipush 10, 2) := by decide +kernel
theorem dX7_tellsOath_7 : decode cX7_tellsOath 7 = .ok (.iaload, 1) := by decide +kernel
theorem dX7_tellsOath_8 : decode cX7_tellsOath 8 = .ok (.if_icmp .lt 7, 3) := by decide +kernel
theorem dX7_tellsOath_11 : decode cX7_tellsOath 11 = .ok (.iconst (-1), 1) := by decide +kernel
theorem dX7_tellsOath_12 : decode cX7_tellsOath 12 = .ok (.goto 30, 3) := by decide +kernel
theorem dX7_tellsOath_15 : decode cX7_tellsOath 15 = .ok (.iload_n 2, 1) := by decide +kernel
theorem dX7_tellsOath_16 : decode cX7_tellsOath 16 = .ok (.iconst 3, 1) := by decide +kernel
theorem dX7_tellsOath_17 : decode cX7_tellsOath 17 = .ok (.if_icmp .ne 19, 3) := by decide +kernel
theorem dX7_tellsOath_20 : decode cX7_tellsOath 20 = .ok (.aload_n 0, 1) := by decide +kernel
theorem dX7_tellsOath_21 : decode cX7_tellsOath 21 = .ok (.iload_n 1, 1) := by decide +kernel
theorem dX7_tellsOath_22 : decode cX7_tellsOath 22 = .ok (.invokevirtual 218, 3) := by decide +kernel
theorem dX7_tellsOath_25 : decode cX7_tellsOath 25 = .ok (.ifCond .eq 7, 3) := by decide +kernel
theorem dX7_tellsOath_28 : decode cX7_tellsOath 28 = .ok (.iconst 1, 1) := by decide +kernel
theorem dX7_tellsOath_29 : decode cX7_tellsOath 29 = .ok (.goto 13, 3) := by decide +kernel
theorem dX7_tellsOath_32 : decode cX7_tellsOath 32 = .ok (.iconst 0, 1) := by decide +kernel
theorem dX7_tellsOath_33 : decode cX7_tellsOath 33 = .ok (.goto 9, 3) := by decide +kernel
theorem dX7_tellsOath_36 : decode cX7_tellsOath 36 = .ok (.aload_n 0, 1) := by decide +kernel
theorem dX7_tellsOath_37 : decode cX7_tellsOath 37 = .ok (.iload_n 1, 1) := by decide +kernel
theorem dX7_tellsOath_38 : decode cX7_tellsOath 38 = .ok (.iload_n 2, 1) := by decide +kernel
theorem dX7_tellsOath_39 : decode cX7_tellsOath 39 = .ok (.invokevirtual 98, 3) := by decide +kernel
theorem dX7_tellsOath_42 : decode cX7_tellsOath 42 = .ok (.ireturn, 1) := by decide +kernel
theorem dX7_oath_0 : decode cX7_oath 0 = .ok (.aload_n 0, 1) := by decide +kernel
theorem dX7_oath_1 : decode cX7_oath 1 = .ok (.iconst 0, 1) := by decide +kernel
theorem dX7_oath_2 : decode cX7_oath 2 = .ok (.putfield 31, 3) := by decide +kernel
theorem dX7_oath_5 : decode cX7_oath 5 = .ok (.iload_n 1, 1) := by decide +kernel
theorem dX7_oath_6 : decode cX7_oath 6 = .ok (.ifCond .lt 21, 3) := by decide +kernel
theorem dX7_oath_9 : decode cX7_oath 9 = .ok (.iload_n 2, 1) := by decide +kernel
theorem dX7_oath_10 : decode cX7_oath 10 = .ok (.iconst 0, 1) := by decide +kernel
theorem dX7_oath_11 : decode cX7_oath 11 = .ok (.iconst 3, 1) := by decide +kernel
theorem dX7_oath_12 : decode cX7_oath 12 = .ok (.invokestatic 35, 3) := by decide +kernel
theorem dX7_oath_15 : decode cX7_oath 15 = .ok (.ifCond .eq 12, 3) := by decide +kernel
theorem dX7_oath_18 : decode cX7_oath 18 = .ok (.aload_n 0, 1) := by decide +kernel
theorem dX7_oath_19 : decode cX7_oath 19 = .ok (.iload_n 1, 1) := by decide +kernel
theorem dX7_oath_20 : decode cX7_oath 20 = .ok (.iload_n 2, 1) := by decide +kernel
theorem dX7_oath_21 : decode cX7_oath 21 = .ok (.invokevirtual 221, 3) := by decide +kernel
theorem dX7_oath_24 : decode cX7_oath 24 = .ok (.goto 8, 3) := by decide +kernel
theorem dX7_oath_27 : decode cX7_oath 27 = .ok (.aload_n 0, 1) := by decide +kernel
theorem dX7_oath_28 : decode cX7_oath 28 = .ok (.iconst 1, 1) := by decide +kernel
theorem dX7_oath_29 : decode cX7_oath 29 = .ok (.invokevirtual 46, 3) := by decide +kernel
theorem dX7_oath_32 : decode cX7_oath 32 = .ok (.ireturn, 1) := by decide +kernel
theorem dX7_likeOaths_0 : decode cX7_likeOaths 0 = .ok (.iconst 0, 1) := by decide +kernel
theorem dX7_likeOaths_1 : decode cX7_likeOaths 1 = .ok (.istore_n 1, 1) := by decide +kernel
theorem dX7_likeOaths_2 : decode cX7_likeOaths 2 = .ok (.iconst 0, 1) := by decide +kernel
theorem dX7_likeOaths_3 : decode cX7_likeOaths 3 = .ok (.istore_n 2, 1) := by decide +kernel
theorem dX7_likeOaths_4 : decode cX7_likeOaths 4 = .ok (.iload_n 2, 1) := by decide +kernel
theorem dX7_likeOaths_5 : decode cX7_likeOaths 5 = .ok (.aload_n 0, 1) := by decide +kernel
theorem dX7_likeOaths_6 : decode cX7_likeOaths 6 = .ok (.getfield 7, 3) := by decide +kernel
theorem dX7_likeOaths_9 : decode cX7_likeOaths 9 = .ok (.bipush 10, 2) := by decide +kernel
theorem dX7_likeOaths_11 : decode cX7_likeOaths 11 = .ok (.iaload, 1) := by decide +kernel
theorem dX7_likeOaths_12 : decode cX7_likeOaths 12 = .ok (.if_icmp .ge 18, 3) := by decide +kernel
theorem dX7_likeOaths_15 : decode cX7_likeOaths 15 = .ok (.iload_n 1, 1) := by decide +kernel
theorem dX7_likeOaths_16 : decode cX7_likeOaths 16 = .ok (.aload_n 0, 1) := by decide +kernel
theorem dX7_likeOaths_17 : decode cX7_likeOaths 17 = .ok (.iload_n 2, 1) := by decide +kernel
theorem dX7_likeOaths_18 : decode cX7_likeOaths 18 = .ok (.iconst 2, 1) := by decide +kernel
theorem dX7_likeOaths_19 : decode cX7_likeOaths 19 = .ok (.invokevirtual 98, 3) := by decide +kernel
theorem dX7_likeOaths_22 : decode cX7_likeOaths 22 = .ok (.iadd, 1) := by decide +kernel
theorem dX7_likeOaths_23 : decode cX7_likeOaths 23 = .ok (.istore_n 1, 1) := by decide +kernel
theorem dX7_likeOaths_24 : decode cX7_likeOaths 24 = .ok (.iinc 2 1, 3) := by decide +kernel
theorem dX7_likeOaths_27 : decode cX7_likeOaths 27 = .ok (.goto (-23), 3) := by decide +kernel
theorem dX7_likeOaths_30 : decode cX7_likeOaths 30 = .ok (.iload_n 1, 1) := by decide +kernel
theorem dX7_likeOaths_31 : decode cX7_likeOaths 31 = .ok (.ireturn, 1) := by decide +kernel
theorem dX7_mostOfHand_0 : decode cX7_mostOfHand 0 = .ok (.aload_n 0, 1) := by decide +kernel
theorem dX7_mostOfHand_1 : decode cX7_mostOfHand 1 = .ok (.iconst (-1), 1) := by decide +kernel
theorem dX7_mostOfHand_2 : decode cX7_mostOfHand 2 = .ok (.invokevirtual 105, 3) := by decide +kernel
theorem dX7_mostOfHand_5 : decode cX7_mostOfHand 5 = .ok (.iconst 0, 1) := by decide +kernel
theorem dX7_mostOfHand_6 : decode cX7_mostOfHand 6 = .ok (.istore_n 1, 1) := by decide +kernel
theorem dX7_mostOfHand_7 : decode cX7_mostOfHand 7 = .ok (.iconst 0, 1) := by decide +kernel
theorem dX7_mostOfHand_8 : decode cX7_mostOfHand 8 = .ok (.istore_n 2, 1) := by decide +kernel
theorem dX7_mostOfHand_9 : decode cX7_mostOfHand 9 = .ok (.iload_n 2, 1) := by decide +kernel
theorem dX7_mostOfHand_10 : decode cX7_mostOfHand 10 = .ok (.aload_n 0, 1) := by decide +kernel
theorem dX7_mostOfHand_11 : decode cX7_mostOfHand 11 = .ok (.getfield 7, 3) := by decide +kernel
theorem dX7_mostOfHand_14 : decode cX7_mostOfHand 14 = .ok (.bipush 9, 2) := by decide +kernel
theorem dX7_mostOfHand_16 : decode cX7_mostOfHand 16 = .ok (.iaload, 1) := by decide +kernel
theorem dX7_mostOfHand_17 : decode cX7_mostOfHand 17 = .ok (.if_icmp .ge 62, 3) := by decide +kernel
theorem dX7_mostOfHand_20 : decode cX7_mostOfHand 20 = .ok (.iconst 0, 1) := by decide +kernel
theorem dX7_mostOfHand_21 : decode cX7_mostOfHand 21 = .ok (.istore_n 3, 1) := by decide +kernel
theorem dX7_mostOfHand_22 : decode cX7_mostOfHand 22 = .ok (.iconst 0, 1) := by decide +kernel
theorem dX7_mostOfHand_23 : decode cX7_mostOfHand 23 = .ok (.istore 4, 2) := by decide +kernel
theorem dX7_mostOfHand_25 : decode cX7_mostOfHand 25 = .ok (.iload 4, 2) := by decide +kernel
theorem dX7_mostOfHand_27 : decode cX7_mostOfHand 27 = .ok (.aload_n 0, 1) := by decide +kernel
theorem dX7_mostOfHand_28 : decode cX7_mostOfHand 28 = .ok (.getfield 7, 3) := by decide +kernel
theorem dX7_mostOfHand_31 : decode cX7_mostOfHand 31 = .ok (.bipush 9, 2) := by decide +kernel
theorem dX7_mostOfHand_33 : decode cX7_mostOfHand 33 = .ok (.iaload, 1) := by decide +kernel
theorem dX7_mostOfHand_34 : decode cX7_mostOfHand 34 = .ok (.if_icmp .ge 28, 3) := by decide +kernel
theorem dX7_mostOfHand_37 : decode cX7_mostOfHand 37 = .ok (.iload_n 3, 1) := by decide +kernel
theorem dX7_mostOfHand_38 : decode cX7_mostOfHand 38 = .ok (.aload_n 0, 1) := by decide +kernel
theorem dX7_mostOfHand_39 : decode cX7_mostOfHand 39 = .ok (.getfield 28, 3) := by decide +kernel
theorem dX7_mostOfHand_42 : decode cX7_mostOfHand 42 = .ok (.iload 4, 2) := by decide +kernel
theorem dX7_mostOfHand_44 : decode cX7_mostOfHand 44 = .ok (.iaload, 1) := by decide +kernel
theorem dX7_mostOfHand_45 : decode cX7_mostOfHand 45 = .ok (.iload_n 2, 1) := by decide +kernel
theorem dX7_mostOfHand_46 : decode cX7_mostOfHand 46 = .ok (.if_icmp .ne 7, 3) := by decide +kernel
theorem dX7_mostOfHand_49 : decode cX7_mostOfHand 49 = .ok (.iconst 1, 1) := by decide +kernel
theorem dX7_mostOfHand_50 : decode cX7_mostOfHand 50 = .ok (.goto 4, 3) := by decide +kernel
theorem dX7_mostOfHand_53 : decode cX7_mostOfHand 53 = .ok (.iconst 0, 1) := by decide +kernel
theorem dX7_mostOfHand_54 : decode cX7_mostOfHand 54 = .ok (.iadd, 1) := by decide +kernel
theorem dX7_mostOfHand_55 : decode cX7_mostOfHand 55 = .ok (.istore_n 3, 1) := by decide +kernel
theorem dX7_mostOfHand_56 : decode cX7_mostOfHand 56 = .ok (.iinc 4 1, 3) := by decide +kernel
theorem dX7_mostOfHand_59 : decode cX7_mostOfHand 59 = .ok (.goto (-34), 3) := by decide +kernel
theorem dX7_mostOfHand_62 : decode cX7_mostOfHand 62 = .ok (.iload_n 3, 1) := by decide +kernel
theorem dX7_mostOfHand_63 : decode cX7_mostOfHand 63 = .ok (.iload_n 1, 1) := by decide +kernel
theorem dX7_mostOfHand_64 : decode cX7_mostOfHand 64 = .ok (.if_icmp .le 7, 3) := by decide +kernel
theorem dX7_mostOfHand_67 : decode cX7_mostOfHand 67 = .ok (.iload_n 3, 1) := by decide +kernel
theorem dX7_mostOfHand_68 : decode cX7_mostOfHand 68 = .ok (.goto 4, 3) := by decide +kernel
theorem dX7_mostOfHand_71 : decode cX7_mostOfHand 71 = .ok (.iload_n 1, 1) := by decide +kernel
theorem dX7_mostOfHand_72 : decode cX7_mostOfHand 72 = .ok (.istore_n 1, 1) := by decide +kernel
theorem dX7_mostOfHand_73 : decode cX7_mostOfHand 73 = .ok (.iinc 2 1, 3) := by decide +kernel
theorem dX7_mostOfHand_76 : decode cX7_mostOfHand 76 = .ok (.goto (-67), 3) := by decide +kernel
theorem dX7_mostOfHand_79 : decode cX7_mostOfHand 79 = .ok (.iload_n 1, 1) := by decide +kernel
theorem dX7_mostOfHand_80 : decode cX7_mostOfHand 80 = .ok (.ireturn, 1) := by decide +kernel
theorem dX7_trembling_0 : decode cX7_trembling 0 = .ok (.iconst 0, 1) := by decide +kernel
theorem dX7_trembling_1 : decode cX7_trembling 1 = .ok (.istore_n 1, 1) := by decide +kernel
theorem dX7_trembling_2 : decode cX7_trembling 2 = .ok (.iconst 0, 1) := by decide +kernel
theorem dX7_trembling_3 : decode cX7_trembling 3 = .ok (.istore_n 2, 1) := by decide +kernel
theorem dX7_trembling_4 : decode cX7_trembling 4 = .ok (.iload_n 2, 1) := by decide +kernel
theorem dX7_trembling_5 : decode cX7_trembling 5 = .ok (.aload_n 0, 1) := by decide +kernel
theorem dX7_trembling_6 : decode cX7_trembling 6 = .ok (.getfield 7, 3) := by decide +kernel
theorem dX7_trembling_9 : decode cX7_trembling 9 = .ok (.bipush 9, 2) := by decide +kernel
theorem dX7_trembling_11 : decode cX7_trembling 11 = .ok (.iaload, 1) := by decide +kernel
theorem dX7_trembling_12 : decode cX7_trembling 12 = .ok (.if_icmp .ge 25, 3) := by decide +kernel
theorem dX7_trembling_15 : decode cX7_trembling 15 = .ok (.iload_n 1, 1) := by decide +kernel
theorem dX7_trembling_16 : decode cX7_trembling 16 = .ok (.aload_n 0, 1) := by decide +kernel
theorem dX7_trembling_17 : decode cX7_trembling 17 = .ok (.iload_n 2, 1) := by decide +kernel
theorem dX7_trembling_18 : decode cX7_trembling 18 = .ok (.invokevirtual 116, 3) := by decide +kernel
theorem dX7_trembling_21 : decode cX7_trembling 21 = .ok (.ifCond .eq 7, 3) := by decide +kernel
theorem dX7_trembling_24 : decode cX7_trembling 24 = .ok (.iconst 1, 1) := by decide +kernel
theorem dX7_trembling_25 : decode cX7_trembling 25 = .ok (.goto 4, 3) := by decide +kernel
theorem dX7_trembling_28 : decode cX7_trembling 28 = .ok (.iconst 0, 1) := by decide +kernel
theorem dX7_trembling_29 : decode cX7_trembling 29 = .ok (.iadd, 1) := by decide +kernel
theorem dX7_trembling_30 : decode cX7_trembling 30 = .ok (.istore_n 1, 1) := by decide +kernel
theorem dX7_trembling_31 : decode cX7_trembling 31 = .ok (.iinc 2 1, 3) := by decide +kernel
theorem dX7_trembling_34 : decode cX7_trembling 34 = .ok (.goto (-30), 3) := by decide +kernel
theorem dX7_trembling_37 : decode cX7_trembling 37 = .ok (.iload_n 1, 1) := by decide +kernel
theorem dX7_trembling_38 : decode cX7_trembling 38 = .ok (.ireturn, 1) := by decide +kernel
theorem dX7_likePairs_0 : decode cX7_likePairs 0 = .ok (.iconst 0, 1) := by decide +kernel
theorem dX7_likePairs_1 : decode cX7_likePairs 1 = .ok (.istore_n 1, 1) := by decide +kernel
theorem dX7_likePairs_2 : decode cX7_likePairs 2 = .ok (.iconst 0, 1) := by decide +kernel
theorem dX7_likePairs_3 : decode cX7_likePairs 3 = .ok (.istore_n 2, 1) := by decide +kernel
theorem dX7_likePairs_4 : decode cX7_likePairs 4 = .ok (.iload_n 2, 1) := by decide +kernel
theorem dX7_likePairs_5 : decode cX7_likePairs 5 = .ok (.aload_n 0, 1) := by decide +kernel
theorem dX7_likePairs_6 : decode cX7_likePairs 6 = .ok (.getfield 7, 3) := by decide +kernel
theorem dX7_likePairs_9 : decode cX7_likePairs 9 = .ok (.bipush 9, 2) := by decide +kernel
theorem dX7_likePairs_11 : decode cX7_likePairs 11 = .ok (.iaload, 1) := by decide +kernel
theorem dX7_likePairs_12 : decode cX7_likePairs 12 = .ok (.if_icmp .ge 46, 3) := by decide +kernel
theorem dX7_likePairs_15 : decode cX7_likePairs 15 = .ok (.iconst 0, 1) := by decide +kernel
theorem dX7_likePairs_16 : decode cX7_likePairs 16 = .ok (.istore_n 3, 1) := by decide +kernel
theorem dX7_likePairs_17 : decode cX7_likePairs 17 = .ok (.iload_n 3, 1) := by decide +kernel
theorem dX7_likePairs_18 : decode cX7_likePairs 18 = .ok (.iload_n 2, 1) := by decide +kernel
theorem dX7_likePairs_19 : decode cX7_likePairs 19 = .ok (.if_icmp .ge 33, 3) := by decide +kernel
theorem dX7_likePairs_22 : decode cX7_likePairs 22 = .ok (.iload_n 1, 1) := by decide +kernel
theorem dX7_likePairs_23 : decode cX7_likePairs 23 = .ok (.aload_n 0, 1) := by decide +kernel
theorem dX7_likePairs_24 : decode cX7_likePairs 24 = .ok (.iload_n 2, 1) := by decide +kernel
theorem dX7_likePairs_25 : decode cX7_likePairs 25 = .ok (.iload_n 3, 1) := by decide +kernel
theorem dX7_likePairs_26 : decode cX7_likePairs 26 = .ok (.invokevirtual 119, 3) := by decide +kernel
theorem dX7_likePairs_29 : decode cX7_likePairs 29 = .ok (.aload_n 0, 1) := by decide +kernel
theorem dX7_likePairs_30 : decode cX7_likePairs 30 = .ok (.getfield 7, 3) := by decide +kernel
theorem dX7_likePairs_33 : decode cX7_likePairs 33 = .ok (.bipush 8, 2) := by decide +kernel
theorem dX7_likePairs_35 : decode cX7_likePairs 35 = .ok (.iaload, 1) := by decide +kernel
theorem dX7_likePairs_36 : decode cX7_likePairs 36 = .ok (.if_icmp .lt 7, 3) := by decide +kernel
theorem dX7_likePairs_39 : decode cX7_likePairs 39 = .ok (.iconst 1, 1) := by decide +kernel
theorem dX7_likePairs_40 : decode cX7_likePairs 40 = .ok (.goto 4, 3) := by decide +kernel
theorem dX7_likePairs_43 : decode cX7_likePairs 43 = .ok (.iconst 0, 1) := by decide +kernel
theorem dX7_likePairs_44 : decode cX7_likePairs 44 = .ok (.iadd, 1) := by decide +kernel
theorem dX7_likePairs_45 : decode cX7_likePairs 45 = .ok (.istore_n 1, 1) := by decide +kernel
theorem dX7_likePairs_46 : decode cX7_likePairs 46 = .ok (.iinc 3 1, 3) := by decide +kernel
theorem dX7_likePairs_49 : decode cX7_likePairs 49 = .ok (.goto (-32), 3) := by decide +kernel
theorem dX7_likePairs_52 : decode cX7_likePairs 52 = .ok (.iinc 2 1, 3) := by decide +kernel
theorem dX7_likePairs_55 : decode cX7_likePairs 55 = .ok (.goto (-51), 3) := by decide +kernel
theorem dX7_likePairs_58 : decode cX7_likePairs 58 = .ok (.iload_n 1, 1) := by decide +kernel
theorem dX7_likePairs_59 : decode cX7_likePairs 59 = .ok (.ireturn, 1) := by decide +kernel
theorem dX7_tellsCount_0 : decode cX7_tellsCount 0 = .ok (.iload_n 1, 1) := by decide +kernel
theorem dX7_tellsCount_1 : decode cX7_tellsCount 1 = .ok (.tableswitch 135 0 17 #[87, 87, 97, 102, 107, 112, 117, 125, 135, 135, 135, 135, 135, 135, 135, 135, 135, 130], 87) := by decide +kernel
theorem dX7_tellsCount_88 : decode cX7_tellsCount 88 = .ok (.aload_n 0, 1) := by decide +kernel
theorem dX7_tellsCount_89 : decode cX7_tellsCount 89 = .ok (.getfield 7, 3) := by decide +kernel
theorem dX7_tellsCount_92 : decode cX7_tellsCount 92 = .ok (.bipush 9, 2) := by decide +kernel
theorem dX7_tellsCount_94 : decode cX7_tellsCount 94 = .ok (.iload_n 1, 1) := by decide +kernel
theorem dX7_tellsCount_95 : decode cX7_tellsCount 95 = .ok (.iadd, 1) := by decide +kernel
theorem dX7_tellsCount_96 : decode cX7_tellsCount 96 = .ok (.iaload, 1) := by decide +kernel
theorem dX7_tellsCount_97 : decode cX7_tellsCount 97 = .ok (.ireturn, 1) := by decide +kernel
theorem dX7_tellsCount_98 : decode cX7_tellsCount 98 = .ok (.aload_n 0, 1) := by decide +kernel
theorem dX7_tellsCount_99 : decode cX7_tellsCount 99 = .ok (.invokevirtual 224, 3) := by decide +kernel
theorem dX7_tellsCount_102 : decode cX7_tellsCount 102 = .ok (.ireturn, 1) := by decide +kernel
theorem dX7_tellsCount_103 : decode cX7_tellsCount 103 = .ok (.aload_n 0, 1) := by decide +kernel
theorem dX7_tellsCount_104 : decode cX7_tellsCount 104 = .ok (.invokevirtual 125, 3) := by decide +kernel
theorem dX7_tellsCount_107 : decode cX7_tellsCount 107 = .ok (.ireturn, 1) := by decide +kernel
theorem dX7_tellsCount_108 : decode cX7_tellsCount 108 = .ok (.aload_n 0, 1) := by decide +kernel
theorem dX7_tellsCount_109 : decode cX7_tellsCount 109 = .ok (.invokevirtual 227, 3) := by decide +kernel
theorem dX7_tellsCount_112 : decode cX7_tellsCount 112 = .ok (.ireturn, 1) := by decide +kernel
theorem dX7_tellsCount_113 : decode cX7_tellsCount 113 = .ok (.aload_n 0, 1) := by decide +kernel
theorem dX7_tellsCount_114 : decode cX7_tellsCount 114 = .ok (.invokevirtual 230, 3) := by decide +kernel
theorem dX7_tellsCount_117 : decode cX7_tellsCount 117 = .ok (.ireturn, 1) := by decide +kernel
theorem dX7_tellsCount_118 : decode cX7_tellsCount 118 = .ok (.aload_n 0, 1) := by decide +kernel
theorem dX7_tellsCount_119 : decode cX7_tellsCount 119 = .ok (.getfield 7, 3) := by decide +kernel
theorem dX7_tellsCount_122 : decode cX7_tellsCount 122 = .ok (.bipush 11, 2) := by decide +kernel
theorem dX7_tellsCount_124 : decode cX7_tellsCount 124 = .ok (.iaload, 1) := by decide +kernel
theorem dX7_tellsCount_125 : decode cX7_tellsCount 125 = .ok (.ireturn, 1) := by decide +kernel
theorem dX7_tellsCount_126 : decode cX7_tellsCount 126 = .ok (.aload_n 0, 1) := by decide +kernel
theorem dX7_tellsCount_127 : decode cX7_tellsCount 127 = .ok (.invokevirtual 233, 3) := by decide +kernel
theorem dX7_tellsCount_130 : decode cX7_tellsCount 130 = .ok (.ireturn, 1) := by decide +kernel
theorem dX7_tellsCount_131 : decode cX7_tellsCount 131 = .ok (.aload_n 0, 1) := by decide +kernel
theorem dX7_tellsCount_132 : decode cX7_tellsCount 132 = .ok (.getfield 43, 3) := by decide +kernel
theorem dX7_tellsCount_135 : decode cX7_tellsCount 135 = .ok (.ireturn, 1) := by decide +kernel
theorem dX7_tellsCount_136 : decode cX7_tellsCount 136 = .ok (.aload_n 0, 1) := by decide +kernel
theorem dX7_tellsCount_137 : decode cX7_tellsCount 137 = .ok (.getfield 7, 3) := by decide +kernel
theorem dX7_tellsCount_140 : decode cX7_tellsCount 140 = .ok (.iconst 0, 1) := by decide +kernel
theorem dX7_tellsCount_141 : decode cX7_tellsCount 141 = .ok (.iload_n 1, 1) := by decide +kernel
theorem dX7_tellsCount_142 : decode cX7_tellsCount 142 = .ok (.iadd, 1) := by decide +kernel
theorem dX7_tellsCount_143 : decode cX7_tellsCount 143 = .ok (.bipush 8, 2) := by decide +kernel
theorem dX7_tellsCount_145 : decode cX7_tellsCount 145 = .ok (.isub, 1) := by decide +kernel
theorem dX7_tellsCount_146 : decode cX7_tellsCount 146 = .ok (.iaload, 1) := by decide +kernel
theorem dX7_tellsCount_147 : decode cX7_tellsCount 147 = .ok (.ireturn, 1) := by decide +kernel
theorem dX7_count_0 : decode cX7_count 0 = .ok (.aload_n 0, 1) := by decide +kernel
theorem dX7_count_1 : decode cX7_count 1 = .ok (.iconst 0, 1) := by decide +kernel
theorem dX7_count_2 : decode cX7_count 2 = .ok (.putfield 31, 3) := by decide +kernel
theorem dX7_count_5 : decode cX7_count 5 = .ok (.iload_n 1, 1) := by decide +kernel
theorem dX7_count_6 : decode cX7_count 6 = .ok (.iconst 0, 1) := by decide +kernel
theorem dX7_count_7 : decode cX7_count 7 = .ok (.bipush 17, 2) := by decide +kernel
theorem dX7_count_9 : decode cX7_count 9 = .ok (.invokestatic 35, 3) := by decide +kernel
theorem dX7_count_12 : decode cX7_count 12 = .ok (.ifCond .eq 11, 3) := by decide +kernel
theorem dX7_count_15 : decode cX7_count 15 = .ok (.aload_n 0, 1) := by decide +kernel
theorem dX7_count_16 : decode cX7_count 16 = .ok (.iload_n 1, 1) := by decide +kernel
theorem dX7_count_17 : decode cX7_count 17 = .ok (.invokevirtual 236, 3) := by decide +kernel
theorem dX7_count_20 : decode cX7_count 20 = .ok (.goto 8, 3) := by decide +kernel
theorem dX7_count_23 : decode cX7_count 23 = .ok (.aload_n 0, 1) := by decide +kernel
theorem dX7_count_24 : decode cX7_count 24 = .ok (.iconst 1, 1) := by decide +kernel
theorem dX7_count_25 : decode cX7_count 25 = .ok (.invokevirtual 46, 3) := by decide +kernel
theorem dX7_count_28 : decode cX7_count 28 = .ok (.ireturn, 1) := by decide +kernel
theorem dX7_whyNot_0 : decode cX7_whyNot 0 = .ok (.aload_n 0, 1) := by decide +kernel
theorem dX7_whyNot_1 : decode cX7_whyNot 1 = .ok (.iconst 0, 1) := by decide +kernel
theorem dX7_whyNot_2 : decode cX7_whyNot 2 = .ok (.putfield 31, 3) := by decide +kernel
theorem dX7_whyNot_5 : decode cX7_whyNot 5 = .ok (.aload_n 0, 1) := by decide +kernel
theorem dX7_whyNot_6 : decode cX7_whyNot 6 = .ok (.iload_n 1, 1) := by decide +kernel
theorem dX7_whyNot_7 : decode cX7_whyNot 7 = .ok (.invokevirtual 142, 3) := by decide +kernel
theorem dX7_whyNot_10 : decode cX7_whyNot 10 = .ok (.ifCond .eq 21, 3) := by decide +kernel
theorem dX7_whyNot_13 : decode cX7_whyNot 13 = .ok (.aload_n 0, 1) := by decide +kernel
theorem dX7_whyNot_14 : decode cX7_whyNot 14 = .ok (.iload_n 2, 1) := by decide +kernel
theorem dX7_whyNot_15 : decode cX7_whyNot 15 = .ok (.invokevirtual 142, 3) := by decide +kernel
theorem dX7_whyNot_18 : decode cX7_whyNot 18 = .ok (.ifCond .eq 13, 3) := by decide +kernel
theorem dX7_whyNot_21 : decode cX7_whyNot 21 = .ok (.aload_n 0, 1) := by decide +kernel
theorem dX7_whyNot_22 : decode cX7_whyNot 22 = .ok (.iload_n 1, 1) := by decide +kernel
theorem dX7_whyNot_23 : decode cX7_whyNot 23 = .ok (.iload_n 2, 1) := by decide +kernel
theorem dX7_whyNot_24 : decode cX7_whyNot 24 = .ok (.iload_n 3, 1) := by decide +kernel
theorem dX7_whyNot_25 : decode cX7_whyNot 25 = .ok (.invokevirtual 154, 3) := by decide +kernel
theorem dX7_whyNot_28 : decode cX7_whyNot 28 = .ok (.goto 8, 3) := by decide +kernel
theorem dX7_whyNot_31 : decode cX7_whyNot 31 = .ok (.aload_n 0, 1) := by decide +kernel
theorem dX7_whyNot_32 : decode cX7_whyNot 32 = .ok (.iconst 1, 1) := by decide +kernel
theorem dX7_whyNot_33 : decode cX7_whyNot 33 = .ok (.invokevirtual 46, 3) := by decide +kernel
theorem dX7_whyNot_36 : decode cX7_whyNot 36 = .ok (.ireturn, 1) := by decide +kernel
theorem dX7_mostAlike_0 : decode cX7_mostAlike 0 = .ok (.iconst (-1), 1) := by decide +kernel
theorem dX7_mostAlike_1 : decode cX7_mostAlike 1 = .ok (.istore_n 2, 1) := by decide +kernel
theorem dX7_mostAlike_2 : decode cX7_mostAlike 2 = .ok (.iconst 0, 1) := by decide +kernel
theorem dX7_mostAlike_3 : decode cX7_mostAlike 3 = .ok (.istore_n 3, 1) := by decide +kernel
theorem dX7_mostAlike_4 : decode cX7_mostAlike 4 = .ok (.iload_n 3, 1) := by decide +kernel
theorem dX7_mostAlike_5 : decode cX7_mostAlike 5 = .ok (.aload_n 0, 1) := by decide +kernel
theorem dX7_mostAlike_6 : decode cX7_mostAlike 6 = .ok (.getfield 7, 3) := by decide +kernel
theorem dX7_mostAlike_9 : decode cX7_mostAlike 9 = .ok (.bipush 9, 2) := by decide +kernel
theorem dX7_mostAlike_11 : decode cX7_mostAlike 11 = .ok (.iaload, 1) := by decide +kernel
theorem dX7_mostAlike_12 : decode cX7_mostAlike 12 = .ok (.if_icmp .ge 52, 3) := by decide +kernel
theorem dX7_mostAlike_15 : decode cX7_mostAlike 15 = .ok (.iload_n 3, 1) := by decide +kernel
theorem dX7_mostAlike_16 : decode cX7_mostAlike 16 = .ok (.iload_n 1, 1) := by decide +kernel
theorem dX7_mostAlike_17 : decode cX7_mostAlike 17 = .ok (.if_icmp .eq 27, 3) := by decide +kernel
theorem dX7_mostAlike_20 : decode cX7_mostAlike 20 = .ok (.iload_n 2, 1) := by decide +kernel
theorem dX7_mostAlike_21 : decode cX7_mostAlike 21 = .ok (.iconst (-1), 1) := by decide +kernel
theorem dX7_mostAlike_22 : decode cX7_mostAlike 22 = .ok (.if_icmp .eq 18, 3) := by decide +kernel
theorem dX7_mostAlike_25 : decode cX7_mostAlike 25 = .ok (.aload_n 0, 1) := by decide +kernel
theorem dX7_mostAlike_26 : decode cX7_mostAlike 26 = .ok (.iload_n 1, 1) := by decide +kernel
theorem dX7_mostAlike_27 : decode cX7_mostAlike 27 = .ok (.iload_n 3, 1) := by decide +kernel
theorem dX7_mostAlike_28 : decode cX7_mostAlike 28 = .ok (.invokevirtual 119, 3) := by decide +kernel
theorem dX7_mostAlike_31 : decode cX7_mostAlike 31 = .ok (.aload_n 0, 1) := by decide +kernel
theorem dX7_mostAlike_32 : decode cX7_mostAlike 32 = .ok (.iload_n 1, 1) := by decide +kernel
theorem dX7_mostAlike_33 : decode cX7_mostAlike 33 = .ok (.iload_n 2, 1) := by decide +kernel
theorem dX7_mostAlike_34 : decode cX7_mostAlike 34 = .ok (.invokevirtual 119, 3) := by decide +kernel
theorem dX7_mostAlike_37 : decode cX7_mostAlike 37 = .ok (.if_icmp .le 7, 3) := by decide +kernel
theorem dX7_mostAlike_40 : decode cX7_mostAlike 40 = .ok (.iconst 1, 1) := by decide +kernel
theorem dX7_mostAlike_41 : decode cX7_mostAlike 41 = .ok (.goto 4, 3) := by decide +kernel
theorem dX7_mostAlike_44 : decode cX7_mostAlike 44 = .ok (.iconst 0, 1) := by decide +kernel
theorem dX7_mostAlike_45 : decode cX7_mostAlike 45 = .ok (.istore 4, 2) := by decide +kernel
theorem dX7_mostAlike_47 : decode cX7_mostAlike 47 = .ok (.iload 4, 2) := by decide +kernel
theorem dX7_mostAlike_49 : decode cX7_mostAlike 49 = .ok (.ifCond .eq 7, 3) := by decide +kernel
theorem dX7_mostAlike_52 : decode cX7_mostAlike 52 = .ok (.iload_n 3, 1) := by decide +kernel
theorem dX7_mostAlike_53 : decode cX7_mostAlike 53 = .ok (.goto 4, 3) := by decide +kernel
theorem dX7_mostAlike_56 : decode cX7_mostAlike 56 = .ok (.iload_n 2, 1) := by decide +kernel
theorem dX7_mostAlike_57 : decode cX7_mostAlike 57 = .ok (.istore_n 2, 1) := by decide +kernel
theorem dX7_mostAlike_58 : decode cX7_mostAlike 58 = .ok (.iinc 3 1, 3) := by decide +kernel
theorem dX7_mostAlike_61 : decode cX7_mostAlike 61 = .ok (.goto (-57), 3) := by decide +kernel
theorem dX7_mostAlike_64 : decode cX7_mostAlike 64 = .ok (.iload_n 2, 1) := by decide +kernel
theorem dX7_mostAlike_65 : decode cX7_mostAlike 65 = .ok (.ireturn, 1) := by decide +kernel
theorem dX7_nearest_0 : decode cX7_nearest 0 = .ok (.aload_n 0, 1) := by decide +kernel
theorem dX7_nearest_1 : decode cX7_nearest 1 = .ok (.iconst 0, 1) := by decide +kernel
theorem dX7_nearest_2 : decode cX7_nearest 2 = .ok (.putfield 31, 3) := by decide +kernel
theorem dX7_nearest_5 : decode cX7_nearest 5 = .ok (.aload_n 0, 1) := by decide +kernel
theorem dX7_nearest_6 : decode cX7_nearest 6 = .ok (.iload_n 1, 1) := by decide +kernel
theorem dX7_nearest_7 : decode cX7_nearest 7 = .ok (.invokevirtual 142, 3) := by decide +kernel
theorem dX7_nearest_10 : decode cX7_nearest 10 = .ok (.ifCond .eq 11, 3) := by decide +kernel
theorem dX7_nearest_13 : decode cX7_nearest 13 = .ok (.aload_n 0, 1) := by decide +kernel
theorem dX7_nearest_14 : decode cX7_nearest 14 = .ok (.iload_n 1, 1) := by decide +kernel
theorem dX7_nearest_15 : decode cX7_nearest 15 = .ok (.invokevirtual 239, 3) := by decide +kernel
theorem dX7_nearest_18 : decode cX7_nearest 18 = .ok (.goto 8, 3) := by decide +kernel
theorem dX7_nearest_21 : decode cX7_nearest 21 = .ok (.aload_n 0, 1) := by decide +kernel
theorem dX7_nearest_22 : decode cX7_nearest 22 = .ok (.iconst 1, 1) := by decide +kernel
theorem dX7_nearest_23 : decode cX7_nearest 23 = .ok (.invokevirtual 46, 3) := by decide +kernel
theorem dX7_nearest_26 : decode cX7_nearest 26 = .ok (.ireturn, 1) := by decide +kernel
theorem dX7_tolerance_0 : decode cX7_tolerance 0 = .ok (.aload_n 0, 1) := by decide +kernel
theorem dX7_tolerance_1 : decode cX7_tolerance 1 = .ok (.iload_n 1, 1) := by decide +kernel
theorem dX7_tolerance_2 : decode cX7_tolerance 2 = .ok (.iload_n 2, 1) := by decide +kernel
theorem dX7_tolerance_3 : decode cX7_tolerance 3 = .ok (.iload_n 3, 1) := by decide +kernel
theorem dX7_tolerance_4 : decode cX7_tolerance 4 = .ok (.invokevirtual 89, 3) := by decide +kernel
theorem dX7_tolerance_7 : decode cX7_tolerance 7 = .ok (.istore 4, 2) := by decide +kernel
theorem dX7_tolerance_9 : decode cX7_tolerance 9 = .ok (.aload_n 0, 1) := by decide +kernel
theorem dX7_tolerance_10 : decode cX7_tolerance 10 = .ok (.iload_n 1, 1) := by decide +kernel
theorem dX7_tolerance_11 : decode cX7_tolerance 11 = .ok (.iload_n 2, 1) := by decide +kernel
theorem dX7_tolerance_12 : decode cX7_tolerance 12 = .ok (.iload_n 3, 1) := by decide +kernel
theorem dX7_tolerance_13 : decode cX7_tolerance 13 = .ok (.invokevirtual 86, 3) := by decide +kernel
theorem dX7_tolerance_16 : decode cX7_tolerance 16 = .ok (.ifCond .eq 7, 3) := by decide +kernel
theorem dX7_tolerance_19 : decode cX7_tolerance 19 = .ok (.iconst (-1), 1) := by decide +kernel
theorem dX7_tolerance_20 : decode cX7_tolerance 20 = .ok (.goto 14, 3) := by decide +kernel
theorem dX7_tolerance_23 : decode cX7_tolerance 23 = .ok (.iload 4, 2) := by decide +kernel
theorem dX7_tolerance_25 : decode cX7_tolerance 25 = .ok (.ifCond .ge 7, 3) := by decide +kernel
theorem dX7_tolerance_28 : decode cX7_tolerance 28 = .ok (.iconst 0, 1) := by decide +kernel
theorem dX7_tolerance_29 : decode cX7_tolerance 29 = .ok (.goto 5, 3) := by decide +kernel
theorem dX7_tolerance_32 : decode cX7_tolerance 32 = .ok (.iload 4, 2) := by decide +kernel
theorem dX7_tolerance_34 : decode cX7_tolerance 34 = .ok (.ireturn, 1) := by decide +kernel
theorem dX7_toleranceFor_0 : decode cX7_toleranceFor 0 = .ok (.aload_n 0, 1) := by decide +kernel
theorem dX7_toleranceFor_1 : decode cX7_toleranceFor 1 = .ok (.iconst 0, 1) := by decide +kernel
theorem dX7_toleranceFor_2 : decode cX7_toleranceFor 2 = .ok (.putfield 31, 3) := by decide +kernel
theorem dX7_toleranceFor_5 : decode cX7_toleranceFor 5 = .ok (.aload_n 0, 1) := by decide +kernel
theorem dX7_toleranceFor_6 : decode cX7_toleranceFor 6 = .ok (.iload_n 1, 1) := by decide +kernel
theorem dX7_toleranceFor_7 : decode cX7_toleranceFor 7 = .ok (.invokevirtual 142, 3) := by decide +kernel
theorem dX7_toleranceFor_10 : decode cX7_toleranceFor 10 = .ok (.ifCond .eq 11, 3) := by decide +kernel
theorem dX7_toleranceFor_13 : decode cX7_toleranceFor 13 = .ok (.aload_n 0, 1) := by decide +kernel
theorem dX7_toleranceFor_14 : decode cX7_toleranceFor 14 = .ok (.iload_n 2, 1) := by decide +kernel
theorem dX7_toleranceFor_15 : decode cX7_toleranceFor 15 = .ok (.invokevirtual 142, 3) := by decide +kernel
theorem dX7_toleranceFor_18 : decode cX7_toleranceFor 18 = .ok (.ifCond .ne 9, 3) := by decide +kernel
theorem dX7_toleranceFor_21 : decode cX7_toleranceFor 21 = .ok (.aload_n 0, 1) := by decide +kernel
theorem dX7_toleranceFor_22 : decode cX7_toleranceFor 22 = .ok (.iconst 1, 1) := by decide +kernel
theorem dX7_toleranceFor_23 : decode cX7_toleranceFor 23 = .ok (.invokevirtual 46, 3) := by decide +kernel
theorem dX7_toleranceFor_26 : decode cX7_toleranceFor 26 = .ok (.ireturn, 1) := by decide +kernel
theorem dX7_toleranceFor_27 : decode cX7_toleranceFor 27 = .ok (.iload_n 3, 1) := by decide +kernel
theorem dX7_toleranceFor_28 : decode cX7_toleranceFor 28 = .ok (.iconst 0, 1) := by decide +kernel
theorem dX7_toleranceFor_29 : decode cX7_toleranceFor 29 = .ok (.iconst 5, 1) := by decide +kernel
theorem dX7_toleranceFor_30 : decode cX7_toleranceFor 30 = .ok (.invokestatic 35, 3) := by decide +kernel
theorem dX7_toleranceFor_33 : decode cX7_toleranceFor 33 = .ok (.ifCond .eq 13, 3) := by decide +kernel
theorem dX7_toleranceFor_36 : decode cX7_toleranceFor 36 = .ok (.aload_n 0, 1) := by decide +kernel
theorem dX7_toleranceFor_37 : decode cX7_toleranceFor 37 = .ok (.iload_n 1, 1) := by decide +kernel
theorem dX7_toleranceFor_38 : decode cX7_toleranceFor 38 = .ok (.iload_n 2, 1) := by decide +kernel
theorem dX7_toleranceFor_39 : decode cX7_toleranceFor 39 = .ok (.iload_n 3, 1) := by decide +kernel
theorem dX7_toleranceFor_40 : decode cX7_toleranceFor 40 = .ok (.invokevirtual 242, 3) := by decide +kernel
theorem dX7_toleranceFor_43 : decode cX7_toleranceFor 43 = .ok (.goto 8, 3) := by decide +kernel
theorem dX7_toleranceFor_46 : decode cX7_toleranceFor 46 = .ok (.aload_n 0, 1) := by decide +kernel
theorem dX7_toleranceFor_47 : decode cX7_toleranceFor 47 = .ok (.iconst 2, 1) := by decide +kernel
theorem dX7_toleranceFor_48 : decode cX7_toleranceFor 48 = .ok (.invokevirtual 46, 3) := by decide +kernel
theorem dX7_toleranceFor_51 : decode cX7_toleranceFor 51 = .ok (.ireturn, 1) := by decide +kernel
theorem dX7_wouldPass_0 : decode cX7_wouldPass 0 = .ok (.aload_n 0, 1) := by decide +kernel
theorem dX7_wouldPass_1 : decode cX7_wouldPass 1 = .ok (.invokevirtual 245, 3) := by decide +kernel
theorem dX7_wouldPass_4 : decode cX7_wouldPass 4 = .ok (.aload_n 0, 1) := by decide +kernel
theorem dX7_wouldPass_5 : decode cX7_wouldPass 5 = .ok (.iload_n 3, 1) := by decide +kernel
theorem dX7_wouldPass_6 : decode cX7_wouldPass 6 = .ok (.invokevirtual 148, 3) := by decide +kernel
theorem dX7_wouldPass_9 : decode cX7_wouldPass 9 = .ok (.istore 4, 2) := by decide +kernel
theorem dX7_wouldPass_11 : decode cX7_wouldPass 11 = .ok (.iload 4, 2) := by decide +kernel
theorem dX7_wouldPass_13 : decode cX7_wouldPass 13 = .ok (.iconst (-1), 1) := by decide +kernel
theorem dX7_wouldPass_14 : decode cX7_wouldPass 14 = .ok (.if_icmp .ne 7, 3) := by decide +kernel
theorem dX7_wouldPass_17 : decode cX7_wouldPass 17 = .ok (.iconst 0, 1) := by decide +kernel
theorem dX7_wouldPass_18 : decode cX7_wouldPass 18 = .ok (.goto 9, 3) := by decide +kernel
theorem dX7_wouldPass_21 : decode cX7_wouldPass 21 = .ok (.aload_n 0, 1) := by decide +kernel
theorem dX7_wouldPass_22 : decode cX7_wouldPass 22 = .ok (.iload_n 1, 1) := by decide +kernel
theorem dX7_wouldPass_23 : decode cX7_wouldPass 23 = .ok (.iload_n 2, 1) := by decide +kernel
theorem dX7_wouldPass_24 : decode cX7_wouldPass 24 = .ok (.invokevirtual 119, 3) := by decide +kernel
theorem dX7_wouldPass_27 : decode cX7_wouldPass 27 = .ok (.istore 5, 2) := by decide +kernel
theorem dX7_wouldPass_29 : decode cX7_wouldPass 29 = .ok (.aload_n 0, 1) := by decide +kernel
theorem dX7_wouldPass_30 : decode cX7_wouldPass 30 = .ok (.invokevirtual 248, 3) := by decide +kernel
theorem dX7_wouldPass_33 : decode cX7_wouldPass 33 = .ok (.iload 5, 2) := by decide +kernel
theorem dX7_wouldPass_35 : decode cX7_wouldPass 35 = .ok (.ireturn, 1) := by decide +kernel
theorem dX7_ifPassed_0 : decode cX7_ifPassed 0 = .ok (.aload_n 0, 1) := by decide +kernel
theorem dX7_ifPassed_1 : decode cX7_ifPassed 1 = .ok (.iconst 0, 1) := by decide +kernel
theorem dX7_ifPassed_2 : decode cX7_ifPassed 2 = .ok (.putfield 31, 3) := by decide +kernel
theorem dX7_ifPassed_5 : decode cX7_ifPassed 5 = .ok (.aload_n 0, 1) := by decide +kernel
theorem dX7_ifPassed_6 : decode cX7_ifPassed 6 = .ok (.iload_n 1, 1) := by decide +kernel
theorem dX7_ifPassed_7 : decode cX7_ifPassed 7 = .ok (.invokevirtual 142, 3) := by decide +kernel
theorem dX7_ifPassed_10 : decode cX7_ifPassed 10 = .ok (.ifCond .eq 11, 3) := by decide +kernel
theorem dX7_ifPassed_13 : decode cX7_ifPassed 13 = .ok (.aload_n 0, 1) := by decide +kernel
theorem dX7_ifPassed_14 : decode cX7_ifPassed 14 = .ok (.iload_n 2, 1) := by decide +kernel
theorem dX7_ifPassed_15 : decode cX7_ifPassed 15 = .ok (.invokevirtual 142, 3) := by decide +kernel
theorem dX7_ifPassed_18 : decode cX7_ifPassed 18 = .ok (.ifCond .ne 9, 3) := by decide +kernel
theorem dX7_ifPassed_21 : decode cX7_ifPassed 21 = .ok (.aload_n 0, 1) := by decide +kernel
theorem dX7_ifPassed_22 : decode cX7_ifPassed 22 = .ok (.iconst 1, 1) := by decide +kernel
theorem dX7_ifPassed_23 : decode cX7_ifPassed 23 = .ok (.invokevirtual 46, 3) := by decide +kernel
theorem dX7_ifPassed_26 : decode cX7_ifPassed 26 = .ok (.ireturn, 1) := by decide +kernel
theorem dX7_ifPassed_27 : decode cX7_ifPassed 27 = .ok (.iload_n 3, 1) := by decide +kernel
theorem dX7_ifPassed_28 : decode cX7_ifPassed 28 = .ok (.iconst 1, 1) := by decide +kernel
theorem dX7_ifPassed_29 : decode cX7_ifPassed 29 = .ok (.bipush 99, 2) := by decide +kernel
theorem dX7_ifPassed_31 : decode cX7_ifPassed 31 = .ok (.invokestatic 35, 3) := by decide +kernel
theorem dX7_ifPassed_34 : decode cX7_ifPassed 34 = .ok (.ifCond .eq 13, 3) := by decide +kernel
theorem dX7_ifPassed_37 : decode cX7_ifPassed 37 = .ok (.aload_n 0, 1) := by decide +kernel
theorem dX7_ifPassed_38 : decode cX7_ifPassed 38 = .ok (.iload_n 1, 1) := by decide +kernel
theorem dX7_ifPassed_39 : decode cX7_ifPassed 39 = .ok (.iload_n 2, 1) := by decide +kernel
theorem dX7_ifPassed_40 : decode cX7_ifPassed 40 = .ok (.iload_n 3, 1) := by decide +kernel
theorem dX7_ifPassed_41 : decode cX7_ifPassed 41 = .ok (.invokevirtual 251, 3) := by decide +kernel
theorem dX7_ifPassed_44 : decode cX7_ifPassed 44 = .ok (.goto 8, 3) := by decide +kernel
theorem dX7_ifPassed_47 : decode cX7_ifPassed 47 = .ok (.aload_n 0, 1) := by decide +kernel
theorem dX7_ifPassed_48 : decode cX7_ifPassed 48 = .ok (.iconst 2, 1) := by decide +kernel
theorem dX7_ifPassed_49 : decode cX7_ifPassed 49 = .ok (.invokevirtual 46, 3) := by decide +kernel
theorem dX7_ifPassed_52 : decode cX7_ifPassed 52 = .ok (.ireturn, 1) := by decide +kernel
theorem dX7_share_0 : decode cX7_share 0 = .ok (.aload_n 0, 1) := by decide +kernel
theorem dX7_share_1 : decode cX7_share 1 = .ok (.iconst (-1), 1) := by decide +kernel
theorem dX7_share_2 : decode cX7_share 2 = .ok (.invokevirtual 105, 3) := by decide +kernel
theorem dX7_share_5 : decode cX7_share 5 = .ok (.iconst 0, 1) := by decide +kernel
theorem dX7_share_6 : decode cX7_share 6 = .ok (.istore_n 1, 1) := by decide +kernel
theorem dX7_share_7 : decode cX7_share 7 = .ok (.iconst 0, 1) := by decide +kernel
theorem dX7_share_8 : decode cX7_share 8 = .ok (.istore_n 2, 1) := by decide +kernel
theorem dX7_share_9 : decode cX7_share 9 = .ok (.iconst 0, 1) := by decide +kernel
theorem dX7_share_10 : decode cX7_share 10 = .ok (.istore_n 3, 1) := by decide +kernel
theorem dX7_share_11 : decode cX7_share 11 = .ok (.iload_n 3, 1) := by decide +kernel
theorem dX7_share_12 : decode cX7_share 12 = .ok (.aload_n 0, 1) := by decide +kernel
theorem dX7_share_13 : decode cX7_share 13 = .ok (.getfield 7, 3) := by decide +kernel
theorem dX7_share_16 : decode cX7_share 16 = .ok (.bipush 9, 2) := by decide +kernel
theorem dX7_share_18 : decode cX7_share 18 = .ok (.iaload, 1) := by decide +kernel
theorem dX7_share_19 : decode cX7_share 19 = .ok (.if_icmp .ge 79, 3) := by decide +kernel
theorem dX7_share_22 : decode cX7_share 22 = .ok (.iconst 0, 1) := by decide +kernel
theorem dX7_share_23 : decode cX7_share 23 = .ok (.istore 4, 2) := by decide +kernel
theorem dX7_share_25 : decode cX7_share 25 = .ok (.iload 4, 2) := by decide +kernel
theorem dX7_share_27 : decode cX7_share 27 = .ok (.iload_n 3, 1) := by decide +kernel
theorem dX7_share_28 : decode cX7_share 28 = .ok (.if_icmp .ge 64, 3) := by decide +kernel
theorem dX7_share_31 : decode cX7_share 31 = .ok (.aload_n 0, 1) := by decide +kernel
theorem dX7_share_32 : decode cX7_share 32 = .ok (.getfield 28, 3) := by decide +kernel
theorem dX7_share_35 : decode cX7_share 35 = .ok (.iload_n 3, 1) := by decide +kernel
theorem dX7_share_36 : decode cX7_share 36 = .ok (.iaload, 1) := by decide +kernel
theorem dX7_share_37 : decode cX7_share 37 = .ok (.aload_n 0, 1) := by decide +kernel
theorem dX7_share_38 : decode cX7_share 38 = .ok (.getfield 28, 3) := by decide +kernel
theorem dX7_share_41 : decode cX7_share 41 = .ok (.iload 4, 2) := by decide +kernel
theorem dX7_share_43 : decode cX7_share 43 = .ok (.iaload, 1) := by decide +kernel
theorem dX7_share_44 : decode cX7_share 44 = .ok (.if_icmp .ne 7, 3) := by decide +kernel
theorem dX7_share_47 : decode cX7_share 47 = .ok (.iconst 1, 1) := by decide +kernel
theorem dX7_share_48 : decode cX7_share 48 = .ok (.goto 4, 3) := by decide +kernel
theorem dX7_share_51 : decode cX7_share 51 = .ok (.iconst 0, 1) := by decide +kernel
theorem dX7_share_52 : decode cX7_share 52 = .ok (.istore 5, 2) := by decide +kernel
theorem dX7_share_54 : decode cX7_share 54 = .ok (.iload_n 1, 1) := by decide +kernel
theorem dX7_share_55 : decode cX7_share 55 = .ok (.iload 5, 2) := by decide +kernel
theorem dX7_share_57 : decode cX7_share 57 = .ok (.ifCond .eq 13, 3) := by decide +kernel
theorem dX7_share_60 : decode cX7_share 60 = .ok (.aload_n 0, 1) := by decide +kernel
theorem dX7_share_61 : decode cX7_share 61 = .ok (.iload_n 3, 1) := by decide +kernel
theorem dX7_share_62 : decode cX7_share 62 = .ok (.iload 4, 2) := by decide +kernel
theorem dX7_share_64 : decode cX7_share 64 = .ok (.invokevirtual 119, 3) := by decide +kernel
theorem dX7_share_67 : decode cX7_share 67 = .ok (.goto 4, 3) := by decide +kernel
theorem dX7_share_70 : decode cX7_share 70 = .ok (.iconst 0, 1) := by decide +kernel
theorem dX7_share_71 : decode cX7_share 71 = .ok (.iadd, 1) := by decide +kernel
theorem dX7_share_72 : decode cX7_share 72 = .ok (.istore_n 1, 1) := by decide +kernel
theorem dX7_share_73 : decode cX7_share 73 = .ok (.iload_n 2, 1) := by decide +kernel
theorem dX7_share_74 : decode cX7_share 74 = .ok (.iload 5, 2) := by decide +kernel
theorem dX7_share_76 : decode cX7_share 76 = .ok (.ifCond .eq 7, 3) := by decide +kernel
theorem dX7_share_79 : decode cX7_share 79 = .ok (.iconst 1, 1) := by decide +kernel
theorem dX7_share_80 : decode cX7_share 80 = .ok (.goto 4, 3) := by decide +kernel
theorem dX7_share_83 : decode cX7_share 83 = .ok (.iconst 0, 1) := by decide +kernel
theorem dX7_share_84 : decode cX7_share 84 = .ok (.iadd, 1) := by decide +kernel
theorem dX7_share_85 : decode cX7_share 85 = .ok (.istore_n 2, 1) := by decide +kernel
theorem dX7_share_86 : decode cX7_share 86 = .ok (.iinc 4 1, 3) := by decide +kernel
theorem dX7_share_89 : decode cX7_share 89 = .ok (.goto (-64), 3) := by decide +kernel
theorem dX7_share_92 : decode cX7_share 92 = .ok (.iinc 3 1, 3) := by decide +kernel
theorem dX7_share_95 : decode cX7_share 95 = .ok (.goto (-84), 3) := by decide +kernel
theorem dX7_share_98 : decode cX7_share 98 = .ok (.iload_n 2, 1) := by decide +kernel
theorem dX7_share_99 : decode cX7_share 99 = .ok (.ifCond .ne 7, 3) := by decide +kernel
theorem dX7_share_102 : decode cX7_share 102 = .ok (.dconst 1, 1) := by decide +kernel
theorem dX7_share_103 : decode cX7_share 103 = .ok (.goto 11, 3) := by decide +kernel
theorem dX7_share_106 : decode cX7_share 106 = .ok (.iload_n 1, 1) := by decide +kernel
theorem dX7_share_107 : decode cX7_share 107 = .ok (.i2d, 1) := by decide +kernel
theorem dX7_share_108 : decode cX7_share 108 = .ok (.bipush 6, 2) := by decide +kernel
theorem dX7_share_110 : decode cX7_share 110 = .ok (.iload_n 2, 1) := by decide +kernel
theorem dX7_share_111 : decode cX7_share 111 = .ok (.imul, 1) := by decide +kernel
theorem dX7_share_112 : decode cX7_share 112 = .ok (.i2d, 1) := by decide +kernel
theorem dX7_share_113 : decode cX7_share 113 = .ok (.ddiv, 1) := by decide +kernel
theorem dX7_share_114 : decode cX7_share 114 = .ok (.dreturn, 1) := by decide +kernel
theorem dX7_handShare_0 : decode cX7_handShare 0 = .ok (.aload_n 0, 1) := by decide +kernel
theorem dX7_handShare_1 : decode cX7_handShare 1 = .ok (.iconst 0, 1) := by decide +kernel
theorem dX7_handShare_2 : decode cX7_handShare 2 = .ok (.putfield 31, 3) := by decide +kernel
theorem dX7_handShare_5 : decode cX7_handShare 5 = .ok (.aload_n 0, 1) := by decide +kernel
theorem dX7_handShare_6 : decode cX7_handShare 6 = .ok (.invokevirtual 254, 3) := by decide +kernel
theorem dX7_handShare_9 : decode cX7_handShare 9 = .ok (.dreturn, 1) := by decide +kernel
theorem dX7_mix_0 : decode cX7_mix 0 = .ok (.aload_n 0, 1) := by decide +kernel
theorem dX7_mix_1 : decode cX7_mix 1 = .ok (.ldc2_w 258, 3) := by decide +kernel
theorem dX7_mix_4 : decode cX7_mix 4 = .ok (.aload_n 0, 1) := by decide +kernel
theorem dX7_mix_5 : decode cX7_mix 5 = .ok (.getfield 260, 3) := by decide +kernel
theorem dX7_mix_8 : decode cX7_mix 8 = .ok (.lmul, 1) := by decide +kernel
theorem dX7_mix_9 : decode cX7_mix 9 = .ok (.lload_n 1, 1) := by decide +kernel
theorem dX7_mix_10 : decode cX7_mix 10 = .ok (.ladd, 1) := by decide +kernel
theorem dX7_mix_11 : decode cX7_mix 11 = .ok (.putfield 260, 3) := by decide +kernel
theorem dX7_mix_14 : decode cX7_mix 14 = .ok (.return_, 1) := by decide +kernel
theorem dX7_mixSheet_0 : decode cX7_mixSheet 0 = .ok (.iconst 0, 1) := by decide +kernel
theorem dX7_mixSheet_1 : decode cX7_mixSheet 1 = .ok (.istore_n 2, 1) := by decide +kernel
theorem dX7_mixSheet_2 : decode cX7_mixSheet 2 = .ok (.iload_n 2, 1) := by decide +kernel
theorem dX7_mixSheet_3 : decode cX7_mixSheet 3 = .ok (.bipush 7, 2) := by decide +kernel
theorem dX7_mixSheet_5 : decode cX7_mixSheet 5 = .ok (.if_icmp .ge 20, 3) := by decide +kernel
theorem dX7_mixSheet_8 : decode cX7_mixSheet 8 = .ok (.aload_n 0, 1) := by decide +kernel
theorem dX7_mixSheet_9 : decode cX7_mixSheet 9 = .ok (.aload_n 0, 1) := by decide +kernel
theorem dX7_mixSheet_10 : decode cX7_mixSheet 10 = .ok (.iload_n 1, 1) := by decide +kernel
theorem dX7_mixSheet_11 : decode cX7_mixSheet 11 = .ok (.iload_n 2, 1) := by decide +kernel
theorem dX7_mixSheet_12 : decode cX7_mixSheet 12 = .ok (.invokevirtual 206, 3) := by decide +kernel
theorem dX7_mixSheet_15 : decode cX7_mixSheet 15 = .ok (.i2l, 1) := by decide +kernel
theorem dX7_mixSheet_16 : decode cX7_mixSheet 16 = .ok (.invokevirtual 264, 3) := by decide +kernel
theorem dX7_mixSheet_19 : decode cX7_mixSheet 19 = .ok (.iinc 2 1, 3) := by decide +kernel
theorem dX7_mixSheet_22 : decode cX7_mixSheet 22 = .ok (.goto (-20), 3) := by decide +kernel
theorem dX7_mixSheet_25 : decode cX7_mixSheet 25 = .ok (.iconst 0, 1) := by decide +kernel
theorem dX7_mixSheet_26 : decode cX7_mixSheet 26 = .ok (.istore_n 2, 1) := by decide +kernel
theorem dX7_mixSheet_27 : decode cX7_mixSheet 27 = .ok (.iload_n 2, 1) := by decide +kernel
theorem dX7_mixSheet_28 : decode cX7_mixSheet 28 = .ok (.iconst 5, 1) := by decide +kernel
theorem dX7_mixSheet_29 : decode cX7_mixSheet 29 = .ok (.aload_n 0, 1) := by decide +kernel
theorem dX7_mixSheet_30 : decode cX7_mixSheet 30 = .ok (.iload_n 1, 1) := by decide +kernel
theorem dX7_mixSheet_31 : decode cX7_mixSheet 31 = .ok (.iconst 1, 1) := by decide +kernel
theorem dX7_mixSheet_32 : decode cX7_mixSheet 32 = .ok (.invokevirtual 39, 3) := by decide +kernel
theorem dX7_mixSheet_35 : decode cX7_mixSheet 35 = .ok (.imul, 1) := by decide +kernel
theorem dX7_mixSheet_36 : decode cX7_mixSheet 36 = .ok (.if_icmp .ge 25, 3) := by decide +kernel
theorem dX7_mixSheet_39 : decode cX7_mixSheet 39 = .ok (.aload_n 0, 1) := by decide +kernel
theorem dX7_mixSheet_40 : decode cX7_mixSheet 40 = .ok (.aload_n 0, 1) := by decide +kernel
theorem dX7_mixSheet_41 : decode cX7_mixSheet 41 = .ok (.iload_n 1, 1) := by decide +kernel
theorem dX7_mixSheet_42 : decode cX7_mixSheet 42 = .ok (.iload_n 2, 1) := by decide +kernel
theorem dX7_mixSheet_43 : decode cX7_mixSheet 43 = .ok (.iconst 5, 1) := by decide +kernel
theorem dX7_mixSheet_44 : decode cX7_mixSheet 44 = .ok (.idiv, 1) := by decide +kernel
theorem dX7_mixSheet_45 : decode cX7_mixSheet 45 = .ok (.iload_n 2, 1) := by decide +kernel
theorem dX7_mixSheet_46 : decode cX7_mixSheet 46 = .ok (.iconst 5, 1) := by decide +kernel
theorem dX7_mixSheet_47 : decode cX7_mixSheet 47 = .ok (.irem, 1) := by decide +kernel
theorem dX7_mixSheet_48 : decode cX7_mixSheet 48 = .ok (.invokevirtual 209, 3) := by decide +kernel
theorem dX7_mixSheet_51 : decode cX7_mixSheet 51 = .ok (.i2l, 1) := by decide +kernel
theorem dX7_mixSheet_52 : decode cX7_mixSheet 52 = .ok (.invokevirtual 264, 3) := by decide +kernel
theorem dX7_mixSheet_55 : decode cX7_mixSheet 55 = .ok (.iinc 2 1, 3) := by decide +kernel
theorem dX7_mixSheet_58 : decode cX7_mixSheet 58 = .ok (.goto (-31), 3) := by decide +kernel
theorem dX7_mixSheet_61 : decode cX7_mixSheet 61 = .ok (.iconst 0, 1) := by decide +kernel
theorem dX7_mixSheet_62 : decode cX7_mixSheet 62 = .ok (.istore_n 2, 1) := by decide +kernel
theorem dX7_mixSheet_63 : decode cX7_mixSheet 63 = .ok (.iload_n 2, 1) := by decide +kernel
theorem dX7_mixSheet_64 : decode cX7_mixSheet 64 = .ok (.bipush 6, 2) := by decide +kernel
theorem dX7_mixSheet_66 : decode cX7_mixSheet 66 = .ok (.if_icmp .ge 24, 3) := by decide +kernel
theorem dX7_mixSheet_69 : decode cX7_mixSheet 69 = .ok (.aload_n 0, 1) := by decide +kernel
theorem dX7_mixSheet_70 : decode cX7_mixSheet 70 = .ok (.aload_n 0, 1) := by decide +kernel
theorem dX7_mixSheet_71 : decode cX7_mixSheet 71 = .ok (.iload_n 1, 1) := by decide +kernel
theorem dX7_mixSheet_72 : decode cX7_mixSheet 72 = .ok (.iload_n 2, 1) := by decide +kernel
theorem dX7_mixSheet_73 : decode cX7_mixSheet 73 = .ok (.invokevirtual 83, 3) := by decide +kernel
theorem dX7_mixSheet_76 : decode cX7_mixSheet 76 = .ok (.sipush 1000, 3) := by decide +kernel
theorem dX7_mixSheet_79 : decode cX7_mixSheet 79 = .ok (.iadd, 1) := by decide +kernel
theorem dX7_mixSheet_80 : decode cX7_mixSheet 80 = .ok (.i2l, 1) := by decide +kernel
theorem dX7_mixSheet_81 : decode cX7_mixSheet 81 = .ok (.invokevirtual 264, 3) := by decide +kernel
theorem dX7_mixSheet_84 : decode cX7_mixSheet 84 = .ok (.iinc 2 1, 3) := by decide +kernel
theorem dX7_mixSheet_87 : decode cX7_mixSheet 87 = .ok (.goto (-24), 3) := by decide +kernel
theorem dX7_mixSheet_90 : decode cX7_mixSheet 90 = .ok (.aload_n 0, 1) := by decide +kernel
theorem dX7_mixSheet_91 : decode cX7_mixSheet 91 = .ok (.aload_n 0, 1) := by decide +kernel
theorem dX7_mixSheet_92 : decode cX7_mixSheet 92 = .ok (.iload_n 1, 1) := by decide +kernel
theorem dX7_mixSheet_93 : decode cX7_mixSheet 93 = .ok (.invokevirtual 239, 3) := by decide +kernel
theorem dX7_mixSheet_96 : decode cX7_mixSheet 96 = .ok (.i2l, 1) := by decide +kernel
theorem dX7_mixSheet_97 : decode cX7_mixSheet 97 = .ok (.invokevirtual 264, 3) := by decide +kernel
theorem dX7_mixSheet_100 : decode cX7_mixSheet 100 = .ok (.iconst 0, 1) := by decide +kernel
theorem dX7_mixSheet_101 : decode cX7_mixSheet 101 = .ok (.istore_n 2, 1) := by decide +kernel
theorem dX7_mixSheet_102 : decode cX7_mixSheet 102 = .ok (.iload_n 2, 1) := by decide +kernel
theorem dX7_mixSheet_103 : decode cX7_mixSheet 103 = .ok (.aload_n 0, 1) := by decide +kernel
theorem dX7_mixSheet_104 : decode cX7_mixSheet 104 = .ok (.getfield 7, 3) := by decide +kernel
theorem dX7_mixSheet_107 : decode cX7_mixSheet 107 = .ok (.bipush 9, 2) := by decide +kernel
theorem dX7_mixSheet_109 : decode cX7_mixSheet 109 = .ok (.iaload, 1) := by decide +kernel
theorem dX7_mixSheet_110 : decode cX7_mixSheet 110 = .ok (.if_icmp .ge 58, 3) := by decide +kernel
theorem dX7_mixSheet_113 : decode cX7_mixSheet 113 = .ok (.iconst 0, 1) := by decide +kernel
theorem dX7_mixSheet_114 : decode cX7_mixSheet 114 = .ok (.istore_n 3, 1) := by decide +kernel
theorem dX7_mixSheet_115 : decode cX7_mixSheet 115 = .ok (.iload_n 3, 1) := by decide +kernel
theorem dX7_mixSheet_116 : decode cX7_mixSheet 116 = .ok (.iconst 5, 1) := by decide +kernel
theorem dX7_mixSheet_117 : decode cX7_mixSheet 117 = .ok (.if_icmp .ge 21, 3) := by decide +kernel
theorem dX7_mixSheet_120 : decode cX7_mixSheet 120 = .ok (.aload_n 0, 1) := by decide +kernel
theorem dX7_mixSheet_121 : decode cX7_mixSheet 121 = .ok (.aload_n 0, 1) := by decide +kernel
theorem dX7_mixSheet_122 : decode cX7_mixSheet 122 = .ok (.iload_n 1, 1) := by decide +kernel
theorem dX7_mixSheet_123 : decode cX7_mixSheet 123 = .ok (.iload_n 2, 1) := by decide +kernel
theorem dX7_mixSheet_124 : decode cX7_mixSheet 124 = .ok (.iload_n 3, 1) := by decide +kernel
theorem dX7_mixSheet_125 : decode cX7_mixSheet 125 = .ok (.invokevirtual 215, 3) := by decide +kernel
theorem dX7_mixSheet_128 : decode cX7_mixSheet 128 = .ok (.i2l, 1) := by decide +kernel
theorem dX7_mixSheet_129 : decode cX7_mixSheet 129 = .ok (.invokevirtual 264, 3) := by decide +kernel
theorem dX7_mixSheet_132 : decode cX7_mixSheet 132 = .ok (.iinc 3 1, 3) := by decide +kernel
theorem dX7_mixSheet_135 : decode cX7_mixSheet 135 = .ok (.goto (-20), 3) := by decide +kernel
theorem dX7_mixSheet_138 : decode cX7_mixSheet 138 = .ok (.aload_n 0, 1) := by decide +kernel
theorem dX7_mixSheet_139 : decode cX7_mixSheet 139 = .ok (.aload_n 0, 1) := by decide +kernel
theorem dX7_mixSheet_140 : decode cX7_mixSheet 140 = .ok (.iload_n 1, 1) := by decide +kernel
theorem dX7_mixSheet_141 : decode cX7_mixSheet 141 = .ok (.iload_n 2, 1) := by decide +kernel
theorem dX7_mixSheet_142 : decode cX7_mixSheet 142 = .ok (.iconst 1, 1) := by decide +kernel
theorem dX7_mixSheet_143 : decode cX7_mixSheet 143 = .ok (.invokevirtual 154, 3) := by decide +kernel
theorem dX7_mixSheet_146 : decode cX7_mixSheet 146 = .ok (.i2l, 1) := by decide +kernel
theorem dX7_mixSheet_147 : decode cX7_mixSheet 147 = .ok (.invokevirtual 264, 3) := by decide +kernel
theorem dX7_mixSheet_150 : decode cX7_mixSheet 150 = .ok (.aload_n 0, 1) := by decide +kernel
theorem dX7_mixSheet_151 : decode cX7_mixSheet 151 = .ok (.aload_n 0, 1) := by decide +kernel
theorem dX7_mixSheet_152 : decode cX7_mixSheet 152 = .ok (.iload_n 1, 1) := by decide +kernel
theorem dX7_mixSheet_153 : decode cX7_mixSheet 153 = .ok (.iload_n 2, 1) := by decide +kernel
theorem dX7_mixSheet_154 : decode cX7_mixSheet 154 = .ok (.iconst 0, 1) := by decide +kernel
theorem dX7_mixSheet_155 : decode cX7_mixSheet 155 = .ok (.invokevirtual 154, 3) := by decide +kernel
theorem dX7_mixSheet_158 : decode cX7_mixSheet 158 = .ok (.i2l, 1) := by decide +kernel
theorem dX7_mixSheet_159 : decode cX7_mixSheet 159 = .ok (.invokevirtual 264, 3) := by decide +kernel
theorem dX7_mixSheet_162 : decode cX7_mixSheet 162 = .ok (.iinc 2 1, 3) := by decide +kernel
theorem dX7_mixSheet_165 : decode cX7_mixSheet 165 = .ok (.goto (-63), 3) := by decide +kernel
theorem dX7_mixSheet_168 : decode cX7_mixSheet 168 = .ok (.return_, 1) := by decide +kernel
theorem dX7_digest_0 : decode cX7_digest 0 = .ok (.aload_n 0, 1) := by decide +kernel
theorem dX7_digest_1 : decode cX7_digest 1 = .ok (.iconst 0, 1) := by decide +kernel
theorem dX7_digest_2 : decode cX7_digest 2 = .ok (.putfield 31, 3) := by decide +kernel
theorem dX7_digest_5 : decode cX7_digest 5 = .ok (.aload_n 0, 1) := by decide +kernel
theorem dX7_digest_6 : decode cX7_digest 6 = .ok (.ldc2_w 268, 3) := by decide +kernel
theorem dX7_digest_9 : decode cX7_digest 9 = .ok (.putfield 260, 3) := by decide +kernel
theorem dX7_digest_12 : decode cX7_digest 12 = .ok (.iconst 0, 1) := by decide +kernel
theorem dX7_digest_13 : decode cX7_digest 13 = .ok (.istore_n 1, 1) := by decide +kernel
theorem dX7_digest_14 : decode cX7_digest 14 = .ok (.iload_n 1, 1) := by decide +kernel
theorem dX7_digest_15 : decode cX7_digest 15 = .ok (.bipush 18, 2) := by decide +kernel
theorem dX7_digest_17 : decode cX7_digest 17 = .ok (.if_icmp .ge 19, 3) := by decide +kernel
theorem dX7_digest_20 : decode cX7_digest 20 = .ok (.aload_n 0, 1) := by decide +kernel
theorem dX7_digest_21 : decode cX7_digest 21 = .ok (.aload_n 0, 1) := by decide +kernel
theorem dX7_digest_22 : decode cX7_digest 22 = .ok (.iload_n 1, 1) := by decide +kernel
theorem dX7_digest_23 : decode cX7_digest 23 = .ok (.invokevirtual 236, 3) := by decide +kernel
theorem dX7_digest_26 : decode cX7_digest 26 = .ok (.i2l, 1) := by decide +kernel
theorem dX7_digest_27 : decode cX7_digest 27 = .ok (.invokevirtual 264, 3) := by decide +kernel
theorem dX7_digest_30 : decode cX7_digest 30 = .ok (.iinc 1 1, 3) := by decide +kernel
theorem dX7_digest_33 : decode cX7_digest 33 = .ok (.goto (-19), 3) := by decide +kernel
theorem dX7_digest_36 : decode cX7_digest 36 = .ok (.iconst 0, 1) := by decide +kernel
theorem dX7_digest_37 : decode cX7_digest 37 = .ok (.istore_n 1, 1) := by decide +kernel
theorem dX7_digest_38 : decode cX7_digest 38 = .ok (.iload_n 1, 1) := by decide +kernel
theorem dX7_digest_39 : decode cX7_digest 39 = .ok (.aload_n 0, 1) := by decide +kernel
theorem dX7_digest_40 : decode cX7_digest 40 = .ok (.getfield 7, 3) := by decide +kernel
theorem dX7_digest_43 : decode cX7_digest 43 = .ok (.bipush 9, 2) := by decide +kernel
theorem dX7_digest_45 : decode cX7_digest 45 = .ok (.iaload, 1) := by decide +kernel
theorem dX7_digest_46 : decode cX7_digest 46 = .ok (.if_icmp .ge 14, 3) := by decide +kernel
theorem dX7_digest_49 : decode cX7_digest 49 = .ok (.aload_n 0, 1) := by decide +kernel
theorem dX7_digest_50 : decode cX7_digest 50 = .ok (.iload_n 1, 1) := by decide +kernel
theorem dX7_digest_51 : decode cX7_digest 51 = .ok (.invokevirtual 270, 3) := by decide +kernel
theorem dX7_digest_54 : decode cX7_digest 54 = .ok (.iinc 1 1, 3) := by decide +kernel
theorem dX7_digest_57 : decode cX7_digest 57 = .ok (.goto (-19), 3) := by decide +kernel
theorem dX7_digest_60 : decode cX7_digest 60 = .ok (.iconst 0, 1) := by decide +kernel
theorem dX7_digest_61 : decode cX7_digest 61 = .ok (.istore_n 1, 1) := by decide +kernel
theorem dX7_digest_62 : decode cX7_digest 62 = .ok (.iload_n 1, 1) := by decide +kernel
theorem dX7_digest_63 : decode cX7_digest 63 = .ok (.iconst 4, 1) := by decide +kernel
theorem dX7_digest_64 : decode cX7_digest 64 = .ok (.aload_n 0, 1) := by decide +kernel
theorem dX7_digest_65 : decode cX7_digest 65 = .ok (.getfield 7, 3) := by decide +kernel
theorem dX7_digest_68 : decode cX7_digest 68 = .ok (.bipush 10, 2) := by decide +kernel
theorem dX7_digest_70 : decode cX7_digest 70 = .ok (.iaload, 1) := by decide +kernel
theorem dX7_digest_71 : decode cX7_digest 71 = .ok (.imul, 1) := by decide +kernel
theorem dX7_digest_72 : decode cX7_digest 72 = .ok (.if_icmp .ge 24, 3) := by decide +kernel
theorem dX7_digest_75 : decode cX7_digest 75 = .ok (.aload_n 0, 1) := by decide +kernel
theorem dX7_digest_76 : decode cX7_digest 76 = .ok (.aload_n 0, 1) := by decide +kernel
theorem dX7_digest_77 : decode cX7_digest 77 = .ok (.iload_n 1, 1) := by decide +kernel
theorem dX7_digest_78 : decode cX7_digest 78 = .ok (.iconst 4, 1) := by decide +kernel
theorem dX7_digest_79 : decode cX7_digest 79 = .ok (.idiv, 1) := by decide +kernel
theorem dX7_digest_80 : decode cX7_digest 80 = .ok (.iload_n 1, 1) := by decide +kernel
theorem dX7_digest_81 : decode cX7_digest 81 = .ok (.iconst 4, 1) := by decide +kernel
theorem dX7_digest_82 : decode cX7_digest 82 = .ok (.irem, 1) := by decide +kernel
theorem dX7_digest_83 : decode cX7_digest 83 = .ok (.invokevirtual 221, 3) := by decide +kernel
theorem dX7_digest_86 : decode cX7_digest 86 = .ok (.i2l, 1) := by decide +kernel
theorem dX7_digest_87 : decode cX7_digest 87 = .ok (.invokevirtual 264, 3) := by decide +kernel
theorem dX7_digest_90 : decode cX7_digest 90 = .ok (.iinc 1 1, 3) := by decide +kernel
theorem dX7_digest_93 : decode cX7_digest 93 = .ok (.goto (-31), 3) := by decide +kernel
theorem dX7_digest_96 : decode cX7_digest 96 = .ok (.aload_n 0, 1) := by decide +kernel
theorem dX7_digest_97 : decode cX7_digest 97 = .ok (.aload_n 0, 1) := by decide +kernel
theorem dX7_digest_98 : decode cX7_digest 98 = .ok (.getfield 7, 3) := by decide +kernel
theorem dX7_digest_101 : decode cX7_digest 101 = .ok (.bipush 12, 2) := by decide +kernel
theorem dX7_digest_103 : decode cX7_digest 103 = .ok (.iaload, 1) := by decide +kernel
theorem dX7_digest_104 : decode cX7_digest 104 = .ok (.i2l, 1) := by decide +kernel
theorem dX7_digest_105 : decode cX7_digest 105 = .ok (.invokevirtual 264, 3) := by decide +kernel
theorem dX7_digest_108 : decode cX7_digest 108 = .ok (.aload_n 0, 1) := by decide +kernel
theorem dX7_digest_109 : decode cX7_digest 109 = .ok (.aload_n 0, 1) := by decide +kernel
theorem dX7_digest_110 : decode cX7_digest 110 = .ok (.getfield 7, 3) := by decide +kernel
theorem dX7_digest_113 : decode cX7_digest 113 = .ok (.bipush 13, 2) := by decide +kernel
theorem dX7_digest_115 : decode cX7_digest 115 = .ok (.iaload, 1) := by decide +kernel
theorem dX7_digest_116 : decode cX7_digest 116 = .ok (.i2l, 1) := by decide +kernel
theorem dX7_digest_117 : decode cX7_digest 117 = .ok (.invokevirtual 264, 3) := by decide +kernel
theorem dX7_digest_120 : decode cX7_digest 120 = .ok (.aload_n 0, 1) := by decide +kernel
theorem dX7_digest_121 : decode cX7_digest 121 = .ok (.aload_n 0, 1) := by decide +kernel
theorem dX7_digest_122 : decode cX7_digest 122 = .ok (.invokevirtual 254, 3) := by decide +kernel
theorem dX7_digest_125 : decode cX7_digest 125 = .ok (.invokestatic 273, 3) := by decide +kernel
theorem dX7_digest_128 : decode cX7_digest 128 = .ok (.invokevirtual 264, 3) := by decide +kernel
theorem dX7_digest_131 : decode cX7_digest 131 = .ok (.aload_n 0, 1) := by decide +kernel
theorem dX7_digest_132 : decode cX7_digest 132 = .ok (.aload_n 0, 1) := by decide +kernel
theorem dX7_digest_133 : decode cX7_digest 133 = .ok (.getfield 139, 3) := by decide +kernel
theorem dX7_digest_136 : decode cX7_digest 136 = .ok (.i2l, 1) := by decide +kernel
theorem dX7_digest_137 : decode cX7_digest 137 = .ok (.invokevirtual 264, 3) := by decide +kernel
theorem dX7_digest_140 : decode cX7_digest 140 = .ok (.iconst 0, 1) := by decide +kernel
theorem dX7_digest_141 : decode cX7_digest 141 = .ok (.istore_n 1, 1) := by decide +kernel
theorem dX7_digest_142 : decode cX7_digest 142 = .ok (.iload_n 1, 1) := by decide +kernel
theorem dX7_digest_143 : decode cX7_digest 143 = .ok (.aload_n 0, 1) := by decide +kernel
theorem dX7_digest_144 : decode cX7_digest 144 = .ok (.getfield 139, 3) := by decide +kernel
theorem dX7_digest_147 : decode cX7_digest 147 = .ok (.if_icmp .ge 20, 3) := by decide +kernel
theorem dX7_digest_150 : decode cX7_digest 150 = .ok (.aload_n 0, 1) := by decide +kernel
theorem dX7_digest_151 : decode cX7_digest 151 = .ok (.aload_n 0, 1) := by decide +kernel
theorem dX7_digest_152 : decode cX7_digest 152 = .ok (.getfield 22, 3) := by decide +kernel
theorem dX7_digest_155 : decode cX7_digest 155 = .ok (.iload_n 1, 1) := by decide +kernel
theorem dX7_digest_156 : decode cX7_digest 156 = .ok (.iaload, 1) := by decide +kernel
theorem dX7_digest_157 : decode cX7_digest 157 = .ok (.i2l, 1) := by decide +kernel
theorem dX7_digest_158 : decode cX7_digest 158 = .ok (.invokevirtual 264, 3) := by decide +kernel
theorem dX7_digest_161 : decode cX7_digest 161 = .ok (.iinc 1 1, 3) := by decide +kernel
theorem dX7_digest_164 : decode cX7_digest 164 = .ok (.goto (-22), 3) := by decide +kernel
theorem dX7_digest_167 : decode cX7_digest 167 = .ok (.aload_n 0, 1) := by decide +kernel
theorem dX7_digest_168 : decode cX7_digest 168 = .ok (.getfield 260, 3) := by decide +kernel
theorem dX7_digest_171 : decode cX7_digest 171 = .ok (.lreturn, 1) := by decide +kernel
