theorem dX3_init_0 : decode cX3_init 0 = .ok (.aload_n 0, 1) := by decide +kernel
theorem dX3_init_1 : decode cX3_init 1 = .ok (.invokespecial 3, 3) := by decide +kernel
theorem dX3_init_4 : decode cX3_init 4 = .ok (.aload_n 0, 1) := by decide +kernel
theorem dX3_init_5 : decode cX3_init 5 = .ok (.new 9, 3) := by decide +kernel
theorem dX3_init_8 : decode cX3_init 8 = .ok (.dup, 1) := by decide +kernel
theorem dX3_init_9 : decode cX3_init 9 = .ok (.bipush 6, 2) := by decide +kernel
theorem dX3_init_11 : decode cX3_init 11 = .ok (.invokespecial 11, 3) := by decide +kernel
theorem dX3_init_14 : decode cX3_init 14 = .ok (.putfield 14, 3) := by decide +kernel
theorem dX3_init_17 : decode cX3_init 17 = .ok (.aload_n 0, 1) := by decide +kernel
theorem dX3_init_18 : decode cX3_init 18 = .ok (.iload_n 1, 1) := by decide +kernel
theorem dX3_init_19 : decode cX3_init 19 = .ok (.ifCond .lt 9, 3) := by decide +kernel
theorem dX3_init_22 : decode cX3_init 22 = .ok (.iload_n 1, 1) := by decide +kernel
theorem dX3_init_23 : decode cX3_init 23 = .ok (.bipush 8, 2) := by decide +kernel
theorem dX3_init_25 : decode cX3_init 25 = .ok (.if_icmp .le 7, 3) := by decide +kernel
theorem dX3_init_28 : decode cX3_init 28 = .ok (.iconst 0, 1) := by decide +kernel
theorem dX3_init_29 : decode cX3_init 29 = .ok (.goto 4, 3) := by decide +kernel
theorem dX3_init_32 : decode cX3_init 32 = .ok (.iload_n 1, 1) := by decide +kernel
theorem dX3_init_33 : decode cX3_init 33 = .ok (.putfield 20, 3) := by decide +kernel
theorem dX3_init_36 : decode cX3_init 36 = .ok (.aload_n 0, 1) := by decide +kernel
theorem dX3_init_37 : decode cX3_init 37 = .ok (.new 9, 3) := by decide +kernel
theorem dX3_init_40 : decode cX3_init 40 = .ok (.dup, 1) := by decide +kernel
theorem dX3_init_41 : decode cX3_init 41 = .ok (.bipush 40, 2) := by decide +kernel
theorem dX3_init_43 : decode cX3_init 43 = .ok (.invokespecial 11, 3) := by decide +kernel
theorem dX3_init_46 : decode cX3_init 46 = .ok (.putfield 24, 3) := by decide +kernel
theorem dX3_init_49 : decode cX3_init 49 = .ok (.aload_n 0, 1) := by decide +kernel
theorem dX3_init_50 : decode cX3_init 50 = .ok (.getfield 24, 3) := by decide +kernel
theorem dX3_init_53 : decode cX3_init 53 = .ok (.aload_n 2, 1) := by decide +kernel
theorem dX3_init_54 : decode cX3_init 54 = .ok (.invokevirtual 27, 3) := by decide +kernel
theorem dX3_init_57 : decode cX3_init 57 = .ok (.return_, 1) := by decide +kernel
theorem dX3_reckonMarks_0 : decode cX3_reckonMarks 0 = .ok (.aload_n 0, 1) := by decide +kernel
theorem dX3_reckonMarks_1 : decode cX3_reckonMarks 1 = .ok (.iconst 2, 1) := by decide +kernel
theorem dX3_reckonMarks_2 : decode cX3_reckonMarks 2 = .ok (.invokevirtual 31, 3) := by decide +kernel
theorem dX3_reckonMarks_5 : decode cX3_reckonMarks 5 = .ok (.istore_n 1, 1) := by decide +kernel
theorem dX3_reckonMarks_6 : decode cX3_reckonMarks 6 = .ok (.aload_n 0, 1) := by decide +kernel
theorem dX3_reckonMarks_7 : decode cX3_reckonMarks 7 = .ok (.iconst 3, 1) := by decide +kernel
theorem dX3_reckonMarks_8 : decode cX3_reckonMarks 8 = .ok (.invokevirtual 31, 3) := by decide +kernel
theorem dX3_reckonMarks_11 : decode cX3_reckonMarks 11 = .ok (.istore_n 2, 1) := by decide +kernel
theorem dX3_reckonMarks_12 : decode cX3_reckonMarks 12 = .ok (.aload_n 0, 1) := by decide +kernel
theorem dX3_reckonMarks_13 : decode cX3_reckonMarks 13 = .ok (.getfield 14, 3) := by decide +kernel
theorem dX3_reckonMarks_16 : decode cX3_reckonMarks 16 = .ok (.iconst 0, 1) := by decide +kernel
theorem dX3_reckonMarks_17 : decode cX3_reckonMarks 17 = .ok (.aload_n 0, 1) := by decide +kernel
theorem dX3_reckonMarks_18 : decode cX3_reckonMarks 18 = .ok (.iconst 0, 1) := by decide +kernel
theorem dX3_reckonMarks_19 : decode cX3_reckonMarks 19 = .ok (.invokevirtual 31, 3) := by decide +kernel
theorem dX3_reckonMarks_22 : decode cX3_reckonMarks 22 = .ok (.aload_n 0, 1) := by decide +kernel
theorem dX3_reckonMarks_23 : decode cX3_reckonMarks 23 = .ok (.getfield 20, 3) := by decide +kernel
theorem dX3_reckonMarks_26 : decode cX3_reckonMarks 26 = .ok (.invokestatic 35, 3) := by decide +kernel
theorem dX3_reckonMarks_29 : decode cX3_reckonMarks 29 = .ok (.invokevirtual 39, 3) := by decide +kernel
theorem dX3_reckonMarks_32 : decode cX3_reckonMarks 32 = .ok (.aload_n 0, 1) := by decide +kernel
theorem dX3_reckonMarks_33 : decode cX3_reckonMarks 33 = .ok (.getfield 14, 3) := by decide +kernel
theorem dX3_reckonMarks_36 : decode cX3_reckonMarks 36 = .ok (.iconst 1, 1) := by decide +kernel
theorem dX3_reckonMarks_37 : decode cX3_reckonMarks 37 = .ok (.aload_n 0, 1) := by decide +kernel
theorem dX3_reckonMarks_38 : decode cX3_reckonMarks 38 = .ok (.invokevirtual 43, 3) := by decide +kernel
theorem dX3_reckonMarks_41 : decode cX3_reckonMarks 41 = .ok (.invokevirtual 39, 3) := by decide +kernel
theorem dX3_reckonMarks_44 : decode cX3_reckonMarks 44 = .ok (.aload_n 0, 1) := by decide +kernel
theorem dX3_reckonMarks_45 : decode cX3_reckonMarks 45 = .ok (.getfield 14, 3) := by decide +kernel
theorem dX3_reckonMarks_48 : decode cX3_reckonMarks 48 = .ok (.iconst 2, 1) := by decide +kernel
theorem dX3_reckonMarks_49 : decode cX3_reckonMarks 49 = .ok (.aload_n 0, 1) := by decide +kernel
theorem dX3_reckonMarks_50 : decode cX3_reckonMarks 50 = .ok (.invokevirtual 47, 3) := by decide +kernel
theorem dX3_reckonMarks_53 : decode cX3_reckonMarks 53 = .ok (.iload_n 1, 1) := by decide +kernel
theorem dX3_reckonMarks_54 : decode cX3_reckonMarks 54 = .ok (.invokestatic 35, 3) := by decide +kernel
theorem dX3_reckonMarks_57 : decode cX3_reckonMarks 57 = .ok (.bipush 10, 2) := by decide +kernel
theorem dX3_reckonMarks_59 : decode cX3_reckonMarks 59 = .ok (.imul, 1) := by decide +kernel
theorem dX3_reckonMarks_60 : decode cX3_reckonMarks 60 = .ok (.aload_n 0, 1) := by decide +kernel
theorem dX3_reckonMarks_61 : decode cX3_reckonMarks 61 = .ok (.iconst 1, 1) := by decide +kernel
theorem dX3_reckonMarks_62 : decode cX3_reckonMarks 62 = .ok (.invokevirtual 31, 3) := by decide +kernel
theorem dX3_reckonMarks_65 : decode cX3_reckonMarks 65 = .ok (.aload_n 0, 1) := by decide +kernel
theorem dX3_reckonMarks_66 : decode cX3_reckonMarks 66 = .ok (.getfield 20, 3) := by decide +kernel
theorem dX3_reckonMarks_69 : decode cX3_reckonMarks 69 = .ok (.invokestatic 35, 3) := by decide +kernel
theorem dX3_reckonMarks_72 : decode cX3_reckonMarks 72 = .ok (.invokestatic 35, 3) := by decide +kernel
theorem dX3_reckonMarks_75 : decode cX3_reckonMarks 75 = .ok (.invokevirtual 39, 3) := by decide +kernel
theorem dX3_reckonMarks_78 : decode cX3_reckonMarks 78 = .ok (.aload_n 0, 1) := by decide +kernel
theorem dX3_reckonMarks_79 : decode cX3_reckonMarks 79 = .ok (.getfield 14, 3) := by decide +kernel
theorem dX3_reckonMarks_82 : decode cX3_reckonMarks 82 = .ok (.iconst 3, 1) := by decide +kernel
theorem dX3_reckonMarks_83 : decode cX3_reckonMarks 83 = .ok (.iload_n 1, 1) := by decide +kernel
theorem dX3_reckonMarks_84 : decode cX3_reckonMarks 84 = .ok (.bipush 100, 2) := by decide +kernel
theorem dX3_reckonMarks_86 : decode cX3_reckonMarks 86 = .ok (.imul, 1) := by decide +kernel
theorem dX3_reckonMarks_87 : decode cX3_reckonMarks 87 = .ok (.aload_n 0, 1) := by decide +kernel
theorem dX3_reckonMarks_88 : decode cX3_reckonMarks 88 = .ok (.getfield 20, 3) := by decide +kernel
theorem dX3_reckonMarks_91 : decode cX3_reckonMarks 91 = .ok (.invokestatic 35, 3) := by decide +kernel
theorem dX3_reckonMarks_94 : decode cX3_reckonMarks 94 = .ok (.invokevirtual 39, 3) := by decide +kernel
theorem dX3_reckonMarks_97 : decode cX3_reckonMarks 97 = .ok (.aload_n 0, 1) := by decide +kernel
theorem dX3_reckonMarks_98 : decode cX3_reckonMarks 98 = .ok (.getfield 14, 3) := by decide +kernel
theorem dX3_reckonMarks_101 : decode cX3_reckonMarks 101 = .ok (.iconst 4, 1) := by decide +kernel
theorem dX3_reckonMarks_102 : decode cX3_reckonMarks 102 = .ok (.iload_n 2, 1) := by decide +kernel
theorem dX3_reckonMarks_103 : decode cX3_reckonMarks 103 = .ok (.bipush 10, 2) := by decide +kernel
theorem dX3_reckonMarks_105 : decode cX3_reckonMarks 105 = .ok (.imul, 1) := by decide +kernel
theorem dX3_reckonMarks_106 : decode cX3_reckonMarks 106 = .ok (.aload_n 0, 1) := by decide +kernel
theorem dX3_reckonMarks_107 : decode cX3_reckonMarks 107 = .ok (.getfield 20, 3) := by decide +kernel
theorem dX3_reckonMarks_110 : decode cX3_reckonMarks 110 = .ok (.invokestatic 35, 3) := by decide +kernel
theorem dX3_reckonMarks_113 : decode cX3_reckonMarks 113 = .ok (.invokevirtual 39, 3) := by decide +kernel
theorem dX3_reckonMarks_116 : decode cX3_reckonMarks 116 = .ok (.aload_n 0, 1) := by decide +kernel
theorem dX3_reckonMarks_117 : decode cX3_reckonMarks 117 = .ok (.getfield 14, 3) := by decide +kernel
theorem dX3_reckonMarks_120 : decode cX3_reckonMarks 120 = .ok (.iconst 5, 1) := by decide +kernel
theorem dX3_reckonMarks_121 : decode cX3_reckonMarks 121 = .ok (.aload_n 0, 1) := by decide +kernel
theorem dX3_reckonMarks_122 : decode cX3_reckonMarks 122 = .ok (.invokevirtual 50, 3) := by decide +kernel
theorem dX3_reckonMarks_125 : decode cX3_reckonMarks 125 = .ok (.bipush 10, 2) := by decide +kernel
theorem dX3_reckonMarks_127 : decode cX3_reckonMarks 127 = .ok (.imul, 1) := by decide +kernel
theorem dX3_reckonMarks_128 : decode cX3_reckonMarks 128 = .ok (.aload_n 0, 1) := by decide +kernel
theorem dX3_reckonMarks_129 : decode cX3_reckonMarks 129 = .ok (.getfield 20, 3) := by decide +kernel
theorem dX3_reckonMarks_132 : decode cX3_reckonMarks 132 = .ok (.iconst 1, 1) := by decide +kernel
theorem dX3_reckonMarks_133 : decode cX3_reckonMarks 133 = .ok (.isub, 1) := by decide +kernel
theorem dX3_reckonMarks_134 : decode cX3_reckonMarks 134 = .ok (.invokestatic 35, 3) := by decide +kernel
theorem dX3_reckonMarks_137 : decode cX3_reckonMarks 137 = .ok (.invokevirtual 39, 3) := by decide +kernel
theorem dX3_reckonMarks_140 : decode cX3_reckonMarks 140 = .ok (.return_, 1) := by decide +kernel
theorem dX3_total_0 : decode cX3_total 0 = .ok (.iconst 0, 1) := by decide +kernel
theorem dX3_total_1 : decode cX3_total 1 = .ok (.istore_n 2, 1) := by decide +kernel
theorem dX3_total_2 : decode cX3_total 2 = .ok (.iconst 0, 1) := by decide +kernel
theorem dX3_total_3 : decode cX3_total 3 = .ok (.istore_n 3, 1) := by decide +kernel
theorem dX3_total_4 : decode cX3_total 4 = .ok (.iload_n 3, 1) := by decide +kernel
theorem dX3_total_5 : decode cX3_total 5 = .ok (.aload_n 0, 1) := by decide +kernel
theorem dX3_total_6 : decode cX3_total 6 = .ok (.getfield 20, 3) := by decide +kernel
theorem dX3_total_9 : decode cX3_total 9 = .ok (.if_icmp .ge 18, 3) := by decide +kernel
theorem dX3_total_12 : decode cX3_total 12 = .ok (.iload_n 2, 1) := by decide +kernel
theorem dX3_total_13 : decode cX3_total 13 = .ok (.aload_n 0, 1) := by decide +kernel
theorem dX3_total_14 : decode cX3_total 14 = .ok (.iload_n 3, 1) := by decide +kernel
theorem dX3_total_15 : decode cX3_total 15 = .ok (.iload_n 1, 1) := by decide +kernel
theorem dX3_total_16 : decode cX3_total 16 = .ok (.invokevirtual 53, 3) := by decide +kernel
theorem dX3_total_19 : decode cX3_total 19 = .ok (.iadd, 1) := by decide +kernel
theorem dX3_total_20 : decode cX3_total 20 = .ok (.istore_n 2, 1) := by decide +kernel
theorem dX3_total_21 : decode cX3_total 21 = .ok (.iinc 3 1, 3) := by decide +kernel
theorem dX3_total_24 : decode cX3_total 24 = .ok (.goto (-20), 3) := by decide +kernel
theorem dX3_total_27 : decode cX3_total 27 = .ok (.iload_n 2, 1) := by decide +kernel
theorem dX3_total_28 : decode cX3_total 28 = .ok (.ireturn, 1) := by decide +kernel
theorem dX3_toldNumber_0 : decode cX3_toldNumber 0 = .ok (.iload_n 1, 1) := by decide +kernel
theorem dX3_toldNumber_1 : decode cX3_toldNumber 1 = .ok (.aload_n 0, 1) := by decide +kernel
theorem dX3_toldNumber_2 : decode cX3_toldNumber 2 = .ok (.getfield 20, 3) := by decide +kernel
theorem dX3_toldNumber_5 : decode cX3_toldNumber 5 = .ok (.if_icmp .lt 5, 3) := by decide +kernel
theorem dX3_toldNumber_8 : decode cX3_toldNumber 8 = .ok (.iconst (-1), 1) := by decide +kernel
theorem dX3_toldNumber_9 : decode cX3_toldNumber 9 = .ok (.ireturn, 1) := by decide +kernel
theorem dX3_toldNumber_10 : decode cX3_toldNumber 10 = .ok (.aload_n 0, 1) := by decide +kernel
theorem dX3_toldNumber_11 : decode cX3_toldNumber 11 = .ok (.iload_n 1, 1) := by decide +kernel
theorem dX3_toldNumber_12 : decode cX3_toldNumber 12 = .ok (.iload_n 2, 1) := by decide +kernel
theorem dX3_toldNumber_13 : decode cX3_toldNumber 13 = .ok (.invokevirtual 53, 3) := by decide +kernel
theorem dX3_toldNumber_16 : decode cX3_toldNumber 16 = .ok (.iload_n 2, 1) := by decide +kernel
theorem dX3_toldNumber_17 : decode cX3_toldNumber 17 = .ok (.ifCond .ne 8, 3) := by decide +kernel
theorem dX3_toldNumber_20 : decode cX3_toldNumber 20 = .ok (.bipush 100, 2) := by decide +kernel
theorem dX3_toldNumber_22 : decode cX3_toldNumber 22 = .ok (.goto 4, 3) := by decide +kernel
theorem dX3_toldNumber_25 : decode cX3_toldNumber 25 = .ok (.iconst 0, 1) := by decide +kernel
theorem dX3_toldNumber_26 : decode cX3_toldNumber 26 = .ok (.iadd, 1) := by decide +kernel
theorem dX3_toldNumber_27 : decode cX3_toldNumber 27 = .ok (.ireturn, 1) := by decide +kernel
theorem dX3_toldMark_0 : decode cX3_toldMark 0 = .ok (.aload_n 0, 1) := by decide +kernel
theorem dX3_toldMark_1 : decode cX3_toldMark 1 = .ok (.getfield 14, 3) := by decide +kernel
theorem dX3_toldMark_4 : decode cX3_toldMark 4 = .ok (.iload_n 1, 1) := by decide +kernel
theorem dX3_toldMark_5 : decode cX3_toldMark 5 = .ok (.invokevirtual 56, 3) := by decide +kernel
theorem dX3_toldMark_8 : decode cX3_toldMark 8 = .ok (.sipush 1000, 3) := by decide +kernel
theorem dX3_toldMark_11 : decode cX3_toldMark 11 = .ok (.iadd, 1) := by decide +kernel
theorem dX3_toldMark_12 : decode cX3_toldMark 12 = .ok (.ireturn, 1) := by decide +kernel
theorem dX3_numberOf_0 : decode cX3_numberOf 0 = .ok (.aload_n 0, 1) := by decide +kernel
theorem dX3_numberOf_1 : decode cX3_numberOf 1 = .ok (.getfield 24, 3) := by decide +kernel
theorem dX3_numberOf_4 : decode cX3_numberOf 4 = .ok (.iload_n 1, 1) := by decide +kernel
theorem dX3_numberOf_5 : decode cX3_numberOf 5 = .ok (.iconst 5, 1) := by decide +kernel
theorem dX3_numberOf_6 : decode cX3_numberOf 6 = .ok (.imul, 1) := by decide +kernel
theorem dX3_numberOf_7 : decode cX3_numberOf 7 = .ok (.iload_n 2, 1) := by decide +kernel
theorem dX3_numberOf_8 : decode cX3_numberOf 8 = .ok (.iadd, 1) := by decide +kernel
theorem dX3_numberOf_9 : decode cX3_numberOf 9 = .ok (.invokevirtual 56, 3) := by decide +kernel
theorem dX3_numberOf_12 : decode cX3_numberOf 12 = .ok (.ireturn, 1) := by decide +kernel
theorem dX3_slantRange_0 : decode cX3_slantRange 0 = .ok (.aload_n 0, 1) := by decide +kernel
theorem dX3_slantRange_1 : decode cX3_slantRange 1 = .ok (.iconst 0, 1) := by decide +kernel
theorem dX3_slantRange_2 : decode cX3_slantRange 2 = .ok (.iconst 0, 1) := by decide +kernel
theorem dX3_slantRange_3 : decode cX3_slantRange 3 = .ok (.invokevirtual 53, 3) := by decide +kernel
theorem dX3_slantRange_6 : decode cX3_slantRange 6 = .ok (.istore_n 1, 1) := by decide +kernel
theorem dX3_slantRange_7 : decode cX3_slantRange 7 = .ok (.iload_n 1, 1) := by decide +kernel
theorem dX3_slantRange_8 : decode cX3_slantRange 8 = .ok (.istore_n 2, 1) := by decide +kernel
theorem dX3_slantRange_9 : decode cX3_slantRange 9 = .ok (.iconst 1, 1) := by decide +kernel
theorem dX3_slantRange_10 : decode cX3_slantRange 10 = .ok (.istore_n 3, 1) := by decide +kernel
theorem dX3_slantRange_11 : decode cX3_slantRange 11 = .ok (.iload_n 3, 1) := by decide +kernel
theorem dX3_slantRange_12 : decode cX3_slantRange 12 = .ok (.aload_n 0, 1) := by decide +kernel
theorem dX3_slantRange_13 : decode cX3_slantRange 13 = .ok (.getfield 20, 3) := by decide +kernel
theorem dX3_slantRange_16 : decode cX3_slantRange 16 = .ok (.if_icmp .ge 31, 3) := by decide +kernel
theorem dX3_slantRange_19 : decode cX3_slantRange 19 = .ok (.iload_n 1, 1) := by decide +kernel
theorem dX3_slantRange_20 : decode cX3_slantRange 20 = .ok (.aload_n 0, 1) := by decide +kernel
theorem dX3_slantRange_21 : decode cX3_slantRange 21 = .ok (.iload_n 3, 1) := by decide +kernel
theorem dX3_slantRange_22 : decode cX3_slantRange 22 = .ok (.iconst 0, 1) := by decide +kernel
theorem dX3_slantRange_23 : decode cX3_slantRange 23 = .ok (.invokevirtual 53, 3) := by decide +kernel
theorem dX3_slantRange_26 : decode cX3_slantRange 26 = .ok (.invokestatic 69, 3) := by decide +kernel
theorem dX3_slantRange_29 : decode cX3_slantRange 29 = .ok (.istore_n 1, 1) := by decide +kernel
theorem dX3_slantRange_30 : decode cX3_slantRange 30 = .ok (.iload_n 2, 1) := by decide +kernel
theorem dX3_slantRange_31 : decode cX3_slantRange 31 = .ok (.aload_n 0, 1) := by decide +kernel
theorem dX3_slantRange_32 : decode cX3_slantRange 32 = .ok (.iload_n 3, 1) := by decide +kernel
theorem dX3_slantRange_33 : decode cX3_slantRange 33 = .ok (.iconst 0, 1) := by decide +kernel
theorem dX3_slantRange_34 : decode cX3_slantRange 34 = .ok (.invokevirtual 53, 3) := by decide +kernel
theorem dX3_slantRange_37 : decode cX3_slantRange 37 = .ok (.invokestatic 74, 3) := by decide +kernel
theorem dX3_slantRange_40 : decode cX3_slantRange 40 = .ok (.istore_n 2, 1) := by decide +kernel
theorem dX3_slantRange_41 : decode cX3_slantRange 41 = .ok (.iinc 3 1, 3) := by decide +kernel
theorem dX3_slantRange_44 : decode cX3_slantRange 44 = .ok (.goto (-33), 3) := by decide +kernel
theorem dX3_slantRange_47 : decode cX3_slantRange 47 = .ok (.iload_n 2, 1) := by decide +kernel
theorem dX3_slantRange_48 : decode cX3_slantRange 48 = .ok (.iload_n 1, 1) := by decide +kernel
theorem dX3_slantRange_49 : decode cX3_slantRange 49 = .ok (.isub, 1) := by decide +kernel
theorem dX3_slantRange_50 : decode cX3_slantRange 50 = .ok (.ireturn, 1) := by decide +kernel
theorem dX3_loopHeights_0 : decode cX3_loopHeights 0 = .ok (.iconst 0, 1) := by decide +kernel
theorem dX3_loopHeights_1 : decode cX3_loopHeights 1 = .ok (.istore_n 1, 1) := by decide +kernel
theorem dX3_loopHeights_2 : decode cX3_loopHeights 2 = .ok (.iconst 0, 1) := by decide +kernel
theorem dX3_loopHeights_3 : decode cX3_loopHeights 3 = .ok (.istore_n 2, 1) := by decide +kernel
theorem dX3_loopHeights_4 : decode cX3_loopHeights 4 = .ok (.iload_n 2, 1) := by decide +kernel
theorem dX3_loopHeights_5 : decode cX3_loopHeights 5 = .ok (.aload_n 0, 1) := by decide +kernel
theorem dX3_loopHeights_6 : decode cX3_loopHeights 6 = .ok (.getfield 20, 3) := by decide +kernel
theorem dX3_loopHeights_9 : decode cX3_loopHeights 9 = .ok (.if_icmp .ge 32, 3) := by decide +kernel
theorem dX3_loopHeights_12 : decode cX3_loopHeights 12 = .ok (.iload_n 1, 1) := by decide +kernel
theorem dX3_loopHeights_13 : decode cX3_loopHeights 13 = .ok (.aload_n 0, 1) := by decide +kernel
theorem dX3_loopHeights_14 : decode cX3_loopHeights 14 = .ok (.iload_n 2, 1) := by decide +kernel
theorem dX3_loopHeights_15 : decode cX3_loopHeights 15 = .ok (.iconst 2, 1) := by decide +kernel
theorem dX3_loopHeights_16 : decode cX3_loopHeights 16 = .ok (.invokevirtual 53, 3) := by decide +kernel
theorem dX3_loopHeights_19 : decode cX3_loopHeights 19 = .ok (.iconst 1, 1) := by decide +kernel
theorem dX3_loopHeights_20 : decode cX3_loopHeights 20 = .ok (.if_icmp .ne 12, 3) := by decide +kernel
theorem dX3_loopHeights_23 : decode cX3_loopHeights 23 = .ok (.aload_n 0, 1) := by decide +kernel
theorem dX3_loopHeights_24 : decode cX3_loopHeights 24 = .ok (.iload_n 2, 1) := by decide +kernel
theorem dX3_loopHeights_25 : decode cX3_loopHeights 25 = .ok (.iconst 1, 1) := by decide +kernel
theorem dX3_loopHeights_26 : decode cX3_loopHeights 26 = .ok (.invokevirtual 53, 3) := by decide +kernel
theorem dX3_loopHeights_29 : decode cX3_loopHeights 29 = .ok (.goto 4, 3) := by decide +kernel
theorem dX3_loopHeights_32 : decode cX3_loopHeights 32 = .ok (.iconst 0, 1) := by decide +kernel
theorem dX3_loopHeights_33 : decode cX3_loopHeights 33 = .ok (.iadd, 1) := by decide +kernel
theorem dX3_loopHeights_34 : decode cX3_loopHeights 34 = .ok (.istore_n 1, 1) := by decide +kernel
theorem dX3_loopHeights_35 : decode cX3_loopHeights 35 = .ok (.iinc 2 1, 3) := by decide +kernel
theorem dX3_loopHeights_38 : decode cX3_loopHeights 38 = .ok (.goto (-34), 3) := by decide +kernel
theorem dX3_loopHeights_41 : decode cX3_loopHeights 41 = .ok (.iload_n 1, 1) := by decide +kernel
theorem dX3_loopHeights_42 : decode cX3_loopHeights 42 = .ok (.ireturn, 1) := by decide +kernel
theorem dX3_pressureSteps_0 : decode cX3_pressureSteps 0 = .ok (.iconst 0, 1) := by decide +kernel
theorem dX3_pressureSteps_1 : decode cX3_pressureSteps 1 = .ok (.istore_n 1, 1) := by decide +kernel
theorem dX3_pressureSteps_2 : decode cX3_pressureSteps 2 = .ok (.iconst 1, 1) := by decide +kernel
theorem dX3_pressureSteps_3 : decode cX3_pressureSteps 3 = .ok (.istore_n 2, 1) := by decide +kernel
theorem dX3_pressureSteps_4 : decode cX3_pressureSteps 4 = .ok (.iload_n 2, 1) := by decide +kernel
theorem dX3_pressureSteps_5 : decode cX3_pressureSteps 5 = .ok (.aload_n 0, 1) := by decide +kernel
theorem dX3_pressureSteps_6 : decode cX3_pressureSteps 6 = .ok (.getfield 20, 3) := by decide +kernel
theorem dX3_pressureSteps_9 : decode cX3_pressureSteps 9 = .ok (.if_icmp .ge 30, 3) := by decide +kernel
theorem dX3_pressureSteps_12 : decode cX3_pressureSteps 12 = .ok (.iload_n 1, 1) := by decide +kernel
theorem dX3_pressureSteps_13 : decode cX3_pressureSteps 13 = .ok (.aload_n 0, 1) := by decide +kernel
theorem dX3_pressureSteps_14 : decode cX3_pressureSteps 14 = .ok (.iload_n 2, 1) := by decide +kernel
theorem dX3_pressureSteps_15 : decode cX3_pressureSteps 15 = .ok (.iconst 3, 1) := by decide +kernel
theorem dX3_pressureSteps_16 : decode cX3_pressureSteps 16 = .ok (.invokevirtual 53, 3) := by decide +kernel
theorem dX3_pressureSteps_19 : decode cX3_pressureSteps 19 = .ok (.aload_n 0, 1) := by decide +kernel
theorem dX3_pressureSteps_20 : decode cX3_pressureSteps 20 = .ok (.iload_n 2, 1) := by decide +kernel
theorem dX3_pressureSteps_21 : decode cX3_pressureSteps 21 = .ok (.iconst 1, 1) := by decide +kernel
theorem dX3_pressureSteps_22 : decode cX3_pressureSteps 22 = .ok (.isub, 1) := by decide +kernel
theorem dX3_pressureSteps_23 : decode cX3_pressureSteps 23 = .ok (.iconst 3, 1) := by decide +kernel
theorem dX3_pressureSteps_24 : decode cX3_pressureSteps 24 = .ok (.invokevirtual 53, 3) := by decide +kernel
theorem dX3_pressureSteps_27 : decode cX3_pressureSteps 27 = .ok (.isub, 1) := by decide +kernel
theorem dX3_pressureSteps_28 : decode cX3_pressureSteps 28 = .ok (.invokestatic 77, 3) := by decide +kernel
theorem dX3_pressureSteps_31 : decode cX3_pressureSteps 31 = .ok (.iadd, 1) := by decide +kernel
theorem dX3_pressureSteps_32 : decode cX3_pressureSteps 32 = .ok (.istore_n 1, 1) := by decide +kernel
theorem dX3_pressureSteps_33 : decode cX3_pressureSteps 33 = .ok (.iinc 2 1, 3) := by decide +kernel
theorem dX3_pressureSteps_36 : decode cX3_pressureSteps 36 = .ok (.goto (-32), 3) := by decide +kernel
theorem dX3_pressureSteps_39 : decode cX3_pressureSteps 39 = .ok (.iload_n 1, 1) := by decide +kernel
theorem dX3_pressureSteps_40 : decode cX3_pressureSteps 40 = .ok (.ireturn, 1) := by decide +kernel
theorem dX3_mean_0 : decode cX3_mean 0 = .ok (.iload_n 1, 1) := by decide +kernel
theorem dX3_mean_1 : decode cX3_mean 1 = .ok (.ifCond .gt 7, 3) := by decide +kernel
theorem dX3_mean_4 : decode cX3_mean 4 = .ok (.iconst 0, 1) := by decide +kernel
theorem dX3_mean_5 : decode cX3_mean 5 = .ok (.goto 8, 3) := by decide +kernel
theorem dX3_mean_8 : decode cX3_mean 8 = .ok (.iload_n 0, 1) := by decide +kernel
theorem dX3_mean_9 : decode cX3_mean 9 = .ok (.iload_n 1, 1) := by decide +kernel
theorem dX3_mean_10 : decode cX3_mean 10 = .ok (.invokestatic 80, 3) := by decide +kernel
theorem dX3_mean_13 : decode cX3_mean 13 = .ok (.ireturn, 1) := by decide +kernel
