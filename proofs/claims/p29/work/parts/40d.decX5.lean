theorem dX5_init_0 : decode cX5_init 0 = .ok (.aload_n 0, 1) := by decide +kernel
theorem dX5_init_1 : decode cX5_init 1 = .ok (.invokespecial 3, 3) := by decide +kernel
theorem dX5_init_4 : decode cX5_init 4 = .ok (.aload_n 0, 1) := by decide +kernel
theorem dX5_init_5 : decode cX5_init 5 = .ok (.new 9, 3) := by decide +kernel
theorem dX5_init_8 : decode cX5_init 8 = .ok (.dup, 1) := by decide +kernel
theorem dX5_init_9 : decode cX5_init 9 = .ok (.bipush 60, 2) := by decide +kernel
theorem dX5_init_11 : decode cX5_init 11 = .ok (.invokespecial 11, 3) := by decide +kernel
theorem dX5_init_14 : decode cX5_init 14 = .ok (.putfield 14, 3) := by decide +kernel
theorem dX5_init_17 : decode cX5_init 17 = .ok (.aload_n 0, 1) := by decide +kernel
theorem dX5_init_18 : decode cX5_init 18 = .ok (.new 9, 3) := by decide +kernel
theorem dX5_init_21 : decode cX5_init 21 = .ok (.dup, 1) := by decide +kernel
theorem dX5_init_22 : decode cX5_init 22 = .ok (.bipush 40, 2) := by decide +kernel
theorem dX5_init_24 : decode cX5_init 24 = .ok (.invokespecial 11, 3) := by decide +kernel
theorem dX5_init_27 : decode cX5_init 27 = .ok (.putfield 20, 3) := by decide +kernel
theorem dX5_init_30 : decode cX5_init 30 = .ok (.aload_n 0, 1) := by decide +kernel
theorem dX5_init_31 : decode cX5_init 31 = .ok (.new 9, 3) := by decide +kernel
theorem dX5_init_34 : decode cX5_init 34 = .ok (.dup, 1) := by decide +kernel
theorem dX5_init_35 : decode cX5_init 35 = .ok (.bipush 60, 2) := by decide +kernel
theorem dX5_init_37 : decode cX5_init 37 = .ok (.invokespecial 11, 3) := by decide +kernel
theorem dX5_init_40 : decode cX5_init 40 = .ok (.putfield 23, 3) := by decide +kernel
theorem dX5_init_43 : decode cX5_init 43 = .ok (.aload_n 0, 1) := by decide +kernel
theorem dX5_init_44 : decode cX5_init 44 = .ok (.new 9, 3) := by decide +kernel
theorem dX5_init_47 : decode cX5_init 47 = .ok (.dup, 1) := by decide +kernel
theorem dX5_init_48 : decode cX5_init 48 = .ok (.bipush 60, 2) := by decide +kernel
theorem dX5_init_50 : decode cX5_init 50 = .ok (.invokespecial 11, 3) := by decide +kernel
theorem dX5_init_53 : decode cX5_init 53 = .ok (.putfield 26, 3) := by decide +kernel
theorem dX5_init_56 : decode cX5_init 56 = .ok (.aload_n 0, 1) := by decide +kernel
theorem dX5_init_57 : decode cX5_init 57 = .ok (.new 9, 3) := by decide +kernel
theorem dX5_init_60 : decode cX5_init 60 = .ok (.dup, 1) := by decide +kernel
theorem dX5_init_61 : decode cX5_init 61 = .ok (.bipush 60, 2) := by decide +kernel
theorem dX5_init_63 : decode cX5_init 63 = .ok (.invokespecial 11, 3) := by decide +kernel
theorem dX5_init_66 : decode cX5_init 66 = .ok (.putfield 29, 3) := by decide +kernel
theorem dX5_init_69 : decode cX5_init 69 = .ok (.return_, 1) := by decide +kernel
theorem dX5_add_0 : decode cX5_add 0 = .ok (.aload_n 0, 1) := by decide +kernel
theorem dX5_add_1 : decode cX5_add 1 = .ok (.getfield 32, 3) := by decide +kernel
theorem dX5_add_4 : decode cX5_add 4 = .ok (.bipush 60, 2) := by decide +kernel
theorem dX5_add_6 : decode cX5_add 6 = .ok (.if_icmp .ge 25, 3) := by decide +kernel
theorem dX5_add_9 : decode cX5_add 9 = .ok (.aload_n 0, 1) := by decide +kernel
theorem dX5_add_10 : decode cX5_add 10 = .ok (.getfield 14, 3) := by decide +kernel
theorem dX5_add_13 : decode cX5_add 13 = .ok (.aload_n 0, 1) := by decide +kernel
theorem dX5_add_14 : decode cX5_add 14 = .ok (.getfield 32, 3) := by decide +kernel
theorem dX5_add_17 : decode cX5_add 17 = .ok (.iload_n 1, 1) := by decide +kernel
theorem dX5_add_18 : decode cX5_add 18 = .ok (.invokevirtual 36, 3) := by decide +kernel
theorem dX5_add_21 : decode cX5_add 21 = .ok (.aload_n 0, 1) := by decide +kernel
theorem dX5_add_22 : decode cX5_add 22 = .ok (.dup, 1) := by decide +kernel
theorem dX5_add_23 : decode cX5_add 23 = .ok (.getfield 32, 3) := by decide +kernel
theorem dX5_add_26 : decode cX5_add 26 = .ok (.iconst 1, 1) := by decide +kernel
theorem dX5_add_27 : decode cX5_add 27 = .ok (.iadd, 1) := by decide +kernel
theorem dX5_add_28 : decode cX5_add 28 = .ok (.putfield 32, 3) := by decide +kernel
theorem dX5_add_31 : decode cX5_add 31 = .ok (.aload_n 0, 1) := by decide +kernel
theorem dX5_add_32 : decode cX5_add 32 = .ok (.getfield 32, 3) := by decide +kernel
theorem dX5_add_35 : decode cX5_add 35 = .ok (.ireturn, 1) := by decide +kernel
theorem dX5_empty_0 : decode cX5_empty 0 = .ok (.aload_n 0, 1) := by decide +kernel
theorem dX5_empty_1 : decode cX5_empty 1 = .ok (.iconst 0, 1) := by decide +kernel
theorem dX5_empty_2 : decode cX5_empty 2 = .ok (.putfield 32, 3) := by decide +kernel
theorem dX5_empty_5 : decode cX5_empty 5 = .ok (.return_, 1) := by decide +kernel
theorem dX5_readSheet_0 : decode cX5_readSheet 0 = .ok (.aload_n 0, 1) := by decide +kernel
theorem dX5_readSheet_1 : decode cX5_readSheet 1 = .ok (.invokevirtual 48, 3) := by decide +kernel
theorem dX5_readSheet_4 : decode cX5_readSheet 4 = .ok (.aload_n 0, 1) := by decide +kernel
theorem dX5_readSheet_5 : decode cX5_readSheet 5 = .ok (.invokevirtual 51, 3) := by decide +kernel
theorem dX5_readSheet_8 : decode cX5_readSheet 8 = .ok (.iconst 1, 1) := by decide +kernel
theorem dX5_readSheet_9 : decode cX5_readSheet 9 = .ok (.istore_n 1, 1) := by decide +kernel
theorem dX5_readSheet_10 : decode cX5_readSheet 10 = .ok (.iload_n 1, 1) := by decide +kernel
theorem dX5_readSheet_11 : decode cX5_readSheet 11 = .ok (.bipush 8, 2) := by decide +kernel
theorem dX5_readSheet_13 : decode cX5_readSheet 13 = .ok (.if_icmp .ge 22, 3) := by decide +kernel
theorem dX5_readSheet_16 : decode cX5_readSheet 16 = .ok (.aload_n 0, 1) := by decide +kernel
theorem dX5_readSheet_17 : decode cX5_readSheet 17 = .ok (.bipush 44, 2) := by decide +kernel
theorem dX5_readSheet_19 : decode cX5_readSheet 19 = .ok (.invokevirtual 54, 3) := by decide +kernel
theorem dX5_readSheet_22 : decode cX5_readSheet 22 = .ok (.ifCond .eq 13, 3) := by decide +kernel
theorem dX5_readSheet_25 : decode cX5_readSheet 25 = .ok (.aload_n 0, 1) := by decide +kernel
theorem dX5_readSheet_26 : decode cX5_readSheet 26 = .ok (.invokevirtual 51, 3) := by decide +kernel
theorem dX5_readSheet_29 : decode cX5_readSheet 29 = .ok (.iinc 1 1, 3) := by decide +kernel
theorem dX5_readSheet_32 : decode cX5_readSheet 32 = .ok (.goto (-22), 3) := by decide +kernel
theorem dX5_readSheet_35 : decode cX5_readSheet 35 = .ok (.aload_n 0, 1) := by decide +kernel
theorem dX5_readSheet_36 : decode cX5_readSheet 36 = .ok (.invokevirtual 58, 3) := by decide +kernel
theorem dX5_readSheet_39 : decode cX5_readSheet 39 = .ok (.ireturn, 1) := by decide +kernel
theorem dX5_begin_0 : decode cX5_begin 0 = .ok (.aload_n 0, 1) := by decide +kernel
theorem dX5_begin_1 : decode cX5_begin 1 = .ok (.iconst 0, 1) := by decide +kernel
theorem dX5_begin_2 : decode cX5_begin 2 = .ok (.putfield 65, 3) := by decide +kernel
theorem dX5_begin_5 : decode cX5_begin 5 = .ok (.aload_n 0, 1) := by decide +kernel
theorem dX5_begin_6 : decode cX5_begin 6 = .ok (.iconst 0, 1) := by decide +kernel
theorem dX5_begin_7 : decode cX5_begin 7 = .ok (.putfield 68, 3) := by decide +kernel
theorem dX5_begin_10 : decode cX5_begin 10 = .ok (.aload_n 0, 1) := by decide +kernel
theorem dX5_begin_11 : decode cX5_begin 11 = .ok (.iconst 0, 1) := by decide +kernel
theorem dX5_begin_12 : decode cX5_begin 12 = .ok (.putfield 72, 3) := by decide +kernel
theorem dX5_begin_15 : decode cX5_begin 15 = .ok (.aload_n 0, 1) := by decide +kernel
theorem dX5_begin_16 : decode cX5_begin 16 = .ok (.iconst 0, 1) := by decide +kernel
theorem dX5_begin_17 : decode cX5_begin 17 = .ok (.putfield 75, 3) := by decide +kernel
theorem dX5_begin_20 : decode cX5_begin 20 = .ok (.return_, 1) := by decide +kernel
theorem dX5_isComplete_0 : decode cX5_isComplete 0 = .ok (.aload_n 0, 1) := by decide +kernel
theorem dX5_isComplete_1 : decode cX5_isComplete 1 = .ok (.getfield 68, 3) := by decide +kernel
theorem dX5_isComplete_4 : decode cX5_isComplete 4 = .ok (.ifCond .ne 18, 3) := by decide +kernel
theorem dX5_isComplete_7 : decode cX5_isComplete 7 = .ok (.aload_n 0, 1) := by decide +kernel
theorem dX5_isComplete_8 : decode cX5_isComplete 8 = .ok (.getfield 65, 3) := by decide +kernel
theorem dX5_isComplete_11 : decode cX5_isComplete 11 = .ok (.aload_n 0, 1) := by decide +kernel
theorem dX5_isComplete_12 : decode cX5_isComplete 12 = .ok (.getfield 32, 3) := by decide +kernel
theorem dX5_isComplete_15 : decode cX5_isComplete 15 = .ok (.if_icmp .ne 7, 3) := by decide +kernel
theorem dX5_isComplete_18 : decode cX5_isComplete 18 = .ok (.iconst 1, 1) := by decide +kernel
theorem dX5_isComplete_19 : decode cX5_isComplete 19 = .ok (.goto 4, 3) := by decide +kernel
theorem dX5_isComplete_22 : decode cX5_isComplete 22 = .ok (.iconst 0, 1) := by decide +kernel
theorem dX5_isComplete_23 : decode cX5_isComplete 23 = .ok (.ireturn, 1) := by decide +kernel
theorem dX5_readStroke_0 : decode cX5_readStroke 0 = .ok (.aload_n 0, 1) := by decide +kernel
theorem dX5_readStroke_1 : decode cX5_readStroke 1 = .ok (.bipush 45, 2) := by decide +kernel
theorem dX5_readStroke_3 : decode cX5_readStroke 3 = .ok (.invokevirtual 54, 3) := by decide +kernel
theorem dX5_readStroke_6 : decode cX5_readStroke 6 = .ok (.istore_n 1, 1) := by decide +kernel
theorem dX5_readStroke_7 : decode cX5_readStroke 7 = .ok (.aload_n 0, 1) := by decide +kernel
theorem dX5_readStroke_8 : decode cX5_readStroke 8 = .ok (.iload_n 1, 1) := by decide +kernel
theorem dX5_readStroke_9 : decode cX5_readStroke 9 = .ok (.ifCond .eq 7, 3) := by decide +kernel
theorem dX5_readStroke_12 : decode cX5_readStroke 12 = .ok (.iconst 1, 1) := by decide +kernel
theorem dX5_readStroke_13 : decode cX5_readStroke 13 = .ok (.goto 4, 3) := by decide +kernel
theorem dX5_readStroke_16 : decode cX5_readStroke 16 = .ok (.iconst 0, 1) := by decide +kernel
theorem dX5_readStroke_17 : decode cX5_readStroke 17 = .ok (.bipush 45, 2) := by decide +kernel
theorem dX5_readStroke_19 : decode cX5_readStroke 19 = .ok (.invokevirtual 78, 3) := by decide +kernel
theorem dX5_readStroke_22 : decode cX5_readStroke 22 = .ok (.istore_n 2, 1) := by decide +kernel
theorem dX5_readStroke_23 : decode cX5_readStroke 23 = .ok (.aload_n 0, 1) := by decide +kernel
theorem dX5_readStroke_24 : decode cX5_readStroke 24 = .ok (.bipush 58, 2) := by decide +kernel
theorem dX5_readStroke_26 : decode cX5_readStroke 26 = .ok (.invokevirtual 82, 3) := by decide +kernel
theorem dX5_readStroke_29 : decode cX5_readStroke 29 = .ok (.aload_n 0, 1) := by decide +kernel
theorem dX5_readStroke_30 : decode cX5_readStroke 30 = .ok (.iconst 1, 1) := by decide +kernel
theorem dX5_readStroke_31 : decode cX5_readStroke 31 = .ok (.bipush 60, 2) := by decide +kernel
theorem dX5_readStroke_33 : decode cX5_readStroke 33 = .ok (.invokevirtual 78, 3) := by decide +kernel
theorem dX5_readStroke_36 : decode cX5_readStroke 36 = .ok (.istore_n 3, 1) := by decide +kernel
theorem dX5_readStroke_37 : decode cX5_readStroke 37 = .ok (.aload_n 0, 1) := by decide +kernel
theorem dX5_readStroke_38 : decode cX5_readStroke 38 = .ok (.bipush 111, 2) := by decide +kernel
theorem dX5_readStroke_40 : decode cX5_readStroke 40 = .ok (.invokevirtual 54, 3) := by decide +kernel
theorem dX5_readStroke_43 : decode cX5_readStroke 43 = .ok (.istore 4, 2) := by decide +kernel
theorem dX5_readStroke_45 : decode cX5_readStroke 45 = .ok (.aload_n 0, 1) := by decide +kernel
theorem dX5_readStroke_46 : decode cX5_readStroke 46 = .ok (.bipush 112, 2) := by decide +kernel
theorem dX5_readStroke_48 : decode cX5_readStroke 48 = .ok (.invokevirtual 82, 3) := by decide +kernel
theorem dX5_readStroke_51 : decode cX5_readStroke 51 = .ok (.aload_n 0, 1) := by decide +kernel
theorem dX5_readStroke_52 : decode cX5_readStroke 52 = .ok (.iconst 1, 1) := by decide +kernel
theorem dX5_readStroke_53 : decode cX5_readStroke 53 = .ok (.bipush 9, 2) := by decide +kernel
theorem dX5_readStroke_55 : decode cX5_readStroke 55 = .ok (.invokevirtual 78, 3) := by decide +kernel
theorem dX5_readStroke_58 : decode cX5_readStroke 58 = .ok (.istore 5, 2) := by decide +kernel
theorem dX5_readStroke_60 : decode cX5_readStroke 60 = .ok (.aload_n 0, 1) := by decide +kernel
theorem dX5_readStroke_61 : decode cX5_readStroke 61 = .ok (.bipush 126, 2) := by decide +kernel
theorem dX5_readStroke_63 : decode cX5_readStroke 63 = .ok (.invokevirtual 54, 3) := by decide +kernel
theorem dX5_readStroke_66 : decode cX5_readStroke 66 = .ok (.ifCond .eq 13, 3) := by decide +kernel
theorem dX5_readStroke_69 : decode cX5_readStroke 69 = .ok (.aload_n 0, 1) := by decide +kernel
theorem dX5_readStroke_70 : decode cX5_readStroke 70 = .ok (.iconst 1, 1) := by decide +kernel
theorem dX5_readStroke_71 : decode cX5_readStroke 71 = .ok (.bipush 9, 2) := by decide +kernel
theorem dX5_readStroke_73 : decode cX5_readStroke 73 = .ok (.invokevirtual 78, 3) := by decide +kernel
theorem dX5_readStroke_76 : decode cX5_readStroke 76 = .ok (.goto 4, 3) := by decide +kernel
theorem dX5_readStroke_79 : decode cX5_readStroke 79 = .ok (.iconst 0, 1) := by decide +kernel
theorem dX5_readStroke_80 : decode cX5_readStroke 80 = .ok (.istore 6, 2) := by decide +kernel
theorem dX5_readStroke_82 : decode cX5_readStroke 82 = .ok (.aload_n 0, 1) := by decide +kernel
theorem dX5_readStroke_83 : decode cX5_readStroke 83 = .ok (.getfield 72, 3) := by decide +kernel
theorem dX5_readStroke_86 : decode cX5_readStroke 86 = .ok (.iconst 5, 1) := by decide +kernel
theorem dX5_readStroke_87 : decode cX5_readStroke 87 = .ok (.imul, 1) := by decide +kernel
theorem dX5_readStroke_88 : decode cX5_readStroke 88 = .ok (.istore 7, 2) := by decide +kernel
theorem dX5_readStroke_90 : decode cX5_readStroke 90 = .ok (.aload_n 0, 1) := by decide +kernel
theorem dX5_readStroke_91 : decode cX5_readStroke 91 = .ok (.getfield 20, 3) := by decide +kernel
theorem dX5_readStroke_94 : decode cX5_readStroke 94 = .ok (.iload 7, 2) := by decide +kernel
theorem dX5_readStroke_96 : decode cX5_readStroke 96 = .ok (.iconst 0, 1) := by decide +kernel
theorem dX5_readStroke_97 : decode cX5_readStroke 97 = .ok (.iadd, 1) := by decide +kernel
theorem dX5_readStroke_98 : decode cX5_readStroke 98 = .ok (.iload_n 1, 1) := by decide +kernel
theorem dX5_readStroke_99 : decode cX5_readStroke 99 = .ok (.ifCond .eq 8, 3) := by decide +kernel
theorem dX5_readStroke_102 : decode cX5_readStroke 102 = .ok (.iload_n 2, 1) := by decide +kernel
theorem dX5_readStroke_103 : decode cX5_readStroke 103 = .ok (.ineg, 1) := by decide +kernel
theorem dX5_readStroke_104 : decode cX5_readStroke 104 = .ok (.goto 4, 3) := by decide +kernel
theorem dX5_readStroke_107 : decode cX5_readStroke 107 = .ok (.iload_n 2, 1) := by decide +kernel
theorem dX5_readStroke_108 : decode cX5_readStroke 108 = .ok (.invokevirtual 36, 3) := by decide +kernel
theorem dX5_readStroke_111 : decode cX5_readStroke 111 = .ok (.aload_n 0, 1) := by decide +kernel
theorem dX5_readStroke_112 : decode cX5_readStroke 112 = .ok (.getfield 20, 3) := by decide +kernel
theorem dX5_readStroke_115 : decode cX5_readStroke 115 = .ok (.iload 7, 2) := by decide +kernel
theorem dX5_readStroke_117 : decode cX5_readStroke 117 = .ok (.iconst 1, 1) := by decide +kernel
theorem dX5_readStroke_118 : decode cX5_readStroke 118 = .ok (.iadd, 1) := by decide +kernel
theorem dX5_readStroke_119 : decode cX5_readStroke 119 = .ok (.iload_n 3, 1) := by decide +kernel
theorem dX5_readStroke_120 : decode cX5_readStroke 120 = .ok (.invokevirtual 36, 3) := by decide +kernel
theorem dX5_readStroke_123 : decode cX5_readStroke 123 = .ok (.aload_n 0, 1) := by decide +kernel
theorem dX5_readStroke_124 : decode cX5_readStroke 124 = .ok (.getfield 20, 3) := by decide +kernel
theorem dX5_readStroke_127 : decode cX5_readStroke 127 = .ok (.iload 7, 2) := by decide +kernel
theorem dX5_readStroke_129 : decode cX5_readStroke 129 = .ok (.iconst 2, 1) := by decide +kernel
theorem dX5_readStroke_130 : decode cX5_readStroke 130 = .ok (.iadd, 1) := by decide +kernel
theorem dX5_readStroke_131 : decode cX5_readStroke 131 = .ok (.iload 4, 2) := by decide +kernel
theorem dX5_readStroke_133 : decode cX5_readStroke 133 = .ok (.ifCond .eq 7, 3) := by decide +kernel
theorem dX5_readStroke_136 : decode cX5_readStroke 136 = .ok (.iconst 1, 1) := by decide +kernel
theorem dX5_readStroke_137 : decode cX5_readStroke 137 = .ok (.goto 4, 3) := by decide +kernel
theorem dX5_readStroke_140 : decode cX5_readStroke 140 = .ok (.iconst 0, 1) := by decide +kernel
theorem dX5_readStroke_141 : decode cX5_readStroke 141 = .ok (.invokevirtual 36, 3) := by decide +kernel
theorem dX5_readStroke_144 : decode cX5_readStroke 144 = .ok (.aload_n 0, 1) := by decide +kernel
theorem dX5_readStroke_145 : decode cX5_readStroke 145 = .ok (.getfield 20, 3) := by decide +kernel
theorem dX5_readStroke_148 : decode cX5_readStroke 148 = .ok (.iload 7, 2) := by decide +kernel
theorem dX5_readStroke_150 : decode cX5_readStroke 150 = .ok (.iconst 3, 1) := by decide +kernel
theorem dX5_readStroke_151 : decode cX5_readStroke 151 = .ok (.iadd, 1) := by decide +kernel
theorem dX5_readStroke_152 : decode cX5_readStroke 152 = .ok (.iload 5, 2) := by decide +kernel
theorem dX5_readStroke_154 : decode cX5_readStroke 154 = .ok (.invokevirtual 36, 3) := by decide +kernel
theorem dX5_readStroke_157 : decode cX5_readStroke 157 = .ok (.aload_n 0, 1) := by decide +kernel
theorem dX5_readStroke_158 : decode cX5_readStroke 158 = .ok (.getfield 20, 3) := by decide +kernel
theorem dX5_readStroke_161 : decode cX5_readStroke 161 = .ok (.iload 7, 2) := by decide +kernel
theorem dX5_readStroke_163 : decode cX5_readStroke 163 = .ok (.iconst 4, 1) := by decide +kernel
theorem dX5_readStroke_164 : decode cX5_readStroke 164 = .ok (.iadd, 1) := by decide +kernel
theorem dX5_readStroke_165 : decode cX5_readStroke 165 = .ok (.iload 6, 2) := by decide +kernel
theorem dX5_readStroke_167 : decode cX5_readStroke 167 = .ok (.invokevirtual 36, 3) := by decide +kernel
theorem dX5_readStroke_170 : decode cX5_readStroke 170 = .ok (.aload_n 0, 1) := by decide +kernel
theorem dX5_readStroke_171 : decode cX5_readStroke 171 = .ok (.dup, 1) := by decide +kernel
theorem dX5_readStroke_172 : decode cX5_readStroke 172 = .ok (.getfield 72, 3) := by decide +kernel
theorem dX5_readStroke_175 : decode cX5_readStroke 175 = .ok (.iconst 1, 1) := by decide +kernel
theorem dX5_readStroke_176 : decode cX5_readStroke 176 = .ok (.iadd, 1) := by decide +kernel
theorem dX5_readStroke_177 : decode cX5_readStroke 177 = .ok (.putfield 72, 3) := by decide +kernel
theorem dX5_readStroke_180 : decode cX5_readStroke 180 = .ok (.return_, 1) := by decide +kernel
theorem dX5_codeHere_0 : decode cX5_codeHere 0 = .ok (.aload_n 0, 1) := by decide +kernel
theorem dX5_codeHere_1 : decode cX5_codeHere 1 = .ok (.getfield 68, 3) := by decide +kernel
theorem dX5_codeHere_4 : decode cX5_codeHere 4 = .ok (.ifCond .ne 14, 3) := by decide +kernel
theorem dX5_codeHere_7 : decode cX5_codeHere 7 = .ok (.aload_n 0, 1) := by decide +kernel
theorem dX5_codeHere_8 : decode cX5_codeHere 8 = .ok (.getfield 65, 3) := by decide +kernel
theorem dX5_codeHere_11 : decode cX5_codeHere 11 = .ok (.aload_n 0, 1) := by decide +kernel
theorem dX5_codeHere_12 : decode cX5_codeHere 12 = .ok (.getfield 32, 3) := by decide +kernel
theorem dX5_codeHere_15 : decode cX5_codeHere 15 = .ok (.if_icmp .lt 7, 3) := by decide +kernel
theorem dX5_codeHere_18 : decode cX5_codeHere 18 = .ok (.iconst (-1), 1) := by decide +kernel
theorem dX5_codeHere_19 : decode cX5_codeHere 19 = .ok (.goto 14, 3) := by decide +kernel
theorem dX5_codeHere_22 : decode cX5_codeHere 22 = .ok (.aload_n 0, 1) := by decide +kernel
theorem dX5_codeHere_23 : decode cX5_codeHere 23 = .ok (.getfield 14, 3) := by decide +kernel
theorem dX5_codeHere_26 : decode cX5_codeHere 26 = .ok (.aload_n 0, 1) := by decide +kernel
theorem dX5_codeHere_27 : decode cX5_codeHere 27 = .ok (.getfield 65, 3) := by decide +kernel
theorem dX5_codeHere_30 : decode cX5_codeHere 30 = .ok (.invokevirtual 44, 3) := by decide +kernel
theorem dX5_codeHere_33 : decode cX5_codeHere 33 = .ok (.ireturn, 1) := by decide +kernel
theorem dX5_digitHere_0 : decode cX5_digitHere 0 = .ok (.aload_n 0, 1) := by decide +kernel
theorem dX5_digitHere_1 : decode cX5_digitHere 1 = .ok (.invokevirtual 85, 3) := by decide +kernel
theorem dX5_digitHere_4 : decode cX5_digitHere 4 = .ok (.istore_n 1, 1) := by decide +kernel
theorem dX5_digitHere_5 : decode cX5_digitHere 5 = .ok (.iload_n 1, 1) := by decide +kernel
theorem dX5_digitHere_6 : decode cX5_digitHere 6 = .ok (.bipush 48, 2) := by decide +kernel
theorem dX5_digitHere_8 : decode cX5_digitHere 8 = .ok (.if_icmp .lt 16, 3) := by decide +kernel
theorem dX5_digitHere_11 : decode cX5_digitHere 11 = .ok (.iload_n 1, 1) := by decide +kernel
theorem dX5_digitHere_12 : decode cX5_digitHere 12 = .ok (.bipush 57, 2) := by decide +kernel
theorem dX5_digitHere_14 : decode cX5_digitHere 14 = .ok (.if_icmp .gt 10, 3) := by decide +kernel
theorem dX5_digitHere_17 : decode cX5_digitHere 17 = .ok (.iload_n 1, 1) := by decide +kernel
theorem dX5_digitHere_18 : decode cX5_digitHere 18 = .ok (.bipush 48, 2) := by decide +kernel
theorem dX5_digitHere_20 : decode cX5_digitHere 20 = .ok (.isub, 1) := by decide +kernel
theorem dX5_digitHere_21 : decode cX5_digitHere 21 = .ok (.goto 4, 3) := by decide +kernel
theorem dX5_digitHere_24 : decode cX5_digitHere 24 = .ok (.iconst (-1), 1) := by decide +kernel
theorem dX5_digitHere_25 : decode cX5_digitHere 25 = .ok (.ireturn, 1) := by decide +kernel
theorem dX5_skip_0 : decode cX5_skip 0 = .ok (.aload_n 0, 1) := by decide +kernel
theorem dX5_skip_1 : decode cX5_skip 1 = .ok (.invokevirtual 85, 3) := by decide +kernel
theorem dX5_skip_4 : decode cX5_skip 4 = .ok (.iload_n 1, 1) := by decide +kernel
theorem dX5_skip_5 : decode cX5_skip 5 = .ok (.if_icmp .eq 5, 3) := by decide +kernel
theorem dX5_skip_8 : decode cX5_skip 8 = .ok (.iconst 0, 1) := by decide +kernel
theorem dX5_skip_9 : decode cX5_skip 9 = .ok (.ireturn, 1) := by decide +kernel
theorem dX5_skip_10 : decode cX5_skip 10 = .ok (.aload_n 0, 1) := by decide +kernel
theorem dX5_skip_11 : decode cX5_skip 11 = .ok (.dup, 1) := by decide +kernel
theorem dX5_skip_12 : decode cX5_skip 12 = .ok (.getfield 65, 3) := by decide +kernel
theorem dX5_skip_15 : decode cX5_skip 15 = .ok (.iconst 1, 1) := by decide +kernel
theorem dX5_skip_16 : decode cX5_skip 16 = .ok (.iadd, 1) := by decide +kernel
theorem dX5_skip_17 : decode cX5_skip 17 = .ok (.putfield 65, 3) := by decide +kernel
theorem dX5_skip_20 : decode cX5_skip 20 = .ok (.iconst 1, 1) := by decide +kernel
theorem dX5_skip_21 : decode cX5_skip 21 = .ok (.ireturn, 1) := by decide +kernel
theorem dX5_need_0 : decode cX5_need 0 = .ok (.aload_n 0, 1) := by decide +kernel
theorem dX5_need_1 : decode cX5_need 1 = .ok (.iload_n 1, 1) := by decide +kernel
theorem dX5_need_2 : decode cX5_need 2 = .ok (.invokevirtual 54, 3) := by decide +kernel
theorem dX5_need_5 : decode cX5_need 5 = .ok (.ifCond .ne 8, 3) := by decide +kernel
theorem dX5_need_8 : decode cX5_need 8 = .ok (.aload_n 0, 1) := by decide +kernel
theorem dX5_need_9 : decode cX5_need 9 = .ok (.iconst 1, 1) := by decide +kernel
theorem dX5_need_10 : decode cX5_need 10 = .ok (.putfield 68, 3) := by decide +kernel
theorem dX5_need_13 : decode cX5_need 13 = .ok (.return_, 1) := by decide +kernel
theorem dX5_readNumber_0 : decode cX5_readNumber 0 = .ok (.aload_n 0, 1) := by decide +kernel
theorem dX5_readNumber_1 : decode cX5_readNumber 1 = .ok (.invokevirtual 89, 3) := by decide +kernel
theorem dX5_readNumber_4 : decode cX5_readNumber 4 = .ok (.istore_n 3, 1) := by decide +kernel
theorem dX5_readNumber_5 : decode cX5_readNumber 5 = .ok (.iload_n 3, 1) := by decide +kernel
theorem dX5_readNumber_6 : decode cX5_readNumber 6 = .ok (.iload_n 1, 1) := by decide +kernel
theorem dX5_readNumber_7 : decode cX5_readNumber 7 = .ok (.if_icmp .lt 8, 3) := by decide +kernel
theorem dX5_readNumber_10 : decode cX5_readNumber 10 = .ok (.iload_n 3, 1) := by decide +kernel
theorem dX5_readNumber_11 : decode cX5_readNumber 11 = .ok (.iload_n 2, 1) := by decide +kernel
theorem dX5_readNumber_12 : decode cX5_readNumber 12 = .ok (.if_icmp .le 10, 3) := by decide +kernel
theorem dX5_readNumber_15 : decode cX5_readNumber 15 = .ok (.aload_n 0, 1) := by decide +kernel
theorem dX5_readNumber_16 : decode cX5_readNumber 16 = .ok (.iconst 1, 1) := by decide +kernel
theorem dX5_readNumber_17 : decode cX5_readNumber 17 = .ok (.putfield 68, 3) := by decide +kernel
theorem dX5_readNumber_20 : decode cX5_readNumber 20 = .ok (.iconst 0, 1) := by decide +kernel
theorem dX5_readNumber_21 : decode cX5_readNumber 21 = .ok (.ireturn, 1) := by decide +kernel
theorem dX5_readNumber_22 : decode cX5_readNumber 22 = .ok (.aload_n 0, 1) := by decide +kernel
theorem dX5_readNumber_23 : decode cX5_readNumber 23 = .ok (.dup, 1) := by decide +kernel
theorem dX5_readNumber_24 : decode cX5_readNumber 24 = .ok (.getfield 65, 3) := by decide +kernel
theorem dX5_readNumber_27 : decode cX5_readNumber 27 = .ok (.iconst 1, 1) := by decide +kernel
theorem dX5_readNumber_28 : decode cX5_readNumber 28 = .ok (.iadd, 1) := by decide +kernel
theorem dX5_readNumber_29 : decode cX5_readNumber 29 = .ok (.putfield 65, 3) := by decide +kernel
theorem dX5_readNumber_32 : decode cX5_readNumber 32 = .ok (.aload_n 0, 1) := by decide +kernel
theorem dX5_readNumber_33 : decode cX5_readNumber 33 = .ok (.invokevirtual 89, 3) := by decide +kernel
theorem dX5_readNumber_36 : decode cX5_readNumber 36 = .ok (.istore 4, 2) := by decide +kernel
theorem dX5_readNumber_38 : decode cX5_readNumber 38 = .ok (.iload_n 3, 1) := by decide +kernel
theorem dX5_readNumber_39 : decode cX5_readNumber 39 = .ok (.ifCond .eq 20, 3) := by decide +kernel
theorem dX5_readNumber_42 : decode cX5_readNumber 42 = .ok (.iload 4, 2) := by decide +kernel
theorem dX5_readNumber_44 : decode cX5_readNumber 44 = .ok (.iconst (-1), 1) := by decide +kernel
theorem dX5_readNumber_45 : decode cX5_readNumber 45 = .ok (.if_icmp .eq 14, 3) := by decide +kernel
theorem dX5_readNumber_48 : decode cX5_readNumber 48 = .ok (.iload_n 3, 1) := by decide +kernel
theorem dX5_readNumber_49 : decode cX5_readNumber 49 = .ok (.bipush 10, 2) := by decide +kernel
theorem dX5_readNumber_51 : decode cX5_readNumber 51 = .ok (.imul, 1) := by decide +kernel
theorem dX5_readNumber_52 : decode cX5_readNumber 52 = .ok (.iload 4, 2) := by decide +kernel
theorem dX5_readNumber_54 : decode cX5_readNumber 54 = .ok (.iadd, 1) := by decide +kernel
theorem dX5_readNumber_55 : decode cX5_readNumber 55 = .ok (.iload_n 2, 1) := by decide +kernel
theorem dX5_readNumber_56 : decode cX5_readNumber 56 = .ok (.if_icmp .le 5, 3) := by decide +kernel
theorem dX5_readNumber_59 : decode cX5_readNumber 59 = .ok (.iload_n 3, 1) := by decide +kernel
theorem dX5_readNumber_60 : decode cX5_readNumber 60 = .ok (.ireturn, 1) := by decide +kernel
theorem dX5_readNumber_61 : decode cX5_readNumber 61 = .ok (.aload_n 0, 1) := by decide +kernel
theorem dX5_readNumber_62 : decode cX5_readNumber 62 = .ok (.dup, 1) := by decide +kernel
theorem dX5_readNumber_63 : decode cX5_readNumber 63 = .ok (.getfield 65, 3) := by decide +kernel
theorem dX5_readNumber_66 : decode cX5_readNumber 66 = .ok (.iconst 1, 1) := by decide +kernel
theorem dX5_readNumber_67 : decode cX5_readNumber 67 = .ok (.iadd, 1) := by decide +kernel
theorem dX5_readNumber_68 : decode cX5_readNumber 68 = .ok (.putfield 65, 3) := by decide +kernel
theorem dX5_readNumber_71 : decode cX5_readNumber 71 = .ok (.iload_n 3, 1) := by decide +kernel
theorem dX5_readNumber_72 : decode cX5_readNumber 72 = .ok (.bipush 10, 2) := by decide +kernel
theorem dX5_readNumber_74 : decode cX5_readNumber 74 = .ok (.imul, 1) := by decide +kernel
theorem dX5_readNumber_75 : decode cX5_readNumber 75 = .ok (.iload 4, 2) := by decide +kernel
theorem dX5_readNumber_77 : decode cX5_readNumber 77 = .ok (.iadd, 1) := by decide +kernel
theorem dX5_readNumber_78 : decode cX5_readNumber 78 = .ok (.ireturn, 1) := by decide +kernel
