theorem dX4_init_0 : decode cX4_init 0 = .ok (.aload_n 0, 1) := by decide +kernel
theorem dX4_init_1 : decode cX4_init 1 = .ok (.invokespecial 3, 3) := by decide +kernel
theorem dX4_init_4 : decode cX4_init 4 = .ok (.aload_n 0, 1) := by decide +kernel
theorem dX4_init_5 : decode cX4_init 5 = .ok (.new 9, 3) := by decide +kernel
theorem dX4_init_8 : decode cX4_init 8 = .ok (.dup, 1) := by decide +kernel
theorem dX4_init_9 : decode cX4_init 9 = .ok (.iconst 0, 1) := by decide +kernel
theorem dX4_init_10 : decode cX4_init 10 = .ok (.aconst_null, 1) := by decide +kernel
theorem dX4_init_11 : decode cX4_init 11 = .ok (.invokespecial 11, 3) := by decide +kernel
theorem dX4_init_14 : decode cX4_init 14 = .ok (.putfield 14, 3) := by decide +kernel
theorem dX4_init_17 : decode cX4_init 17 = .ok (.aload_n 0, 1) := by decide +kernel
theorem dX4_init_18 : decode cX4_init 18 = .ok (.bipush 8, 2) := by decide +kernel
theorem dX4_init_20 : decode cX4_init 20 = .ok (.anewarray 9, 3) := by decide +kernel
theorem dX4_init_23 : decode cX4_init 23 = .ok (.putfield 20, 3) := by decide +kernel
theorem dX4_init_26 : decode cX4_init 26 = .ok (.aload_n 0, 1) := by decide +kernel
theorem dX4_init_27 : decode cX4_init 27 = .ok (.new 24, 3) := by decide +kernel
theorem dX4_init_30 : decode cX4_init 30 = .ok (.dup, 1) := by decide +kernel
theorem dX4_init_31 : decode cX4_init 31 = .ok (.bipush 8, 2) := by decide +kernel
theorem dX4_init_33 : decode cX4_init 33 = .ok (.invokespecial 26, 3) := by decide +kernel
theorem dX4_init_36 : decode cX4_init 36 = .ok (.putfield 29, 3) := by decide +kernel
theorem dX4_init_39 : decode cX4_init 39 = .ok (.aload_n 0, 1) := by decide +kernel
theorem dX4_init_40 : decode cX4_init 40 = .ok (.new 33, 3) := by decide +kernel
theorem dX4_init_43 : decode cX4_init 43 = .ok (.dup, 1) := by decide +kernel
theorem dX4_init_44 : decode cX4_init 44 = .ok (.invokespecial 35, 3) := by decide +kernel
theorem dX4_init_47 : decode cX4_init 47 = .ok (.putfield 36, 3) := by decide +kernel
theorem dX4_init_50 : decode cX4_init 50 = .ok (.aload_n 0, 1) := by decide +kernel
theorem dX4_init_51 : decode cX4_init 51 = .ok (.new 24, 3) := by decide +kernel
theorem dX4_init_54 : decode cX4_init 54 = .ok (.dup, 1) := by decide +kernel
theorem dX4_init_55 : decode cX4_init 55 = .ok (.bipush 9, 2) := by decide +kernel
theorem dX4_init_57 : decode cX4_init 57 = .ok (.invokespecial 26, 3) := by decide +kernel
theorem dX4_init_60 : decode cX4_init 60 = .ok (.putfield 40, 3) := by decide +kernel
theorem dX4_init_63 : decode cX4_init 63 = .ok (.aload_n 0, 1) := by decide +kernel
theorem dX4_init_64 : decode cX4_init 64 = .ok (.iconst (-1), 1) := by decide +kernel
theorem dX4_init_65 : decode cX4_init 65 = .ok (.putfield 43, 3) := by decide +kernel
theorem dX4_init_68 : decode cX4_init 68 = .ok (.aload_n 0, 1) := by decide +kernel
theorem dX4_init_69 : decode cX4_init 69 = .ok (.iconst (-1), 1) := by decide +kernel
theorem dX4_init_70 : decode cX4_init 70 = .ok (.putfield 47, 3) := by decide +kernel
theorem dX4_init_73 : decode cX4_init 73 = .ok (.iconst 0, 1) := by decide +kernel
theorem dX4_init_74 : decode cX4_init 74 = .ok (.istore_n 1, 1) := by decide +kernel
theorem dX4_init_75 : decode cX4_init 75 = .ok (.iload_n 1, 1) := by decide +kernel
theorem dX4_init_76 : decode cX4_init 76 = .ok (.bipush 9, 2) := by decide +kernel
theorem dX4_init_78 : decode cX4_init 78 = .ok (.if_icmp .ge 30, 3) := by decide +kernel
theorem dX4_init_81 : decode cX4_init 81 = .ok (.iload_n 1, 1) := by decide +kernel
theorem dX4_init_82 : decode cX4_init 82 = .ok (.getstatic 50, 3) := by decide +kernel
theorem dX4_init_85 : decode cX4_init 85 = .ok (.arraylength, 1) := by decide +kernel
theorem dX4_init_86 : decode cX4_init 86 = .ok (.if_icmp .ge 22, 3) := by decide +kernel
theorem dX4_init_89 : decode cX4_init 89 = .ok (.aload_n 0, 1) := by decide +kernel
theorem dX4_init_90 : decode cX4_init 90 = .ok (.getfield 40, 3) := by decide +kernel
theorem dX4_init_93 : decode cX4_init 93 = .ok (.iload_n 1, 1) := by decide +kernel
theorem dX4_init_94 : decode cX4_init 94 = .ok (.getstatic 50, 3) := by decide +kernel
theorem dX4_init_97 : decode cX4_init 97 = .ok (.iload_n 1, 1) := by decide +kernel
theorem dX4_init_98 : decode cX4_init 98 = .ok (.iaload, 1) := by decide +kernel
theorem dX4_init_99 : decode cX4_init 99 = .ok (.invokevirtual 54, 3) := by decide +kernel
theorem dX4_init_102 : decode cX4_init 102 = .ok (.iinc 1 1, 3) := by decide +kernel
theorem dX4_init_105 : decode cX4_init 105 = .ok (.goto (-30), 3) := by decide +kernel
theorem dX4_init_108 : decode cX4_init 108 = .ok (.aload_n 0, 1) := by decide +kernel
theorem dX4_init_109 : decode cX4_init 109 = .ok (.getfield 36, 3) := by decide +kernel
theorem dX4_init_112 : decode cX4_init 112 = .ok (.invokevirtual 58, 3) := by decide +kernel
theorem dX4_init_115 : decode cX4_init 115 = .ok (.return_, 1) := by decide +kernel
theorem dX4_takeOver_0 : decode cX4_takeOver 0 = .ok (.aload_n 1, 1) := by decide +kernel
theorem dX4_takeOver_1 : decode cX4_takeOver 1 = .ok (.ifnonnull 4, 3) := by decide +kernel
theorem dX4_takeOver_4 : decode cX4_takeOver 4 = .ok (.return_, 1) := by decide +kernel
theorem dX4_takeOver_5 : decode cX4_takeOver 5 = .ok (.iconst 0, 1) := by decide +kernel
theorem dX4_takeOver_6 : decode cX4_takeOver 6 = .ok (.istore_n 2, 1) := by decide +kernel
theorem dX4_takeOver_7 : decode cX4_takeOver 7 = .ok (.iload_n 2, 1) := by decide +kernel
theorem dX4_takeOver_8 : decode cX4_takeOver 8 = .ok (.aload_n 0, 1) := by decide +kernel
theorem dX4_takeOver_9 : decode cX4_takeOver 9 = .ok (.getfield 20, 3) := by decide +kernel
theorem dX4_takeOver_12 : decode cX4_takeOver 12 = .ok (.arraylength, 1) := by decide +kernel
theorem dX4_takeOver_13 : decode cX4_takeOver 13 = .ok (.if_icmp .ge 30, 3) := by decide +kernel
theorem dX4_takeOver_16 : decode cX4_takeOver 16 = .ok (.iload_n 2, 1) := by decide +kernel
theorem dX4_takeOver_17 : decode cX4_takeOver 17 = .ok (.aload_n 1, 1) := by decide +kernel
theorem dX4_takeOver_18 : decode cX4_takeOver 18 = .ok (.getfield 20, 3) := by decide +kernel
theorem dX4_takeOver_21 : decode cX4_takeOver 21 = .ok (.arraylength, 1) := by decide +kernel
theorem dX4_takeOver_22 : decode cX4_takeOver 22 = .ok (.if_icmp .ge 21, 3) := by decide +kernel
theorem dX4_takeOver_25 : decode cX4_takeOver 25 = .ok (.aload_n 0, 1) := by decide +kernel
theorem dX4_takeOver_26 : decode cX4_takeOver 26 = .ok (.getfield 20, 3) := by decide +kernel
theorem dX4_takeOver_29 : decode cX4_takeOver 29 = .ok (.iload_n 2, 1) := by decide +kernel
theorem dX4_takeOver_30 : decode cX4_takeOver 30 = .ok (.aload_n 1, 1) := by decide +kernel
theorem dX4_takeOver_31 : decode cX4_takeOver 31 = .ok (.getfield 20, 3) := by decide +kernel
theorem dX4_takeOver_34 : decode cX4_takeOver 34 = .ok (.iload_n 2, 1) := by decide +kernel
theorem dX4_takeOver_35 : decode cX4_takeOver 35 = .ok (.aaload, 1) := by decide +kernel
theorem dX4_takeOver_36 : decode cX4_takeOver 36 = .ok (.aastore, 1) := by decide +kernel
theorem dX4_takeOver_37 : decode cX4_takeOver 37 = .ok (.iinc 2 1, 3) := by decide +kernel
theorem dX4_takeOver_40 : decode cX4_takeOver 40 = .ok (.goto (-33), 3) := by decide +kernel
theorem dX4_takeOver_43 : decode cX4_takeOver 43 = .ok (.aload_n 0, 1) := by decide +kernel
theorem dX4_takeOver_44 : decode cX4_takeOver 44 = .ok (.getfield 29, 3) := by decide +kernel
theorem dX4_takeOver_47 : decode cX4_takeOver 47 = .ok (.aload_n 1, 1) := by decide +kernel
theorem dX4_takeOver_48 : decode cX4_takeOver 48 = .ok (.getfield 29, 3) := by decide +kernel
theorem dX4_takeOver_51 : decode cX4_takeOver 51 = .ok (.invokevirtual 61, 3) := by decide +kernel
theorem dX4_takeOver_54 : decode cX4_takeOver 54 = .ok (.aload_n 0, 1) := by decide +kernel
theorem dX4_takeOver_55 : decode cX4_takeOver 55 = .ok (.aload_n 1, 1) := by decide +kernel
theorem dX4_takeOver_56 : decode cX4_takeOver 56 = .ok (.getfield 65, 3) := by decide +kernel
theorem dX4_takeOver_59 : decode cX4_takeOver 59 = .ok (.putfield 65, 3) := by decide +kernel
theorem dX4_takeOver_62 : decode cX4_takeOver 62 = .ok (.aload_n 0, 1) := by decide +kernel
theorem dX4_takeOver_63 : decode cX4_takeOver 63 = .ok (.getfield 36, 3) := by decide +kernel
theorem dX4_takeOver_66 : decode cX4_takeOver 66 = .ok (.aload_n 1, 1) := by decide +kernel
theorem dX4_takeOver_67 : decode cX4_takeOver 67 = .ok (.getfield 36, 3) := by decide +kernel
theorem dX4_takeOver_70 : decode cX4_takeOver 70 = .ok (.invokevirtual 68, 3) := by decide +kernel
theorem dX4_takeOver_73 : decode cX4_takeOver 73 = .ok (.aload_n 0, 1) := by decide +kernel
theorem dX4_takeOver_74 : decode cX4_takeOver 74 = .ok (.getfield 40, 3) := by decide +kernel
theorem dX4_takeOver_77 : decode cX4_takeOver 77 = .ok (.aload_n 1, 1) := by decide +kernel
theorem dX4_takeOver_78 : decode cX4_takeOver 78 = .ok (.getfield 40, 3) := by decide +kernel
theorem dX4_takeOver_81 : decode cX4_takeOver 81 = .ok (.invokevirtual 61, 3) := by decide +kernel
theorem dX4_takeOver_84 : decode cX4_takeOver 84 = .ok (.aload_n 0, 1) := by decide +kernel
theorem dX4_takeOver_85 : decode cX4_takeOver 85 = .ok (.aload_n 1, 1) := by decide +kernel
theorem dX4_takeOver_86 : decode cX4_takeOver 86 = .ok (.getfield 43, 3) := by decide +kernel
theorem dX4_takeOver_89 : decode cX4_takeOver 89 = .ok (.putfield 43, 3) := by decide +kernel
theorem dX4_takeOver_92 : decode cX4_takeOver 92 = .ok (.aload_n 0, 1) := by decide +kernel
theorem dX4_takeOver_93 : decode cX4_takeOver 93 = .ok (.aload_n 1, 1) := by decide +kernel
theorem dX4_takeOver_94 : decode cX4_takeOver 94 = .ok (.getfield 47, 3) := by decide +kernel
theorem dX4_takeOver_97 : decode cX4_takeOver 97 = .ok (.putfield 47, 3) := by decide +kernel
theorem dX4_takeOver_100 : decode cX4_takeOver 100 = .ok (.return_, 1) := by decide +kernel
theorem dX4_sheetAt_0 : decode cX4_sheetAt 0 = .ok (.iload_n 1, 1) := by decide +kernel
theorem dX4_sheetAt_1 : decode cX4_sheetAt 1 = .ok (.ifCond .lt 21, 3) := by decide +kernel
theorem dX4_sheetAt_4 : decode cX4_sheetAt 4 = .ok (.iload_n 1, 1) := by decide +kernel
theorem dX4_sheetAt_5 : decode cX4_sheetAt 5 = .ok (.aload_n 0, 1) := by decide +kernel
theorem dX4_sheetAt_6 : decode cX4_sheetAt 6 = .ok (.getfield 20, 3) := by decide +kernel
theorem dX4_sheetAt_9 : decode cX4_sheetAt 9 = .ok (.arraylength, 1) := by decide +kernel
theorem dX4_sheetAt_10 : decode cX4_sheetAt 10 = .ok (.if_icmp .ge 12, 3) := by decide +kernel
theorem dX4_sheetAt_13 : decode cX4_sheetAt 13 = .ok (.aload_n 0, 1) := by decide +kernel
theorem dX4_sheetAt_14 : decode cX4_sheetAt 14 = .ok (.getfield 20, 3) := by decide +kernel
theorem dX4_sheetAt_17 : decode cX4_sheetAt 17 = .ok (.iload_n 1, 1) := by decide +kernel
theorem dX4_sheetAt_18 : decode cX4_sheetAt 18 = .ok (.aaload, 1) := by decide +kernel
theorem dX4_sheetAt_19 : decode cX4_sheetAt 19 = .ok (.goto 7, 3) := by decide +kernel
theorem dX4_sheetAt_22 : decode cX4_sheetAt 22 = .ok (.aload_n 0, 1) := by decide +kernel
theorem dX4_sheetAt_23 : decode cX4_sheetAt 23 = .ok (.getfield 14, 3) := by decide +kernel
theorem dX4_sheetAt_26 : decode cX4_sheetAt 26 = .ok (.astore_n 2, 1) := by decide +kernel
theorem dX4_sheetAt_27 : decode cX4_sheetAt 27 = .ok (.aload_n 2, 1) := by decide +kernel
theorem dX4_sheetAt_28 : decode cX4_sheetAt 28 = .ok (.ifnonnull 10, 3) := by decide +kernel
theorem dX4_sheetAt_31 : decode cX4_sheetAt 31 = .ok (.aload_n 0, 1) := by decide +kernel
theorem dX4_sheetAt_32 : decode cX4_sheetAt 32 = .ok (.getfield 14, 3) := by decide +kernel
theorem dX4_sheetAt_35 : decode cX4_sheetAt 35 = .ok (.goto 4, 3) := by decide +kernel
theorem dX4_sheetAt_38 : decode cX4_sheetAt 38 = .ok (.aload_n 2, 1) := by decide +kernel
theorem dX4_sheetAt_39 : decode cX4_sheetAt 39 = .ok (.areturn, 1) := by decide +kernel
theorem dX4_putDown_0 : decode cX4_putDown 0 = .ok (.aload_n 0, 1) := by decide +kernel
theorem dX4_putDown_1 : decode cX4_putDown 1 = .ok (.getfield 65, 3) := by decide +kernel
theorem dX4_putDown_4 : decode cX4_putDown 4 = .ok (.ifCond .lt 15, 3) := by decide +kernel
theorem dX4_putDown_7 : decode cX4_putDown 7 = .ok (.aload_n 0, 1) := by decide +kernel
theorem dX4_putDown_8 : decode cX4_putDown 8 = .ok (.getfield 65, 3) := by decide +kernel
theorem dX4_putDown_11 : decode cX4_putDown 11 = .ok (.aload_n 0, 1) := by decide +kernel
theorem dX4_putDown_12 : decode cX4_putDown 12 = .ok (.getfield 20, 3) := by decide +kernel
theorem dX4_putDown_15 : decode cX4_putDown 15 = .ok (.arraylength, 1) := by decide +kernel
theorem dX4_putDown_16 : decode cX4_putDown 16 = .ok (.if_icmp .lt 5, 3) := by decide +kernel
theorem dX4_putDown_19 : decode cX4_putDown 19 = .ok (.iconst (-1), 1) := by decide +kernel
theorem dX4_putDown_20 : decode cX4_putDown 20 = .ok (.ireturn, 1) := by decide +kernel
theorem dX4_putDown_21 : decode cX4_putDown 21 = .ok (.aload_n 0, 1) := by decide +kernel
theorem dX4_putDown_22 : decode cX4_putDown 22 = .ok (.getfield 20, 3) := by decide +kernel
theorem dX4_putDown_25 : decode cX4_putDown 25 = .ok (.aload_n 0, 1) := by decide +kernel
theorem dX4_putDown_26 : decode cX4_putDown 26 = .ok (.getfield 65, 3) := by decide +kernel
theorem dX4_putDown_29 : decode cX4_putDown 29 = .ok (.aload_n 1, 1) := by decide +kernel
theorem dX4_putDown_30 : decode cX4_putDown 30 = .ok (.aastore, 1) := by decide +kernel
theorem dX4_putDown_31 : decode cX4_putDown 31 = .ok (.aload_n 0, 1) := by decide +kernel
theorem dX4_putDown_32 : decode cX4_putDown 32 = .ok (.getfield 29, 3) := by decide +kernel
theorem dX4_putDown_35 : decode cX4_putDown 35 = .ok (.aload_n 0, 1) := by decide +kernel
theorem dX4_putDown_36 : decode cX4_putDown 36 = .ok (.getfield 65, 3) := by decide +kernel
theorem dX4_putDown_39 : decode cX4_putDown 39 = .ok (.iload_n 2, 1) := by decide +kernel
theorem dX4_putDown_40 : decode cX4_putDown 40 = .ok (.invokevirtual 54, 3) := by decide +kernel
theorem dX4_putDown_43 : decode cX4_putDown 43 = .ok (.aload_n 0, 1) := by decide +kernel
theorem dX4_putDown_44 : decode cX4_putDown 44 = .ok (.dup, 1) := by decide +kernel
theorem dX4_putDown_45 : decode cX4_putDown 45 = .ok (.getfield 65, 3) := by decide +kernel
theorem dX4_putDown_48 : decode cX4_putDown 48 = .ok (.iconst 1, 1) := by decide +kernel
theorem dX4_putDown_49 : decode cX4_putDown 49 = .ok (.iadd, 1) := by decide +kernel
theorem dX4_putDown_50 : decode cX4_putDown 50 = .ok (.putfield 65, 3) := by decide +kernel
theorem dX4_putDown_53 : decode cX4_putDown 53 = .ok (.aload_n 0, 1) := by decide +kernel
theorem dX4_putDown_54 : decode cX4_putDown 54 = .ok (.getfield 65, 3) := by decide +kernel
theorem dX4_putDown_57 : decode cX4_putDown 57 = .ok (.iconst 1, 1) := by decide +kernel
theorem dX4_putDown_58 : decode cX4_putDown 58 = .ok (.isub, 1) := by decide +kernel
theorem dX4_putDown_59 : decode cX4_putDown 59 = .ok (.ireturn, 1) := by decide +kernel
theorem dX4_takeAway_0 : decode cX4_takeAway 0 = .ok (.iload_n 1, 1) := by decide +kernel
theorem dX4_takeAway_1 : decode cX4_takeAway 1 = .ok (.ifCond .lt 11, 3) := by decide +kernel
theorem dX4_takeAway_4 : decode cX4_takeAway 4 = .ok (.iload_n 1, 1) := by decide +kernel
theorem dX4_takeAway_5 : decode cX4_takeAway 5 = .ok (.aload_n 0, 1) := by decide +kernel
theorem dX4_takeAway_6 : decode cX4_takeAway 6 = .ok (.getfield 65, 3) := by decide +kernel
theorem dX4_takeAway_9 : decode cX4_takeAway 9 = .ok (.if_icmp .lt 5, 3) := by decide +kernel
theorem dX4_takeAway_12 : decode cX4_takeAway 12 = .ok (.iconst 0, 1) := by decide +kernel
theorem dX4_takeAway_13 : decode cX4_takeAway 13 = .ok (.ireturn, 1) := by decide +kernel
theorem dX4_takeAway_14 : decode cX4_takeAway 14 = .ok (.iload_n 1, 1) := by decide +kernel
theorem dX4_takeAway_15 : decode cX4_takeAway 15 = .ok (.istore_n 2, 1) := by decide +kernel
theorem dX4_takeAway_16 : decode cX4_takeAway 16 = .ok (.iload_n 2, 1) := by decide +kernel
theorem dX4_takeAway_17 : decode cX4_takeAway 17 = .ok (.aload_n 0, 1) := by decide +kernel
theorem dX4_takeAway_18 : decode cX4_takeAway 18 = .ok (.getfield 20, 3) := by decide +kernel
theorem dX4_takeAway_21 : decode cX4_takeAway 21 = .ok (.arraylength, 1) := by decide +kernel
theorem dX4_takeAway_22 : decode cX4_takeAway 22 = .ok (.iconst 1, 1) := by decide +kernel
theorem dX4_takeAway_23 : decode cX4_takeAway 23 = .ok (.isub, 1) := by decide +kernel
theorem dX4_takeAway_24 : decode cX4_takeAway 24 = .ok (.if_icmp .ge 23, 3) := by decide +kernel
theorem dX4_takeAway_27 : decode cX4_takeAway 27 = .ok (.aload_n 0, 1) := by decide +kernel
theorem dX4_takeAway_28 : decode cX4_takeAway 28 = .ok (.getfield 20, 3) := by decide +kernel
theorem dX4_takeAway_31 : decode cX4_takeAway 31 = .ok (.iload_n 2, 1) := by decide +kernel
theorem dX4_takeAway_32 : decode cX4_takeAway 32 = .ok (.aload_n 0, 1) := by decide +kernel
theorem dX4_takeAway_33 : decode cX4_takeAway 33 = .ok (.getfield 20, 3) := by decide +kernel
theorem dX4_takeAway_36 : decode cX4_takeAway 36 = .ok (.iload_n 2, 1) := by decide +kernel
theorem dX4_takeAway_37 : decode cX4_takeAway 37 = .ok (.iconst 1, 1) := by decide +kernel
theorem dX4_takeAway_38 : decode cX4_takeAway 38 = .ok (.iadd, 1) := by decide +kernel
theorem dX4_takeAway_39 : decode cX4_takeAway 39 = .ok (.aaload, 1) := by decide +kernel
theorem dX4_takeAway_40 : decode cX4_takeAway 40 = .ok (.aastore, 1) := by decide +kernel
theorem dX4_takeAway_41 : decode cX4_takeAway 41 = .ok (.iinc 2 1, 3) := by decide +kernel
theorem dX4_takeAway_44 : decode cX4_takeAway 44 = .ok (.goto (-28), 3) := by decide +kernel
theorem dX4_takeAway_47 : decode cX4_takeAway 47 = .ok (.aload_n 0, 1) := by decide +kernel
theorem dX4_takeAway_48 : decode cX4_takeAway 48 = .ok (.getfield 29, 3) := by decide +kernel
theorem dX4_takeAway_51 : decode cX4_takeAway 51 = .ok (.iload_n 1, 1) := by decide +kernel
theorem dX4_takeAway_52 : decode cX4_takeAway 52 = .ok (.invokevirtual 72, 3) := by decide +kernel
theorem dX4_takeAway_55 : decode cX4_takeAway 55 = .ok (.aload_n 0, 1) := by decide +kernel
theorem dX4_takeAway_56 : decode cX4_takeAway 56 = .ok (.dup, 1) := by decide +kernel
theorem dX4_takeAway_57 : decode cX4_takeAway 57 = .ok (.getfield 65, 3) := by decide +kernel
theorem dX4_takeAway_60 : decode cX4_takeAway 60 = .ok (.iconst 1, 1) := by decide +kernel
theorem dX4_takeAway_61 : decode cX4_takeAway 61 = .ok (.isub, 1) := by decide +kernel
theorem dX4_takeAway_62 : decode cX4_takeAway 62 = .ok (.putfield 65, 3) := by decide +kernel
theorem dX4_takeAway_65 : decode cX4_takeAway 65 = .ok (.aload_n 0, 1) := by decide +kernel
theorem dX4_takeAway_66 : decode cX4_takeAway 66 = .ok (.getfield 36, 3) := by decide +kernel
theorem dX4_takeAway_69 : decode cX4_takeAway 69 = .ok (.iload_n 1, 1) := by decide +kernel
theorem dX4_takeAway_70 : decode cX4_takeAway 70 = .ok (.invokevirtual 75, 3) := by decide +kernel
theorem dX4_takeAway_73 : decode cX4_takeAway 73 = .ok (.ireturn, 1) := by decide +kernel
theorem dX4_growOlder_0 : decode cX4_growOlder 0 = .ok (.iconst (-1), 1) := by decide +kernel
theorem dX4_growOlder_1 : decode cX4_growOlder 1 = .ok (.istore_n 2, 1) := by decide +kernel
theorem dX4_growOlder_2 : decode cX4_growOlder 2 = .ok (.iconst 0, 1) := by decide +kernel
theorem dX4_growOlder_3 : decode cX4_growOlder 3 = .ok (.istore_n 3, 1) := by decide +kernel
theorem dX4_growOlder_4 : decode cX4_growOlder 4 = .ok (.iload_n 3, 1) := by decide +kernel
theorem dX4_growOlder_5 : decode cX4_growOlder 5 = .ok (.aload_n 0, 1) := by decide +kernel
theorem dX4_growOlder_6 : decode cX4_growOlder 6 = .ok (.getfield 65, 3) := by decide +kernel
theorem dX4_growOlder_9 : decode cX4_growOlder 9 = .ok (.if_icmp .ge 45, 3) := by decide +kernel
theorem dX4_growOlder_12 : decode cX4_growOlder 12 = .ok (.aload_n 0, 1) := by decide +kernel
theorem dX4_growOlder_13 : decode cX4_growOlder 13 = .ok (.getfield 29, 3) := by decide +kernel
theorem dX4_growOlder_16 : decode cX4_growOlder 16 = .ok (.iload_n 3, 1) := by decide +kernel
theorem dX4_growOlder_17 : decode cX4_growOlder 17 = .ok (.bipush 99, 2) := by decide +kernel
theorem dX4_growOlder_19 : decode cX4_growOlder 19 = .ok (.aload_n 0, 1) := by decide +kernel
theorem dX4_growOlder_20 : decode cX4_growOlder 20 = .ok (.getfield 29, 3) := by decide +kernel
theorem dX4_growOlder_23 : decode cX4_growOlder 23 = .ok (.iload_n 3, 1) := by decide +kernel
theorem dX4_growOlder_24 : decode cX4_growOlder 24 = .ok (.invokevirtual 79, 3) := by decide +kernel
theorem dX4_growOlder_27 : decode cX4_growOlder 27 = .ok (.iload_n 1, 1) := by decide +kernel
theorem dX4_growOlder_28 : decode cX4_growOlder 28 = .ok (.iadd, 1) := by decide +kernel
theorem dX4_growOlder_29 : decode cX4_growOlder 29 = .ok (.invokestatic 82, 3) := by decide +kernel
theorem dX4_growOlder_32 : decode cX4_growOlder 32 = .ok (.invokevirtual 54, 3) := by decide +kernel
theorem dX4_growOlder_35 : decode cX4_growOlder 35 = .ok (.iload_n 2, 1) := by decide +kernel
theorem dX4_growOlder_36 : decode cX4_growOlder 36 = .ok (.aload_n 0, 1) := by decide +kernel
theorem dX4_growOlder_37 : decode cX4_growOlder 37 = .ok (.getfield 29, 3) := by decide +kernel
theorem dX4_growOlder_40 : decode cX4_growOlder 40 = .ok (.iload_n 3, 1) := by decide +kernel
theorem dX4_growOlder_41 : decode cX4_growOlder 41 = .ok (.invokevirtual 79, 3) := by decide +kernel
theorem dX4_growOlder_44 : decode cX4_growOlder 44 = .ok (.invokestatic 88, 3) := by decide +kernel
theorem dX4_growOlder_47 : decode cX4_growOlder 47 = .ok (.istore_n 2, 1) := by decide +kernel
theorem dX4_growOlder_48 : decode cX4_growOlder 48 = .ok (.iinc 3 1, 3) := by decide +kernel
theorem dX4_growOlder_51 : decode cX4_growOlder 51 = .ok (.goto (-47), 3) := by decide +kernel
theorem dX4_growOlder_54 : decode cX4_growOlder 54 = .ok (.iload_n 2, 1) := by decide +kernel
theorem dX4_growOlder_55 : decode cX4_growOlder 55 = .ok (.ireturn, 1) := by decide +kernel
theorem dX4_numberOfSheet_0 : decode cX4_numberOfSheet 0 = .ok (.iload_n 2, 1) := by decide +kernel
theorem dX4_numberOfSheet_1 : decode cX4_numberOfSheet 1 = .ok (.tableswitch 99 0 5 #[39, 48, 57, 67, 81, 90], 39) := by decide +kernel
theorem dX4_numberOfSheet_40 : decode cX4_numberOfSheet 40 = .ok (.aload_n 0, 1) := by decide +kernel
theorem dX4_numberOfSheet_41 : decode cX4_numberOfSheet 41 = .ok (.iload_n 1, 1) := by decide +kernel
theorem dX4_numberOfSheet_42 : decode cX4_numberOfSheet 42 = .ok (.invokevirtual 91, 3) := by decide +kernel
theorem dX4_numberOfSheet_45 : decode cX4_numberOfSheet 45 = .ok (.getfield 95, 3) := by decide +kernel
theorem dX4_numberOfSheet_48 : decode cX4_numberOfSheet 48 = .ok (.ireturn, 1) := by decide +kernel
theorem dX4_numberOfSheet_49 : decode cX4_numberOfSheet 49 = .ok (.aload_n 0, 1) := by decide +kernel
theorem dX4_numberOfSheet_50 : decode cX4_numberOfSheet 50 = .ok (.getfield 29, 3) := by decide +kernel
theorem dX4_numberOfSheet_53 : decode cX4_numberOfSheet 53 = .ok (.iload_n 1, 1) := by decide +kernel
theorem dX4_numberOfSheet_54 : decode cX4_numberOfSheet 54 = .ok (.invokevirtual 79, 3) := by decide +kernel
theorem dX4_numberOfSheet_57 : decode cX4_numberOfSheet 57 = .ok (.ireturn, 1) := by decide +kernel
theorem dX4_numberOfSheet_58 : decode cX4_numberOfSheet 58 = .ok (.aload_n 0, 1) := by decide +kernel
theorem dX4_numberOfSheet_59 : decode cX4_numberOfSheet 59 = .ok (.iload_n 1, 1) := by decide +kernel
theorem dX4_numberOfSheet_60 : decode cX4_numberOfSheet 60 = .ok (.invokevirtual 91, 3) := by decide +kernel
theorem dX4_numberOfSheet_63 : decode cX4_numberOfSheet 63 = .ok (.iconst 2, 1) := by decide +kernel
theorem dX4_numberOfSheet_64 : decode cX4_numberOfSheet 64 = .ok (.invokevirtual 98, 3) := by decide +kernel
theorem dX4_numberOfSheet_67 : decode cX4_numberOfSheet 67 = .ok (.ireturn, 1) := by decide +kernel
theorem dX4_numberOfSheet_68 : decode cX4_numberOfSheet 68 = .ok (.aload_n 0, 1) := by decide +kernel
theorem dX4_numberOfSheet_69 : decode cX4_numberOfSheet 69 = .ok (.iload_n 1, 1) := by decide +kernel
theorem dX4_numberOfSheet_70 : decode cX4_numberOfSheet 70 = .ok (.invokevirtual 101, 3) := by decide +kernel
theorem dX4_numberOfSheet_73 : decode cX4_numberOfSheet 73 = .ok (.ifCond .eq 7, 3) := by decide +kernel
theorem dX4_numberOfSheet_76 : decode cX4_numberOfSheet 76 = .ok (.iconst 1, 1) := by decide +kernel
theorem dX4_numberOfSheet_77 : decode cX4_numberOfSheet 77 = .ok (.goto 4, 3) := by decide +kernel
theorem dX4_numberOfSheet_80 : decode cX4_numberOfSheet 80 = .ok (.iconst 0, 1) := by decide +kernel
theorem dX4_numberOfSheet_81 : decode cX4_numberOfSheet 81 = .ok (.ireturn, 1) := by decide +kernel
theorem dX4_numberOfSheet_82 : decode cX4_numberOfSheet 82 = .ok (.aload_n 0, 1) := by decide +kernel
theorem dX4_numberOfSheet_83 : decode cX4_numberOfSheet 83 = .ok (.getfield 36, 3) := by decide +kernel
theorem dX4_numberOfSheet_86 : decode cX4_numberOfSheet 86 = .ok (.iload_n 1, 1) := by decide +kernel
theorem dX4_numberOfSheet_87 : decode cX4_numberOfSheet 87 = .ok (.invokevirtual 105, 3) := by decide +kernel
theorem dX4_numberOfSheet_90 : decode cX4_numberOfSheet 90 = .ok (.ireturn, 1) := by decide +kernel
theorem dX4_numberOfSheet_91 : decode cX4_numberOfSheet 91 = .ok (.aload_n 0, 1) := by decide +kernel
theorem dX4_numberOfSheet_92 : decode cX4_numberOfSheet 92 = .ok (.getfield 36, 3) := by decide +kernel
theorem dX4_numberOfSheet_95 : decode cX4_numberOfSheet 95 = .ok (.iload_n 1, 1) := by decide +kernel
theorem dX4_numberOfSheet_96 : decode cX4_numberOfSheet 96 = .ok (.invokevirtual 108, 3) := by decide +kernel
theorem dX4_numberOfSheet_99 : decode cX4_numberOfSheet 99 = .ok (.ireturn, 1) := by decide +kernel
theorem dX4_numberOfSheet_100 : decode cX4_numberOfSheet 100 = .ok (.aload_n 0, 1) := by decide +kernel
theorem dX4_numberOfSheet_101 : decode cX4_numberOfSheet 101 = .ok (.aload_n 0, 1) := by decide +kernel
theorem dX4_numberOfSheet_102 : decode cX4_numberOfSheet 102 = .ok (.getfield 29, 3) := by decide +kernel
theorem dX4_numberOfSheet_105 : decode cX4_numberOfSheet 105 = .ok (.iload_n 1, 1) := by decide +kernel
theorem dX4_numberOfSheet_106 : decode cX4_numberOfSheet 106 = .ok (.invokevirtual 79, 3) := by decide +kernel
theorem dX4_numberOfSheet_109 : decode cX4_numberOfSheet 109 = .ok (.invokevirtual 111, 3) := by decide +kernel
theorem dX4_numberOfSheet_112 : decode cX4_numberOfSheet 112 = .ok (.ifCond .eq 7, 3) := by decide +kernel
theorem dX4_numberOfSheet_115 : decode cX4_numberOfSheet 115 = .ok (.iconst 1, 1) := by decide +kernel
theorem dX4_numberOfSheet_116 : decode cX4_numberOfSheet 116 = .ok (.goto 4, 3) := by decide +kernel
theorem dX4_numberOfSheet_119 : decode cX4_numberOfSheet 119 = .ok (.iconst 0, 1) := by decide +kernel
theorem dX4_numberOfSheet_120 : decode cX4_numberOfSheet 120 = .ok (.ireturn, 1) := by decide +kernel
theorem dX4_numberOfAll_0 : decode cX4_numberOfAll 0 = .ok (.iload_n 1, 1) := by decide +kernel
theorem dX4_numberOfAll_1 : decode cX4_numberOfAll 1 = .ok (.tableswitch 87 0 6 #[43, 48, 56, 64, 69, 74, 79], 43) := by decide +kernel
theorem dX4_numberOfAll_44 : decode cX4_numberOfAll 44 = .ok (.aload_n 0, 1) := by decide +kernel
theorem dX4_numberOfAll_45 : decode cX4_numberOfAll 45 = .ok (.getfield 65, 3) := by decide +kernel
theorem dX4_numberOfAll_48 : decode cX4_numberOfAll 48 = .ok (.ireturn, 1) := by decide +kernel
theorem dX4_numberOfAll_49 : decode cX4_numberOfAll 49 = .ok (.aload_n 0, 1) := by decide +kernel
theorem dX4_numberOfAll_50 : decode cX4_numberOfAll 50 = .ok (.getfield 36, 3) := by decide +kernel
theorem dX4_numberOfAll_53 : decode cX4_numberOfAll 53 = .ok (.getfield 114, 3) := by decide +kernel
theorem dX4_numberOfAll_56 : decode cX4_numberOfAll 56 = .ok (.ireturn, 1) := by decide +kernel
theorem dX4_numberOfAll_57 : decode cX4_numberOfAll 57 = .ok (.aload_n 0, 1) := by decide +kernel
theorem dX4_numberOfAll_58 : decode cX4_numberOfAll 58 = .ok (.getfield 36, 3) := by decide +kernel
theorem dX4_numberOfAll_61 : decode cX4_numberOfAll 61 = .ok (.invokevirtual 115, 3) := by decide +kernel
theorem dX4_numberOfAll_64 : decode cX4_numberOfAll 64 = .ok (.ireturn, 1) := by decide +kernel
theorem dX4_numberOfAll_65 : decode cX4_numberOfAll 65 = .ok (.aload_n 0, 1) := by decide +kernel
theorem dX4_numberOfAll_66 : decode cX4_numberOfAll 66 = .ok (.invokevirtual 119, 3) := by decide +kernel
theorem dX4_numberOfAll_69 : decode cX4_numberOfAll 69 = .ok (.ireturn, 1) := by decide +kernel
theorem dX4_numberOfAll_70 : decode cX4_numberOfAll 70 = .ok (.aload_n 0, 1) := by decide +kernel
theorem dX4_numberOfAll_71 : decode cX4_numberOfAll 71 = .ok (.invokevirtual 122, 3) := by decide +kernel
theorem dX4_numberOfAll_74 : decode cX4_numberOfAll 74 = .ok (.ireturn, 1) := by decide +kernel
theorem dX4_numberOfAll_75 : decode cX4_numberOfAll 75 = .ok (.aload_n 0, 1) := by decide +kernel
theorem dX4_numberOfAll_76 : decode cX4_numberOfAll 76 = .ok (.invokevirtual 125, 3) := by decide +kernel
theorem dX4_numberOfAll_79 : decode cX4_numberOfAll 79 = .ok (.ireturn, 1) := by decide +kernel
theorem dX4_numberOfAll_80 : decode cX4_numberOfAll 80 = .ok (.aload_n 0, 1) := by decide +kernel
theorem dX4_numberOfAll_81 : decode cX4_numberOfAll 81 = .ok (.getfield 36, 3) := by decide +kernel
theorem dX4_numberOfAll_84 : decode cX4_numberOfAll 84 = .ok (.getfield 128, 3) := by decide +kernel
theorem dX4_numberOfAll_87 : decode cX4_numberOfAll 87 = .ok (.ireturn, 1) := by decide +kernel
theorem dX4_numberOfAll_88 : decode cX4_numberOfAll 88 = .ok (.aload_n 0, 1) := by decide +kernel
theorem dX4_numberOfAll_89 : decode cX4_numberOfAll 89 = .ok (.invokevirtual 131, 3) := by decide +kernel
theorem dX4_numberOfAll_92 : decode cX4_numberOfAll 92 = .ok (.ireturn, 1) := by decide +kernel
theorem dX4_comparison_0 : decode cX4_comparison 0 = .ok (.iload_n 3, 1) := by decide +kernel
theorem dX4_comparison_1 : decode cX4_comparison 1 = .ok (.tableswitch 81 0 3 #[31, 39, 47, 66], 31) := by decide +kernel
theorem dX4_comparison_32 : decode cX4_comparison 32 = .ok (.aload_n 0, 1) := by decide +kernel
theorem dX4_comparison_33 : decode cX4_comparison 33 = .ok (.iload_n 1, 1) := by decide +kernel
theorem dX4_comparison_34 : decode cX4_comparison 34 = .ok (.iload_n 2, 1) := by decide +kernel
theorem dX4_comparison_35 : decode cX4_comparison 35 = .ok (.iconst 0, 1) := by decide +kernel
theorem dX4_comparison_36 : decode cX4_comparison 36 = .ok (.invokevirtual 134, 3) := by decide +kernel
theorem dX4_comparison_39 : decode cX4_comparison 39 = .ok (.ireturn, 1) := by decide +kernel
theorem dX4_comparison_40 : decode cX4_comparison 40 = .ok (.aload_n 0, 1) := by decide +kernel
theorem dX4_comparison_41 : decode cX4_comparison 41 = .ok (.iload_n 1, 1) := by decide +kernel
theorem dX4_comparison_42 : decode cX4_comparison 42 = .ok (.iload_n 2, 1) := by decide +kernel
theorem dX4_comparison_43 : decode cX4_comparison 43 = .ok (.iconst 0, 1) := by decide +kernel
theorem dX4_comparison_44 : decode cX4_comparison 44 = .ok (.invokevirtual 138, 3) := by decide +kernel
theorem dX4_comparison_47 : decode cX4_comparison 47 = .ok (.ireturn, 1) := by decide +kernel
theorem dX4_comparison_48 : decode cX4_comparison 48 = .ok (.aload_n 0, 1) := by decide +kernel
theorem dX4_comparison_49 : decode cX4_comparison 49 = .ok (.getfield 36, 3) := by decide +kernel
theorem dX4_comparison_52 : decode cX4_comparison 52 = .ok (.iload_n 1, 1) := by decide +kernel
theorem dX4_comparison_53 : decode cX4_comparison 53 = .ok (.iload_n 2, 1) := by decide +kernel
theorem dX4_comparison_54 : decode cX4_comparison 54 = .ok (.iconst (-1), 1) := by decide +kernel
theorem dX4_comparison_55 : decode cX4_comparison 55 = .ok (.invokevirtual 141, 3) := by decide +kernel
theorem dX4_comparison_58 : decode cX4_comparison 58 = .ok (.ifCond .eq 7, 3) := by decide +kernel
theorem dX4_comparison_61 : decode cX4_comparison 61 = .ok (.iconst 1, 1) := by decide +kernel
theorem dX4_comparison_62 : decode cX4_comparison 62 = .ok (.goto 4, 3) := by decide +kernel
theorem dX4_comparison_65 : decode cX4_comparison 65 = .ok (.iconst 0, 1) := by decide +kernel
theorem dX4_comparison_66 : decode cX4_comparison 66 = .ok (.ireturn, 1) := by decide +kernel
theorem dX4_comparison_67 : decode cX4_comparison 67 = .ok (.aload_n 0, 1) := by decide +kernel
theorem dX4_comparison_68 : decode cX4_comparison 68 = .ok (.iload_n 1, 1) := by decide +kernel
theorem dX4_comparison_69 : decode cX4_comparison 69 = .ok (.iload_n 2, 1) := by decide +kernel
theorem dX4_comparison_70 : decode cX4_comparison 70 = .ok (.invokevirtual 145, 3) := by decide +kernel
theorem dX4_comparison_73 : decode cX4_comparison 73 = .ok (.ifCond .eq 7, 3) := by decide +kernel
theorem dX4_comparison_76 : decode cX4_comparison 76 = .ok (.iconst 1, 1) := by decide +kernel
theorem dX4_comparison_77 : decode cX4_comparison 77 = .ok (.goto 4, 3) := by decide +kernel
theorem dX4_comparison_80 : decode cX4_comparison 80 = .ok (.iconst 0, 1) := by decide +kernel
theorem dX4_comparison_81 : decode cX4_comparison 81 = .ok (.ireturn, 1) := by decide +kernel
theorem dX4_comparison_82 : decode cX4_comparison 82 = .ok (.aload_n 0, 1) := by decide +kernel
theorem dX4_comparison_83 : decode cX4_comparison 83 = .ok (.getfield 36, 3) := by decide +kernel
theorem dX4_comparison_86 : decode cX4_comparison 86 = .ok (.iload_n 1, 1) := by decide +kernel
theorem dX4_comparison_87 : decode cX4_comparison 87 = .ok (.iload_n 2, 1) := by decide +kernel
theorem dX4_comparison_88 : decode cX4_comparison 88 = .ok (.invokevirtual 149, 3) := by decide +kernel
theorem dX4_comparison_91 : decode cX4_comparison 91 = .ok (.ireturn, 1) := by decide +kernel
theorem dX4_reasonAgainst_0 : decode cX4_reasonAgainst 0 = .ok (.iload_n 1, 1) := by decide +kernel
theorem dX4_reasonAgainst_1 : decode cX4_reasonAgainst 1 = .ok (.iload_n 2, 1) := by decide +kernel
theorem dX4_reasonAgainst_2 : decode cX4_reasonAgainst 2 = .ok (.if_icmp .ne 5, 3) := by decide +kernel
theorem dX4_reasonAgainst_5 : decode cX4_reasonAgainst 5 = .ok (.iconst 1, 1) := by decide +kernel
theorem dX4_reasonAgainst_6 : decode cX4_reasonAgainst 6 = .ok (.ireturn, 1) := by decide +kernel
theorem dX4_reasonAgainst_7 : decode cX4_reasonAgainst 7 = .ok (.aload_n 0, 1) := by decide +kernel
theorem dX4_reasonAgainst_8 : decode cX4_reasonAgainst 8 = .ok (.getfield 36, 3) := by decide +kernel
theorem dX4_reasonAgainst_11 : decode cX4_reasonAgainst 11 = .ok (.iload_n 1, 1) := by decide +kernel
theorem dX4_reasonAgainst_12 : decode cX4_reasonAgainst 12 = .ok (.iload_n 2, 1) := by decide +kernel
theorem dX4_reasonAgainst_13 : decode cX4_reasonAgainst 13 = .ok (.invokevirtual 152, 3) := by decide +kernel
theorem dX4_reasonAgainst_16 : decode cX4_reasonAgainst 16 = .ok (.iconst (-1), 1) := by decide +kernel
theorem dX4_reasonAgainst_17 : decode cX4_reasonAgainst 17 = .ok (.if_icmp .eq 5, 3) := by decide +kernel
theorem dX4_reasonAgainst_20 : decode cX4_reasonAgainst 20 = .ok (.iconst 2, 1) := by decide +kernel
theorem dX4_reasonAgainst_21 : decode cX4_reasonAgainst 21 = .ok (.ireturn, 1) := by decide +kernel
theorem dX4_reasonAgainst_22 : decode cX4_reasonAgainst 22 = .ok (.iload_n 3, 1) := by decide +kernel
theorem dX4_reasonAgainst_23 : decode cX4_reasonAgainst 23 = .ok (.ifCond .ne 19, 3) := by decide +kernel
theorem dX4_reasonAgainst_26 : decode cX4_reasonAgainst 26 = .ok (.aload_n 0, 1) := by decide +kernel
theorem dX4_reasonAgainst_27 : decode cX4_reasonAgainst 27 = .ok (.iload_n 1, 1) := by decide +kernel
theorem dX4_reasonAgainst_28 : decode cX4_reasonAgainst 28 = .ok (.iload_n 2, 1) := by decide +kernel
theorem dX4_reasonAgainst_29 : decode cX4_reasonAgainst 29 = .ok (.invokevirtual 145, 3) := by decide +kernel
theorem dX4_reasonAgainst_32 : decode cX4_reasonAgainst 32 = .ok (.ifCond .eq 8, 3) := by decide +kernel
theorem dX4_reasonAgainst_35 : decode cX4_reasonAgainst 35 = .ok (.bipush 6, 2) := by decide +kernel
theorem dX4_reasonAgainst_37 : decode cX4_reasonAgainst 37 = .ok (.goto 4, 3) := by decide +kernel
theorem dX4_reasonAgainst_40 : decode cX4_reasonAgainst 40 = .ok (.iconst 0, 1) := by decide +kernel
theorem dX4_reasonAgainst_41 : decode cX4_reasonAgainst 41 = .ok (.ireturn, 1) := by decide +kernel
theorem dX4_reasonAgainst_42 : decode cX4_reasonAgainst 42 = .ok (.aload_n 0, 1) := by decide +kernel
theorem dX4_reasonAgainst_43 : decode cX4_reasonAgainst 43 = .ok (.iload_n 1, 1) := by decide +kernel
theorem dX4_reasonAgainst_44 : decode cX4_reasonAgainst 44 = .ok (.invokevirtual 101, 3) := by decide +kernel
theorem dX4_reasonAgainst_47 : decode cX4_reasonAgainst 47 = .ok (.ifCond .ne 11, 3) := by decide +kernel
theorem dX4_reasonAgainst_50 : decode cX4_reasonAgainst 50 = .ok (.aload_n 0, 1) := by decide +kernel
theorem dX4_reasonAgainst_51 : decode cX4_reasonAgainst 51 = .ok (.iload_n 2, 1) := by decide +kernel
theorem dX4_reasonAgainst_52 : decode cX4_reasonAgainst 52 = .ok (.invokevirtual 101, 3) := by decide +kernel
theorem dX4_reasonAgainst_55 : decode cX4_reasonAgainst 55 = .ok (.ifCond .eq 5, 3) := by decide +kernel
theorem dX4_reasonAgainst_58 : decode cX4_reasonAgainst 58 = .ok (.iconst 3, 1) := by decide +kernel
theorem dX4_reasonAgainst_59 : decode cX4_reasonAgainst 59 = .ok (.ireturn, 1) := by decide +kernel
theorem dX4_reasonAgainst_60 : decode cX4_reasonAgainst 60 = .ok (.aload_n 0, 1) := by decide +kernel
theorem dX4_reasonAgainst_61 : decode cX4_reasonAgainst 61 = .ok (.iload_n 1, 1) := by decide +kernel
theorem dX4_reasonAgainst_62 : decode cX4_reasonAgainst 62 = .ok (.iload_n 2, 1) := by decide +kernel
theorem dX4_reasonAgainst_63 : decode cX4_reasonAgainst 63 = .ok (.iconst 0, 1) := by decide +kernel
theorem dX4_reasonAgainst_64 : decode cX4_reasonAgainst 64 = .ok (.invokevirtual 134, 3) := by decide +kernel
theorem dX4_reasonAgainst_67 : decode cX4_reasonAgainst 67 = .ok (.aload_n 0, 1) := by decide +kernel
theorem dX4_reasonAgainst_68 : decode cX4_reasonAgainst 68 = .ok (.getfield 40, 3) := by decide +kernel
theorem dX4_reasonAgainst_71 : decode cX4_reasonAgainst 71 = .ok (.bipush 8, 2) := by decide +kernel
theorem dX4_reasonAgainst_73 : decode cX4_reasonAgainst 73 = .ok (.invokevirtual 79, 3) := by decide +kernel
theorem dX4_reasonAgainst_76 : decode cX4_reasonAgainst 76 = .ok (.if_icmp .ge 5, 3) := by decide +kernel
theorem dX4_reasonAgainst_79 : decode cX4_reasonAgainst 79 = .ok (.iconst 4, 1) := by decide +kernel
theorem dX4_reasonAgainst_80 : decode cX4_reasonAgainst 80 = .ok (.ireturn, 1) := by decide +kernel
theorem dX4_reasonAgainst_81 : decode cX4_reasonAgainst 81 = .ok (.aload_n 0, 1) := by decide +kernel
theorem dX4_reasonAgainst_82 : decode cX4_reasonAgainst 82 = .ok (.getfield 36, 3) := by decide +kernel
theorem dX4_reasonAgainst_85 : decode cX4_reasonAgainst 85 = .ok (.iload_n 1, 1) := by decide +kernel
theorem dX4_reasonAgainst_86 : decode cX4_reasonAgainst 86 = .ok (.iload_n 2, 1) := by decide +kernel
theorem dX4_reasonAgainst_87 : decode cX4_reasonAgainst 87 = .ok (.invokevirtual 155, 3) := by decide +kernel
theorem dX4_reasonAgainst_90 : decode cX4_reasonAgainst 90 = .ok (.ifCond .eq 7, 3) := by decide +kernel
theorem dX4_reasonAgainst_93 : decode cX4_reasonAgainst 93 = .ok (.iconst 5, 1) := by decide +kernel
theorem dX4_reasonAgainst_94 : decode cX4_reasonAgainst 94 = .ok (.goto 4, 3) := by decide +kernel
theorem dX4_reasonAgainst_97 : decode cX4_reasonAgainst 97 = .ok (.iconst 0, 1) := by decide +kernel
theorem dX4_reasonAgainst_98 : decode cX4_reasonAgainst 98 = .ok (.ireturn, 1) := by decide +kernel
theorem dX4_likeness_0 : decode cX4_likeness 0 = .ok (.aload_n 0, 1) := by decide +kernel
theorem dX4_likeness_1 : decode cX4_likeness 1 = .ok (.iload_n 1, 1) := by decide +kernel
theorem dX4_likeness_2 : decode cX4_likeness 2 = .ok (.iload_n 2, 1) := by decide +kernel
theorem dX4_likeness_3 : decode cX4_likeness 3 = .ok (.iload_n 3, 1) := by decide +kernel
theorem dX4_likeness_4 : decode cX4_likeness 4 = .ok (.invokevirtual 138, 3) := by decide +kernel
theorem dX4_likeness_7 : decode cX4_likeness 7 = .ok (.invokestatic 158, 3) := by decide +kernel
theorem dX4_likeness_10 : decode cX4_likeness 10 = .ok (.ireturn, 1) := by decide +kernel
theorem dX4_neededTolerance_0 : decode cX4_neededTolerance 0 = .ok (.aload_n 0, 1) := by decide +kernel
theorem dX4_neededTolerance_1 : decode cX4_neededTolerance 1 = .ok (.getfield 29, 3) := by decide +kernel
theorem dX4_neededTolerance_4 : decode cX4_neededTolerance 4 = .ok (.iload_n 1, 1) := by decide +kernel
theorem dX4_neededTolerance_5 : decode cX4_neededTolerance 5 = .ok (.invokevirtual 79, 3) := by decide +kernel
theorem dX4_neededTolerance_8 : decode cX4_neededTolerance 8 = .ok (.istore 4, 2) := by decide +kernel
theorem dX4_neededTolerance_10 : decode cX4_neededTolerance 10 = .ok (.aload_n 0, 1) := by decide +kernel
theorem dX4_neededTolerance_11 : decode cX4_neededTolerance 11 = .ok (.getfield 29, 3) := by decide +kernel
theorem dX4_neededTolerance_14 : decode cX4_neededTolerance 14 = .ok (.iload_n 2, 1) := by decide +kernel
theorem dX4_neededTolerance_15 : decode cX4_neededTolerance 15 = .ok (.invokevirtual 79, 3) := by decide +kernel
theorem dX4_neededTolerance_18 : decode cX4_neededTolerance 18 = .ok (.istore 5, 2) := by decide +kernel
theorem dX4_neededTolerance_20 : decode cX4_neededTolerance 20 = .ok (.aload_n 0, 1) := by decide +kernel
theorem dX4_neededTolerance_21 : decode cX4_neededTolerance 21 = .ok (.iload 4, 2) := by decide +kernel
theorem dX4_neededTolerance_23 : decode cX4_neededTolerance 23 = .ok (.iload 5, 2) := by decide +kernel
theorem dX4_neededTolerance_25 : decode cX4_neededTolerance 25 = .ok (.invokestatic 88, 3) := by decide +kernel
theorem dX4_neededTolerance_28 : decode cX4_neededTolerance 28 = .ok (.invokevirtual 111, 3) := by decide +kernel
theorem dX4_neededTolerance_31 : decode cX4_neededTolerance 31 = .ok (.iconst 1, 1) := by decide +kernel
theorem dX4_neededTolerance_32 : decode cX4_neededTolerance 32 = .ok (.iload_n 3, 1) := by decide +kernel
theorem dX4_neededTolerance_33 : decode cX4_neededTolerance 33 = .ok (.ishl, 1) := by decide +kernel
theorem dX4_neededTolerance_34 : decode cX4_neededTolerance 34 = .ok (.iand, 1) := by decide +kernel
theorem dX4_neededTolerance_35 : decode cX4_neededTolerance 35 = .ok (.ifCond .eq 5, 3) := by decide +kernel
theorem dX4_neededTolerance_38 : decode cX4_neededTolerance 38 = .ok (.iconst (-1), 1) := by decide +kernel
theorem dX4_neededTolerance_39 : decode cX4_neededTolerance 39 = .ok (.ireturn, 1) := by decide +kernel
theorem dX4_neededTolerance_40 : decode cX4_neededTolerance 40 = .ok (.aload_n 0, 1) := by decide +kernel
theorem dX4_neededTolerance_41 : decode cX4_neededTolerance 41 = .ok (.iload_n 1, 1) := by decide +kernel
theorem dX4_neededTolerance_42 : decode cX4_neededTolerance 42 = .ok (.invokevirtual 91, 3) := by decide +kernel
theorem dX4_neededTolerance_45 : decode cX4_neededTolerance 45 = .ok (.getfield 163, 3) := by decide +kernel
theorem dX4_neededTolerance_48 : decode cX4_neededTolerance 48 = .ok (.iload_n 3, 1) := by decide +kernel
theorem dX4_neededTolerance_49 : decode cX4_neededTolerance 49 = .ok (.invokevirtual 79, 3) := by decide +kernel
theorem dX4_neededTolerance_52 : decode cX4_neededTolerance 52 = .ok (.aload_n 0, 1) := by decide +kernel
theorem dX4_neededTolerance_53 : decode cX4_neededTolerance 53 = .ok (.iload_n 2, 1) := by decide +kernel
theorem dX4_neededTolerance_54 : decode cX4_neededTolerance 54 = .ok (.invokevirtual 91, 3) := by decide +kernel
theorem dX4_neededTolerance_57 : decode cX4_neededTolerance 57 = .ok (.getfield 163, 3) := by decide +kernel
theorem dX4_neededTolerance_60 : decode cX4_neededTolerance 60 = .ok (.iload_n 3, 1) := by decide +kernel
theorem dX4_neededTolerance_61 : decode cX4_neededTolerance 61 = .ok (.invokevirtual 79, 3) := by decide +kernel
theorem dX4_neededTolerance_64 : decode cX4_neededTolerance 64 = .ok (.isub, 1) := by decide +kernel
theorem dX4_neededTolerance_65 : decode cX4_neededTolerance 65 = .ok (.invokestatic 166, 3) := by decide +kernel
theorem dX4_neededTolerance_68 : decode cX4_neededTolerance 68 = .ok (.istore 6, 2) := by decide +kernel
theorem dX4_neededTolerance_70 : decode cX4_neededTolerance 70 = .ok (.iconst 0, 1) := by decide +kernel
theorem dX4_neededTolerance_71 : decode cX4_neededTolerance 71 = .ok (.iload 6, 2) := by decide +kernel
theorem dX4_neededTolerance_73 : decode cX4_neededTolerance 73 = .ok (.iload 4, 2) := by decide +kernel
theorem dX4_neededTolerance_75 : decode cX4_neededTolerance 75 = .ok (.iload 5, 2) := by decide +kernel
theorem dX4_neededTolerance_77 : decode cX4_neededTolerance 77 = .ok (.invokestatic 169, 3) := by decide +kernel
theorem dX4_neededTolerance_80 : decode cX4_neededTolerance 80 = .ok (.isub, 1) := by decide +kernel
theorem dX4_neededTolerance_81 : decode cX4_neededTolerance 81 = .ok (.invokestatic 88, 3) := by decide +kernel
theorem dX4_neededTolerance_84 : decode cX4_neededTolerance 84 = .ok (.ireturn, 1) := by decide +kernel
theorem dX4_mostAlike_0 : decode cX4_mostAlike 0 = .ok (.iconst (-1), 1) := by decide +kernel
theorem dX4_mostAlike_1 : decode cX4_mostAlike 1 = .ok (.istore_n 2, 1) := by decide +kernel
theorem dX4_mostAlike_2 : decode cX4_mostAlike 2 = .ok (.iconst (-1), 1) := by decide +kernel
theorem dX4_mostAlike_3 : decode cX4_mostAlike 3 = .ok (.istore_n 3, 1) := by decide +kernel
theorem dX4_mostAlike_4 : decode cX4_mostAlike 4 = .ok (.iconst 0, 1) := by decide +kernel
theorem dX4_mostAlike_5 : decode cX4_mostAlike 5 = .ok (.istore 4, 2) := by decide +kernel
theorem dX4_mostAlike_7 : decode cX4_mostAlike 7 = .ok (.iload 4, 2) := by decide +kernel
theorem dX4_mostAlike_9 : decode cX4_mostAlike 9 = .ok (.aload_n 0, 1) := by decide +kernel
theorem dX4_mostAlike_10 : decode cX4_mostAlike 10 = .ok (.getfield 65, 3) := by decide +kernel
theorem dX4_mostAlike_13 : decode cX4_mostAlike 13 = .ok (.if_icmp .ge 41, 3) := by decide +kernel
theorem dX4_mostAlike_16 : decode cX4_mostAlike 16 = .ok (.iload 4, 2) := by decide +kernel
theorem dX4_mostAlike_18 : decode cX4_mostAlike 18 = .ok (.iload_n 1, 1) := by decide +kernel
theorem dX4_mostAlike_19 : decode cX4_mostAlike 19 = .ok (.if_icmp .ne 7, 3) := by decide +kernel
theorem dX4_mostAlike_22 : decode cX4_mostAlike 22 = .ok (.iconst (-1), 1) := by decide +kernel
theorem dX4_mostAlike_23 : decode cX4_mostAlike 23 = .ok (.goto 11, 3) := by decide +kernel
theorem dX4_mostAlike_26 : decode cX4_mostAlike 26 = .ok (.aload_n 0, 1) := by decide +kernel
theorem dX4_mostAlike_27 : decode cX4_mostAlike 27 = .ok (.iload_n 1, 1) := by decide +kernel
theorem dX4_mostAlike_28 : decode cX4_mostAlike 28 = .ok (.iload 4, 2) := by decide +kernel
theorem dX4_mostAlike_30 : decode cX4_mostAlike 30 = .ok (.iconst 0, 1) := by decide +kernel
theorem dX4_mostAlike_31 : decode cX4_mostAlike 31 = .ok (.invokevirtual 134, 3) := by decide +kernel
theorem dX4_mostAlike_34 : decode cX4_mostAlike 34 = .ok (.istore 5, 2) := by decide +kernel
theorem dX4_mostAlike_36 : decode cX4_mostAlike 36 = .ok (.iload 5, 2) := by decide +kernel
theorem dX4_mostAlike_38 : decode cX4_mostAlike 38 = .ok (.iload_n 3, 1) := by decide +kernel
theorem dX4_mostAlike_39 : decode cX4_mostAlike 39 = .ok (.if_icmp .le 9, 3) := by decide +kernel
theorem dX4_mostAlike_42 : decode cX4_mostAlike 42 = .ok (.iload 5, 2) := by decide +kernel
theorem dX4_mostAlike_44 : decode cX4_mostAlike 44 = .ok (.istore_n 3, 1) := by decide +kernel
theorem dX4_mostAlike_45 : decode cX4_mostAlike 45 = .ok (.iload 4, 2) := by decide +kernel
theorem dX4_mostAlike_47 : decode cX4_mostAlike 47 = .ok (.istore_n 2, 1) := by decide +kernel
theorem dX4_mostAlike_48 : decode cX4_mostAlike 48 = .ok (.iinc 4 1, 3) := by decide +kernel
theorem dX4_mostAlike_51 : decode cX4_mostAlike 51 = .ok (.goto (-44), 3) := by decide +kernel
theorem dX4_mostAlike_54 : decode cX4_mostAlike 54 = .ok (.iload_n 2, 1) := by decide +kernel
theorem dX4_mostAlike_55 : decode cX4_mostAlike 55 = .ok (.ireturn, 1) := by decide +kernel
theorem dX4_hands_0 : decode cX4_hands 0 = .ok (.iconst 0, 1) := by decide +kernel
theorem dX4_hands_1 : decode cX4_hands 1 = .ok (.istore_n 1, 1) := by decide +kernel
theorem dX4_hands_2 : decode cX4_hands 2 = .ok (.iconst 0, 1) := by decide +kernel
theorem dX4_hands_3 : decode cX4_hands 3 = .ok (.istore_n 2, 1) := by decide +kernel
theorem dX4_hands_4 : decode cX4_hands 4 = .ok (.iload_n 2, 1) := by decide +kernel
theorem dX4_hands_5 : decode cX4_hands 5 = .ok (.aload_n 0, 1) := by decide +kernel
theorem dX4_hands_6 : decode cX4_hands 6 = .ok (.getfield 65, 3) := by decide +kernel
theorem dX4_hands_9 : decode cX4_hands 9 = .ok (.if_icmp .ge 29, 3) := by decide +kernel
theorem dX4_hands_12 : decode cX4_hands 12 = .ok (.iload_n 1, 1) := by decide +kernel
theorem dX4_hands_13 : decode cX4_hands 13 = .ok (.aload_n 0, 1) := by decide +kernel
theorem dX4_hands_14 : decode cX4_hands 14 = .ok (.getfield 36, 3) := by decide +kernel
theorem dX4_hands_17 : decode cX4_hands 17 = .ok (.iload_n 2, 1) := by decide +kernel
theorem dX4_hands_18 : decode cX4_hands 18 = .ok (.invokevirtual 105, 3) := by decide +kernel
theorem dX4_hands_21 : decode cX4_hands 21 = .ok (.iload_n 2, 1) := by decide +kernel
theorem dX4_hands_22 : decode cX4_hands 22 = .ok (.if_icmp .ne 7, 3) := by decide +kernel
theorem dX4_hands_25 : decode cX4_hands 25 = .ok (.iconst 1, 1) := by decide +kernel
theorem dX4_hands_26 : decode cX4_hands 26 = .ok (.goto 4, 3) := by decide +kernel
theorem dX4_hands_29 : decode cX4_hands 29 = .ok (.iconst 0, 1) := by decide +kernel
theorem dX4_hands_30 : decode cX4_hands 30 = .ok (.iadd, 1) := by decide +kernel
theorem dX4_hands_31 : decode cX4_hands 31 = .ok (.istore_n 1, 1) := by decide +kernel
theorem dX4_hands_32 : decode cX4_hands 32 = .ok (.iinc 2 1, 3) := by decide +kernel
theorem dX4_hands_35 : decode cX4_hands 35 = .ok (.goto (-31), 3) := by decide +kernel
theorem dX4_hands_38 : decode cX4_hands 38 = .ok (.iload_n 1, 1) := by decide +kernel
theorem dX4_hands_39 : decode cX4_hands 39 = .ok (.ireturn, 1) := by decide +kernel
theorem dX4_shareOfHands_0 : decode cX4_shareOfHands 0 = .ok (.iconst 0, 1) := by decide +kernel
theorem dX4_shareOfHands_1 : decode cX4_shareOfHands 1 = .ok (.istore_n 1, 1) := by decide +kernel
theorem dX4_shareOfHands_2 : decode cX4_shareOfHands 2 = .ok (.iconst 0, 1) := by decide +kernel
theorem dX4_shareOfHands_3 : decode cX4_shareOfHands 3 = .ok (.istore_n 2, 1) := by decide +kernel
theorem dX4_shareOfHands_4 : decode cX4_shareOfHands 4 = .ok (.iconst 0, 1) := by decide +kernel
theorem dX4_shareOfHands_5 : decode cX4_shareOfHands 5 = .ok (.istore_n 3, 1) := by decide +kernel
theorem dX4_shareOfHands_6 : decode cX4_shareOfHands 6 = .ok (.iload_n 3, 1) := by decide +kernel
theorem dX4_shareOfHands_7 : decode cX4_shareOfHands 7 = .ok (.aload_n 0, 1) := by decide +kernel
theorem dX4_shareOfHands_8 : decode cX4_shareOfHands 8 = .ok (.getfield 65, 3) := by decide +kernel
theorem dX4_shareOfHands_11 : decode cX4_shareOfHands 11 = .ok (.if_icmp .ge 53, 3) := by decide +kernel
theorem dX4_shareOfHands_14 : decode cX4_shareOfHands 14 = .ok (.iload_n 3, 1) := by decide +kernel
theorem dX4_shareOfHands_15 : decode cX4_shareOfHands 15 = .ok (.iconst 1, 1) := by decide +kernel
theorem dX4_shareOfHands_16 : decode cX4_shareOfHands 16 = .ok (.iadd, 1) := by decide +kernel
theorem dX4_shareOfHands_17 : decode cX4_shareOfHands 17 = .ok (.istore 4, 2) := by decide +kernel
theorem dX4_shareOfHands_19 : decode cX4_shareOfHands 19 = .ok (.iload 4, 2) := by decide +kernel
theorem dX4_shareOfHands_21 : decode cX4_shareOfHands 21 = .ok (.aload_n 0, 1) := by decide +kernel
theorem dX4_shareOfHands_22 : decode cX4_shareOfHands 22 = .ok (.getfield 65, 3) := by decide +kernel
theorem dX4_shareOfHands_25 : decode cX4_shareOfHands 25 = .ok (.if_icmp .ge 33, 3) := by decide +kernel
theorem dX4_shareOfHands_28 : decode cX4_shareOfHands 28 = .ok (.aload_n 0, 1) := by decide +kernel
theorem dX4_shareOfHands_29 : decode cX4_shareOfHands 29 = .ok (.iload_n 3, 1) := by decide +kernel
theorem dX4_shareOfHands_30 : decode cX4_shareOfHands 30 = .ok (.iload 4, 2) := by decide +kernel
theorem dX4_shareOfHands_32 : decode cX4_shareOfHands 32 = .ok (.invokevirtual 145, 3) := by decide +kernel
theorem dX4_shareOfHands_35 : decode cX4_shareOfHands 35 = .ok (.ifCond .eq 17, 3) := by decide +kernel
theorem dX4_shareOfHands_38 : decode cX4_shareOfHands 38 = .ok (.iinc 1 1, 3) := by decide +kernel
theorem dX4_shareOfHands_41 : decode cX4_shareOfHands 41 = .ok (.iload_n 2, 1) := by decide +kernel
theorem dX4_shareOfHands_42 : decode cX4_shareOfHands 42 = .ok (.aload_n 0, 1) := by decide +kernel
theorem dX4_shareOfHands_43 : decode cX4_shareOfHands 43 = .ok (.iload_n 3, 1) := by decide +kernel
theorem dX4_shareOfHands_44 : decode cX4_shareOfHands 44 = .ok (.iload 4, 2) := by decide +kernel
theorem dX4_shareOfHands_46 : decode cX4_shareOfHands 46 = .ok (.iconst 0, 1) := by decide +kernel
theorem dX4_shareOfHands_47 : decode cX4_shareOfHands 47 = .ok (.invokevirtual 134, 3) := by decide +kernel
theorem dX4_shareOfHands_50 : decode cX4_shareOfHands 50 = .ok (.iadd, 1) := by decide +kernel
theorem dX4_shareOfHands_51 : decode cX4_shareOfHands 51 = .ok (.istore_n 2, 1) := by decide +kernel
theorem dX4_shareOfHands_52 : decode cX4_shareOfHands 52 = .ok (.iinc 4 1, 3) := by decide +kernel
theorem dX4_shareOfHands_55 : decode cX4_shareOfHands 55 = .ok (.goto (-36), 3) := by decide +kernel
theorem dX4_shareOfHands_58 : decode cX4_shareOfHands 58 = .ok (.iinc 3 1, 3) := by decide +kernel
theorem dX4_shareOfHands_61 : decode cX4_shareOfHands 61 = .ok (.goto (-55), 3) := by decide +kernel
theorem dX4_shareOfHands_64 : decode cX4_shareOfHands 64 = .ok (.iload_n 1, 1) := by decide +kernel
theorem dX4_shareOfHands_65 : decode cX4_shareOfHands 65 = .ok (.ifCond .gt 7, 3) := by decide +kernel
theorem dX4_shareOfHands_68 : decode cX4_shareOfHands 68 = .ok (.dconst 1, 1) := by decide +kernel
theorem dX4_shareOfHands_69 : decode cX4_shareOfHands 69 = .ok (.goto 11, 3) := by decide +kernel
theorem dX4_shareOfHands_72 : decode cX4_shareOfHands 72 = .ok (.iload_n 2, 1) := by decide +kernel
theorem dX4_shareOfHands_73 : decode cX4_shareOfHands 73 = .ok (.i2d, 1) := by decide +kernel
theorem dX4_shareOfHands_74 : decode cX4_shareOfHands 74 = .ok (.bipush 6, 2) := by decide +kernel
theorem dX4_shareOfHands_76 : decode cX4_shareOfHands 76 = .ok (.iload_n 1, 1) := by decide +kernel
theorem dX4_shareOfHands_77 : decode cX4_shareOfHands 77 = .ok (.imul, 1) := by decide +kernel
theorem dX4_shareOfHands_78 : decode cX4_shareOfHands 78 = .ok (.i2d, 1) := by decide +kernel
theorem dX4_shareOfHands_79 : decode cX4_shareOfHands 79 = .ok (.ddiv, 1) := by decide +kernel
theorem dX4_shareOfHands_80 : decode cX4_shareOfHands 80 = .ok (.dreturn, 1) := by decide +kernel
theorem dX4_agreeing_0 : decode cX4_agreeing 0 = .ok (.bipush 99, 2) := by decide +kernel
theorem dX4_agreeing_2 : decode cX4_agreeing 2 = .ok (.aload_n 0, 1) := by decide +kernel
theorem dX4_agreeing_3 : decode cX4_agreeing 3 = .ok (.getfield 29, 3) := by decide +kernel
theorem dX4_agreeing_6 : decode cX4_agreeing 6 = .ok (.iload_n 1, 1) := by decide +kernel
theorem dX4_agreeing_7 : decode cX4_agreeing 7 = .ok (.invokevirtual 79, 3) := by decide +kernel
theorem dX4_agreeing_10 : decode cX4_agreeing 10 = .ok (.iload_n 3, 1) := by decide +kernel
theorem dX4_agreeing_11 : decode cX4_agreeing 11 = .ok (.iadd, 1) := by decide +kernel
theorem dX4_agreeing_12 : decode cX4_agreeing 12 = .ok (.invokestatic 82, 3) := by decide +kernel
theorem dX4_agreeing_15 : decode cX4_agreeing 15 = .ok (.istore 4, 2) := by decide +kernel
theorem dX4_agreeing_17 : decode cX4_agreeing 17 = .ok (.bipush 99, 2) := by decide +kernel
theorem dX4_agreeing_19 : decode cX4_agreeing 19 = .ok (.aload_n 0, 1) := by decide +kernel
theorem dX4_agreeing_20 : decode cX4_agreeing 20 = .ok (.getfield 29, 3) := by decide +kernel
theorem dX4_agreeing_23 : decode cX4_agreeing 23 = .ok (.iload_n 2, 1) := by decide +kernel
theorem dX4_agreeing_24 : decode cX4_agreeing 24 = .ok (.invokevirtual 79, 3) := by decide +kernel
theorem dX4_agreeing_27 : decode cX4_agreeing 27 = .ok (.iload_n 3, 1) := by decide +kernel
theorem dX4_agreeing_28 : decode cX4_agreeing 28 = .ok (.iadd, 1) := by decide +kernel
theorem dX4_agreeing_29 : decode cX4_agreeing 29 = .ok (.invokestatic 82, 3) := by decide +kernel
theorem dX4_agreeing_32 : decode cX4_agreeing 32 = .ok (.istore 5, 2) := by decide +kernel
theorem dX4_agreeing_34 : decode cX4_agreeing 34 = .ok (.iload 4, 2) := by decide +kernel
theorem dX4_agreeing_36 : decode cX4_agreeing 36 = .ok (.iload 5, 2) := by decide +kernel
theorem dX4_agreeing_38 : decode cX4_agreeing 38 = .ok (.invokestatic 169, 3) := by decide +kernel
theorem dX4_agreeing_41 : decode cX4_agreeing 41 = .ok (.istore 6, 2) := by decide +kernel
theorem dX4_agreeing_43 : decode cX4_agreeing 43 = .ok (.aload_n 0, 1) := by decide +kernel
theorem dX4_agreeing_44 : decode cX4_agreeing 44 = .ok (.iload_n 1, 1) := by decide +kernel
theorem dX4_agreeing_45 : decode cX4_agreeing 45 = .ok (.invokevirtual 91, 3) := by decide +kernel
theorem dX4_agreeing_48 : decode cX4_agreeing 48 = .ok (.getfield 163, 3) := by decide +kernel
theorem dX4_agreeing_51 : decode cX4_agreeing 51 = .ok (.astore 7, 2) := by decide +kernel
theorem dX4_agreeing_53 : decode cX4_agreeing 53 = .ok (.aload_n 0, 1) := by decide +kernel
theorem dX4_agreeing_54 : decode cX4_agreeing 54 = .ok (.iload_n 2, 1) := by decide +kernel
theorem dX4_agreeing_55 : decode cX4_agreeing 55 = .ok (.invokevirtual 91, 3) := by decide +kernel
theorem dX4_agreeing_58 : decode cX4_agreeing 58 = .ok (.getfield 163, 3) := by decide +kernel
theorem dX4_agreeing_61 : decode cX4_agreeing 61 = .ok (.astore 8, 2) := by decide +kernel
theorem dX4_agreeing_63 : decode cX4_agreeing 63 = .ok (.iconst 0, 1) := by decide +kernel
theorem dX4_agreeing_64 : decode cX4_agreeing 64 = .ok (.istore 9, 2) := by decide +kernel
theorem dX4_agreeing_66 : decode cX4_agreeing 66 = .ok (.iconst 0, 1) := by decide +kernel
theorem dX4_agreeing_67 : decode cX4_agreeing 67 = .ok (.istore 10, 2) := by decide +kernel
theorem dX4_agreeing_69 : decode cX4_agreeing 69 = .ok (.iload 10, 2) := by decide +kernel
theorem dX4_agreeing_71 : decode cX4_agreeing 71 = .ok (.bipush 6, 2) := by decide +kernel
theorem dX4_agreeing_73 : decode cX4_agreeing 73 = .ok (.if_icmp .ge 51, 3) := by decide +kernel
theorem dX4_agreeing_76 : decode cX4_agreeing 76 = .ok (.aload 7, 2) := by decide +kernel
theorem dX4_agreeing_78 : decode cX4_agreeing 78 = .ok (.iload 10, 2) := by decide +kernel
theorem dX4_agreeing_80 : decode cX4_agreeing 80 = .ok (.invokevirtual 79, 3) := by decide +kernel
theorem dX4_agreeing_83 : decode cX4_agreeing 83 = .ok (.aload 8, 2) := by decide +kernel
theorem dX4_agreeing_85 : decode cX4_agreeing 85 = .ok (.iload 10, 2) := by decide +kernel
theorem dX4_agreeing_87 : decode cX4_agreeing 87 = .ok (.invokevirtual 79, 3) := by decide +kernel
theorem dX4_agreeing_90 : decode cX4_agreeing 90 = .ok (.isub, 1) := by decide +kernel
theorem dX4_agreeing_91 : decode cX4_agreeing 91 = .ok (.invokestatic 166, 3) := by decide +kernel
theorem dX4_agreeing_94 : decode cX4_agreeing 94 = .ok (.aload_n 0, 1) := by decide +kernel
theorem dX4_agreeing_95 : decode cX4_agreeing 95 = .ok (.getfield 40, 3) := by decide +kernel
theorem dX4_agreeing_98 : decode cX4_agreeing 98 = .ok (.iload 10, 2) := by decide +kernel
theorem dX4_agreeing_100 : decode cX4_agreeing 100 = .ok (.invokevirtual 79, 3) := by decide +kernel
theorem dX4_agreeing_103 : decode cX4_agreeing 103 = .ok (.iload 6, 2) := by decide +kernel
theorem dX4_agreeing_105 : decode cX4_agreeing 105 = .ok (.iadd, 1) := by decide +kernel
theorem dX4_agreeing_106 : decode cX4_agreeing 106 = .ok (.if_icmp .gt 12, 3) := by decide +kernel
theorem dX4_agreeing_109 : decode cX4_agreeing 109 = .ok (.iload 9, 2) := by decide +kernel
theorem dX4_agreeing_111 : decode cX4_agreeing 111 = .ok (.iconst 1, 1) := by decide +kernel
theorem dX4_agreeing_112 : decode cX4_agreeing 112 = .ok (.iload 10, 2) := by decide +kernel
theorem dX4_agreeing_114 : decode cX4_agreeing 114 = .ok (.ishl, 1) := by decide +kernel
theorem dX4_agreeing_115 : decode cX4_agreeing 115 = .ok (.ior, 1) := by decide +kernel
theorem dX4_agreeing_116 : decode cX4_agreeing 116 = .ok (.istore 9, 2) := by decide +kernel
theorem dX4_agreeing_118 : decode cX4_agreeing 118 = .ok (.iinc 10 1, 3) := by decide +kernel
theorem dX4_agreeing_121 : decode cX4_agreeing 121 = .ok (.goto (-52), 3) := by decide +kernel
theorem dX4_agreeing_124 : decode cX4_agreeing 124 = .ok (.iload 9, 2) := by decide +kernel
theorem dX4_agreeing_126 : decode cX4_agreeing 126 = .ok (.aload_n 0, 1) := by decide +kernel
theorem dX4_agreeing_127 : decode cX4_agreeing 127 = .ok (.iload 4, 2) := by decide +kernel
theorem dX4_agreeing_129 : decode cX4_agreeing 129 = .ok (.iload 5, 2) := by decide +kernel
theorem dX4_agreeing_131 : decode cX4_agreeing 131 = .ok (.invokestatic 88, 3) := by decide +kernel
theorem dX4_agreeing_134 : decode cX4_agreeing 134 = .ok (.invokevirtual 111, 3) := by decide +kernel
theorem dX4_agreeing_137 : decode cX4_agreeing 137 = .ok (.iconst (-1), 1) := by decide +kernel
theorem dX4_agreeing_138 : decode cX4_agreeing 138 = .ok (.ixor, 1) := by decide +kernel
theorem dX4_agreeing_139 : decode cX4_agreeing 139 = .ok (.iand, 1) := by decide +kernel
theorem dX4_agreeing_140 : decode cX4_agreeing 140 = .ok (.ireturn, 1) := by decide +kernel
theorem dX4_fadedMarks_0 : decode cX4_fadedMarks 0 = .ok (.iload_n 1, 1) := by decide +kernel
theorem dX4_fadedMarks_1 : decode cX4_fadedMarks 1 = .ok (.aload_n 0, 1) := by decide +kernel
theorem dX4_fadedMarks_2 : decode cX4_fadedMarks 2 = .ok (.getfield 40, 3) := by decide +kernel
theorem dX4_fadedMarks_5 : decode cX4_fadedMarks 5 = .ok (.bipush 6, 2) := by decide +kernel
theorem dX4_fadedMarks_7 : decode cX4_fadedMarks 7 = .ok (.invokevirtual 79, 3) := by decide +kernel
theorem dX4_fadedMarks_10 : decode cX4_fadedMarks 10 = .ok (.if_icmp .lt 8, 3) := by decide +kernel
theorem dX4_fadedMarks_13 : decode cX4_fadedMarks 13 = .ok (.bipush 12, 2) := by decide +kernel
theorem dX4_fadedMarks_15 : decode cX4_fadedMarks 15 = .ok (.goto 4, 3) := by decide +kernel
theorem dX4_fadedMarks_18 : decode cX4_fadedMarks 18 = .ok (.iconst 0, 1) := by decide +kernel
theorem dX4_fadedMarks_19 : decode cX4_fadedMarks 19 = .ok (.ireturn, 1) := by decide +kernel
theorem dX4_allowance_0 : decode cX4_allowance 0 = .ok (.iload_n 0, 1) := by decide +kernel
theorem dX4_allowance_1 : decode cX4_allowance 1 = .ok (.iload_n 1, 1) := by decide +kernel
theorem dX4_allowance_2 : decode cX4_allowance 2 = .ok (.isub, 1) := by decide +kernel
theorem dX4_allowance_3 : decode cX4_allowance 3 = .ok (.invokestatic 166, 3) := by decide +kernel
theorem dX4_allowance_6 : decode cX4_allowance 6 = .ok (.bipush 10, 2) := by decide +kernel
theorem dX4_allowance_8 : decode cX4_allowance 8 = .ok (.idiv, 1) := by decide +kernel
theorem dX4_allowance_9 : decode cX4_allowance 9 = .ok (.ireturn, 1) := by decide +kernel
theorem dX4_trembles_0 : decode cX4_trembles 0 = .ok (.aload_n 0, 1) := by decide +kernel
theorem dX4_trembles_1 : decode cX4_trembles 1 = .ok (.iload_n 1, 1) := by decide +kernel
theorem dX4_trembles_2 : decode cX4_trembles 2 = .ok (.invokevirtual 91, 3) := by decide +kernel
theorem dX4_trembles_5 : decode cX4_trembles 5 = .ok (.astore_n 2, 1) := by decide +kernel
theorem dX4_trembles_6 : decode cX4_trembles 6 = .ok (.aload_n 2, 1) := by decide +kernel
theorem dX4_trembles_7 : decode cX4_trembles 7 = .ok (.iconst 4, 1) := by decide +kernel
theorem dX4_trembles_8 : decode cX4_trembles 8 = .ok (.invokevirtual 98, 3) := by decide +kernel
theorem dX4_trembles_11 : decode cX4_trembles 11 = .ok (.aload_n 2, 1) := by decide +kernel
theorem dX4_trembles_12 : decode cX4_trembles 12 = .ok (.getfield 95, 3) := by decide +kernel
theorem dX4_trembles_15 : decode cX4_trembles 15 = .ok (.aload_n 0, 1) := by decide +kernel
theorem dX4_trembles_16 : decode cX4_trembles 16 = .ok (.getfield 40, 3) := by decide +kernel
theorem dX4_trembles_19 : decode cX4_trembles 19 = .ok (.bipush 7, 2) := by decide +kernel
theorem dX4_trembles_21 : decode cX4_trembles 21 = .ok (.invokevirtual 79, 3) := by decide +kernel
theorem dX4_trembles_24 : decode cX4_trembles 24 = .ok (.imul, 1) := by decide +kernel
theorem dX4_trembles_25 : decode cX4_trembles 25 = .ok (.if_icmp .le 7, 3) := by decide +kernel
theorem dX4_trembles_28 : decode cX4_trembles 28 = .ok (.iconst 1, 1) := by decide +kernel
theorem dX4_trembles_29 : decode cX4_trembles 29 = .ok (.goto 4, 3) := by decide +kernel
theorem dX4_trembles_32 : decode cX4_trembles 32 = .ok (.iconst 0, 1) := by decide +kernel
theorem dX4_trembles_33 : decode cX4_trembles 33 = .ok (.ireturn, 1) := by decide +kernel
theorem dX4_areOfOneHand_0 : decode cX4_areOfOneHand 0 = .ok (.aload_n 0, 1) := by decide +kernel
theorem dX4_areOfOneHand_1 : decode cX4_areOfOneHand 1 = .ok (.getfield 36, 3) := by decide +kernel
theorem dX4_areOfOneHand_4 : decode cX4_areOfOneHand 4 = .ok (.iload_n 1, 1) := by decide +kernel
theorem dX4_areOfOneHand_5 : decode cX4_areOfOneHand 5 = .ok (.invokevirtual 105, 3) := by decide +kernel
theorem dX4_areOfOneHand_8 : decode cX4_areOfOneHand 8 = .ok (.aload_n 0, 1) := by decide +kernel
theorem dX4_areOfOneHand_9 : decode cX4_areOfOneHand 9 = .ok (.getfield 36, 3) := by decide +kernel
theorem dX4_areOfOneHand_12 : decode cX4_areOfOneHand 12 = .ok (.iload_n 2, 1) := by decide +kernel
theorem dX4_areOfOneHand_13 : decode cX4_areOfOneHand 13 = .ok (.invokevirtual 105, 3) := by decide +kernel
theorem dX4_areOfOneHand_16 : decode cX4_areOfOneHand 16 = .ok (.if_icmp .ne 7, 3) := by decide +kernel
theorem dX4_areOfOneHand_19 : decode cX4_areOfOneHand 19 = .ok (.iconst 1, 1) := by decide +kernel
theorem dX4_areOfOneHand_20 : decode cX4_areOfOneHand 20 = .ok (.goto 4, 3) := by decide +kernel
theorem dX4_areOfOneHand_23 : decode cX4_areOfOneHand 23 = .ok (.iconst 0, 1) := by decide +kernel
theorem dX4_areOfOneHand_24 : decode cX4_areOfOneHand 24 = .ok (.ireturn, 1) := by decide +kernel
theorem dX4_mostOfAHand_0 : decode cX4_mostOfAHand 0 = .ok (.iconst 0, 1) := by decide +kernel
theorem dX4_mostOfAHand_1 : decode cX4_mostOfAHand 1 = .ok (.istore_n 1, 1) := by decide +kernel
theorem dX4_mostOfAHand_2 : decode cX4_mostOfAHand 2 = .ok (.iconst 0, 1) := by decide +kernel
theorem dX4_mostOfAHand_3 : decode cX4_mostOfAHand 3 = .ok (.istore_n 2, 1) := by decide +kernel
theorem dX4_mostOfAHand_4 : decode cX4_mostOfAHand 4 = .ok (.iload_n 2, 1) := by decide +kernel
theorem dX4_mostOfAHand_5 : decode cX4_mostOfAHand 5 = .ok (.aload_n 0, 1) := by decide +kernel
theorem dX4_mostOfAHand_6 : decode cX4_mostOfAHand 6 = .ok (.getfield 65, 3) := by decide +kernel
theorem dX4_mostOfAHand_9 : decode cX4_mostOfAHand 9 = .ok (.if_icmp .ge 53, 3) := by decide +kernel
theorem dX4_mostOfAHand_12 : decode cX4_mostOfAHand 12 = .ok (.iconst 0, 1) := by decide +kernel
theorem dX4_mostOfAHand_13 : decode cX4_mostOfAHand 13 = .ok (.istore_n 3, 1) := by decide +kernel
theorem dX4_mostOfAHand_14 : decode cX4_mostOfAHand 14 = .ok (.iconst 0, 1) := by decide +kernel
theorem dX4_mostOfAHand_15 : decode cX4_mostOfAHand 15 = .ok (.istore 4, 2) := by decide +kernel
theorem dX4_mostOfAHand_17 : decode cX4_mostOfAHand 17 = .ok (.iload 4, 2) := by decide +kernel
theorem dX4_mostOfAHand_19 : decode cX4_mostOfAHand 19 = .ok (.aload_n 0, 1) := by decide +kernel
theorem dX4_mostOfAHand_20 : decode cX4_mostOfAHand 20 = .ok (.getfield 65, 3) := by decide +kernel
theorem dX4_mostOfAHand_23 : decode cX4_mostOfAHand 23 = .ok (.if_icmp .ge 27, 3) := by decide +kernel
theorem dX4_mostOfAHand_26 : decode cX4_mostOfAHand 26 = .ok (.iload_n 3, 1) := by decide +kernel
theorem dX4_mostOfAHand_27 : decode cX4_mostOfAHand 27 = .ok (.aload_n 0, 1) := by decide +kernel
theorem dX4_mostOfAHand_28 : decode cX4_mostOfAHand 28 = .ok (.iload_n 2, 1) := by decide +kernel
theorem dX4_mostOfAHand_29 : decode cX4_mostOfAHand 29 = .ok (.iload 4, 2) := by decide +kernel
theorem dX4_mostOfAHand_31 : decode cX4_mostOfAHand 31 = .ok (.invokevirtual 145, 3) := by decide +kernel
theorem dX4_mostOfAHand_34 : decode cX4_mostOfAHand 34 = .ok (.ifCond .eq 7, 3) := by decide +kernel
theorem dX4_mostOfAHand_37 : decode cX4_mostOfAHand 37 = .ok (.iconst 1, 1) := by decide +kernel
theorem dX4_mostOfAHand_38 : decode cX4_mostOfAHand 38 = .ok (.goto 4, 3) := by decide +kernel
theorem dX4_mostOfAHand_41 : decode cX4_mostOfAHand 41 = .ok (.iconst 0, 1) := by decide +kernel
theorem dX4_mostOfAHand_42 : decode cX4_mostOfAHand 42 = .ok (.iadd, 1) := by decide +kernel
theorem dX4_mostOfAHand_43 : decode cX4_mostOfAHand 43 = .ok (.istore_n 3, 1) := by decide +kernel
theorem dX4_mostOfAHand_44 : decode cX4_mostOfAHand 44 = .ok (.iinc 4 1, 3) := by decide +kernel
theorem dX4_mostOfAHand_47 : decode cX4_mostOfAHand 47 = .ok (.goto (-30), 3) := by decide +kernel
theorem dX4_mostOfAHand_50 : decode cX4_mostOfAHand 50 = .ok (.iload_n 1, 1) := by decide +kernel
theorem dX4_mostOfAHand_51 : decode cX4_mostOfAHand 51 = .ok (.iload_n 3, 1) := by decide +kernel
theorem dX4_mostOfAHand_52 : decode cX4_mostOfAHand 52 = .ok (.invokestatic 88, 3) := by decide +kernel
theorem dX4_mostOfAHand_55 : decode cX4_mostOfAHand 55 = .ok (.istore_n 1, 1) := by decide +kernel
theorem dX4_mostOfAHand_56 : decode cX4_mostOfAHand 56 = .ok (.iinc 2 1, 3) := by decide +kernel
theorem dX4_mostOfAHand_59 : decode cX4_mostOfAHand 59 = .ok (.goto (-55), 3) := by decide +kernel
theorem dX4_mostOfAHand_62 : decode cX4_mostOfAHand 62 = .ok (.iload_n 1, 1) := by decide +kernel
theorem dX4_mostOfAHand_63 : decode cX4_mostOfAHand 63 = .ok (.ireturn, 1) := by decide +kernel
theorem dX4_tremblingSheets_0 : decode cX4_tremblingSheets 0 = .ok (.iconst 0, 1) := by decide +kernel
theorem dX4_tremblingSheets_1 : decode cX4_tremblingSheets 1 = .ok (.istore_n 1, 1) := by decide +kernel
theorem dX4_tremblingSheets_2 : decode cX4_tremblingSheets 2 = .ok (.iconst 0, 1) := by decide +kernel
theorem dX4_tremblingSheets_3 : decode cX4_tremblingSheets 3 = .ok (.istore_n 2, 1) := by decide +kernel
theorem dX4_tremblingSheets_4 : decode cX4_tremblingSheets 4 = .ok (.iload_n 2, 1) := by decide +kernel
theorem dX4_tremblingSheets_5 : decode cX4_tremblingSheets 5 = .ok (.aload_n 0, 1) := by decide +kernel
theorem dX4_tremblingSheets_6 : decode cX4_tremblingSheets 6 = .ok (.getfield 65, 3) := by decide +kernel
theorem dX4_tremblingSheets_9 : decode cX4_tremblingSheets 9 = .ok (.if_icmp .ge 25, 3) := by decide +kernel
theorem dX4_tremblingSheets_12 : decode cX4_tremblingSheets 12 = .ok (.iload_n 1, 1) := by decide +kernel
theorem dX4_tremblingSheets_13 : decode cX4_tremblingSheets 13 = .ok (.aload_n 0, 1) := by decide +kernel
theorem dX4_tremblingSheets_14 : decode cX4_tremblingSheets 14 = .ok (.iload_n 2, 1) := by decide +kernel
theorem dX4_tremblingSheets_15 : decode cX4_tremblingSheets 15 = .ok (.invokevirtual 101, 3) := by decide +kernel
theorem dX4_tremblingSheets_18 : decode cX4_tremblingSheets 18 = .ok (.ifCond .eq 7, 3) := by decide +kernel
theorem dX4_tremblingSheets_21 : decode cX4_tremblingSheets 21 = .ok (.iconst 1, 1) := by decide +kernel
theorem dX4_tremblingSheets_22 : decode cX4_tremblingSheets 22 = .ok (.goto 4, 3) := by decide +kernel
theorem dX4_tremblingSheets_25 : decode cX4_tremblingSheets 25 = .ok (.iconst 0, 1) := by decide +kernel
theorem dX4_tremblingSheets_26 : decode cX4_tremblingSheets 26 = .ok (.iadd, 1) := by decide +kernel
theorem dX4_tremblingSheets_27 : decode cX4_tremblingSheets 27 = .ok (.istore_n 1, 1) := by decide +kernel
theorem dX4_tremblingSheets_28 : decode cX4_tremblingSheets 28 = .ok (.iinc 2 1, 3) := by decide +kernel
theorem dX4_tremblingSheets_31 : decode cX4_tremblingSheets 31 = .ok (.goto (-27), 3) := by decide +kernel
theorem dX4_tremblingSheets_34 : decode cX4_tremblingSheets 34 = .ok (.iload_n 1, 1) := by decide +kernel
theorem dX4_tremblingSheets_35 : decode cX4_tremblingSheets 35 = .ok (.ireturn, 1) := by decide +kernel
theorem dX4_likePairs_0 : decode cX4_likePairs 0 = .ok (.iconst 0, 1) := by decide +kernel
theorem dX4_likePairs_1 : decode cX4_likePairs 1 = .ok (.istore_n 1, 1) := by decide +kernel
theorem dX4_likePairs_2 : decode cX4_likePairs 2 = .ok (.iconst 0, 1) := by decide +kernel
theorem dX4_likePairs_3 : decode cX4_likePairs 3 = .ok (.istore_n 2, 1) := by decide +kernel
theorem dX4_likePairs_4 : decode cX4_likePairs 4 = .ok (.iload_n 2, 1) := by decide +kernel
theorem dX4_likePairs_5 : decode cX4_likePairs 5 = .ok (.aload_n 0, 1) := by decide +kernel
theorem dX4_likePairs_6 : decode cX4_likePairs 6 = .ok (.getfield 65, 3) := by decide +kernel
theorem dX4_likePairs_9 : decode cX4_likePairs 9 = .ok (.if_icmp .ge 54, 3) := by decide +kernel
theorem dX4_likePairs_12 : decode cX4_likePairs 12 = .ok (.iload_n 2, 1) := by decide +kernel
theorem dX4_likePairs_13 : decode cX4_likePairs 13 = .ok (.iconst 1, 1) := by decide +kernel
theorem dX4_likePairs_14 : decode cX4_likePairs 14 = .ok (.iadd, 1) := by decide +kernel
theorem dX4_likePairs_15 : decode cX4_likePairs 15 = .ok (.istore_n 3, 1) := by decide +kernel
theorem dX4_likePairs_16 : decode cX4_likePairs 16 = .ok (.iload_n 3, 1) := by decide +kernel
theorem dX4_likePairs_17 : decode cX4_likePairs 17 = .ok (.aload_n 0, 1) := by decide +kernel
theorem dX4_likePairs_18 : decode cX4_likePairs 18 = .ok (.getfield 65, 3) := by decide +kernel
theorem dX4_likePairs_21 : decode cX4_likePairs 21 = .ok (.if_icmp .ge 36, 3) := by decide +kernel
theorem dX4_likePairs_24 : decode cX4_likePairs 24 = .ok (.iload_n 1, 1) := by decide +kernel
theorem dX4_likePairs_25 : decode cX4_likePairs 25 = .ok (.aload_n 0, 1) := by decide +kernel
theorem dX4_likePairs_26 : decode cX4_likePairs 26 = .ok (.iload_n 2, 1) := by decide +kernel
theorem dX4_likePairs_27 : decode cX4_likePairs 27 = .ok (.iload_n 3, 1) := by decide +kernel
theorem dX4_likePairs_28 : decode cX4_likePairs 28 = .ok (.iconst 0, 1) := by decide +kernel
theorem dX4_likePairs_29 : decode cX4_likePairs 29 = .ok (.invokevirtual 134, 3) := by decide +kernel
theorem dX4_likePairs_32 : decode cX4_likePairs 32 = .ok (.aload_n 0, 1) := by decide +kernel
theorem dX4_likePairs_33 : decode cX4_likePairs 33 = .ok (.getfield 40, 3) := by decide +kernel
theorem dX4_likePairs_36 : decode cX4_likePairs 36 = .ok (.bipush 8, 2) := by decide +kernel
theorem dX4_likePairs_38 : decode cX4_likePairs 38 = .ok (.invokevirtual 79, 3) := by decide +kernel
theorem dX4_likePairs_41 : decode cX4_likePairs 41 = .ok (.if_icmp .lt 7, 3) := by decide +kernel
theorem dX4_likePairs_44 : decode cX4_likePairs 44 = .ok (.iconst 1, 1) := by decide +kernel
theorem dX4_likePairs_45 : decode cX4_likePairs 45 = .ok (.goto 4, 3) := by decide +kernel
theorem dX4_likePairs_48 : decode cX4_likePairs 48 = .ok (.iconst 0, 1) := by decide +kernel
theorem dX4_likePairs_49 : decode cX4_likePairs 49 = .ok (.iadd, 1) := by decide +kernel
theorem dX4_likePairs_50 : decode cX4_likePairs 50 = .ok (.istore_n 1, 1) := by decide +kernel
theorem dX4_likePairs_51 : decode cX4_likePairs 51 = .ok (.iinc 3 1, 3) := by decide +kernel
theorem dX4_likePairs_54 : decode cX4_likePairs 54 = .ok (.goto (-38), 3) := by decide +kernel
theorem dX4_likePairs_57 : decode cX4_likePairs 57 = .ok (.iinc 2 1, 3) := by decide +kernel
theorem dX4_likePairs_60 : decode cX4_likePairs 60 = .ok (.goto (-56), 3) := by decide +kernel
theorem dX4_likePairs_63 : decode cX4_likePairs 63 = .ok (.iload_n 1, 1) := by decide +kernel
theorem dX4_likePairs_64 : decode cX4_likePairs 64 = .ok (.ireturn, 1) := by decide +kernel
