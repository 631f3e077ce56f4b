theorem dX1_init_0 : decode cX1_init 0 = .ok (.aload_n 0, 1) := by decide +kernel
theorem dX1_init_1 : decode cX1_init 1 = .ok (.invokespecial 3, 3) := by decide +kernel
theorem dX1_init_4 : decode cX1_init 4 = .ok (.aload_n 0, 1) := by decide +kernel
theorem dX1_init_5 : decode cX1_init 5 = .ok (.new 9, 3) := by decide +kernel
theorem dX1_init_8 : decode cX1_init 8 = .ok (.dup, 1) := by decide +kernel
theorem dX1_init_9 : decode cX1_init 9 = .ok (.bipush 28, 2) := by decide +kernel
theorem dX1_init_11 : decode cX1_init 11 = .ok (.invokespecial 11, 3) := by decide +kernel
theorem dX1_init_14 : decode cX1_init 14 = .ok (.putfield 14, 3) := by decide +kernel
theorem dX1_init_17 : decode cX1_init 17 = .ok (.aload_n 0, 1) := by decide +kernel
theorem dX1_init_18 : decode cX1_init 18 = .ok (.new 9, 3) := by decide +kernel
theorem dX1_init_21 : decode cX1_init 21 = .ok (.dup, 1) := by decide +kernel
theorem dX1_init_22 : decode cX1_init 22 = .ok (.bipush 28, 2) := by decide +kernel
theorem dX1_init_24 : decode cX1_init 24 = .ok (.invokespecial 11, 3) := by decide +kernel
theorem dX1_init_27 : decode cX1_init 27 = .ok (.putfield 20, 3) := by decide +kernel
theorem dX1_init_30 : decode cX1_init 30 = .ok (.aload_n 0, 1) := by decide +kernel
theorem dX1_init_31 : decode cX1_init 31 = .ok (.new 9, 3) := by decide +kernel
theorem dX1_init_34 : decode cX1_init 34 = .ok (.dup, 1) := by decide +kernel
theorem dX1_init_35 : decode cX1_init 35 = .ok (.bipush 28, 2) := by decide +kernel
theorem dX1_init_37 : decode cX1_init 37 = .ok (.invokespecial 11, 3) := by decide +kernel
theorem dX1_init_40 : decode cX1_init 40 = .ok (.putfield 23, 3) := by decide +kernel
theorem dX1_init_43 : decode cX1_init 43 = .ok (.aload_n 0, 1) := by decide +kernel
theorem dX1_init_44 : decode cX1_init 44 = .ok (.new 9, 3) := by decide +kernel
theorem dX1_init_47 : decode cX1_init 47 = .ok (.dup, 1) := by decide +kernel
theorem dX1_init_48 : decode cX1_init 48 = .ok (.bipush 8, 2) := by decide +kernel
theorem dX1_init_50 : decode cX1_init 50 = .ok (.invokespecial 11, 3) := by decide +kernel
theorem dX1_init_53 : decode cX1_init 53 = .ok (.putfield 26, 3) := by decide +kernel
theorem dX1_init_56 : decode cX1_init 56 = .ok (.return_, 1) := by decide +kernel
theorem dX1_takeOver_0 : decode cX1_takeOver 0 = .ok (.aload_n 1, 1) := by decide +kernel
theorem dX1_takeOver_1 : decode cX1_takeOver 1 = .ok (.ifnonnull 4, 3) := by decide +kernel
theorem dX1_takeOver_4 : decode cX1_takeOver 4 = .ok (.return_, 1) := by decide +kernel
theorem dX1_takeOver_5 : decode cX1_takeOver 5 = .ok (.aload_n 0, 1) := by decide +kernel
theorem dX1_takeOver_6 : decode cX1_takeOver 6 = .ok (.aload_n 1, 1) := by decide +kernel
theorem dX1_takeOver_7 : decode cX1_takeOver 7 = .ok (.getfield 29, 3) := by decide +kernel
theorem dX1_takeOver_10 : decode cX1_takeOver 10 = .ok (.putfield 29, 3) := by decide +kernel
theorem dX1_takeOver_13 : decode cX1_takeOver 13 = .ok (.aload_n 0, 1) := by decide +kernel
theorem dX1_takeOver_14 : decode cX1_takeOver 14 = .ok (.aload_n 1, 1) := by decide +kernel
theorem dX1_takeOver_15 : decode cX1_takeOver 15 = .ok (.getfield 33, 3) := by decide +kernel
theorem dX1_takeOver_18 : decode cX1_takeOver 18 = .ok (.putfield 33, 3) := by decide +kernel
theorem dX1_takeOver_21 : decode cX1_takeOver 21 = .ok (.aload_n 0, 1) := by decide +kernel
theorem dX1_takeOver_22 : decode cX1_takeOver 22 = .ok (.getfield 14, 3) := by decide +kernel
theorem dX1_takeOver_25 : decode cX1_takeOver 25 = .ok (.aload_n 1, 1) := by decide +kernel
theorem dX1_takeOver_26 : decode cX1_takeOver 26 = .ok (.getfield 14, 3) := by decide +kernel
theorem dX1_takeOver_29 : decode cX1_takeOver 29 = .ok (.invokevirtual 36, 3) := by decide +kernel
theorem dX1_takeOver_32 : decode cX1_takeOver 32 = .ok (.aload_n 0, 1) := by decide +kernel
theorem dX1_takeOver_33 : decode cX1_takeOver 33 = .ok (.getfield 20, 3) := by decide +kernel
theorem dX1_takeOver_36 : decode cX1_takeOver 36 = .ok (.aload_n 1, 1) := by decide +kernel
theorem dX1_takeOver_37 : decode cX1_takeOver 37 = .ok (.getfield 20, 3) := by decide +kernel
theorem dX1_takeOver_40 : decode cX1_takeOver 40 = .ok (.invokevirtual 36, 3) := by decide +kernel
theorem dX1_takeOver_43 : decode cX1_takeOver 43 = .ok (.aload_n 0, 1) := by decide +kernel
theorem dX1_takeOver_44 : decode cX1_takeOver 44 = .ok (.getfield 23, 3) := by decide +kernel
theorem dX1_takeOver_47 : decode cX1_takeOver 47 = .ok (.aload_n 1, 1) := by decide +kernel
theorem dX1_takeOver_48 : decode cX1_takeOver 48 = .ok (.getfield 23, 3) := by decide +kernel
theorem dX1_takeOver_51 : decode cX1_takeOver 51 = .ok (.invokevirtual 36, 3) := by decide +kernel
theorem dX1_takeOver_54 : decode cX1_takeOver 54 = .ok (.aload_n 0, 1) := by decide +kernel
theorem dX1_takeOver_55 : decode cX1_takeOver 55 = .ok (.getfield 26, 3) := by decide +kernel
theorem dX1_takeOver_58 : decode cX1_takeOver 58 = .ok (.aload_n 1, 1) := by decide +kernel
theorem dX1_takeOver_59 : decode cX1_takeOver 59 = .ok (.getfield 26, 3) := by decide +kernel
theorem dX1_takeOver_62 : decode cX1_takeOver 62 = .ok (.invokevirtual 36, 3) := by decide +kernel
theorem dX1_takeOver_65 : decode cX1_takeOver 65 = .ok (.return_, 1) := by decide +kernel
theorem dX1_add_0 : decode cX1_add 0 = .ok (.aload_n 0, 1) := by decide +kernel
theorem dX1_add_1 : decode cX1_add 1 = .ok (.getfield 29, 3) := by decide +kernel
theorem dX1_add_4 : decode cX1_add 4 = .ok (.bipush 28, 2) := by decide +kernel
theorem dX1_add_6 : decode cX1_add 6 = .ok (.if_icmp .lt 4, 3) := by decide +kernel
theorem dX1_add_9 : decode cX1_add 9 = .ok (.return_, 1) := by decide +kernel
theorem dX1_add_10 : decode cX1_add 10 = .ok (.aload_n 0, 1) := by decide +kernel
theorem dX1_add_11 : decode cX1_add 11 = .ok (.getfield 14, 3) := by decide +kernel
theorem dX1_add_14 : decode cX1_add 14 = .ok (.aload_n 0, 1) := by decide +kernel
theorem dX1_add_15 : decode cX1_add 15 = .ok (.getfield 29, 3) := by decide +kernel
theorem dX1_add_18 : decode cX1_add 18 = .ok (.iload_n 1, 1) := by decide +kernel
theorem dX1_add_19 : decode cX1_add 19 = .ok (.invokevirtual 40, 3) := by decide +kernel
theorem dX1_add_22 : decode cX1_add 22 = .ok (.aload_n 0, 1) := by decide +kernel
theorem dX1_add_23 : decode cX1_add 23 = .ok (.getfield 20, 3) := by decide +kernel
theorem dX1_add_26 : decode cX1_add 26 = .ok (.aload_n 0, 1) := by decide +kernel
theorem dX1_add_27 : decode cX1_add 27 = .ok (.getfield 29, 3) := by decide +kernel
theorem dX1_add_30 : decode cX1_add 30 = .ok (.iload_n 2, 1) := by decide +kernel
theorem dX1_add_31 : decode cX1_add 31 = .ok (.invokevirtual 40, 3) := by decide +kernel
theorem dX1_add_34 : decode cX1_add 34 = .ok (.aload_n 0, 1) := by decide +kernel
theorem dX1_add_35 : decode cX1_add 35 = .ok (.getfield 23, 3) := by decide +kernel
theorem dX1_add_38 : decode cX1_add 38 = .ok (.aload_n 0, 1) := by decide +kernel
theorem dX1_add_39 : decode cX1_add 39 = .ok (.getfield 29, 3) := by decide +kernel
theorem dX1_add_42 : decode cX1_add 42 = .ok (.iload_n 3, 1) := by decide +kernel
theorem dX1_add_43 : decode cX1_add 43 = .ok (.ifCond .eq 7, 3) := by decide +kernel
theorem dX1_add_46 : decode cX1_add 46 = .ok (.iconst 1, 1) := by decide +kernel
theorem dX1_add_47 : decode cX1_add 47 = .ok (.goto 4, 3) := by decide +kernel
theorem dX1_add_50 : decode cX1_add 50 = .ok (.iconst 0, 1) := by decide +kernel
theorem dX1_add_51 : decode cX1_add 51 = .ok (.invokevirtual 40, 3) := by decide +kernel
theorem dX1_add_54 : decode cX1_add 54 = .ok (.aload_n 0, 1) := by decide +kernel
theorem dX1_add_55 : decode cX1_add 55 = .ok (.dup, 1) := by decide +kernel
theorem dX1_add_56 : decode cX1_add 56 = .ok (.getfield 29, 3) := by decide +kernel
theorem dX1_add_59 : decode cX1_add 59 = .ok (.iconst 1, 1) := by decide +kernel
theorem dX1_add_60 : decode cX1_add 60 = .ok (.iadd, 1) := by decide +kernel
theorem dX1_add_61 : decode cX1_add 61 = .ok (.putfield 29, 3) := by decide +kernel
theorem dX1_add_64 : decode cX1_add 64 = .ok (.aload_n 0, 1) := by decide +kernel
theorem dX1_add_65 : decode cX1_add 65 = .ok (.dup, 1) := by decide +kernel
theorem dX1_add_66 : decode cX1_add 66 = .ok (.getfield 33, 3) := by decide +kernel
theorem dX1_add_69 : decode cX1_add 69 = .ok (.iconst 1, 1) := by decide +kernel
theorem dX1_add_70 : decode cX1_add 70 = .ok (.iadd, 1) := by decide +kernel
theorem dX1_add_71 : decode cX1_add 71 = .ok (.putfield 33, 3) := by decide +kernel
theorem dX1_add_74 : decode cX1_add 74 = .ok (.aload_n 0, 1) := by decide +kernel
theorem dX1_add_75 : decode cX1_add 75 = .ok (.invokevirtual 44, 3) := by decide +kernel
theorem dX1_add_78 : decode cX1_add 78 = .ok (.return_, 1) := by decide +kernel
theorem dX1_removeAt_0 : decode cX1_removeAt 0 = .ok (.aload_n 0, 1) := by decide +kernel
theorem dX1_removeAt_1 : decode cX1_removeAt 1 = .ok (.iload_n 1, 1) := by decide +kernel
theorem dX1_removeAt_2 : decode cX1_removeAt 2 = .ok (.invokevirtual 47, 3) := by decide +kernel
theorem dX1_removeAt_5 : decode cX1_removeAt 5 = .ok (.aload_n 0, 1) := by decide +kernel
theorem dX1_removeAt_6 : decode cX1_removeAt 6 = .ok (.invokevirtual 44, 3) := by decide +kernel
theorem dX1_removeAt_9 : decode cX1_removeAt 9 = .ok (.return_, 1) := by decide +kernel
theorem dX1_forgetSheet_0 : decode cX1_forgetSheet 0 = .ok (.aload_n 0, 1) := by decide +kernel
theorem dX1_forgetSheet_1 : decode cX1_forgetSheet 1 = .ok (.getfield 29, 3) := by decide +kernel
theorem dX1_forgetSheet_4 : decode cX1_forgetSheet 4 = .ok (.istore_n 2, 1) := by decide +kernel
theorem dX1_forgetSheet_5 : decode cX1_forgetSheet 5 = .ok (.iload_n 2, 1) := by decide +kernel
theorem dX1_forgetSheet_6 : decode cX1_forgetSheet 6 = .ok (.iconst 1, 1) := by decide +kernel
theorem dX1_forgetSheet_7 : decode cX1_forgetSheet 7 = .ok (.isub, 1) := by decide +kernel
theorem dX1_forgetSheet_8 : decode cX1_forgetSheet 8 = .ok (.istore_n 3, 1) := by decide +kernel
theorem dX1_forgetSheet_9 : decode cX1_forgetSheet 9 = .ok (.iload_n 3, 1) := by decide +kernel
theorem dX1_forgetSheet_10 : decode cX1_forgetSheet 10 = .ok (.ifCond .lt 23, 3) := by decide +kernel
theorem dX1_forgetSheet_13 : decode cX1_forgetSheet 13 = .ok (.aload_n 0, 1) := by decide +kernel
theorem dX1_forgetSheet_14 : decode cX1_forgetSheet 14 = .ok (.iload_n 3, 1) := by decide +kernel
theorem dX1_forgetSheet_15 : decode cX1_forgetSheet 15 = .ok (.iload_n 1, 1) := by decide +kernel
theorem dX1_forgetSheet_16 : decode cX1_forgetSheet 16 = .ok (.invokevirtual 50, 3) := by decide +kernel
theorem dX1_forgetSheet_19 : decode cX1_forgetSheet 19 = .ok (.ifCond .eq 8, 3) := by decide +kernel
theorem dX1_forgetSheet_22 : decode cX1_forgetSheet 22 = .ok (.aload_n 0, 1) := by decide +kernel
theorem dX1_forgetSheet_23 : decode cX1_forgetSheet 23 = .ok (.iload_n 3, 1) := by decide +kernel
theorem dX1_forgetSheet_24 : decode cX1_forgetSheet 24 = .ok (.invokevirtual 47, 3) := by decide +kernel
theorem dX1_forgetSheet_27 : decode cX1_forgetSheet 27 = .ok (.iinc 3 (-1), 3) := by decide +kernel
theorem dX1_forgetSheet_30 : decode cX1_forgetSheet 30 = .ok (.goto (-21), 3) := by decide +kernel
theorem dX1_forgetSheet_33 : decode cX1_forgetSheet 33 = .ok (.iconst 0, 1) := by decide +kernel
theorem dX1_forgetSheet_34 : decode cX1_forgetSheet 34 = .ok (.istore_n 3, 1) := by decide +kernel
theorem dX1_forgetSheet_35 : decode cX1_forgetSheet 35 = .ok (.iload_n 3, 1) := by decide +kernel
theorem dX1_forgetSheet_36 : decode cX1_forgetSheet 36 = .ok (.aload_n 0, 1) := by decide +kernel
theorem dX1_forgetSheet_37 : decode cX1_forgetSheet 37 = .ok (.getfield 29, 3) := by decide +kernel
theorem dX1_forgetSheet_40 : decode cX1_forgetSheet 40 = .ok (.if_icmp .ge 49, 3) := by decide +kernel
theorem dX1_forgetSheet_43 : decode cX1_forgetSheet 43 = .ok (.aload_n 0, 1) := by decide +kernel
theorem dX1_forgetSheet_44 : decode cX1_forgetSheet 44 = .ok (.getfield 14, 3) := by decide +kernel
theorem dX1_forgetSheet_47 : decode cX1_forgetSheet 47 = .ok (.iload_n 3, 1) := by decide +kernel
theorem dX1_forgetSheet_48 : decode cX1_forgetSheet 48 = .ok (.iload_n 1, 1) := by decide +kernel
theorem dX1_forgetSheet_49 : decode cX1_forgetSheet 49 = .ok (.aload_n 0, 1) := by decide +kernel
theorem dX1_forgetSheet_50 : decode cX1_forgetSheet 50 = .ok (.getfield 14, 3) := by decide +kernel
theorem dX1_forgetSheet_53 : decode cX1_forgetSheet 53 = .ok (.iload_n 3, 1) := by decide +kernel
theorem dX1_forgetSheet_54 : decode cX1_forgetSheet 54 = .ok (.invokevirtual 54, 3) := by decide +kernel
theorem dX1_forgetSheet_57 : decode cX1_forgetSheet 57 = .ok (.invokestatic 58, 3) := by decide +kernel
theorem dX1_forgetSheet_60 : decode cX1_forgetSheet 60 = .ok (.invokevirtual 40, 3) := by decide +kernel
theorem dX1_forgetSheet_63 : decode cX1_forgetSheet 63 = .ok (.aload_n 0, 1) := by decide +kernel
theorem dX1_forgetSheet_64 : decode cX1_forgetSheet 64 = .ok (.getfield 20, 3) := by decide +kernel
theorem dX1_forgetSheet_67 : decode cX1_forgetSheet 67 = .ok (.iload_n 3, 1) := by decide +kernel
theorem dX1_forgetSheet_68 : decode cX1_forgetSheet 68 = .ok (.iload_n 1, 1) := by decide +kernel
theorem dX1_forgetSheet_69 : decode cX1_forgetSheet 69 = .ok (.aload_n 0, 1) := by decide +kernel
theorem dX1_forgetSheet_70 : decode cX1_forgetSheet 70 = .ok (.getfield 20, 3) := by decide +kernel
theorem dX1_forgetSheet_73 : decode cX1_forgetSheet 73 = .ok (.iload_n 3, 1) := by decide +kernel
theorem dX1_forgetSheet_74 : decode cX1_forgetSheet 74 = .ok (.invokevirtual 54, 3) := by decide +kernel
theorem dX1_forgetSheet_77 : decode cX1_forgetSheet 77 = .ok (.invokestatic 58, 3) := by decide +kernel
theorem dX1_forgetSheet_80 : decode cX1_forgetSheet 80 = .ok (.invokevirtual 40, 3) := by decide +kernel
theorem dX1_forgetSheet_83 : decode cX1_forgetSheet 83 = .ok (.iinc 3 1, 3) := by decide +kernel
theorem dX1_forgetSheet_86 : decode cX1_forgetSheet 86 = .ok (.goto (-51), 3) := by decide +kernel
theorem dX1_forgetSheet_89 : decode cX1_forgetSheet 89 = .ok (.aload_n 0, 1) := by decide +kernel
theorem dX1_forgetSheet_90 : decode cX1_forgetSheet 90 = .ok (.invokevirtual 44, 3) := by decide +kernel
theorem dX1_forgetSheet_93 : decode cX1_forgetSheet 93 = .ok (.iload_n 2, 1) := by decide +kernel
theorem dX1_forgetSheet_94 : decode cX1_forgetSheet 94 = .ok (.aload_n 0, 1) := by decide +kernel
theorem dX1_forgetSheet_95 : decode cX1_forgetSheet 95 = .ok (.getfield 29, 3) := by decide +kernel
theorem dX1_forgetSheet_98 : decode cX1_forgetSheet 98 = .ok (.isub, 1) := by decide +kernel
theorem dX1_forgetSheet_99 : decode cX1_forgetSheet 99 = .ok (.ireturn, 1) := by decide +kernel
theorem dX1_placeOf_0 : decode cX1_placeOf 0 = .ok (.iconst 0, 1) := by decide +kernel
theorem dX1_placeOf_1 : decode cX1_placeOf 1 = .ok (.istore_n 3, 1) := by decide +kernel
theorem dX1_placeOf_2 : decode cX1_placeOf 2 = .ok (.iload_n 3, 1) := by decide +kernel
theorem dX1_placeOf_3 : decode cX1_placeOf 3 = .ok (.aload_n 0, 1) := by decide +kernel
theorem dX1_placeOf_4 : decode cX1_placeOf 4 = .ok (.getfield 29, 3) := by decide +kernel
theorem dX1_placeOf_7 : decode cX1_placeOf 7 = .ok (.if_icmp .ge 34, 3) := by decide +kernel
theorem dX1_placeOf_10 : decode cX1_placeOf 10 = .ok (.iload_n 1, 1) := by decide +kernel
theorem dX1_placeOf_11 : decode cX1_placeOf 11 = .ok (.iload_n 2, 1) := by decide +kernel
theorem dX1_placeOf_12 : decode cX1_placeOf 12 = .ok (.if_icmp .eq 23, 3) := by decide +kernel
theorem dX1_placeOf_15 : decode cX1_placeOf 15 = .ok (.aload_n 0, 1) := by decide +kernel
theorem dX1_placeOf_16 : decode cX1_placeOf 16 = .ok (.iload_n 3, 1) := by decide +kernel
theorem dX1_placeOf_17 : decode cX1_placeOf 17 = .ok (.iload_n 1, 1) := by decide +kernel
theorem dX1_placeOf_18 : decode cX1_placeOf 18 = .ok (.invokevirtual 50, 3) := by decide +kernel
theorem dX1_placeOf_21 : decode cX1_placeOf 21 = .ok (.ifCond .eq 14, 3) := by decide +kernel
theorem dX1_placeOf_24 : decode cX1_placeOf 24 = .ok (.aload_n 0, 1) := by decide +kernel
theorem dX1_placeOf_25 : decode cX1_placeOf 25 = .ok (.iload_n 3, 1) := by decide +kernel
theorem dX1_placeOf_26 : decode cX1_placeOf 26 = .ok (.iload_n 2, 1) := by decide +kernel
theorem dX1_placeOf_27 : decode cX1_placeOf 27 = .ok (.invokevirtual 50, 3) := by decide +kernel
theorem dX1_placeOf_30 : decode cX1_placeOf 30 = .ok (.ifCond .eq 5, 3) := by decide +kernel
theorem dX1_placeOf_33 : decode cX1_placeOf 33 = .ok (.iload_n 3, 1) := by decide +kernel
theorem dX1_placeOf_34 : decode cX1_placeOf 34 = .ok (.ireturn, 1) := by decide +kernel
theorem dX1_placeOf_35 : decode cX1_placeOf 35 = .ok (.iinc 3 1, 3) := by decide +kernel
theorem dX1_placeOf_38 : decode cX1_placeOf 38 = .ok (.goto (-36), 3) := by decide +kernel
theorem dX1_placeOf_41 : decode cX1_placeOf 41 = .ok (.iconst (-1), 1) := by decide +kernel
theorem dX1_placeOf_42 : decode cX1_placeOf 42 = .ok (.ireturn, 1) := by decide +kernel
theorem dX1_kindOf_0 : decode cX1_kindOf 0 = .ok (.aload_n 0, 1) := by decide +kernel
theorem dX1_kindOf_1 : decode cX1_kindOf 1 = .ok (.iload_n 1, 1) := by decide +kernel
theorem dX1_kindOf_2 : decode cX1_kindOf 2 = .ok (.iload_n 2, 1) := by decide +kernel
theorem dX1_kindOf_3 : decode cX1_kindOf 3 = .ok (.invokevirtual 62, 3) := by decide +kernel
theorem dX1_kindOf_6 : decode cX1_kindOf 6 = .ok (.istore_n 3, 1) := by decide +kernel
theorem dX1_kindOf_7 : decode cX1_kindOf 7 = .ok (.iload_n 3, 1) := by decide +kernel
theorem dX1_kindOf_8 : decode cX1_kindOf 8 = .ok (.iconst (-1), 1) := by decide +kernel
theorem dX1_kindOf_9 : decode cX1_kindOf 9 = .ok (.if_icmp .ne 7, 3) := by decide +kernel
theorem dX1_kindOf_12 : decode cX1_kindOf 12 = .ok (.iconst (-1), 1) := by decide +kernel
theorem dX1_kindOf_13 : decode cX1_kindOf 13 = .ok (.goto 11, 3) := by decide +kernel
theorem dX1_kindOf_16 : decode cX1_kindOf 16 = .ok (.aload_n 0, 1) := by decide +kernel
theorem dX1_kindOf_17 : decode cX1_kindOf 17 = .ok (.getfield 23, 3) := by decide +kernel
theorem dX1_kindOf_20 : decode cX1_kindOf 20 = .ok (.iload_n 3, 1) := by decide +kernel
theorem dX1_kindOf_21 : decode cX1_kindOf 21 = .ok (.invokevirtual 54, 3) := by decide +kernel
theorem dX1_kindOf_24 : decode cX1_kindOf 24 = .ok (.ireturn, 1) := by decide +kernel
theorem dX1_numberOf_0 : decode cX1_numberOf 0 = .ok (.iload_n 2, 1) := by decide +kernel
theorem dX1_numberOf_1 : decode cX1_numberOf 1 = .ok (.tableswitch 54 0 2 #[27, 36, 45], 27) := by decide +kernel
theorem dX1_numberOf_28 : decode cX1_numberOf 28 = .ok (.aload_n 0, 1) := by decide +kernel
theorem dX1_numberOf_29 : decode cX1_numberOf 29 = .ok (.getfield 14, 3) := by decide +kernel
theorem dX1_numberOf_32 : decode cX1_numberOf 32 = .ok (.iload_n 1, 1) := by decide +kernel
theorem dX1_numberOf_33 : decode cX1_numberOf 33 = .ok (.invokevirtual 54, 3) := by decide +kernel
theorem dX1_numberOf_36 : decode cX1_numberOf 36 = .ok (.ireturn, 1) := by decide +kernel
theorem dX1_numberOf_37 : decode cX1_numberOf 37 = .ok (.aload_n 0, 1) := by decide +kernel
theorem dX1_numberOf_38 : decode cX1_numberOf 38 = .ok (.getfield 20, 3) := by decide +kernel
theorem dX1_numberOf_41 : decode cX1_numberOf 41 = .ok (.iload_n 1, 1) := by decide +kernel
theorem dX1_numberOf_42 : decode cX1_numberOf 42 = .ok (.invokevirtual 54, 3) := by decide +kernel
theorem dX1_numberOf_45 : decode cX1_numberOf 45 = .ok (.ireturn, 1) := by decide +kernel
theorem dX1_numberOf_46 : decode cX1_numberOf 46 = .ok (.aload_n 0, 1) := by decide +kernel
theorem dX1_numberOf_47 : decode cX1_numberOf 47 = .ok (.getfield 23, 3) := by decide +kernel
theorem dX1_numberOf_50 : decode cX1_numberOf 50 = .ok (.iload_n 1, 1) := by decide +kernel
theorem dX1_numberOf_51 : decode cX1_numberOf 51 = .ok (.invokevirtual 54, 3) := by decide +kernel
theorem dX1_numberOf_54 : decode cX1_numberOf 54 = .ok (.ireturn, 1) := by decide +kernel
theorem dX1_numberOf_55 : decode cX1_numberOf 55 = .ok (.aload_n 0, 1) := by decide +kernel
theorem dX1_numberOf_56 : decode cX1_numberOf 56 = .ok (.iload_n 1, 1) := by decide +kernel
theorem dX1_numberOf_57 : decode cX1_numberOf 57 = .ok (.invokevirtual 65, 3) := by decide +kernel
theorem dX1_numberOf_60 : decode cX1_numberOf 60 = .ok (.ifCond .eq 7, 3) := by decide +kernel
theorem dX1_numberOf_63 : decode cX1_numberOf 63 = .ok (.iconst 1, 1) := by decide +kernel
theorem dX1_numberOf_64 : decode cX1_numberOf 64 = .ok (.goto 4, 3) := by decide +kernel
theorem dX1_numberOf_67 : decode cX1_numberOf 67 = .ok (.iconst 0, 1) := by decide +kernel
theorem dX1_numberOf_68 : decode cX1_numberOf 68 = .ok (.ireturn, 1) := by decide +kernel
theorem dX1_ofSheet_0 : decode cX1_ofSheet 0 = .ok (.iconst 0, 1) := by decide +kernel
theorem dX1_ofSheet_1 : decode cX1_ofSheet 1 = .ok (.istore_n 2, 1) := by decide +kernel
theorem dX1_ofSheet_2 : decode cX1_ofSheet 2 = .ok (.iconst 0, 1) := by decide +kernel
theorem dX1_ofSheet_3 : decode cX1_ofSheet 3 = .ok (.istore_n 3, 1) := by decide +kernel
theorem dX1_ofSheet_4 : decode cX1_ofSheet 4 = .ok (.iload_n 3, 1) := by decide +kernel
theorem dX1_ofSheet_5 : decode cX1_ofSheet 5 = .ok (.aload_n 0, 1) := by decide +kernel
theorem dX1_ofSheet_6 : decode cX1_ofSheet 6 = .ok (.getfield 29, 3) := by decide +kernel
theorem dX1_ofSheet_9 : decode cX1_ofSheet 9 = .ok (.if_icmp .ge 26, 3) := by decide +kernel
theorem dX1_ofSheet_12 : decode cX1_ofSheet 12 = .ok (.iload_n 2, 1) := by decide +kernel
theorem dX1_ofSheet_13 : decode cX1_ofSheet 13 = .ok (.aload_n 0, 1) := by decide +kernel
theorem dX1_ofSheet_14 : decode cX1_ofSheet 14 = .ok (.iload_n 3, 1) := by decide +kernel
theorem dX1_ofSheet_15 : decode cX1_ofSheet 15 = .ok (.iload_n 1, 1) := by decide +kernel
theorem dX1_ofSheet_16 : decode cX1_ofSheet 16 = .ok (.invokevirtual 50, 3) := by decide +kernel
theorem dX1_ofSheet_19 : decode cX1_ofSheet 19 = .ok (.ifCond .eq 7, 3) := by decide +kernel
theorem dX1_ofSheet_22 : decode cX1_ofSheet 22 = .ok (.iconst 1, 1) := by decide +kernel
theorem dX1_ofSheet_23 : decode cX1_ofSheet 23 = .ok (.goto 4, 3) := by decide +kernel
theorem dX1_ofSheet_26 : decode cX1_ofSheet 26 = .ok (.iconst 0, 1) := by decide +kernel
theorem dX1_ofSheet_27 : decode cX1_ofSheet 27 = .ok (.iadd, 1) := by decide +kernel
theorem dX1_ofSheet_28 : decode cX1_ofSheet 28 = .ok (.istore_n 2, 1) := by decide +kernel
theorem dX1_ofSheet_29 : decode cX1_ofSheet 29 = .ok (.iinc 3 1, 3) := by decide +kernel
theorem dX1_ofSheet_32 : decode cX1_ofSheet 32 = .ok (.goto (-28), 3) := by decide +kernel
theorem dX1_ofSheet_35 : decode cX1_ofSheet 35 = .ok (.iload_n 2, 1) := by decide +kernel
theorem dX1_ofSheet_36 : decode cX1_ofSheet 36 = .ok (.ireturn, 1) := by decide +kernel
theorem dX1_ofOneHand_0 : decode cX1_ofOneHand 0 = .ok (.iconst 0, 1) := by decide +kernel
theorem dX1_ofOneHand_1 : decode cX1_ofOneHand 1 = .ok (.istore_n 1, 1) := by decide +kernel
theorem dX1_ofOneHand_2 : decode cX1_ofOneHand 2 = .ok (.iconst 0, 1) := by decide +kernel
theorem dX1_ofOneHand_3 : decode cX1_ofOneHand 3 = .ok (.istore_n 2, 1) := by decide +kernel
theorem dX1_ofOneHand_4 : decode cX1_ofOneHand 4 = .ok (.iload_n 2, 1) := by decide +kernel
theorem dX1_ofOneHand_5 : decode cX1_ofOneHand 5 = .ok (.aload_n 0, 1) := by decide +kernel
theorem dX1_ofOneHand_6 : decode cX1_ofOneHand 6 = .ok (.getfield 29, 3) := by decide +kernel
theorem dX1_ofOneHand_9 : decode cX1_ofOneHand 9 = .ok (.if_icmp .ge 20, 3) := by decide +kernel
theorem dX1_ofOneHand_12 : decode cX1_ofOneHand 12 = .ok (.iload_n 1, 1) := by decide +kernel
theorem dX1_ofOneHand_13 : decode cX1_ofOneHand 13 = .ok (.aload_n 0, 1) := by decide +kernel
theorem dX1_ofOneHand_14 : decode cX1_ofOneHand 14 = .ok (.getfield 23, 3) := by decide +kernel
theorem dX1_ofOneHand_17 : decode cX1_ofOneHand 17 = .ok (.iload_n 2, 1) := by decide +kernel
theorem dX1_ofOneHand_18 : decode cX1_ofOneHand 18 = .ok (.invokevirtual 54, 3) := by decide +kernel
theorem dX1_ofOneHand_21 : decode cX1_ofOneHand 21 = .ok (.iadd, 1) := by decide +kernel
theorem dX1_ofOneHand_22 : decode cX1_ofOneHand 22 = .ok (.istore_n 1, 1) := by decide +kernel
theorem dX1_ofOneHand_23 : decode cX1_ofOneHand 23 = .ok (.iinc 2 1, 3) := by decide +kernel
theorem dX1_ofOneHand_26 : decode cX1_ofOneHand 26 = .ok (.goto (-22), 3) := by decide +kernel
theorem dX1_ofOneHand_29 : decode cX1_ofOneHand 29 = .ok (.iload_n 1, 1) := by decide +kernel
theorem dX1_ofOneHand_30 : decode cX1_ofOneHand 30 = .ok (.ireturn, 1) := by decide +kernel
theorem dX1_handOf_0 : decode cX1_handOf 0 = .ok (.aload_n 0, 1) := by decide +kernel
theorem dX1_handOf_1 : decode cX1_handOf 1 = .ok (.getfield 26, 3) := by decide +kernel
theorem dX1_handOf_4 : decode cX1_handOf 4 = .ok (.iload_n 1, 1) := by decide +kernel
theorem dX1_handOf_5 : decode cX1_handOf 5 = .ok (.invokevirtual 54, 3) := by decide +kernel
theorem dX1_handOf_8 : decode cX1_handOf 8 = .ok (.ireturn, 1) := by decide +kernel
theorem dX1_forbidJoining_0 : decode cX1_forbidJoining 0 = .ok (.iconst 0, 1) := by decide +kernel
theorem dX1_forbidJoining_1 : decode cX1_forbidJoining 1 = .ok (.istore_n 3, 1) := by decide +kernel
theorem dX1_forbidJoining_2 : decode cX1_forbidJoining 2 = .ok (.iload_n 3, 1) := by decide +kernel
theorem dX1_forbidJoining_3 : decode cX1_forbidJoining 3 = .ok (.aload_n 0, 1) := by decide +kernel
theorem dX1_forbidJoining_4 : decode cX1_forbidJoining 4 = .ok (.getfield 29, 3) := by decide +kernel
theorem dX1_forbidJoining_7 : decode cX1_forbidJoining 7 = .ok (.if_icmp .ge 56, 3) := by decide +kernel
theorem dX1_forbidJoining_10 : decode cX1_forbidJoining 10 = .ok (.aload_n 0, 1) := by decide +kernel
theorem dX1_forbidJoining_11 : decode cX1_forbidJoining 11 = .ok (.getfield 23, 3) := by decide +kernel
theorem dX1_forbidJoining_14 : decode cX1_forbidJoining 14 = .ok (.iload_n 3, 1) := by decide +kernel
theorem dX1_forbidJoining_15 : decode cX1_forbidJoining 15 = .ok (.invokevirtual 54, 3) := by decide +kernel
theorem dX1_forbidJoining_18 : decode cX1_forbidJoining 18 = .ok (.ifCond .ne 39, 3) := by decide +kernel
theorem dX1_forbidJoining_21 : decode cX1_forbidJoining 21 = .ok (.aload_n 0, 1) := by decide +kernel
theorem dX1_forbidJoining_22 : decode cX1_forbidJoining 22 = .ok (.aload_n 0, 1) := by decide +kernel
theorem dX1_forbidJoining_23 : decode cX1_forbidJoining 23 = .ok (.getfield 14, 3) := by decide +kernel
theorem dX1_forbidJoining_26 : decode cX1_forbidJoining 26 = .ok (.iload_n 3, 1) := by decide +kernel
theorem dX1_forbidJoining_27 : decode cX1_forbidJoining 27 = .ok (.invokevirtual 54, 3) := by decide +kernel
theorem dX1_forbidJoining_30 : decode cX1_forbidJoining 30 = .ok (.iload_n 1, 1) := by decide +kernel
theorem dX1_forbidJoining_31 : decode cX1_forbidJoining 31 = .ok (.iload_n 2, 1) := by decide +kernel
theorem dX1_forbidJoining_32 : decode cX1_forbidJoining 32 = .ok (.invokevirtual 69, 3) := by decide +kernel
theorem dX1_forbidJoining_35 : decode cX1_forbidJoining 35 = .ok (.ifCond .eq 22, 3) := by decide +kernel
theorem dX1_forbidJoining_38 : decode cX1_forbidJoining 38 = .ok (.aload_n 0, 1) := by decide +kernel
theorem dX1_forbidJoining_39 : decode cX1_forbidJoining 39 = .ok (.aload_n 0, 1) := by decide +kernel
theorem dX1_forbidJoining_40 : decode cX1_forbidJoining 40 = .ok (.getfield 20, 3) := by decide +kernel
theorem dX1_forbidJoining_43 : decode cX1_forbidJoining 43 = .ok (.iload_n 3, 1) := by decide +kernel
theorem dX1_forbidJoining_44 : decode cX1_forbidJoining 44 = .ok (.invokevirtual 54, 3) := by decide +kernel
theorem dX1_forbidJoining_47 : decode cX1_forbidJoining 47 = .ok (.iload_n 1, 1) := by decide +kernel
theorem dX1_forbidJoining_48 : decode cX1_forbidJoining 48 = .ok (.iload_n 2, 1) := by decide +kernel
theorem dX1_forbidJoining_49 : decode cX1_forbidJoining 49 = .ok (.invokevirtual 69, 3) := by decide +kernel
theorem dX1_forbidJoining_52 : decode cX1_forbidJoining 52 = .ok (.ifCond .eq 5, 3) := by decide +kernel
theorem dX1_forbidJoining_55 : decode cX1_forbidJoining 55 = .ok (.iconst 1, 1) := by decide +kernel
theorem dX1_forbidJoining_56 : decode cX1_forbidJoining 56 = .ok (.ireturn, 1) := by decide +kernel
theorem dX1_forbidJoining_57 : decode cX1_forbidJoining 57 = .ok (.iinc 3 1, 3) := by decide +kernel
theorem dX1_forbidJoining_60 : decode cX1_forbidJoining 60 = .ok (.goto (-58), 3) := by decide +kernel
theorem dX1_forbidJoining_63 : decode cX1_forbidJoining 63 = .ok (.iconst 0, 1) := by decide +kernel
theorem dX1_forbidJoining_64 : decode cX1_forbidJoining 64 = .ok (.ireturn, 1) := by decide +kernel
theorem dX1_leads_0 : decode cX1_leads 0 = .ok (.iconst 1, 1) := by decide +kernel
theorem dX1_leads_1 : decode cX1_leads 1 = .ok (.iload_n 1, 1) := by decide +kernel
theorem dX1_leads_2 : decode cX1_leads 2 = .ok (.ishl, 1) := by decide +kernel
theorem dX1_leads_3 : decode cX1_leads 3 = .ok (.istore 4, 2) := by decide +kernel
theorem dX1_leads_5 : decode cX1_leads 5 = .ok (.iconst 0, 1) := by decide +kernel
theorem dX1_leads_6 : decode cX1_leads 6 = .ok (.istore 5, 2) := by decide +kernel
theorem dX1_leads_8 : decode cX1_leads 8 = .ok (.iload 5, 2) := by decide +kernel
theorem dX1_leads_10 : decode cX1_leads 10 = .ok (.bipush 8, 2) := by decide +kernel
theorem dX1_leads_12 : decode cX1_leads 12 = .ok (.if_icmp .ge 100, 3) := by decide +kernel
theorem dX1_leads_15 : decode cX1_leads 15 = .ok (.iload 4, 2) := by decide +kernel
theorem dX1_leads_17 : decode cX1_leads 17 = .ok (.istore 6, 2) := by decide +kernel
theorem dX1_leads_19 : decode cX1_leads 19 = .ok (.iconst 0, 1) := by decide +kernel
theorem dX1_leads_20 : decode cX1_leads 20 = .ok (.istore 7, 2) := by decide +kernel
theorem dX1_leads_22 : decode cX1_leads 22 = .ok (.iload 7, 2) := by decide +kernel
theorem dX1_leads_24 : decode cX1_leads 24 = .ok (.aload_n 0, 1) := by decide +kernel
theorem dX1_leads_25 : decode cX1_leads 25 = .ok (.getfield 29, 3) := by decide +kernel
theorem dX1_leads_28 : decode cX1_leads 28 = .ok (.if_icmp .ge 68, 3) := by decide +kernel
theorem dX1_leads_31 : decode cX1_leads 31 = .ok (.iconst 1, 1) := by decide +kernel
theorem dX1_leads_32 : decode cX1_leads 32 = .ok (.aload_n 0, 1) := by decide +kernel
theorem dX1_leads_33 : decode cX1_leads 33 = .ok (.getfield 14, 3) := by decide +kernel
theorem dX1_leads_36 : decode cX1_leads 36 = .ok (.iload 7, 2) := by decide +kernel
theorem dX1_leads_38 : decode cX1_leads 38 = .ok (.invokevirtual 54, 3) := by decide +kernel
theorem dX1_leads_41 : decode cX1_leads 41 = .ok (.ishl, 1) := by decide +kernel
theorem dX1_leads_42 : decode cX1_leads 42 = .ok (.iconst 1, 1) := by decide +kernel
theorem dX1_leads_43 : decode cX1_leads 43 = .ok (.aload_n 0, 1) := by decide +kernel
theorem dX1_leads_44 : decode cX1_leads 44 = .ok (.getfield 20, 3) := by decide +kernel
theorem dX1_leads_47 : decode cX1_leads 47 = .ok (.iload 7, 2) := by decide +kernel
theorem dX1_leads_49 : decode cX1_leads 49 = .ok (.invokevirtual 54, 3) := by decide +kernel
theorem dX1_leads_52 : decode cX1_leads 52 = .ok (.ishl, 1) := by decide +kernel
theorem dX1_leads_53 : decode cX1_leads 53 = .ok (.ior, 1) := by decide +kernel
theorem dX1_leads_54 : decode cX1_leads 54 = .ok (.istore 8, 2) := by decide +kernel
theorem dX1_leads_56 : decode cX1_leads 56 = .ok (.iload 7, 2) := by decide +kernel
theorem dX1_leads_58 : decode cX1_leads 58 = .ok (.iload_n 3, 1) := by decide +kernel
theorem dX1_leads_59 : decode cX1_leads 59 = .ok (.if_icmp .eq 31, 3) := by decide +kernel
theorem dX1_leads_62 : decode cX1_leads 62 = .ok (.aload_n 0, 1) := by decide +kernel
theorem dX1_leads_63 : decode cX1_leads 63 = .ok (.getfield 23, 3) := by decide +kernel
theorem dX1_leads_66 : decode cX1_leads 66 = .ok (.iload 7, 2) := by decide +kernel
theorem dX1_leads_68 : decode cX1_leads 68 = .ok (.invokevirtual 54, 3) := by decide +kernel
theorem dX1_leads_71 : decode cX1_leads 71 = .ok (.iconst 1, 1) := by decide +kernel
theorem dX1_leads_72 : decode cX1_leads 72 = .ok (.if_icmp .ne 18, 3) := by decide +kernel
theorem dX1_leads_75 : decode cX1_leads 75 = .ok (.iload 4, 2) := by decide +kernel
theorem dX1_leads_77 : decode cX1_leads 77 = .ok (.iload 8, 2) := by decide +kernel
theorem dX1_leads_79 : decode cX1_leads 79 = .ok (.iand, 1) := by decide +kernel
theorem dX1_leads_80 : decode cX1_leads 80 = .ok (.ifCond .eq 10, 3) := by decide +kernel
theorem dX1_leads_83 : decode cX1_leads 83 = .ok (.iload 4, 2) := by decide +kernel
theorem dX1_leads_85 : decode cX1_leads 85 = .ok (.iload 8, 2) := by decide +kernel
theorem dX1_leads_87 : decode cX1_leads 87 = .ok (.ior, 1) := by decide +kernel
theorem dX1_leads_88 : decode cX1_leads 88 = .ok (.istore 4, 2) := by decide +kernel
theorem dX1_leads_90 : decode cX1_leads 90 = .ok (.iinc 7 1, 3) := by decide +kernel
theorem dX1_leads_93 : decode cX1_leads 93 = .ok (.goto (-71), 3) := by decide +kernel
theorem dX1_leads_96 : decode cX1_leads 96 = .ok (.iload 4, 2) := by decide +kernel
theorem dX1_leads_98 : decode cX1_leads 98 = .ok (.iload 6, 2) := by decide +kernel
theorem dX1_leads_100 : decode cX1_leads 100 = .ok (.if_icmp .ne 6, 3) := by decide +kernel
theorem dX1_leads_103 : decode cX1_leads 103 = .ok (.goto 9, 3) := by decide +kernel
theorem dX1_leads_106 : decode cX1_leads 106 = .ok (.iinc 5 1, 3) := by decide +kernel
theorem dX1_leads_109 : decode cX1_leads 109 = .ok (.goto (-101), 3) := by decide +kernel
theorem dX1_leads_112 : decode cX1_leads 112 = .ok (.iload 4, 2) := by decide +kernel
theorem dX1_leads_114 : decode cX1_leads 114 = .ok (.iconst 1, 1) := by decide +kernel
theorem dX1_leads_115 : decode cX1_leads 115 = .ok (.iload_n 2, 1) := by decide +kernel
theorem dX1_leads_116 : decode cX1_leads 116 = .ok (.ishl, 1) := by decide +kernel
theorem dX1_leads_117 : decode cX1_leads 117 = .ok (.iand, 1) := by decide +kernel
theorem dX1_leads_118 : decode cX1_leads 118 = .ok (.ifCond .eq 7, 3) := by decide +kernel
theorem dX1_leads_121 : decode cX1_leads 121 = .ok (.iconst 1, 1) := by decide +kernel
theorem dX1_leads_122 : decode cX1_leads 122 = .ok (.goto 4, 3) := by decide +kernel
theorem dX1_leads_125 : decode cX1_leads 125 = .ok (.iconst 0, 1) := by decide +kernel
theorem dX1_leads_126 : decode cX1_leads 126 = .ok (.ireturn, 1) := by decide +kernel
theorem dX1_holdsTogether_0 : decode cX1_holdsTogether 0 = .ok (.aload_n 0, 1) := by decide +kernel
theorem dX1_holdsTogether_1 : decode cX1_holdsTogether 1 = .ok (.getfield 23, 3) := by decide +kernel
theorem dX1_holdsTogether_4 : decode cX1_holdsTogether 4 = .ok (.iload_n 1, 1) := by decide +kernel
theorem dX1_holdsTogether_5 : decode cX1_holdsTogether 5 = .ok (.invokevirtual 54, 3) := by decide +kernel
theorem dX1_holdsTogether_8 : decode cX1_holdsTogether 8 = .ok (.iconst 1, 1) := by decide +kernel
theorem dX1_holdsTogether_9 : decode cX1_holdsTogether 9 = .ok (.if_icmp .ne 31, 3) := by decide +kernel
theorem dX1_holdsTogether_12 : decode cX1_holdsTogether 12 = .ok (.aload_n 0, 1) := by decide +kernel
theorem dX1_holdsTogether_13 : decode cX1_holdsTogether 13 = .ok (.aload_n 0, 1) := by decide +kernel
theorem dX1_holdsTogether_14 : decode cX1_holdsTogether 14 = .ok (.getfield 14, 3) := by decide +kernel
theorem dX1_holdsTogether_17 : decode cX1_holdsTogether 17 = .ok (.iload_n 1, 1) := by decide +kernel
theorem dX1_holdsTogether_18 : decode cX1_holdsTogether 18 = .ok (.invokevirtual 54, 3) := by decide +kernel
theorem dX1_holdsTogether_21 : decode cX1_holdsTogether 21 = .ok (.aload_n 0, 1) := by decide +kernel
theorem dX1_holdsTogether_22 : decode cX1_holdsTogether 22 = .ok (.getfield 20, 3) := by decide +kernel
theorem dX1_holdsTogether_25 : decode cX1_holdsTogether 25 = .ok (.iload_n 1, 1) := by decide +kernel
theorem dX1_holdsTogether_26 : decode cX1_holdsTogether 26 = .ok (.invokevirtual 54, 3) := by decide +kernel
theorem dX1_holdsTogether_29 : decode cX1_holdsTogether 29 = .ok (.iload_n 1, 1) := by decide +kernel
theorem dX1_holdsTogether_30 : decode cX1_holdsTogether 30 = .ok (.invokevirtual 73, 3) := by decide +kernel
theorem dX1_holdsTogether_33 : decode cX1_holdsTogether 33 = .ok (.ifCond .ne 7, 3) := by decide +kernel
theorem dX1_holdsTogether_36 : decode cX1_holdsTogether 36 = .ok (.iconst 1, 1) := by decide +kernel
theorem dX1_holdsTogether_37 : decode cX1_holdsTogether 37 = .ok (.goto 4, 3) := by decide +kernel
theorem dX1_holdsTogether_40 : decode cX1_holdsTogether 40 = .ok (.iconst 0, 1) := by decide +kernel
theorem dX1_holdsTogether_41 : decode cX1_holdsTogether 41 = .ok (.ireturn, 1) := by decide +kernel
theorem dX1_isOf_0 : decode cX1_isOf 0 = .ok (.aload_n 0, 1) := by decide +kernel
theorem dX1_isOf_1 : decode cX1_isOf 1 = .ok (.getfield 14, 3) := by decide +kernel
theorem dX1_isOf_4 : decode cX1_isOf 4 = .ok (.iload_n 1, 1) := by decide +kernel
theorem dX1_isOf_5 : decode cX1_isOf 5 = .ok (.invokevirtual 54, 3) := by decide +kernel
theorem dX1_isOf_8 : decode cX1_isOf 8 = .ok (.iload_n 2, 1) := by decide +kernel
theorem dX1_isOf_9 : decode cX1_isOf 9 = .ok (.if_icmp .eq 15, 3) := by decide +kernel
theorem dX1_isOf_12 : decode cX1_isOf 12 = .ok (.aload_n 0, 1) := by decide +kernel
theorem dX1_isOf_13 : decode cX1_isOf 13 = .ok (.getfield 20, 3) := by decide +kernel
theorem dX1_isOf_16 : decode cX1_isOf 16 = .ok (.iload_n 1, 1) := by decide +kernel
theorem dX1_isOf_17 : decode cX1_isOf 17 = .ok (.invokevirtual 54, 3) := by decide +kernel
theorem dX1_isOf_20 : decode cX1_isOf 20 = .ok (.iload_n 2, 1) := by decide +kernel
theorem dX1_isOf_21 : decode cX1_isOf 21 = .ok (.if_icmp .ne 7, 3) := by decide +kernel
theorem dX1_isOf_24 : decode cX1_isOf 24 = .ok (.iconst 1, 1) := by decide +kernel
theorem dX1_isOf_25 : decode cX1_isOf 25 = .ok (.goto 4, 3) := by decide +kernel
theorem dX1_isOf_28 : decode cX1_isOf 28 = .ok (.iconst 0, 1) := by decide +kernel
theorem dX1_isOf_29 : decode cX1_isOf 29 = .ok (.ireturn, 1) := by decide +kernel
theorem dX1_isInHands_0 : decode cX1_isInHands 0 = .ok (.aload_n 0, 1) := by decide +kernel
theorem dX1_isInHands_1 : decode cX1_isInHands 1 = .ok (.getfield 26, 3) := by decide +kernel
theorem dX1_isInHands_4 : decode cX1_isInHands 4 = .ok (.iload_n 1, 1) := by decide +kernel
theorem dX1_isInHands_5 : decode cX1_isInHands 5 = .ok (.invokevirtual 54, 3) := by decide +kernel
theorem dX1_isInHands_8 : decode cX1_isInHands 8 = .ok (.istore 4, 2) := by decide +kernel
theorem dX1_isInHands_10 : decode cX1_isInHands 10 = .ok (.iload 4, 2) := by decide +kernel
theorem dX1_isInHands_12 : decode cX1_isInHands 12 = .ok (.aload_n 0, 1) := by decide +kernel
theorem dX1_isInHands_13 : decode cX1_isInHands 13 = .ok (.getfield 26, 3) := by decide +kernel
theorem dX1_isInHands_16 : decode cX1_isInHands 16 = .ok (.iload_n 2, 1) := by decide +kernel
theorem dX1_isInHands_17 : decode cX1_isInHands 17 = .ok (.invokevirtual 54, 3) := by decide +kernel
theorem dX1_isInHands_20 : decode cX1_isInHands 20 = .ok (.if_icmp .eq 16, 3) := by decide +kernel
theorem dX1_isInHands_23 : decode cX1_isInHands 23 = .ok (.iload 4, 2) := by decide +kernel
theorem dX1_isInHands_25 : decode cX1_isInHands 25 = .ok (.aload_n 0, 1) := by decide +kernel
theorem dX1_isInHands_26 : decode cX1_isInHands 26 = .ok (.getfield 26, 3) := by decide +kernel
theorem dX1_isInHands_29 : decode cX1_isInHands 29 = .ok (.iload_n 3, 1) := by decide +kernel
theorem dX1_isInHands_30 : decode cX1_isInHands 30 = .ok (.invokevirtual 54, 3) := by decide +kernel
theorem dX1_isInHands_33 : decode cX1_isInHands 33 = .ok (.if_icmp .ne 7, 3) := by decide +kernel
theorem dX1_isInHands_36 : decode cX1_isInHands 36 = .ok (.iconst 1, 1) := by decide +kernel
theorem dX1_isInHands_37 : decode cX1_isInHands 37 = .ok (.goto 4, 3) := by decide +kernel
theorem dX1_isInHands_40 : decode cX1_isInHands 40 = .ok (.iconst 0, 1) := by decide +kernel
theorem dX1_isInHands_41 : decode cX1_isInHands 41 = .ok (.ireturn, 1) := by decide +kernel
theorem dX1_takeOut_0 : decode cX1_takeOut 0 = .ok (.iload_n 1, 1) := by decide +kernel
theorem dX1_takeOut_1 : decode cX1_takeOut 1 = .ok (.ifCond .lt 11, 3) := by decide +kernel
theorem dX1_takeOut_4 : decode cX1_takeOut 4 = .ok (.iload_n 1, 1) := by decide +kernel
theorem dX1_takeOut_5 : decode cX1_takeOut 5 = .ok (.aload_n 0, 1) := by decide +kernel
theorem dX1_takeOut_6 : decode cX1_takeOut 6 = .ok (.getfield 29, 3) := by decide +kernel
theorem dX1_takeOut_9 : decode cX1_takeOut 9 = .ok (.if_icmp .lt 4, 3) := by decide +kernel
theorem dX1_takeOut_12 : decode cX1_takeOut 12 = .ok (.return_, 1) := by decide +kernel
theorem dX1_takeOut_13 : decode cX1_takeOut 13 = .ok (.aload_n 0, 1) := by decide +kernel
theorem dX1_takeOut_14 : decode cX1_takeOut 14 = .ok (.getfield 14, 3) := by decide +kernel
theorem dX1_takeOut_17 : decode cX1_takeOut 17 = .ok (.iload_n 1, 1) := by decide +kernel
theorem dX1_takeOut_18 : decode cX1_takeOut 18 = .ok (.invokevirtual 76, 3) := by decide +kernel
theorem dX1_takeOut_21 : decode cX1_takeOut 21 = .ok (.aload_n 0, 1) := by decide +kernel
theorem dX1_takeOut_22 : decode cX1_takeOut 22 = .ok (.getfield 20, 3) := by decide +kernel
theorem dX1_takeOut_25 : decode cX1_takeOut 25 = .ok (.iload_n 1, 1) := by decide +kernel
theorem dX1_takeOut_26 : decode cX1_takeOut 26 = .ok (.invokevirtual 76, 3) := by decide +kernel
theorem dX1_takeOut_29 : decode cX1_takeOut 29 = .ok (.aload_n 0, 1) := by decide +kernel
theorem dX1_takeOut_30 : decode cX1_takeOut 30 = .ok (.getfield 23, 3) := by decide +kernel
theorem dX1_takeOut_33 : decode cX1_takeOut 33 = .ok (.iload_n 1, 1) := by decide +kernel
theorem dX1_takeOut_34 : decode cX1_takeOut 34 = .ok (.invokevirtual 76, 3) := by decide +kernel
theorem dX1_takeOut_37 : decode cX1_takeOut 37 = .ok (.aload_n 0, 1) := by decide +kernel
theorem dX1_takeOut_38 : decode cX1_takeOut 38 = .ok (.dup, 1) := by decide +kernel
theorem dX1_takeOut_39 : decode cX1_takeOut 39 = .ok (.getfield 29, 3) := by decide +kernel
theorem dX1_takeOut_42 : decode cX1_takeOut 42 = .ok (.iconst 1, 1) := by decide +kernel
theorem dX1_takeOut_43 : decode cX1_takeOut 43 = .ok (.isub, 1) := by decide +kernel
theorem dX1_takeOut_44 : decode cX1_takeOut 44 = .ok (.putfield 29, 3) := by decide +kernel
theorem dX1_takeOut_47 : decode cX1_takeOut 47 = .ok (.return_, 1) := by decide +kernel
theorem dX1_joinHands_0 : decode cX1_joinHands 0 = .ok (.iconst 0, 1) := by decide +kernel
theorem dX1_joinHands_1 : decode cX1_joinHands 1 = .ok (.istore_n 1, 1) := by decide +kernel
theorem dX1_joinHands_2 : decode cX1_joinHands 2 = .ok (.iload_n 1, 1) := by decide +kernel
theorem dX1_joinHands_3 : decode cX1_joinHands 3 = .ok (.bipush 8, 2) := by decide +kernel
theorem dX1_joinHands_5 : decode cX1_joinHands 5 = .ok (.if_icmp .ge 18, 3) := by decide +kernel
theorem dX1_joinHands_8 : decode cX1_joinHands 8 = .ok (.aload_n 0, 1) := by decide +kernel
theorem dX1_joinHands_9 : decode cX1_joinHands 9 = .ok (.getfield 26, 3) := by decide +kernel
theorem dX1_joinHands_12 : decode cX1_joinHands 12 = .ok (.iload_n 1, 1) := by decide +kernel
theorem dX1_joinHands_13 : decode cX1_joinHands 13 = .ok (.iload_n 1, 1) := by decide +kernel
theorem dX1_joinHands_14 : decode cX1_joinHands 14 = .ok (.invokevirtual 40, 3) := by decide +kernel
theorem dX1_joinHands_17 : decode cX1_joinHands 17 = .ok (.iinc 1 1, 3) := by decide +kernel
theorem dX1_joinHands_20 : decode cX1_joinHands 20 = .ok (.goto (-18), 3) := by decide +kernel
theorem dX1_joinHands_23 : decode cX1_joinHands 23 = .ok (.iconst 0, 1) := by decide +kernel
theorem dX1_joinHands_24 : decode cX1_joinHands 24 = .ok (.istore_n 1, 1) := by decide +kernel
theorem dX1_joinHands_25 : decode cX1_joinHands 25 = .ok (.iload_n 1, 1) := by decide +kernel
theorem dX1_joinHands_26 : decode cX1_joinHands 26 = .ok (.aload_n 0, 1) := by decide +kernel
theorem dX1_joinHands_27 : decode cX1_joinHands 27 = .ok (.getfield 29, 3) := by decide +kernel
theorem dX1_joinHands_30 : decode cX1_joinHands 30 = .ok (.if_icmp .ge 55, 3) := by decide +kernel
theorem dX1_joinHands_33 : decode cX1_joinHands 33 = .ok (.aload_n 0, 1) := by decide +kernel
theorem dX1_joinHands_34 : decode cX1_joinHands 34 = .ok (.getfield 23, 3) := by decide +kernel
theorem dX1_joinHands_37 : decode cX1_joinHands 37 = .ok (.iload_n 1, 1) := by decide +kernel
theorem dX1_joinHands_38 : decode cX1_joinHands 38 = .ok (.invokevirtual 54, 3) := by decide +kernel
theorem dX1_joinHands_41 : decode cX1_joinHands 41 = .ok (.iconst 1, 1) := by decide +kernel
theorem dX1_joinHands_42 : decode cX1_joinHands 42 = .ok (.if_icmp .ne 37, 3) := by decide +kernel
theorem dX1_joinHands_45 : decode cX1_joinHands 45 = .ok (.aload_n 0, 1) := by decide +kernel
theorem dX1_joinHands_46 : decode cX1_joinHands 46 = .ok (.aload_n 0, 1) := by decide +kernel
theorem dX1_joinHands_47 : decode cX1_joinHands 47 = .ok (.getfield 26, 3) := by decide +kernel
theorem dX1_joinHands_50 : decode cX1_joinHands 50 = .ok (.aload_n 0, 1) := by decide +kernel
theorem dX1_joinHands_51 : decode cX1_joinHands 51 = .ok (.getfield 14, 3) := by decide +kernel
theorem dX1_joinHands_54 : decode cX1_joinHands 54 = .ok (.iload_n 1, 1) := by decide +kernel
theorem dX1_joinHands_55 : decode cX1_joinHands 55 = .ok (.invokevirtual 54, 3) := by decide +kernel
theorem dX1_joinHands_58 : decode cX1_joinHands 58 = .ok (.invokevirtual 54, 3) := by decide +kernel
theorem dX1_joinHands_61 : decode cX1_joinHands 61 = .ok (.aload_n 0, 1) := by decide +kernel
theorem dX1_joinHands_62 : decode cX1_joinHands 62 = .ok (.getfield 26, 3) := by decide +kernel
theorem dX1_joinHands_65 : decode cX1_joinHands 65 = .ok (.aload_n 0, 1) := by decide +kernel
theorem dX1_joinHands_66 : decode cX1_joinHands 66 = .ok (.getfield 20, 3) := by decide +kernel
theorem dX1_joinHands_69 : decode cX1_joinHands 69 = .ok (.iload_n 1, 1) := by decide +kernel
theorem dX1_joinHands_70 : decode cX1_joinHands 70 = .ok (.invokevirtual 54, 3) := by decide +kernel
theorem dX1_joinHands_73 : decode cX1_joinHands 73 = .ok (.invokevirtual 54, 3) := by decide +kernel
theorem dX1_joinHands_76 : decode cX1_joinHands 76 = .ok (.invokevirtual 79, 3) := by decide +kernel
theorem dX1_joinHands_79 : decode cX1_joinHands 79 = .ok (.iinc 1 1, 3) := by decide +kernel
theorem dX1_joinHands_82 : decode cX1_joinHands 82 = .ok (.goto (-57), 3) := by decide +kernel
theorem dX1_joinHands_85 : decode cX1_joinHands 85 = .ok (.return_, 1) := by decide +kernel
theorem dX1_joinTwo_0 : decode cX1_joinTwo 0 = .ok (.iload_n 1, 1) := by decide +kernel
theorem dX1_joinTwo_1 : decode cX1_joinTwo 1 = .ok (.iload_n 2, 1) := by decide +kernel
theorem dX1_joinTwo_2 : decode cX1_joinTwo 2 = .ok (.invokestatic 82, 3) := by decide +kernel
theorem dX1_joinTwo_5 : decode cX1_joinTwo 5 = .ok (.istore_n 3, 1) := by decide +kernel
theorem dX1_joinTwo_6 : decode cX1_joinTwo 6 = .ok (.iconst 0, 1) := by decide +kernel
theorem dX1_joinTwo_7 : decode cX1_joinTwo 7 = .ok (.istore 4, 2) := by decide +kernel
theorem dX1_joinTwo_9 : decode cX1_joinTwo 9 = .ok (.iload 4, 2) := by decide +kernel
theorem dX1_joinTwo_11 : decode cX1_joinTwo 11 = .ok (.bipush 8, 2) := by decide +kernel
theorem dX1_joinTwo_13 : decode cX1_joinTwo 13 = .ok (.if_icmp .ge 45, 3) := by decide +kernel
theorem dX1_joinTwo_16 : decode cX1_joinTwo 16 = .ok (.aload_n 0, 1) := by decide +kernel
theorem dX1_joinTwo_17 : decode cX1_joinTwo 17 = .ok (.getfield 26, 3) := by decide +kernel
theorem dX1_joinTwo_20 : decode cX1_joinTwo 20 = .ok (.iload 4, 2) := by decide +kernel
theorem dX1_joinTwo_22 : decode cX1_joinTwo 22 = .ok (.invokevirtual 54, 3) := by decide +kernel
theorem dX1_joinTwo_25 : decode cX1_joinTwo 25 = .ok (.iload_n 1, 1) := by decide +kernel
theorem dX1_joinTwo_26 : decode cX1_joinTwo 26 = .ok (.if_icmp .eq 16, 3) := by decide +kernel
theorem dX1_joinTwo_29 : decode cX1_joinTwo 29 = .ok (.aload_n 0, 1) := by decide +kernel
theorem dX1_joinTwo_30 : decode cX1_joinTwo 30 = .ok (.getfield 26, 3) := by decide +kernel
theorem dX1_joinTwo_33 : decode cX1_joinTwo 33 = .ok (.iload 4, 2) := by decide +kernel
theorem dX1_joinTwo_35 : decode cX1_joinTwo 35 = .ok (.invokevirtual 54, 3) := by decide +kernel
theorem dX1_joinTwo_38 : decode cX1_joinTwo 38 = .ok (.iload_n 2, 1) := by decide +kernel
theorem dX1_joinTwo_39 : decode cX1_joinTwo 39 = .ok (.if_icmp .ne 13, 3) := by decide +kernel
theorem dX1_joinTwo_42 : decode cX1_joinTwo 42 = .ok (.aload_n 0, 1) := by decide +kernel
theorem dX1_joinTwo_43 : decode cX1_joinTwo 43 = .ok (.getfield 26, 3) := by decide +kernel
theorem dX1_joinTwo_46 : decode cX1_joinTwo 46 = .ok (.iload 4, 2) := by decide +kernel
theorem dX1_joinTwo_48 : decode cX1_joinTwo 48 = .ok (.iload_n 3, 1) := by decide +kernel
theorem dX1_joinTwo_49 : decode cX1_joinTwo 49 = .ok (.invokevirtual 40, 3) := by decide +kernel
theorem dX1_joinTwo_52 : decode cX1_joinTwo 52 = .ok (.iinc 4 1, 3) := by decide +kernel
theorem dX1_joinTwo_55 : decode cX1_joinTwo 55 = .ok (.goto (-46), 3) := by decide +kernel
theorem dX1_joinTwo_58 : decode cX1_joinTwo 58 = .ok (.return_, 1) := by decide +kernel
theorem dX1_numberWithout_0 : decode cX1_numberWithout 0 = .ok (.iload_n 1, 1) := by decide +kernel
theorem dX1_numberWithout_1 : decode cX1_numberWithout 1 = .ok (.iload_n 0, 1) := by decide +kernel
theorem dX1_numberWithout_2 : decode cX1_numberWithout 2 = .ok (.if_icmp .le 9, 3) := by decide +kernel
theorem dX1_numberWithout_5 : decode cX1_numberWithout 5 = .ok (.iload_n 1, 1) := by decide +kernel
theorem dX1_numberWithout_6 : decode cX1_numberWithout 6 = .ok (.iconst 1, 1) := by decide +kernel
theorem dX1_numberWithout_7 : decode cX1_numberWithout 7 = .ok (.isub, 1) := by decide +kernel
theorem dX1_numberWithout_8 : decode cX1_numberWithout 8 = .ok (.goto 4, 3) := by decide +kernel
theorem dX1_numberWithout_11 : decode cX1_numberWithout 11 = .ok (.iload_n 1, 1) := by decide +kernel
theorem dX1_numberWithout_12 : decode cX1_numberWithout 12 = .ok (.ireturn, 1) := by decide +kernel
