theorem dX6_init_0 : decode cX6_init 0 = .ok (.aload_n 0, 1) := by decide +kernel
theorem dX6_init_1 : decode cX6_init 1 = .ok (.invokespecial 1, 3) := by decide +kernel
theorem dX6_init_4 : decode cX6_init 4 = .ok (.aload_n 0, 1) := by decide +kernel
theorem dX6_init_5 : decode cX6_init 5 = .ok (.new 7, 3) := by decide +kernel
theorem dX6_init_8 : decode cX6_init 8 = .ok (.dup, 1) := by decide +kernel
theorem dX6_init_9 : decode cX6_init 9 = .ok (.invokespecial 9, 3) := by decide +kernel
theorem dX6_init_12 : decode cX6_init 12 = .ok (.putfield 10, 3) := by decide +kernel
theorem dX6_init_15 : decode cX6_init 15 = .ok (.aload_n 0, 1) := by decide +kernel
theorem dX6_init_16 : decode cX6_init 16 = .ok (.new 16, 3) := by decide +kernel
theorem dX6_init_19 : decode cX6_init 19 = .ok (.dup, 1) := by decide +kernel
theorem dX6_init_20 : decode cX6_init 20 = .ok (.invokespecial 18, 3) := by decide +kernel
theorem dX6_init_23 : decode cX6_init 23 = .ok (.putfield 19, 3) := by decide +kernel
theorem dX6_init_26 : decode cX6_init 26 = .ok (.aload_n 0, 1) := by decide +kernel
theorem dX6_init_27 : decode cX6_init 27 = .ok (.new 23, 3) := by decide +kernel
theorem dX6_init_30 : decode cX6_init 30 = .ok (.dup, 1) := by decide +kernel
theorem dX6_init_31 : decode cX6_init 31 = .ok (.invokespecial 25, 3) := by decide +kernel
theorem dX6_init_34 : decode cX6_init 34 = .ok (.putfield 26, 3) := by decide +kernel
theorem dX6_init_37 : decode cX6_init 37 = .ok (.aload_n 0, 1) := by decide +kernel
theorem dX6_init_38 : decode cX6_init 38 = .ok (.new 16, 3) := by decide +kernel
theorem dX6_init_41 : decode cX6_init 41 = .ok (.dup, 1) := by decide +kernel
theorem dX6_init_42 : decode cX6_init 42 = .ok (.invokespecial 18, 3) := by decide +kernel
theorem dX6_init_45 : decode cX6_init 45 = .ok (.putfield 30, 3) := by decide +kernel
theorem dX6_init_48 : decode cX6_init 48 = .ok (.aload_n 0, 1) := by decide +kernel
theorem dX6_init_49 : decode cX6_init 49 = .ok (.iconst 0, 1) := by decide +kernel
theorem dX6_init_50 : decode cX6_init 50 = .ok (.putfield 33, 3) := by decide +kernel
theorem dX6_init_53 : decode cX6_init 53 = .ok (.return_, 1) := by decide +kernel
theorem dX6_lay_0 : decode cX6_lay 0 = .ok (.iload_n 1, 1) := by decide +kernel
theorem dX6_lay_1 : decode cX6_lay 1 = .ok (.ifCond .lt 19, 3) := by decide +kernel
theorem dX6_lay_4 : decode cX6_lay 4 = .ok (.iload_n 1, 1) := by decide +kernel
theorem dX6_lay_5 : decode cX6_lay 5 = .ok (.bipush 99, 2) := by decide +kernel
theorem dX6_lay_7 : decode cX6_lay 7 = .ok (.if_icmp .gt 13, 3) := by decide +kernel
theorem dX6_lay_10 : decode cX6_lay 10 = .ok (.aload_n 0, 1) := by decide +kernel
theorem dX6_lay_11 : decode cX6_lay 11 = .ok (.getfield 10, 3) := by decide +kernel
theorem dX6_lay_14 : decode cX6_lay 14 = .ok (.invokevirtual 37, 3) := by decide +kernel
theorem dX6_lay_17 : decode cX6_lay 17 = .ok (.ifCond .ne 13, 3) := by decide +kernel
theorem dX6_lay_20 : decode cX6_lay 20 = .ok (.new 41, 3) := by decide +kernel
theorem dX6_lay_23 : decode cX6_lay 23 = .ok (.dup, 1) := by decide +kernel
theorem dX6_lay_24 : decode cX6_lay 24 = .ok (.ldc 43, 2) := by decide +kernel
theorem dX6_lay_26 : decode cX6_lay 26 = .ok (.invokespecial 45, 3) := by decide +kernel
theorem dX6_lay_29 : decode cX6_lay 29 = .ok (.athrow, 1) := by decide +kernel
theorem dX6_lay_30 : decode cX6_lay 30 = .ok (.aload_n 0, 1) := by decide +kernel
theorem dX6_lay_31 : decode cX6_lay 31 = .ok (.getfield 19, 3) := by decide +kernel
theorem dX6_lay_34 : decode cX6_lay 34 = .ok (.getfield 48, 3) := by decide +kernel
theorem dX6_lay_37 : decode cX6_lay 37 = .ok (.bipush 8, 2) := by decide +kernel
theorem dX6_lay_39 : decode cX6_lay 39 = .ok (.if_icmp .lt 13, 3) := by decide +kernel
theorem dX6_lay_42 : decode cX6_lay 42 = .ok (.new 52, 3) := by decide +kernel
theorem dX6_lay_45 : decode cX6_lay 45 = .ok (.dup, 1) := by decide +kernel
theorem dX6_lay_46 : decode cX6_lay 46 = .ok (.ldc 54, 2) := by decide +kernel
theorem dX6_lay_48 : decode cX6_lay 48 = .ok (.invokespecial 56, 3) := by decide +kernel
theorem dX6_lay_51 : decode cX6_lay 51 = .ok (.athrow, 1) := by decide +kernel
theorem dX6_lay_52 : decode cX6_lay 52 = .ok (.aload_n 0, 1) := by decide +kernel
theorem dX6_lay_53 : decode cX6_lay 53 = .ok (.getfield 26, 3) := by decide +kernel
theorem dX6_lay_56 : decode cX6_lay 56 = .ok (.aload_n 0, 1) := by decide +kernel
theorem dX6_lay_57 : decode cX6_lay 57 = .ok (.getfield 19, 3) := by decide +kernel
theorem dX6_lay_60 : decode cX6_lay 60 = .ok (.invokevirtual 57, 3) := by decide +kernel
theorem dX6_lay_63 : decode cX6_lay 63 = .ok (.new 61, 3) := by decide +kernel
theorem dX6_lay_66 : decode cX6_lay 66 = .ok (.dup, 1) := by decide +kernel
theorem dX6_lay_67 : decode cX6_lay 67 = .ok (.aload_n 0, 1) := by decide +kernel
theorem dX6_lay_68 : decode cX6_lay 68 = .ok (.getfield 10, 3) := by decide +kernel
theorem dX6_lay_71 : decode cX6_lay 71 = .ok (.getfield 63, 3) := by decide +kernel
theorem dX6_lay_74 : decode cX6_lay 74 = .ok (.aload_n 0, 1) := by decide +kernel
theorem dX6_lay_75 : decode cX6_lay 75 = .ok (.getfield 10, 3) := by decide +kernel
theorem dX6_lay_78 : decode cX6_lay 78 = .ok (.getfield 66, 3) := by decide +kernel
theorem dX6_lay_81 : decode cX6_lay 81 = .ok (.invokespecial 70, 3) := by decide +kernel
theorem dX6_lay_84 : decode cX6_lay 84 = .ok (.astore_n 2, 1) := by decide +kernel
theorem dX6_lay_85 : decode cX6_lay 85 = .ok (.aload_n 2, 1) := by decide +kernel
theorem dX6_lay_86 : decode cX6_lay 86 = .ok (.invokevirtual 73, 3) := by decide +kernel
theorem dX6_lay_89 : decode cX6_lay 89 = .ok (.aload_n 0, 1) := by decide +kernel
theorem dX6_lay_90 : decode cX6_lay 90 = .ok (.getfield 19, 3) := by decide +kernel
theorem dX6_lay_93 : decode cX6_lay 93 = .ok (.aload_n 2, 1) := by decide +kernel
theorem dX6_lay_94 : decode cX6_lay 94 = .ok (.iload_n 1, 1) := by decide +kernel
theorem dX6_lay_95 : decode cX6_lay 95 = .ok (.invokevirtual 76, 3) := by decide +kernel
theorem dX6_lay_98 : decode cX6_lay 98 = .ok (.istore_n 3, 1) := by decide +kernel
theorem dX6_lay_99 : decode cX6_lay 99 = .ok (.aload_n 0, 1) := by decide +kernel
theorem dX6_lay_100 : decode cX6_lay 100 = .ok (.getfield 10, 3) := by decide +kernel
theorem dX6_lay_103 : decode cX6_lay 103 = .ok (.invokevirtual 80, 3) := by decide +kernel
theorem dX6_lay_106 : decode cX6_lay 106 = .ok (.iload_n 3, 1) := by decide +kernel
theorem dX6_lay_107 : decode cX6_lay 107 = .ok (.ireturn, 1) := by decide +kernel
theorem dX6_drop_0 : decode cX6_drop 0 = .ok (.aload_n 0, 1) := by decide +kernel
theorem dX6_drop_1 : decode cX6_drop 1 = .ok (.iload_n 1, 1) := by decide +kernel
theorem dX6_drop_2 : decode cX6_drop 2 = .ok (.invokevirtual 83, 3) := by decide +kernel
theorem dX6_drop_5 : decode cX6_drop 5 = .ok (.ifCond .ne 13, 3) := by decide +kernel
theorem dX6_drop_8 : decode cX6_drop 8 = .ok (.new 87, 3) := by decide +kernel
theorem dX6_drop_11 : decode cX6_drop 11 = .ok (.dup, 1) := by decide +kernel
theorem dX6_drop_12 : decode cX6_drop 12 = .ok (.ldc 89, 2) := by decide +kernel
theorem dX6_drop_14 : decode cX6_drop 14 = .ok (.invokespecial 91, 3) := by decide +kernel
theorem dX6_drop_17 : decode cX6_drop 17 = .ok (.athrow, 1) := by decide +kernel
theorem dX6_drop_18 : decode cX6_drop 18 = .ok (.aload_n 0, 1) := by decide +kernel
theorem dX6_drop_19 : decode cX6_drop 19 = .ok (.getfield 26, 3) := by decide +kernel
theorem dX6_drop_22 : decode cX6_drop 22 = .ok (.aload_n 0, 1) := by decide +kernel
theorem dX6_drop_23 : decode cX6_drop 23 = .ok (.getfield 19, 3) := by decide +kernel
theorem dX6_drop_26 : decode cX6_drop 26 = .ok (.invokevirtual 57, 3) := by decide +kernel
theorem dX6_drop_29 : decode cX6_drop 29 = .ok (.aload_n 0, 1) := by decide +kernel
theorem dX6_drop_30 : decode cX6_drop 30 = .ok (.getfield 19, 3) := by decide +kernel
theorem dX6_drop_33 : decode cX6_drop 33 = .ok (.iload_n 1, 1) := by decide +kernel
theorem dX6_drop_34 : decode cX6_drop 34 = .ok (.invokevirtual 92, 3) := by decide +kernel
theorem dX6_drop_37 : decode cX6_drop 37 = .ok (.ireturn, 1) := by decide +kernel
theorem dX6_pass_0 : decode cX6_pass 0 = .ok (.iload_n 1, 1) := by decide +kernel
theorem dX6_pass_1 : decode cX6_pass 1 = .ok (.iconst 1, 1) := by decide +kernel
theorem dX6_pass_2 : decode cX6_pass 2 = .ok (.if_icmp .lt 9, 3) := by decide +kernel
theorem dX6_pass_5 : decode cX6_pass 5 = .ok (.iload_n 1, 1) := by decide +kernel
theorem dX6_pass_6 : decode cX6_pass 6 = .ok (.bipush 99, 2) := by decide +kernel
theorem dX6_pass_8 : decode cX6_pass 8 = .ok (.if_icmp .le 13, 3) := by decide +kernel
theorem dX6_pass_11 : decode cX6_pass 11 = .ok (.new 41, 3) := by decide +kernel
theorem dX6_pass_14 : decode cX6_pass 14 = .ok (.dup, 1) := by decide +kernel
theorem dX6_pass_15 : decode cX6_pass 15 = .ok (.ldc 96, 2) := by decide +kernel
theorem dX6_pass_17 : decode cX6_pass 17 = .ok (.invokespecial 45, 3) := by decide +kernel
theorem dX6_pass_20 : decode cX6_pass 20 = .ok (.athrow, 1) := by decide +kernel
theorem dX6_pass_21 : decode cX6_pass 21 = .ok (.aload_n 0, 1) := by decide +kernel
theorem dX6_pass_22 : decode cX6_pass 22 = .ok (.getfield 26, 3) := by decide +kernel
theorem dX6_pass_25 : decode cX6_pass 25 = .ok (.aload_n 0, 1) := by decide +kernel
theorem dX6_pass_26 : decode cX6_pass 26 = .ok (.getfield 19, 3) := by decide +kernel
theorem dX6_pass_29 : decode cX6_pass 29 = .ok (.invokevirtual 57, 3) := by decide +kernel
theorem dX6_pass_32 : decode cX6_pass 32 = .ok (.aload_n 0, 1) := by decide +kernel
theorem dX6_pass_33 : decode cX6_pass 33 = .ok (.getfield 19, 3) := by decide +kernel
theorem dX6_pass_36 : decode cX6_pass 36 = .ok (.iload_n 1, 1) := by decide +kernel
theorem dX6_pass_37 : decode cX6_pass 37 = .ok (.invokevirtual 98, 3) := by decide +kernel
theorem dX6_pass_40 : decode cX6_pass 40 = .ok (.ireturn, 1) := by decide +kernel
theorem dX6_set_0 : decode cX6_set 0 = .ok (.iload_n 1, 1) := by decide +kernel
theorem dX6_set_1 : decode cX6_set 1 = .ok (.ifCond .lt 17, 3) := by decide +kernel
theorem dX6_set_4 : decode cX6_set 4 = .ok (.iload_n 1, 1) := by decide +kernel
theorem dX6_set_5 : decode cX6_set 5 = .ok (.bipush 9, 2) := by decide +kernel
theorem dX6_set_7 : decode cX6_set 7 = .ok (.if_icmp .ge 11, 3) := by decide +kernel
theorem dX6_set_10 : decode cX6_set 10 = .ok (.iload_n 1, 1) := by decide +kernel
theorem dX6_set_11 : decode cX6_set 11 = .ok (.getstatic 101, 3) := by decide +kernel
theorem dX6_set_14 : decode cX6_set 14 = .ok (.arraylength, 1) := by decide +kernel
theorem dX6_set_15 : decode cX6_set 15 = .ok (.if_icmp .lt 13, 3) := by decide +kernel
theorem dX6_set_18 : decode cX6_set 18 = .ok (.new 87, 3) := by decide +kernel
theorem dX6_set_21 : decode cX6_set 21 = .ok (.dup, 1) := by decide +kernel
theorem dX6_set_22 : decode cX6_set 22 = .ok (.ldc 105, 2) := by decide +kernel
theorem dX6_set_24 : decode cX6_set 24 = .ok (.invokespecial 91, 3) := by decide +kernel
theorem dX6_set_27 : decode cX6_set 27 = .ok (.athrow, 1) := by decide +kernel
theorem dX6_set_28 : decode cX6_set 28 = .ok (.iload_n 2, 1) := by decide +kernel
theorem dX6_set_29 : decode cX6_set 29 = .ok (.ifCond .lt 12, 3) := by decide +kernel
theorem dX6_set_32 : decode cX6_set 32 = .ok (.iload_n 2, 1) := by decide +kernel
theorem dX6_set_33 : decode cX6_set 33 = .ok (.getstatic 101, 3) := by decide +kernel
theorem dX6_set_36 : decode cX6_set 36 = .ok (.iload_n 1, 1) := by decide +kernel
theorem dX6_set_37 : decode cX6_set 37 = .ok (.iaload, 1) := by decide +kernel
theorem dX6_set_38 : decode cX6_set 38 = .ok (.if_icmp .le 13, 3) := by decide +kernel
theorem dX6_set_41 : decode cX6_set 41 = .ok (.new 41, 3) := by decide +kernel
theorem dX6_set_44 : decode cX6_set 44 = .ok (.dup, 1) := by decide +kernel
theorem dX6_set_45 : decode cX6_set 45 = .ok (.ldc 107, 2) := by decide +kernel
theorem dX6_set_47 : decode cX6_set 47 = .ok (.invokespecial 45, 3) := by decide +kernel
theorem dX6_set_50 : decode cX6_set 50 = .ok (.athrow, 1) := by decide +kernel
theorem dX6_set_51 : decode cX6_set 51 = .ok (.aload_n 0, 1) := by decide +kernel
theorem dX6_set_52 : decode cX6_set 52 = .ok (.getfield 26, 3) := by decide +kernel
theorem dX6_set_55 : decode cX6_set 55 = .ok (.aload_n 0, 1) := by decide +kernel
theorem dX6_set_56 : decode cX6_set 56 = .ok (.getfield 19, 3) := by decide +kernel
theorem dX6_set_59 : decode cX6_set 59 = .ok (.invokevirtual 57, 3) := by decide +kernel
theorem dX6_set_62 : decode cX6_set 62 = .ok (.aload_n 0, 1) := by decide +kernel
theorem dX6_set_63 : decode cX6_set 63 = .ok (.getfield 19, 3) := by decide +kernel
theorem dX6_set_66 : decode cX6_set 66 = .ok (.getfield 109, 3) := by decide +kernel
theorem dX6_set_69 : decode cX6_set 69 = .ok (.iload_n 1, 1) := by decide +kernel
theorem dX6_set_70 : decode cX6_set 70 = .ok (.invokevirtual 112, 3) := by decide +kernel
theorem dX6_set_73 : decode cX6_set 73 = .ok (.istore_n 3, 1) := by decide +kernel
theorem dX6_set_74 : decode cX6_set 74 = .ok (.aload_n 0, 1) := by decide +kernel
theorem dX6_set_75 : decode cX6_set 75 = .ok (.getfield 19, 3) := by decide +kernel
theorem dX6_set_78 : decode cX6_set 78 = .ok (.getfield 109, 3) := by decide +kernel
theorem dX6_set_81 : decode cX6_set 81 = .ok (.iload_n 1, 1) := by decide +kernel
theorem dX6_set_82 : decode cX6_set 82 = .ok (.iload_n 2, 1) := by decide +kernel
theorem dX6_set_83 : decode cX6_set 83 = .ok (.invokevirtual 117, 3) := by decide +kernel
theorem dX6_set_86 : decode cX6_set 86 = .ok (.iload_n 3, 1) := by decide +kernel
theorem dX6_set_87 : decode cX6_set 87 = .ok (.ireturn, 1) := by decide +kernel
theorem dX6_swear_0 : decode cX6_swear 0 = .ok (.aload_n 0, 1) := by decide +kernel
theorem dX6_swear_1 : decode cX6_swear 1 = .ok (.iload_n 1, 1) := by decide +kernel
theorem dX6_swear_2 : decode cX6_swear 2 = .ok (.iload_n 2, 1) := by decide +kernel
theorem dX6_swear_3 : decode cX6_swear 3 = .ok (.invokevirtual 121, 3) := by decide +kernel
theorem dX6_swear_6 : decode cX6_swear 6 = .ok (.ifCond .ne 13, 3) := by decide +kernel
theorem dX6_swear_9 : decode cX6_swear 9 = .ok (.new 87, 3) := by decide +kernel
theorem dX6_swear_12 : decode cX6_swear 12 = .ok (.dup, 1) := by decide +kernel
theorem dX6_swear_13 : decode cX6_swear 13 = .ok (.ldc 89, 2) := by decide +kernel
theorem dX6_swear_15 : decode cX6_swear 15 = .ok (.invokespecial 91, 3) := by decide +kernel
theorem dX6_swear_18 : decode cX6_swear 18 = .ok (.athrow, 1) := by decide +kernel
theorem dX6_swear_19 : decode cX6_swear 19 = .ok (.aload_n 0, 1) := by decide +kernel
theorem dX6_swear_20 : decode cX6_swear 20 = .ok (.getfield 19, 3) := by decide +kernel
theorem dX6_swear_23 : decode cX6_swear 23 = .ok (.iload_n 1, 1) := by decide +kernel
theorem dX6_swear_24 : decode cX6_swear 24 = .ok (.iload_n 2, 1) := by decide +kernel
theorem dX6_swear_25 : decode cX6_swear 25 = .ok (.iload_n 3, 1) := by decide +kernel
theorem dX6_swear_26 : decode cX6_swear 26 = .ok (.invokevirtual 125, 3) := by decide +kernel
theorem dX6_swear_29 : decode cX6_swear 29 = .ok (.ifCond .eq 13, 3) := by decide +kernel
theorem dX6_swear_32 : decode cX6_swear 32 = .ok (.new 52, 3) := by decide +kernel
theorem dX6_swear_35 : decode cX6_swear 35 = .ok (.dup, 1) := by decide +kernel
theorem dX6_swear_36 : decode cX6_swear 36 = .ok (.ldc 129, 2) := by decide +kernel
theorem dX6_swear_38 : decode cX6_swear 38 = .ok (.invokespecial 56, 3) := by decide +kernel
theorem dX6_swear_41 : decode cX6_swear 41 = .ok (.athrow, 1) := by decide +kernel
theorem dX6_swear_42 : decode cX6_swear 42 = .ok (.aload_n 0, 1) := by decide +kernel
theorem dX6_swear_43 : decode cX6_swear 43 = .ok (.getfield 26, 3) := by decide +kernel
theorem dX6_swear_46 : decode cX6_swear 46 = .ok (.aload_n 0, 1) := by decide +kernel
theorem dX6_swear_47 : decode cX6_swear 47 = .ok (.getfield 19, 3) := by decide +kernel
theorem dX6_swear_50 : decode cX6_swear 50 = .ok (.invokevirtual 57, 3) := by decide +kernel
theorem dX6_swear_53 : decode cX6_swear 53 = .ok (.aload_n 0, 1) := by decide +kernel
theorem dX6_swear_54 : decode cX6_swear 54 = .ok (.getfield 19, 3) := by decide +kernel
theorem dX6_swear_57 : decode cX6_swear 57 = .ok (.getfield 131, 3) := by decide +kernel
theorem dX6_swear_60 : decode cX6_swear 60 = .ok (.iload_n 1, 1) := by decide +kernel
theorem dX6_swear_61 : decode cX6_swear 61 = .ok (.iload_n 2, 1) := by decide +kernel
theorem dX6_swear_62 : decode cX6_swear 62 = .ok (.iload_n 3, 1) := by decide +kernel
theorem dX6_swear_63 : decode cX6_swear 63 = .ok (.invokevirtual 135, 3) := by decide +kernel
theorem dX6_swear_66 : decode cX6_swear 66 = .ok (.aload_n 0, 1) := by decide +kernel
theorem dX6_swear_67 : decode cX6_swear 67 = .ok (.getfield 19, 3) := by decide +kernel
theorem dX6_swear_70 : decode cX6_swear 70 = .ok (.invokevirtual 141, 3) := by decide +kernel
theorem dX6_swear_73 : decode cX6_swear 73 = .ok (.ireturn, 1) := by decide +kernel
theorem dX6_recant_0 : decode cX6_recant 0 = .ok (.aload_n 0, 1) := by decide +kernel
theorem dX6_recant_1 : decode cX6_recant 1 = .ok (.iload_n 1, 1) := by decide +kernel
theorem dX6_recant_2 : decode cX6_recant 2 = .ok (.iload_n 2, 1) := by decide +kernel
theorem dX6_recant_3 : decode cX6_recant 3 = .ok (.invokevirtual 121, 3) := by decide +kernel
theorem dX6_recant_6 : decode cX6_recant 6 = .ok (.ifCond .ne 13, 3) := by decide +kernel
theorem dX6_recant_9 : decode cX6_recant 9 = .ok (.new 87, 3) := by decide +kernel
theorem dX6_recant_12 : decode cX6_recant 12 = .ok (.dup, 1) := by decide +kernel
theorem dX6_recant_13 : decode cX6_recant 13 = .ok (.ldc 89, 2) := by decide +kernel
theorem dX6_recant_15 : decode cX6_recant 15 = .ok (.invokespecial 91, 3) := by decide +kernel
theorem dX6_recant_18 : decode cX6_recant 18 = .ok (.athrow, 1) := by decide +kernel
theorem dX6_recant_19 : decode cX6_recant 19 = .ok (.aload_n 0, 1) := by decide +kernel
theorem dX6_recant_20 : decode cX6_recant 20 = .ok (.getfield 26, 3) := by decide +kernel
theorem dX6_recant_23 : decode cX6_recant 23 = .ok (.aload_n 0, 1) := by decide +kernel
theorem dX6_recant_24 : decode cX6_recant 24 = .ok (.getfield 19, 3) := by decide +kernel
theorem dX6_recant_27 : decode cX6_recant 27 = .ok (.invokevirtual 57, 3) := by decide +kernel
theorem dX6_recant_30 : decode cX6_recant 30 = .ok (.aload_n 0, 1) := by decide +kernel
theorem dX6_recant_31 : decode cX6_recant 31 = .ok (.getfield 19, 3) := by decide +kernel
theorem dX6_recant_34 : decode cX6_recant 34 = .ok (.getfield 131, 3) := by decide +kernel
theorem dX6_recant_37 : decode cX6_recant 37 = .ok (.iload_n 1, 1) := by decide +kernel
theorem dX6_recant_38 : decode cX6_recant 38 = .ok (.iload_n 2, 1) := by decide +kernel
theorem dX6_recant_39 : decode cX6_recant 39 = .ok (.invokevirtual 145, 3) := by decide +kernel
theorem dX6_recant_42 : decode cX6_recant 42 = .ok (.istore_n 3, 1) := by decide +kernel
theorem dX6_recant_43 : decode cX6_recant 43 = .ok (.iload_n 3, 1) := by decide +kernel
theorem dX6_recant_44 : decode cX6_recant 44 = .ok (.iconst (-1), 1) := by decide +kernel
theorem dX6_recant_45 : decode cX6_recant 45 = .ok (.if_icmp .ne 5, 3) := by decide +kernel
theorem dX6_recant_48 : decode cX6_recant 48 = .ok (.iconst 0, 1) := by decide +kernel
theorem dX6_recant_49 : decode cX6_recant 49 = .ok (.ireturn, 1) := by decide +kernel
theorem dX6_recant_50 : decode cX6_recant 50 = .ok (.aload_n 0, 1) := by decide +kernel
theorem dX6_recant_51 : decode cX6_recant 51 = .ok (.getfield 19, 3) := by decide +kernel
theorem dX6_recant_54 : decode cX6_recant 54 = .ok (.getfield 131, 3) := by decide +kernel
theorem dX6_recant_57 : decode cX6_recant 57 = .ok (.iload_n 3, 1) := by decide +kernel
theorem dX6_recant_58 : decode cX6_recant 58 = .ok (.invokevirtual 149, 3) := by decide +kernel
theorem dX6_recant_61 : decode cX6_recant 61 = .ok (.iconst 1, 1) := by decide +kernel
theorem dX6_recant_62 : decode cX6_recant 62 = .ok (.ireturn, 1) := by decide +kernel
theorem dX6_append_0 : decode cX6_append 0 = .ok (.iload_n 1, 1) := by decide +kernel
theorem dX6_append_1 : decode cX6_append 1 = .ok (.bipush 33, 2) := by decide +kernel
theorem dX6_append_3 : decode cX6_append 3 = .ok (.if_icmp .lt 9, 3) := by decide +kernel
theorem dX6_append_6 : decode cX6_append 6 = .ok (.iload_n 1, 1) := by decide +kernel
theorem dX6_append_7 : decode cX6_append 7 = .ok (.bipush 126, 2) := by decide +kernel
theorem dX6_append_9 : decode cX6_append 9 = .ok (.if_icmp .le 13, 3) := by decide +kernel
theorem dX6_append_12 : decode cX6_append 12 = .ok (.new 41, 3) := by decide +kernel
theorem dX6_append_15 : decode cX6_append 15 = .ok (.dup, 1) := by decide +kernel
theorem dX6_append_16 : decode cX6_append 16 = .ok (.ldc 153, 2) := by decide +kernel
theorem dX6_append_18 : decode cX6_append 18 = .ok (.invokespecial 45, 3) := by decide +kernel
theorem dX6_append_21 : decode cX6_append 21 = .ok (.athrow, 1) := by decide +kernel
theorem dX6_append_22 : decode cX6_append 22 = .ok (.aload_n 0, 1) := by decide +kernel
theorem dX6_append_23 : decode cX6_append 23 = .ok (.getfield 10, 3) := by decide +kernel
theorem dX6_append_26 : decode cX6_append 26 = .ok (.getfield 155, 3) := by decide +kernel
theorem dX6_append_29 : decode cX6_append 29 = .ok (.bipush 60, 2) := by decide +kernel
theorem dX6_append_31 : decode cX6_append 31 = .ok (.if_icmp .lt 13, 3) := by decide +kernel
theorem dX6_append_34 : decode cX6_append 34 = .ok (.new 52, 3) := by decide +kernel
theorem dX6_append_37 : decode cX6_append 37 = .ok (.dup, 1) := by decide +kernel
theorem dX6_append_38 : decode cX6_append 38 = .ok (.ldc 158, 2) := by decide +kernel
theorem dX6_append_40 : decode cX6_append 40 = .ok (.invokespecial 56, 3) := by decide +kernel
theorem dX6_append_43 : decode cX6_append 43 = .ok (.athrow, 1) := by decide +kernel
theorem dX6_append_44 : decode cX6_append 44 = .ok (.aload_n 0, 1) := by decide +kernel
theorem dX6_append_45 : decode cX6_append 45 = .ok (.getfield 10, 3) := by decide +kernel
theorem dX6_append_48 : decode cX6_append 48 = .ok (.iload_n 1, 1) := by decide +kernel
theorem dX6_append_49 : decode cX6_append 49 = .ok (.invokevirtual 160, 3) := by decide +kernel
theorem dX6_append_52 : decode cX6_append 52 = .ok (.ireturn, 1) := by decide +kernel
theorem dX6_clearBuffer_0 : decode cX6_clearBuffer 0 = .ok (.aload_n 0, 1) := by decide +kernel
theorem dX6_clearBuffer_1 : decode cX6_clearBuffer 1 = .ok (.getfield 10, 3) := by decide +kernel
theorem dX6_clearBuffer_4 : decode cX6_clearBuffer 4 = .ok (.getfield 155, 3) := by decide +kernel
theorem dX6_clearBuffer_7 : decode cX6_clearBuffer 7 = .ok (.istore_n 1, 1) := by decide +kernel
theorem dX6_clearBuffer_8 : decode cX6_clearBuffer 8 = .ok (.aload_n 0, 1) := by decide +kernel
theorem dX6_clearBuffer_9 : decode cX6_clearBuffer 9 = .ok (.getfield 10, 3) := by decide +kernel
theorem dX6_clearBuffer_12 : decode cX6_clearBuffer 12 = .ok (.invokevirtual 80, 3) := by decide +kernel
theorem dX6_clearBuffer_15 : decode cX6_clearBuffer 15 = .ok (.iload_n 1, 1) := by decide +kernel
theorem dX6_clearBuffer_16 : decode cX6_clearBuffer 16 = .ok (.ireturn, 1) := by decide +kernel
theorem dX6_undo_0 : decode cX6_undo 0 = .ok (.aload_n 0, 1) := by decide +kernel
theorem dX6_undo_1 : decode cX6_undo 1 = .ok (.getfield 26, 3) := by decide +kernel
theorem dX6_undo_4 : decode cX6_undo 4 = .ok (.getfield 187, 3) := by decide +kernel
theorem dX6_undo_7 : decode cX6_undo 7 = .ok (.ifCond .gt 13, 3) := by decide +kernel
theorem dX6_undo_10 : decode cX6_undo 10 = .ok (.new 52, 3) := by decide +kernel
theorem dX6_undo_13 : decode cX6_undo 13 = .ok (.dup, 1) := by decide +kernel
theorem dX6_undo_14 : decode cX6_undo 14 = .ok (.ldc 188, 2) := by decide +kernel
theorem dX6_undo_16 : decode cX6_undo 16 = .ok (.invokespecial 56, 3) := by decide +kernel
theorem dX6_undo_19 : decode cX6_undo 19 = .ok (.athrow, 1) := by decide +kernel
theorem dX6_undo_20 : decode cX6_undo 20 = .ok (.aload_n 0, 1) := by decide +kernel
theorem dX6_undo_21 : decode cX6_undo 21 = .ok (.getfield 26, 3) := by decide +kernel
theorem dX6_undo_24 : decode cX6_undo 24 = .ok (.aload_n 0, 1) := by decide +kernel
theorem dX6_undo_25 : decode cX6_undo 25 = .ok (.getfield 19, 3) := by decide +kernel
theorem dX6_undo_28 : decode cX6_undo 28 = .ok (.invokevirtual 190, 3) := by decide +kernel
theorem dX6_undo_31 : decode cX6_undo 31 = .ok (.aload_n 0, 1) := by decide +kernel
theorem dX6_undo_32 : decode cX6_undo 32 = .ok (.getfield 26, 3) := by decide +kernel
theorem dX6_undo_35 : decode cX6_undo 35 = .ok (.getfield 187, 3) := by decide +kernel
theorem dX6_undo_38 : decode cX6_undo 38 = .ok (.ireturn, 1) := by decide +kernel
theorem dX6_sheet_0 : decode cX6_sheet 0 = .ok (.aload_n 0, 1) := by decide +kernel
theorem dX6_sheet_1 : decode cX6_sheet 1 = .ok (.iload_n 1, 1) := by decide +kernel
theorem dX6_sheet_2 : decode cX6_sheet 2 = .ok (.invokevirtual 83, 3) := by decide +kernel
theorem dX6_sheet_5 : decode cX6_sheet 5 = .ok (.ifCond .ne 13, 3) := by decide +kernel
theorem dX6_sheet_8 : decode cX6_sheet 8 = .ok (.new 87, 3) := by decide +kernel
theorem dX6_sheet_11 : decode cX6_sheet 11 = .ok (.dup, 1) := by decide +kernel
theorem dX6_sheet_12 : decode cX6_sheet 12 = .ok (.ldc 89, 2) := by decide +kernel
theorem dX6_sheet_14 : decode cX6_sheet 14 = .ok (.invokespecial 91, 3) := by decide +kernel
theorem dX6_sheet_17 : decode cX6_sheet 17 = .ok (.athrow, 1) := by decide +kernel
theorem dX6_sheet_18 : decode cX6_sheet 18 = .ok (.iload_n 2, 1) := by decide +kernel
theorem dX6_sheet_19 : decode cX6_sheet 19 = .ok (.ifCond .lt 9, 3) := by decide +kernel
theorem dX6_sheet_22 : decode cX6_sheet 22 = .ok (.iload_n 2, 1) := by decide +kernel
theorem dX6_sheet_23 : decode cX6_sheet 23 = .ok (.bipush 7, 2) := by decide +kernel
theorem dX6_sheet_25 : decode cX6_sheet 25 = .ok (.if_icmp .lt 13, 3) := by decide +kernel
theorem dX6_sheet_28 : decode cX6_sheet 28 = .ok (.new 41, 3) := by decide +kernel
theorem dX6_sheet_31 : decode cX6_sheet 31 = .ok (.dup, 1) := by decide +kernel
theorem dX6_sheet_32 : decode cX6_sheet 32 = .ok (.ldc 198, 2) := by decide +kernel
theorem dX6_sheet_34 : decode cX6_sheet 34 = .ok (.invokespecial 45, 3) := by decide +kernel
theorem dX6_sheet_37 : decode cX6_sheet 37 = .ok (.athrow, 1) := by decide +kernel
theorem dX6_sheet_38 : decode cX6_sheet 38 = .ok (.aload_n 0, 1) := by decide +kernel
theorem dX6_sheet_39 : decode cX6_sheet 39 = .ok (.getfield 19, 3) := by decide +kernel
theorem dX6_sheet_42 : decode cX6_sheet 42 = .ok (.iload_n 1, 1) := by decide +kernel
theorem dX6_sheet_43 : decode cX6_sheet 43 = .ok (.iload_n 2, 1) := by decide +kernel
theorem dX6_sheet_44 : decode cX6_sheet 44 = .ok (.invokevirtual 200, 3) := by decide +kernel
theorem dX6_sheet_47 : decode cX6_sheet 47 = .ok (.ireturn, 1) := by decide +kernel
theorem dX6_stroke_0 : decode cX6_stroke 0 = .ok (.aload_n 0, 1) := by decide +kernel
theorem dX6_stroke_1 : decode cX6_stroke 1 = .ok (.iload_n 1, 1) := by decide +kernel
theorem dX6_stroke_2 : decode cX6_stroke 2 = .ok (.invokevirtual 83, 3) := by decide +kernel
theorem dX6_stroke_5 : decode cX6_stroke 5 = .ok (.ifCond .ne 13, 3) := by decide +kernel
theorem dX6_stroke_8 : decode cX6_stroke 8 = .ok (.new 87, 3) := by decide +kernel
theorem dX6_stroke_11 : decode cX6_stroke 11 = .ok (.dup, 1) := by decide +kernel
theorem dX6_stroke_12 : decode cX6_stroke 12 = .ok (.ldc 89, 2) := by decide +kernel
theorem dX6_stroke_14 : decode cX6_stroke 14 = .ok (.invokespecial 91, 3) := by decide +kernel
theorem dX6_stroke_17 : decode cX6_stroke 17 = .ok (.athrow, 1) := by decide +kernel
theorem dX6_stroke_18 : decode cX6_stroke 18 = .ok (.iload_n 2, 1) := by decide +kernel
theorem dX6_stroke_19 : decode cX6_stroke 19 = .ok (.ifCond .lt 18, 3) := by decide +kernel
theorem dX6_stroke_22 : decode cX6_stroke 22 = .ok (.iload_n 2, 1) := by decide +kernel
theorem dX6_stroke_23 : decode cX6_stroke 23 = .ok (.bipush 8, 2) := by decide +kernel
theorem dX6_stroke_25 : decode cX6_stroke 25 = .ok (.if_icmp .ge 12, 3) := by decide +kernel
theorem dX6_stroke_28 : decode cX6_stroke 28 = .ok (.iload_n 3, 1) := by decide +kernel
theorem dX6_stroke_29 : decode cX6_stroke 29 = .ok (.ifCond .lt 8, 3) := by decide +kernel
theorem dX6_stroke_32 : decode cX6_stroke 32 = .ok (.iload_n 3, 1) := by decide +kernel
theorem dX6_stroke_33 : decode cX6_stroke 33 = .ok (.iconst 5, 1) := by decide +kernel
theorem dX6_stroke_34 : decode cX6_stroke 34 = .ok (.if_icmp .lt 13, 3) := by decide +kernel
theorem dX6_stroke_37 : decode cX6_stroke 37 = .ok (.new 41, 3) := by decide +kernel
theorem dX6_stroke_40 : decode cX6_stroke 40 = .ok (.dup, 1) := by decide +kernel
theorem dX6_stroke_41 : decode cX6_stroke 41 = .ok (.ldc 203, 2) := by decide +kernel
theorem dX6_stroke_43 : decode cX6_stroke 43 = .ok (.invokespecial 45, 3) := by decide +kernel
theorem dX6_stroke_46 : decode cX6_stroke 46 = .ok (.athrow, 1) := by decide +kernel
theorem dX6_stroke_47 : decode cX6_stroke 47 = .ok (.aload_n 0, 1) := by decide +kernel
theorem dX6_stroke_48 : decode cX6_stroke 48 = .ok (.getfield 19, 3) := by decide +kernel
theorem dX6_stroke_51 : decode cX6_stroke 51 = .ok (.iload_n 1, 1) := by decide +kernel
theorem dX6_stroke_52 : decode cX6_stroke 52 = .ok (.invokevirtual 205, 3) := by decide +kernel
theorem dX6_stroke_55 : decode cX6_stroke 55 = .ok (.iload_n 2, 1) := by decide +kernel
theorem dX6_stroke_56 : decode cX6_stroke 56 = .ok (.iload_n 3, 1) := by decide +kernel
theorem dX6_stroke_57 : decode cX6_stroke 57 = .ok (.invokevirtual 209, 3) := by decide +kernel
theorem dX6_stroke_60 : decode cX6_stroke 60 = .ok (.ireturn, 1) := by decide +kernel
theorem dX6_mark_0 : decode cX6_mark 0 = .ok (.aload_n 0, 1) := by decide +kernel
theorem dX6_mark_1 : decode cX6_mark 1 = .ok (.iload_n 1, 1) := by decide +kernel
theorem dX6_mark_2 : decode cX6_mark 2 = .ok (.invokevirtual 83, 3) := by decide +kernel
theorem dX6_mark_5 : decode cX6_mark 5 = .ok (.ifCond .ne 13, 3) := by decide +kernel
theorem dX6_mark_8 : decode cX6_mark 8 = .ok (.new 87, 3) := by decide +kernel
theorem dX6_mark_11 : decode cX6_mark 11 = .ok (.dup, 1) := by decide +kernel
theorem dX6_mark_12 : decode cX6_mark 12 = .ok (.ldc 89, 2) := by decide +kernel
theorem dX6_mark_14 : decode cX6_mark 14 = .ok (.invokespecial 91, 3) := by decide +kernel
theorem dX6_mark_17 : decode cX6_mark 17 = .ok (.athrow, 1) := by decide +kernel
theorem dX6_mark_18 : decode cX6_mark 18 = .ok (.iload_n 2, 1) := by decide +kernel
theorem dX6_mark_19 : decode cX6_mark 19 = .ok (.ifCond .lt 9, 3) := by decide +kernel
theorem dX6_mark_22 : decode cX6_mark 22 = .ok (.iload_n 2, 1) := by decide +kernel
theorem dX6_mark_23 : decode cX6_mark 23 = .ok (.bipush 6, 2) := by decide +kernel
theorem dX6_mark_25 : decode cX6_mark 25 = .ok (.if_icmp .lt 13, 3) := by decide +kernel
theorem dX6_mark_28 : decode cX6_mark 28 = .ok (.new 41, 3) := by decide +kernel
theorem dX6_mark_31 : decode cX6_mark 31 = .ok (.dup, 1) := by decide +kernel
theorem dX6_mark_32 : decode cX6_mark 32 = .ok (.ldc 212, 2) := by decide +kernel
theorem dX6_mark_34 : decode cX6_mark 34 = .ok (.invokespecial 45, 3) := by decide +kernel
theorem dX6_mark_37 : decode cX6_mark 37 = .ok (.athrow, 1) := by decide +kernel
theorem dX6_mark_38 : decode cX6_mark 38 = .ok (.aload_n 0, 1) := by decide +kernel
theorem dX6_mark_39 : decode cX6_mark 39 = .ok (.getfield 19, 3) := by decide +kernel
theorem dX6_mark_42 : decode cX6_mark 42 = .ok (.iload_n 1, 1) := by decide +kernel
theorem dX6_mark_43 : decode cX6_mark 43 = .ok (.invokevirtual 205, 3) := by decide +kernel
theorem dX6_mark_46 : decode cX6_mark 46 = .ok (.iload_n 2, 1) := by decide +kernel
theorem dX6_mark_47 : decode cX6_mark 47 = .ok (.invokevirtual 214, 3) := by decide +kernel
theorem dX6_mark_50 : decode cX6_mark 50 = .ok (.ireturn, 1) := by decide +kernel
theorem dX6_compare_0 : decode cX6_compare 0 = .ok (.aload_n 0, 1) := by decide +kernel
theorem dX6_compare_1 : decode cX6_compare 1 = .ok (.iload_n 1, 1) := by decide +kernel
theorem dX6_compare_2 : decode cX6_compare 2 = .ok (.iload_n 2, 1) := by decide +kernel
theorem dX6_compare_3 : decode cX6_compare 3 = .ok (.invokevirtual 121, 3) := by decide +kernel
theorem dX6_compare_6 : decode cX6_compare 6 = .ok (.ifCond .ne 13, 3) := by decide +kernel
theorem dX6_compare_9 : decode cX6_compare 9 = .ok (.new 87, 3) := by decide +kernel
theorem dX6_compare_12 : decode cX6_compare 12 = .ok (.dup, 1) := by decide +kernel
theorem dX6_compare_13 : decode cX6_compare 13 = .ok (.ldc 89, 2) := by decide +kernel
theorem dX6_compare_15 : decode cX6_compare 15 = .ok (.invokespecial 91, 3) := by decide +kernel
theorem dX6_compare_18 : decode cX6_compare 18 = .ok (.athrow, 1) := by decide +kernel
theorem dX6_compare_19 : decode cX6_compare 19 = .ok (.iload_n 3, 1) := by decide +kernel
theorem dX6_compare_20 : decode cX6_compare 20 = .ok (.ifCond .lt 8, 3) := by decide +kernel
theorem dX6_compare_23 : decode cX6_compare 23 = .ok (.iload_n 3, 1) := by decide +kernel
theorem dX6_compare_24 : decode cX6_compare 24 = .ok (.iconst 5, 1) := by decide +kernel
theorem dX6_compare_25 : decode cX6_compare 25 = .ok (.if_icmp .lt 13, 3) := by decide +kernel
theorem dX6_compare_28 : decode cX6_compare 28 = .ok (.new 41, 3) := by decide +kernel
theorem dX6_compare_31 : decode cX6_compare 31 = .ok (.dup, 1) := by decide +kernel
theorem dX6_compare_32 : decode cX6_compare 32 = .ok (.ldc 217, 2) := by decide +kernel
theorem dX6_compare_34 : decode cX6_compare 34 = .ok (.invokespecial 45, 3) := by decide +kernel
theorem dX6_compare_37 : decode cX6_compare 37 = .ok (.athrow, 1) := by decide +kernel
theorem dX6_compare_38 : decode cX6_compare 38 = .ok (.aload_n 0, 1) := by decide +kernel
theorem dX6_compare_39 : decode cX6_compare 39 = .ok (.getfield 19, 3) := by decide +kernel
theorem dX6_compare_42 : decode cX6_compare 42 = .ok (.iload_n 1, 1) := by decide +kernel
theorem dX6_compare_43 : decode cX6_compare 43 = .ok (.iload_n 2, 1) := by decide +kernel
theorem dX6_compare_44 : decode cX6_compare 44 = .ok (.iload_n 3, 1) := by decide +kernel
theorem dX6_compare_45 : decode cX6_compare 45 = .ok (.invokevirtual 219, 3) := by decide +kernel
theorem dX6_compare_48 : decode cX6_compare 48 = .ok (.ireturn, 1) := by decide +kernel
theorem dX6_oath_0 : decode cX6_oath 0 = .ok (.iload_n 1, 1) := by decide +kernel
theorem dX6_oath_1 : decode cX6_oath 1 = .ok (.ifCond .lt 12, 3) := by decide +kernel
theorem dX6_oath_4 : decode cX6_oath 4 = .ok (.iload_n 2, 1) := by decide +kernel
theorem dX6_oath_5 : decode cX6_oath 5 = .ok (.ifCond .lt 8, 3) := by decide +kernel
theorem dX6_oath_8 : decode cX6_oath 8 = .ok (.iload_n 2, 1) := by decide +kernel
theorem dX6_oath_9 : decode cX6_oath 9 = .ok (.iconst 4, 1) := by decide +kernel
theorem dX6_oath_10 : decode cX6_oath 10 = .ok (.if_icmp .lt 13, 3) := by decide +kernel
theorem dX6_oath_13 : decode cX6_oath 13 = .ok (.new 41, 3) := by decide +kernel
theorem dX6_oath_16 : decode cX6_oath 16 = .ok (.dup, 1) := by decide +kernel
theorem dX6_oath_17 : decode cX6_oath 17 = .ok (.ldc 223, 2) := by decide +kernel
theorem dX6_oath_19 : decode cX6_oath 19 = .ok (.invokespecial 45, 3) := by decide +kernel
theorem dX6_oath_22 : decode cX6_oath 22 = .ok (.athrow, 1) := by decide +kernel
theorem dX6_oath_23 : decode cX6_oath 23 = .ok (.iload_n 1, 1) := by decide +kernel
theorem dX6_oath_24 : decode cX6_oath 24 = .ok (.aload_n 0, 1) := by decide +kernel
theorem dX6_oath_25 : decode cX6_oath 25 = .ok (.getfield 19, 3) := by decide +kernel
theorem dX6_oath_28 : decode cX6_oath 28 = .ok (.getfield 131, 3) := by decide +kernel
theorem dX6_oath_31 : decode cX6_oath 31 = .ok (.getfield 225, 3) := by decide +kernel
theorem dX6_oath_34 : decode cX6_oath 34 = .ok (.if_icmp .ge 18, 3) := by decide +kernel
theorem dX6_oath_37 : decode cX6_oath 37 = .ok (.aload_n 0, 1) := by decide +kernel
theorem dX6_oath_38 : decode cX6_oath 38 = .ok (.getfield 19, 3) := by decide +kernel
theorem dX6_oath_41 : decode cX6_oath 41 = .ok (.getfield 131, 3) := by decide +kernel
theorem dX6_oath_44 : decode cX6_oath 44 = .ok (.iload_n 1, 1) := by decide +kernel
theorem dX6_oath_45 : decode cX6_oath 45 = .ok (.iload_n 2, 1) := by decide +kernel
theorem dX6_oath_46 : decode cX6_oath 46 = .ok (.invokevirtual 226, 3) := by decide +kernel
theorem dX6_oath_49 : decode cX6_oath 49 = .ok (.goto 4, 3) := by decide +kernel
theorem dX6_oath_52 : decode cX6_oath 52 = .ok (.iconst (-1), 1) := by decide +kernel
theorem dX6_oath_53 : decode cX6_oath 53 = .ok (.ireturn, 1) := by decide +kernel
theorem dX6_count_0 : decode cX6_count 0 = .ok (.iload_n 1, 1) := by decide +kernel
theorem dX6_count_1 : decode cX6_count 1 = .ok (.ifCond .lt 9, 3) := by decide +kernel
theorem dX6_count_4 : decode cX6_count 4 = .ok (.iload_n 1, 1) := by decide +kernel
theorem dX6_count_5 : decode cX6_count 5 = .ok (.bipush 18, 2) := by decide +kernel
theorem dX6_count_7 : decode cX6_count 7 = .ok (.if_icmp .lt 13, 3) := by decide +kernel
theorem dX6_count_10 : decode cX6_count 10 = .ok (.new 41, 3) := by decide +kernel
theorem dX6_count_13 : decode cX6_count 13 = .ok (.dup, 1) := by decide +kernel
theorem dX6_count_14 : decode cX6_count 14 = .ok (.ldc 229, 2) := by decide +kernel
theorem dX6_count_16 : decode cX6_count 16 = .ok (.invokespecial 45, 3) := by decide +kernel
theorem dX6_count_19 : decode cX6_count 19 = .ok (.athrow, 1) := by decide +kernel
theorem dX6_count_20 : decode cX6_count 20 = .ok (.aload_n 0, 1) := by decide +kernel
theorem dX6_count_21 : decode cX6_count 21 = .ok (.iload_n 1, 1) := by decide +kernel
theorem dX6_count_22 : decode cX6_count 22 = .ok (.invokevirtual 231, 3) := by decide +kernel
theorem dX6_count_25 : decode cX6_count 25 = .ok (.ireturn, 1) := by decide +kernel
theorem dX6_whyNot_0 : decode cX6_whyNot 0 = .ok (.aload_n 0, 1) := by decide +kernel
theorem dX6_whyNot_1 : decode cX6_whyNot 1 = .ok (.iload_n 1, 1) := by decide +kernel
theorem dX6_whyNot_2 : decode cX6_whyNot 2 = .ok (.iload_n 2, 1) := by decide +kernel
theorem dX6_whyNot_3 : decode cX6_whyNot 3 = .ok (.invokevirtual 121, 3) := by decide +kernel
theorem dX6_whyNot_6 : decode cX6_whyNot 6 = .ok (.ifCond .ne 13, 3) := by decide +kernel
theorem dX6_whyNot_9 : decode cX6_whyNot 9 = .ok (.new 87, 3) := by decide +kernel
theorem dX6_whyNot_12 : decode cX6_whyNot 12 = .ok (.dup, 1) := by decide +kernel
theorem dX6_whyNot_13 : decode cX6_whyNot 13 = .ok (.ldc 89, 2) := by decide +kernel
theorem dX6_whyNot_15 : decode cX6_whyNot 15 = .ok (.invokespecial 91, 3) := by decide +kernel
theorem dX6_whyNot_18 : decode cX6_whyNot 18 = .ok (.athrow, 1) := by decide +kernel
theorem dX6_whyNot_19 : decode cX6_whyNot 19 = .ok (.aload_n 0, 1) := by decide +kernel
theorem dX6_whyNot_20 : decode cX6_whyNot 20 = .ok (.getfield 19, 3) := by decide +kernel
theorem dX6_whyNot_23 : decode cX6_whyNot 23 = .ok (.iload_n 1, 1) := by decide +kernel
theorem dX6_whyNot_24 : decode cX6_whyNot 24 = .ok (.iload_n 2, 1) := by decide +kernel
theorem dX6_whyNot_25 : decode cX6_whyNot 25 = .ok (.iload_n 3, 1) := by decide +kernel
theorem dX6_whyNot_26 : decode cX6_whyNot 26 = .ok (.invokevirtual 125, 3) := by decide +kernel
theorem dX6_whyNot_29 : decode cX6_whyNot 29 = .ok (.ireturn, 1) := by decide +kernel
theorem dX6_nearest_0 : decode cX6_nearest 0 = .ok (.aload_n 0, 1) := by decide +kernel
theorem dX6_nearest_1 : decode cX6_nearest 1 = .ok (.iload_n 1, 1) := by decide +kernel
theorem dX6_nearest_2 : decode cX6_nearest 2 = .ok (.invokevirtual 83, 3) := by decide +kernel
theorem dX6_nearest_5 : decode cX6_nearest 5 = .ok (.ifCond .ne 13, 3) := by decide +kernel
theorem dX6_nearest_8 : decode cX6_nearest 8 = .ok (.new 87, 3) := by decide +kernel
theorem dX6_nearest_11 : decode cX6_nearest 11 = .ok (.dup, 1) := by decide +kernel
theorem dX6_nearest_12 : decode cX6_nearest 12 = .ok (.ldc 89, 2) := by decide +kernel
theorem dX6_nearest_14 : decode cX6_nearest 14 = .ok (.invokespecial 91, 3) := by decide +kernel
theorem dX6_nearest_17 : decode cX6_nearest 17 = .ok (.athrow, 1) := by decide +kernel
theorem dX6_nearest_18 : decode cX6_nearest 18 = .ok (.aload_n 0, 1) := by decide +kernel
theorem dX6_nearest_19 : decode cX6_nearest 19 = .ok (.getfield 19, 3) := by decide +kernel
theorem dX6_nearest_22 : decode cX6_nearest 22 = .ok (.iload_n 1, 1) := by decide +kernel
theorem dX6_nearest_23 : decode cX6_nearest 23 = .ok (.invokevirtual 234, 3) := by decide +kernel
theorem dX6_nearest_26 : decode cX6_nearest 26 = .ok (.ireturn, 1) := by decide +kernel
theorem dX6_toleranceFor_0 : decode cX6_toleranceFor 0 = .ok (.aload_n 0, 1) := by decide +kernel
theorem dX6_toleranceFor_1 : decode cX6_toleranceFor 1 = .ok (.iload_n 1, 1) := by decide +kernel
theorem dX6_toleranceFor_2 : decode cX6_toleranceFor 2 = .ok (.iload_n 2, 1) := by decide +kernel
theorem dX6_toleranceFor_3 : decode cX6_toleranceFor 3 = .ok (.invokevirtual 121, 3) := by decide +kernel
theorem dX6_toleranceFor_6 : decode cX6_toleranceFor 6 = .ok (.ifCond .ne 13, 3) := by decide +kernel
theorem dX6_toleranceFor_9 : decode cX6_toleranceFor 9 = .ok (.new 87, 3) := by decide +kernel
theorem dX6_toleranceFor_12 : decode cX6_toleranceFor 12 = .ok (.dup, 1) := by decide +kernel
theorem dX6_toleranceFor_13 : decode cX6_toleranceFor 13 = .ok (.ldc 89, 2) := by decide +kernel
theorem dX6_toleranceFor_15 : decode cX6_toleranceFor 15 = .ok (.invokespecial 91, 3) := by decide +kernel
theorem dX6_toleranceFor_18 : decode cX6_toleranceFor 18 = .ok (.athrow, 1) := by decide +kernel
theorem dX6_toleranceFor_19 : decode cX6_toleranceFor 19 = .ok (.iload_n 3, 1) := by decide +kernel
theorem dX6_toleranceFor_20 : decode cX6_toleranceFor 20 = .ok (.ifCond .lt 9, 3) := by decide +kernel
theorem dX6_toleranceFor_23 : decode cX6_toleranceFor 23 = .ok (.iload_n 3, 1) := by decide +kernel
theorem dX6_toleranceFor_24 : decode cX6_toleranceFor 24 = .ok (.bipush 6, 2) := by decide +kernel
theorem dX6_toleranceFor_26 : decode cX6_toleranceFor 26 = .ok (.if_icmp .lt 13, 3) := by decide +kernel
theorem dX6_toleranceFor_29 : decode cX6_toleranceFor 29 = .ok (.new 41, 3) := by decide +kernel
theorem dX6_toleranceFor_32 : decode cX6_toleranceFor 32 = .ok (.dup, 1) := by decide +kernel
theorem dX6_toleranceFor_33 : decode cX6_toleranceFor 33 = .ok (.ldc 212, 2) := by decide +kernel
theorem dX6_toleranceFor_35 : decode cX6_toleranceFor 35 = .ok (.invokespecial 45, 3) := by decide +kernel
theorem dX6_toleranceFor_38 : decode cX6_toleranceFor 38 = .ok (.athrow, 1) := by decide +kernel
theorem dX6_toleranceFor_39 : decode cX6_toleranceFor 39 = .ok (.aload_n 0, 1) := by decide +kernel
theorem dX6_toleranceFor_40 : decode cX6_toleranceFor 40 = .ok (.getfield 19, 3) := by decide +kernel
theorem dX6_toleranceFor_43 : decode cX6_toleranceFor 43 = .ok (.iload_n 1, 1) := by decide +kernel
theorem dX6_toleranceFor_44 : decode cX6_toleranceFor 44 = .ok (.iload_n 2, 1) := by decide +kernel
theorem dX6_toleranceFor_45 : decode cX6_toleranceFor 45 = .ok (.iload_n 3, 1) := by decide +kernel
theorem dX6_toleranceFor_46 : decode cX6_toleranceFor 46 = .ok (.invokevirtual 237, 3) := by decide +kernel
theorem dX6_toleranceFor_49 : decode cX6_toleranceFor 49 = .ok (.ireturn, 1) := by decide +kernel
theorem dX6_ifPassed_0 : decode cX6_ifPassed 0 = .ok (.aload_n 0, 1) := by decide +kernel
theorem dX6_ifPassed_1 : decode cX6_ifPassed 1 = .ok (.iload_n 1, 1) := by decide +kernel
theorem dX6_ifPassed_2 : decode cX6_ifPassed 2 = .ok (.iload_n 2, 1) := by decide +kernel
theorem dX6_ifPassed_3 : decode cX6_ifPassed 3 = .ok (.invokevirtual 121, 3) := by decide +kernel
theorem dX6_ifPassed_6 : decode cX6_ifPassed 6 = .ok (.ifCond .ne 13, 3) := by decide +kernel
theorem dX6_ifPassed_9 : decode cX6_ifPassed 9 = .ok (.new 87, 3) := by decide +kernel
theorem dX6_ifPassed_12 : decode cX6_ifPassed 12 = .ok (.dup, 1) := by decide +kernel
theorem dX6_ifPassed_13 : decode cX6_ifPassed 13 = .ok (.ldc 89, 2) := by decide +kernel
theorem dX6_ifPassed_15 : decode cX6_ifPassed 15 = .ok (.invokespecial 91, 3) := by decide +kernel
theorem dX6_ifPassed_18 : decode cX6_ifPassed 18 = .ok (.athrow, 1) := by decide +kernel
theorem dX6_ifPassed_19 : decode cX6_ifPassed 19 = .ok (.iload_n 3, 1) := by decide +kernel
theorem dX6_ifPassed_20 : decode cX6_ifPassed 20 = .ok (.iconst 1, 1) := by decide +kernel
theorem dX6_ifPassed_21 : decode cX6_ifPassed 21 = .ok (.if_icmp .lt 9, 3) := by decide +kernel
theorem dX6_ifPassed_24 : decode cX6_ifPassed 24 = .ok (.iload_n 3, 1) := by decide +kernel
theorem dX6_ifPassed_25 : decode cX6_ifPassed 25 = .ok (.bipush 99, 2) := by decide +kernel
theorem dX6_ifPassed_27 : decode cX6_ifPassed 27 = .ok (.if_icmp .le 13, 3) := by decide +kernel
theorem dX6_ifPassed_30 : decode cX6_ifPassed 30 = .ok (.new 41, 3) := by decide +kernel
theorem dX6_ifPassed_33 : decode cX6_ifPassed 33 = .ok (.dup, 1) := by decide +kernel
theorem dX6_ifPassed_34 : decode cX6_ifPassed 34 = .ok (.ldc 96, 2) := by decide +kernel
theorem dX6_ifPassed_36 : decode cX6_ifPassed 36 = .ok (.invokespecial 45, 3) := by decide +kernel
theorem dX6_ifPassed_39 : decode cX6_ifPassed 39 = .ok (.athrow, 1) := by decide +kernel
theorem dX6_ifPassed_40 : decode cX6_ifPassed 40 = .ok (.aload_n 0, 1) := by decide +kernel
theorem dX6_ifPassed_41 : decode cX6_ifPassed 41 = .ok (.getfield 19, 3) := by decide +kernel
theorem dX6_ifPassed_44 : decode cX6_ifPassed 44 = .ok (.iload_n 1, 1) := by decide +kernel
theorem dX6_ifPassed_45 : decode cX6_ifPassed 45 = .ok (.iload_n 2, 1) := by decide +kernel
theorem dX6_ifPassed_46 : decode cX6_ifPassed 46 = .ok (.iload_n 3, 1) := by decide +kernel
theorem dX6_ifPassed_47 : decode cX6_ifPassed 47 = .ok (.invokevirtual 240, 3) := by decide +kernel
theorem dX6_ifPassed_50 : decode cX6_ifPassed 50 = .ok (.ireturn, 1) := by decide +kernel
theorem dX6_handShare_0 : decode cX6_handShare 0 = .ok (.aload_n 0, 1) := by decide +kernel
theorem dX6_handShare_1 : decode cX6_handShare 1 = .ok (.getfield 19, 3) := by decide +kernel
theorem dX6_handShare_4 : decode cX6_handShare 4 = .ok (.invokevirtual 243, 3) := by decide +kernel
theorem dX6_handShare_7 : decode cX6_handShare 7 = .ok (.dreturn, 1) := by decide +kernel
theorem dX6_isThere_0 : decode cX6_isThere 0 = .ok (.iload_n 1, 1) := by decide +kernel
theorem dX6_isThere_1 : decode cX6_isThere 1 = .ok (.ifCond .lt 18, 3) := by decide +kernel
theorem dX6_isThere_4 : decode cX6_isThere 4 = .ok (.iload_n 1, 1) := by decide +kernel
theorem dX6_isThere_5 : decode cX6_isThere 5 = .ok (.aload_n 0, 1) := by decide +kernel
theorem dX6_isThere_6 : decode cX6_isThere 6 = .ok (.getfield 19, 3) := by decide +kernel
theorem dX6_isThere_9 : decode cX6_isThere 9 = .ok (.getfield 48, 3) := by decide +kernel
theorem dX6_isThere_12 : decode cX6_isThere 12 = .ok (.if_icmp .ge 7, 3) := by decide +kernel
theorem dX6_isThere_15 : decode cX6_isThere 15 = .ok (.iconst 1, 1) := by decide +kernel
theorem dX6_isThere_16 : decode cX6_isThere 16 = .ok (.goto 4, 3) := by decide +kernel
theorem dX6_isThere_19 : decode cX6_isThere 19 = .ok (.iconst 0, 1) := by decide +kernel
theorem dX6_isThere_20 : decode cX6_isThere 20 = .ok (.ireturn, 1) := by decide +kernel
theorem dX6_areThere_0 : decode cX6_areThere 0 = .ok (.aload_n 0, 1) := by decide +kernel
theorem dX6_areThere_1 : decode cX6_areThere 1 = .ok (.iload_n 1, 1) := by decide +kernel
theorem dX6_areThere_2 : decode cX6_areThere 2 = .ok (.invokevirtual 83, 3) := by decide +kernel
theorem dX6_areThere_5 : decode cX6_areThere 5 = .ok (.ifCond .eq 15, 3) := by decide +kernel
theorem dX6_areThere_8 : decode cX6_areThere 8 = .ok (.aload_n 0, 1) := by decide +kernel
theorem dX6_areThere_9 : decode cX6_areThere 9 = .ok (.iload_n 2, 1) := by decide +kernel
theorem dX6_areThere_10 : decode cX6_areThere 10 = .ok (.invokevirtual 83, 3) := by decide +kernel
theorem dX6_areThere_13 : decode cX6_areThere 13 = .ok (.ifCond .eq 7, 3) := by decide +kernel
theorem dX6_areThere_16 : decode cX6_areThere 16 = .ok (.iconst 1, 1) := by decide +kernel
theorem dX6_areThere_17 : decode cX6_areThere 17 = .ok (.goto 4, 3) := by decide +kernel
theorem dX6_areThere_20 : decode cX6_areThere 20 = .ok (.iconst 0, 1) := by decide +kernel
theorem dX6_areThere_21 : decode cX6_areThere 21 = .ok (.ireturn, 1) := by decide +kernel
theorem dX6_toldCount_0 : decode cX6_toldCount 0 = .ok (.iload_n 1, 1) := by decide +kernel
theorem dX6_toldCount_1 : decode cX6_toldCount 1 = .ok (.bipush 17, 2) := by decide +kernel
theorem dX6_toldCount_3 : decode cX6_toldCount 3 = .ok (.if_icmp .ne 11, 3) := by decide +kernel
theorem dX6_toldCount_6 : decode cX6_toldCount 6 = .ok (.aload_n 0, 1) := by decide +kernel
theorem dX6_toldCount_7 : decode cX6_toldCount 7 = .ok (.getfield 26, 3) := by decide +kernel
theorem dX6_toldCount_10 : decode cX6_toldCount 10 = .ok (.getfield 187, 3) := by decide +kernel
theorem dX6_toldCount_13 : decode cX6_toldCount 13 = .ok (.ireturn, 1) := by decide +kernel
theorem dX6_toldCount_14 : decode cX6_toldCount 14 = .ok (.iload_n 1, 1) := by decide +kernel
theorem dX6_toldCount_15 : decode cX6_toldCount 15 = .ok (.bipush 8, 2) := by decide +kernel
theorem dX6_toldCount_17 : decode cX6_toldCount 17 = .ok (.if_icmp .lt 18, 3) := by decide +kernel
theorem dX6_toldCount_20 : decode cX6_toldCount 20 = .ok (.aload_n 0, 1) := by decide +kernel
theorem dX6_toldCount_21 : decode cX6_toldCount 21 = .ok (.getfield 19, 3) := by decide +kernel
theorem dX6_toldCount_24 : decode cX6_toldCount 24 = .ok (.getfield 109, 3) := by decide +kernel
theorem dX6_toldCount_27 : decode cX6_toldCount 27 = .ok (.iload_n 1, 1) := by decide +kernel
theorem dX6_toldCount_28 : decode cX6_toldCount 28 = .ok (.bipush 8, 2) := by decide +kernel
theorem dX6_toldCount_30 : decode cX6_toldCount 30 = .ok (.isub, 1) := by decide +kernel
theorem dX6_toldCount_31 : decode cX6_toldCount 31 = .ok (.invokevirtual 112, 3) := by decide +kernel
theorem dX6_toldCount_34 : decode cX6_toldCount 34 = .ok (.ireturn, 1) := by decide +kernel
theorem dX6_toldCount_35 : decode cX6_toldCount 35 = .ok (.aload_n 0, 1) := by decide +kernel
theorem dX6_toldCount_36 : decode cX6_toldCount 36 = .ok (.getfield 19, 3) := by decide +kernel
theorem dX6_toldCount_39 : decode cX6_toldCount 39 = .ok (.iload_n 1, 1) := by decide +kernel
theorem dX6_toldCount_40 : decode cX6_toldCount 40 = .ok (.invokevirtual 281, 3) := by decide +kernel
theorem dX6_toldCount_43 : decode cX6_toldCount 43 = .ok (.ireturn, 1) := by decide +kernel
