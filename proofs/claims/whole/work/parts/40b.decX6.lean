theorem dX6_init_0 : decode cX6_init 0 = .ok (.aload_n 0, 1) := by decide +kernel
theorem dX6_init_1 : decode cX6_init 1 = .ok (.invokespecial 1, 3) := by decide +kernel
theorem dX6_init_4 : decode cX6_init 4 = .ok (.aload_n 0, 1) := by decide +kernel
theorem dX6_init_5 : decode cX6_init 5 = .ok (.new 7, 3) := by decide +kernel
theorem dX6_init_8 : decode cX6_init 8 = .ok (.dup, 1) := by decide +kernel
theorem dX6_init_9 : decode cX6_init 9 = .ok (.invokespecial 9, 3) := by decide +kernel
theorem dX6_init_12 : decode cX6_init 12 = .ok (.putfield 10, 3) := by decide +kernel
theorem dX6_init_15 : decode cX6_init 15 = .ok (.aload_n 0, 1) := by decide +kernel
theorem dX6_init_16 : decode cX6_init 16 = .ok (.new 16, 3) := by decide +kernel
theorem dX6_init_19 : decode cX6_init 19 = .ok (.dup, 1) := by decide +kernel
theorem dX6_init_20 : decode cX6_init 20 = .ok (.invokespecial 18, 3) := by decide +kernel
theorem dX6_init_23 : decode cX6_init 23 = .ok (.putfield 19, 3) := by decide +kernel
theorem dX6_init_26 : decode cX6_init 26 = .ok (.aload_n 0, 1) := by decide +kernel
theorem dX6_init_27 : decode cX6_init 27 = .ok (.new 23, 3) := by decide +kernel
theorem dX6_init_30 : decode cX6_init 30 = .ok (.dup, 1) := by decide +kernel
theorem dX6_init_31 : decode cX6_init 31 = .ok (.invokespecial 25, 3) := by decide +kernel
theorem dX6_init_34 : decode cX6_init 34 = .ok (.putfield 26, 3) := by decide +kernel
theorem dX6_init_37 : decode cX6_init 37 = .ok (.aload_n 0, 1) := by decide +kernel
theorem dX6_init_38 : decode cX6_init 38 = .ok (.new 16, 3) := by decide +kernel
theorem dX6_init_41 : decode cX6_init 41 = .ok (.dup, 1) := by decide +kernel
theorem dX6_init_42 : decode cX6_init 42 = .ok (.invokespecial 18, 3) := by decide +kernel
theorem dX6_init_45 : decode cX6_init 45 = .ok (.putfield 30, 3) := by decide +kernel
theorem dX6_init_48 : decode cX6_init 48 = .ok (.aload_n 0, 1) := by decide +kernel
theorem dX6_init_49 : decode cX6_init 49 = .ok (.iconst 0, 1) := by decide +kernel
theorem dX6_init_50 : decode cX6_init 50 = .ok (.putfield 33, 3) := by decide +kernel
theorem dX6_init_53 : decode cX6_init 53 = .ok (.return_, 1) := by decide +kernel
theorem dX6_lay_0 : decode cX6_lay 0 = .ok (.iload_n 1, 1) := by decide +kernel
theorem dX6_lay_1 : decode cX6_lay 1 = .ok (.ifCond .lt 19, 3) := by decide +kernel
theorem dX6_lay_4 : decode cX6_lay 4 = .ok (.iload_n 1, 1) := by decide +kernel
theorem dX6_lay_5 : decode cX6_lay 5 = .ok (.bipush 99, 2) := by decide +kernel
theorem dX6_lay_7 : decode cX6_lay 7 = .ok (.if_icmp .gt 13, 3) := by decide +kernel
theorem dX6_lay_10 : decode cX6_lay 10 = .ok (.aload_n 0, 1) := by decide +kernel
theorem dX6_lay_11 : decode cX6_lay 11 = .ok (.getfield 10, 3) := by decide +kernel
theorem dX6_lay_14 : decode cX6_lay 14 = .ok (.invokevirtual 37, 3) := by decide +kernel
theorem dX6_lay_17 : decode cX6_lay 17 = .ok (.ifCond .ne 13, 3) := by decide +kernel
theorem dX6_lay_20 : decode cX6_lay 20 = .ok (.new 41, 3) := by decide +kernel
theorem dX6_lay_23 : decode cX6_lay 23 = .ok (.dup, 1) := by decide +kernel
theorem dX6_lay_24 : decode cX6_lay 24 = .ok (.ldc 43, 2) := by decide +kernel
theorem dX6_lay_26 : decode cX6_lay 26 = .ok (.invokespecial 45, 3) := by decide +kernel
theorem dX6_lay_29 : decode cX6_lay 29 = .ok (.athrow, 1) := by decide +kernel
theorem dX6_lay_30 : decode cX6_lay 30 = .ok (.aload_n 0, 1) := by decide +kernel
theorem dX6_lay_31 : decode cX6_lay 31 = .ok (.getfield 19, 3) := by decide +kernel
theorem dX6_lay_34 : decode cX6_lay 34 = .ok (.getfield 48, 3) := by decide +kernel
theorem dX6_lay_37 : decode cX6_lay 37 = .ok (.bipush 8, 2) := by decide +kernel
theorem dX6_lay_39 : decode cX6_lay 39 = .ok (.if_icmp .lt 13, 3) := by decide +kernel
theorem dX6_lay_42 : decode cX6_lay 42 = .ok (.new 52, 3) := by decide +kernel
theorem dX6_lay_45 : decode cX6_lay 45 = .ok (.dup, 1) := by decide +kernel
theorem dX6_lay_46 : decode cX6_lay 46 = .ok (.ldc 54, 2) := by decide +kernel
theorem dX6_lay_48 : decode cX6_lay 48 = .ok (.invokespecial 56, 3) := by decide +kernel
theorem dX6_lay_51 : decode cX6_lay 51 = .ok (.athrow, 1) := by decide +kernel
theorem dX6_lay_52 : decode cX6_lay 52 = .ok (.aload_n 0, 1) := by decide +kernel
theorem dX6_lay_53 : decode cX6_lay 53 = .ok (.getfield 26, 3) := by decide +kernel
theorem dX6_lay_56 : decode cX6_lay 56 = .ok (.aload_n 0, 1) := by decide +kernel
theorem dX6_lay_57 : decode cX6_lay 57 = .ok (.getfield 19, 3) := by decide +kernel
theorem dX6_lay_60 : decode cX6_lay 60 = .ok (.invokevirtual 57, 3) := by decide +kernel
theorem dX6_lay_63 : decode cX6_lay 63 = .ok (.new 61, 3) := by decide +kernel
theorem dX6_lay_66 : decode cX6_lay 66 = .ok (.dup, 1) := by decide +kernel
theorem dX6_lay_67 : decode cX6_lay 67 = .ok (.aload_n 0, 1) := by decide +kernel
theorem dX6_lay_68 : decode cX6_lay 68 = .ok (.getfield 10, 3) := by decide +kernel
theorem dX6_lay_71 : decode cX6_lay 71 = .ok (.getfield 63, 3) := by decide +kernel
theorem dX6_lay_74 : decode cX6_lay 74 = .ok (.aload_n 0, 1) := by decide +kernel
theorem dX6_lay_75 : decode cX6_lay 75 = .ok (.getfield 10, 3) := by decide +kernel
theorem dX6_lay_78 : decode cX6_lay 78 = .ok (.getfield 66, 3) := by decide +kernel
theorem dX6_lay_81 : decode cX6_lay 81 = .ok (.invokespecial 70, 3) := by decide +kernel
theorem dX6_lay_84 : decode cX6_lay 84 = .ok (.astore_n 2, 1) := by decide +kernel
theorem dX6_lay_85 : decode cX6_lay 85 = .ok (.aload_n 2, 1) := by decide +kernel
theorem dX6_lay_86 : decode cX6_lay 86 = .ok (.invokevirtual 73, 3) := by decide +kernel
theorem dX6_lay_89 : decode cX6_lay 89 = .ok (.aload_n 0, 1) := by decide +kernel
theorem dX6_lay_90 : decode cX6_lay 90 = .ok (.getfield 19, 3) := by decide +kernel
theorem dX6_lay_93 : decode cX6_lay 93 = .ok (.aload_n 2, 1) := by decide +kernel
theorem dX6_lay_94 : decode cX6_lay 94 = .ok (.iload_n 1, 1) := by decide +kernel
theorem dX6_lay_95 : decode cX6_lay 95 = .ok (.invokevirtual 76, 3) := by decide +kernel
theorem dX6_lay_98 : decode cX6_lay 98 = .ok (.istore_n 3, 1) := by decide +kernel
theorem dX6_lay_99 : decode cX6_lay 99 = .ok (.aload_n 0, 1) := by decide +kernel
theorem dX6_lay_100 : decode cX6_lay 100 = .ok (.getfield 10, 3) := by decide +kernel
theorem dX6_lay_103 : decode cX6_lay 103 = .ok (.invokevirtual 80, 3) := by decide +kernel
theorem dX6_lay_106 : decode cX6_lay 106 = .ok (.iload_n 3, 1) := by decide +kernel
theorem dX6_lay_107 : decode cX6_lay 107 = .ok (.ireturn, 1) := by decide +kernel
theorem dX6_drop_0 : decode cX6_drop 0 = .ok (.aload_n 0, 1) := by decide +kernel
theorem dX6_drop_1 : decode cX6_drop 1 = .ok (.iload_n 1, 1) := by decide +kernel
theorem dX6_drop_2 : decode cX6_drop 2 = .ok (.invokevirtual 83, 3) := by decide +kernel
theorem dX6_drop_5 : decode cX6_drop 5 = .ok (.ifCond .ne 13, 3) := by decide +kernel
theorem dX6_drop_8 : decode cX6_drop 8 = .ok (.new 87, 3) := by decide +kernel
theorem dX6_drop_11 : decode cX6_drop 11 = .ok (.dup, 1) := by decide +kernel
theorem dX6_drop_12 : decode cX6_drop 12 = .ok (.ldc 89, 2) := by decide +kernel
theorem dX6_drop_14 : decode cX6_drop 14 = .ok (.invokespecial 91, 3) := by decide +kernel
theorem dX6_drop_17 : decode cX6_drop 17 = .ok (.athrow, 1) := by decide +kernel
theorem dX6_drop_18 : decode cX6_drop 18 = .ok (.aload_n 0, 1) := by decide +kernel
theorem dX6_drop_19 : decode cX6_drop 19 = .ok (.getfield 26, 3) := by decide +kernel
theorem dX6_drop_22 : decode cX6_drop 22 = .ok (.aload_n 0, 1) := by decide +kernel
theorem dX6_drop_23 : decode cX6_drop 23 = .ok (.getfield 19, 3) := by decide +kernel
theorem dX6_drop_26 : decode cX6_drop 26 = .ok (.invokevirtual 57, 3) := by decide +kernel
theorem dX6_drop_29 : decode cX6_drop 29 = .ok (.aload_n 0, 1) := by decide +kernel
theorem dX6_drop_30 : decode cX6_drop 30 = .ok (.getfield 19, 3) := by decide +kernel
theorem dX6_drop_33 : decode cX6_drop 33 = .ok (.iload_n 1, 1) := by decide +kernel
theorem dX6_drop_34 : decode cX6_drop 34 = .ok (.invokevirtual 92, 3) := by decide +kernel
theorem dX6_drop_37 : decode cX6_drop 37 = .ok (.ireturn, 1) := by decide +kernel
theorem dX6_pass_0 : decode cX6_pass 0 = .ok (.iload_n 1, 1) := by decide +kernel
theorem dX6_pass_1 : decode cX6_pass 1 = .ok (.iconst 1, 1) := by decide +kernel
theorem dX6_pass_2 : decode cX6_pass 2 = .ok (.if_icmp .lt 9, 3) := by decide +kernel
theorem dX6_pass_5 : decode cX6_pass 5 = .ok (.iload_n 1, 1) := by decide +kernel
theorem dX6_pass_6 : decode cX6_pass 6 = .ok (.bipush 99, 2) := by decide +kernel
theorem dX6_pass_8 : decode cX6_pass 8 = .ok (.if_icmp .le 13, 3) := by decide +kernel
theorem dX6_pass_11 : decode cX6_pass 11 = .ok (.new 41, 3) := by decide +kernel
theorem dX6_pass_14 : decode cX6_pass 14 = .ok (.dup, 1) := by decide +kernel
theorem dX6_pass_15 : decode cX6_pass 15 = .ok (.ldc 96, 2) := by decide +kernel
theorem dX6_pass_17 : decode cX6_pass 17 = .ok (.invokespecial 45, 3) := by decide +kernel
theorem dX6_pass_20 : decode cX6_pass 20 = .ok (.athrow, 1) := by decide +kernel
theorem dX6_pass_21 : decode cX6_pass 21 = .ok (.aload_n 0, 1) := by decide +kernel
theorem dX6_pass_22 : decode cX6_pass 22 = .ok (.getfield 26, 3) := by decide +kernel
theorem dX6_pass_25 : decode cX6_pass 25 = .ok (.aload_n 0, 1) := by decide +kernel
theorem dX6_pass_26 : decode cX6_pass 26 = .ok (.getfield 19, 3) := by decide +kernel
theorem dX6_pass_29 : decode cX6_pass 29 = .ok (.invokevirtual 57, 3) := by decide +kernel
theorem dX6_pass_32 : decode cX6_pass 32 = .ok (.aload_n 0, 1) := by decide +kernel
theorem dX6_pass_33 : decode cX6_pass 33 = .ok (.getfield 19, 3) := by decide +kernel
theorem dX6_pass_36 : decode cX6_pass 36 = .ok (.iload_n 1, 1) := by decide +kernel
theorem dX6_pass_37 : decode cX6_pass 37 = .ok (.invokevirtual 98, 3) := by decide +kernel
theorem dX6_pass_40 : decode cX6_pass 40 = .ok (.ireturn, 1) := by decide +kernel
theorem dX6_set_0 : decode cX6_set 0 = .ok (.iload_n 1, 1) := by decide +kernel
theorem dX6_set_1 : decode cX6_set 1 = .ok (.ifCond .lt 17, 3) := by decide +kernel
theorem dX6_set_4 : decode cX6_set 4 = .ok (.iload_n 1, 1) := by decide +kernel
theorem dX6_set_5 : decode cX6_set 5 = .ok (.bipush 9, 2) := by decide +kernel
theorem dX6_set_7 : decode cX6_set 7 = .ok (.if_icmp .ge 11, 3) := by decide +kernel
theorem dX6_set_10 : decode cX6_set 10 = .ok (.iload_n 1, 1) := by decide +kernel
theorem dX6_set_11 : decode cX6_set 11 = .ok (.getstatic 101, 3) := by decide +kernel
theorem dX6_set_14 : decode cX6_set 14 = .ok (.arraylength, 1) := by decide +kernel
theorem dX6_set_15 : decode cX6_set 15 = .ok (.if_icmp .lt 13, 3) := by decide +kernel
theorem dX6_set_18 : decode cX6_set 18 = .ok (.new 87, 3) := by decide +kernel
theorem dX6_set_21 : decode cX6_set 21 = .ok (.dup, 1) := by decide +kernel
theorem dX6_set_22 : decode cX6_set 22 = .ok (.ldc 105, 2) := by decide +kernel
theorem dX6_set_24 : decode cX6_set 24 = .ok (.invokespecial 91, 3) := by decide +kernel
theorem dX6_set_27 : decode cX6_set 27 = .ok (.athrow, 1) := by decide +kernel
theorem dX6_set_28 : decode cX6_set 28 = .ok (.iload_n 2, 1) := by decide +kernel
theorem dX6_set_29 : decode cX6_set 29 = .ok (.ifCond .lt 12, 3) := by decide +kernel
theorem dX6_set_32 : decode cX6_set 32 = .ok (.iload_n 2, 1) := by decide +kernel
theorem dX6_set_33 : decode cX6_set 33 = .ok (.getstatic 101, 3) := by decide +kernel
theorem dX6_set_36 : decode cX6_set 36 = .ok (.iload_n 1, 1) := by decide +kernel
theorem dX6_set_37 : decode cX6_set 37 = .ok (.iaload, 1) := by decide +kernel
theorem dX6_set_38 : decode cX6_set 38 = .ok (.if_icmp .le 13, 3) := by decide +kernel
theorem dX6_set_41 : decode cX6_set 41 = .ok (.new 41, 3) := by decide +kernel
theorem dX6_set_44 : decode cX6_set 44 = .ok (.dup, 1) := by decide +kernel
theorem dX6_set_45 : decode cX6_set 45 = .ok (.ldc 107, 2) := by decide +kernel
theorem dX6_set_47 : decode cX6_set 47 = .ok (.invokespecial 45, 3) := by decide +kernel
theorem dX6_set_50 : decode cX6_set 50 = .ok (.athrow, 1) := by decide +kernel
theorem dX6_set_51 : decode cX6_set 51 = .ok (.aload_n 0, 1) := by decide +kernel
theorem dX6_set_52 : decode cX6_set 52 = .ok (.getfield 26, 3) := by decide +kernel
theorem dX6_set_55 : decode cX6_set 55 = .ok (.aload_n 0, 1) := by decide +kernel
theorem dX6_set_56 : decode cX6_set 56 = .ok (.getfield 19, 3) := by decide +kernel
theorem dX6_set_59 : decode cX6_set 59 = .ok (.invokevirtual 57, 3) := by decide +kernel
theorem dX6_set_62 : decode cX6_set 62 = .ok (.aload_n 0, 1) := by decide +kernel
theorem dX6_set_63 : decode cX6_set 63 = .ok (.getfield 19, 3) := by decide +kernel
theorem dX6_set_66 : decode cX6_set 66 = .ok (.getfield 109, 3) := by decide +kernel
theorem dX6_set_69 : decode cX6_set 69 = .ok (.iload_n 1, 1) := by decide +kernel
theorem dX6_set_70 : decode cX6_set 70 = .ok (.invokevirtual 112, 3) := by decide +kernel
theorem dX6_set_73 : decode cX6_set 73 = .ok (.istore_n 3, 1) := by decide +kernel
theorem dX6_set_74 : decode cX6_set 74 = .ok (.aload_n 0, 1) := by decide +kernel
theorem dX6_set_75 : decode cX6_set 75 = .ok (.getfield 19, 3) := by decide +kernel
theorem dX6_set_78 : decode cX6_set 78 = .ok (.getfield 109, 3) := by decide +kernel
theorem dX6_set_81 : decode cX6_set 81 = .ok (.iload_n 1, 1) := by decide +kernel
theorem dX6_set_82 : decode cX6_set 82 = .ok (.iload_n 2, 1) := by decide +kernel
theorem dX6_set_83 : decode cX6_set 83 = .ok (.invokevirtual 117, 3) := by decide +kernel
theorem dX6_set_86 : decode cX6_set 86 = .ok (.iload_n 3, 1) := by decide +kernel
theorem dX6_set_87 : decode cX6_set 87 = .ok (.ireturn, 1) := by decide +kernel
theorem dX6_swear_0 : decode cX6_swear 0 = .ok (.aload_n 0, 1) := by decide +kernel
theorem dX6_swear_1 : decode cX6_swear 1 = .ok (.iload_n 1, 1) := by decide +kernel
theorem dX6_swear_2 : decode cX6_swear 2 = .ok (.iload_n 2, 1) := by decide +kernel
theorem dX6_swear_3 : decode cX6_swear 3 = .ok (.invokevirtual 121, 3) := by decide +kernel
theorem dX6_swear_6 : decode cX6_swear 6 = .ok (.ifCond .ne 13, 3) := by decide +kernel
theorem dX6_swear_9 : decode cX6_swear 9 = .ok (.new 87, 3) := by decide +kernel
theorem dX6_swear_12 : decode cX6_swear 12 = .ok (.dup, 1) := by decide +kernel
theorem dX6_swear_13 : decode cX6_swear 13 = .ok (.ldc 89, 2) := by decide +kernel
theorem dX6_swear_15 : decode cX6_swear 15 = .ok (.invokespecial 91, 3) := by decide +kernel
theorem dX6_swear_18 : decode cX6_swear 18 = .ok (.athrow, 1) := by decide +kernel
theorem dX6_swear_19 : decode cX6_swear 19 = .ok (.aload_n 0, 1) := by decide +kernel
theorem dX6_swear_20 : decode cX6_swear 20 = .ok (.getfield 19, 3) := by decide +kernel
theorem dX6_swear_23 : decode cX6_swear 23 = .ok (.iload_n 1, 1) := by decide +kernel
theorem dX6_swear_24 : decode cX6_swear 24 = .ok (.iload_n 2, 1) := by decide +kernel
theorem dX6_swear_25 : decode cX6_swear 25 = .ok (.iload_n 3, 1) := by decide +kernel
theorem dX6_swear_26 : decode cX6_swear 26 = .ok (.invokevirtual 125, 3) := by decide +kernel
theorem dX6_swear_29 : decode cX6_swear 29 = .ok (.ifCond .eq 13, 3) := by decide +kernel
theorem dX6_swear_32 : decode cX6_swear 32 = .ok (.new 52, 3) := by decide +kernel
theorem dX6_swear_35 : decode cX6_swear 35 = .ok (.dup, 1) := by decide +kernel
theorem dX6_swear_36 : decode cX6_swear 36 = .ok (.ldc 129, 2) := by decide +kernel
theorem dX6_swear_38 : decode cX6_swear 38 = .ok (.invokespecial 56, 3) := by decide +kernel
theorem dX6_swear_41 : decode cX6_swear 41 = .ok (.athrow, 1) := by decide +kernel
theorem dX6_swear_42 : decode cX6_swear 42 = .ok (.aload_n 0, 1) := by decide +kernel
theorem dX6_swear_43 : decode cX6_swear 43 = .ok (.getfield 26, 3) := by decide +kernel
theorem dX6_swear_46 : decode cX6_swear 46 = .ok (.aload_n 0, 1) := by decide +kernel
theorem dX6_swear_47 : decode cX6_swear 47 = .ok (.getfield 19, 3) := by decide +kernel
theorem dX6_swear_50 : decode cX6_swear 50 = .ok (.invokevirtual 57, 3) := by decide +kernel
theorem dX6_swear_53 : decode cX6_swear 53 = .ok (.aload_n 0, 1) := by decide +kernel
theorem dX6_swear_54 : decode cX6_swear 54 = .ok (.getfield 19, 3) := by decide +kernel
theorem dX6_swear_57 : decode cX6_swear 57 = .ok (.getfield 131, 3) := by decide +kernel
theorem dX6_swear_60 : decode cX6_swear 60 = .ok (.iload_n 1, 1) := by decide +kernel
theorem dX6_swear_61 : decode cX6_swear 61 = .ok (.iload_n 2, 1) := by decide +kernel
theorem dX6_swear_62 : decode cX6_swear 62 = .ok (.iload_n 3, 1) := by decide +kernel
theorem dX6_swear_63 : decode cX6_swear 63 = .ok (.invokevirtual 135, 3) := by decide +kernel
theorem dX6_swear_66 : decode cX6_swear 66 = .ok (.aload_n 0, 1) := by decide +kernel
theorem dX6_swear_67 : decode cX6_swear 67 = .ok (.getfield 19, 3) := by decide +kernel
theorem dX6_swear_70 : decode cX6_swear 70 = .ok (.invokevirtual 141, 3) := by decide +kernel
theorem dX6_swear_73 : decode cX6_swear 73 = .ok (.ireturn, 1) := by decide +kernel
theorem dX6_recant_0 : decode cX6_recant 0 = .ok (.aload_n 0, 1) := by decide +kernel
theorem dX6_recant_1 : decode cX6_recant 1 = .ok (.iload_n 1, 1) := by decide +kernel
theorem dX6_recant_2 : decode cX6_recant 2 = .ok (.iload_n 2, 1) := by decide +kernel
theorem dX6_recant_3 : decode cX6_recant 3 = .ok (.invokevirtual 121, 3) := by decide +kernel
theorem dX6_recant_6 : decode cX6_recant 6 = .ok (.ifCond .ne 13, 3) := by decide +kernel
theorem dX6_recant_9 : decode cX6_recant 9 = .ok (.new 87, 3) := by decide +kernel
theorem dX6_recant_12 : decode cX6_recant 12 = .ok (.dup, 1) := by decide +kernel
theorem dX6_recant_13 : decode cX6_recant 13 = .ok (.ldc 89, 2) := by decide +kernel
theorem dX6_recant_15 : decode cX6_recant 15 = .ok (.invokespecial 91, 3) := by decide +kernel
theorem dX6_recant_18 : decode cX6_recant 18 = .ok (.athrow, 1) := by decide +kernel
theorem dX6_recant_19 : decode cX6_recant 19 = .ok (.aload_n 0, 1) := by decide +kernel
theorem dX6_recant_20 : decode cX6_recant 20 = .ok (.getfield 26, 3) := by decide +kernel
theorem dX6_recant_23 : decode cX6_recant 23 = .ok (.aload_n 0, 1) := by decide +kernel
theorem dX6_recant_24 : decode cX6_recant 24 = .ok (.getfield 19, 3) := by decide +kernel
theorem dX6_recant_27 : decode cX6_recant 27 = .ok (.invokevirtual 57, 3) := by decide +kernel
theorem dX6_recant_30 : decode cX6_recant 30 = .ok (.aload_n 0, 1) := by decide +kernel
theorem dX6_recant_31 : decode cX6_recant 31 = .ok (.getfield 19, 3) := by decide +kernel
theorem dX6_recant_34 : decode cX6_recant 34 = .ok (.getfield 131, 3) := by decide +kernel
theorem dX6_recant_37 : decode cX6_recant 37 = .ok (.iload_n 1, 1) := by decide +kernel
theorem dX6_recant_38 : decode cX6_recant 38 = .ok (.iload_n 2, 1) := by decide +kernel
theorem dX6_recant_39 : decode cX6_recant 39 = .ok (.invokevirtual 145, 3) := by decide +kernel
theorem dX6_recant_42 : decode cX6_recant 42 = .ok (.istore_n 3, 1) := by decide +kernel
theorem dX6_recant_43 : decode cX6_recant 43 = .ok (.iload_n 3, 1) := by decide +kernel
theorem dX6_recant_44 : decode cX6_recant 44 = .ok (.iconst (-1), 1) := by decide +kernel
theorem dX6_recant_45 : decode cX6_recant 45 = .ok (.if_icmp .ne 5, 3) := by decide +kernel
theorem dX6_recant_48 : decode cX6_recant 48 = .ok (.iconst 0, 1) := by decide +kernel
theorem dX6_recant_49 : decode cX6_recant 49 = .ok (.ireturn, 1) := by decide +kernel
theorem dX6_recant_50 : decode cX6_recant 50 = .ok (.aload_n 0, 1) := by decide +kernel
theorem dX6_recant_51 : decode cX6_recant 51 = .ok (.getfield 19, 3) := by decide +kernel
theorem dX6_recant_54 : decode cX6_recant 54 = .ok (.getfield 131, 3) := by decide +kernel
theorem dX6_recant_57 : decode cX6_recant 57 = .ok (.iload_n 3, 1) := by decide +kernel
theorem dX6_recant_58 : decode cX6_recant 58 = .ok (.invokevirtual 149, 3) := by decide +kernel
theorem dX6_recant_61 : decode cX6_recant 61 = .ok (.iconst 1, 1) := by decide +kernel
theorem dX6_recant_62 : decode cX6_recant 62 = .ok (.ireturn, 1) := by decide +kernel
theorem dX6_append_0 : decode cX6_append 0 = .ok (.iload_n 1, 1) := by decide +kernel
theorem dX6_append_1 : decode cX6_append 1 = .ok (.bipush 33, 2) := by decide +kernel
theorem dX6_append_3 : decode cX6_append 3 = .ok (.if_icmp .lt 9, 3) := by decide +kernel
theorem dX6_append_6 : decode cX6_append 6 = .ok (.iload_n 1, 1) := by decide +kernel
theorem dX6_append_7 : decode cX6_append 7 = .ok (.bipush 126, 2) := by decide +kernel
theorem dX6_append_9 : decode cX6_append 9 = .ok (.if_icmp .le 13, 3) := by decide +kernel
theorem dX6_append_12 : decode cX6_append 12 = .ok (.new 41, 3) := by decide +kernel
theorem dX6_append_15 : decode cX6_append 15 = .ok (.dup, 1) := by decide +kernel
theorem dX6_append_16 : decode cX6_append 16 = .ok (.ldc 153, 2) := by decide +kernel
theorem dX6_append_18 : decode cX6_append 18 = .ok (.invokespecial 45, 3) := by decide +kernel
theorem dX6_append_21 : decode cX6_append 21 = .ok (.athrow, 1) := by decide +kernel
theorem dX6_append_22 : decode cX6_append 22 = .ok (.aload_n 0, 1) := by decide +kernel
theorem dX6_append_23 : decode cX6_append 23 = .ok (.getfield 10, 3) := by decide +kernel
theorem dX6_append_26 : decode cX6_append 26 = .ok (.getfield 155, 3) := by decide +kernel
theorem dX6_append_29 : decode cX6_append 29 = .ok (.bipush 60, 2) := by decide +kernel
theorem dX6_append_31 : decode cX6_append 31 = .ok (.if_icmp .lt 13, 3) := by decide +kernel
theorem dX6_append_34 : decode cX6_append 34 = .ok (.new 52, 3) := by decide +kernel
theorem dX6_append_37 : decode cX6_append 37 = .ok (.dup, 1) := by decide +kernel
theorem dX6_append_38 : decode cX6_append 38 = .ok (.ldc 158, 2) := by decide +kernel
theorem dX6_append_40 : decode cX6_append 40 = .ok (.invokespecial 56, 3) := by decide +kernel
theorem dX6_append_43 : decode cX6_append 43 = .ok (.athrow, 1) := by decide +kernel
theorem dX6_append_44 : decode cX6_append 44 = .ok (.aload_n 0, 1) := by decide +kernel
theorem dX6_append_45 : decode cX6_append 45 = .ok (.getfield 10, 3) := by decide +kernel
theorem dX6_append_48 : decode cX6_append 48 = .ok (.iload_n 1, 1) := by decide +kernel
theorem dX6_append_49 : decode cX6_append 49 = .ok (.invokevirtual 160, 3) := by decide +kernel
theorem dX6_append_52 : decode cX6_append 52 = .ok (.ireturn, 1) := by decide +kernel
theorem dX6_clearBuffer_0 : decode cX6_clearBuffer 0 = .ok (.aload_n 0, 1) := by decide +kernel
theorem dX6_clearBuffer_1 : decode cX6_clearBuffer 1 = .ok (.getfield 10, 3) := by decide +kernel
theorem dX6_clearBuffer_4 : decode cX6_clearBuffer 4 = .ok (.getfield 155, 3) := by decide +kernel
theorem dX6_clearBuffer_7 : decode cX6_clearBuffer 7 = .ok (.istore_n 1, 1) := by decide +kernel
theorem dX6_clearBuffer_8 : decode cX6_clearBuffer 8 = .ok (.aload_n 0, 1) := by decide +kernel
theorem dX6_clearBuffer_9 : decode cX6_clearBuffer 9 = .ok (.getfield 10, 3) := by decide +kernel
theorem dX6_clearBuffer_12 : decode cX6_clearBuffer 12 = .ok (.invokevirtual 80, 3) := by decide +kernel
theorem dX6_clearBuffer_15 : decode cX6_clearBuffer 15 = .ok (.iload_n 1, 1) := by decide +kernel
theorem dX6_clearBuffer_16 : decode cX6_clearBuffer 16 = .ok (.ireturn, 1) := by decide +kernel
theorem dX6_firstError_0 : decode cX6_firstError 0 = .ok (.iload_n 1, 1) := by decide +kernel
theorem dX6_firstError_1 : decode cX6_firstError 1 = .ok (.ifCond .eq 14, 3) := by decide +kernel
theorem dX6_firstError_4 : decode cX6_firstError 4 = .ok (.aload_n 0, 1) := by decide +kernel
theorem dX6_firstError_5 : decode cX6_firstError 5 = .ok (.getfield 10, 3) := by decide +kernel
theorem dX6_firstError_8 : decode cX6_firstError 8 = .ok (.invokevirtual 162, 3) := by decide +kernel
theorem dX6_firstError_11 : decode cX6_firstError 11 = .ok (.pop, 1) := by decide +kernel
theorem dX6_firstError_12 : decode cX6_firstError 12 = .ok (.goto 11, 3) := by decide +kernel
theorem dX6_firstError_15 : decode cX6_firstError 15 = .ok (.aload_n 0, 1) := by decide +kernel
theorem dX6_firstError_16 : decode cX6_firstError 16 = .ok (.getfield 10, 3) := by decide +kernel
theorem dX6_firstError_19 : decode cX6_firstError 19 = .ok (.invokevirtual 37, 3) := by decide +kernel
theorem dX6_firstError_22 : decode cX6_firstError 22 = .ok (.pop, 1) := by decide +kernel
theorem dX6_firstError_23 : decode cX6_firstError 23 = .ok (.aload_n 0, 1) := by decide +kernel
theorem dX6_firstError_24 : decode cX6_firstError 24 = .ok (.getfield 10, 3) := by decide +kernel
theorem dX6_firstError_27 : decode cX6_firstError 27 = .ok (.getfield 165, 3) := by decide +kernel
theorem dX6_firstError_30 : decode cX6_firstError 30 = .ok (.ireturn, 1) := by decide +kernel
theorem dX6_work_0 : decode cX6_work 0 = .ok (.aload_n 0, 1) := by decide +kernel
theorem dX6_work_1 : decode cX6_work 1 = .ok (.getfield 10, 3) := by decide +kernel
theorem dX6_work_4 : decode cX6_work 4 = .ok (.invokevirtual 162, 3) := by decide +kernel
theorem dX6_work_7 : decode cX6_work 7 = .ok (.ifCond .ne 13, 3) := by decide +kernel
theorem dX6_work_10 : decode cX6_work 10 = .ok (.new 41, 3) := by decide +kernel
theorem dX6_work_13 : decode cX6_work 13 = .ok (.dup, 1) := by decide +kernel
theorem dX6_work_14 : decode cX6_work 14 = .ok (.ldc 168, 2) := by decide +kernel
theorem dX6_work_16 : decode cX6_work 16 = .ok (.invokespecial 45, 3) := by decide +kernel
theorem dX6_work_19 : decode cX6_work 19 = .ok (.athrow, 1) := by decide +kernel
theorem dX6_work_20 : decode cX6_work 20 = .ok (.aload_n 0, 1) := by decide +kernel
theorem dX6_work_21 : decode cX6_work 21 = .ok (.getfield 26, 3) := by decide +kernel
theorem dX6_work_24 : decode cX6_work 24 = .ok (.aload_n 0, 1) := by decide +kernel
theorem dX6_work_25 : decode cX6_work 25 = .ok (.getfield 19, 3) := by decide +kernel
theorem dX6_work_28 : decode cX6_work 28 = .ok (.invokevirtual 57, 3) := by decide +kernel
theorem dX6_work_31 : decode cX6_work 31 = .ok (.aload_n 0, 1) := by decide +kernel
theorem dX6_work_32 : decode cX6_work 32 = .ok (.getfield 19, 3) := by decide +kernel
theorem dX6_work_35 : decode cX6_work 35 = .ok (.invokevirtual 170, 3) := by decide +kernel
theorem dX6_work_38 : decode cX6_work 38 = .ok (.iconst 0, 1) := by decide +kernel
theorem dX6_work_39 : decode cX6_work 39 = .ok (.istore_n 1, 1) := by decide +kernel
theorem dX6_work_40 : decode cX6_work 40 = .ok (.iload_n 1, 1) := by decide +kernel
theorem dX6_work_41 : decode cX6_work 41 = .ok (.aload_n 0, 1) := by decide +kernel
theorem dX6_work_42 : decode cX6_work 42 = .ok (.getfield 10, 3) := by decide +kernel
theorem dX6_work_45 : decode cX6_work 45 = .ok (.getfield 173, 3) := by decide +kernel
theorem dX6_work_48 : decode cX6_work 48 = .ok (.if_icmp .ge 17, 3) := by decide +kernel
theorem dX6_work_51 : decode cX6_work 51 = .ok (.aload_n 0, 1) := by decide +kernel
theorem dX6_work_52 : decode cX6_work 52 = .ok (.iload_n 1, 1) := by decide +kernel
theorem dX6_work_53 : decode cX6_work 53 = .ok (.invokevirtual 176, 3) := by decide +kernel
theorem dX6_work_56 : decode cX6_work 56 = .ok (.ifCond .eq 9, 3) := by decide +kernel
theorem dX6_work_59 : decode cX6_work 59 = .ok (.iinc 1 1, 3) := by decide +kernel
theorem dX6_work_62 : decode cX6_work 62 = .ok (.goto (-22), 3) := by decide +kernel
theorem dX6_work_65 : decode cX6_work 65 = .ok (.aload_n 0, 1) := by decide +kernel
theorem dX6_work_66 : decode cX6_work 66 = .ok (.getfield 10, 3) := by decide +kernel
theorem dX6_work_69 : decode cX6_work 69 = .ok (.invokevirtual 80, 3) := by decide +kernel
theorem dX6_work_72 : decode cX6_work 72 = .ok (.iload_n 1, 1) := by decide +kernel
theorem dX6_work_73 : decode cX6_work 73 = .ok (.ireturn, 1) := by decide +kernel
theorem dX6_stopped_0 : decode cX6_stopped 0 = .ok (.iload_n 1, 1) := by decide +kernel
theorem dX6_stopped_1 : decode cX6_stopped 1 = .ok (.ifCond .eq 18, 3) := by decide +kernel
theorem dX6_stopped_4 : decode cX6_stopped 4 = .ok (.iload_n 1, 1) := by decide +kernel
theorem dX6_stopped_5 : decode cX6_stopped 5 = .ok (.iconst 1, 1) := by decide +kernel
theorem dX6_stopped_6 : decode cX6_stopped 6 = .ok (.if_icmp .eq 13, 3) := by decide +kernel
theorem dX6_stopped_9 : decode cX6_stopped 9 = .ok (.new 41, 3) := by decide +kernel
theorem dX6_stopped_12 : decode cX6_stopped 12 = .ok (.dup, 1) := by decide +kernel
theorem dX6_stopped_13 : decode cX6_stopped 13 = .ok (.ldc 179, 2) := by decide +kernel
theorem dX6_stopped_15 : decode cX6_stopped 15 = .ok (.invokespecial 45, 3) := by decide +kernel
theorem dX6_stopped_18 : decode cX6_stopped 18 = .ok (.athrow, 1) := by decide +kernel
theorem dX6_stopped_19 : decode cX6_stopped 19 = .ok (.iload_n 1, 1) := by decide +kernel
theorem dX6_stopped_20 : decode cX6_stopped 20 = .ok (.ifCond .ne 13, 3) := by decide +kernel
theorem dX6_stopped_23 : decode cX6_stopped 23 = .ok (.aload_n 0, 1) := by decide +kernel
theorem dX6_stopped_24 : decode cX6_stopped 24 = .ok (.getfield 19, 3) := by decide +kernel
theorem dX6_stopped_27 : decode cX6_stopped 27 = .ok (.getfield 181, 3) := by decide +kernel
theorem dX6_stopped_30 : decode cX6_stopped 30 = .ok (.goto 10, 3) := by decide +kernel
theorem dX6_stopped_33 : decode cX6_stopped 33 = .ok (.aload_n 0, 1) := by decide +kernel
theorem dX6_stopped_34 : decode cX6_stopped 34 = .ok (.getfield 19, 3) := by decide +kernel
theorem dX6_stopped_37 : decode cX6_stopped 37 = .ok (.getfield 184, 3) := by decide +kernel
theorem dX6_stopped_40 : decode cX6_stopped 40 = .ok (.ireturn, 1) := by decide +kernel
theorem dX6_undo_0 : decode cX6_undo 0 = .ok (.aload_n 0, 1) := by decide +kernel
theorem dX6_undo_1 : decode cX6_undo 1 = .ok (.getfield 26, 3) := by decide +kernel
theorem dX6_undo_4 : decode cX6_undo 4 = .ok (.getfield 187, 3) := by decide +kernel
theorem dX6_undo_7 : decode cX6_undo 7 = .ok (.ifCond .gt 13, 3) := by decide +kernel
theorem dX6_undo_10 : decode cX6_undo 10 = .ok (.new 52, 3) := by decide +kernel
theorem dX6_undo_13 : decode cX6_undo 13 = .ok (.dup, 1) := by decide +kernel
theorem dX6_undo_14 : decode cX6_undo 14 = .ok (.ldc 188, 2) := by decide +kernel
theorem dX6_undo_16 : decode cX6_undo 16 = .ok (.invokespecial 56, 3) := by decide +kernel
theorem dX6_undo_19 : decode cX6_undo 19 = .ok (.athrow, 1) := by decide +kernel
theorem dX6_undo_20 : decode cX6_undo 20 = .ok (.aload_n 0, 1) := by decide +kernel
theorem dX6_undo_21 : decode cX6_undo 21 = .ok (.getfield 26, 3) := by decide +kernel
theorem dX6_undo_24 : decode cX6_undo 24 = .ok (.aload_n 0, 1) := by decide +kernel
theorem dX6_undo_25 : decode cX6_undo 25 = .ok (.getfield 19, 3) := by decide +kernel
theorem dX6_undo_28 : decode cX6_undo 28 = .ok (.invokevirtual 190, 3) := by decide +kernel
theorem dX6_undo_31 : decode cX6_undo 31 = .ok (.aload_n 0, 1) := by decide +kernel
theorem dX6_undo_32 : decode cX6_undo 32 = .ok (.getfield 26, 3) := by decide +kernel
theorem dX6_undo_35 : decode cX6_undo 35 = .ok (.getfield 187, 3) := by decide +kernel
theorem dX6_undo_38 : decode cX6_undo 38 = .ok (.ireturn, 1) := by decide +kernel
theorem dX6_keep_0 : decode cX6_keep 0 = .ok (.aload_n 0, 1) := by decide +kernel
theorem dX6_keep_1 : decode cX6_keep 1 = .ok (.getfield 30, 3) := by decide +kernel
theorem dX6_keep_4 : decode cX6_keep 4 = .ok (.aload_n 0, 1) := by decide +kernel
theorem dX6_keep_5 : decode cX6_keep 5 = .ok (.getfield 19, 3) := by decide +kernel
theorem dX6_keep_8 : decode cX6_keep 8 = .ok (.invokevirtual 193, 3) := by decide +kernel
theorem dX6_keep_11 : decode cX6_keep 11 = .ok (.aload_n 0, 1) := by decide +kernel
theorem dX6_keep_12 : decode cX6_keep 12 = .ok (.iconst 1, 1) := by decide +kernel
theorem dX6_keep_13 : decode cX6_keep 13 = .ok (.putfield 33, 3) := by decide +kernel
theorem dX6_keep_16 : decode cX6_keep 16 = .ok (.aload_n 0, 1) := by decide +kernel
theorem dX6_keep_17 : decode cX6_keep 17 = .ok (.getfield 19, 3) := by decide +kernel
theorem dX6_keep_20 : decode cX6_keep 20 = .ok (.getfield 48, 3) := by decide +kernel
theorem dX6_keep_23 : decode cX6_keep 23 = .ok (.ireturn, 1) := by decide +kernel
theorem dX6_restore_0 : decode cX6_restore 0 = .ok (.aload_n 0, 1) := by decide +kernel
theorem dX6_restore_1 : decode cX6_restore 1 = .ok (.getfield 33, 3) := by decide +kernel
theorem dX6_restore_4 : decode cX6_restore 4 = .ok (.ifCond .ne 13, 3) := by decide +kernel
theorem dX6_restore_7 : decode cX6_restore 7 = .ok (.new 52, 3) := by decide +kernel
theorem dX6_restore_10 : decode cX6_restore 10 = .ok (.dup, 1) := by decide +kernel
theorem dX6_restore_11 : decode cX6_restore 11 = .ok (.ldc 196, 2) := by decide +kernel
theorem dX6_restore_13 : decode cX6_restore 13 = .ok (.invokespecial 56, 3) := by decide +kernel
theorem dX6_restore_16 : decode cX6_restore 16 = .ok (.athrow, 1) := by decide +kernel
theorem dX6_restore_17 : decode cX6_restore 17 = .ok (.aload_n 0, 1) := by decide +kernel
theorem dX6_restore_18 : decode cX6_restore 18 = .ok (.getfield 26, 3) := by decide +kernel
theorem dX6_restore_21 : decode cX6_restore 21 = .ok (.aload_n 0, 1) := by decide +kernel
theorem dX6_restore_22 : decode cX6_restore 22 = .ok (.getfield 19, 3) := by decide +kernel
theorem dX6_restore_25 : decode cX6_restore 25 = .ok (.invokevirtual 57, 3) := by decide +kernel
theorem dX6_restore_28 : decode cX6_restore 28 = .ok (.aload_n 0, 1) := by decide +kernel
theorem dX6_restore_29 : decode cX6_restore 29 = .ok (.getfield 19, 3) := by decide +kernel
theorem dX6_restore_32 : decode cX6_restore 32 = .ok (.aload_n 0, 1) := by decide +kernel
theorem dX6_restore_33 : decode cX6_restore 33 = .ok (.getfield 30, 3) := by decide +kernel
theorem dX6_restore_36 : decode cX6_restore 36 = .ok (.invokevirtual 193, 3) := by decide +kernel
theorem dX6_restore_39 : decode cX6_restore 39 = .ok (.aload_n 0, 1) := by decide +kernel
theorem dX6_restore_40 : decode cX6_restore 40 = .ok (.getfield 19, 3) := by decide +kernel
theorem dX6_restore_43 : decode cX6_restore 43 = .ok (.getfield 48, 3) := by decide +kernel
theorem dX6_restore_46 : decode cX6_restore 46 = .ok (.ireturn, 1) := by decide +kernel
theorem dX6_sheet_0 : decode cX6_sheet 0 = .ok (.aload_n 0, 1) := by decide +kernel
theorem dX6_sheet_1 : decode cX6_sheet 1 = .ok (.iload_n 1, 1) := by decide +kernel
theorem dX6_sheet_2 : decode cX6_sheet 2 = .ok (.invokevirtual 83, 3) := by decide +kernel
theorem dX6_sheet_5 : decode cX6_sheet 5 = .ok (.ifCond .ne 13, 3) := by decide +kernel
theorem dX6_sheet_8 : decode cX6_sheet 8 = .ok (.new 87, 3) := by decide +kernel
theorem dX6_sheet_11 : decode cX6_sheet 11 = .ok (.dup, 1) := by decide +kernel
theorem dX6_sheet_12 : decode cX6_sheet 12 = .ok (.ldc 89, 2) := by decide +kernel
theorem dX6_sheet_14 : decode cX6_sheet 14 = .ok (.invokespecial 91, 3) := by decide +kernel
theorem dX6_sheet_17 : decode cX6_sheet 17 = .ok (.athrow, 1) := by decide +kernel
theorem dX6_sheet_18 : decode cX6_sheet 18 = .ok (.iload_n 2, 1) := by decide +kernel
theorem dX6_sheet_19 : decode cX6_sheet 19 = .ok (.ifCond .lt 9, 3) := by decide +kernel
theorem dX6_sheet_22 : decode cX6_sheet 22 = .ok (.iload_n 2, 1) := by decide +kernel
theorem dX6_sheet_23 : decode cX6_sheet 23 = .ok (.bipush 7, 2) := by decide +kernel
theorem dX6_sheet_25 : decode cX6_sheet 25 = .ok (.if_icmp .lt 13, 3) := by decide +kernel
theorem dX6_sheet_28 : decode cX6_sheet 28 = .ok (.new 41, 3) := by decide +kernel
theorem dX6_sheet_31 : decode cX6_sheet 31 = .ok (.dup, 1) := by decide +kernel
theorem dX6_sheet_32 : decode cX6_sheet 32 = .ok (.ldc 198, 2) := by decide +kernel
theorem dX6_sheet_34 : decode cX6_sheet 34 = .ok (.invokespecial 45, 3) := by decide +kernel
theorem dX6_sheet_37 : decode cX6_sheet 37 = .ok (.athrow, 1) := by decide +kernel
theorem dX6_sheet_38 : decode cX6_sheet 38 = .ok (.aload_n 0, 1) := by decide +kernel
theorem dX6_sheet_39 : decode cX6_sheet 39 = .ok (.getfield 19, 3) := by decide +kernel
theorem dX6_sheet_42 : decode cX6_sheet 42 = .ok (.iload_n 1, 1) := by decide +kernel
theorem dX6_sheet_43 : decode cX6_sheet 43 = .ok (.iload_n 2, 1) := by decide +kernel
theorem dX6_sheet_44 : decode cX6_sheet 44 = .ok (.invokevirtual 200, 3) := by decide +kernel
theorem dX6_sheet_47 : decode cX6_sheet 47 = .ok (.ireturn, 1) := by decide +kernel
theorem dX6_stroke_0 : decode cX6_stroke 0 = .ok (.aload_n 0, 1) := by decide +kernel
theorem dX6_stroke_1 : decode cX6_stroke 1 = .ok (.iload_n 1, 1) := by decide +kernel
theorem dX6_stroke_2 : decode cX6_stroke 2 = .ok (.invokevirtual 83, 3) := by decide +kernel
theorem dX6_stroke_5 : decode cX6_stroke 5 = .ok (.ifCond .ne 13, 3) := by decide +kernel
theorem dX6_stroke_8 : decode cX6_stroke 8 = .ok (.new 87, 3) := by decide +kernel
theorem dX6_stroke_11 : decode cX6_stroke 11 = .ok (.dup, 1) := by decide +kernel
theorem dX6_stroke_12 : decode cX6_stroke 12 = .ok (.ldc 89, 2) := by decide +kernel
theorem dX6_stroke_14 : decode cX6_stroke 14 = .ok (.invokespecial 91, 3) := by decide +kernel
theorem dX6_stroke_17 : decode cX6_stroke 17 = .ok (.athrow, 1) := by decide +kernel
theorem dX6_stroke_18 : decode cX6_stroke 18 = .ok (.iload_n 2, 1) := by decide +kernel
theorem dX6_stroke_19 : decode cX6_stroke 19 = .ok (.ifCond .lt 18, 3) := by decide +kernel
theorem dX6_stroke_22 : decode cX6_stroke 22 = .ok (.iload_n 2, 1) := by decide +kernel
theorem dX6_stroke_23 : decode cX6_stroke 23 = .ok (.bipush 8, 2) := by decide +kernel
theorem dX6_stroke_25 : decode cX6_stroke 25 = .ok (.if_icmp .ge 12, 3) := by decide +kernel
theorem dX6_stroke_28 : decode cX6_stroke 28 = .ok (.iload_n 3, 1) := by decide +kernel
theorem dX6_stroke_29 : decode cX6_stroke 29 = .ok (.ifCond .lt 8, 3) := by decide +kernel
theorem dX6_stroke_32 : decode cX6_stroke 32 = .ok (.iload_n 3, 1) := by decide +kernel
theorem dX6_stroke_33 : decode cX6_stroke 33 = .ok (.iconst 5, 1) := by decide +kernel
theorem dX6_stroke_34 : decode cX6_stroke 34 = .ok (.if_icmp .lt 13, 3) := by decide +kernel
theorem dX6_stroke_37 : decode cX6_stroke 37 = .ok (.new 41, 3) := by decide +kernel
theorem dX6_stroke_40 : decode cX6_stroke 40 = .ok (.dup, 1) := by decide +kernel
theorem dX6_stroke_41 : decode cX6_stroke 41 = .ok (.ldc 203, 2) := by decide +kernel
theorem dX6_stroke_43 : decode cX6_stroke 43 = .ok (.invokespecial 45, 3) := by decide +kernel
theorem dX6_stroke_46 : decode cX6_stroke 46 = .ok (.athrow, 1) := by decide +kernel
theorem dX6_stroke_47 : decode cX6_stroke 47 = .ok (.aload_n 0, 1) := by decide +kernel
theorem dX6_stroke_48 : decode cX6_stroke 48 = .ok (.getfield 19, 3) := by decide +kernel
theorem dX6_stroke_51 : decode cX6_stroke 51 = .ok (.iload_n 1, 1) := by decide +kernel
theorem dX6_stroke_52 : decode cX6_stroke 52 = .ok (.invokevirtual 205, 3) := by decide +kernel
theorem dX6_stroke_55 : decode cX6_stroke 55 = .ok (.iload_n 2, 1) := by decide +kernel
theorem dX6_stroke_56 : decode cX6_stroke 56 = .ok (.iload_n 3, 1) := by decide +kernel
theorem dX6_stroke_57 : decode cX6_stroke 57 = .ok (.invokevirtual 209, 3) := by decide +kernel
theorem dX6_stroke_60 : decode cX6_stroke 60 = .ok (.ireturn, 1) := by decide +kernel
theorem dX6_mark_0 : decode cX6_mark 0 = .ok (.aload_n 0, 1) := by decide +kernel
theorem dX6_mark_1 : decode cX6_mark 1 = .ok (.iload_n 1, 1) := by decide +kernel
theorem dX6_mark_2 : decode cX6_mark 2 = .ok (.invokevirtual 83, 3) := by decide +kernel
theorem dX6_mark_5 : decode cX6_mark 5 = .ok (.ifCond .ne 13, 3) := by decide +kernel
theorem dX6_mark_8 : decode cX6_mark 8 = .ok (.new 87, 3) := by decide +kernel
theorem dX6_mark_11 : decode cX6_mark 11 = .ok (.dup, 1) := by decide +kernel
theorem dX6_mark_12 : decode cX6_mark 12 = .ok (.ldc 89, 2) := by decide +kernel
theorem dX6_mark_14 : decode cX6_mark 14 = .ok (.invokespecial 91, 3) := by decide +kernel
theorem dX6_mark_17 : decode cX6_mark 17 = .ok (.athrow, 1) := by decide +kernel
theorem dX6_mark_18 : decode cX6_mark 18 = .ok (.iload_n 2, 1) := by decide +kernel
theorem dX6_mark_19 : decode cX6_mark 19 = .ok (.ifCond .lt 9, 3) := by decide +kernel
theorem dX6_mark_22 : decode cX6_mark 22 = .ok (.iload_n 2, 1) := by decide +kernel
theorem dX6_mark_23 : decode cX6_mark 23 = .ok (.bipush 6, 2) := by decide +kernel
theorem dX6_mark_25 : decode cX6_mark 25 = .ok (.if_icmp .lt 13, 3) := by decide +kernel
theorem dX6_mark_28 : decode cX6_mark 28 = .ok (.new 41, 3) := by decide +kernel
theorem dX6_mark_31 : decode cX6_mark 31 = .ok (.dup, 1) := by decide +kernel
theorem dX6_mark_32 : decode cX6_mark 32 = .ok (.ldc 212, 2) := by decide +kernel
theorem dX6_mark_34 : decode cX6_mark 34 = .ok (.invokespecial 45, 3) := by decide +kernel
theorem dX6_mark_37 : decode cX6_mark 37 = .ok (.athrow, 1) := by decide +kernel
theorem dX6_mark_38 : decode cX6_mark 38 = .ok (.aload_n 0, 1) := by decide +kernel
theorem dX6_mark_39 : decode cX6_mark 39 = .ok (.getfield 19, 3) := by decide +kernel
theorem dX6_mark_42 : decode cX6_mark 42 = .ok (.iload_n 1, 1) := by decide +kernel
theorem dX6_mark_43 : decode cX6_mark 43 = .ok (.invokevirtual 205, 3) := by decide +kernel
theorem dX6_mark_46 : decode cX6_mark 46 = .ok (.iload_n 2, 1) := by decide +kernel
theorem dX6_mark_47 : decode cX6_mark 47 = .ok (.invokevirtual 214, 3) := by decide +kernel
theorem dX6_mark_50 : decode cX6_mark 50 = .ok (.ireturn, 1) := by decide +kernel
theorem dX6_compare_0 : decode cX6_compare 0 = .ok (.aload_n 0, 1) := by decide +kernel
theorem dX6_compare_1 : decode cX6_compare 1 = .ok (.iload_n 1, 1) := by decide +kernel
theorem dX6_compare_2 : decode cX6_compare 2 = .ok (.iload_n 2, 1) := by decide +kernel
theorem dX6_compare_3 : decode cX6_compare 3 = .ok (.invokevirtual 121, 3) := by decide +kernel
theorem dX6_compare_6 : decode cX6_compare 6 = .ok (.ifCond .ne 13, 3) := by decide +kernel
theorem dX6_compare_9 : decode cX6_compare 9 = .ok (.new 87, 3) := by decide +kernel
theorem dX6_compare_12 : decode cX6_compare 12 = .ok (.dup, 1) := by decide +kernel
theorem dX6_compare_13 : decode cX6_compare 13 = .ok (.ldc 89, 2) := by decide +kernel
theorem dX6_compare_15 : decode cX6_compare 15 = .ok (.invokespecial 91, 3) := by decide +kernel
theorem dX6_compare_18 : decode cX6_compare 18 = .ok (.athrow, 1) := by decide +kernel
theorem dX6_compare_19 : decode cX6_compare 19 = .ok (.iload_n 3, 1) := by decide +kernel
theorem dX6_compare_20 : decode cX6_compare 20 = .ok (.ifCond .lt 8, 3) := by decide +kernel
theorem dX6_compare_23 : decode cX6_compare 23 = .ok (.iload_n 3, 1) := by decide +kernel
theorem dX6_compare_24 : decode cX6_compare 24 = .ok (.iconst 5, 1) := by decide +kernel
theorem dX6_compare_25 : decode cX6_compare 25 = .ok (.if_icmp .lt 13, 3) := by decide +kernel
theorem dX6_compare_28 : decode cX6_compare 28 = .ok (.new 41, 3) := by decide +kernel
theorem dX6_compare_31 : decode cX6_compare 31 = .ok (.dup, 1) := by decide +kernel
theorem dX6_compare_32 : decode cX6_compare 32 = .ok (.ldc 217, 2) := by decide +kernel
theorem dX6_compare_34 : decode cX6_compare 34 = .ok (.invokespecial 45, 3) := by decide +kernel
theorem dX6_compare_37 : decode cX6_compare 37 = .ok (.athrow, 1) := by decide +kernel
theorem dX6_compare_38 : decode cX6_compare 38 = .ok (.aload_n 0, 1) := by decide +kernel
theorem dX6_compare_39 : decode cX6_compare 39 = .ok (.getfield 19, 3) := by decide +kernel
theorem dX6_compare_42 : decode cX6_compare 42 = .ok (.iload_n 1, 1) := by decide +kernel
theorem dX6_compare_43 : decode cX6_compare 43 = .ok (.iload_n 2, 1) := by decide +kernel
theorem dX6_compare_44 : decode cX6_compare 44 = .ok (.iload_n 3, 1) := by decide +kernel
theorem dX6_compare_45 : decode cX6_compare 45 = .ok (.invokevirtual 219, 3) := by decide +kernel
theorem dX6_compare_48 : decode cX6_compare 48 = .ok (.ireturn, 1) := by decide +kernel
theorem dX6_oath_0 : decode cX6_oath 0 = .ok (.iload_n 1, 1) := by decide +kernel
theorem dX6_oath_1 : decode cX6_oath 1 = .ok (.ifCond .lt 12, 3) := by decide +kernel
theorem dX6_oath_4 : decode cX6_oath 4 = .ok (.iload_n 2, 1) := by decide +kernel
theorem dX6_oath_5 : decode cX6_oath 5 = .ok (.ifCond .lt 8, 3) := by decide +kernel
theorem dX6_oath_8 : decode cX6_oath 8 = .ok (.iload_n 2, 1) := by decide +kernel
theorem dX6_oath_9 : decode cX6_oath 9 = .ok (.iconst 4, 1) := by decide +kernel
theorem dX6_oath_10 : decode cX6_oath 10 = .ok (.if_icmp .lt 13, 3) := by decide +kernel
theorem dX6_oath_13 : decode cX6_oath 13 = .ok (.new 41, 3) := by decide +kernel
theorem dX6_oath_16 : decode cX6_oath 16 = .ok (.dup, 1) := by decide +kernel
theorem dX6_oath_17 : decode cX6_oath 17 = .ok (.ldc 223, 2) := by decide +kernel
theorem dX6_oath_19 : decode cX6_oath 19 = .ok (.invokespecial 45, 3) := by decide +kernel
theorem dX6_oath_22 : decode cX6_oath 22 = .ok (.athrow, 1) := by decide +kernel
theorem dX6_oath_23 : decode cX6_oath 23 = .ok (.iload_n 1, 1) := by decide +kernel
theorem dX6_oath_24 : decode cX6_oath 24 = .ok (.aload_n 0, 1) := by decide +kernel
theorem dX6_oath_25 : decode cX6_oath 25 = .ok (.getfield 19, 3) := by decide +kernel
theorem dX6_oath_28 : decode cX6_oath 28 = .ok (.getfield 131, 3) := by decide +kernel
theorem dX6_oath_31 : decode cX6_oath 31 = .ok (.getfield 225, 3) := by decide +kernel
theorem dX6_oath_34 : decode cX6_oath 34 = .ok (.if_icmp .ge 18, 3) := by decide +kernel
theorem dX6_oath_37 : decode cX6_oath 37 = .ok (.aload_n 0, 1) := by decide +kernel
theorem dX6_oath_38 : decode cX6_oath 38 = .ok (.getfield 19, 3) := by decide +kernel
theorem dX6_oath_41 : decode cX6_oath 41 = .ok (.getfield 131, 3) := by decide +kernel
theorem dX6_oath_44 : decode cX6_oath 44 = .ok (.iload_n 1, 1) := by decide +kernel
theorem dX6_oath_45 : decode cX6_oath 45 = .ok (.iload_n 2, 1) := by decide +kernel
theorem dX6_oath_46 : decode cX6_oath 46 = .ok (.invokevirtual 226, 3) := by decide +kernel
theorem dX6_oath_49 : decode cX6_oath 49 = .ok (.goto 4, 3) := by decide +kernel
theorem dX6_oath_52 : decode cX6_oath 52 = .ok (.iconst (-1), 1) := by decide +kernel
theorem dX6_oath_53 : decode cX6_oath 53 = .ok (.ireturn, 1) := by decide +kernel
theorem dX6_count_0 : decode cX6_count 0 = .ok (.iload_n 1, 1) := by decide +kernel
theorem dX6_count_1 : decode cX6_count 1 = .ok (.ifCond .lt 9, 3) := by decide +kernel
theorem dX6_count_4 : decode cX6_count 4 = .ok (.iload_n 1, 1) := by decide +kernel
theorem dX6_count_5 : decode cX6_count 5 = .ok (.bipush 18, 2) := by decide +kernel
theorem dX6_count_7 : decode cX6_count 7 = .ok (.if_icmp .lt 13, 3) := by decide +kernel
theorem dX6_count_10 : decode cX6_count 10 = .ok (.new 41, 3) := by decide +kernel
theorem dX6_count_13 : decode cX6_count 13 = .ok (.dup, 1) := by decide +kernel
theorem dX6_count_14 : decode cX6_count 14 = .ok (.ldc 229, 2) := by decide +kernel
theorem dX6_count_16 : decode cX6_count 16 = .ok (.invokespecial 45, 3) := by decide +kernel
theorem dX6_count_19 : decode cX6_count 19 = .ok (.athrow, 1) := by decide +kernel
theorem dX6_count_20 : decode cX6_count 20 = .ok (.aload_n 0, 1) := by decide +kernel
theorem dX6_count_21 : decode cX6_count 21 = .ok (.iload_n 1, 1) := by decide +kernel
theorem dX6_count_22 : decode cX6_count 22 = .ok (.invokevirtual 231, 3) := by decide +kernel
theorem dX6_count_25 : decode cX6_count 25 = .ok (.ireturn, 1) := by decide +kernel
theorem dX6_whyNot_0 : decode cX6_whyNot 0 = .ok (.aload_n 0, 1) := by decide +kernel
theorem dX6_whyNot_1 : decode cX6_whyNot 1 = .ok (.iload_n 1, 1) := by decide +kernel
theorem dX6_whyNot_2 : decode cX6_whyNot 2 = .ok (.iload_n 2, 1) := by decide +kernel
theorem dX6_whyNot_3 : decode cX6_whyNot 3 = .ok (.invokevirtual 121, 3) := by decide +kernel
theorem dX6_whyNot_6 : decode cX6_whyNot 6 = .ok (.ifCond .ne 13, 3) := by decide +kernel
theorem dX6_whyNot_9 : decode cX6_whyNot 9 = .ok (.new 87, 3) := by decide +kernel
theorem dX6_whyNot_12 : decode cX6_whyNot 12 = .ok (.dup, 1) := by decide +kernel
theorem dX6_whyNot_13 : decode cX6_whyNot 13 = .ok (.ldc 89, 2) := by decide +kernel
theorem dX6_whyNot_15 : decode cX6_whyNot 15 = .ok (.invokespecial 91, 3) := by decide +kernel
theorem dX6_whyNot_18 : decode cX6_whyNot 18 = .ok (.athrow, 1) := by decide +kernel
theorem dX6_whyNot_19 : decode cX6_whyNot 19 = .ok (.aload_n 0, 1) := by decide +kernel
theorem dX6_whyNot_20 : decode cX6_whyNot 20 = .ok (.getfield 19, 3) := by decide +kernel
theorem dX6_whyNot_23 : decode cX6_whyNot 23 = .ok (.iload_n 1, 1) := by decide +kernel
theorem dX6_whyNot_24 : decode cX6_whyNot 24 = .ok (.iload_n 2, 1) := by decide +kernel
theorem dX6_whyNot_25 : decode cX6_whyNot 25 = .ok (.iload_n 3, 1) := by decide +kernel
theorem dX6_whyNot_26 : decode cX6_whyNot 26 = .ok (.invokevirtual 125, 3) := by decide +kernel
theorem dX6_whyNot_29 : decode cX6_whyNot 29 = .ok (.ireturn, 1) := by decide +kernel
theorem dX6_nearest_0 : decode cX6_nearest 0 = .ok (.aload_n 0, 1) := by decide +kernel
theorem dX6_nearest_1 : decode cX6_nearest 1 = .ok (.iload_n 1, 1) := by decide +kernel
theorem dX6_nearest_2 : decode cX6_nearest 2 = .ok (.invokevirtual 83, 3) := by decide +kernel
theorem dX6_nearest_5 : decode cX6_nearest 5 = .ok (.ifCond .ne 13, 3) := by decide +kernel
theorem dX6_nearest_8 : decode cX6_nearest 8 = .ok (.new 87, 3) := by decide +kernel
theorem dX6_nearest_11 : decode cX6_nearest 11 = .ok (.dup, 1) := by decide +kernel
theorem dX6_nearest_12 : decode cX6_nearest 12 = .ok (.ldc 89, 2) := by decide +kernel
theorem dX6_nearest_14 : decode cX6_nearest 14 = .ok (.invokespecial 91, 3) := by decide +kernel
theorem dX6_nearest_17 : decode cX6_nearest 17 = .ok (.athrow, 1) := by decide +kernel
theorem dX6_nearest_18 : decode cX6_nearest 18 = .ok (.aload_n 0, 1) := by decide +kernel
theorem dX6_nearest_19 : decode cX6_nearest 19 = .ok (.getfield 19, 3) := by decide +kernel
theorem dX6_nearest_22 : decode cX6_nearest 22 = .ok (.iload_n 1, 1) := by decide +kernel
theorem dX6_nearest_23 : decode cX6_nearest 23 = .ok (.invokevirtual 234, 3) := by decide +kernel
theorem dX6_nearest_26 : decode cX6_nearest 26 = .ok (.ireturn, 1) := by decide +kernel
theorem dX6_toleranceFor_0 : decode cX6_toleranceFor 0 = .ok (.aload_n 0, 1) := by decide +kernel
theorem dX6_toleranceFor_1 : decode cX6_toleranceFor 1 = .ok (.iload_n 1, 1) := by decide +kernel
theorem dX6_toleranceFor_2 : decode cX6_toleranceFor 2 = .ok (.iload_n 2, 1) := by decide +kernel
theorem dX6_toleranceFor_3 : decode cX6_toleranceFor 3 = .ok (.invokevirtual 121, 3) := by decide +kernel
theorem dX6_toleranceFor_6 : decode cX6_toleranceFor 6 = .ok (.ifCond .ne 13, 3) := by decide +kernel
theorem dX6_toleranceFor_9 : decode cX6_toleranceFor 9 = .ok (.new 87, 3) := by decide +kernel
theorem dX6_toleranceFor_12 : decode cX6_toleranceFor 12 = .ok (.dup, 1) := by decide +kernel
theorem dX6_toleranceFor_13 : decode cX6_toleranceFor 13 = .ok (.ldc 89, 2) := by decide +kernel
theorem dX6_toleranceFor_15 : decode cX6_toleranceFor 15 = .ok (.invokespecial 91, 3) := by decide +kernel
theorem dX6_toleranceFor_18 : decode cX6_toleranceFor 18 = .ok (.athrow, 1) := by decide +kernel
theorem dX6_toleranceFor_19 : decode cX6_toleranceFor 19 = .ok (.iload_n 3, 1) := by decide +kernel
theorem dX6_toleranceFor_20 : decode cX6_toleranceFor 20 = .ok (.ifCond .lt 9, 3) := by decide +kernel
theorem dX6_toleranceFor_23 : decode cX6_toleranceFor 23 = .ok (.iload_n 3, 1) := by decide +kernel
theorem dX6_toleranceFor_24 : decode cX6_toleranceFor 24 = .ok (.bipush 6, 2) := by decide +kernel
theorem dX6_toleranceFor_26 : decode cX6_toleranceFor 26 = .ok (.if_icmp .lt 13, 3) := by decide +kernel
theorem dX6_toleranceFor_29 : decode cX6_toleranceFor 29 = .ok (.new 41, 3) := by decide +kernel
theorem dX6_toleranceFor_32 : decode cX6_toleranceFor 32 = .ok (.dup, 1) := by decide +kernel
theorem dX6_toleranceFor_33 : decode cX6_toleranceFor 33 = .ok (.ldc 212, 2) := by decide +kernel
theorem dX6_toleranceFor_35 : decode cX6_toleranceFor 35 = .ok (.invokespecial 45, 3) := by decide +kernel
theorem dX6_toleranceFor_38 : decode cX6_toleranceFor 38 = .ok (.athrow, 1) := by decide +kernel
theorem dX6_toleranceFor_39 : decode cX6_toleranceFor 39 = .ok (.aload_n 0, 1) := by decide +kernel
theorem dX6_toleranceFor_40 : decode cX6_toleranceFor 40 = .ok (.getfield 19, 3) := by decide +kernel
theorem dX6_toleranceFor_43 : decode cX6_toleranceFor 43 = .ok (.iload_n 1, 1) := by decide +kernel
theorem dX6_toleranceFor_44 : decode cX6_toleranceFor 44 = .ok (.iload_n 2, 1) := by decide +kernel
theorem dX6_toleranceFor_45 : decode cX6_toleranceFor 45 = .ok (.iload_n 3, 1) := by decide +kernel
theorem dX6_toleranceFor_46 : decode cX6_toleranceFor 46 = .ok (.invokevirtual 237, 3) := by decide +kernel
theorem dX6_toleranceFor_49 : decode cX6_toleranceFor 49 = .ok (.ireturn, 1) := by decide +kernel
theorem dX6_ifPassed_0 : decode cX6_ifPassed 0 = .ok (.aload_n 0, 1) := by decide +kernel
theorem dX6_ifPassed_1 : decode cX6_ifPassed 1 = .ok (.iload_n 1, 1) := by decide +kernel
theorem dX6_ifPassed_2 : decode cX6_ifPassed 2 = .ok (.iload_n 2, 1) := by decide +kernel
theorem dX6_ifPassed_3 : decode cX6_ifPassed 3 = .ok (.invokevirtual 121, 3) := by decide +kernel
theorem dX6_ifPassed_6 : decode cX6_ifPassed 6 = .ok (.ifCond .ne 13, 3) := by decide +kernel
theorem dX6_ifPassed_9 : decode cX6_ifPassed 9 = .ok (.new 87, 3) := by decide +kernel
theorem dX6_ifPassed_12 : decode cX6_ifPassed 12 = .ok (.dup, 1) := by decide +kernel
theorem dX6_ifPassed_13 : decode cX6_ifPassed 13 = .ok (.ldc 89, 2) := by decide +kernel
theorem dX6_ifPassed_15 : decode cX6_ifPassed 15 = .ok (.invokespecial 91, 3) := by decide +kernel
theorem dX6_ifPassed_18 : decode cX6_ifPassed 18 = .ok (.athrow, 1) := by decide +kernel
theorem dX6_ifPassed_19 : decode cX6_ifPassed 19 = .ok (.iload_n 3, 1) := by decide +kernel
theorem dX6_ifPassed_20 : decode cX6_ifPassed 20 = .ok (.iconst 1, 1) := by decide +kernel
theorem dX6_ifPassed_21 : decode cX6_ifPassed 21 = .ok (.if_icmp .lt 9, 3) := by decide +kernel
theorem dX6_ifPassed_24 : decode cX6_ifPassed 24 = .ok (.iload_n 3, 1) := by decide +kernel
theorem dX6_ifPassed_25 : decode cX6_ifPassed 25 = .ok (.bipush 99, 2) := by decide +kernel
theorem dX6_ifPassed_27 : decode cX6_ifPassed 27 = .ok (.if_icmp .le 13, 3) := by decide +kernel
theorem dX6_ifPassed_30 : decode cX6_ifPassed 30 = .ok (.new 41, 3) := by decide +kernel
theorem dX6_ifPassed_33 : decode cX6_ifPassed 33 = .ok (.dup, 1) := by decide +kernel
theorem dX6_ifPassed_34 : decode cX6_ifPassed 34 = .ok (.ldc 96, 2) := by decide +kernel
theorem dX6_ifPassed_36 : decode cX6_ifPassed 36 = .ok (.invokespecial 45, 3) := by decide +kernel
theorem dX6_ifPassed_39 : decode cX6_ifPassed 39 = .ok (.athrow, 1) := by decide +kernel
theorem dX6_ifPassed_40 : decode cX6_ifPassed 40 = .ok (.aload_n 0, 1) := by decide +kernel
theorem dX6_ifPassed_41 : decode cX6_ifPassed 41 = .ok (.getfield 19, 3) := by decide +kernel
theorem dX6_ifPassed_44 : decode cX6_ifPassed 44 = .ok (.iload_n 1, 1) := by decide +kernel
theorem dX6_ifPassed_45 : decode cX6_ifPassed 45 = .ok (.iload_n 2, 1) := by decide +kernel
theorem dX6_ifPassed_46 : decode cX6_ifPassed 46 = .ok (.iload_n 3, 1) := by decide +kernel
theorem dX6_ifPassed_47 : decode cX6_ifPassed 47 = .ok (.invokevirtual 240, 3) := by decide +kernel
theorem dX6_ifPassed_50 : decode cX6_ifPassed 50 = .ok (.ireturn, 1) := by decide +kernel
theorem dX6_handShare_0 : decode cX6_handShare 0 = .ok (.aload_n 0, 1) := by decide +kernel
theorem dX6_handShare_1 : decode cX6_handShare 1 = .ok (.getfield 19, 3) := by decide +kernel
theorem dX6_handShare_4 : decode cX6_handShare 4 = .ok (.invokevirtual 243, 3) := by decide +kernel
theorem dX6_handShare_7 : decode cX6_handShare 7 = .ok (.dreturn, 1) := by decide +kernel
theorem dX6_digest_0 : decode cX6_digest 0 = .ok (.ldc2_w 247, 3) := by decide +kernel
theorem dX6_digest_3 : decode cX6_digest 3 = .ok (.lstore_n 1, 1) := by decide +kernel
theorem dX6_digest_4 : decode cX6_digest 4 = .ok (.iconst 0, 1) := by decide +kernel
theorem dX6_digest_5 : decode cX6_digest 5 = .ok (.istore_n 3, 1) := by decide +kernel
theorem dX6_digest_6 : decode cX6_digest 6 = .ok (.iload_n 3, 1) := by decide +kernel
theorem dX6_digest_7 : decode cX6_digest 7 = .ok (.bipush 18, 2) := by decide +kernel
theorem dX6_digest_9 : decode cX6_digest 9 = .ok (.if_icmp .ge 20, 3) := by decide +kernel
theorem dX6_digest_12 : decode cX6_digest 12 = .ok (.lload_n 1, 1) := by decide +kernel
theorem dX6_digest_13 : decode cX6_digest 13 = .ok (.aload_n 0, 1) := by decide +kernel
theorem dX6_digest_14 : decode cX6_digest 14 = .ok (.iload_n 3, 1) := by decide +kernel
theorem dX6_digest_15 : decode cX6_digest 15 = .ok (.invokevirtual 231, 3) := by decide +kernel
theorem dX6_digest_18 : decode cX6_digest 18 = .ok (.i2l, 1) := by decide +kernel
theorem dX6_digest_19 : decode cX6_digest 19 = .ok (.invokestatic 249, 3) := by decide +kernel
theorem dX6_digest_22 : decode cX6_digest 22 = .ok (.lstore_n 1, 1) := by decide +kernel
theorem dX6_digest_23 : decode cX6_digest 23 = .ok (.iinc 3 1, 3) := by decide +kernel
theorem dX6_digest_26 : decode cX6_digest 26 = .ok (.goto (-20), 3) := by decide +kernel
theorem dX6_digest_29 : decode cX6_digest 29 = .ok (.iconst 0, 1) := by decide +kernel
theorem dX6_digest_30 : decode cX6_digest 30 = .ok (.istore_n 3, 1) := by decide +kernel
theorem dX6_digest_31 : decode cX6_digest 31 = .ok (.iload_n 3, 1) := by decide +kernel
theorem dX6_digest_32 : decode cX6_digest 32 = .ok (.aload_n 0, 1) := by decide +kernel
theorem dX6_digest_33 : decode cX6_digest 33 = .ok (.getfield 19, 3) := by decide +kernel
theorem dX6_digest_36 : decode cX6_digest 36 = .ok (.getfield 48, 3) := by decide +kernel
theorem dX6_digest_39 : decode cX6_digest 39 = .ok (.if_icmp .ge 59, 3) := by decide +kernel
theorem dX6_digest_42 : decode cX6_digest 42 = .ok (.iload_n 3, 1) := by decide +kernel
theorem dX6_digest_43 : decode cX6_digest 43 = .ok (.bipush 8, 2) := by decide +kernel
theorem dX6_digest_45 : decode cX6_digest 45 = .ok (.if_icmp .ge 53, 3) := by decide +kernel
theorem dX6_digest_48 : decode cX6_digest 48 = .ok (.aload_n 0, 1) := by decide +kernel
theorem dX6_digest_49 : decode cX6_digest 49 = .ok (.lload_n 1, 1) := by decide +kernel
theorem dX6_digest_50 : decode cX6_digest 50 = .ok (.iload_n 3, 1) := by decide +kernel
theorem dX6_digest_51 : decode cX6_digest 51 = .ok (.invokevirtual 253, 3) := by decide +kernel
theorem dX6_digest_54 : decode cX6_digest 54 = .ok (.lstore_n 1, 1) := by decide +kernel
theorem dX6_digest_55 : decode cX6_digest 55 = .ok (.iconst 0, 1) := by decide +kernel
theorem dX6_digest_56 : decode cX6_digest 56 = .ok (.istore 4, 2) := by decide +kernel
theorem dX6_digest_58 : decode cX6_digest 58 = .ok (.iload 4, 2) := by decide +kernel
theorem dX6_digest_60 : decode cX6_digest 60 = .ok (.aload_n 0, 1) := by decide +kernel
theorem dX6_digest_61 : decode cX6_digest 61 = .ok (.getfield 19, 3) := by decide +kernel
theorem dX6_digest_64 : decode cX6_digest 64 = .ok (.getfield 48, 3) := by decide +kernel
theorem dX6_digest_67 : decode cX6_digest 67 = .ok (.if_icmp .ge 25, 3) := by decide +kernel
theorem dX6_digest_70 : decode cX6_digest 70 = .ok (.iload 4, 2) := by decide +kernel
theorem dX6_digest_72 : decode cX6_digest 72 = .ok (.bipush 8, 2) := by decide +kernel
theorem dX6_digest_74 : decode cX6_digest 74 = .ok (.if_icmp .ge 18, 3) := by decide +kernel
theorem dX6_digest_77 : decode cX6_digest 77 = .ok (.aload_n 0, 1) := by decide +kernel
theorem dX6_digest_78 : decode cX6_digest 78 = .ok (.lload_n 1, 1) := by decide +kernel
theorem dX6_digest_79 : decode cX6_digest 79 = .ok (.iload_n 3, 1) := by decide +kernel
theorem dX6_digest_80 : decode cX6_digest 80 = .ok (.iload 4, 2) := by decide +kernel
theorem dX6_digest_82 : decode cX6_digest 82 = .ok (.invokevirtual 257, 3) := by decide +kernel
theorem dX6_digest_85 : decode cX6_digest 85 = .ok (.lstore_n 1, 1) := by decide +kernel
theorem dX6_digest_86 : decode cX6_digest 86 = .ok (.iinc 4 1, 3) := by decide +kernel
theorem dX6_digest_89 : decode cX6_digest 89 = .ok (.goto (-31), 3) := by decide +kernel
theorem dX6_digest_92 : decode cX6_digest 92 = .ok (.iinc 3 1, 3) := by decide +kernel
theorem dX6_digest_95 : decode cX6_digest 95 = .ok (.goto (-64), 3) := by decide +kernel
theorem dX6_digest_98 : decode cX6_digest 98 = .ok (.iconst 0, 1) := by decide +kernel
theorem dX6_digest_99 : decode cX6_digest 99 = .ok (.istore_n 3, 1) := by decide +kernel
theorem dX6_digest_100 : decode cX6_digest 100 = .ok (.iload_n 3, 1) := by decide +kernel
theorem dX6_digest_101 : decode cX6_digest 101 = .ok (.aload_n 0, 1) := by decide +kernel
theorem dX6_digest_102 : decode cX6_digest 102 = .ok (.getfield 19, 3) := by decide +kernel
theorem dX6_digest_105 : decode cX6_digest 105 = .ok (.getfield 131, 3) := by decide +kernel
theorem dX6_digest_108 : decode cX6_digest 108 = .ok (.getfield 225, 3) := by decide +kernel
theorem dX6_digest_111 : decode cX6_digest 111 = .ok (.if_icmp .ge 49, 3) := by decide +kernel
theorem dX6_digest_114 : decode cX6_digest 114 = .ok (.iload_n 3, 1) := by decide +kernel
theorem dX6_digest_115 : decode cX6_digest 115 = .ok (.bipush 28, 2) := by decide +kernel
theorem dX6_digest_117 : decode cX6_digest 117 = .ok (.if_icmp .ge 43, 3) := by decide +kernel
theorem dX6_digest_120 : decode cX6_digest 120 = .ok (.iconst 0, 1) := by decide +kernel
theorem dX6_digest_121 : decode cX6_digest 121 = .ok (.istore 4, 2) := by decide +kernel
theorem dX6_digest_123 : decode cX6_digest 123 = .ok (.iload 4, 2) := by decide +kernel
theorem dX6_digest_125 : decode cX6_digest 125 = .ok (.iconst 4, 1) := by decide +kernel
theorem dX6_digest_126 : decode cX6_digest 126 = .ok (.if_icmp .ge 28, 3) := by decide +kernel
theorem dX6_digest_129 : decode cX6_digest 129 = .ok (.lload_n 1, 1) := by decide +kernel
theorem dX6_digest_130 : decode cX6_digest 130 = .ok (.aload_n 0, 1) := by decide +kernel
theorem dX6_digest_131 : decode cX6_digest 131 = .ok (.getfield 19, 3) := by decide +kernel
theorem dX6_digest_134 : decode cX6_digest 134 = .ok (.getfield 131, 3) := by decide +kernel
theorem dX6_digest_137 : decode cX6_digest 137 = .ok (.iload_n 3, 1) := by decide +kernel
theorem dX6_digest_138 : decode cX6_digest 138 = .ok (.iload 4, 2) := by decide +kernel
theorem dX6_digest_140 : decode cX6_digest 140 = .ok (.invokevirtual 226, 3) := by decide +kernel
theorem dX6_digest_143 : decode cX6_digest 143 = .ok (.i2l, 1) := by decide +kernel
theorem dX6_digest_144 : decode cX6_digest 144 = .ok (.invokestatic 249, 3) := by decide +kernel
theorem dX6_digest_147 : decode cX6_digest 147 = .ok (.lstore_n 1, 1) := by decide +kernel
theorem dX6_digest_148 : decode cX6_digest 148 = .ok (.iinc 4 1, 3) := by decide +kernel
theorem dX6_digest_151 : decode cX6_digest 151 = .ok (.goto (-28), 3) := by decide +kernel
theorem dX6_digest_154 : decode cX6_digest 154 = .ok (.iinc 3 1, 3) := by decide +kernel
theorem dX6_digest_157 : decode cX6_digest 157 = .ok (.goto (-57), 3) := by decide +kernel
theorem dX6_digest_160 : decode cX6_digest 160 = .ok (.lload_n 1, 1) := by decide +kernel
theorem dX6_digest_161 : decode cX6_digest 161 = .ok (.aload_n 0, 1) := by decide +kernel
theorem dX6_digest_162 : decode cX6_digest 162 = .ok (.getfield 19, 3) := by decide +kernel
theorem dX6_digest_165 : decode cX6_digest 165 = .ok (.getfield 181, 3) := by decide +kernel
theorem dX6_digest_168 : decode cX6_digest 168 = .ok (.i2l, 1) := by decide +kernel
theorem dX6_digest_169 : decode cX6_digest 169 = .ok (.invokestatic 249, 3) := by decide +kernel
theorem dX6_digest_172 : decode cX6_digest 172 = .ok (.lstore_n 1, 1) := by decide +kernel
theorem dX6_digest_173 : decode cX6_digest 173 = .ok (.lload_n 1, 1) := by decide +kernel
theorem dX6_digest_174 : decode cX6_digest 174 = .ok (.aload_n 0, 1) := by decide +kernel
theorem dX6_digest_175 : decode cX6_digest 175 = .ok (.getfield 19, 3) := by decide +kernel
theorem dX6_digest_178 : decode cX6_digest 178 = .ok (.getfield 184, 3) := by decide +kernel
theorem dX6_digest_181 : decode cX6_digest 181 = .ok (.i2l, 1) := by decide +kernel
theorem dX6_digest_182 : decode cX6_digest 182 = .ok (.invokestatic 249, 3) := by decide +kernel
theorem dX6_digest_185 : decode cX6_digest 185 = .ok (.lstore_n 1, 1) := by decide +kernel
theorem dX6_digest_186 : decode cX6_digest 186 = .ok (.lload_n 1, 1) := by decide +kernel
theorem dX6_digest_187 : decode cX6_digest 187 = .ok (.aload_n 0, 1) := by decide +kernel
theorem dX6_digest_188 : decode cX6_digest 188 = .ok (.getfield 19, 3) := by decide +kernel
theorem dX6_digest_191 : decode cX6_digest 191 = .ok (.invokevirtual 243, 3) := by decide +kernel
theorem dX6_digest_194 : decode cX6_digest 194 = .ok (.invokestatic 261, 3) := by decide +kernel
theorem dX6_digest_197 : decode cX6_digest 197 = .ok (.invokestatic 249, 3) := by decide +kernel
theorem dX6_digest_200 : decode cX6_digest 200 = .ok (.lstore_n 1, 1) := by decide +kernel
theorem dX6_digest_201 : decode cX6_digest 201 = .ok (.aload_n 0, 1) := by decide +kernel
theorem dX6_digest_202 : decode cX6_digest 202 = .ok (.getfield 10, 3) := by decide +kernel
theorem dX6_digest_205 : decode cX6_digest 205 = .ok (.lload_n 1, 1) := by decide +kernel
theorem dX6_digest_206 : decode cX6_digest 206 = .ok (.invokevirtual 265, 3) := by decide +kernel
theorem dX6_digest_209 : decode cX6_digest 209 = .ok (.lreturn, 1) := by decide +kernel
theorem dX6_isThere_0 : decode cX6_isThere 0 = .ok (.iload_n 1, 1) := by decide +kernel
theorem dX6_isThere_1 : decode cX6_isThere 1 = .ok (.ifCond .lt 18, 3) := by decide +kernel
theorem dX6_isThere_4 : decode cX6_isThere 4 = .ok (.iload_n 1, 1) := by decide +kernel
theorem dX6_isThere_5 : decode cX6_isThere 5 = .ok (.aload_n 0, 1) := by decide +kernel
theorem dX6_isThere_6 : decode cX6_isThere 6 = .ok (.getfield 19, 3) := by decide +kernel
theorem dX6_isThere_9 : decode cX6_isThere 9 = .ok (.getfield 48, 3) := by decide +kernel
theorem dX6_isThere_12 : decode cX6_isThere 12 = .ok (.if_icmp .ge 7, 3) := by decide +kernel
theorem dX6_isThere_15 : decode cX6_isThere 15 = .ok (.iconst 1, 1) := by decide +kernel
theorem dX6_isThere_16 : decode cX6_isThere 16 = .ok (.goto 4, 3) := by decide +kernel
theorem dX6_isThere_19 : decode cX6_isThere 19 = .ok (.iconst 0, 1) := by decide +kernel
theorem dX6_isThere_20 : decode cX6_isThere 20 = .ok (.ireturn, 1) := by decide +kernel
theorem dX6_areThere_0 : decode cX6_areThere 0 = .ok (.aload_n 0, 1) := by decide +kernel
theorem dX6_areThere_1 : decode cX6_areThere 1 = .ok (.iload_n 1, 1) := by decide +kernel
theorem dX6_areThere_2 : decode cX6_areThere 2 = .ok (.invokevirtual 83, 3) := by decide +kernel
theorem dX6_areThere_5 : decode cX6_areThere 5 = .ok (.ifCond .eq 15, 3) := by decide +kernel
theorem dX6_areThere_8 : decode cX6_areThere 8 = .ok (.aload_n 0, 1) := by decide +kernel
theorem dX6_areThere_9 : decode cX6_areThere 9 = .ok (.iload_n 2, 1) := by decide +kernel
theorem dX6_areThere_10 : decode cX6_areThere 10 = .ok (.invokevirtual 83, 3) := by decide +kernel
theorem dX6_areThere_13 : decode cX6_areThere 13 = .ok (.ifCond .eq 7, 3) := by decide +kernel
theorem dX6_areThere_16 : decode cX6_areThere 16 = .ok (.iconst 1, 1) := by decide +kernel
theorem dX6_areThere_17 : decode cX6_areThere 17 = .ok (.goto 4, 3) := by decide +kernel
theorem dX6_areThere_20 : decode cX6_areThere 20 = .ok (.iconst 0, 1) := by decide +kernel
theorem dX6_areThere_21 : decode cX6_areThere 21 = .ok (.ireturn, 1) := by decide +kernel
theorem dX6_doPart_0 : decode cX6_doPart 0 = .ok (.aload_n 0, 1) := by decide +kernel
theorem dX6_doPart_1 : decode cX6_doPart 1 = .ok (.getfield 10, 3) := by decide +kernel
theorem dX6_doPart_4 : decode cX6_doPart 4 = .ok (.getfield 269, 3) := by decide +kernel
theorem dX6_doPart_7 : decode cX6_doPart 7 = .ok (.iload_n 1, 1) := by decide +kernel
theorem dX6_doPart_8 : decode cX6_doPart 8 = .ok (.invokevirtual 112, 3) := by decide +kernel
theorem dX6_doPart_11 : decode cX6_doPart 11 = .ok (.istore_n 2, 1) := by decide +kernel
theorem dX6_doPart_12 : decode cX6_doPart 12 = .ok (.aload_n 0, 1) := by decide +kernel
theorem dX6_doPart_13 : decode cX6_doPart 13 = .ok (.getfield 10, 3) := by decide +kernel
theorem dX6_doPart_16 : decode cX6_doPart 16 = .ok (.getfield 272, 3) := by decide +kernel
theorem dX6_doPart_19 : decode cX6_doPart 19 = .ok (.iload_n 1, 1) := by decide +kernel
theorem dX6_doPart_20 : decode cX6_doPart 20 = .ok (.invokevirtual 112, 3) := by decide +kernel
theorem dX6_doPart_23 : decode cX6_doPart 23 = .ok (.istore_n 3, 1) := by decide +kernel
theorem dX6_doPart_24 : decode cX6_doPart 24 = .ok (.iconst 0, 1) := by decide +kernel
theorem dX6_doPart_25 : decode cX6_doPart 25 = .ok (.istore 4, 2) := by decide +kernel
theorem dX6_doPart_27 : decode cX6_doPart 27 = .ok (.aload_n 0, 1) := by decide +kernel
theorem dX6_doPart_28 : decode cX6_doPart 28 = .ok (.getfield 10, 3) := by decide +kernel
theorem dX6_doPart_31 : decode cX6_doPart 31 = .ok (.getfield 275, 3) := by decide +kernel
theorem dX6_doPart_34 : decode cX6_doPart 34 = .ok (.iload_n 1, 1) := by decide +kernel
theorem dX6_doPart_35 : decode cX6_doPart 35 = .ok (.invokevirtual 112, 3) := by decide +kernel
theorem dX6_doPart_38 : decode cX6_doPart 38 = .ok (.lookupswitch 91 #[(100, 46), (108, 79), (121, 34)], 34) := by decide +kernel
theorem dX6_doPart_72 : decode cX6_doPart 72 = .ok (.aload_n 0, 1) := by decide +kernel
theorem dX6_doPart_73 : decode cX6_doPart 73 = .ok (.getfield 19, 3) := by decide +kernel
theorem dX6_doPart_76 : decode cX6_doPart 76 = .ok (.iload_n 2, 1) := by decide +kernel
theorem dX6_doPart_77 : decode cX6_doPart 77 = .ok (.invokevirtual 98, 3) := by decide +kernel
theorem dX6_doPart_80 : decode cX6_doPart 80 = .ok (.pop, 1) := by decide +kernel
theorem dX6_doPart_81 : decode cX6_doPart 81 = .ok (.goto 57, 3) := by decide +kernel
theorem dX6_doPart_84 : decode cX6_doPart 84 = .ok (.aload_n 0, 1) := by decide +kernel
theorem dX6_doPart_85 : decode cX6_doPart 85 = .ok (.iload_n 2, 1) := by decide +kernel
theorem dX6_doPart_86 : decode cX6_doPart 86 = .ok (.invokevirtual 83, 3) := by decide +kernel
theorem dX6_doPart_89 : decode cX6_doPart 89 = .ok (.ifCond .eq 7, 3) := by decide +kernel
theorem dX6_doPart_92 : decode cX6_doPart 92 = .ok (.iconst 0, 1) := by decide +kernel
theorem dX6_doPart_93 : decode cX6_doPart 93 = .ok (.goto 5, 3) := by decide +kernel
theorem dX6_doPart_96 : decode cX6_doPart 96 = .ok (.bipush 7, 2) := by decide +kernel
theorem dX6_doPart_98 : decode cX6_doPart 98 = .ok (.istore 4, 2) := by decide +kernel
theorem dX6_doPart_100 : decode cX6_doPart 100 = .ok (.iload 4, 2) := by decide +kernel
theorem dX6_doPart_102 : decode cX6_doPart 102 = .ok (.ifCond .ne 36, 3) := by decide +kernel
theorem dX6_doPart_105 : decode cX6_doPart 105 = .ok (.aload_n 0, 1) := by decide +kernel
theorem dX6_doPart_106 : decode cX6_doPart 106 = .ok (.getfield 19, 3) := by decide +kernel
theorem dX6_doPart_109 : decode cX6_doPart 109 = .ok (.iload_n 2, 1) := by decide +kernel
theorem dX6_doPart_110 : decode cX6_doPart 110 = .ok (.invokevirtual 92, 3) := by decide +kernel
theorem dX6_doPart_113 : decode cX6_doPart 113 = .ok (.pop, 1) := by decide +kernel
theorem dX6_doPart_114 : decode cX6_doPart 114 = .ok (.goto 24, 3) := by decide +kernel
theorem dX6_doPart_117 : decode cX6_doPart 117 = .ok (.aload_n 0, 1) := by decide +kernel
theorem dX6_doPart_118 : decode cX6_doPart 118 = .ok (.iload_n 2, 1) := by decide +kernel
theorem dX6_doPart_119 : decode cX6_doPart 119 = .ok (.iload_n 3, 1) := by decide +kernel
theorem dX6_doPart_120 : decode cX6_doPart 120 = .ok (.iconst 1, 1) := by decide +kernel
theorem dX6_doPart_121 : decode cX6_doPart 121 = .ok (.invokevirtual 278, 3) := by decide +kernel
theorem dX6_doPart_124 : decode cX6_doPart 124 = .ok (.istore 4, 2) := by decide +kernel
theorem dX6_doPart_126 : decode cX6_doPart 126 = .ok (.goto 12, 3) := by decide +kernel
theorem dX6_doPart_129 : decode cX6_doPart 129 = .ok (.aload_n 0, 1) := by decide +kernel
theorem dX6_doPart_130 : decode cX6_doPart 130 = .ok (.iload_n 2, 1) := by decide +kernel
theorem dX6_doPart_131 : decode cX6_doPart 131 = .ok (.iload_n 3, 1) := by decide +kernel
theorem dX6_doPart_132 : decode cX6_doPart 132 = .ok (.iconst 0, 1) := by decide +kernel
theorem dX6_doPart_133 : decode cX6_doPart 133 = .ok (.invokevirtual 278, 3) := by decide +kernel
theorem dX6_doPart_136 : decode cX6_doPart 136 = .ok (.istore 4, 2) := by decide +kernel
theorem dX6_doPart_138 : decode cX6_doPart 138 = .ok (.iload 4, 2) := by decide +kernel
theorem dX6_doPart_140 : decode cX6_doPart 140 = .ok (.ifCond .eq 20, 3) := by decide +kernel
theorem dX6_doPart_143 : decode cX6_doPart 143 = .ok (.aload_n 0, 1) := by decide +kernel
theorem dX6_doPart_144 : decode cX6_doPart 144 = .ok (.getfield 19, 3) := by decide +kernel
theorem dX6_doPart_147 : decode cX6_doPart 147 = .ok (.iload_n 1, 1) := by decide +kernel
theorem dX6_doPart_148 : decode cX6_doPart 148 = .ok (.putfield 181, 3) := by decide +kernel
theorem dX6_doPart_151 : decode cX6_doPart 151 = .ok (.aload_n 0, 1) := by decide +kernel
theorem dX6_doPart_152 : decode cX6_doPart 152 = .ok (.getfield 19, 3) := by decide +kernel
theorem dX6_doPart_155 : decode cX6_doPart 155 = .ok (.iload 4, 2) := by decide +kernel
theorem dX6_doPart_157 : decode cX6_doPart 157 = .ok (.putfield 184, 3) := by decide +kernel
theorem dX6_doPart_160 : decode cX6_doPart 160 = .ok (.iload 4, 2) := by decide +kernel
theorem dX6_doPart_162 : decode cX6_doPart 162 = .ok (.ifCond .ne 7, 3) := by decide +kernel
theorem dX6_doPart_165 : decode cX6_doPart 165 = .ok (.iconst 1, 1) := by decide +kernel
theorem dX6_doPart_166 : decode cX6_doPart 166 = .ok (.goto 4, 3) := by decide +kernel
theorem dX6_doPart_169 : decode cX6_doPart 169 = .ok (.iconst 0, 1) := by decide +kernel
theorem dX6_doPart_170 : decode cX6_doPart 170 = .ok (.ireturn, 1) := by decide +kernel
theorem dX6_swearPart_0 : decode cX6_swearPart 0 = .ok (.aload_n 0, 1) := by decide +kernel
theorem dX6_swearPart_1 : decode cX6_swearPart 1 = .ok (.iload_n 1, 1) := by decide +kernel
theorem dX6_swearPart_2 : decode cX6_swearPart 2 = .ok (.iload_n 2, 1) := by decide +kernel
theorem dX6_swearPart_3 : decode cX6_swearPart 3 = .ok (.invokevirtual 121, 3) := by decide +kernel
theorem dX6_swearPart_6 : decode cX6_swearPart 6 = .ok (.ifCond .ne 6, 3) := by decide +kernel
theorem dX6_swearPart_9 : decode cX6_swearPart 9 = .ok (.bipush 7, 2) := by decide +kernel
theorem dX6_swearPart_11 : decode cX6_swearPart 11 = .ok (.ireturn, 1) := by decide +kernel
theorem dX6_swearPart_12 : decode cX6_swearPart 12 = .ok (.aload_n 0, 1) := by decide +kernel
theorem dX6_swearPart_13 : decode cX6_swearPart 13 = .ok (.getfield 19, 3) := by decide +kernel
theorem dX6_swearPart_16 : decode cX6_swearPart 16 = .ok (.iload_n 1, 1) := by decide +kernel
theorem dX6_swearPart_17 : decode cX6_swearPart 17 = .ok (.iload_n 2, 1) := by decide +kernel
theorem dX6_swearPart_18 : decode cX6_swearPart 18 = .ok (.iload_n 3, 1) := by decide +kernel
theorem dX6_swearPart_19 : decode cX6_swearPart 19 = .ok (.invokevirtual 125, 3) := by decide +kernel
theorem dX6_swearPart_22 : decode cX6_swearPart 22 = .ok (.istore 4, 2) := by decide +kernel
theorem dX6_swearPart_24 : decode cX6_swearPart 24 = .ok (.iload 4, 2) := by decide +kernel
theorem dX6_swearPart_26 : decode cX6_swearPart 26 = .ok (.ifCond .ne 16, 3) := by decide +kernel
theorem dX6_swearPart_29 : decode cX6_swearPart 29 = .ok (.aload_n 0, 1) := by decide +kernel
theorem dX6_swearPart_30 : decode cX6_swearPart 30 = .ok (.getfield 19, 3) := by decide +kernel
theorem dX6_swearPart_33 : decode cX6_swearPart 33 = .ok (.getfield 131, 3) := by decide +kernel
theorem dX6_swearPart_36 : decode cX6_swearPart 36 = .ok (.iload_n 1, 1) := by decide +kernel
theorem dX6_swearPart_37 : decode cX6_swearPart 37 = .ok (.iload_n 2, 1) := by decide +kernel
theorem dX6_swearPart_38 : decode cX6_swearPart 38 = .ok (.iload_n 3, 1) := by decide +kernel
theorem dX6_swearPart_39 : decode cX6_swearPart 39 = .ok (.invokevirtual 135, 3) := by decide +kernel
theorem dX6_swearPart_42 : decode cX6_swearPart 42 = .ok (.iload 4, 2) := by decide +kernel
theorem dX6_swearPart_44 : decode cX6_swearPart 44 = .ok (.ireturn, 1) := by decide +kernel
theorem dX6_toldCount_0 : decode cX6_toldCount 0 = .ok (.iload_n 1, 1) := by decide +kernel
theorem dX6_toldCount_1 : decode cX6_toldCount 1 = .ok (.bipush 17, 2) := by decide +kernel
theorem dX6_toldCount_3 : decode cX6_toldCount 3 = .ok (.if_icmp .ne 11, 3) := by decide +kernel
theorem dX6_toldCount_6 : decode cX6_toldCount 6 = .ok (.aload_n 0, 1) := by decide +kernel
theorem dX6_toldCount_7 : decode cX6_toldCount 7 = .ok (.getfield 26, 3) := by decide +kernel
theorem dX6_toldCount_10 : decode cX6_toldCount 10 = .ok (.getfield 187, 3) := by decide +kernel
theorem dX6_toldCount_13 : decode cX6_toldCount 13 = .ok (.ireturn, 1) := by decide +kernel
theorem dX6_toldCount_14 : decode cX6_toldCount 14 = .ok (.iload_n 1, 1) := by decide +kernel
theorem dX6_toldCount_15 : decode cX6_toldCount 15 = .ok (.bipush 8, 2) := by decide +kernel
theorem dX6_toldCount_17 : decode cX6_toldCount 17 = .ok (.if_icmp .lt 18, 3) := by decide +kernel
theorem dX6_toldCount_20 : decode cX6_toldCount 20 = .ok (.aload_n 0, 1) := by decide +kernel
theorem dX6_toldCount_21 : decode cX6_toldCount 21 = .ok (.getfield 19, 3) := by decide +kernel
theorem dX6_toldCount_24 : decode cX6_toldCount 24 = .ok (.getfield 109, 3) := by decide +kernel
theorem dX6_toldCount_27 : decode cX6_toldCount 27 = .ok (.iload_n 1, 1) := by decide +kernel
theorem dX6_toldCount_28 : decode cX6_toldCount 28 = .ok (.bipush 8, 2) := by decide +kernel
theorem dX6_toldCount_30 : decode cX6_toldCount 30 = .ok (.isub, 1) := by decide +kernel
theorem dX6_toldCount_31 : decode cX6_toldCount 31 = .ok (.invokevirtual 112, 3) := by decide +kernel
theorem dX6_toldCount_34 : decode cX6_toldCount 34 = .ok (.ireturn, 1) := by decide +kernel
theorem dX6_toldCount_35 : decode cX6_toldCount 35 = .ok (.aload_n 0, 1) := by decide +kernel
theorem dX6_toldCount_36 : decode cX6_toldCount 36 = .ok (.getfield 19, 3) := by decide +kernel
theorem dX6_toldCount_39 : decode cX6_toldCount 39 = .ok (.iload_n 1, 1) := by decide +kernel
theorem dX6_toldCount_40 : decode cX6_toldCount 40 = .ok (.invokevirtual 281, 3) := by decide +kernel
theorem dX6_toldCount_43 : decode cX6_toldCount 43 = .ok (.ireturn, 1) := by decide +kernel
theorem dX6_mixSheet_0 : decode cX6_mixSheet 0 = .ok (.lload_n 1, 1) := by decide +kernel
theorem dX6_mixSheet_1 : decode cX6_mixSheet 1 = .ok (.lstore 4, 2) := by decide +kernel
theorem dX6_mixSheet_3 : decode cX6_mixSheet 3 = .ok (.iconst 0, 1) := by decide +kernel
theorem dX6_mixSheet_4 : decode cX6_mixSheet 4 = .ok (.istore 6, 2) := by decide +kernel
theorem dX6_mixSheet_6 : decode cX6_mixSheet 6 = .ok (.iload 6, 2) := by decide +kernel
theorem dX6_mixSheet_8 : decode cX6_mixSheet 8 = .ok (.bipush 7, 2) := by decide +kernel
theorem dX6_mixSheet_10 : decode cX6_mixSheet 10 = .ok (.if_icmp .ge 27, 3) := by decide +kernel
theorem dX6_mixSheet_13 : decode cX6_mixSheet 13 = .ok (.lload 4, 2) := by decide +kernel
theorem dX6_mixSheet_15 : decode cX6_mixSheet 15 = .ok (.aload_n 0, 1) := by decide +kernel
theorem dX6_mixSheet_16 : decode cX6_mixSheet 16 = .ok (.getfield 19, 3) := by decide +kernel
theorem dX6_mixSheet_19 : decode cX6_mixSheet 19 = .ok (.iload_n 3, 1) := by decide +kernel
theorem dX6_mixSheet_20 : decode cX6_mixSheet 20 = .ok (.iload 6, 2) := by decide +kernel
theorem dX6_mixSheet_22 : decode cX6_mixSheet 22 = .ok (.invokevirtual 200, 3) := by decide +kernel
theorem dX6_mixSheet_25 : decode cX6_mixSheet 25 = .ok (.i2l, 1) := by decide +kernel
theorem dX6_mixSheet_26 : decode cX6_mixSheet 26 = .ok (.invokestatic 249, 3) := by decide +kernel
theorem dX6_mixSheet_29 : decode cX6_mixSheet 29 = .ok (.lstore 4, 2) := by decide +kernel
theorem dX6_mixSheet_31 : decode cX6_mixSheet 31 = .ok (.iinc 6 1, 3) := by decide +kernel
theorem dX6_mixSheet_34 : decode cX6_mixSheet 34 = .ok (.goto (-28), 3) := by decide +kernel
theorem dX6_mixSheet_37 : decode cX6_mixSheet 37 = .ok (.aload_n 0, 1) := by decide +kernel
theorem dX6_mixSheet_38 : decode cX6_mixSheet 38 = .ok (.getfield 19, 3) := by decide +kernel
theorem dX6_mixSheet_41 : decode cX6_mixSheet 41 = .ok (.iload_n 3, 1) := by decide +kernel
theorem dX6_mixSheet_42 : decode cX6_mixSheet 42 = .ok (.invokevirtual 205, 3) := by decide +kernel
theorem dX6_mixSheet_45 : decode cX6_mixSheet 45 = .ok (.lload 4, 2) := by decide +kernel
theorem dX6_mixSheet_47 : decode cX6_mixSheet 47 = .ok (.invokevirtual 284, 3) := by decide +kernel
theorem dX6_mixSheet_50 : decode cX6_mixSheet 50 = .ok (.lstore 4, 2) := by decide +kernel
theorem dX6_mixSheet_52 : decode cX6_mixSheet 52 = .ok (.lload 4, 2) := by decide +kernel
theorem dX6_mixSheet_54 : decode cX6_mixSheet 54 = .ok (.aload_n 0, 1) := by decide +kernel
theorem dX6_mixSheet_55 : decode cX6_mixSheet 55 = .ok (.getfield 19, 3) := by decide +kernel
theorem dX6_mixSheet_58 : decode cX6_mixSheet 58 = .ok (.iload_n 3, 1) := by decide +kernel
theorem dX6_mixSheet_59 : decode cX6_mixSheet 59 = .ok (.invokevirtual 234, 3) := by decide +kernel
theorem dX6_mixSheet_62 : decode cX6_mixSheet 62 = .ok (.i2l, 1) := by decide +kernel
theorem dX6_mixSheet_63 : decode cX6_mixSheet 63 = .ok (.invokestatic 249, 3) := by decide +kernel
theorem dX6_mixSheet_66 : decode cX6_mixSheet 66 = .ok (.lreturn, 1) := by decide +kernel
theorem dX6_mixPair_0 : decode cX6_mixPair 0 = .ok (.lload_n 1, 1) := by decide +kernel
theorem dX6_mixPair_1 : decode cX6_mixPair 1 = .ok (.lstore 5, 2) := by decide +kernel
theorem dX6_mixPair_3 : decode cX6_mixPair 3 = .ok (.iconst 0, 1) := by decide +kernel
theorem dX6_mixPair_4 : decode cX6_mixPair 4 = .ok (.istore 7, 2) := by decide +kernel
theorem dX6_mixPair_6 : decode cX6_mixPair 6 = .ok (.iload 7, 2) := by decide +kernel
theorem dX6_mixPair_8 : decode cX6_mixPair 8 = .ok (.iconst 5, 1) := by decide +kernel
theorem dX6_mixPair_9 : decode cX6_mixPair 9 = .ok (.if_icmp .ge 29, 3) := by decide +kernel
theorem dX6_mixPair_12 : decode cX6_mixPair 12 = .ok (.lload 5, 2) := by decide +kernel
theorem dX6_mixPair_14 : decode cX6_mixPair 14 = .ok (.aload_n 0, 1) := by decide +kernel
theorem dX6_mixPair_15 : decode cX6_mixPair 15 = .ok (.getfield 19, 3) := by decide +kernel
theorem dX6_mixPair_18 : decode cX6_mixPair 18 = .ok (.iload_n 3, 1) := by decide +kernel
theorem dX6_mixPair_19 : decode cX6_mixPair 19 = .ok (.iload 4, 2) := by decide +kernel
theorem dX6_mixPair_21 : decode cX6_mixPair 21 = .ok (.iload 7, 2) := by decide +kernel
theorem dX6_mixPair_23 : decode cX6_mixPair 23 = .ok (.invokevirtual 219, 3) := by decide +kernel
theorem dX6_mixPair_26 : decode cX6_mixPair 26 = .ok (.i2l, 1) := by decide +kernel
theorem dX6_mixPair_27 : decode cX6_mixPair 27 = .ok (.invokestatic 249, 3) := by decide +kernel
theorem dX6_mixPair_30 : decode cX6_mixPair 30 = .ok (.lstore 5, 2) := by decide +kernel
theorem dX6_mixPair_32 : decode cX6_mixPair 32 = .ok (.iinc 7 1, 3) := by decide +kernel
theorem dX6_mixPair_35 : decode cX6_mixPair 35 = .ok (.goto (-29), 3) := by decide +kernel
theorem dX6_mixPair_38 : decode cX6_mixPair 38 = .ok (.lload 5, 2) := by decide +kernel
theorem dX6_mixPair_40 : decode cX6_mixPair 40 = .ok (.aload_n 0, 1) := by decide +kernel
theorem dX6_mixPair_41 : decode cX6_mixPair 41 = .ok (.getfield 19, 3) := by decide +kernel
theorem dX6_mixPair_44 : decode cX6_mixPair 44 = .ok (.iload_n 3, 1) := by decide +kernel
theorem dX6_mixPair_45 : decode cX6_mixPair 45 = .ok (.iload 4, 2) := by decide +kernel
theorem dX6_mixPair_47 : decode cX6_mixPair 47 = .ok (.iconst 1, 1) := by decide +kernel
theorem dX6_mixPair_48 : decode cX6_mixPair 48 = .ok (.invokevirtual 125, 3) := by decide +kernel
theorem dX6_mixPair_51 : decode cX6_mixPair 51 = .ok (.i2l, 1) := by decide +kernel
theorem dX6_mixPair_52 : decode cX6_mixPair 52 = .ok (.invokestatic 249, 3) := by decide +kernel
theorem dX6_mixPair_55 : decode cX6_mixPair 55 = .ok (.lstore 5, 2) := by decide +kernel
theorem dX6_mixPair_57 : decode cX6_mixPair 57 = .ok (.lload 5, 2) := by decide +kernel
theorem dX6_mixPair_59 : decode cX6_mixPair 59 = .ok (.aload_n 0, 1) := by decide +kernel
theorem dX6_mixPair_60 : decode cX6_mixPair 60 = .ok (.getfield 19, 3) := by decide +kernel
theorem dX6_mixPair_63 : decode cX6_mixPair 63 = .ok (.iload_n 3, 1) := by decide +kernel
theorem dX6_mixPair_64 : decode cX6_mixPair 64 = .ok (.iload 4, 2) := by decide +kernel
theorem dX6_mixPair_66 : decode cX6_mixPair 66 = .ok (.iconst 0, 1) := by decide +kernel
theorem dX6_mixPair_67 : decode cX6_mixPair 67 = .ok (.invokevirtual 125, 3) := by decide +kernel
theorem dX6_mixPair_70 : decode cX6_mixPair 70 = .ok (.i2l, 1) := by decide +kernel
theorem dX6_mixPair_71 : decode cX6_mixPair 71 = .ok (.invokestatic 249, 3) := by decide +kernel
theorem dX6_mixPair_74 : decode cX6_mixPair 74 = .ok (.lreturn, 1) := by decide +kernel
theorem dX6_mix_0 : decode cX6_mix 0 = .ok (.ldc2_w 285, 3) := by decide +kernel
theorem dX6_mix_3 : decode cX6_mix 3 = .ok (.lload_n 0, 1) := by decide +kernel
theorem dX6_mix_4 : decode cX6_mix 4 = .ok (.lmul, 1) := by decide +kernel
theorem dX6_mix_5 : decode cX6_mix 5 = .ok (.lload_n 2, 1) := by decide +kernel
theorem dX6_mix_6 : decode cX6_mix 6 = .ok (.ladd, 1) := by decide +kernel
theorem dX6_mix_7 : decode cX6_mix 7 = .ok (.lreturn, 1) := by decide +kernel
theorem dX6_bitsOf_0 : decode cX6_bitsOf 0 = .ok (.dload_n 0, 1) := by decide +kernel
theorem dX6_bitsOf_1 : decode cX6_bitsOf 1 = .ok (.dconst 0, 1) := by decide +kernel
theorem dX6_bitsOf_2 : decode cX6_bitsOf 2 = .ok (.dcmp .g, 1) := by decide +kernel
theorem dX6_bitsOf_3 : decode cX6_bitsOf 3 = .ok (.ifCond .gt 5, 3) := by decide +kernel
theorem dX6_bitsOf_6 : decode cX6_bitsOf 6 = .ok (.lconst 0, 1) := by decide +kernel
theorem dX6_bitsOf_7 : decode cX6_bitsOf 7 = .ok (.lreturn, 1) := by decide +kernel
theorem dX6_bitsOf_8 : decode cX6_bitsOf 8 = .ok (.dload_n 0, 1) := by decide +kernel
theorem dX6_bitsOf_9 : decode cX6_bitsOf 9 = .ok (.dstore_n 2, 1) := by decide +kernel
theorem dX6_bitsOf_10 : decode cX6_bitsOf 10 = .ok (.ldc2_w 287, 3) := by decide +kernel
theorem dX6_bitsOf_13 : decode cX6_bitsOf 13 = .ok (.lstore 4, 2) := by decide +kernel
theorem dX6_bitsOf_15 : decode cX6_bitsOf 15 = .ok (.dload_n 2, 1) := by decide +kernel
theorem dX6_bitsOf_16 : decode cX6_bitsOf 16 = .ok (.dconst 1, 1) := by decide +kernel
theorem dX6_bitsOf_17 : decode cX6_bitsOf 17 = .ok (.dcmp .g, 1) := by decide +kernel
theorem dX6_bitsOf_18 : decode cX6_bitsOf 18 = .ok (.ifCond .ge 25, 3) := by decide +kernel
theorem dX6_bitsOf_21 : decode cX6_bitsOf 21 = .ok (.lload 4, 2) := by decide +kernel
theorem dX6_bitsOf_23 : decode cX6_bitsOf 23 = .ok (.lconst 1, 1) := by decide +kernel
theorem dX6_bitsOf_24 : decode cX6_bitsOf 24 = .ok (.lcmp, 1) := by decide +kernel
theorem dX6_bitsOf_25 : decode cX6_bitsOf 25 = .ok (.ifCond .le 18, 3) := by decide +kernel
theorem dX6_bitsOf_28 : decode cX6_bitsOf 28 = .ok (.dload_n 2, 1) := by decide +kernel
theorem dX6_bitsOf_29 : decode cX6_bitsOf 29 = .ok (.ldc2_w 289, 3) := by decide +kernel
theorem dX6_bitsOf_32 : decode cX6_bitsOf 32 = .ok (.dmul, 1) := by decide +kernel
theorem dX6_bitsOf_33 : decode cX6_bitsOf 33 = .ok (.dstore_n 2, 1) := by decide +kernel
theorem dX6_bitsOf_34 : decode cX6_bitsOf 34 = .ok (.lload 4, 2) := by decide +kernel
theorem dX6_bitsOf_36 : decode cX6_bitsOf 36 = .ok (.lconst 1, 1) := by decide +kernel
theorem dX6_bitsOf_37 : decode cX6_bitsOf 37 = .ok (.lsub, 1) := by decide +kernel
theorem dX6_bitsOf_38 : decode cX6_bitsOf 38 = .ok (.lstore 4, 2) := by decide +kernel
theorem dX6_bitsOf_40 : decode cX6_bitsOf 40 = .ok (.goto (-25), 3) := by decide +kernel
theorem dX6_bitsOf_43 : decode cX6_bitsOf 43 = .ok (.lload 4, 2) := by decide +kernel
theorem dX6_bitsOf_45 : decode cX6_bitsOf 45 = .ok (.bipush 52, 2) := by decide +kernel
theorem dX6_bitsOf_47 : decode cX6_bitsOf 47 = .ok (.lshl, 1) := by decide +kernel
theorem dX6_bitsOf_48 : decode cX6_bitsOf 48 = .ok (.dload_n 2, 1) := by decide +kernel
theorem dX6_bitsOf_49 : decode cX6_bitsOf 49 = .ok (.dconst 1, 1) := by decide +kernel
theorem dX6_bitsOf_50 : decode cX6_bitsOf 50 = .ok (.dsub, 1) := by decide +kernel
theorem dX6_bitsOf_51 : decode cX6_bitsOf 51 = .ok (.ldc2_w 291, 3) := by decide +kernel
theorem dX6_bitsOf_54 : decode cX6_bitsOf 54 = .ok (.dmul, 1) := by decide +kernel
theorem dX6_bitsOf_55 : decode cX6_bitsOf 55 = .ok (.d2l, 1) := by decide +kernel
theorem dX6_bitsOf_56 : decode cX6_bitsOf 56 = .ok (.ladd, 1) := by decide +kernel
theorem dX6_bitsOf_57 : decode cX6_bitsOf 57 = .ok (.lreturn, 1) := by decide +kernel
