theorem dX0_init_0 : decode cX0_init 0 = .ok (.aload_n 0, 1) := by decide +kernel
theorem dX0_init_1 : decode cX0_init 1 = .ok (.invokespecial 3, 3) := by decide +kernel
theorem dX0_init_4 : decode cX0_init 4 = .ok (.aload_n 0, 1) := by decide +kernel
theorem dX0_init_5 : decode cX0_init 5 = .ok (.bipush 6, 2) := by decide +kernel
theorem dX0_init_7 : decode cX0_init 7 = .ok (.anewarray 9, 3) := by decide +kernel
theorem dX0_init_10 : decode cX0_init 10 = .ok (.putfield 11, 3) := by decide +kernel
theorem dX0_init_13 : decode cX0_init 13 = .ok (.iconst 0, 1) := by decide +kernel
theorem dX0_init_14 : decode cX0_init 14 = .ok (.istore_n 1, 1) := by decide +kernel
theorem dX0_init_15 : decode cX0_init 15 = .ok (.iload_n 1, 1) := by decide +kernel
theorem dX0_init_16 : decode cX0_init 16 = .ok (.aload_n 0, 1) := by decide +kernel
theorem dX0_init_17 : decode cX0_init 17 = .ok (.getfield 11, 3) := by decide +kernel
theorem dX0_init_20 : decode cX0_init 20 = .ok (.arraylength, 1) := by decide +kernel
theorem dX0_init_21 : decode cX0_init 21 = .ok (.if_icmp .ge 22, 3) := by decide +kernel
theorem dX0_init_24 : decode cX0_init 24 = .ok (.aload_n 0, 1) := by decide +kernel
theorem dX0_init_25 : decode cX0_init 25 = .ok (.getfield 11, 3) := by decide +kernel
theorem dX0_init_28 : decode cX0_init 28 = .ok (.iload_n 1, 1) := by decide +kernel
theorem dX0_init_29 : decode cX0_init 29 = .ok (.new 9, 3) := by decide +kernel
theorem dX0_init_32 : decode cX0_init 32 = .ok (.dup, 1) := by decide +kernel
theorem dX0_init_33 : decode cX0_init 33 = .ok (.invokespecial 17, 3) := by decide +kernel
theorem dX0_init_36 : decode cX0_init 36 = .ok (.aastore, 1) := by decide +kernel
theorem dX0_init_37 : decode cX0_init 37 = .ok (.iinc 1 1, 3) := by decide +kernel
theorem dX0_init_40 : decode cX0_init 40 = .ok (.goto (-25), 3) := by decide +kernel
theorem dX0_init_43 : decode cX0_init 43 = .ok (.return_, 1) := by decide +kernel
theorem dX0_save_0 : decode cX0_save 0 = .ok (.aload_n 0, 1) := by decide +kernel
theorem dX0_save_1 : decode cX0_save 1 = .ok (.aload_n 0, 1) := by decide +kernel
theorem dX0_save_2 : decode cX0_save 2 = .ok (.getfield 18, 3) := by decide +kernel
theorem dX0_save_5 : decode cX0_save 5 = .ok (.iconst 1, 1) := by decide +kernel
theorem dX0_save_6 : decode cX0_save 6 = .ok (.iadd, 1) := by decide +kernel
theorem dX0_save_7 : decode cX0_save 7 = .ok (.bipush 6, 2) := by decide +kernel
theorem dX0_save_9 : decode cX0_save 9 = .ok (.if_icmp .ge 12, 3) := by decide +kernel
theorem dX0_save_12 : decode cX0_save 12 = .ok (.aload_n 0, 1) := by decide +kernel
theorem dX0_save_13 : decode cX0_save 13 = .ok (.getfield 18, 3) := by decide +kernel
theorem dX0_save_16 : decode cX0_save 16 = .ok (.iconst 1, 1) := by decide +kernel
theorem dX0_save_17 : decode cX0_save 17 = .ok (.iadd, 1) := by decide +kernel
theorem dX0_save_18 : decode cX0_save 18 = .ok (.goto 4, 3) := by decide +kernel
theorem dX0_save_21 : decode cX0_save 21 = .ok (.iconst 0, 1) := by decide +kernel
theorem dX0_save_22 : decode cX0_save 22 = .ok (.putfield 18, 3) := by decide +kernel
theorem dX0_save_25 : decode cX0_save 25 = .ok (.aload_n 0, 1) := by decide +kernel
theorem dX0_save_26 : decode cX0_save 26 = .ok (.invokevirtual 22, 3) := by decide +kernel
theorem dX0_save_29 : decode cX0_save 29 = .ok (.astore_n 2, 1) := by decide +kernel
theorem dX0_save_30 : decode cX0_save 30 = .ok (.aload_n 2, 1) := by decide +kernel
theorem dX0_save_31 : decode cX0_save 31 = .ok (.ifnull 8, 3) := by decide +kernel
theorem dX0_save_34 : decode cX0_save 34 = .ok (.aload_n 2, 1) := by decide +kernel
theorem dX0_save_35 : decode cX0_save 35 = .ok (.aload_n 1, 1) := by decide +kernel
theorem dX0_save_36 : decode cX0_save 36 = .ok (.invokevirtual 26, 3) := by decide +kernel
theorem dX0_save_39 : decode cX0_save 39 = .ok (.aload_n 0, 1) := by decide +kernel
theorem dX0_save_40 : decode cX0_save 40 = .ok (.getfield 30, 3) := by decide +kernel
theorem dX0_save_43 : decode cX0_save 43 = .ok (.bipush 6, 2) := by decide +kernel
theorem dX0_save_45 : decode cX0_save 45 = .ok (.if_icmp .ge 13, 3) := by decide +kernel
theorem dX0_save_48 : decode cX0_save 48 = .ok (.aload_n 0, 1) := by decide +kernel
theorem dX0_save_49 : decode cX0_save 49 = .ok (.dup, 1) := by decide +kernel
theorem dX0_save_50 : decode cX0_save 50 = .ok (.getfield 30, 3) := by decide +kernel
theorem dX0_save_53 : decode cX0_save 53 = .ok (.iconst 1, 1) := by decide +kernel
theorem dX0_save_54 : decode cX0_save 54 = .ok (.iadd, 1) := by decide +kernel
theorem dX0_save_55 : decode cX0_save 55 = .ok (.putfield 30, 3) := by decide +kernel
theorem dX0_save_58 : decode cX0_save 58 = .ok (.return_, 1) := by decide +kernel
theorem dX0_bringBack_0 : decode cX0_bringBack 0 = .ok (.aload_n 0, 1) := by decide +kernel
theorem dX0_bringBack_1 : decode cX0_bringBack 1 = .ok (.invokevirtual 22, 3) := by decide +kernel
theorem dX0_bringBack_4 : decode cX0_bringBack 4 = .ok (.astore_n 2, 1) := by decide +kernel
theorem dX0_bringBack_5 : decode cX0_bringBack 5 = .ok (.aload_n 2, 1) := by decide +kernel
theorem dX0_bringBack_6 : decode cX0_bringBack 6 = .ok (.ifnull 14, 3) := by decide +kernel
theorem dX0_bringBack_9 : decode cX0_bringBack 9 = .ok (.aload_n 1, 1) := by decide +kernel
theorem dX0_bringBack_10 : decode cX0_bringBack 10 = .ok (.ifnull 10, 3) := by decide +kernel
theorem dX0_bringBack_13 : decode cX0_bringBack 13 = .ok (.aload_n 0, 1) := by decide +kernel
theorem dX0_bringBack_14 : decode cX0_bringBack 14 = .ok (.getfield 30, 3) := by decide +kernel
theorem dX0_bringBack_17 : decode cX0_bringBack 17 = .ok (.ifCond .gt 4, 3) := by decide +kernel
theorem dX0_bringBack_20 : decode cX0_bringBack 20 = .ok (.return_, 1) := by decide +kernel
theorem dX0_bringBack_21 : decode cX0_bringBack 21 = .ok (.aload_n 1, 1) := by decide +kernel
theorem dX0_bringBack_22 : decode cX0_bringBack 22 = .ok (.aload_n 2, 1) := by decide +kernel
theorem dX0_bringBack_23 : decode cX0_bringBack 23 = .ok (.invokevirtual 26, 3) := by decide +kernel
theorem dX0_bringBack_26 : decode cX0_bringBack 26 = .ok (.aload_n 0, 1) := by decide +kernel
theorem dX0_bringBack_27 : decode cX0_bringBack 27 = .ok (.aload_n 0, 1) := by decide +kernel
theorem dX0_bringBack_28 : decode cX0_bringBack 28 = .ok (.getfield 18, 3) := by decide +kernel
theorem dX0_bringBack_31 : decode cX0_bringBack 31 = .ok (.ifCond .le 12, 3) := by decide +kernel
theorem dX0_bringBack_34 : decode cX0_bringBack 34 = .ok (.aload_n 0, 1) := by decide +kernel
theorem dX0_bringBack_35 : decode cX0_bringBack 35 = .ok (.getfield 18, 3) := by decide +kernel
theorem dX0_bringBack_38 : decode cX0_bringBack 38 = .ok (.iconst 1, 1) := by decide +kernel
theorem dX0_bringBack_39 : decode cX0_bringBack 39 = .ok (.isub, 1) := by decide +kernel
theorem dX0_bringBack_40 : decode cX0_bringBack 40 = .ok (.goto 4, 3) := by decide +kernel
theorem dX0_bringBack_43 : decode cX0_bringBack 43 = .ok (.iconst 5, 1) := by decide +kernel
theorem dX0_bringBack_44 : decode cX0_bringBack 44 = .ok (.putfield 18, 3) := by decide +kernel
theorem dX0_bringBack_47 : decode cX0_bringBack 47 = .ok (.aload_n 0, 1) := by decide +kernel
theorem dX0_bringBack_48 : decode cX0_bringBack 48 = .ok (.dup, 1) := by decide +kernel
theorem dX0_bringBack_49 : decode cX0_bringBack 49 = .ok (.getfield 30, 3) := by decide +kernel
theorem dX0_bringBack_52 : decode cX0_bringBack 52 = .ok (.iconst 1, 1) := by decide +kernel
theorem dX0_bringBack_53 : decode cX0_bringBack 53 = .ok (.isub, 1) := by decide +kernel
theorem dX0_bringBack_54 : decode cX0_bringBack 54 = .ok (.putfield 30, 3) := by decide +kernel
theorem dX0_bringBack_57 : decode cX0_bringBack 57 = .ok (.return_, 1) := by decide +kernel
theorem dX0_newestSlot_0 : decode cX0_newestSlot 0 = .ok (.aload_n 0, 1) := by decide +kernel
theorem dX0_newestSlot_1 : decode cX0_newestSlot 1 = .ok (.getfield 18, 3) := by decide +kernel
theorem dX0_newestSlot_4 : decode cX0_newestSlot 4 = .ok (.ifCond .lt 27, 3) := by decide +kernel
theorem dX0_newestSlot_7 : decode cX0_newestSlot 7 = .ok (.aload_n 0, 1) := by decide +kernel
theorem dX0_newestSlot_8 : decode cX0_newestSlot 8 = .ok (.getfield 18, 3) := by decide +kernel
theorem dX0_newestSlot_11 : decode cX0_newestSlot 11 = .ok (.aload_n 0, 1) := by decide +kernel
theorem dX0_newestSlot_12 : decode cX0_newestSlot 12 = .ok (.getfield 11, 3) := by decide +kernel
theorem dX0_newestSlot_15 : decode cX0_newestSlot 15 = .ok (.arraylength, 1) := by decide +kernel
theorem dX0_newestSlot_16 : decode cX0_newestSlot 16 = .ok (.if_icmp .ge 15, 3) := by decide +kernel
theorem dX0_newestSlot_19 : decode cX0_newestSlot 19 = .ok (.aload_n 0, 1) := by decide +kernel
theorem dX0_newestSlot_20 : decode cX0_newestSlot 20 = .ok (.getfield 11, 3) := by decide +kernel
theorem dX0_newestSlot_23 : decode cX0_newestSlot 23 = .ok (.aload_n 0, 1) := by decide +kernel
theorem dX0_newestSlot_24 : decode cX0_newestSlot 24 = .ok (.getfield 18, 3) := by decide +kernel
theorem dX0_newestSlot_27 : decode cX0_newestSlot 27 = .ok (.aaload, 1) := by decide +kernel
theorem dX0_newestSlot_28 : decode cX0_newestSlot 28 = .ok (.goto 4, 3) := by decide +kernel
theorem dX0_newestSlot_31 : decode cX0_newestSlot 31 = .ok (.aconst_null, 1) := by decide +kernel
theorem dX0_newestSlot_32 : decode cX0_newestSlot 32 = .ok (.areturn, 1) := by decide +kernel
