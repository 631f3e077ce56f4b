theorem dL_cell_0 : decode cL_cell 0 = .ok (.iload_n 1, 1) := by decide +kernel
theorem dL_cell_1 : decode cL_cell 1 = .ok (.aload_n 0, 1) := by decide +kernel
theorem dL_cell_2 : decode cL_cell 2 = .ok (.arraylength, 1) := by decide +kernel
theorem dL_cell_3 : decode cL_cell 3 = .ok (.if_icmp .ge 9, 3) := by decide +kernel
theorem dL_cell_6 : decode cL_cell 6 = .ok (.aload_n 0, 1) := by decide +kernel
theorem dL_cell_7 : decode cL_cell 7 = .ok (.iload_n 1, 1) := by decide +kernel
theorem dL_cell_8 : decode cL_cell 8 = .ok (.iaload, 1) := by decide +kernel
theorem dL_cell_9 : decode cL_cell 9 = .ok (.goto 13, 3) := by decide +kernel
theorem dL_cell_12 : decode cL_cell 12 = .ok (.ldc 7, 2) := by decide +kernel
theorem dL_cell_14 : decode cL_cell 14 = .ok (.iload_n 1, 1) := by decide +kernel
theorem dL_cell_15 : decode cL_cell 15 = .ok (.bipush 9, 2) := by decide +kernel
theorem dL_cell_17 : decode cL_cell 17 = .ok (.iadd, 1) := by decide +kernel
theorem dL_cell_18 : decode cL_cell 18 = .ok (.imul, 1) := by decide +kernel
theorem dL_cell_19 : decode cL_cell 19 = .ok (.ldc 8, 2) := by decide +kernel
theorem dL_cell_21 : decode cL_cell 21 = .ok (.iadd, 1) := by decide +kernel
theorem dL_cell_22 : decode cL_cell 22 = .ok (.ireturn, 1) := by decide +kernel
theorem dL_low_0 : decode cL_low 0 = .ok (.iload_n 0, 1) := by decide +kernel
theorem dL_low_1 : decode cL_low 1 = .ok (.ldc 9, 2) := by decide +kernel
theorem dL_low_3 : decode cL_low 3 = .ok (.iand, 1) := by decide +kernel
theorem dL_low_4 : decode cL_low 4 = .ok (.iload_n 1, 1) := by decide +kernel
theorem dL_low_5 : decode cL_low 5 = .ok (.irem, 1) := by decide +kernel
theorem dL_low_6 : decode cL_low 6 = .ok (.ireturn, 1) := by decide +kernel
theorem dL_lay_0 : decode cL_lay 0 = .ok (.aload_n 0, 1) := by decide +kernel
theorem dL_lay_1 : decode cL_lay 1 = .ok (.iload_n 1, 1) := by decide +kernel
theorem dL_lay_2 : decode cL_lay 2 = .ok (.invokevirtual 10, 3) := by decide +kernel
theorem dL_lay_5 : decode cL_lay 5 = .ok (.ireturn, 1) := by decide +kernel
theorem dL_lay_6 : decode cL_lay 6 = .ok (.astore_n 2, 1) := by decide +kernel
theorem dL_lay_7 : decode cL_lay 7 = .ok (.bipush (-102), 2) := by decide +kernel
theorem dL_lay_9 : decode cL_lay 9 = .ok (.ireturn, 1) := by decide +kernel
theorem dL_lay_10 : decode cL_lay 10 = .ok (.astore_n 2, 1) := by decide +kernel
theorem dL_lay_11 : decode cL_lay 11 = .ok (.bipush (-103), 2) := by decide +kernel
theorem dL_lay_13 : decode cL_lay 13 = .ok (.ireturn, 1) := by decide +kernel
theorem dL_drop_0 : decode cL_drop 0 = .ok (.aload_n 0, 1) := by decide +kernel
theorem dL_drop_1 : decode cL_drop 1 = .ok (.iload_n 1, 1) := by decide +kernel
theorem dL_drop_2 : decode cL_drop 2 = .ok (.invokevirtual 20, 3) := by decide +kernel
theorem dL_drop_5 : decode cL_drop 5 = .ok (.ireturn, 1) := by decide +kernel
theorem dL_drop_6 : decode cL_drop 6 = .ok (.astore_n 2, 1) := by decide +kernel
theorem dL_drop_7 : decode cL_drop 7 = .ok (.bipush (-101), 2) := by decide +kernel
theorem dL_drop_9 : decode cL_drop 9 = .ok (.ireturn, 1) := by decide +kernel
theorem dL_pass_0 : decode cL_pass 0 = .ok (.aload_n 0, 1) := by decide +kernel
theorem dL_pass_1 : decode cL_pass 1 = .ok (.iload_n 1, 1) := by decide +kernel
theorem dL_pass_2 : decode cL_pass 2 = .ok (.invokevirtual 25, 3) := by decide +kernel
theorem dL_pass_5 : decode cL_pass 5 = .ok (.ireturn, 1) := by decide +kernel
theorem dL_pass_6 : decode cL_pass 6 = .ok (.astore_n 2, 1) := by decide +kernel
theorem dL_pass_7 : decode cL_pass 7 = .ok (.bipush (-102), 2) := by decide +kernel
theorem dL_pass_9 : decode cL_pass 9 = .ok (.ireturn, 1) := by decide +kernel
theorem dL_set_0 : decode cL_set 0 = .ok (.aload_n 0, 1) := by decide +kernel
theorem dL_set_1 : decode cL_set 1 = .ok (.iload_n 1, 1) := by decide +kernel
theorem dL_set_2 : decode cL_set 2 = .ok (.iload_n 2, 1) := by decide +kernel
theorem dL_set_3 : decode cL_set 3 = .ok (.invokevirtual 28, 3) := by decide +kernel
theorem dL_set_6 : decode cL_set 6 = .ok (.ireturn, 1) := by decide +kernel
theorem dL_set_7 : decode cL_set 7 = .ok (.astore_n 3, 1) := by decide +kernel
theorem dL_set_8 : decode cL_set 8 = .ok (.bipush (-101), 2) := by decide +kernel
theorem dL_set_10 : decode cL_set 10 = .ok (.ireturn, 1) := by decide +kernel
theorem dL_set_11 : decode cL_set 11 = .ok (.astore_n 3, 1) := by decide +kernel
theorem dL_set_12 : decode cL_set 12 = .ok (.bipush (-102), 2) := by decide +kernel
theorem dL_set_14 : decode cL_set 14 = .ok (.ireturn, 1) := by decide +kernel
theorem dL_swear_0 : decode cL_swear 0 = .ok (.aload_n 0, 1) := by decide +kernel
theorem dL_swear_1 : decode cL_swear 1 = .ok (.iload_n 1, 1) := by decide +kernel
theorem dL_swear_2 : decode cL_swear 2 = .ok (.iload_n 2, 1) := by decide +kernel
theorem dL_swear_3 : decode cL_swear 3 = .ok (.iload_n 3, 1) := by decide +kernel
theorem dL_swear_4 : decode cL_swear 4 = .ok (.invokevirtual 32, 3) := by decide +kernel
theorem dL_swear_7 : decode cL_swear 7 = .ok (.ireturn, 1) := by decide +kernel
theorem dL_swear_8 : decode cL_swear 8 = .ok (.astore 4, 2) := by decide +kernel
theorem dL_swear_10 : decode cL_swear 10 = .ok (.bipush (-101), 2) := by decide +kernel
theorem dL_swear_12 : decode cL_swear 12 = .ok (.ireturn, 1) := by decide +kernel
theorem dL_swear_13 : decode cL_swear 13 = .ok (.astore 4, 2) := by decide +kernel
theorem dL_swear_15 : decode cL_swear 15 = .ok (.bipush (-103), 2) := by decide +kernel
theorem dL_swear_17 : decode cL_swear 17 = .ok (.ireturn, 1) := by decide +kernel
theorem dL_recant_0 : decode cL_recant 0 = .ok (.aload_n 0, 1) := by decide +kernel
theorem dL_recant_1 : decode cL_recant 1 = .ok (.iload_n 1, 1) := by decide +kernel
theorem dL_recant_2 : decode cL_recant 2 = .ok (.iload_n 2, 1) := by decide +kernel
theorem dL_recant_3 : decode cL_recant 3 = .ok (.invokevirtual 36, 3) := by decide +kernel
theorem dL_recant_6 : decode cL_recant 6 = .ok (.ireturn, 1) := by decide +kernel
theorem dL_recant_7 : decode cL_recant 7 = .ok (.astore_n 3, 1) := by decide +kernel
theorem dL_recant_8 : decode cL_recant 8 = .ok (.bipush (-101), 2) := by decide +kernel
theorem dL_recant_10 : decode cL_recant 10 = .ok (.ireturn, 1) := by decide +kernel
theorem dL_append_0 : decode cL_append 0 = .ok (.aload_n 0, 1) := by decide +kernel
theorem dL_append_1 : decode cL_append 1 = .ok (.iload_n 1, 1) := by decide +kernel
theorem dL_append_2 : decode cL_append 2 = .ok (.invokevirtual 39, 3) := by decide +kernel
theorem dL_append_5 : decode cL_append 5 = .ok (.ireturn, 1) := by decide +kernel
theorem dL_append_6 : decode cL_append 6 = .ok (.astore_n 2, 1) := by decide +kernel
theorem dL_append_7 : decode cL_append 7 = .ok (.bipush (-102), 2) := by decide +kernel
theorem dL_append_9 : decode cL_append 9 = .ok (.ireturn, 1) := by decide +kernel
theorem dL_append_10 : decode cL_append 10 = .ok (.astore_n 2, 1) := by decide +kernel
theorem dL_append_11 : decode cL_append 11 = .ok (.bipush (-103), 2) := by decide +kernel
theorem dL_append_13 : decode cL_append 13 = .ok (.ireturn, 1) := by decide +kernel
theorem dL_undo_0 : decode cL_undo 0 = .ok (.aload_n 0, 1) := by decide +kernel
theorem dL_undo_1 : decode cL_undo 1 = .ok (.invokevirtual 42, 3) := by decide +kernel
theorem dL_undo_4 : decode cL_undo 4 = .ok (.ireturn, 1) := by decide +kernel
theorem dL_undo_5 : decode cL_undo 5 = .ok (.astore_n 1, 1) := by decide +kernel
theorem dL_undo_6 : decode cL_undo 6 = .ok (.bipush (-103), 2) := by decide +kernel
theorem dL_undo_8 : decode cL_undo 8 = .ok (.ireturn, 1) := by decide +kernel
theorem dL_sheet_0 : decode cL_sheet 0 = .ok (.aload_n 0, 1) := by decide +kernel
theorem dL_sheet_1 : decode cL_sheet 1 = .ok (.iload_n 1, 1) := by decide +kernel
theorem dL_sheet_2 : decode cL_sheet 2 = .ok (.iload_n 2, 1) := by decide +kernel
theorem dL_sheet_3 : decode cL_sheet 3 = .ok (.invokevirtual 46, 3) := by decide +kernel
theorem dL_sheet_6 : decode cL_sheet 6 = .ok (.ireturn, 1) := by decide +kernel
theorem dL_sheet_7 : decode cL_sheet 7 = .ok (.astore_n 3, 1) := by decide +kernel
theorem dL_sheet_8 : decode cL_sheet 8 = .ok (.bipush (-101), 2) := by decide +kernel
theorem dL_sheet_10 : decode cL_sheet 10 = .ok (.ireturn, 1) := by decide +kernel
theorem dL_sheet_11 : decode cL_sheet 11 = .ok (.astore_n 3, 1) := by decide +kernel
theorem dL_sheet_12 : decode cL_sheet 12 = .ok (.bipush (-102), 2) := by decide +kernel
theorem dL_sheet_14 : decode cL_sheet 14 = .ok (.ireturn, 1) := by decide +kernel
theorem dL_stroke_0 : decode cL_stroke 0 = .ok (.aload_n 0, 1) := by decide +kernel
theorem dL_stroke_1 : decode cL_stroke 1 = .ok (.iload_n 1, 1) := by decide +kernel
theorem dL_stroke_2 : decode cL_stroke 2 = .ok (.iload_n 2, 1) := by decide +kernel
theorem dL_stroke_3 : decode cL_stroke 3 = .ok (.iload_n 3, 1) := by decide +kernel
theorem dL_stroke_4 : decode cL_stroke 4 = .ok (.invokevirtual 49, 3) := by decide +kernel
theorem dL_stroke_7 : decode cL_stroke 7 = .ok (.ireturn, 1) := by decide +kernel
theorem dL_stroke_8 : decode cL_stroke 8 = .ok (.astore 4, 2) := by decide +kernel
theorem dL_stroke_10 : decode cL_stroke 10 = .ok (.bipush (-101), 2) := by decide +kernel
theorem dL_stroke_12 : decode cL_stroke 12 = .ok (.ireturn, 1) := by decide +kernel
theorem dL_stroke_13 : decode cL_stroke 13 = .ok (.astore 4, 2) := by decide +kernel
theorem dL_stroke_15 : decode cL_stroke 15 = .ok (.bipush (-102), 2) := by decide +kernel
theorem dL_stroke_17 : decode cL_stroke 17 = .ok (.ireturn, 1) := by decide +kernel
theorem dL_mark_0 : decode cL_mark 0 = .ok (.aload_n 0, 1) := by decide +kernel
theorem dL_mark_1 : decode cL_mark 1 = .ok (.iload_n 1, 1) := by decide +kernel
theorem dL_mark_2 : decode cL_mark 2 = .ok (.iload_n 2, 1) := by decide +kernel
theorem dL_mark_3 : decode cL_mark 3 = .ok (.invokevirtual 53, 3) := by decide +kernel
theorem dL_mark_6 : decode cL_mark 6 = .ok (.ireturn, 1) := by decide +kernel
theorem dL_mark_7 : decode cL_mark 7 = .ok (.astore_n 3, 1) := by decide +kernel
theorem dL_mark_8 : decode cL_mark 8 = .ok (.bipush (-101), 2) := by decide +kernel
theorem dL_mark_10 : decode cL_mark 10 = .ok (.ireturn, 1) := by decide +kernel
theorem dL_mark_11 : decode cL_mark 11 = .ok (.astore_n 3, 1) := by decide +kernel
theorem dL_mark_12 : decode cL_mark 12 = .ok (.bipush (-102), 2) := by decide +kernel
theorem dL_mark_14 : decode cL_mark 14 = .ok (.ireturn, 1) := by decide +kernel
theorem dL_compare_0 : decode cL_compare 0 = .ok (.aload_n 0, 1) := by decide +kernel
theorem dL_compare_1 : decode cL_compare 1 = .ok (.iload_n 1, 1) := by decide +kernel
theorem dL_compare_2 : decode cL_compare 2 = .ok (.iload_n 2, 1) := by decide +kernel
theorem dL_compare_3 : decode cL_compare 3 = .ok (.iload_n 3, 1) := by decide +kernel
theorem dL_compare_4 : decode cL_compare 4 = .ok (.invokevirtual 56, 3) := by decide +kernel
theorem dL_compare_7 : decode cL_compare 7 = .ok (.ireturn, 1) := by decide +kernel
theorem dL_compare_8 : decode cL_compare 8 = .ok (.astore 4, 2) := by decide +kernel
theorem dL_compare_10 : decode cL_compare 10 = .ok (.bipush (-101), 2) := by decide +kernel
theorem dL_compare_12 : decode cL_compare 12 = .ok (.ireturn, 1) := by decide +kernel
theorem dL_compare_13 : decode cL_compare 13 = .ok (.astore 4, 2) := by decide +kernel
theorem dL_compare_15 : decode cL_compare 15 = .ok (.bipush (-102), 2) := by decide +kernel
theorem dL_compare_17 : decode cL_compare 17 = .ok (.ireturn, 1) := by decide +kernel
theorem dL_oath_0 : decode cL_oath 0 = .ok (.aload_n 0, 1) := by decide +kernel
theorem dL_oath_1 : decode cL_oath 1 = .ok (.iload_n 1, 1) := by decide +kernel
theorem dL_oath_2 : decode cL_oath 2 = .ok (.iload_n 2, 1) := by decide +kernel
theorem dL_oath_3 : decode cL_oath 3 = .ok (.invokevirtual 59, 3) := by decide +kernel
theorem dL_oath_6 : decode cL_oath 6 = .ok (.ireturn, 1) := by decide +kernel
theorem dL_oath_7 : decode cL_oath 7 = .ok (.astore_n 3, 1) := by decide +kernel
theorem dL_oath_8 : decode cL_oath 8 = .ok (.bipush (-102), 2) := by decide +kernel
theorem dL_oath_10 : decode cL_oath 10 = .ok (.ireturn, 1) := by decide +kernel
theorem dL_count_0 : decode cL_count 0 = .ok (.aload_n 0, 1) := by decide +kernel
theorem dL_count_1 : decode cL_count 1 = .ok (.iload_n 1, 1) := by decide +kernel
theorem dL_count_2 : decode cL_count 2 = .ok (.invokevirtual 62, 3) := by decide +kernel
theorem dL_count_5 : decode cL_count 5 = .ok (.ireturn, 1) := by decide +kernel
theorem dL_count_6 : decode cL_count 6 = .ok (.astore_n 2, 1) := by decide +kernel
theorem dL_count_7 : decode cL_count 7 = .ok (.bipush (-102), 2) := by decide +kernel
theorem dL_count_9 : decode cL_count 9 = .ok (.ireturn, 1) := by decide +kernel
theorem dL_whyNot_0 : decode cL_whyNot 0 = .ok (.aload_n 0, 1) := by decide +kernel
theorem dL_whyNot_1 : decode cL_whyNot 1 = .ok (.iload_n 1, 1) := by decide +kernel
theorem dL_whyNot_2 : decode cL_whyNot 2 = .ok (.iload_n 2, 1) := by decide +kernel
theorem dL_whyNot_3 : decode cL_whyNot 3 = .ok (.iload_n 3, 1) := by decide +kernel
theorem dL_whyNot_4 : decode cL_whyNot 4 = .ok (.invokevirtual 65, 3) := by decide +kernel
theorem dL_whyNot_7 : decode cL_whyNot 7 = .ok (.ireturn, 1) := by decide +kernel
theorem dL_whyNot_8 : decode cL_whyNot 8 = .ok (.astore 4, 2) := by decide +kernel
theorem dL_whyNot_10 : decode cL_whyNot 10 = .ok (.bipush (-101), 2) := by decide +kernel
theorem dL_whyNot_12 : decode cL_whyNot 12 = .ok (.ireturn, 1) := by decide +kernel
theorem dL_nearest_0 : decode cL_nearest 0 = .ok (.aload_n 0, 1) := by decide +kernel
theorem dL_nearest_1 : decode cL_nearest 1 = .ok (.iload_n 1, 1) := by decide +kernel
theorem dL_nearest_2 : decode cL_nearest 2 = .ok (.invokevirtual 68, 3) := by decide +kernel
theorem dL_nearest_5 : decode cL_nearest 5 = .ok (.ireturn, 1) := by decide +kernel
theorem dL_nearest_6 : decode cL_nearest 6 = .ok (.astore_n 2, 1) := by decide +kernel
theorem dL_nearest_7 : decode cL_nearest 7 = .ok (.bipush (-101), 2) := by decide +kernel
theorem dL_nearest_9 : decode cL_nearest 9 = .ok (.ireturn, 1) := by decide +kernel
theorem dL_toleranceFor_0 : decode cL_toleranceFor 0 = .ok (.aload_n 0, 1) := by decide +kernel
theorem dL_toleranceFor_1 : decode cL_toleranceFor 1 = .ok (.iload_n 1, 1) := by decide +kernel
theorem dL_toleranceFor_2 : decode cL_toleranceFor 2 = .ok (.iload_n 2, 1) := by decide +kernel
theorem dL_toleranceFor_3 : decode cL_toleranceFor 3 = .ok (.iload_n 3, 1) := by decide +kernel
theorem dL_toleranceFor_4 : decode cL_toleranceFor 4 = .ok (.invokevirtual 71, 3) := by decide +kernel
theorem dL_toleranceFor_7 : decode cL_toleranceFor 7 = .ok (.ireturn, 1) := by decide +kernel
theorem dL_toleranceFor_8 : decode cL_toleranceFor 8 = .ok (.astore 4, 2) := by decide +kernel
theorem dL_toleranceFor_10 : decode cL_toleranceFor 10 = .ok (.bipush (-101), 2) := by decide +kernel
theorem dL_toleranceFor_12 : decode cL_toleranceFor 12 = .ok (.ireturn, 1) := by decide +kernel
theorem dL_toleranceFor_13 : decode cL_toleranceFor 13 = .ok (.astore 4, 2) := by decide +kernel
theorem dL_toleranceFor_15 : decode cL_toleranceFor 15 = .ok (.bipush (-102), 2) := by decide +kernel
theorem dL_toleranceFor_17 : decode cL_toleranceFor 17 = .ok (.ireturn, 1) := by decide +kernel
theorem dL_ifPassed_0 : decode cL_ifPassed 0 = .ok (.aload_n 0, 1) := by decide +kernel
theorem dL_ifPassed_1 : decode cL_ifPassed 1 = .ok (.iload_n 1, 1) := by decide +kernel
theorem dL_ifPassed_2 : decode cL_ifPassed 2 = .ok (.iload_n 2, 1) := by decide +kernel
theorem dL_ifPassed_3 : decode cL_ifPassed 3 = .ok (.iload_n 3, 1) := by decide +kernel
theorem dL_ifPassed_4 : decode cL_ifPassed 4 = .ok (.invokevirtual 74, 3) := by decide +kernel
theorem dL_ifPassed_7 : decode cL_ifPassed 7 = .ok (.ireturn, 1) := by decide +kernel
theorem dL_ifPassed_8 : decode cL_ifPassed 8 = .ok (.astore 4, 2) := by decide +kernel
theorem dL_ifPassed_10 : decode cL_ifPassed 10 = .ok (.bipush (-101), 2) := by decide +kernel
theorem dL_ifPassed_12 : decode cL_ifPassed 12 = .ok (.ireturn, 1) := by decide +kernel
theorem dL_ifPassed_13 : decode cL_ifPassed 13 = .ok (.astore 4, 2) := by decide +kernel
theorem dL_ifPassed_15 : decode cL_ifPassed 15 = .ok (.bipush (-102), 2) := by decide +kernel
theorem dL_ifPassed_17 : decode cL_ifPassed 17 = .ok (.ireturn, 1) := by decide +kernel
theorem dL_number_0 : decode cL_number 0 = .ok (.iload_n 1, 1) := by decide +kernel
theorem dL_number_1 : decode cL_number 1 = .ok (.bipush 9, 2) := by decide +kernel
theorem dL_number_3 : decode cL_number 3 = .ok (.if_icmp .le 15, 3) := by decide +kernel
theorem dL_number_6 : decode cL_number 6 = .ok (.aload_n 0, 1) := by decide +kernel
theorem dL_number_7 : decode cL_number 7 = .ok (.bipush 48, 2) := by decide +kernel
theorem dL_number_9 : decode cL_number 9 = .ok (.iload_n 1, 1) := by decide +kernel
theorem dL_number_10 : decode cL_number 10 = .ok (.bipush 10, 2) := by decide +kernel
theorem dL_number_12 : decode cL_number 12 = .ok (.idiv, 1) := by decide +kernel
theorem dL_number_13 : decode cL_number 13 = .ok (.iadd, 1) := by decide +kernel
theorem dL_number_14 : decode cL_number 14 = .ok (.invokestatic 77, 3) := by decide +kernel
theorem dL_number_17 : decode cL_number 17 = .ok (.pop, 1) := by decide +kernel
theorem dL_number_18 : decode cL_number 18 = .ok (.aload_n 0, 1) := by decide +kernel
theorem dL_number_19 : decode cL_number 19 = .ok (.bipush 48, 2) := by decide +kernel
theorem dL_number_21 : decode cL_number 21 = .ok (.iload_n 1, 1) := by decide +kernel
theorem dL_number_22 : decode cL_number 22 = .ok (.bipush 10, 2) := by decide +kernel
theorem dL_number_24 : decode cL_number 24 = .ok (.irem, 1) := by decide +kernel
theorem dL_number_25 : decode cL_number 25 = .ok (.iadd, 1) := by decide +kernel
theorem dL_number_26 : decode cL_number 26 = .ok (.invokestatic 77, 3) := by decide +kernel
theorem dL_number_29 : decode cL_number 29 = .ok (.pop, 1) := by decide +kernel
theorem dL_number_30 : decode cL_number 30 = .ok (.return_, 1) := by decide +kernel
theorem dL_slant_0 : decode cL_slant 0 = .ok (.iload_n 0, 1) := by decide +kernel
theorem dL_slant_1 : decode cL_slant 1 = .ok (.bipush 127, 2) := by decide +kernel
theorem dL_slant_3 : decode cL_slant 3 = .ok (.iand, 1) := by decide +kernel
theorem dL_slant_4 : decode cL_slant 4 = .ok (.bipush 45, 2) := by decide +kernel
theorem dL_slant_6 : decode cL_slant 6 = .ok (.isub, 1) := by decide +kernel
theorem dL_slant_7 : decode cL_slant 7 = .ok (.ireturn, 1) := by decide +kernel
theorem dL_height_0 : decode cL_height 0 = .ok (.iload_n 0, 1) := by decide +kernel
theorem dL_height_1 : decode cL_height 1 = .ok (.bipush 7, 2) := by decide +kernel
theorem dL_height_3 : decode cL_height 3 = .ok (.ishr, 1) := by decide +kernel
theorem dL_height_4 : decode cL_height 4 = .ok (.bipush 63, 2) := by decide +kernel
theorem dL_height_6 : decode cL_height 6 = .ok (.iand, 1) := by decide +kernel
theorem dL_height_7 : decode cL_height 7 = .ok (.ireturn, 1) := by decide +kernel
theorem dL_loop_0 : decode cL_loop 0 = .ok (.iload_n 0, 1) := by decide +kernel
theorem dL_loop_1 : decode cL_loop 1 = .ok (.bipush 13, 2) := by decide +kernel
theorem dL_loop_3 : decode cL_loop 3 = .ok (.ishr, 1) := by decide +kernel
theorem dL_loop_4 : decode cL_loop 4 = .ok (.iconst 1, 1) := by decide +kernel
theorem dL_loop_5 : decode cL_loop 5 = .ok (.iand, 1) := by decide +kernel
theorem dL_loop_6 : decode cL_loop 6 = .ok (.ireturn, 1) := by decide +kernel
theorem dL_pressure_0 : decode cL_pressure 0 = .ok (.iload_n 0, 1) := by decide +kernel
theorem dL_pressure_1 : decode cL_pressure 1 = .ok (.bipush 14, 2) := by decide +kernel
theorem dL_pressure_3 : decode cL_pressure 3 = .ok (.ishr, 1) := by decide +kernel
theorem dL_pressure_4 : decode cL_pressure 4 = .ok (.bipush 15, 2) := by decide +kernel
theorem dL_pressure_6 : decode cL_pressure 6 = .ok (.iand, 1) := by decide +kernel
theorem dL_pressure_7 : decode cL_pressure 7 = .ok (.ireturn, 1) := by decide +kernel
theorem dL_types_0 : decode cL_types 0 = .ok (.aload_n 0, 1) := by decide +kernel
theorem dL_types_1 : decode cL_types 1 = .ok (.invokevirtual 82, 3) := by decide +kernel
theorem dL_types_4 : decode cL_types 4 = .ok (.pop, 1) := by decide +kernel
theorem dL_types_5 : decode cL_types 5 = .ok (.iconst 1, 1) := by decide +kernel
theorem dL_types_6 : decode cL_types 6 = .ok (.iload_n 1, 1) := by decide +kernel
theorem dL_types_7 : decode cL_types 7 = .ok (.iconst 5, 1) := by decide +kernel
theorem dL_types_8 : decode cL_types 8 = .ok (.invokestatic 85, 3) := by decide +kernel
theorem dL_types_11 : decode cL_types 11 = .ok (.iadd, 1) := by decide +kernel
theorem dL_types_12 : decode cL_types 12 = .ok (.istore 4, 2) := by decide +kernel
theorem dL_types_14 : decode cL_types 14 = .ok (.iload_n 1, 1) := by decide +kernel
theorem dL_types_15 : decode cL_types 15 = .ok (.iconst 3, 1) := by decide +kernel
theorem dL_types_16 : decode cL_types 16 = .ok (.ishr, 1) := by decide +kernel
theorem dL_types_17 : decode cL_types 17 = .ok (.bipush 61, 2) := by decide +kernel
theorem dL_types_19 : decode cL_types 19 = .ok (.invokestatic 85, 3) := by decide +kernel
theorem dL_types_22 : decode cL_types 22 = .ok (.bipush 30, 2) := by decide +kernel
theorem dL_types_24 : decode cL_types 24 = .ok (.isub, 1) := by decide +kernel
theorem dL_types_25 : decode cL_types 25 = .ok (.istore 5, 2) := by decide +kernel
theorem dL_types_27 : decode cL_types 27 = .ok (.iconst 0, 1) := by decide +kernel
theorem dL_types_28 : decode cL_types 28 = .ok (.istore 6, 2) := by decide +kernel
theorem dL_types_30 : decode cL_types 30 = .ok (.iload 6, 2) := by decide +kernel
theorem dL_types_32 : decode cL_types 32 = .ok (.iload 4, 2) := by decide +kernel
theorem dL_types_34 : decode cL_types 34 = .ok (.if_icmp .ge 271, 3) := by decide +kernel
theorem dL_types_37 : decode cL_types 37 = .ok (.iload_n 1, 1) := by decide +kernel
theorem dL_types_38 : decode cL_types 38 = .ok (.iconst 2, 1) := by decide +kernel
theorem dL_types_39 : decode cL_types 39 = .ok (.iload 6, 2) := by decide +kernel
theorem dL_types_41 : decode cL_types 41 = .ok (.imul, 1) := by decide +kernel
theorem dL_types_42 : decode cL_types 42 = .ok (.iconst 3, 1) := by decide +kernel
theorem dL_types_43 : decode cL_types 43 = .ok (.iadd, 1) := by decide +kernel
theorem dL_types_44 : decode cL_types 44 = .ok (.imul, 1) := by decide +kernel
theorem dL_types_45 : decode cL_types 45 = .ok (.iconst 5, 1) := by decide +kernel
theorem dL_types_46 : decode cL_types 46 = .ok (.ishr, 1) := by decide +kernel
theorem dL_types_47 : decode cL_types 47 = .ok (.ldc 88, 2) := by decide +kernel
theorem dL_types_49 : decode cL_types 49 = .ok (.iand, 1) := by decide +kernel
theorem dL_types_50 : decode cL_types 50 = .ok (.istore 7, 2) := by decide +kernel
theorem dL_types_52 : decode cL_types 52 = .ok (.iload 5, 2) := by decide +kernel
theorem dL_types_54 : decode cL_types 54 = .ok (.iload 7, 2) := by decide +kernel
theorem dL_types_56 : decode cL_types 56 = .ok (.bipush 9, 2) := by decide +kernel
theorem dL_types_58 : decode cL_types 58 = .ok (.invokestatic 85, 3) := by decide +kernel
theorem dL_types_61 : decode cL_types 61 = .ok (.iadd, 1) := by decide +kernel
theorem dL_types_62 : decode cL_types 62 = .ok (.iconst 4, 1) := by decide +kernel
theorem dL_types_63 : decode cL_types 63 = .ok (.isub, 1) := by decide +kernel
theorem dL_types_64 : decode cL_types 64 = .ok (.istore 8, 2) := by decide +kernel
theorem dL_types_66 : decode cL_types 66 = .ok (.bipush 10, 2) := by decide +kernel
theorem dL_types_68 : decode cL_types 68 = .ok (.iload 7, 2) := by decide +kernel
theorem dL_types_70 : decode cL_types 70 = .ok (.iconst 3, 1) := by decide +kernel
theorem dL_types_71 : decode cL_types 71 = .ok (.ishr, 1) := by decide +kernel
theorem dL_types_72 : decode cL_types 72 = .ok (.iload_n 1, 1) := by decide +kernel
theorem dL_types_73 : decode cL_types 73 = .ok (.bipush 9, 2) := by decide +kernel
theorem dL_types_75 : decode cL_types 75 = .ok (.ishr, 1) := by decide +kernel
theorem dL_types_76 : decode cL_types 76 = .ok (.iconst 3, 1) := by decide +kernel
theorem dL_types_77 : decode cL_types 77 = .ok (.invokestatic 85, 3) := by decide +kernel
theorem dL_types_80 : decode cL_types 80 = .ok (.ifCond .ne 8, 3) := by decide +kernel
theorem dL_types_83 : decode cL_types 83 = .ok (.bipush 51, 2) := by decide +kernel
theorem dL_types_85 : decode cL_types 85 = .ok (.goto 5, 3) := by decide +kernel
theorem dL_types_88 : decode cL_types 88 = .ok (.bipush 8, 2) := by decide +kernel
theorem dL_types_90 : decode cL_types 90 = .ok (.invokestatic 85, 3) := by decide +kernel
theorem dL_types_93 : decode cL_types 93 = .ok (.iadd, 1) := by decide +kernel
theorem dL_types_94 : decode cL_types 94 = .ok (.istore 9, 2) := by decide +kernel
theorem dL_types_96 : decode cL_types 96 = .ok (.iconst 1, 1) := by decide +kernel
theorem dL_types_97 : decode cL_types 97 = .ok (.iload 7, 2) := by decide +kernel
theorem dL_types_99 : decode cL_types 99 = .ok (.bipush 7, 2) := by decide +kernel
theorem dL_types_101 : decode cL_types 101 = .ok (.ishr, 1) := by decide +kernel
theorem dL_types_102 : decode cL_types 102 = .ok (.bipush 9, 2) := by decide +kernel
theorem dL_types_104 : decode cL_types 104 = .ok (.invokestatic 85, 3) := by decide +kernel
theorem dL_types_107 : decode cL_types 107 = .ok (.iadd, 1) := by decide +kernel
theorem dL_types_108 : decode cL_types 108 = .ok (.istore 10, 2) := by decide +kernel
theorem dL_types_110 : decode cL_types 110 = .ok (.iload 7, 2) := by decide +kernel
theorem dL_types_112 : decode cL_types 112 = .ok (.bipush 11, 2) := by decide +kernel
theorem dL_types_114 : decode cL_types 114 = .ok (.ishr, 1) := by decide +kernel
theorem dL_types_115 : decode cL_types 115 = .ok (.iconst 3, 1) := by decide +kernel
theorem dL_types_116 : decode cL_types 116 = .ok (.invokestatic 85, 3) := by decide +kernel
theorem dL_types_119 : decode cL_types 119 = .ok (.ifCond .ne 16, 3) := by decide +kernel
theorem dL_types_122 : decode cL_types 122 = .ok (.iload 7, 2) := by decide +kernel
theorem dL_types_124 : decode cL_types 124 = .ok (.bipush 13, 2) := by decide +kernel
theorem dL_types_126 : decode cL_types 126 = .ok (.ishr, 1) := by decide +kernel
theorem dL_types_127 : decode cL_types 127 = .ok (.bipush 10, 2) := by decide +kernel
theorem dL_types_129 : decode cL_types 129 = .ok (.invokestatic 85, 3) := by decide +kernel
theorem dL_types_132 : decode cL_types 132 = .ok (.goto 4, 3) := by decide +kernel
theorem dL_types_135 : decode cL_types 135 = .ok (.iconst 0, 1) := by decide +kernel
theorem dL_types_136 : decode cL_types 136 = .ok (.istore 11, 2) := by decide +kernel
theorem dL_types_138 : decode cL_types 138 = .ok (.iload 7, 2) := by decide +kernel
theorem dL_types_140 : decode cL_types 140 = .ok (.bipush 17, 2) := by decide +kernel
theorem dL_types_142 : decode cL_types 142 = .ok (.ishr, 1) := by decide +kernel
theorem dL_types_143 : decode cL_types 143 = .ok (.iconst 3, 1) := by decide +kernel
theorem dL_types_144 : decode cL_types 144 = .ok (.invokestatic 85, 3) := by decide +kernel
theorem dL_types_147 : decode cL_types 147 = .ok (.ifCond .le 7, 3) := by decide +kernel
theorem dL_types_150 : decode cL_types 150 = .ok (.iconst 1, 1) := by decide +kernel
theorem dL_types_151 : decode cL_types 151 = .ok (.goto 4, 3) := by decide +kernel
theorem dL_types_154 : decode cL_types 154 = .ok (.iconst 0, 1) := by decide +kernel
theorem dL_types_155 : decode cL_types 155 = .ok (.istore 12, 2) := by decide +kernel
theorem dL_types_157 : decode cL_types 157 = .ok (.iload 6, 2) := by decide +kernel
theorem dL_types_159 : decode cL_types 159 = .ok (.ifCond .le 10, 3) := by decide +kernel
theorem dL_types_162 : decode cL_types 162 = .ok (.aload_n 0, 1) := by decide +kernel
theorem dL_types_163 : decode cL_types 163 = .ok (.bipush 44, 2) := by decide +kernel
theorem dL_types_165 : decode cL_types 165 = .ok (.invokestatic 77, 3) := by decide +kernel
theorem dL_types_168 : decode cL_types 168 = .ok (.pop, 1) := by decide +kernel
theorem dL_types_169 : decode cL_types 169 = .ok (.iload 8, 2) := by decide +kernel
theorem dL_types_171 : decode cL_types 171 = .ok (.ifCond .ge 10, 3) := by decide +kernel
theorem dL_types_174 : decode cL_types 174 = .ok (.aload_n 0, 1) := by decide +kernel
theorem dL_types_175 : decode cL_types 175 = .ok (.bipush 45, 2) := by decide +kernel
theorem dL_types_177 : decode cL_types 177 = .ok (.invokestatic 77, 3) := by decide +kernel
theorem dL_types_180 : decode cL_types 180 = .ok (.pop, 1) := by decide +kernel
theorem dL_types_181 : decode cL_types 181 = .ok (.aload_n 0, 1) := by decide +kernel
theorem dL_types_182 : decode cL_types 182 = .ok (.iload 8, 2) := by decide +kernel
theorem dL_types_184 : decode cL_types 184 = .ok (.ifCond .ge 9, 3) := by decide +kernel
theorem dL_types_187 : decode cL_types 187 = .ok (.iload 8, 2) := by decide +kernel
theorem dL_types_189 : decode cL_types 189 = .ok (.ineg, 1) := by decide +kernel
theorem dL_types_190 : decode cL_types 190 = .ok (.goto 5, 3) := by decide +kernel
theorem dL_types_193 : decode cL_types 193 = .ok (.iload 8, 2) := by decide +kernel
theorem dL_types_195 : decode cL_types 195 = .ok (.invokestatic 89, 3) := by decide +kernel
theorem dL_types_198 : decode cL_types 198 = .ok (.aload_n 0, 1) := by decide +kernel
theorem dL_types_199 : decode cL_types 199 = .ok (.bipush 58, 2) := by decide +kernel
theorem dL_types_201 : decode cL_types 201 = .ok (.invokestatic 77, 3) := by decide +kernel
theorem dL_types_204 : decode cL_types 204 = .ok (.pop, 1) := by decide +kernel
theorem dL_types_205 : decode cL_types 205 = .ok (.aload_n 0, 1) := by decide +kernel
theorem dL_types_206 : decode cL_types 206 = .ok (.iload 9, 2) := by decide +kernel
theorem dL_types_208 : decode cL_types 208 = .ok (.invokestatic 89, 3) := by decide +kernel
theorem dL_types_211 : decode cL_types 211 = .ok (.iload 12, 2) := by decide +kernel
theorem dL_types_213 : decode cL_types 213 = .ok (.ifCond .eq 10, 3) := by decide +kernel
theorem dL_types_216 : decode cL_types 216 = .ok (.aload_n 0, 1) := by decide +kernel
theorem dL_types_217 : decode cL_types 217 = .ok (.bipush 111, 2) := by decide +kernel
theorem dL_types_219 : decode cL_types 219 = .ok (.invokestatic 77, 3) := by decide +kernel
theorem dL_types_222 : decode cL_types 222 = .ok (.pop, 1) := by decide +kernel
theorem dL_types_223 : decode cL_types 223 = .ok (.aload_n 0, 1) := by decide +kernel
theorem dL_types_224 : decode cL_types 224 = .ok (.bipush 112, 2) := by decide +kernel
theorem dL_types_226 : decode cL_types 226 = .ok (.invokestatic 77, 3) := by decide +kernel
theorem dL_types_229 : decode cL_types 229 = .ok (.pop, 1) := by decide +kernel
theorem dL_types_230 : decode cL_types 230 = .ok (.aload_n 0, 1) := by decide +kernel
theorem dL_types_231 : decode cL_types 231 = .ok (.iload 10, 2) := by decide +kernel
theorem dL_types_233 : decode cL_types 233 = .ok (.invokestatic 89, 3) := by decide +kernel
theorem dL_types_236 : decode cL_types 236 = .ok (.iload 11, 2) := by decide +kernel
theorem dL_types_238 : decode cL_types 238 = .ok (.ifCond .le 16, 3) := by decide +kernel
theorem dL_types_241 : decode cL_types 241 = .ok (.aload_n 0, 1) := by decide +kernel
theorem dL_types_242 : decode cL_types 242 = .ok (.bipush 126, 2) := by decide +kernel
theorem dL_types_244 : decode cL_types 244 = .ok (.invokestatic 77, 3) := by decide +kernel
theorem dL_types_247 : decode cL_types 247 = .ok (.pop, 1) := by decide +kernel
theorem dL_types_248 : decode cL_types 248 = .ok (.aload_n 0, 1) := by decide +kernel
theorem dL_types_249 : decode cL_types 249 = .ok (.iload 11, 2) := by decide +kernel
theorem dL_types_251 : decode cL_types 251 = .ok (.invokestatic 89, 3) := by decide +kernel
theorem dL_types_254 : decode cL_types 254 = .ok (.aload_n 3, 1) := by decide +kernel
theorem dL_types_255 : decode cL_types 255 = .ok (.bipush 8, 2) := by decide +kernel
theorem dL_types_257 : decode cL_types 257 = .ok (.iload_n 2, 1) := by decide +kernel
theorem dL_types_258 : decode cL_types 258 = .ok (.imul, 1) := by decide +kernel
theorem dL_types_259 : decode cL_types 259 = .ok (.iload 6, 2) := by decide +kernel
theorem dL_types_261 : decode cL_types 261 = .ok (.iadd, 1) := by decide +kernel
theorem dL_types_262 : decode cL_types 262 = .ok (.iload 8, 2) := by decide +kernel
theorem dL_types_264 : decode cL_types 264 = .ok (.bipush 45, 2) := by decide +kernel
theorem dL_types_266 : decode cL_types 266 = .ok (.iadd, 1) := by decide +kernel
theorem dL_types_267 : decode cL_types 267 = .ok (.iload 9, 2) := by decide +kernel
theorem dL_types_269 : decode cL_types 269 = .ok (.bipush 7, 2) := by decide +kernel
theorem dL_types_271 : decode cL_types 271 = .ok (.ishl, 1) := by decide +kernel
theorem dL_types_272 : decode cL_types 272 = .ok (.ior, 1) := by decide +kernel
theorem dL_types_273 : decode cL_types 273 = .ok (.iload 12, 2) := by decide +kernel
theorem dL_types_275 : decode cL_types 275 = .ok (.ifCond .eq 9, 3) := by decide +kernel
theorem dL_types_278 : decode cL_types 278 = .ok (.sipush 8192, 3) := by decide +kernel
theorem dL_types_281 : decode cL_types 281 = .ok (.goto 4, 3) := by decide +kernel
theorem dL_types_284 : decode cL_types 284 = .ok (.iconst 0, 1) := by decide +kernel
theorem dL_types_285 : decode cL_types 285 = .ok (.ior, 1) := by decide +kernel
theorem dL_types_286 : decode cL_types 286 = .ok (.iload 10, 2) := by decide +kernel
theorem dL_types_288 : decode cL_types 288 = .ok (.bipush 14, 2) := by decide +kernel
theorem dL_types_290 : decode cL_types 290 = .ok (.ishl, 1) := by decide +kernel
theorem dL_types_291 : decode cL_types 291 = .ok (.ior, 1) := by decide +kernel
theorem dL_types_292 : decode cL_types 292 = .ok (.iload 11, 2) := by decide +kernel
theorem dL_types_294 : decode cL_types 294 = .ok (.bipush 18, 2) := by decide +kernel
theorem dL_types_296 : decode cL_types 296 = .ok (.ishl, 1) := by decide +kernel
theorem dL_types_297 : decode cL_types 297 = .ok (.ior, 1) := by decide +kernel
theorem dL_types_298 : decode cL_types 298 = .ok (.iastore, 1) := by decide +kernel
theorem dL_types_299 : decode cL_types 299 = .ok (.iinc 6 1, 3) := by decide +kernel
theorem dL_types_302 : decode cL_types 302 = .ok (.goto (-272), 3) := by decide +kernel
theorem dL_types_305 : decode cL_types 305 = .ok (.iload 4, 2) := by decide +kernel
theorem dL_types_307 : decode cL_types 307 = .ok (.ireturn, 1) := by decide +kernel
theorem dL_markOf_0 : decode cL_markOf 0 = .ok (.iconst 0, 1) := by decide +kernel
theorem dL_markOf_1 : decode cL_markOf 1 = .ok (.istore 4, 2) := by decide +kernel
theorem dL_markOf_3 : decode cL_markOf 3 = .ok (.bipush 99, 2) := by decide +kernel
theorem dL_markOf_5 : decode cL_markOf 5 = .ok (.istore 5, 2) := by decide +kernel
theorem dL_markOf_7 : decode cL_markOf 7 = .ok (.bipush (-99), 2) := by decide +kernel
theorem dL_markOf_9 : decode cL_markOf 9 = .ok (.istore 6, 2) := by decide +kernel
theorem dL_markOf_11 : decode cL_markOf 11 = .ok (.iconst 0, 1) := by decide +kernel
theorem dL_markOf_12 : decode cL_markOf 12 = .ok (.istore 7, 2) := by decide +kernel
theorem dL_markOf_14 : decode cL_markOf 14 = .ok (.iconst 0, 1) := by decide +kernel
theorem dL_markOf_15 : decode cL_markOf 15 = .ok (.istore 8, 2) := by decide +kernel
theorem dL_markOf_17 : decode cL_markOf 17 = .ok (.iconst 0, 1) := by decide +kernel
theorem dL_markOf_18 : decode cL_markOf 18 = .ok (.istore 9, 2) := by decide +kernel
theorem dL_markOf_20 : decode cL_markOf 20 = .ok (.iconst 0, 1) := by decide +kernel
theorem dL_markOf_21 : decode cL_markOf 21 = .ok (.istore 10, 2) := by decide +kernel
theorem dL_markOf_23 : decode cL_markOf 23 = .ok (.iconst 0, 1) := by decide +kernel
theorem dL_markOf_24 : decode cL_markOf 24 = .ok (.istore 11, 2) := by decide +kernel
theorem dL_markOf_26 : decode cL_markOf 26 = .ok (.bipush 8, 2) := by decide +kernel
theorem dL_markOf_28 : decode cL_markOf 28 = .ok (.iload_n 0, 1) := by decide +kernel
theorem dL_markOf_29 : decode cL_markOf 29 = .ok (.imul, 1) := by decide +kernel
theorem dL_markOf_30 : decode cL_markOf 30 = .ok (.istore 12, 2) := by decide +kernel
theorem dL_markOf_32 : decode cL_markOf 32 = .ok (.iload 12, 2) := by decide +kernel
theorem dL_markOf_34 : decode cL_markOf 34 = .ok (.bipush 8, 2) := by decide +kernel
theorem dL_markOf_36 : decode cL_markOf 36 = .ok (.iload_n 0, 1) := by decide +kernel
theorem dL_markOf_37 : decode cL_markOf 37 = .ok (.imul, 1) := by decide +kernel
theorem dL_markOf_38 : decode cL_markOf 38 = .ok (.aload_n 2, 1) := by decide +kernel
theorem dL_markOf_39 : decode cL_markOf 39 = .ok (.iload_n 0, 1) := by decide +kernel
theorem dL_markOf_40 : decode cL_markOf 40 = .ok (.iaload, 1) := by decide +kernel
theorem dL_markOf_41 : decode cL_markOf 41 = .ok (.iadd, 1) := by decide +kernel
theorem dL_markOf_42 : decode cL_markOf 42 = .ok (.if_icmp .ge 163, 3) := by decide +kernel
theorem dL_markOf_45 : decode cL_markOf 45 = .ok (.aload_n 3, 1) := by decide +kernel
theorem dL_markOf_46 : decode cL_markOf 46 = .ok (.iload 12, 2) := by decide +kernel
theorem dL_markOf_48 : decode cL_markOf 48 = .ok (.iaload, 1) := by decide +kernel
theorem dL_markOf_49 : decode cL_markOf 49 = .ok (.invokestatic 93, 3) := by decide +kernel
theorem dL_markOf_52 : decode cL_markOf 52 = .ok (.istore 13, 2) := by decide +kernel
theorem dL_markOf_54 : decode cL_markOf 54 = .ok (.iload 4, 2) := by decide +kernel
theorem dL_markOf_56 : decode cL_markOf 56 = .ok (.iload 13, 2) := by decide +kernel
theorem dL_markOf_58 : decode cL_markOf 58 = .ok (.iadd, 1) := by decide +kernel
theorem dL_markOf_59 : decode cL_markOf 59 = .ok (.istore 4, 2) := by decide +kernel
theorem dL_markOf_61 : decode cL_markOf 61 = .ok (.iload 13, 2) := by decide +kernel
theorem dL_markOf_63 : decode cL_markOf 63 = .ok (.iload 5, 2) := by decide +kernel
theorem dL_markOf_65 : decode cL_markOf 65 = .ok (.if_icmp .ge 8, 3) := by decide +kernel
theorem dL_markOf_68 : decode cL_markOf 68 = .ok (.iload 13, 2) := by decide +kernel
theorem dL_markOf_70 : decode cL_markOf 70 = .ok (.goto 5, 3) := by decide +kernel
theorem dL_markOf_73 : decode cL_markOf 73 = .ok (.iload 5, 2) := by decide +kernel
theorem dL_markOf_75 : decode cL_markOf 75 = .ok (.istore 5, 2) := by decide +kernel
theorem dL_markOf_77 : decode cL_markOf 77 = .ok (.iload 13, 2) := by decide +kernel
theorem dL_markOf_79 : decode cL_markOf 79 = .ok (.iload 6, 2) := by decide +kernel
theorem dL_markOf_81 : decode cL_markOf 81 = .ok (.if_icmp .le 8, 3) := by decide +kernel
theorem dL_markOf_84 : decode cL_markOf 84 = .ok (.iload 13, 2) := by decide +kernel
theorem dL_markOf_86 : decode cL_markOf 86 = .ok (.goto 5, 3) := by decide +kernel
theorem dL_markOf_89 : decode cL_markOf 89 = .ok (.iload 6, 2) := by decide +kernel
theorem dL_markOf_91 : decode cL_markOf 91 = .ok (.istore 6, 2) := by decide +kernel
theorem dL_markOf_93 : decode cL_markOf 93 = .ok (.iload 7, 2) := by decide +kernel
theorem dL_markOf_95 : decode cL_markOf 95 = .ok (.aload_n 3, 1) := by decide +kernel
theorem dL_markOf_96 : decode cL_markOf 96 = .ok (.iload 12, 2) := by decide +kernel
theorem dL_markOf_98 : decode cL_markOf 98 = .ok (.iaload, 1) := by decide +kernel
theorem dL_markOf_99 : decode cL_markOf 99 = .ok (.invokestatic 96, 3) := by decide +kernel
theorem dL_markOf_102 : decode cL_markOf 102 = .ok (.iadd, 1) := by decide +kernel
theorem dL_markOf_103 : decode cL_markOf 103 = .ok (.istore 7, 2) := by decide +kernel
theorem dL_markOf_105 : decode cL_markOf 105 = .ok (.iload 8, 2) := by decide +kernel
theorem dL_markOf_107 : decode cL_markOf 107 = .ok (.aload_n 3, 1) := by decide +kernel
theorem dL_markOf_108 : decode cL_markOf 108 = .ok (.iload 12, 2) := by decide +kernel
theorem dL_markOf_110 : decode cL_markOf 110 = .ok (.iaload, 1) := by decide +kernel
theorem dL_markOf_111 : decode cL_markOf 111 = .ok (.invokestatic 99, 3) := by decide +kernel
theorem dL_markOf_114 : decode cL_markOf 114 = .ok (.iadd, 1) := by decide +kernel
theorem dL_markOf_115 : decode cL_markOf 115 = .ok (.istore 8, 2) := by decide +kernel
theorem dL_markOf_117 : decode cL_markOf 117 = .ok (.iload 9, 2) := by decide +kernel
theorem dL_markOf_119 : decode cL_markOf 119 = .ok (.aload_n 3, 1) := by decide +kernel
theorem dL_markOf_120 : decode cL_markOf 120 = .ok (.iload 12, 2) := by decide +kernel
theorem dL_markOf_122 : decode cL_markOf 122 = .ok (.iaload, 1) := by decide +kernel
theorem dL_markOf_123 : decode cL_markOf 123 = .ok (.invokestatic 99, 3) := by decide +kernel
theorem dL_markOf_126 : decode cL_markOf 126 = .ok (.aload_n 3, 1) := by decide +kernel
theorem dL_markOf_127 : decode cL_markOf 127 = .ok (.iload 12, 2) := by decide +kernel
theorem dL_markOf_129 : decode cL_markOf 129 = .ok (.iaload, 1) := by decide +kernel
theorem dL_markOf_130 : decode cL_markOf 130 = .ok (.invokestatic 96, 3) := by decide +kernel
theorem dL_markOf_133 : decode cL_markOf 133 = .ok (.imul, 1) := by decide +kernel
theorem dL_markOf_134 : decode cL_markOf 134 = .ok (.iadd, 1) := by decide +kernel
theorem dL_markOf_135 : decode cL_markOf 135 = .ok (.istore 9, 2) := by decide +kernel
theorem dL_markOf_137 : decode cL_markOf 137 = .ok (.iload 10, 2) := by decide +kernel
theorem dL_markOf_139 : decode cL_markOf 139 = .ok (.aload_n 3, 1) := by decide +kernel
theorem dL_markOf_140 : decode cL_markOf 140 = .ok (.iload 12, 2) := by decide +kernel
theorem dL_markOf_142 : decode cL_markOf 142 = .ok (.iaload, 1) := by decide +kernel
theorem dL_markOf_143 : decode cL_markOf 143 = .ok (.invokestatic 102, 3) := by decide +kernel
theorem dL_markOf_146 : decode cL_markOf 146 = .ok (.iadd, 1) := by decide +kernel
theorem dL_markOf_147 : decode cL_markOf 147 = .ok (.istore 10, 2) := by decide +kernel
theorem dL_markOf_149 : decode cL_markOf 149 = .ok (.iload 12, 2) := by decide +kernel
theorem dL_markOf_151 : decode cL_markOf 151 = .ok (.bipush 8, 2) := by decide +kernel
theorem dL_markOf_153 : decode cL_markOf 153 = .ok (.iload_n 0, 1) := by decide +kernel
theorem dL_markOf_154 : decode cL_markOf 154 = .ok (.imul, 1) := by decide +kernel
theorem dL_markOf_155 : decode cL_markOf 155 = .ok (.if_icmp .ne 7, 3) := by decide +kernel
theorem dL_markOf_158 : decode cL_markOf 158 = .ok (.iconst 0, 1) := by decide +kernel
theorem dL_markOf_159 : decode cL_markOf 159 = .ok (.goto 20, 3) := by decide +kernel
theorem dL_markOf_162 : decode cL_markOf 162 = .ok (.aload_n 3, 1) := by decide +kernel
theorem dL_markOf_163 : decode cL_markOf 163 = .ok (.iload 12, 2) := by decide +kernel
theorem dL_markOf_165 : decode cL_markOf 165 = .ok (.iaload, 1) := by decide +kernel
theorem dL_markOf_166 : decode cL_markOf 166 = .ok (.invokestatic 102, 3) := by decide +kernel
theorem dL_markOf_169 : decode cL_markOf 169 = .ok (.aload_n 3, 1) := by decide +kernel
theorem dL_markOf_170 : decode cL_markOf 170 = .ok (.iload 12, 2) := by decide +kernel
theorem dL_markOf_172 : decode cL_markOf 172 = .ok (.iconst 1, 1) := by decide +kernel
theorem dL_markOf_173 : decode cL_markOf 173 = .ok (.isub, 1) := by decide +kernel
theorem dL_markOf_174 : decode cL_markOf 174 = .ok (.iaload, 1) := by decide +kernel
theorem dL_markOf_175 : decode cL_markOf 175 = .ok (.invokestatic 102, 3) := by decide +kernel
theorem dL_markOf_178 : decode cL_markOf 178 = .ok (.isub, 1) := by decide +kernel
theorem dL_markOf_179 : decode cL_markOf 179 = .ok (.istore 14, 2) := by decide +kernel
theorem dL_markOf_181 : decode cL_markOf 181 = .ok (.iload 11, 2) := by decide +kernel
theorem dL_markOf_183 : decode cL_markOf 183 = .ok (.iload 14, 2) := by decide +kernel
theorem dL_markOf_185 : decode cL_markOf 185 = .ok (.ifCond .ge 9, 3) := by decide +kernel
theorem dL_markOf_188 : decode cL_markOf 188 = .ok (.iload 14, 2) := by decide +kernel
theorem dL_markOf_190 : decode cL_markOf 190 = .ok (.ineg, 1) := by decide +kernel
theorem dL_markOf_191 : decode cL_markOf 191 = .ok (.goto 5, 3) := by decide +kernel
theorem dL_markOf_194 : decode cL_markOf 194 = .ok (.iload 14, 2) := by decide +kernel
theorem dL_markOf_196 : decode cL_markOf 196 = .ok (.iadd, 1) := by decide +kernel
theorem dL_markOf_197 : decode cL_markOf 197 = .ok (.istore 11, 2) := by decide +kernel
theorem dL_markOf_199 : decode cL_markOf 199 = .ok (.iinc 12 1, 3) := by decide +kernel
theorem dL_markOf_202 : decode cL_markOf 202 = .ok (.goto (-170), 3) := by decide +kernel
theorem dL_markOf_205 : decode cL_markOf 205 = .ok (.iload 4, 2) := by decide +kernel
theorem dL_markOf_207 : decode cL_markOf 207 = .ok (.bipush 45, 2) := by decide +kernel
theorem dL_markOf_209 : decode cL_markOf 209 = .ok (.aload_n 2, 1) := by decide +kernel
theorem dL_markOf_210 : decode cL_markOf 210 = .ok (.iload_n 0, 1) := by decide +kernel
theorem dL_markOf_211 : decode cL_markOf 211 = .ok (.iaload, 1) := by decide +kernel
theorem dL_markOf_212 : decode cL_markOf 212 = .ok (.imul, 1) := by decide +kernel
theorem dL_markOf_213 : decode cL_markOf 213 = .ok (.iadd, 1) := by decide +kernel
theorem dL_markOf_214 : decode cL_markOf 214 = .ok (.aload_n 2, 1) := by decide +kernel
theorem dL_markOf_215 : decode cL_markOf 215 = .ok (.iload_n 0, 1) := by decide +kernel
theorem dL_markOf_216 : decode cL_markOf 216 = .ok (.iaload, 1) := by decide +kernel
theorem dL_markOf_217 : decode cL_markOf 217 = .ok (.idiv, 1) := by decide +kernel
theorem dL_markOf_218 : decode cL_markOf 218 = .ok (.bipush 45, 2) := by decide +kernel
theorem dL_markOf_220 : decode cL_markOf 220 = .ok (.isub, 1) := by decide +kernel
theorem dL_markOf_221 : decode cL_markOf 221 = .ok (.istore 12, 2) := by decide +kernel
theorem dL_markOf_223 : decode cL_markOf 223 = .ok (.iload_n 1, 1) := by decide +kernel
theorem dL_markOf_224 : decode cL_markOf 224 = .ok (.ifCond .ne 8, 3) := by decide +kernel
theorem dL_markOf_227 : decode cL_markOf 227 = .ok (.iload 12, 2) := by decide +kernel
theorem dL_markOf_229 : decode cL_markOf 229 = .ok (.goto 104, 3) := by decide +kernel
theorem dL_markOf_232 : decode cL_markOf 232 = .ok (.iload_n 1, 1) := by decide +kernel
theorem dL_markOf_233 : decode cL_markOf 233 = .ok (.iconst 1, 1) := by decide +kernel
theorem dL_markOf_234 : decode cL_markOf 234 = .ok (.if_icmp .ne 11, 3) := by decide +kernel
theorem dL_markOf_237 : decode cL_markOf 237 = .ok (.iload 6, 2) := by decide +kernel
theorem dL_markOf_239 : decode cL_markOf 239 = .ok (.iload 5, 2) := by decide +kernel
theorem dL_markOf_241 : decode cL_markOf 241 = .ok (.isub, 1) := by decide +kernel
theorem dL_markOf_242 : decode cL_markOf 242 = .ok (.goto 91, 3) := by decide +kernel
theorem dL_markOf_245 : decode cL_markOf 245 = .ok (.iload_n 1, 1) := by decide +kernel
theorem dL_markOf_246 : decode cL_markOf 246 = .ok (.iconst 2, 1) := by decide +kernel
theorem dL_markOf_247 : decode cL_markOf 247 = .ok (.if_icmp .ne 30, 3) := by decide +kernel
theorem dL_markOf_250 : decode cL_markOf 250 = .ok (.iload 8, 2) := by decide +kernel
theorem dL_markOf_252 : decode cL_markOf 252 = .ok (.ifCond .ne 7, 3) := by decide +kernel
theorem dL_markOf_255 : decode cL_markOf 255 = .ok (.iconst 0, 1) := by decide +kernel
theorem dL_markOf_256 : decode cL_markOf 256 = .ok (.goto 77, 3) := by decide +kernel
theorem dL_markOf_259 : decode cL_markOf 259 = .ok (.iload 9, 2) := by decide +kernel
theorem dL_markOf_261 : decode cL_markOf 261 = .ok (.iload 8, 2) := by decide +kernel
theorem dL_markOf_263 : decode cL_markOf 263 = .ok (.idiv, 1) := by decide +kernel
theorem dL_markOf_264 : decode cL_markOf 264 = .ok (.bipush 10, 2) := by decide +kernel
theorem dL_markOf_266 : decode cL_markOf 266 = .ok (.imul, 1) := by decide +kernel
theorem dL_markOf_267 : decode cL_markOf 267 = .ok (.iload 7, 2) := by decide +kernel
theorem dL_markOf_269 : decode cL_markOf 269 = .ok (.aload_n 2, 1) := by decide +kernel
theorem dL_markOf_270 : decode cL_markOf 270 = .ok (.iload_n 0, 1) := by decide +kernel
theorem dL_markOf_271 : decode cL_markOf 271 = .ok (.iaload, 1) := by decide +kernel
theorem dL_markOf_272 : decode cL_markOf 272 = .ok (.idiv, 1) := by decide +kernel
theorem dL_markOf_273 : decode cL_markOf 273 = .ok (.idiv, 1) := by decide +kernel
theorem dL_markOf_274 : decode cL_markOf 274 = .ok (.goto 59, 3) := by decide +kernel
theorem dL_markOf_277 : decode cL_markOf 277 = .ok (.iload_n 1, 1) := by decide +kernel
theorem dL_markOf_278 : decode cL_markOf 278 = .ok (.iconst 3, 1) := by decide +kernel
theorem dL_markOf_279 : decode cL_markOf 279 = .ok (.if_icmp .ne 15, 3) := by decide +kernel
theorem dL_markOf_282 : decode cL_markOf 282 = .ok (.bipush 100, 2) := by decide +kernel
theorem dL_markOf_284 : decode cL_markOf 284 = .ok (.iload 8, 2) := by decide +kernel
theorem dL_markOf_286 : decode cL_markOf 286 = .ok (.imul, 1) := by decide +kernel
theorem dL_markOf_287 : decode cL_markOf 287 = .ok (.aload_n 2, 1) := by decide +kernel
theorem dL_markOf_288 : decode cL_markOf 288 = .ok (.iload_n 0, 1) := by decide +kernel
theorem dL_markOf_289 : decode cL_markOf 289 = .ok (.iaload, 1) := by decide +kernel
theorem dL_markOf_290 : decode cL_markOf 290 = .ok (.idiv, 1) := by decide +kernel
theorem dL_markOf_291 : decode cL_markOf 291 = .ok (.goto 42, 3) := by decide +kernel
theorem dL_markOf_294 : decode cL_markOf 294 = .ok (.iload_n 1, 1) := by decide +kernel
theorem dL_markOf_295 : decode cL_markOf 295 = .ok (.iconst 4, 1) := by decide +kernel
theorem dL_markOf_296 : decode cL_markOf 296 = .ok (.if_icmp .ne 15, 3) := by decide +kernel
theorem dL_markOf_299 : decode cL_markOf 299 = .ok (.bipush 10, 2) := by decide +kernel
theorem dL_markOf_301 : decode cL_markOf 301 = .ok (.iload 10, 2) := by decide +kernel
theorem dL_markOf_303 : decode cL_markOf 303 = .ok (.imul, 1) := by decide +kernel
theorem dL_markOf_304 : decode cL_markOf 304 = .ok (.aload_n 2, 1) := by decide +kernel
theorem dL_markOf_305 : decode cL_markOf 305 = .ok (.iload_n 0, 1) := by decide +kernel
theorem dL_markOf_306 : decode cL_markOf 306 = .ok (.iaload, 1) := by decide +kernel
theorem dL_markOf_307 : decode cL_markOf 307 = .ok (.idiv, 1) := by decide +kernel
theorem dL_markOf_308 : decode cL_markOf 308 = .ok (.goto 25, 3) := by decide +kernel
theorem dL_markOf_311 : decode cL_markOf 311 = .ok (.aload_n 2, 1) := by decide +kernel
theorem dL_markOf_312 : decode cL_markOf 312 = .ok (.iload_n 0, 1) := by decide +kernel
theorem dL_markOf_313 : decode cL_markOf 313 = .ok (.iaload, 1) := by decide +kernel
theorem dL_markOf_314 : decode cL_markOf 314 = .ok (.iconst 1, 1) := by decide +kernel
theorem dL_markOf_315 : decode cL_markOf 315 = .ok (.if_icmp .ne 7, 3) := by decide +kernel
theorem dL_markOf_318 : decode cL_markOf 318 = .ok (.iconst 0, 1) := by decide +kernel
theorem dL_markOf_319 : decode cL_markOf 319 = .ok (.goto 14, 3) := by decide +kernel
theorem dL_markOf_322 : decode cL_markOf 322 = .ok (.iload 11, 2) := by decide +kernel
theorem dL_markOf_324 : decode cL_markOf 324 = .ok (.bipush 10, 2) := by decide +kernel
theorem dL_markOf_326 : decode cL_markOf 326 = .ok (.imul, 1) := by decide +kernel
theorem dL_markOf_327 : decode cL_markOf 327 = .ok (.aload_n 2, 1) := by decide +kernel
theorem dL_markOf_328 : decode cL_markOf 328 = .ok (.iload_n 0, 1) := by decide +kernel
theorem dL_markOf_329 : decode cL_markOf 329 = .ok (.iaload, 1) := by decide +kernel
theorem dL_markOf_330 : decode cL_markOf 330 = .ok (.iconst 1, 1) := by decide +kernel
theorem dL_markOf_331 : decode cL_markOf 331 = .ok (.isub, 1) := by decide +kernel
theorem dL_markOf_332 : decode cL_markOf 332 = .ok (.idiv, 1) := by decide +kernel
theorem dL_markOf_333 : decode cL_markOf 333 = .ok (.ireturn, 1) := by decide +kernel
theorem dL_size_0 : decode cL_size 0 = .ok (.iload_n 0, 1) := by decide +kernel
theorem dL_size_1 : decode cL_size 1 = .ok (.ifCond .ge 8, 3) := by decide +kernel
theorem dL_size_4 : decode cL_size 4 = .ok (.iload_n 0, 1) := by decide +kernel
theorem dL_size_5 : decode cL_size 5 = .ok (.ineg, 1) := by decide +kernel
theorem dL_size_6 : decode cL_size 6 = .ok (.goto 4, 3) := by decide +kernel
theorem dL_size_9 : decode cL_size 9 = .ok (.iload_n 0, 1) := by decide +kernel
theorem dL_size_10 : decode cL_size 10 = .ok (.ireturn, 1) := by decide +kernel
theorem dL_tolerance_0 : decode cL_tolerance 0 = .ok (.aload 5, 2) := by decide +kernel
theorem dL_tolerance_2 : decode cL_tolerance 2 = .ok (.iload_n 0, 1) := by decide +kernel
theorem dL_tolerance_3 : decode cL_tolerance 3 = .ok (.iaload, 1) := by decide +kernel
theorem dL_tolerance_4 : decode cL_tolerance 4 = .ok (.iload_n 3, 1) := by decide +kernel
theorem dL_tolerance_5 : decode cL_tolerance 5 = .ok (.iadd, 1) := by decide +kernel
theorem dL_tolerance_6 : decode cL_tolerance 6 = .ok (.bipush 99, 2) := by decide +kernel
theorem dL_tolerance_8 : decode cL_tolerance 8 = .ok (.if_icmp .le 8, 3) := by decide +kernel
theorem dL_tolerance_11 : decode cL_tolerance 11 = .ok (.bipush 99, 2) := by decide +kernel
theorem dL_tolerance_13 : decode cL_tolerance 13 = .ok (.goto 9, 3) := by decide +kernel
theorem dL_tolerance_16 : decode cL_tolerance 16 = .ok (.aload 5, 2) := by decide +kernel
theorem dL_tolerance_18 : decode cL_tolerance 18 = .ok (.iload_n 0, 1) := by decide +kernel
theorem dL_tolerance_19 : decode cL_tolerance 19 = .ok (.iaload, 1) := by decide +kernel
theorem dL_tolerance_20 : decode cL_tolerance 20 = .ok (.iload_n 3, 1) := by decide +kernel
theorem dL_tolerance_21 : decode cL_tolerance 21 = .ok (.iadd, 1) := by decide +kernel
theorem dL_tolerance_22 : decode cL_tolerance 22 = .ok (.istore 8, 2) := by decide +kernel
theorem dL_tolerance_24 : decode cL_tolerance 24 = .ok (.aload 5, 2) := by decide +kernel
theorem dL_tolerance_26 : decode cL_tolerance 26 = .ok (.iload_n 1, 1) := by decide +kernel
theorem dL_tolerance_27 : decode cL_tolerance 27 = .ok (.iaload, 1) := by decide +kernel
theorem dL_tolerance_28 : decode cL_tolerance 28 = .ok (.iload_n 3, 1) := by decide +kernel
theorem dL_tolerance_29 : decode cL_tolerance 29 = .ok (.iadd, 1) := by decide +kernel
theorem dL_tolerance_30 : decode cL_tolerance 30 = .ok (.bipush 99, 2) := by decide +kernel
theorem dL_tolerance_32 : decode cL_tolerance 32 = .ok (.if_icmp .le 8, 3) := by decide +kernel
theorem dL_tolerance_35 : decode cL_tolerance 35 = .ok (.bipush 99, 2) := by decide +kernel
theorem dL_tolerance_37 : decode cL_tolerance 37 = .ok (.goto 9, 3) := by decide +kernel
theorem dL_tolerance_40 : decode cL_tolerance 40 = .ok (.aload 5, 2) := by decide +kernel
theorem dL_tolerance_42 : decode cL_tolerance 42 = .ok (.iload_n 1, 1) := by decide +kernel
theorem dL_tolerance_43 : decode cL_tolerance 43 = .ok (.iaload, 1) := by decide +kernel
theorem dL_tolerance_44 : decode cL_tolerance 44 = .ok (.iload_n 3, 1) := by decide +kernel
theorem dL_tolerance_45 : decode cL_tolerance 45 = .ok (.iadd, 1) := by decide +kernel
theorem dL_tolerance_46 : decode cL_tolerance 46 = .ok (.istore 9, 2) := by decide +kernel
theorem dL_tolerance_48 : decode cL_tolerance 48 = .ok (.iload_n 2, 1) := by decide +kernel
theorem dL_tolerance_49 : decode cL_tolerance 49 = .ok (.iconst 2, 1) := by decide +kernel
theorem dL_tolerance_50 : decode cL_tolerance 50 = .ok (.if_icmp .eq 8, 3) := by decide +kernel
theorem dL_tolerance_53 : decode cL_tolerance 53 = .ok (.iload_n 2, 1) := by decide +kernel
theorem dL_tolerance_54 : decode cL_tolerance 54 = .ok (.iconst 3, 1) := by decide +kernel
theorem dL_tolerance_55 : decode cL_tolerance 55 = .ok (.if_icmp .ne 25, 3) := by decide +kernel
theorem dL_tolerance_58 : decode cL_tolerance 58 = .ok (.iload 8, 2) := by decide +kernel
theorem dL_tolerance_60 : decode cL_tolerance 60 = .ok (.aload 4, 2) := by decide +kernel
theorem dL_tolerance_62 : decode cL_tolerance 62 = .ok (.bipush 6, 2) := by decide +kernel
theorem dL_tolerance_64 : decode cL_tolerance 64 = .ok (.iaload, 1) := by decide +kernel
theorem dL_tolerance_65 : decode cL_tolerance 65 = .ok (.if_icmp .ge 13, 3) := by decide +kernel
theorem dL_tolerance_68 : decode cL_tolerance 68 = .ok (.iload 9, 2) := by decide +kernel
theorem dL_tolerance_70 : decode cL_tolerance 70 = .ok (.aload 4, 2) := by decide +kernel
theorem dL_tolerance_72 : decode cL_tolerance 72 = .ok (.bipush 6, 2) := by decide +kernel
theorem dL_tolerance_74 : decode cL_tolerance 74 = .ok (.iaload, 1) := by decide +kernel
theorem dL_tolerance_75 : decode cL_tolerance 75 = .ok (.if_icmp .lt 5, 3) := by decide +kernel
theorem dL_tolerance_78 : decode cL_tolerance 78 = .ok (.iconst (-1), 1) := by decide +kernel
theorem dL_tolerance_79 : decode cL_tolerance 79 = .ok (.ireturn, 1) := by decide +kernel
theorem dL_tolerance_80 : decode cL_tolerance 80 = .ok (.iload_n 0, 1) := by decide +kernel
theorem dL_tolerance_81 : decode cL_tolerance 81 = .ok (.iload_n 2, 1) := by decide +kernel
theorem dL_tolerance_82 : decode cL_tolerance 82 = .ok (.aload 6, 2) := by decide +kernel
theorem dL_tolerance_84 : decode cL_tolerance 84 = .ok (.aload 7, 2) := by decide +kernel
theorem dL_tolerance_86 : decode cL_tolerance 86 = .ok (.invokestatic 105, 3) := by decide +kernel
theorem dL_tolerance_89 : decode cL_tolerance 89 = .ok (.iload_n 1, 1) := by decide +kernel
theorem dL_tolerance_90 : decode cL_tolerance 90 = .ok (.iload_n 2, 1) := by decide +kernel
theorem dL_tolerance_91 : decode cL_tolerance 91 = .ok (.aload 6, 2) := by decide +kernel
theorem dL_tolerance_93 : decode cL_tolerance 93 = .ok (.aload 7, 2) := by decide +kernel
theorem dL_tolerance_95 : decode cL_tolerance 95 = .ok (.invokestatic 105, 3) := by decide +kernel
theorem dL_tolerance_98 : decode cL_tolerance 98 = .ok (.isub, 1) := by decide +kernel
theorem dL_tolerance_99 : decode cL_tolerance 99 = .ok (.invokestatic 109, 3) := by decide +kernel
theorem dL_tolerance_102 : decode cL_tolerance 102 = .ok (.iload 8, 2) := by decide +kernel
theorem dL_tolerance_104 : decode cL_tolerance 104 = .ok (.iload 9, 2) := by decide +kernel
theorem dL_tolerance_106 : decode cL_tolerance 106 = .ok (.isub, 1) := by decide +kernel
theorem dL_tolerance_107 : decode cL_tolerance 107 = .ok (.invokestatic 109, 3) := by decide +kernel
theorem dL_tolerance_110 : decode cL_tolerance 110 = .ok (.bipush 10, 2) := by decide +kernel
theorem dL_tolerance_112 : decode cL_tolerance 112 = .ok (.idiv, 1) := by decide +kernel
theorem dL_tolerance_113 : decode cL_tolerance 113 = .ok (.isub, 1) := by decide +kernel
theorem dL_tolerance_114 : decode cL_tolerance 114 = .ok (.istore 10, 2) := by decide +kernel
theorem dL_tolerance_116 : decode cL_tolerance 116 = .ok (.iload 10, 2) := by decide +kernel
theorem dL_tolerance_118 : decode cL_tolerance 118 = .ok (.ifCond .ge 7, 3) := by decide +kernel
theorem dL_tolerance_121 : decode cL_tolerance 121 = .ok (.iconst 0, 1) := by decide +kernel
theorem dL_tolerance_122 : decode cL_tolerance 122 = .ok (.goto 5, 3) := by decide +kernel
theorem dL_tolerance_125 : decode cL_tolerance 125 = .ok (.iload 10, 2) := by decide +kernel
theorem dL_tolerance_127 : decode cL_tolerance 127 = .ok (.ireturn, 1) := by decide +kernel
theorem dL_agreeing_0 : decode cL_agreeing 0 = .ok (.iconst 0, 1) := by decide +kernel
theorem dL_agreeing_1 : decode cL_agreeing 1 = .ok (.istore 7, 2) := by decide +kernel
theorem dL_agreeing_3 : decode cL_agreeing 3 = .ok (.iconst 0, 1) := by decide +kernel
theorem dL_agreeing_4 : decode cL_agreeing 4 = .ok (.istore 8, 2) := by decide +kernel
theorem dL_agreeing_6 : decode cL_agreeing 6 = .ok (.iload 8, 2) := by decide +kernel
theorem dL_agreeing_8 : decode cL_agreeing 8 = .ok (.bipush 6, 2) := by decide +kernel
theorem dL_agreeing_10 : decode cL_agreeing 10 = .ok (.if_icmp .ge 53, 3) := by decide +kernel
theorem dL_agreeing_13 : decode cL_agreeing 13 = .ok (.iload_n 0, 1) := by decide +kernel
theorem dL_agreeing_14 : decode cL_agreeing 14 = .ok (.iload_n 1, 1) := by decide +kernel
theorem dL_agreeing_15 : decode cL_agreeing 15 = .ok (.iload 8, 2) := by decide +kernel
theorem dL_agreeing_17 : decode cL_agreeing 17 = .ok (.iload_n 2, 1) := by decide +kernel
theorem dL_agreeing_18 : decode cL_agreeing 18 = .ok (.aload_n 3, 1) := by decide +kernel
theorem dL_agreeing_19 : decode cL_agreeing 19 = .ok (.aload 4, 2) := by decide +kernel
theorem dL_agreeing_21 : decode cL_agreeing 21 = .ok (.aload 5, 2) := by decide +kernel
theorem dL_agreeing_23 : decode cL_agreeing 23 = .ok (.aload 6, 2) := by decide +kernel
theorem dL_agreeing_25 : decode cL_agreeing 25 = .ok (.invokestatic 112, 3) := by decide +kernel
theorem dL_agreeing_28 : decode cL_agreeing 28 = .ok (.istore 9, 2) := by decide +kernel
theorem dL_agreeing_30 : decode cL_agreeing 30 = .ok (.iload 7, 2) := by decide +kernel
theorem dL_agreeing_32 : decode cL_agreeing 32 = .ok (.iload 9, 2) := by decide +kernel
theorem dL_agreeing_34 : decode cL_agreeing 34 = .ok (.ifCond .lt 19, 3) := by decide +kernel
theorem dL_agreeing_37 : decode cL_agreeing 37 = .ok (.iload 9, 2) := by decide +kernel
theorem dL_agreeing_39 : decode cL_agreeing 39 = .ok (.aload_n 3, 1) := by decide +kernel
theorem dL_agreeing_40 : decode cL_agreeing 40 = .ok (.iload 8, 2) := by decide +kernel
theorem dL_agreeing_42 : decode cL_agreeing 42 = .ok (.iaload, 1) := by decide +kernel
theorem dL_agreeing_43 : decode cL_agreeing 43 = .ok (.if_icmp .gt 10, 3) := by decide +kernel
theorem dL_agreeing_46 : decode cL_agreeing 46 = .ok (.iconst 1, 1) := by decide +kernel
theorem dL_agreeing_47 : decode cL_agreeing 47 = .ok (.iload 8, 2) := by decide +kernel
theorem dL_agreeing_49 : decode cL_agreeing 49 = .ok (.ishl, 1) := by decide +kernel
theorem dL_agreeing_50 : decode cL_agreeing 50 = .ok (.goto 4, 3) := by decide +kernel
theorem dL_agreeing_53 : decode cL_agreeing 53 = .ok (.iconst 0, 1) := by decide +kernel
theorem dL_agreeing_54 : decode cL_agreeing 54 = .ok (.ior, 1) := by decide +kernel
theorem dL_agreeing_55 : decode cL_agreeing 55 = .ok (.istore 7, 2) := by decide +kernel
theorem dL_agreeing_57 : decode cL_agreeing 57 = .ok (.iinc 8 1, 3) := by decide +kernel
theorem dL_agreeing_60 : decode cL_agreeing 60 = .ok (.goto (-54), 3) := by decide +kernel
theorem dL_agreeing_63 : decode cL_agreeing 63 = .ok (.iload 7, 2) := by decide +kernel
theorem dL_agreeing_65 : decode cL_agreeing 65 = .ok (.ireturn, 1) := by decide +kernel
theorem dL_ones_0 : decode cL_ones 0 = .ok (.iconst 0, 1) := by decide +kernel
theorem dL_ones_1 : decode cL_ones 1 = .ok (.istore_n 1, 1) := by decide +kernel
theorem dL_ones_2 : decode cL_ones 2 = .ok (.iload_n 0, 1) := by decide +kernel
theorem dL_ones_3 : decode cL_ones 3 = .ok (.istore_n 2, 1) := by decide +kernel
theorem dL_ones_4 : decode cL_ones 4 = .ok (.iload_n 2, 1) := by decide +kernel
theorem dL_ones_5 : decode cL_ones 5 = .ok (.ifCond .eq 15, 3) := by decide +kernel
theorem dL_ones_8 : decode cL_ones 8 = .ok (.iinc 1 1, 3) := by decide +kernel
theorem dL_ones_11 : decode cL_ones 11 = .ok (.iload_n 2, 1) := by decide +kernel
theorem dL_ones_12 : decode cL_ones 12 = .ok (.iload_n 2, 1) := by decide +kernel
theorem dL_ones_13 : decode cL_ones 13 = .ok (.iconst 1, 1) := by decide +kernel
theorem dL_ones_14 : decode cL_ones 14 = .ok (.isub, 1) := by decide +kernel
theorem dL_ones_15 : decode cL_ones 15 = .ok (.iand, 1) := by decide +kernel
theorem dL_ones_16 : decode cL_ones 16 = .ok (.istore_n 2, 1) := by decide +kernel
theorem dL_ones_17 : decode cL_ones 17 = .ok (.goto (-13), 3) := by decide +kernel
theorem dL_ones_20 : decode cL_ones 20 = .ok (.iload_n 1, 1) := by decide +kernel
theorem dL_ones_21 : decode cL_ones 21 = .ok (.ireturn, 1) := by decide +kernel
theorem dL_trembles_0 : decode cL_trembles 0 = .ok (.iconst 0, 1) := by decide +kernel
theorem dL_trembles_1 : decode cL_trembles 1 = .ok (.istore 4, 2) := by decide +kernel
theorem dL_trembles_3 : decode cL_trembles 3 = .ok (.bipush 8, 2) := by decide +kernel
theorem dL_trembles_5 : decode cL_trembles 5 = .ok (.iload_n 0, 1) := by decide +kernel
theorem dL_trembles_6 : decode cL_trembles 6 = .ok (.imul, 1) := by decide +kernel
theorem dL_trembles_7 : decode cL_trembles 7 = .ok (.istore 5, 2) := by decide +kernel
theorem dL_trembles_9 : decode cL_trembles 9 = .ok (.iload 5, 2) := by decide +kernel
theorem dL_trembles_11 : decode cL_trembles 11 = .ok (.bipush 8, 2) := by decide +kernel
theorem dL_trembles_13 : decode cL_trembles 13 = .ok (.iload_n 0, 1) := by decide +kernel
theorem dL_trembles_14 : decode cL_trembles 14 = .ok (.imul, 1) := by decide +kernel
theorem dL_trembles_15 : decode cL_trembles 15 = .ok (.aload_n 2, 1) := by decide +kernel
theorem dL_trembles_16 : decode cL_trembles 16 = .ok (.iload_n 0, 1) := by decide +kernel
theorem dL_trembles_17 : decode cL_trembles 17 = .ok (.iaload, 1) := by decide +kernel
theorem dL_trembles_18 : decode cL_trembles 18 = .ok (.iadd, 1) := by decide +kernel
theorem dL_trembles_19 : decode cL_trembles 19 = .ok (.if_icmp .ge 21, 3) := by decide +kernel
theorem dL_trembles_22 : decode cL_trembles 22 = .ok (.iload 4, 2) := by decide +kernel
theorem dL_trembles_24 : decode cL_trembles 24 = .ok (.aload_n 3, 1) := by decide +kernel
theorem dL_trembles_25 : decode cL_trembles 25 = .ok (.iload 5, 2) := by decide +kernel
theorem dL_trembles_27 : decode cL_trembles 27 = .ok (.iaload, 1) := by decide +kernel
theorem dL_trembles_28 : decode cL_trembles 28 = .ok (.bipush 18, 2) := by decide +kernel
theorem dL_trembles_30 : decode cL_trembles 30 = .ok (.ishr, 1) := by decide +kernel
theorem dL_trembles_31 : decode cL_trembles 31 = .ok (.iadd, 1) := by decide +kernel
theorem dL_trembles_32 : decode cL_trembles 32 = .ok (.istore 4, 2) := by decide +kernel
theorem dL_trembles_34 : decode cL_trembles 34 = .ok (.iinc 5 1, 3) := by decide +kernel
theorem dL_trembles_37 : decode cL_trembles 37 = .ok (.goto (-28), 3) := by decide +kernel
theorem dL_trembles_40 : decode cL_trembles 40 = .ok (.iload 4, 2) := by decide +kernel
theorem dL_trembles_42 : decode cL_trembles 42 = .ok (.aload_n 2, 1) := by decide +kernel
theorem dL_trembles_43 : decode cL_trembles 43 = .ok (.iload_n 0, 1) := by decide +kernel
theorem dL_trembles_44 : decode cL_trembles 44 = .ok (.iaload, 1) := by decide +kernel
theorem dL_trembles_45 : decode cL_trembles 45 = .ok (.aload_n 1, 1) := by decide +kernel
theorem dL_trembles_46 : decode cL_trembles 46 = .ok (.bipush 7, 2) := by decide +kernel
theorem dL_trembles_48 : decode cL_trembles 48 = .ok (.iaload, 1) := by decide +kernel
theorem dL_trembles_49 : decode cL_trembles 49 = .ok (.imul, 1) := by decide +kernel
theorem dL_trembles_50 : decode cL_trembles 50 = .ok (.if_icmp .le 7, 3) := by decide +kernel
theorem dL_trembles_53 : decode cL_trembles 53 = .ok (.iconst 1, 1) := by decide +kernel
theorem dL_trembles_54 : decode cL_trembles 54 = .ok (.goto 4, 3) := by decide +kernel
theorem dL_trembles_57 : decode cL_trembles 57 = .ok (.iconst 0, 1) := by decide +kernel
theorem dL_trembles_58 : decode cL_trembles 58 = .ok (.ireturn, 1) := by decide +kernel
theorem dL_handOf_0 : decode cL_handOf 0 = .ok (.iconst 1, 1) := by decide +kernel
theorem dL_handOf_1 : decode cL_handOf 1 = .ok (.iload_n 0, 1) := by decide +kernel
theorem dL_handOf_2 : decode cL_handOf 2 = .ok (.ishl, 1) := by decide +kernel
theorem dL_handOf_3 : decode cL_handOf 3 = .ok (.istore 6, 2) := by decide +kernel
theorem dL_handOf_5 : decode cL_handOf 5 = .ok (.iconst 0, 1) := by decide +kernel
theorem dL_handOf_6 : decode cL_handOf 6 = .ok (.istore 7, 2) := by decide +kernel
theorem dL_handOf_8 : decode cL_handOf 8 = .ok (.iload 7, 2) := by decide +kernel
theorem dL_handOf_10 : decode cL_handOf 10 = .ok (.bipush 8, 2) := by decide +kernel
theorem dL_handOf_12 : decode cL_handOf 12 = .ok (.if_icmp .ge 126, 3) := by decide +kernel
theorem dL_handOf_15 : decode cL_handOf 15 = .ok (.iconst 0, 1) := by decide +kernel
theorem dL_handOf_16 : decode cL_handOf 16 = .ok (.istore 8, 2) := by decide +kernel
theorem dL_handOf_18 : decode cL_handOf 18 = .ok (.iload 8, 2) := by decide +kernel
theorem dL_handOf_20 : decode cL_handOf 20 = .ok (.aload 4, 2) := by decide +kernel
theorem dL_handOf_22 : decode cL_handOf 22 = .ok (.bipush 10, 2) := by decide +kernel
theorem dL_handOf_24 : decode cL_handOf 24 = .ok (.iaload, 1) := by decide +kernel
theorem dL_handOf_25 : decode cL_handOf 25 = .ok (.if_icmp .ge 71, 3) := by decide +kernel
theorem dL_handOf_28 : decode cL_handOf 28 = .ok (.iconst 1, 1) := by decide +kernel
theorem dL_handOf_29 : decode cL_handOf 29 = .ok (.aload 5, 2) := by decide +kernel
theorem dL_handOf_31 : decode cL_handOf 31 = .ok (.iload 8, 2) := by decide +kernel
theorem dL_handOf_33 : decode cL_handOf 33 = .ok (.iaload, 1) := by decide +kernel
theorem dL_handOf_34 : decode cL_handOf 34 = .ok (.bipush 15, 2) := by decide +kernel
theorem dL_handOf_36 : decode cL_handOf 36 = .ok (.iand, 1) := by decide +kernel
theorem dL_handOf_37 : decode cL_handOf 37 = .ok (.ishl, 1) := by decide +kernel
theorem dL_handOf_38 : decode cL_handOf 38 = .ok (.iconst 1, 1) := by decide +kernel
theorem dL_handOf_39 : decode cL_handOf 39 = .ok (.aload 5, 2) := by decide +kernel
theorem dL_handOf_41 : decode cL_handOf 41 = .ok (.iload 8, 2) := by decide +kernel
theorem dL_handOf_43 : decode cL_handOf 43 = .ok (.iaload, 1) := by decide +kernel
theorem dL_handOf_44 : decode cL_handOf 44 = .ok (.iconst 4, 1) := by decide +kernel
theorem dL_handOf_45 : decode cL_handOf 45 = .ok (.ishr, 1) := by decide +kernel
theorem dL_handOf_46 : decode cL_handOf 46 = .ok (.bipush 15, 2) := by decide +kernel
theorem dL_handOf_48 : decode cL_handOf 48 = .ok (.iand, 1) := by decide +kernel
theorem dL_handOf_49 : decode cL_handOf 49 = .ok (.ishl, 1) := by decide +kernel
theorem dL_handOf_50 : decode cL_handOf 50 = .ok (.ior, 1) := by decide +kernel
theorem dL_handOf_51 : decode cL_handOf 51 = .ok (.istore 9, 2) := by decide +kernel
theorem dL_handOf_53 : decode cL_handOf 53 = .ok (.iload 6, 2) := by decide +kernel
theorem dL_handOf_55 : decode cL_handOf 55 = .ok (.iload 8, 2) := by decide +kernel
theorem dL_handOf_57 : decode cL_handOf 57 = .ok (.iload_n 1, 1) := by decide +kernel
theorem dL_handOf_58 : decode cL_handOf 58 = .ok (.if_icmp .eq 28, 3) := by decide +kernel
theorem dL_handOf_61 : decode cL_handOf 61 = .ok (.aload 5, 2) := by decide +kernel
theorem dL_handOf_63 : decode cL_handOf 63 = .ok (.iload 8, 2) := by decide +kernel
theorem dL_handOf_65 : decode cL_handOf 65 = .ok (.iaload, 1) := by decide +kernel
theorem dL_handOf_66 : decode cL_handOf 66 = .ok (.bipush 8, 2) := by decide +kernel
theorem dL_handOf_68 : decode cL_handOf 68 = .ok (.ishr, 1) := by decide +kernel
theorem dL_handOf_69 : decode cL_handOf 69 = .ok (.iconst 1, 1) := by decide +kernel
theorem dL_handOf_70 : decode cL_handOf 70 = .ok (.if_icmp .ne 16, 3) := by decide +kernel
theorem dL_handOf_73 : decode cL_handOf 73 = .ok (.iload 6, 2) := by decide +kernel
theorem dL_handOf_75 : decode cL_handOf 75 = .ok (.iload 9, 2) := by decide +kernel
theorem dL_handOf_77 : decode cL_handOf 77 = .ok (.iand, 1) := by decide +kernel
theorem dL_handOf_78 : decode cL_handOf 78 = .ok (.ifCond .eq 8, 3) := by decide +kernel
theorem dL_handOf_81 : decode cL_handOf 81 = .ok (.iload 9, 2) := by decide +kernel
theorem dL_handOf_83 : decode cL_handOf 83 = .ok (.goto 4, 3) := by decide +kernel
theorem dL_handOf_86 : decode cL_handOf 86 = .ok (.iconst 0, 1) := by decide +kernel
theorem dL_handOf_87 : decode cL_handOf 87 = .ok (.ior, 1) := by decide +kernel
theorem dL_handOf_88 : decode cL_handOf 88 = .ok (.istore 6, 2) := by decide +kernel
theorem dL_handOf_90 : decode cL_handOf 90 = .ok (.iinc 8 1, 3) := by decide +kernel
theorem dL_handOf_93 : decode cL_handOf 93 = .ok (.goto (-75), 3) := by decide +kernel
theorem dL_handOf_96 : decode cL_handOf 96 = .ok (.iload_n 2, 1) := by decide +kernel
theorem dL_handOf_97 : decode cL_handOf 97 = .ok (.ifCond .ge 7, 3) := by decide +kernel
theorem dL_handOf_100 : decode cL_handOf 100 = .ok (.iconst 0, 1) := by decide +kernel
theorem dL_handOf_101 : decode cL_handOf 101 = .ok (.goto 10, 3) := by decide +kernel
theorem dL_handOf_104 : decode cL_handOf 104 = .ok (.iconst 1, 1) := by decide +kernel
theorem dL_handOf_105 : decode cL_handOf 105 = .ok (.iload_n 2, 1) := by decide +kernel
theorem dL_handOf_106 : decode cL_handOf 106 = .ok (.ishl, 1) := by decide +kernel
theorem dL_handOf_107 : decode cL_handOf 107 = .ok (.iconst 1, 1) := by decide +kernel
theorem dL_handOf_108 : decode cL_handOf 108 = .ok (.iload_n 3, 1) := by decide +kernel
theorem dL_handOf_109 : decode cL_handOf 109 = .ok (.ishl, 1) := by decide +kernel
theorem dL_handOf_110 : decode cL_handOf 110 = .ok (.ior, 1) := by decide +kernel
theorem dL_handOf_111 : decode cL_handOf 111 = .ok (.istore 8, 2) := by decide +kernel
theorem dL_handOf_113 : decode cL_handOf 113 = .ok (.iload 6, 2) := by decide +kernel
theorem dL_handOf_115 : decode cL_handOf 115 = .ok (.iload 6, 2) := by decide +kernel
theorem dL_handOf_117 : decode cL_handOf 117 = .ok (.iload 8, 2) := by decide +kernel
theorem dL_handOf_119 : decode cL_handOf 119 = .ok (.iand, 1) := by decide +kernel
theorem dL_handOf_120 : decode cL_handOf 120 = .ok (.ifCond .eq 8, 3) := by decide +kernel
theorem dL_handOf_123 : decode cL_handOf 123 = .ok (.iload 8, 2) := by decide +kernel
theorem dL_handOf_125 : decode cL_handOf 125 = .ok (.goto 4, 3) := by decide +kernel
theorem dL_handOf_128 : decode cL_handOf 128 = .ok (.iconst 0, 1) := by decide +kernel
theorem dL_handOf_129 : decode cL_handOf 129 = .ok (.ior, 1) := by decide +kernel
theorem dL_handOf_130 : decode cL_handOf 130 = .ok (.istore 6, 2) := by decide +kernel
theorem dL_handOf_132 : decode cL_handOf 132 = .ok (.iinc 7 1, 3) := by decide +kernel
theorem dL_handOf_135 : decode cL_handOf 135 = .ok (.goto (-127), 3) := by decide +kernel
theorem dL_handOf_138 : decode cL_handOf 138 = .ok (.iload 6, 2) := by decide +kernel
theorem dL_handOf_140 : decode cL_handOf 140 = .ok (.ireturn, 1) := by decide +kernel
theorem dL_oathOf_0 : decode cL_oathOf 0 = .ok (.iconst (-1), 1) := by decide +kernel
theorem dL_oathOf_1 : decode cL_oathOf 1 = .ok (.istore 4, 2) := by decide +kernel
theorem dL_oathOf_3 : decode cL_oathOf 3 = .ok (.iconst 0, 1) := by decide +kernel
theorem dL_oathOf_4 : decode cL_oathOf 4 = .ok (.istore 5, 2) := by decide +kernel
theorem dL_oathOf_6 : decode cL_oathOf 6 = .ok (.iload 5, 2) := by decide +kernel
theorem dL_oathOf_8 : decode cL_oathOf 8 = .ok (.aload_n 2, 1) := by decide +kernel
theorem dL_oathOf_9 : decode cL_oathOf 9 = .ok (.bipush 10, 2) := by decide +kernel
theorem dL_oathOf_11 : decode cL_oathOf 11 = .ok (.iaload, 1) := by decide +kernel
theorem dL_oathOf_12 : decode cL_oathOf 12 = .ok (.if_icmp .ge 52, 3) := by decide +kernel
theorem dL_oathOf_15 : decode cL_oathOf 15 = .ok (.aload_n 3, 1) := by decide +kernel
theorem dL_oathOf_16 : decode cL_oathOf 16 = .ok (.iload 5, 2) := by decide +kernel
theorem dL_oathOf_18 : decode cL_oathOf 18 = .ok (.iaload, 1) := by decide +kernel
theorem dL_oathOf_19 : decode cL_oathOf 19 = .ok (.sipush 255, 3) := by decide +kernel
theorem dL_oathOf_22 : decode cL_oathOf 22 = .ok (.iand, 1) := by decide +kernel
theorem dL_oathOf_23 : decode cL_oathOf 23 = .ok (.iload_n 0, 1) := by decide +kernel
theorem dL_oathOf_24 : decode cL_oathOf 24 = .ok (.bipush 16, 2) := by decide +kernel
theorem dL_oathOf_26 : decode cL_oathOf 26 = .ok (.iload_n 1, 1) := by decide +kernel
theorem dL_oathOf_27 : decode cL_oathOf 27 = .ok (.imul, 1) := by decide +kernel
theorem dL_oathOf_28 : decode cL_oathOf 28 = .ok (.iadd, 1) := by decide +kernel
theorem dL_oathOf_29 : decode cL_oathOf 29 = .ok (.if_icmp .eq 20, 3) := by decide +kernel
theorem dL_oathOf_32 : decode cL_oathOf 32 = .ok (.aload_n 3, 1) := by decide +kernel
theorem dL_oathOf_33 : decode cL_oathOf 33 = .ok (.iload 5, 2) := by decide +kernel
theorem dL_oathOf_35 : decode cL_oathOf 35 = .ok (.iaload, 1) := by decide +kernel
theorem dL_oathOf_36 : decode cL_oathOf 36 = .ok (.sipush 255, 3) := by decide +kernel
theorem dL_oathOf_39 : decode cL_oathOf 39 = .ok (.iand, 1) := by decide +kernel
theorem dL_oathOf_40 : decode cL_oathOf 40 = .ok (.iload_n 1, 1) := by decide +kernel
theorem dL_oathOf_41 : decode cL_oathOf 41 = .ok (.bipush 16, 2) := by decide +kernel
theorem dL_oathOf_43 : decode cL_oathOf 43 = .ok (.iload_n 0, 1) := by decide +kernel
theorem dL_oathOf_44 : decode cL_oathOf 44 = .ok (.imul, 1) := by decide +kernel
theorem dL_oathOf_45 : decode cL_oathOf 45 = .ok (.iadd, 1) := by decide +kernel
theorem dL_oathOf_46 : decode cL_oathOf 46 = .ok (.if_icmp .ne 8, 3) := by decide +kernel
theorem dL_oathOf_49 : decode cL_oathOf 49 = .ok (.iload 5, 2) := by decide +kernel
theorem dL_oathOf_51 : decode cL_oathOf 51 = .ok (.goto 5, 3) := by decide +kernel
theorem dL_oathOf_54 : decode cL_oathOf 54 = .ok (.iload 4, 2) := by decide +kernel
theorem dL_oathOf_56 : decode cL_oathOf 56 = .ok (.istore 4, 2) := by decide +kernel
theorem dL_oathOf_58 : decode cL_oathOf 58 = .ok (.iinc 5 1, 3) := by decide +kernel
theorem dL_oathOf_61 : decode cL_oathOf 61 = .ok (.goto (-55), 3) := by decide +kernel
theorem dL_oathOf_64 : decode cL_oathOf 64 = .ok (.iload 4, 2) := by decide +kernel
theorem dL_oathOf_66 : decode cL_oathOf 66 = .ok (.ireturn, 1) := by decide +kernel
theorem dL_why_0 : decode cL_why 0 = .ok (.iload_n 0, 1) := by decide +kernel
theorem dL_why_1 : decode cL_why 1 = .ok (.iload_n 1, 1) := by decide +kernel
theorem dL_why_2 : decode cL_why 2 = .ok (.if_icmp .eq 14, 3) := by decide +kernel
theorem dL_why_5 : decode cL_why 5 = .ok (.iload_n 0, 1) := by decide +kernel
theorem dL_why_6 : decode cL_why 6 = .ok (.iload_n 1, 1) := by decide +kernel
theorem dL_why_7 : decode cL_why 7 = .ok (.aload_n 3, 1) := by decide +kernel
theorem dL_why_8 : decode cL_why 8 = .ok (.aload 7, 2) := by decide +kernel
theorem dL_why_10 : decode cL_why 10 = .ok (.invokestatic 116, 3) := by decide +kernel
theorem dL_why_13 : decode cL_why 13 = .ok (.ifCond .lt 14, 3) := by decide +kernel
theorem dL_why_16 : decode cL_why 16 = .ok (.iload_n 0, 1) := by decide +kernel
theorem dL_why_17 : decode cL_why 17 = .ok (.iload_n 1, 1) := by decide +kernel
theorem dL_why_18 : decode cL_why 18 = .ok (.if_icmp .ne 7, 3) := by decide +kernel
theorem dL_why_21 : decode cL_why 21 = .ok (.iconst 1, 1) := by decide +kernel
theorem dL_why_22 : decode cL_why 22 = .ok (.goto 4, 3) := by decide +kernel
theorem dL_why_25 : decode cL_why 25 = .ok (.iconst 2, 1) := by decide +kernel
theorem dL_why_26 : decode cL_why 26 = .ok (.ireturn, 1) := by decide +kernel
theorem dL_why_27 : decode cL_why 27 = .ok (.iload_n 2, 1) := by decide +kernel
theorem dL_why_28 : decode cL_why 28 = .ok (.ifCond .ne 28, 3) := by decide +kernel
theorem dL_why_31 : decode cL_why 31 = .ok (.iload_n 0, 1) := by decide +kernel
theorem dL_why_32 : decode cL_why 32 = .ok (.iconst (-1), 1) := by decide +kernel
theorem dL_why_33 : decode cL_why 33 = .ok (.iconst (-1), 1) := by decide +kernel
theorem dL_why_34 : decode cL_why 34 = .ok (.iconst (-1), 1) := by decide +kernel
theorem dL_why_35 : decode cL_why 35 = .ok (.aload_n 3, 1) := by decide +kernel
theorem dL_why_36 : decode cL_why 36 = .ok (.aload 7, 2) := by decide +kernel
theorem dL_why_38 : decode cL_why 38 = .ok (.invokestatic 119, 3) := by decide +kernel
theorem dL_why_41 : decode cL_why 41 = .ok (.iload_n 1, 1) := by decide +kernel
theorem dL_why_42 : decode cL_why 42 = .ok (.ishr, 1) := by decide +kernel
theorem dL_why_43 : decode cL_why 43 = .ok (.iconst 1, 1) := by decide +kernel
theorem dL_why_44 : decode cL_why 44 = .ok (.iand, 1) := by decide +kernel
theorem dL_why_45 : decode cL_why 45 = .ok (.iconst 1, 1) := by decide +kernel
theorem dL_why_46 : decode cL_why 46 = .ok (.if_icmp .ne 8, 3) := by decide +kernel
theorem dL_why_49 : decode cL_why 49 = .ok (.bipush 6, 2) := by decide +kernel
theorem dL_why_51 : decode cL_why 51 = .ok (.goto 4, 3) := by decide +kernel
theorem dL_why_54 : decode cL_why 54 = .ok (.iconst 0, 1) := by decide +kernel
theorem dL_why_55 : decode cL_why 55 = .ok (.ireturn, 1) := by decide +kernel
theorem dL_why_56 : decode cL_why 56 = .ok (.iload_n 0, 1) := by decide +kernel
theorem dL_why_57 : decode cL_why 57 = .ok (.aload_n 3, 1) := by decide +kernel
theorem dL_why_58 : decode cL_why 58 = .ok (.aload 5, 2) := by decide +kernel
theorem dL_why_60 : decode cL_why 60 = .ok (.aload 6, 2) := by decide +kernel
theorem dL_why_62 : decode cL_why 62 = .ok (.invokestatic 123, 3) := by decide +kernel
theorem dL_why_65 : decode cL_why 65 = .ok (.ifCond .ne 15, 3) := by decide +kernel
theorem dL_why_68 : decode cL_why 68 = .ok (.iload_n 1, 1) := by decide +kernel
theorem dL_why_69 : decode cL_why 69 = .ok (.aload_n 3, 1) := by decide +kernel
theorem dL_why_70 : decode cL_why 70 = .ok (.aload 5, 2) := by decide +kernel
theorem dL_why_72 : decode cL_why 72 = .ok (.aload 6, 2) := by decide +kernel
theorem dL_why_74 : decode cL_why 74 = .ok (.invokestatic 123, 3) := by decide +kernel
theorem dL_why_77 : decode cL_why 77 = .ok (.ifCond .eq 5, 3) := by decide +kernel
theorem dL_why_80 : decode cL_why 80 = .ok (.iconst 3, 1) := by decide +kernel
theorem dL_why_81 : decode cL_why 81 = .ok (.ireturn, 1) := by decide +kernel
theorem dL_why_82 : decode cL_why 82 = .ok (.iconst 0, 1) := by decide +kernel
theorem dL_why_83 : decode cL_why 83 = .ok (.istore 8, 2) := by decide +kernel
theorem dL_why_85 : decode cL_why 85 = .ok (.iload_n 0, 1) := by decide +kernel
theorem dL_why_86 : decode cL_why 86 = .ok (.iconst (-1), 1) := by decide +kernel
theorem dL_why_87 : decode cL_why 87 = .ok (.iload_n 0, 1) := by decide +kernel
theorem dL_why_88 : decode cL_why 88 = .ok (.iload_n 1, 1) := by decide +kernel
theorem dL_why_89 : decode cL_why 89 = .ok (.aload_n 3, 1) := by decide +kernel
theorem dL_why_90 : decode cL_why 90 = .ok (.aload 7, 2) := by decide +kernel
theorem dL_why_92 : decode cL_why 92 = .ok (.invokestatic 119, 3) := by decide +kernel
theorem dL_why_95 : decode cL_why 95 = .ok (.istore 9, 2) := by decide +kernel
theorem dL_why_97 : decode cL_why 97 = .ok (.iconst 0, 1) := by decide +kernel
theorem dL_why_98 : decode cL_why 98 = .ok (.istore 10, 2) := by decide +kernel
theorem dL_why_100 : decode cL_why 100 = .ok (.iload 10, 2) := by decide +kernel
theorem dL_why_102 : decode cL_why 102 = .ok (.aload_n 3, 1) := by decide +kernel
theorem dL_why_103 : decode cL_why 103 = .ok (.bipush 10, 2) := by decide +kernel
theorem dL_why_105 : decode cL_why 105 = .ok (.iaload, 1) := by decide +kernel
theorem dL_why_106 : decode cL_why 106 = .ok (.if_icmp .ge 63, 3) := by decide +kernel
theorem dL_why_109 : decode cL_why 109 = .ok (.iconst 1, 1) := by decide +kernel
theorem dL_why_110 : decode cL_why 110 = .ok (.aload 7, 2) := by decide +kernel
theorem dL_why_112 : decode cL_why 112 = .ok (.iload 10, 2) := by decide +kernel
theorem dL_why_114 : decode cL_why 114 = .ok (.iaload, 1) := by decide +kernel
theorem dL_why_115 : decode cL_why 115 = .ok (.bipush 15, 2) := by decide +kernel
theorem dL_why_117 : decode cL_why 117 = .ok (.iand, 1) := by decide +kernel
theorem dL_why_118 : decode cL_why 118 = .ok (.ishl, 1) := by decide +kernel
theorem dL_why_119 : decode cL_why 119 = .ok (.iconst 1, 1) := by decide +kernel
theorem dL_why_120 : decode cL_why 120 = .ok (.aload 7, 2) := by decide +kernel
theorem dL_why_122 : decode cL_why 122 = .ok (.iload 10, 2) := by decide +kernel
theorem dL_why_124 : decode cL_why 124 = .ok (.iaload, 1) := by decide +kernel
theorem dL_why_125 : decode cL_why 125 = .ok (.iconst 4, 1) := by decide +kernel
theorem dL_why_126 : decode cL_why 126 = .ok (.ishr, 1) := by decide +kernel
theorem dL_why_127 : decode cL_why 127 = .ok (.bipush 15, 2) := by decide +kernel
theorem dL_why_129 : decode cL_why 129 = .ok (.iand, 1) := by decide +kernel
theorem dL_why_130 : decode cL_why 130 = .ok (.ishl, 1) := by decide +kernel
theorem dL_why_131 : decode cL_why 131 = .ok (.ior, 1) := by decide +kernel
theorem dL_why_132 : decode cL_why 132 = .ok (.istore 11, 2) := by decide +kernel
theorem dL_why_134 : decode cL_why 134 = .ok (.aload 7, 2) := by decide +kernel
theorem dL_why_136 : decode cL_why 136 = .ok (.iload 10, 2) := by decide +kernel
theorem dL_why_138 : decode cL_why 138 = .ok (.iaload, 1) := by decide +kernel
theorem dL_why_139 : decode cL_why 139 = .ok (.bipush 8, 2) := by decide +kernel
theorem dL_why_141 : decode cL_why 141 = .ok (.ishr, 1) := by decide +kernel
theorem dL_why_142 : decode cL_why 142 = .ok (.ifCond .ne 17, 3) := by decide +kernel
theorem dL_why_145 : decode cL_why 145 = .ok (.iload 9, 2) := by decide +kernel
theorem dL_why_147 : decode cL_why 147 = .ok (.iload 11, 2) := by decide +kernel
theorem dL_why_149 : decode cL_why 149 = .ok (.iand, 1) := by decide +kernel
theorem dL_why_150 : decode cL_why 150 = .ok (.iload 11, 2) := by decide +kernel
theorem dL_why_152 : decode cL_why 152 = .ok (.if_icmp .ne 7, 3) := by decide +kernel
theorem dL_why_155 : decode cL_why 155 = .ok (.iconst 5, 1) := by decide +kernel
theorem dL_why_156 : decode cL_why 156 = .ok (.goto 5, 3) := by decide +kernel
theorem dL_why_159 : decode cL_why 159 = .ok (.iload 8, 2) := by decide +kernel
theorem dL_why_161 : decode cL_why 161 = .ok (.istore 8, 2) := by decide +kernel
theorem dL_why_163 : decode cL_why 163 = .ok (.iinc 10 1, 3) := by decide +kernel
theorem dL_why_166 : decode cL_why 166 = .ok (.goto (-66), 3) := by decide +kernel
theorem dL_why_169 : decode cL_why 169 = .ok (.iload_n 0, 1) := by decide +kernel
theorem dL_why_170 : decode cL_why 170 = .ok (.iload_n 1, 1) := by decide +kernel
theorem dL_why_171 : decode cL_why 171 = .ok (.iconst 0, 1) := by decide +kernel
theorem dL_why_172 : decode cL_why 172 = .ok (.aload_n 3, 1) := by decide +kernel
theorem dL_why_173 : decode cL_why 173 = .ok (.aload 4, 2) := by decide +kernel
theorem dL_why_175 : decode cL_why 175 = .ok (.aload 5, 2) := by decide +kernel
theorem dL_why_177 : decode cL_why 177 = .ok (.aload 6, 2) := by decide +kernel
theorem dL_why_179 : decode cL_why 179 = .ok (.invokestatic 127, 3) := by decide +kernel
theorem dL_why_182 : decode cL_why 182 = .ok (.invokestatic 131, 3) := by decide +kernel
theorem dL_why_185 : decode cL_why 185 = .ok (.aload_n 3, 1) := by decide +kernel
theorem dL_why_186 : decode cL_why 186 = .ok (.bipush 8, 2) := by decide +kernel
theorem dL_why_188 : decode cL_why 188 = .ok (.iaload, 1) := by decide +kernel
theorem dL_why_189 : decode cL_why 189 = .ok (.if_icmp .ge 7, 3) := by decide +kernel
theorem dL_why_192 : decode cL_why 192 = .ok (.iconst 4, 1) := by decide +kernel
theorem dL_why_193 : decode cL_why 193 = .ok (.goto 5, 3) := by decide +kernel
theorem dL_why_196 : decode cL_why 196 = .ok (.iload 8, 2) := by decide +kernel
theorem dL_why_198 : decode cL_why 198 = .ok (.ireturn, 1) := by decide +kernel
theorem dL_hands_0 : decode cL_hands 0 = .ok (.iconst 0, 1) := by decide +kernel
theorem dL_hands_1 : decode cL_hands 1 = .ok (.istore_n 2, 1) := by decide +kernel
theorem dL_hands_2 : decode cL_hands 2 = .ok (.iconst 0, 1) := by decide +kernel
theorem dL_hands_3 : decode cL_hands 3 = .ok (.istore_n 3, 1) := by decide +kernel
theorem dL_hands_4 : decode cL_hands 4 = .ok (.iload_n 3, 1) := by decide +kernel
theorem dL_hands_5 : decode cL_hands 5 = .ok (.aload_n 0, 1) := by decide +kernel
theorem dL_hands_6 : decode cL_hands 6 = .ok (.bipush 9, 2) := by decide +kernel
theorem dL_hands_8 : decode cL_hands 8 = .ok (.iaload, 1) := by decide +kernel
theorem dL_hands_9 : decode cL_hands 9 = .ok (.if_icmp .ge 40, 3) := by decide +kernel
theorem dL_hands_12 : decode cL_hands 12 = .ok (.iload_n 3, 1) := by decide +kernel
theorem dL_hands_13 : decode cL_hands 13 = .ok (.iconst (-1), 1) := by decide +kernel
theorem dL_hands_14 : decode cL_hands 14 = .ok (.iconst (-1), 1) := by decide +kernel
theorem dL_hands_15 : decode cL_hands 15 = .ok (.iconst (-1), 1) := by decide +kernel
theorem dL_hands_16 : decode cL_hands 16 = .ok (.aload_n 0, 1) := by decide +kernel
theorem dL_hands_17 : decode cL_hands 17 = .ok (.aload_n 1, 1) := by decide +kernel
theorem dL_hands_18 : decode cL_hands 18 = .ok (.invokestatic 119, 3) := by decide +kernel
theorem dL_hands_21 : decode cL_hands 21 = .ok (.istore 4, 2) := by decide +kernel
theorem dL_hands_23 : decode cL_hands 23 = .ok (.iload_n 2, 1) := by decide +kernel
theorem dL_hands_24 : decode cL_hands 24 = .ok (.iload 4, 2) := by decide +kernel
theorem dL_hands_26 : decode cL_hands 26 = .ok (.iload 4, 2) := by decide +kernel
theorem dL_hands_28 : decode cL_hands 28 = .ok (.ineg, 1) := by decide +kernel
theorem dL_hands_29 : decode cL_hands 29 = .ok (.iand, 1) := by decide +kernel
theorem dL_hands_30 : decode cL_hands 30 = .ok (.iconst 1, 1) := by decide +kernel
theorem dL_hands_31 : decode cL_hands 31 = .ok (.iload_n 3, 1) := by decide +kernel
theorem dL_hands_32 : decode cL_hands 32 = .ok (.ishl, 1) := by decide +kernel
theorem dL_hands_33 : decode cL_hands 33 = .ok (.if_icmp .ne 7, 3) := by decide +kernel
theorem dL_hands_36 : decode cL_hands 36 = .ok (.iconst 1, 1) := by decide +kernel
theorem dL_hands_37 : decode cL_hands 37 = .ok (.goto 4, 3) := by decide +kernel
theorem dL_hands_40 : decode cL_hands 40 = .ok (.iconst 0, 1) := by decide +kernel
theorem dL_hands_41 : decode cL_hands 41 = .ok (.iadd, 1) := by decide +kernel
theorem dL_hands_42 : decode cL_hands 42 = .ok (.istore_n 2, 1) := by decide +kernel
theorem dL_hands_43 : decode cL_hands 43 = .ok (.iinc 3 1, 3) := by decide +kernel
theorem dL_hands_46 : decode cL_hands 46 = .ok (.goto (-42), 3) := by decide +kernel
theorem dL_hands_49 : decode cL_hands 49 = .ok (.iload_n 2, 1) := by decide +kernel
theorem dL_hands_50 : decode cL_hands 50 = .ok (.ireturn, 1) := by decide +kernel
theorem dL_dropOath_0 : decode cL_dropOath 0 = .ok (.aload_n 1, 1) := by decide +kernel
theorem dL_dropOath_1 : decode cL_dropOath 1 = .ok (.bipush 10, 2) := by decide +kernel
theorem dL_dropOath_3 : decode cL_dropOath 3 = .ok (.dup2, 1) := by decide +kernel
theorem dL_dropOath_4 : decode cL_dropOath 4 = .ok (.iaload, 1) := by decide +kernel
theorem dL_dropOath_5 : decode cL_dropOath 5 = .ok (.iconst 1, 1) := by decide +kernel
theorem dL_dropOath_6 : decode cL_dropOath 6 = .ok (.isub, 1) := by decide +kernel
theorem dL_dropOath_7 : decode cL_dropOath 7 = .ok (.iastore, 1) := by decide +kernel
theorem dL_dropOath_8 : decode cL_dropOath 8 = .ok (.iload_n 0, 1) := by decide +kernel
theorem dL_dropOath_9 : decode cL_dropOath 9 = .ok (.istore_n 3, 1) := by decide +kernel
theorem dL_dropOath_10 : decode cL_dropOath 10 = .ok (.iload_n 3, 1) := by decide +kernel
theorem dL_dropOath_11 : decode cL_dropOath 11 = .ok (.aload_n 1, 1) := by decide +kernel
theorem dL_dropOath_12 : decode cL_dropOath 12 = .ok (.bipush 10, 2) := by decide +kernel
theorem dL_dropOath_14 : decode cL_dropOath 14 = .ok (.iaload, 1) := by decide +kernel
theorem dL_dropOath_15 : decode cL_dropOath 15 = .ok (.if_icmp .ge 17, 3) := by decide +kernel
theorem dL_dropOath_18 : decode cL_dropOath 18 = .ok (.aload_n 2, 1) := by decide +kernel
theorem dL_dropOath_19 : decode cL_dropOath 19 = .ok (.iload_n 3, 1) := by decide +kernel
theorem dL_dropOath_20 : decode cL_dropOath 20 = .ok (.aload_n 2, 1) := by decide +kernel
theorem dL_dropOath_21 : decode cL_dropOath 21 = .ok (.iload_n 3, 1) := by decide +kernel
theorem dL_dropOath_22 : decode cL_dropOath 22 = .ok (.iconst 1, 1) := by decide +kernel
theorem dL_dropOath_23 : decode cL_dropOath 23 = .ok (.iadd, 1) := by decide +kernel
theorem dL_dropOath_24 : decode cL_dropOath 24 = .ok (.iaload, 1) := by decide +kernel
theorem dL_dropOath_25 : decode cL_dropOath 25 = .ok (.iastore, 1) := by decide +kernel
theorem dL_dropOath_26 : decode cL_dropOath 26 = .ok (.iinc 3 1, 3) := by decide +kernel
theorem dL_dropOath_29 : decode cL_dropOath 29 = .ok (.goto (-19), 3) := by decide +kernel
theorem dL_dropOath_32 : decode cL_dropOath 32 = .ok (.return_, 1) := by decide +kernel
theorem dL_drops_0 : decode cL_drops 0 = .ok (.iconst 0, 1) := by decide +kernel
theorem dL_drops_1 : decode cL_drops 1 = .ok (.istore 6, 2) := by decide +kernel
theorem dL_drops_3 : decode cL_drops 3 = .ok (.aload_n 1, 1) := by decide +kernel
theorem dL_drops_4 : decode cL_drops 4 = .ok (.bipush 10, 2) := by decide +kernel
theorem dL_drops_6 : decode cL_drops 6 = .ok (.iaload, 1) := by decide +kernel
theorem dL_drops_7 : decode cL_drops 7 = .ok (.iconst 1, 1) := by decide +kernel
theorem dL_drops_8 : decode cL_drops 8 = .ok (.isub, 1) := by decide +kernel
theorem dL_drops_9 : decode cL_drops 9 = .ok (.istore 7, 2) := by decide +kernel
theorem dL_drops_11 : decode cL_drops 11 = .ok (.iload 7, 2) := by decide +kernel
theorem dL_drops_13 : decode cL_drops 13 = .ok (.ifCond .lt 89, 3) := by decide +kernel
theorem dL_drops_16 : decode cL_drops 16 = .ok (.aload 5, 2) := by decide +kernel
theorem dL_drops_18 : decode cL_drops 18 = .ok (.iload 7, 2) := by decide +kernel
theorem dL_drops_20 : decode cL_drops 20 = .ok (.iaload, 1) := by decide +kernel
theorem dL_drops_21 : decode cL_drops 21 = .ok (.bipush 15, 2) := by decide +kernel
theorem dL_drops_23 : decode cL_drops 23 = .ok (.iand, 1) := by decide +kernel
theorem dL_drops_24 : decode cL_drops 24 = .ok (.istore 8, 2) := by decide +kernel
theorem dL_drops_26 : decode cL_drops 26 = .ok (.aload 5, 2) := by decide +kernel
theorem dL_drops_28 : decode cL_drops 28 = .ok (.iload 7, 2) := by decide +kernel
theorem dL_drops_30 : decode cL_drops 30 = .ok (.iaload, 1) := by decide +kernel
theorem dL_drops_31 : decode cL_drops 31 = .ok (.iconst 4, 1) := by decide +kernel
theorem dL_drops_32 : decode cL_drops 32 = .ok (.ishr, 1) := by decide +kernel
theorem dL_drops_33 : decode cL_drops 33 = .ok (.bipush 15, 2) := by decide +kernel
theorem dL_drops_35 : decode cL_drops 35 = .ok (.iand, 1) := by decide +kernel
theorem dL_drops_36 : decode cL_drops 36 = .ok (.istore 9, 2) := by decide +kernel
theorem dL_drops_38 : decode cL_drops 38 = .ok (.iload 8, 2) := by decide +kernel
theorem dL_drops_40 : decode cL_drops 40 = .ok (.iload_n 0, 1) := by decide +kernel
theorem dL_drops_41 : decode cL_drops 41 = .ok (.if_icmp .eq 9, 3) := by decide +kernel
theorem dL_drops_44 : decode cL_drops 44 = .ok (.iload 9, 2) := by decide +kernel
theorem dL_drops_46 : decode cL_drops 46 = .ok (.iload_n 0, 1) := by decide +kernel
theorem dL_drops_47 : decode cL_drops 47 = .ok (.if_icmp .ne 17, 3) := by decide +kernel
theorem dL_drops_50 : decode cL_drops 50 = .ok (.iload 7, 2) := by decide +kernel
theorem dL_drops_52 : decode cL_drops 52 = .ok (.aload_n 1, 1) := by decide +kernel
theorem dL_drops_53 : decode cL_drops 53 = .ok (.aload 5, 2) := by decide +kernel
theorem dL_drops_55 : decode cL_drops 55 = .ok (.invokestatic 134, 3) := by decide +kernel
theorem dL_drops_58 : decode cL_drops 58 = .ok (.iinc 6 1, 3) := by decide +kernel
theorem dL_drops_61 : decode cL_drops 61 = .ok (.goto 35, 3) := by decide +kernel
theorem dL_drops_64 : decode cL_drops 64 = .ok (.aload 5, 2) := by decide +kernel
theorem dL_drops_66 : decode cL_drops 66 = .ok (.iload 7, 2) := by decide +kernel
theorem dL_drops_68 : decode cL_drops 68 = .ok (.dup2, 1) := by decide +kernel
theorem dL_drops_69 : decode cL_drops 69 = .ok (.iaload, 1) := by decide +kernel
theorem dL_drops_70 : decode cL_drops 70 = .ok (.iload 8, 2) := by decide +kernel
theorem dL_drops_72 : decode cL_drops 72 = .ok (.iload_n 0, 1) := by decide +kernel
theorem dL_drops_73 : decode cL_drops 73 = .ok (.if_icmp .le 7, 3) := by decide +kernel
theorem dL_drops_76 : decode cL_drops 76 = .ok (.iconst 1, 1) := by decide +kernel
theorem dL_drops_77 : decode cL_drops 77 = .ok (.goto 4, 3) := by decide +kernel
theorem dL_drops_80 : decode cL_drops 80 = .ok (.iconst 0, 1) := by decide +kernel
theorem dL_drops_81 : decode cL_drops 81 = .ok (.iload 9, 2) := by decide +kernel
theorem dL_drops_83 : decode cL_drops 83 = .ok (.iload_n 0, 1) := by decide +kernel
theorem dL_drops_84 : decode cL_drops 84 = .ok (.if_icmp .le 8, 3) := by decide +kernel
theorem dL_drops_87 : decode cL_drops 87 = .ok (.bipush 16, 2) := by decide +kernel
theorem dL_drops_89 : decode cL_drops 89 = .ok (.goto 4, 3) := by decide +kernel
theorem dL_drops_92 : decode cL_drops 92 = .ok (.iconst 0, 1) := by decide +kernel
theorem dL_drops_93 : decode cL_drops 93 = .ok (.iadd, 1) := by decide +kernel
theorem dL_drops_94 : decode cL_drops 94 = .ok (.isub, 1) := by decide +kernel
theorem dL_drops_95 : decode cL_drops 95 = .ok (.iastore, 1) := by decide +kernel
theorem dL_drops_96 : decode cL_drops 96 = .ok (.iinc 7 (-1), 3) := by decide +kernel
theorem dL_drops_99 : decode cL_drops 99 = .ok (.goto (-88), 3) := by decide +kernel
theorem dL_drops_102 : decode cL_drops 102 = .ok (.aload_n 1, 1) := by decide +kernel
theorem dL_drops_103 : decode cL_drops 103 = .ok (.bipush 9, 2) := by decide +kernel
theorem dL_drops_105 : decode cL_drops 105 = .ok (.dup2, 1) := by decide +kernel
theorem dL_drops_106 : decode cL_drops 106 = .ok (.iaload, 1) := by decide +kernel
theorem dL_drops_107 : decode cL_drops 107 = .ok (.iconst 1, 1) := by decide +kernel
theorem dL_drops_108 : decode cL_drops 108 = .ok (.isub, 1) := by decide +kernel
theorem dL_drops_109 : decode cL_drops 109 = .ok (.iastore, 1) := by decide +kernel
theorem dL_drops_110 : decode cL_drops 110 = .ok (.iload_n 0, 1) := by decide +kernel
theorem dL_drops_111 : decode cL_drops 111 = .ok (.istore 7, 2) := by decide +kernel
theorem dL_drops_113 : decode cL_drops 113 = .ok (.iload 7, 2) := by decide +kernel
theorem dL_drops_115 : decode cL_drops 115 = .ok (.aload_n 1, 1) := by decide +kernel
theorem dL_drops_116 : decode cL_drops 116 = .ok (.bipush 9, 2) := by decide +kernel
theorem dL_drops_118 : decode cL_drops 118 = .ok (.iaload, 1) := by decide +kernel
theorem dL_drops_119 : decode cL_drops 119 = .ok (.if_icmp .ge 70, 3) := by decide +kernel
theorem dL_drops_122 : decode cL_drops 122 = .ok (.aload_n 2, 1) := by decide +kernel
theorem dL_drops_123 : decode cL_drops 123 = .ok (.iload 7, 2) := by decide +kernel
theorem dL_drops_125 : decode cL_drops 125 = .ok (.aload_n 2, 1) := by decide +kernel
theorem dL_drops_126 : decode cL_drops 126 = .ok (.iload 7, 2) := by decide +kernel
theorem dL_drops_128 : decode cL_drops 128 = .ok (.iconst 1, 1) := by decide +kernel
theorem dL_drops_129 : decode cL_drops 129 = .ok (.iadd, 1) := by decide +kernel
theorem dL_drops_130 : decode cL_drops 130 = .ok (.iaload, 1) := by decide +kernel
theorem dL_drops_131 : decode cL_drops 131 = .ok (.iastore, 1) := by decide +kernel
theorem dL_drops_132 : decode cL_drops 132 = .ok (.aload_n 3, 1) := by decide +kernel
theorem dL_drops_133 : decode cL_drops 133 = .ok (.iload 7, 2) := by decide +kernel
theorem dL_drops_135 : decode cL_drops 135 = .ok (.aload_n 3, 1) := by decide +kernel
theorem dL_drops_136 : decode cL_drops 136 = .ok (.iload 7, 2) := by decide +kernel
theorem dL_drops_138 : decode cL_drops 138 = .ok (.iconst 1, 1) := by decide +kernel
theorem dL_drops_139 : decode cL_drops 139 = .ok (.iadd, 1) := by decide +kernel
theorem dL_drops_140 : decode cL_drops 140 = .ok (.iaload, 1) := by decide +kernel
theorem dL_drops_141 : decode cL_drops 141 = .ok (.iastore, 1) := by decide +kernel
theorem dL_drops_142 : decode cL_drops 142 = .ok (.iconst 0, 1) := by decide +kernel
theorem dL_drops_143 : decode cL_drops 143 = .ok (.istore 8, 2) := by decide +kernel
theorem dL_drops_145 : decode cL_drops 145 = .ok (.iload 8, 2) := by decide +kernel
theorem dL_drops_147 : decode cL_drops 147 = .ok (.bipush 8, 2) := by decide +kernel
theorem dL_drops_149 : decode cL_drops 149 = .ok (.if_icmp .ge 34, 3) := by decide +kernel
theorem dL_drops_152 : decode cL_drops 152 = .ok (.aload 4, 2) := by decide +kernel
theorem dL_drops_154 : decode cL_drops 154 = .ok (.bipush 8, 2) := by decide +kernel
theorem dL_drops_156 : decode cL_drops 156 = .ok (.iload 7, 2) := by decide +kernel
theorem dL_drops_158 : decode cL_drops 158 = .ok (.imul, 1) := by decide +kernel
theorem dL_drops_159 : decode cL_drops 159 = .ok (.iload 8, 2) := by decide +kernel
theorem dL_drops_161 : decode cL_drops 161 = .ok (.iadd, 1) := by decide +kernel
theorem dL_drops_162 : decode cL_drops 162 = .ok (.aload 4, 2) := by decide +kernel
theorem dL_drops_164 : decode cL_drops 164 = .ok (.bipush 8, 2) := by decide +kernel
theorem dL_drops_166 : decode cL_drops 166 = .ok (.iload 7, 2) := by decide +kernel
theorem dL_drops_168 : decode cL_drops 168 = .ok (.imul, 1) := by decide +kernel
theorem dL_drops_169 : decode cL_drops 169 = .ok (.bipush 8, 2) := by decide +kernel
theorem dL_drops_171 : decode cL_drops 171 = .ok (.iadd, 1) := by decide +kernel
theorem dL_drops_172 : decode cL_drops 172 = .ok (.iload 8, 2) := by decide +kernel
theorem dL_drops_174 : decode cL_drops 174 = .ok (.iadd, 1) := by decide +kernel
theorem dL_drops_175 : decode cL_drops 175 = .ok (.iaload, 1) := by decide +kernel
theorem dL_drops_176 : decode cL_drops 176 = .ok (.iastore, 1) := by decide +kernel
theorem dL_drops_177 : decode cL_drops 177 = .ok (.iinc 8 1, 3) := by decide +kernel
theorem dL_drops_180 : decode cL_drops 180 = .ok (.goto (-35), 3) := by decide +kernel
theorem dL_drops_183 : decode cL_drops 183 = .ok (.iinc 7 1, 3) := by decide +kernel
theorem dL_drops_186 : decode cL_drops 186 = .ok (.goto (-73), 3) := by decide +kernel
theorem dL_drops_189 : decode cL_drops 189 = .ok (.iload 6, 2) := by decide +kernel
theorem dL_drops_191 : decode cL_drops 191 = .ok (.ireturn, 1) := by decide +kernel
theorem dL_call_0 : decode cL_call 0 = .ok (.iload_n 1, 1) := by decide +kernel
theorem dL_call_1 : decode cL_call 1 = .ok (.tableswitch 81 0 5 #[39, 45, 53, 61, 68, 74], 39) := by decide +kernel
theorem dL_call_40 : decode cL_call 40 = .ok (.aload_n 0, 1) := by decide +kernel
theorem dL_call_41 : decode cL_call 41 = .ok (.iload_n 3, 1) := by decide +kernel
theorem dL_call_42 : decode cL_call 42 = .ok (.invokestatic 138, 3) := by decide +kernel
theorem dL_call_45 : decode cL_call 45 = .ok (.ireturn, 1) := by decide +kernel
theorem dL_call_46 : decode cL_call 46 = .ok (.aload_n 0, 1) := by decide +kernel
theorem dL_call_47 : decode cL_call 47 = .ok (.iload_n 2, 1) := by decide +kernel
theorem dL_call_48 : decode cL_call 48 = .ok (.iload_n 3, 1) := by decide +kernel
theorem dL_call_49 : decode cL_call 49 = .ok (.iconst 1, 1) := by decide +kernel
theorem dL_call_50 : decode cL_call 50 = .ok (.invokestatic 140, 3) := by decide +kernel
theorem dL_call_53 : decode cL_call 53 = .ok (.ireturn, 1) := by decide +kernel
theorem dL_call_54 : decode cL_call 54 = .ok (.aload_n 0, 1) := by decide +kernel
theorem dL_call_55 : decode cL_call 55 = .ok (.iload_n 2, 1) := by decide +kernel
theorem dL_call_56 : decode cL_call 56 = .ok (.iload_n 3, 1) := by decide +kernel
theorem dL_call_57 : decode cL_call 57 = .ok (.iconst 0, 1) := by decide +kernel
theorem dL_call_58 : decode cL_call 58 = .ok (.invokestatic 140, 3) := by decide +kernel
theorem dL_call_61 : decode cL_call 61 = .ok (.ireturn, 1) := by decide +kernel
theorem dL_call_62 : decode cL_call 62 = .ok (.aload_n 0, 1) := by decide +kernel
theorem dL_call_63 : decode cL_call 63 = .ok (.iload_n 2, 1) := by decide +kernel
theorem dL_call_64 : decode cL_call 64 = .ok (.iload_n 3, 1) := by decide +kernel
theorem dL_call_65 : decode cL_call 65 = .ok (.invokestatic 143, 3) := by decide +kernel
theorem dL_call_68 : decode cL_call 68 = .ok (.ireturn, 1) := by decide +kernel
theorem dL_call_69 : decode cL_call 69 = .ok (.aload_n 0, 1) := by decide +kernel
theorem dL_call_70 : decode cL_call 70 = .ok (.iload_n 3, 1) := by decide +kernel
theorem dL_call_71 : decode cL_call 71 = .ok (.invokestatic 146, 3) := by decide +kernel
theorem dL_call_74 : decode cL_call 74 = .ok (.ireturn, 1) := by decide +kernel
theorem dL_call_75 : decode cL_call 75 = .ok (.aload_n 0, 1) := by decide +kernel
theorem dL_call_76 : decode cL_call 76 = .ok (.iload_n 2, 1) := by decide +kernel
theorem dL_call_77 : decode cL_call 77 = .ok (.iload_n 3, 1) := by decide +kernel
theorem dL_call_78 : decode cL_call 78 = .ok (.invokestatic 148, 3) := by decide +kernel
theorem dL_call_81 : decode cL_call 81 = .ok (.ireturn, 1) := by decide +kernel
theorem dL_call_82 : decode cL_call 82 = .ok (.aload_n 0, 1) := by decide +kernel
theorem dL_call_83 : decode cL_call 83 = .ok (.iload_n 2, 1) := by decide +kernel
theorem dL_call_84 : decode cL_call 84 = .ok (.invokestatic 150, 3) := by decide +kernel
theorem dL_call_87 : decode cL_call 87 = .ok (.ireturn, 1) := by decide +kernel
theorem dL_due_0 : decode cL_due 0 = .ok (.iload_n 0, 1) := by decide +kernel
theorem dL_due_1 : decode cL_due 1 = .ok (.ifCond .ne 51, 3) := by decide +kernel
theorem dL_due_4 : decode cL_due 4 = .ok (.aload 4, 2) := by decide +kernel
theorem dL_due_6 : decode cL_due 6 = .ok (.bipush 9, 2) := by decide +kernel
theorem dL_due_8 : decode cL_due 8 = .ok (.iaload, 1) := by decide +kernel
theorem dL_due_9 : decode cL_due 9 = .ok (.bipush 8, 2) := by decide +kernel
theorem dL_due_11 : decode cL_due 11 = .ok (.if_icmp .ne 6, 3) := by decide +kernel
theorem dL_due_14 : decode cL_due 14 = .ok (.bipush (-103), 2) := by decide +kernel
theorem dL_due_16 : decode cL_due 16 = .ok (.ireturn, 1) := by decide +kernel
theorem dL_due_17 : decode cL_due 17 = .ok (.aload 5, 2) := by decide +kernel
theorem dL_due_19 : decode cL_due 19 = .ok (.aload 4, 2) := by decide +kernel
theorem dL_due_21 : decode cL_due 21 = .ok (.bipush 9, 2) := by decide +kernel
theorem dL_due_23 : decode cL_due 23 = .ok (.iaload, 1) := by decide +kernel
theorem dL_due_24 : decode cL_due 24 = .ok (.iload_n 2, 1) := by decide +kernel
theorem dL_due_25 : decode cL_due 25 = .ok (.iastore, 1) := by decide +kernel
theorem dL_due_26 : decode cL_due 26 = .ok (.aload 6, 2) := by decide +kernel
theorem dL_due_28 : decode cL_due 28 = .ok (.aload 4, 2) := by decide +kernel
theorem dL_due_30 : decode cL_due 30 = .ok (.bipush 9, 2) := by decide +kernel
theorem dL_due_32 : decode cL_due 32 = .ok (.iaload, 1) := by decide +kernel
theorem dL_due_33 : decode cL_due 33 = .ok (.iload_n 3, 1) := by decide +kernel
theorem dL_due_34 : decode cL_due 34 = .ok (.iastore, 1) := by decide +kernel
theorem dL_due_35 : decode cL_due 35 = .ok (.aload 4, 2) := by decide +kernel
theorem dL_due_37 : decode cL_due 37 = .ok (.bipush 9, 2) := by decide +kernel
theorem dL_due_39 : decode cL_due 39 = .ok (.dup2, 1) := by decide +kernel
theorem dL_due_40 : decode cL_due 40 = .ok (.iaload, 1) := by decide +kernel
theorem dL_due_41 : decode cL_due 41 = .ok (.iconst 1, 1) := by decide +kernel
theorem dL_due_42 : decode cL_due 42 = .ok (.iadd, 1) := by decide +kernel
theorem dL_due_43 : decode cL_due 43 = .ok (.iastore, 1) := by decide +kernel
theorem dL_due_44 : decode cL_due 44 = .ok (.aload 4, 2) := by decide +kernel
theorem dL_due_46 : decode cL_due 46 = .ok (.bipush 9, 2) := by decide +kernel
theorem dL_due_48 : decode cL_due 48 = .ok (.iaload, 1) := by decide +kernel
theorem dL_due_49 : decode cL_due 49 = .ok (.iconst 1, 1) := by decide +kernel
theorem dL_due_50 : decode cL_due 50 = .ok (.isub, 1) := by decide +kernel
theorem dL_due_51 : decode cL_due 51 = .ok (.ireturn, 1) := by decide +kernel
theorem dL_due_52 : decode cL_due 52 = .ok (.iload_n 0, 1) := by decide +kernel
theorem dL_due_53 : decode cL_due 53 = .ok (.iconst 4, 1) := by decide +kernel
theorem dL_due_54 : decode cL_due 54 = .ok (.if_icmp .ne 79, 3) := by decide +kernel
theorem dL_due_57 : decode cL_due 57 = .ok (.iconst (-1), 1) := by decide +kernel
theorem dL_due_58 : decode cL_due 58 = .ok (.istore 9, 2) := by decide +kernel
theorem dL_due_60 : decode cL_due 60 = .ok (.iconst 0, 1) := by decide +kernel
theorem dL_due_61 : decode cL_due 61 = .ok (.istore 10, 2) := by decide +kernel
theorem dL_due_63 : decode cL_due 63 = .ok (.iload 10, 2) := by decide +kernel
theorem dL_due_65 : decode cL_due 65 = .ok (.aload 4, 2) := by decide +kernel
theorem dL_due_67 : decode cL_due 67 = .ok (.bipush 9, 2) := by decide +kernel
theorem dL_due_69 : decode cL_due 69 = .ok (.iaload, 1) := by decide +kernel
theorem dL_due_70 : decode cL_due 70 = .ok (.if_icmp .ge 60, 3) := by decide +kernel
theorem dL_due_73 : decode cL_due 73 = .ok (.aload 5, 2) := by decide +kernel
theorem dL_due_75 : decode cL_due 75 = .ok (.iload 10, 2) := by decide +kernel
theorem dL_due_77 : decode cL_due 77 = .ok (.aload 5, 2) := by decide +kernel
theorem dL_due_79 : decode cL_due 79 = .ok (.iload 10, 2) := by decide +kernel
theorem dL_due_81 : decode cL_due 81 = .ok (.iaload, 1) := by decide +kernel
theorem dL_due_82 : decode cL_due 82 = .ok (.iload_n 2, 1) := by decide +kernel
theorem dL_due_83 : decode cL_due 83 = .ok (.iadd, 1) := by decide +kernel
theorem dL_due_84 : decode cL_due 84 = .ok (.bipush 99, 2) := by decide +kernel
theorem dL_due_86 : decode cL_due 86 = .ok (.if_icmp .le 8, 3) := by decide +kernel
theorem dL_due_89 : decode cL_due 89 = .ok (.bipush 99, 2) := by decide +kernel
theorem dL_due_91 : decode cL_due 91 = .ok (.goto 10, 3) := by decide +kernel
theorem dL_due_94 : decode cL_due 94 = .ok (.aload 5, 2) := by decide +kernel
theorem dL_due_96 : decode cL_due 96 = .ok (.iload 10, 2) := by decide +kernel
theorem dL_due_98 : decode cL_due 98 = .ok (.iaload, 1) := by decide +kernel
theorem dL_due_99 : decode cL_due 99 = .ok (.iload_n 2, 1) := by decide +kernel
theorem dL_due_100 : decode cL_due 100 = .ok (.iadd, 1) := by decide +kernel
theorem dL_due_101 : decode cL_due 101 = .ok (.iastore, 1) := by decide +kernel
theorem dL_due_102 : decode cL_due 102 = .ok (.aload 5, 2) := by decide +kernel
theorem dL_due_104 : decode cL_due 104 = .ok (.iload 10, 2) := by decide +kernel
theorem dL_due_106 : decode cL_due 106 = .ok (.iaload, 1) := by decide +kernel
theorem dL_due_107 : decode cL_due 107 = .ok (.iload 9, 2) := by decide +kernel
theorem dL_due_109 : decode cL_due 109 = .ok (.if_icmp .le 11, 3) := by decide +kernel
theorem dL_due_112 : decode cL_due 112 = .ok (.aload 5, 2) := by decide +kernel
theorem dL_due_114 : decode cL_due 114 = .ok (.iload 10, 2) := by decide +kernel
theorem dL_due_116 : decode cL_due 116 = .ok (.iaload, 1) := by decide +kernel
theorem dL_due_117 : decode cL_due 117 = .ok (.goto 5, 3) := by decide +kernel
theorem dL_due_120 : decode cL_due 120 = .ok (.iload 9, 2) := by decide +kernel
theorem dL_due_122 : decode cL_due 122 = .ok (.istore 9, 2) := by decide +kernel
theorem dL_due_124 : decode cL_due 124 = .ok (.iinc 10 1, 3) := by decide +kernel
theorem dL_due_127 : decode cL_due 127 = .ok (.goto (-64), 3) := by decide +kernel
theorem dL_due_130 : decode cL_due 130 = .ok (.iload 9, 2) := by decide +kernel
theorem dL_due_132 : decode cL_due 132 = .ok (.ireturn, 1) := by decide +kernel
theorem dL_due_133 : decode cL_due 133 = .ok (.iload_n 0, 1) := by decide +kernel
theorem dL_due_134 : decode cL_due 134 = .ok (.iconst 5, 1) := by decide +kernel
theorem dL_due_135 : decode cL_due 135 = .ok (.if_icmp .ne 17, 3) := by decide +kernel
theorem dL_due_138 : decode cL_due 138 = .ok (.aload 4, 2) := by decide +kernel
theorem dL_due_140 : decode cL_due 140 = .ok (.iload_n 1, 1) := by decide +kernel
theorem dL_due_141 : decode cL_due 141 = .ok (.iaload, 1) := by decide +kernel
theorem dL_due_142 : decode cL_due 142 = .ok (.istore 9, 2) := by decide +kernel
theorem dL_due_144 : decode cL_due 144 = .ok (.aload 4, 2) := by decide +kernel
theorem dL_due_146 : decode cL_due 146 = .ok (.iload_n 1, 1) := by decide +kernel
theorem dL_due_147 : decode cL_due 147 = .ok (.iload_n 2, 1) := by decide +kernel
theorem dL_due_148 : decode cL_due 148 = .ok (.iastore, 1) := by decide +kernel
theorem dL_due_149 : decode cL_due 149 = .ok (.iload 9, 2) := by decide +kernel
theorem dL_due_151 : decode cL_due 151 = .ok (.ireturn, 1) := by decide +kernel
theorem dL_due_152 : decode cL_due 152 = .ok (.iload_n 1, 1) := by decide +kernel
theorem dL_due_153 : decode cL_due 153 = .ok (.aload 4, 2) := by decide +kernel
theorem dL_due_155 : decode cL_due 155 = .ok (.bipush 9, 2) := by decide +kernel
theorem dL_due_157 : decode cL_due 157 = .ok (.iaload, 1) := by decide +kernel
theorem dL_due_158 : decode cL_due 158 = .ok (.if_icmp .ge 17, 3) := by decide +kernel
theorem dL_due_161 : decode cL_due 161 = .ok (.iload_n 0, 1) := by decide +kernel
theorem dL_due_162 : decode cL_due 162 = .ok (.iconst 4, 1) := by decide +kernel
theorem dL_due_163 : decode cL_due 163 = .ok (.if_icmp .ge 15, 3) := by decide +kernel
theorem dL_due_166 : decode cL_due 166 = .ok (.iload_n 2, 1) := by decide +kernel
theorem dL_due_167 : decode cL_due 167 = .ok (.aload 4, 2) := by decide +kernel
theorem dL_due_169 : decode cL_due 169 = .ok (.bipush 9, 2) := by decide +kernel
theorem dL_due_171 : decode cL_due 171 = .ok (.iaload, 1) := by decide +kernel
theorem dL_due_172 : decode cL_due 172 = .ok (.if_icmp .lt 6, 3) := by decide +kernel
theorem dL_due_175 : decode cL_due 175 = .ok (.bipush (-101), 2) := by decide +kernel
theorem dL_due_177 : decode cL_due 177 = .ok (.ireturn, 1) := by decide +kernel
theorem dL_due_178 : decode cL_due 178 = .ok (.iload_n 0, 1) := by decide +kernel
theorem dL_due_179 : decode cL_due 179 = .ok (.bipush 6, 2) := by decide +kernel
theorem dL_due_181 : decode cL_due 181 = .ok (.if_icmp .ne 18, 3) := by decide +kernel
theorem dL_due_184 : decode cL_due 184 = .ok (.iload_n 1, 1) := by decide +kernel
theorem dL_due_185 : decode cL_due 185 = .ok (.aload 4, 2) := by decide +kernel
theorem dL_due_187 : decode cL_due 187 = .ok (.aload 5, 2) := by decide +kernel
theorem dL_due_189 : decode cL_due 189 = .ok (.aload 6, 2) := by decide +kernel
theorem dL_due_191 : decode cL_due 191 = .ok (.aload 7, 2) := by decide +kernel
theorem dL_due_193 : decode cL_due 193 = .ok (.aload 8, 2) := by decide +kernel
theorem dL_due_195 : decode cL_due 195 = .ok (.invokestatic 152, 3) := by decide +kernel
theorem dL_due_198 : decode cL_due 198 = .ok (.ireturn, 1) := by decide +kernel
theorem dL_due_199 : decode cL_due 199 = .ok (.iload_n 0, 1) := by decide +kernel
theorem dL_due_200 : decode cL_due 200 = .ok (.iconst 3, 1) := by decide +kernel
theorem dL_due_201 : decode cL_due 201 = .ok (.if_icmp .ne 39, 3) := by decide +kernel
theorem dL_due_204 : decode cL_due 204 = .ok (.iload_n 1, 1) := by decide +kernel
theorem dL_due_205 : decode cL_due 205 = .ok (.iload_n 2, 1) := by decide +kernel
theorem dL_due_206 : decode cL_due 206 = .ok (.aload 4, 2) := by decide +kernel
theorem dL_due_208 : decode cL_due 208 = .ok (.aload 8, 2) := by decide +kernel
theorem dL_due_210 : decode cL_due 210 = .ok (.invokestatic 116, 3) := by decide +kernel
theorem dL_due_213 : decode cL_due 213 = .ok (.istore 9, 2) := by decide +kernel
theorem dL_due_215 : decode cL_due 215 = .ok (.iload 9, 2) := by decide +kernel
theorem dL_due_217 : decode cL_due 217 = .ok (.ifCond .lt 12, 3) := by decide +kernel
theorem dL_due_220 : decode cL_due 220 = .ok (.iload 9, 2) := by decide +kernel
theorem dL_due_222 : decode cL_due 222 = .ok (.aload 4, 2) := by decide +kernel
theorem dL_due_224 : decode cL_due 224 = .ok (.aload 8, 2) := by decide +kernel
theorem dL_due_226 : decode cL_due 226 = .ok (.invokestatic 134, 3) := by decide +kernel
theorem dL_due_229 : decode cL_due 229 = .ok (.iload 9, 2) := by decide +kernel
theorem dL_due_231 : decode cL_due 231 = .ok (.ifCond .lt 7, 3) := by decide +kernel
theorem dL_due_234 : decode cL_due 234 = .ok (.iconst 1, 1) := by decide +kernel
theorem dL_due_235 : decode cL_due 235 = .ok (.goto 4, 3) := by decide +kernel
theorem dL_due_238 : decode cL_due 238 = .ok (.iconst 0, 1) := by decide +kernel
theorem dL_due_239 : decode cL_due 239 = .ok (.ireturn, 1) := by decide +kernel
theorem dL_due_240 : decode cL_due 240 = .ok (.iload_n 1, 1) := by decide +kernel
theorem dL_due_241 : decode cL_due 241 = .ok (.iload_n 2, 1) := by decide +kernel
theorem dL_due_242 : decode cL_due 242 = .ok (.iload_n 0, 1) := by decide +kernel
theorem dL_due_243 : decode cL_due 243 = .ok (.iconst 1, 1) := by decide +kernel
theorem dL_due_244 : decode cL_due 244 = .ok (.if_icmp .ne 7, 3) := by decide +kernel
theorem dL_due_247 : decode cL_due 247 = .ok (.iconst 1, 1) := by decide +kernel
theorem dL_due_248 : decode cL_due 248 = .ok (.goto 4, 3) := by decide +kernel
theorem dL_due_251 : decode cL_due 251 = .ok (.iconst 0, 1) := by decide +kernel
theorem dL_due_252 : decode cL_due 252 = .ok (.aload 4, 2) := by decide +kernel
theorem dL_due_254 : decode cL_due 254 = .ok (.aload 5, 2) := by decide +kernel
theorem dL_due_256 : decode cL_due 256 = .ok (.aload 6, 2) := by decide +kernel
theorem dL_due_258 : decode cL_due 258 = .ok (.aload 7, 2) := by decide +kernel
theorem dL_due_260 : decode cL_due 260 = .ok (.aload 8, 2) := by decide +kernel
theorem dL_due_262 : decode cL_due 262 = .ok (.invokestatic 156, 3) := by decide +kernel
theorem dL_due_265 : decode cL_due 265 = .ok (.ifCond .le 6, 3) := by decide +kernel
theorem dL_due_268 : decode cL_due 268 = .ok (.bipush (-103), 2) := by decide +kernel
theorem dL_due_270 : decode cL_due 270 = .ok (.ireturn, 1) := by decide +kernel
theorem dL_due_271 : decode cL_due 271 = .ok (.aload 8, 2) := by decide +kernel
theorem dL_due_273 : decode cL_due 273 = .ok (.aload 4, 2) := by decide +kernel
theorem dL_due_275 : decode cL_due 275 = .ok (.bipush 10, 2) := by decide +kernel
theorem dL_due_277 : decode cL_due 277 = .ok (.iaload, 1) := by decide +kernel
theorem dL_due_278 : decode cL_due 278 = .ok (.iload_n 1, 1) := by decide +kernel
theorem dL_due_279 : decode cL_due 279 = .ok (.bipush 16, 2) := by decide +kernel
theorem dL_due_281 : decode cL_due 281 = .ok (.iload_n 2, 1) := by decide +kernel
theorem dL_due_282 : decode cL_due 282 = .ok (.imul, 1) := by decide +kernel
theorem dL_due_283 : decode cL_due 283 = .ok (.iadd, 1) := by decide +kernel
theorem dL_due_284 : decode cL_due 284 = .ok (.iload_n 0, 1) := by decide +kernel
theorem dL_due_285 : decode cL_due 285 = .ok (.iconst 1, 1) := by decide +kernel
theorem dL_due_286 : decode cL_due 286 = .ok (.if_icmp .ne 9, 3) := by decide +kernel
theorem dL_due_289 : decode cL_due 289 = .ok (.sipush 256, 3) := by decide +kernel
theorem dL_due_292 : decode cL_due 292 = .ok (.goto 4, 3) := by decide +kernel
theorem dL_due_295 : decode cL_due 295 = .ok (.iconst 0, 1) := by decide +kernel
theorem dL_due_296 : decode cL_due 296 = .ok (.iadd, 1) := by decide +kernel
theorem dL_due_297 : decode cL_due 297 = .ok (.iastore, 1) := by decide +kernel
theorem dL_due_298 : decode cL_due 298 = .ok (.aload 4, 2) := by decide +kernel
theorem dL_due_300 : decode cL_due 300 = .ok (.bipush 10, 2) := by decide +kernel
theorem dL_due_302 : decode cL_due 302 = .ok (.dup2, 1) := by decide +kernel
theorem dL_due_303 : decode cL_due 303 = .ok (.iaload, 1) := by decide +kernel
theorem dL_due_304 : decode cL_due 304 = .ok (.iconst 1, 1) := by decide +kernel
theorem dL_due_305 : decode cL_due 305 = .ok (.iadd, 1) := by decide +kernel
theorem dL_due_306 : decode cL_due 306 = .ok (.iastore, 1) := by decide +kernel
theorem dL_due_307 : decode cL_due 307 = .ok (.aload 4, 2) := by decide +kernel
theorem dL_due_309 : decode cL_due 309 = .ok (.bipush 11, 2) := by decide +kernel
theorem dL_due_311 : decode cL_due 311 = .ok (.dup2, 1) := by decide +kernel
theorem dL_due_312 : decode cL_due 312 = .ok (.iaload, 1) := by decide +kernel
theorem dL_due_313 : decode cL_due 313 = .ok (.iconst 1, 1) := by decide +kernel
theorem dL_due_314 : decode cL_due 314 = .ok (.iadd, 1) := by decide +kernel
theorem dL_due_315 : decode cL_due 315 = .ok (.iastore, 1) := by decide +kernel
theorem dL_due_316 : decode cL_due 316 = .ok (.aload 4, 2) := by decide +kernel
theorem dL_due_318 : decode cL_due 318 = .ok (.aload 8, 2) := by decide +kernel
theorem dL_due_320 : decode cL_due 320 = .ok (.invokestatic 160, 3) := by decide +kernel
theorem dL_due_323 : decode cL_due 323 = .ok (.ireturn, 1) := by decide +kernel
theorem dL_isSheet_0 : decode cL_isSheet 0 = .ok (.iconst 0, 1) := by decide +kernel
theorem dL_isSheet_1 : decode cL_isSheet 1 = .ok (.istore 9, 2) := by decide +kernel
theorem dL_isSheet_3 : decode cL_isSheet 3 = .ok (.iconst 0, 1) := by decide +kernel
theorem dL_isSheet_4 : decode cL_isSheet 4 = .ok (.istore 10, 2) := by decide +kernel
theorem dL_isSheet_6 : decode cL_isSheet 6 = .ok (.bipush 8, 2) := by decide +kernel
theorem dL_isSheet_8 : decode cL_isSheet 8 = .ok (.iload_n 1, 1) := by decide +kernel
theorem dL_isSheet_9 : decode cL_isSheet 9 = .ok (.imul, 1) := by decide +kernel
theorem dL_isSheet_10 : decode cL_isSheet 10 = .ok (.istore 11, 2) := by decide +kernel
theorem dL_isSheet_12 : decode cL_isSheet 12 = .ok (.iload 11, 2) := by decide +kernel
theorem dL_isSheet_14 : decode cL_isSheet 14 = .ok (.bipush 8, 2) := by decide +kernel
theorem dL_isSheet_16 : decode cL_isSheet 16 = .ok (.iload_n 1, 1) := by decide +kernel
theorem dL_isSheet_17 : decode cL_isSheet 17 = .ok (.imul, 1) := by decide +kernel
theorem dL_isSheet_18 : decode cL_isSheet 18 = .ok (.aload 6, 2) := by decide +kernel
theorem dL_isSheet_20 : decode cL_isSheet 20 = .ok (.iload_n 1, 1) := by decide +kernel
theorem dL_isSheet_21 : decode cL_isSheet 21 = .ok (.iaload, 1) := by decide +kernel
theorem dL_isSheet_22 : decode cL_isSheet 22 = .ok (.iadd, 1) := by decide +kernel
theorem dL_isSheet_23 : decode cL_isSheet 23 = .ok (.if_icmp .ge 22, 3) := by decide +kernel
theorem dL_isSheet_26 : decode cL_isSheet 26 = .ok (.iload 9, 2) := by decide +kernel
theorem dL_isSheet_28 : decode cL_isSheet 28 = .ok (.aload 7, 2) := by decide +kernel
theorem dL_isSheet_30 : decode cL_isSheet 30 = .ok (.iload 11, 2) := by decide +kernel
theorem dL_isSheet_32 : decode cL_isSheet 32 = .ok (.iaload, 1) := by decide +kernel
theorem dL_isSheet_33 : decode cL_isSheet 33 = .ok (.invokestatic 99, 3) := by decide +kernel
theorem dL_isSheet_36 : decode cL_isSheet 36 = .ok (.iadd, 1) := by decide +kernel
theorem dL_isSheet_37 : decode cL_isSheet 37 = .ok (.istore 9, 2) := by decide +kernel
theorem dL_isSheet_39 : decode cL_isSheet 39 = .ok (.iinc 11 1, 3) := by decide +kernel
theorem dL_isSheet_42 : decode cL_isSheet 42 = .ok (.goto (-30), 3) := by decide +kernel
theorem dL_isSheet_45 : decode cL_isSheet 45 = .ok (.iconst 0, 1) := by decide +kernel
theorem dL_isSheet_46 : decode cL_isSheet 46 = .ok (.istore 11, 2) := by decide +kernel
theorem dL_isSheet_48 : decode cL_isSheet 48 = .ok (.iload 11, 2) := by decide +kernel
theorem dL_isSheet_50 : decode cL_isSheet 50 = .ok (.aload 4, 2) := by decide +kernel
theorem dL_isSheet_52 : decode cL_isSheet 52 = .ok (.bipush 10, 2) := by decide +kernel
theorem dL_isSheet_54 : decode cL_isSheet 54 = .ok (.iaload, 1) := by decide +kernel
theorem dL_isSheet_55 : decode cL_isSheet 55 = .ok (.if_icmp .ge 45, 3) := by decide +kernel
theorem dL_isSheet_58 : decode cL_isSheet 58 = .ok (.iload 10, 2) := by decide +kernel
theorem dL_isSheet_60 : decode cL_isSheet 60 = .ok (.aload 8, 2) := by decide +kernel
theorem dL_isSheet_62 : decode cL_isSheet 62 = .ok (.iload 11, 2) := by decide +kernel
theorem dL_isSheet_64 : decode cL_isSheet 64 = .ok (.iaload, 1) := by decide +kernel
theorem dL_isSheet_65 : decode cL_isSheet 65 = .ok (.bipush 15, 2) := by decide +kernel
theorem dL_isSheet_67 : decode cL_isSheet 67 = .ok (.iand, 1) := by decide +kernel
theorem dL_isSheet_68 : decode cL_isSheet 68 = .ok (.iload_n 1, 1) := by decide +kernel
theorem dL_isSheet_69 : decode cL_isSheet 69 = .ok (.if_icmp .eq 17, 3) := by decide +kernel
theorem dL_isSheet_72 : decode cL_isSheet 72 = .ok (.aload 8, 2) := by decide +kernel
theorem dL_isSheet_74 : decode cL_isSheet 74 = .ok (.iload 11, 2) := by decide +kernel
theorem dL_isSheet_76 : decode cL_isSheet 76 = .ok (.iaload, 1) := by decide +kernel
theorem dL_isSheet_77 : decode cL_isSheet 77 = .ok (.iconst 4, 1) := by decide +kernel
theorem dL_isSheet_78 : decode cL_isSheet 78 = .ok (.ishr, 1) := by decide +kernel
theorem dL_isSheet_79 : decode cL_isSheet 79 = .ok (.bipush 15, 2) := by decide +kernel
theorem dL_isSheet_81 : decode cL_isSheet 81 = .ok (.iand, 1) := by decide +kernel
theorem dL_isSheet_82 : decode cL_isSheet 82 = .ok (.iload_n 1, 1) := by decide +kernel
theorem dL_isSheet_83 : decode cL_isSheet 83 = .ok (.if_icmp .ne 7, 3) := by decide +kernel
theorem dL_isSheet_86 : decode cL_isSheet 86 = .ok (.iconst 1, 1) := by decide +kernel
theorem dL_isSheet_87 : decode cL_isSheet 87 = .ok (.goto 4, 3) := by decide +kernel
theorem dL_isSheet_90 : decode cL_isSheet 90 = .ok (.iconst 0, 1) := by decide +kernel
theorem dL_isSheet_91 : decode cL_isSheet 91 = .ok (.iadd, 1) := by decide +kernel
theorem dL_isSheet_92 : decode cL_isSheet 92 = .ok (.istore 10, 2) := by decide +kernel
theorem dL_isSheet_94 : decode cL_isSheet 94 = .ok (.iinc 11 1, 3) := by decide +kernel
theorem dL_isSheet_97 : decode cL_isSheet 97 = .ok (.goto (-49), 3) := by decide +kernel
theorem dL_isSheet_100 : decode cL_isSheet 100 = .ok (.iload_n 1, 1) := by decide +kernel
theorem dL_isSheet_101 : decode cL_isSheet 101 = .ok (.iconst (-1), 1) := by decide +kernel
theorem dL_isSheet_102 : decode cL_isSheet 102 = .ok (.iconst (-1), 1) := by decide +kernel
theorem dL_isSheet_103 : decode cL_isSheet 103 = .ok (.iconst (-1), 1) := by decide +kernel
theorem dL_isSheet_104 : decode cL_isSheet 104 = .ok (.aload 4, 2) := by decide +kernel
theorem dL_isSheet_106 : decode cL_isSheet 106 = .ok (.aload 8, 2) := by decide +kernel
theorem dL_isSheet_108 : decode cL_isSheet 108 = .ok (.invokestatic 119, 3) := by decide +kernel
theorem dL_isSheet_111 : decode cL_isSheet 111 = .ok (.istore 11, 2) := by decide +kernel
theorem dL_isSheet_113 : decode cL_isSheet 113 = .ok (.iload_n 3, 1) := by decide +kernel
theorem dL_isSheet_114 : decode cL_isSheet 114 = .ok (.bipush 8, 2) := by decide +kernel
theorem dL_isSheet_116 : decode cL_isSheet 116 = .ok (.invokestatic 85, 3) := by decide +kernel
theorem dL_isSheet_119 : decode cL_isSheet 119 = .ok (.istore 12, 2) := by decide +kernel
theorem dL_isSheet_121 : decode cL_isSheet 121 = .ok (.aload 7, 2) := by decide +kernel
theorem dL_isSheet_123 : decode cL_isSheet 123 = .ok (.bipush 8, 2) := by decide +kernel
theorem dL_isSheet_125 : decode cL_isSheet 125 = .ok (.iload_n 1, 1) := by decide +kernel
theorem dL_isSheet_126 : decode cL_isSheet 126 = .ok (.imul, 1) := by decide +kernel
theorem dL_isSheet_127 : decode cL_isSheet 127 = .ok (.iload 12, 2) := by decide +kernel
theorem dL_isSheet_129 : decode cL_isSheet 129 = .ok (.iadd, 1) := by decide +kernel
theorem dL_isSheet_130 : decode cL_isSheet 130 = .ok (.iaload, 1) := by decide +kernel
theorem dL_isSheet_131 : decode cL_isSheet 131 = .ok (.istore 13, 2) := by decide +kernel
theorem dL_isSheet_133 : decode cL_isSheet 133 = .ok (.iload 12, 2) := by decide +kernel
theorem dL_isSheet_135 : decode cL_isSheet 135 = .ok (.aload 6, 2) := by decide +kernel
theorem dL_isSheet_137 : decode cL_isSheet 137 = .ok (.iload_n 1, 1) := by decide +kernel
theorem dL_isSheet_138 : decode cL_isSheet 138 = .ok (.iaload, 1) := by decide +kernel
theorem dL_isSheet_139 : decode cL_isSheet 139 = .ok (.if_icmp .ge 7, 3) := by decide +kernel
theorem dL_isSheet_142 : decode cL_isSheet 142 = .ok (.iconst 1, 1) := by decide +kernel
theorem dL_isSheet_143 : decode cL_isSheet 143 = .ok (.goto 4, 3) := by decide +kernel
theorem dL_isSheet_146 : decode cL_isSheet 146 = .ok (.iconst 0, 1) := by decide +kernel
theorem dL_isSheet_147 : decode cL_isSheet 147 = .ok (.istore 14, 2) := by decide +kernel
theorem dL_isSheet_149 : decode cL_isSheet 149 = .ok (.aload_n 0, 1) := by decide +kernel
theorem dL_isSheet_150 : decode cL_isSheet 150 = .ok (.iload_n 1, 1) := by decide +kernel
theorem dL_isSheet_151 : decode cL_isSheet 151 = .ok (.iconst 0, 1) := by decide +kernel
theorem dL_isSheet_152 : decode cL_isSheet 152 = .ok (.invokestatic 164, 3) := by decide +kernel
theorem dL_isSheet_155 : decode cL_isSheet 155 = .ok (.aload 6, 2) := by decide +kernel
theorem dL_isSheet_157 : decode cL_isSheet 157 = .ok (.iload_n 1, 1) := by decide +kernel
theorem dL_isSheet_158 : decode cL_isSheet 158 = .ok (.iaload, 1) := by decide +kernel
theorem dL_isSheet_159 : decode cL_isSheet 159 = .ok (.if_icmp .ne 113, 3) := by decide +kernel
theorem dL_isSheet_162 : decode cL_isSheet 162 = .ok (.aload_n 0, 1) := by decide +kernel
theorem dL_isSheet_163 : decode cL_isSheet 163 = .ok (.iload_n 1, 1) := by decide +kernel
theorem dL_isSheet_164 : decode cL_isSheet 164 = .ok (.iconst 1, 1) := by decide +kernel
theorem dL_isSheet_165 : decode cL_isSheet 165 = .ok (.invokestatic 164, 3) := by decide +kernel
theorem dL_isSheet_168 : decode cL_isSheet 168 = .ok (.aload 5, 2) := by decide +kernel
theorem dL_isSheet_170 : decode cL_isSheet 170 = .ok (.iload_n 1, 1) := by decide +kernel
theorem dL_isSheet_171 : decode cL_isSheet 171 = .ok (.iaload, 1) := by decide +kernel
theorem dL_isSheet_172 : decode cL_isSheet 172 = .ok (.if_icmp .ne 100, 3) := by decide +kernel
theorem dL_isSheet_175 : decode cL_isSheet 175 = .ok (.aload_n 0, 1) := by decide +kernel
theorem dL_isSheet_176 : decode cL_isSheet 176 = .ok (.iload_n 1, 1) := by decide +kernel
theorem dL_isSheet_177 : decode cL_isSheet 177 = .ok (.iconst 2, 1) := by decide +kernel
theorem dL_isSheet_178 : decode cL_isSheet 178 = .ok (.invokestatic 164, 3) := by decide +kernel
theorem dL_isSheet_181 : decode cL_isSheet 181 = .ok (.iload 9, 2) := by decide +kernel
theorem dL_isSheet_183 : decode cL_isSheet 183 = .ok (.if_icmp .ne 89, 3) := by decide +kernel
theorem dL_isSheet_186 : decode cL_isSheet 186 = .ok (.aload_n 0, 1) := by decide +kernel
theorem dL_isSheet_187 : decode cL_isSheet 187 = .ok (.iload_n 1, 1) := by decide +kernel
theorem dL_isSheet_188 : decode cL_isSheet 188 = .ok (.iconst 3, 1) := by decide +kernel
theorem dL_isSheet_189 : decode cL_isSheet 189 = .ok (.invokestatic 164, 3) := by decide +kernel
theorem dL_isSheet_192 : decode cL_isSheet 192 = .ok (.iload_n 1, 1) := by decide +kernel
theorem dL_isSheet_193 : decode cL_isSheet 193 = .ok (.aload 4, 2) := by decide +kernel
theorem dL_isSheet_195 : decode cL_isSheet 195 = .ok (.aload 6, 2) := by decide +kernel
theorem dL_isSheet_197 : decode cL_isSheet 197 = .ok (.aload 7, 2) := by decide +kernel
theorem dL_isSheet_199 : decode cL_isSheet 199 = .ok (.invokestatic 123, 3) := by decide +kernel
theorem dL_isSheet_202 : decode cL_isSheet 202 = .ok (.ifCond .eq 7, 3) := by decide +kernel
theorem dL_isSheet_205 : decode cL_isSheet 205 = .ok (.iconst 1, 1) := by decide +kernel
theorem dL_isSheet_206 : decode cL_isSheet 206 = .ok (.goto 4, 3) := by decide +kernel
theorem dL_isSheet_209 : decode cL_isSheet 209 = .ok (.iconst 0, 1) := by decide +kernel
theorem dL_isSheet_210 : decode cL_isSheet 210 = .ok (.if_icmp .ne 62, 3) := by decide +kernel
theorem dL_isSheet_213 : decode cL_isSheet 213 = .ok (.iconst 1, 1) := by decide +kernel
theorem dL_isSheet_214 : decode cL_isSheet 214 = .ok (.aload_n 0, 1) := by decide +kernel
theorem dL_isSheet_215 : decode cL_isSheet 215 = .ok (.iload_n 1, 1) := by decide +kernel
theorem dL_isSheet_216 : decode cL_isSheet 216 = .ok (.iconst 4, 1) := by decide +kernel
theorem dL_isSheet_217 : decode cL_isSheet 217 = .ok (.invokestatic 164, 3) := by decide +kernel
theorem dL_isSheet_220 : decode cL_isSheet 220 = .ok (.ishl, 1) := by decide +kernel
theorem dL_isSheet_221 : decode cL_isSheet 221 = .ok (.iload 11, 2) := by decide +kernel
theorem dL_isSheet_223 : decode cL_isSheet 223 = .ok (.iload 11, 2) := by decide +kernel
theorem dL_isSheet_225 : decode cL_isSheet 225 = .ok (.ineg, 1) := by decide +kernel
theorem dL_isSheet_226 : decode cL_isSheet 226 = .ok (.iand, 1) := by decide +kernel
theorem dL_isSheet_227 : decode cL_isSheet 227 = .ok (.if_icmp .ne 45, 3) := by decide +kernel
theorem dL_isSheet_230 : decode cL_isSheet 230 = .ok (.aload_n 0, 1) := by decide +kernel
theorem dL_isSheet_231 : decode cL_isSheet 231 = .ok (.iload_n 1, 1) := by decide +kernel
theorem dL_isSheet_232 : decode cL_isSheet 232 = .ok (.iconst 5, 1) := by decide +kernel
theorem dL_isSheet_233 : decode cL_isSheet 233 = .ok (.invokestatic 164, 3) := by decide +kernel
theorem dL_isSheet_236 : decode cL_isSheet 236 = .ok (.iload 10, 2) := by decide +kernel
theorem dL_isSheet_238 : decode cL_isSheet 238 = .ok (.if_icmp .ne 34, 3) := by decide +kernel
theorem dL_isSheet_241 : decode cL_isSheet 241 = .ok (.aload_n 0, 1) := by decide +kernel
theorem dL_isSheet_242 : decode cL_isSheet 242 = .ok (.iload_n 1, 1) := by decide +kernel
theorem dL_isSheet_243 : decode cL_isSheet 243 = .ok (.bipush 6, 2) := by decide +kernel
theorem dL_isSheet_245 : decode cL_isSheet 245 = .ok (.invokestatic 164, 3) := by decide +kernel
theorem dL_isSheet_248 : decode cL_isSheet 248 = .ok (.aload 5, 2) := by decide +kernel
theorem dL_isSheet_250 : decode cL_isSheet 250 = .ok (.iload_n 1, 1) := by decide +kernel
theorem dL_isSheet_251 : decode cL_isSheet 251 = .ok (.iaload, 1) := by decide +kernel
theorem dL_isSheet_252 : decode cL_isSheet 252 = .ok (.aload 4, 2) := by decide +kernel
theorem dL_isSheet_254 : decode cL_isSheet 254 = .ok (.bipush 6, 2) := by decide +kernel
theorem dL_isSheet_256 : decode cL_isSheet 256 = .ok (.iaload, 1) := by decide +kernel
theorem dL_isSheet_257 : decode cL_isSheet 257 = .ok (.if_icmp .lt 7, 3) := by decide +kernel
theorem dL_isSheet_260 : decode cL_isSheet 260 = .ok (.iconst 1, 1) := by decide +kernel
theorem dL_isSheet_261 : decode cL_isSheet 261 = .ok (.goto 4, 3) := by decide +kernel
theorem dL_isSheet_264 : decode cL_isSheet 264 = .ok (.iconst 0, 1) := by decide +kernel
theorem dL_isSheet_265 : decode cL_isSheet 265 = .ok (.if_icmp .ne 7, 3) := by decide +kernel
theorem dL_isSheet_268 : decode cL_isSheet 268 = .ok (.iconst 1, 1) := by decide +kernel
theorem dL_isSheet_269 : decode cL_isSheet 269 = .ok (.goto 4, 3) := by decide +kernel
theorem dL_isSheet_272 : decode cL_isSheet 272 = .ok (.iconst 0, 1) := by decide +kernel
theorem dL_isSheet_273 : decode cL_isSheet 273 = .ok (.istore 15, 2) := by decide +kernel
theorem dL_isSheet_275 : decode cL_isSheet 275 = .ok (.iload 15, 2) := by decide +kernel
theorem dL_isSheet_277 : decode cL_isSheet 277 = .ok (.ifCond .eq 135, 3) := by decide +kernel
theorem dL_isSheet_280 : decode cL_isSheet 280 = .ok (.aload_n 0, 1) := by decide +kernel
theorem dL_isSheet_281 : decode cL_isSheet 281 = .ok (.iload_n 1, 1) := by decide +kernel
theorem dL_isSheet_282 : decode cL_isSheet 282 = .ok (.iload 12, 2) := by decide +kernel
theorem dL_isSheet_284 : decode cL_isSheet 284 = .ok (.iconst 0, 1) := by decide +kernel
theorem dL_isSheet_285 : decode cL_isSheet 285 = .ok (.invokestatic 166, 3) := by decide +kernel
theorem dL_isSheet_288 : decode cL_isSheet 288 = .ok (.iload 14, 2) := by decide +kernel
theorem dL_isSheet_290 : decode cL_isSheet 290 = .ok (.ifCond .eq 14, 3) := by decide +kernel
theorem dL_isSheet_293 : decode cL_isSheet 293 = .ok (.iload 13, 2) := by decide +kernel
theorem dL_isSheet_295 : decode cL_isSheet 295 = .ok (.invokestatic 93, 3) := by decide +kernel
theorem dL_isSheet_298 : decode cL_isSheet 298 = .ok (.bipush 100, 2) := by decide +kernel
theorem dL_isSheet_300 : decode cL_isSheet 300 = .ok (.iadd, 1) := by decide +kernel
theorem dL_isSheet_301 : decode cL_isSheet 301 = .ok (.goto 4, 3) := by decide +kernel
theorem dL_isSheet_304 : decode cL_isSheet 304 = .ok (.iconst (-1), 1) := by decide +kernel
theorem dL_isSheet_305 : decode cL_isSheet 305 = .ok (.if_icmp .ne 107, 3) := by decide +kernel
theorem dL_isSheet_308 : decode cL_isSheet 308 = .ok (.aload_n 0, 1) := by decide +kernel
theorem dL_isSheet_309 : decode cL_isSheet 309 = .ok (.iload_n 1, 1) := by decide +kernel
theorem dL_isSheet_310 : decode cL_isSheet 310 = .ok (.iload 12, 2) := by decide +kernel
theorem dL_isSheet_312 : decode cL_isSheet 312 = .ok (.iconst 1, 1) := by decide +kernel
theorem dL_isSheet_313 : decode cL_isSheet 313 = .ok (.invokestatic 166, 3) := by decide +kernel
theorem dL_isSheet_316 : decode cL_isSheet 316 = .ok (.iload 14, 2) := by decide +kernel
theorem dL_isSheet_318 : decode cL_isSheet 318 = .ok (.ifCond .eq 11, 3) := by decide +kernel
theorem dL_isSheet_321 : decode cL_isSheet 321 = .ok (.iload 13, 2) := by decide +kernel
theorem dL_isSheet_323 : decode cL_isSheet 323 = .ok (.invokestatic 96, 3) := by decide +kernel
theorem dL_isSheet_326 : decode cL_isSheet 326 = .ok (.goto 4, 3) := by decide +kernel
theorem dL_isSheet_329 : decode cL_isSheet 329 = .ok (.iconst (-1), 1) := by decide +kernel
theorem dL_isSheet_330 : decode cL_isSheet 330 = .ok (.if_icmp .ne 82, 3) := by decide +kernel
theorem dL_isSheet_333 : decode cL_isSheet 333 = .ok (.aload_n 0, 1) := by decide +kernel
theorem dL_isSheet_334 : decode cL_isSheet 334 = .ok (.iload_n 1, 1) := by decide +kernel
theorem dL_isSheet_335 : decode cL_isSheet 335 = .ok (.iload 12, 2) := by decide +kernel
theorem dL_isSheet_337 : decode cL_isSheet 337 = .ok (.iconst 2, 1) := by decide +kernel
theorem dL_isSheet_338 : decode cL_isSheet 338 = .ok (.invokestatic 166, 3) := by decide +kernel
theorem dL_isSheet_341 : decode cL_isSheet 341 = .ok (.iload 14, 2) := by decide +kernel
theorem dL_isSheet_343 : decode cL_isSheet 343 = .ok (.ifCond .eq 11, 3) := by decide +kernel
theorem dL_isSheet_346 : decode cL_isSheet 346 = .ok (.iload 13, 2) := by decide +kernel
theorem dL_isSheet_348 : decode cL_isSheet 348 = .ok (.invokestatic 99, 3) := by decide +kernel
theorem dL_isSheet_351 : decode cL_isSheet 351 = .ok (.goto 4, 3) := by decide +kernel
theorem dL_isSheet_354 : decode cL_isSheet 354 = .ok (.iconst (-1), 1) := by decide +kernel
theorem dL_isSheet_355 : decode cL_isSheet 355 = .ok (.if_icmp .ne 57, 3) := by decide +kernel
theorem dL_isSheet_358 : decode cL_isSheet 358 = .ok (.aload_n 0, 1) := by decide +kernel
theorem dL_isSheet_359 : decode cL_isSheet 359 = .ok (.iload_n 1, 1) := by decide +kernel
theorem dL_isSheet_360 : decode cL_isSheet 360 = .ok (.iload 12, 2) := by decide +kernel
theorem dL_isSheet_362 : decode cL_isSheet 362 = .ok (.iconst 3, 1) := by decide +kernel
theorem dL_isSheet_363 : decode cL_isSheet 363 = .ok (.invokestatic 166, 3) := by decide +kernel
theorem dL_isSheet_366 : decode cL_isSheet 366 = .ok (.iload 14, 2) := by decide +kernel
theorem dL_isSheet_368 : decode cL_isSheet 368 = .ok (.ifCond .eq 11, 3) := by decide +kernel
theorem dL_isSheet_371 : decode cL_isSheet 371 = .ok (.iload 13, 2) := by decide +kernel
theorem dL_isSheet_373 : decode cL_isSheet 373 = .ok (.invokestatic 102, 3) := by decide +kernel
theorem dL_isSheet_376 : decode cL_isSheet 376 = .ok (.goto 4, 3) := by decide +kernel
theorem dL_isSheet_379 : decode cL_isSheet 379 = .ok (.iconst (-1), 1) := by decide +kernel
theorem dL_isSheet_380 : decode cL_isSheet 380 = .ok (.if_icmp .ne 32, 3) := by decide +kernel
theorem dL_isSheet_383 : decode cL_isSheet 383 = .ok (.aload_n 0, 1) := by decide +kernel
theorem dL_isSheet_384 : decode cL_isSheet 384 = .ok (.iload_n 1, 1) := by decide +kernel
theorem dL_isSheet_385 : decode cL_isSheet 385 = .ok (.iload 12, 2) := by decide +kernel
theorem dL_isSheet_387 : decode cL_isSheet 387 = .ok (.iconst 4, 1) := by decide +kernel
theorem dL_isSheet_388 : decode cL_isSheet 388 = .ok (.invokestatic 166, 3) := by decide +kernel
theorem dL_isSheet_391 : decode cL_isSheet 391 = .ok (.iload 14, 2) := by decide +kernel
theorem dL_isSheet_393 : decode cL_isSheet 393 = .ok (.ifCond .eq 11, 3) := by decide +kernel
theorem dL_isSheet_396 : decode cL_isSheet 396 = .ok (.iload 13, 2) := by decide +kernel
theorem dL_isSheet_398 : decode cL_isSheet 398 = .ok (.bipush 18, 2) := by decide +kernel
theorem dL_isSheet_400 : decode cL_isSheet 400 = .ok (.ishr, 1) := by decide +kernel
theorem dL_isSheet_401 : decode cL_isSheet 401 = .ok (.goto 4, 3) := by decide +kernel
theorem dL_isSheet_404 : decode cL_isSheet 404 = .ok (.iconst (-1), 1) := by decide +kernel
theorem dL_isSheet_405 : decode cL_isSheet 405 = .ok (.if_icmp .ne 7, 3) := by decide +kernel
theorem dL_isSheet_408 : decode cL_isSheet 408 = .ok (.iconst 1, 1) := by decide +kernel
theorem dL_isSheet_409 : decode cL_isSheet 409 = .ok (.goto 4, 3) := by decide +kernel
theorem dL_isSheet_412 : decode cL_isSheet 412 = .ok (.iconst 0, 1) := by decide +kernel
theorem dL_isSheet_413 : decode cL_isSheet 413 = .ok (.istore 15, 2) := by decide +kernel
theorem dL_isSheet_415 : decode cL_isSheet 415 = .ok (.iconst (-1), 1) := by decide +kernel
theorem dL_isSheet_416 : decode cL_isSheet 416 = .ok (.istore 16, 2) := by decide +kernel
theorem dL_isSheet_418 : decode cL_isSheet 418 = .ok (.aload 4, 2) := by decide +kernel
theorem dL_isSheet_420 : decode cL_isSheet 420 = .ok (.bipush 9, 2) := by decide +kernel
theorem dL_isSheet_422 : decode cL_isSheet 422 = .ok (.iaload, 1) := by decide +kernel
theorem dL_isSheet_423 : decode cL_isSheet 423 = .ok (.iconst 1, 1) := by decide +kernel
theorem dL_isSheet_424 : decode cL_isSheet 424 = .ok (.isub, 1) := by decide +kernel
theorem dL_isSheet_425 : decode cL_isSheet 425 = .ok (.istore 17, 2) := by decide +kernel
theorem dL_isSheet_427 : decode cL_isSheet 427 = .ok (.iload 17, 2) := by decide +kernel
theorem dL_isSheet_429 : decode cL_isSheet 429 = .ok (.ifCond .lt 80, 3) := by decide +kernel
theorem dL_isSheet_432 : decode cL_isSheet 432 = .ok (.iload 17, 2) := by decide +kernel
theorem dL_isSheet_434 : decode cL_isSheet 434 = .ok (.iload_n 1, 1) := by decide +kernel
theorem dL_isSheet_435 : decode cL_isSheet 435 = .ok (.if_icmp .eq 51, 3) := by decide +kernel
theorem dL_isSheet_438 : decode cL_isSheet 438 = .ok (.iload 16, 2) := by decide +kernel
theorem dL_isSheet_440 : decode cL_isSheet 440 = .ok (.ifCond .lt 42, 3) := by decide +kernel
theorem dL_isSheet_443 : decode cL_isSheet 443 = .ok (.iload_n 1, 1) := by decide +kernel
theorem dL_isSheet_444 : decode cL_isSheet 444 = .ok (.iload 17, 2) := by decide +kernel
theorem dL_isSheet_446 : decode cL_isSheet 446 = .ok (.iconst 0, 1) := by decide +kernel
theorem dL_isSheet_447 : decode cL_isSheet 447 = .ok (.aload 4, 2) := by decide +kernel
theorem dL_isSheet_449 : decode cL_isSheet 449 = .ok (.aload 5, 2) := by decide +kernel
theorem dL_isSheet_451 : decode cL_isSheet 451 = .ok (.aload 6, 2) := by decide +kernel
theorem dL_isSheet_453 : decode cL_isSheet 453 = .ok (.aload 7, 2) := by decide +kernel
theorem dL_isSheet_455 : decode cL_isSheet 455 = .ok (.invokestatic 127, 3) := by decide +kernel
theorem dL_isSheet_458 : decode cL_isSheet 458 = .ok (.invokestatic 131, 3) := by decide +kernel
theorem dL_isSheet_461 : decode cL_isSheet 461 = .ok (.iload_n 1, 1) := by decide +kernel
theorem dL_isSheet_462 : decode cL_isSheet 462 = .ok (.iload 16, 2) := by decide +kernel
theorem dL_isSheet_464 : decode cL_isSheet 464 = .ok (.iconst 0, 1) := by decide +kernel
theorem dL_isSheet_465 : decode cL_isSheet 465 = .ok (.aload 4, 2) := by decide +kernel
theorem dL_isSheet_467 : decode cL_isSheet 467 = .ok (.aload 5, 2) := by decide +kernel
theorem dL_isSheet_469 : decode cL_isSheet 469 = .ok (.aload 6, 2) := by decide +kernel
theorem dL_isSheet_471 : decode cL_isSheet 471 = .ok (.aload 7, 2) := by decide +kernel
theorem dL_isSheet_473 : decode cL_isSheet 473 = .ok (.invokestatic 127, 3) := by decide +kernel
theorem dL_isSheet_476 : decode cL_isSheet 476 = .ok (.invokestatic 131, 3) := by decide +kernel
theorem dL_isSheet_479 : decode cL_isSheet 479 = .ok (.if_icmp .lt 7, 3) := by decide +kernel
theorem dL_isSheet_482 : decode cL_isSheet 482 = .ok (.iconst 1, 1) := by decide +kernel
theorem dL_isSheet_483 : decode cL_isSheet 483 = .ok (.goto 4, 3) := by decide +kernel
theorem dL_isSheet_486 : decode cL_isSheet 486 = .ok (.iconst 0, 1) := by decide +kernel
theorem dL_isSheet_487 : decode cL_isSheet 487 = .ok (.istore 18, 2) := by decide +kernel
theorem dL_isSheet_489 : decode cL_isSheet 489 = .ok (.iload 18, 2) := by decide +kernel
theorem dL_isSheet_491 : decode cL_isSheet 491 = .ok (.ifCond .eq 8, 3) := by decide +kernel
theorem dL_isSheet_494 : decode cL_isSheet 494 = .ok (.iload 17, 2) := by decide +kernel
theorem dL_isSheet_496 : decode cL_isSheet 496 = .ok (.goto 5, 3) := by decide +kernel
theorem dL_isSheet_499 : decode cL_isSheet 499 = .ok (.iload 16, 2) := by decide +kernel
theorem dL_isSheet_501 : decode cL_isSheet 501 = .ok (.istore 16, 2) := by decide +kernel
theorem dL_isSheet_503 : decode cL_isSheet 503 = .ok (.iinc 17 (-1), 3) := by decide +kernel
theorem dL_isSheet_506 : decode cL_isSheet 506 = .ok (.goto (-79), 3) := by decide +kernel
theorem dL_isSheet_509 : decode cL_isSheet 509 = .ok (.iconst 1, 1) := by decide +kernel
theorem dL_isSheet_510 : decode cL_isSheet 510 = .ok (.iload_n 3, 1) := by decide +kernel
theorem dL_isSheet_511 : decode cL_isSheet 511 = .ok (.iconst 4, 1) := by decide +kernel
theorem dL_isSheet_512 : decode cL_isSheet 512 = .ok (.ishr, 1) := by decide +kernel
theorem dL_isSheet_513 : decode cL_isSheet 513 = .ok (.bipush 99, 2) := by decide +kernel
theorem dL_isSheet_515 : decode cL_isSheet 515 = .ok (.invokestatic 85, 3) := by decide +kernel
theorem dL_isSheet_518 : decode cL_isSheet 518 = .ok (.iadd, 1) := by decide +kernel
theorem dL_isSheet_519 : decode cL_isSheet 519 = .ok (.istore 17, 2) := by decide +kernel
theorem dL_isSheet_521 : decode cL_isSheet 521 = .ok (.iload_n 1, 1) := by decide +kernel
theorem dL_isSheet_522 : decode cL_isSheet 522 = .ok (.iload_n 2, 1) := by decide +kernel
theorem dL_isSheet_523 : decode cL_isSheet 523 = .ok (.aload 4, 2) := by decide +kernel
theorem dL_isSheet_525 : decode cL_isSheet 525 = .ok (.aload 8, 2) := by decide +kernel
theorem dL_isSheet_527 : decode cL_isSheet 527 = .ok (.invokestatic 116, 3) := by decide +kernel
theorem dL_isSheet_530 : decode cL_isSheet 530 = .ok (.istore 18, 2) := by decide +kernel
theorem dL_isSheet_532 : decode cL_isSheet 532 = .ok (.iload 11, 2) := by decide +kernel
theorem dL_isSheet_534 : decode cL_isSheet 534 = .ok (.iload_n 2, 1) := by decide +kernel
theorem dL_isSheet_535 : decode cL_isSheet 535 = .ok (.ishr, 1) := by decide +kernel
theorem dL_isSheet_536 : decode cL_isSheet 536 = .ok (.iconst 1, 1) := by decide +kernel
theorem dL_isSheet_537 : decode cL_isSheet 537 = .ok (.iand, 1) := by decide +kernel
theorem dL_isSheet_538 : decode cL_isSheet 538 = .ok (.istore 19, 2) := by decide +kernel
theorem dL_isSheet_540 : decode cL_isSheet 540 = .ok (.iload 15, 2) := by decide +kernel
theorem dL_isSheet_542 : decode cL_isSheet 542 = .ok (.ifCond .eq 148, 3) := by decide +kernel
theorem dL_isSheet_545 : decode cL_isSheet 545 = .ok (.aload_n 0, 1) := by decide +kernel
theorem dL_isSheet_546 : decode cL_isSheet 546 = .ok (.iload_n 1, 1) := by decide +kernel
theorem dL_isSheet_547 : decode cL_isSheet 547 = .ok (.invokestatic 169, 3) := by decide +kernel
theorem dL_isSheet_550 : decode cL_isSheet 550 = .ok (.iload 16, 2) := by decide +kernel
theorem dL_isSheet_552 : decode cL_isSheet 552 = .ok (.if_icmp .ne 138, 3) := by decide +kernel
theorem dL_isSheet_555 : decode cL_isSheet 555 = .ok (.aload_n 0, 1) := by decide +kernel
theorem dL_isSheet_556 : decode cL_isSheet 556 = .ok (.iload_n 1, 1) := by decide +kernel
theorem dL_isSheet_557 : decode cL_isSheet 557 = .ok (.iload_n 2, 1) := by decide +kernel
theorem dL_isSheet_558 : decode cL_isSheet 558 = .ok (.iconst 0, 1) := by decide +kernel
theorem dL_isSheet_559 : decode cL_isSheet 559 = .ok (.invokestatic 171, 3) := by decide +kernel
theorem dL_isSheet_562 : decode cL_isSheet 562 = .ok (.iload_n 1, 1) := by decide +kernel
theorem dL_isSheet_563 : decode cL_isSheet 563 = .ok (.iload_n 2, 1) := by decide +kernel
theorem dL_isSheet_564 : decode cL_isSheet 564 = .ok (.iconst 0, 1) := by decide +kernel
theorem dL_isSheet_565 : decode cL_isSheet 565 = .ok (.aload 4, 2) := by decide +kernel
theorem dL_isSheet_567 : decode cL_isSheet 567 = .ok (.aload 5, 2) := by decide +kernel
theorem dL_isSheet_569 : decode cL_isSheet 569 = .ok (.aload 6, 2) := by decide +kernel
theorem dL_isSheet_571 : decode cL_isSheet 571 = .ok (.aload 7, 2) := by decide +kernel
theorem dL_isSheet_573 : decode cL_isSheet 573 = .ok (.invokestatic 127, 3) := by decide +kernel
theorem dL_isSheet_576 : decode cL_isSheet 576 = .ok (.invokestatic 131, 3) := by decide +kernel
theorem dL_isSheet_579 : decode cL_isSheet 579 = .ok (.if_icmp .ne 111, 3) := by decide +kernel
theorem dL_isSheet_582 : decode cL_isSheet 582 = .ok (.aload_n 0, 1) := by decide +kernel
theorem dL_isSheet_583 : decode cL_isSheet 583 = .ok (.iload_n 1, 1) := by decide +kernel
theorem dL_isSheet_584 : decode cL_isSheet 584 = .ok (.iload_n 2, 1) := by decide +kernel
theorem dL_isSheet_585 : decode cL_isSheet 585 = .ok (.iconst 1, 1) := by decide +kernel
theorem dL_isSheet_586 : decode cL_isSheet 586 = .ok (.invokestatic 171, 3) := by decide +kernel
theorem dL_isSheet_589 : decode cL_isSheet 589 = .ok (.iload_n 1, 1) := by decide +kernel
theorem dL_isSheet_590 : decode cL_isSheet 590 = .ok (.iload_n 2, 1) := by decide +kernel
theorem dL_isSheet_591 : decode cL_isSheet 591 = .ok (.iconst 0, 1) := by decide +kernel
theorem dL_isSheet_592 : decode cL_isSheet 592 = .ok (.aload 4, 2) := by decide +kernel
theorem dL_isSheet_594 : decode cL_isSheet 594 = .ok (.aload 5, 2) := by decide +kernel
theorem dL_isSheet_596 : decode cL_isSheet 596 = .ok (.aload 6, 2) := by decide +kernel
theorem dL_isSheet_598 : decode cL_isSheet 598 = .ok (.aload 7, 2) := by decide +kernel
theorem dL_isSheet_600 : decode cL_isSheet 600 = .ok (.invokestatic 127, 3) := by decide +kernel
theorem dL_isSheet_603 : decode cL_isSheet 603 = .ok (.if_icmp .ne 87, 3) := by decide +kernel
theorem dL_isSheet_606 : decode cL_isSheet 606 = .ok (.aload_n 0, 1) := by decide +kernel
theorem dL_isSheet_607 : decode cL_isSheet 607 = .ok (.iload_n 1, 1) := by decide +kernel
theorem dL_isSheet_608 : decode cL_isSheet 608 = .ok (.iload_n 2, 1) := by decide +kernel
theorem dL_isSheet_609 : decode cL_isSheet 609 = .ok (.iconst 2, 1) := by decide +kernel
theorem dL_isSheet_610 : decode cL_isSheet 610 = .ok (.invokestatic 171, 3) := by decide +kernel
theorem dL_isSheet_613 : decode cL_isSheet 613 = .ok (.iload 19, 2) := by decide +kernel
theorem dL_isSheet_615 : decode cL_isSheet 615 = .ok (.if_icmp .ne 75, 3) := by decide +kernel
theorem dL_isSheet_618 : decode cL_isSheet 618 = .ok (.aload_n 0, 1) := by decide +kernel
theorem dL_isSheet_619 : decode cL_isSheet 619 = .ok (.iload_n 1, 1) := by decide +kernel
theorem dL_isSheet_620 : decode cL_isSheet 620 = .ok (.iload_n 2, 1) := by decide +kernel
theorem dL_isSheet_621 : decode cL_isSheet 621 = .ok (.iconst 3, 1) := by decide +kernel
theorem dL_isSheet_622 : decode cL_isSheet 622 = .ok (.invokestatic 171, 3) := by decide +kernel
theorem dL_isSheet_625 : decode cL_isSheet 625 = .ok (.iload 19, 2) := by decide +kernel
theorem dL_isSheet_627 : decode cL_isSheet 627 = .ok (.if_icmp .ne 63, 3) := by decide +kernel
theorem dL_isSheet_630 : decode cL_isSheet 630 = .ok (.aload_n 0, 1) := by decide +kernel
theorem dL_isSheet_631 : decode cL_isSheet 631 = .ok (.iload_n 1, 1) := by decide +kernel
theorem dL_isSheet_632 : decode cL_isSheet 632 = .ok (.iload_n 2, 1) := by decide +kernel
theorem dL_isSheet_633 : decode cL_isSheet 633 = .ok (.iconst 4, 1) := by decide +kernel
theorem dL_isSheet_634 : decode cL_isSheet 634 = .ok (.invokestatic 171, 3) := by decide +kernel
theorem dL_isSheet_637 : decode cL_isSheet 637 = .ok (.iload 18, 2) := by decide +kernel
theorem dL_isSheet_639 : decode cL_isSheet 639 = .ok (.ifCond .ge 7, 3) := by decide +kernel
theorem dL_isSheet_642 : decode cL_isSheet 642 = .ok (.iconst (-1), 1) := by decide +kernel
theorem dL_isSheet_643 : decode cL_isSheet 643 = .ok (.goto 11, 3) := by decide +kernel
theorem dL_isSheet_646 : decode cL_isSheet 646 = .ok (.aload 8, 2) := by decide +kernel
theorem dL_isSheet_648 : decode cL_isSheet 648 = .ok (.iload 18, 2) := by decide +kernel
theorem dL_isSheet_650 : decode cL_isSheet 650 = .ok (.iaload, 1) := by decide +kernel
theorem dL_isSheet_651 : decode cL_isSheet 651 = .ok (.bipush 8, 2) := by decide +kernel
theorem dL_isSheet_653 : decode cL_isSheet 653 = .ok (.ishr, 1) := by decide +kernel
theorem dL_isSheet_654 : decode cL_isSheet 654 = .ok (.if_icmp .ne 36, 3) := by decide +kernel
theorem dL_isSheet_657 : decode cL_isSheet 657 = .ok (.aload_n 0, 1) := by decide +kernel
theorem dL_isSheet_658 : decode cL_isSheet 658 = .ok (.iload_n 1, 1) := by decide +kernel
theorem dL_isSheet_659 : decode cL_isSheet 659 = .ok (.iload_n 2, 1) := by decide +kernel
theorem dL_isSheet_660 : decode cL_isSheet 660 = .ok (.iload 17, 2) := by decide +kernel
theorem dL_isSheet_662 : decode cL_isSheet 662 = .ok (.invokestatic 173, 3) := by decide +kernel
theorem dL_isSheet_665 : decode cL_isSheet 665 = .ok (.iload_n 1, 1) := by decide +kernel
theorem dL_isSheet_666 : decode cL_isSheet 666 = .ok (.iload_n 2, 1) := by decide +kernel
theorem dL_isSheet_667 : decode cL_isSheet 667 = .ok (.iload 17, 2) := by decide +kernel
theorem dL_isSheet_669 : decode cL_isSheet 669 = .ok (.aload 4, 2) := by decide +kernel
theorem dL_isSheet_671 : decode cL_isSheet 671 = .ok (.aload 5, 2) := by decide +kernel
theorem dL_isSheet_673 : decode cL_isSheet 673 = .ok (.aload 6, 2) := by decide +kernel
theorem dL_isSheet_675 : decode cL_isSheet 675 = .ok (.aload 7, 2) := by decide +kernel
theorem dL_isSheet_677 : decode cL_isSheet 677 = .ok (.invokestatic 127, 3) := by decide +kernel
theorem dL_isSheet_680 : decode cL_isSheet 680 = .ok (.invokestatic 131, 3) := by decide +kernel
theorem dL_isSheet_683 : decode cL_isSheet 683 = .ok (.if_icmp .ne 7, 3) := by decide +kernel
theorem dL_isSheet_686 : decode cL_isSheet 686 = .ok (.iconst 1, 1) := by decide +kernel
theorem dL_isSheet_687 : decode cL_isSheet 687 = .ok (.goto 4, 3) := by decide +kernel
theorem dL_isSheet_690 : decode cL_isSheet 690 = .ok (.iconst 0, 1) := by decide +kernel
theorem dL_isSheet_691 : decode cL_isSheet 691 = .ok (.istore 15, 2) := by decide +kernel
theorem dL_isSheet_693 : decode cL_isSheet 693 = .ok (.iconst 0, 1) := by decide +kernel
theorem dL_isSheet_694 : decode cL_isSheet 694 = .ok (.istore 20, 2) := by decide +kernel
theorem dL_isSheet_696 : decode cL_isSheet 696 = .ok (.iload 20, 2) := by decide +kernel
theorem dL_isSheet_698 : decode cL_isSheet 698 = .ok (.bipush 6, 2) := by decide +kernel
theorem dL_isSheet_700 : decode cL_isSheet 700 = .ok (.if_icmp .ge 72, 3) := by decide +kernel
theorem dL_isSheet_703 : decode cL_isSheet 703 = .ok (.iload 15, 2) := by decide +kernel
theorem dL_isSheet_705 : decode cL_isSheet 705 = .ok (.ifCond .eq 58, 3) := by decide +kernel
theorem dL_isSheet_708 : decode cL_isSheet 708 = .ok (.aload_n 0, 1) := by decide +kernel
theorem dL_isSheet_709 : decode cL_isSheet 709 = .ok (.iload_n 1, 1) := by decide +kernel
theorem dL_isSheet_710 : decode cL_isSheet 710 = .ok (.iload 20, 2) := by decide +kernel
theorem dL_isSheet_712 : decode cL_isSheet 712 = .ok (.invokestatic 175, 3) := by decide +kernel
theorem dL_isSheet_715 : decode cL_isSheet 715 = .ok (.iload_n 1, 1) := by decide +kernel
theorem dL_isSheet_716 : decode cL_isSheet 716 = .ok (.iload 20, 2) := by decide +kernel
theorem dL_isSheet_718 : decode cL_isSheet 718 = .ok (.aload 6, 2) := by decide +kernel
theorem dL_isSheet_720 : decode cL_isSheet 720 = .ok (.aload 7, 2) := by decide +kernel
theorem dL_isSheet_722 : decode cL_isSheet 722 = .ok (.invokestatic 105, 3) := by decide +kernel
theorem dL_isSheet_725 : decode cL_isSheet 725 = .ok (.sipush 1000, 3) := by decide +kernel
theorem dL_isSheet_728 : decode cL_isSheet 728 = .ok (.iadd, 1) := by decide +kernel
theorem dL_isSheet_729 : decode cL_isSheet 729 = .ok (.if_icmp .ne 34, 3) := by decide +kernel
theorem dL_isSheet_732 : decode cL_isSheet 732 = .ok (.aload_n 0, 1) := by decide +kernel
theorem dL_isSheet_733 : decode cL_isSheet 733 = .ok (.iload_n 1, 1) := by decide +kernel
theorem dL_isSheet_734 : decode cL_isSheet 734 = .ok (.iload_n 2, 1) := by decide +kernel
theorem dL_isSheet_735 : decode cL_isSheet 735 = .ok (.iload 20, 2) := by decide +kernel
theorem dL_isSheet_737 : decode cL_isSheet 737 = .ok (.invokestatic 177, 3) := by decide +kernel
theorem dL_isSheet_740 : decode cL_isSheet 740 = .ok (.iload_n 1, 1) := by decide +kernel
theorem dL_isSheet_741 : decode cL_isSheet 741 = .ok (.iload_n 2, 1) := by decide +kernel
theorem dL_isSheet_742 : decode cL_isSheet 742 = .ok (.iload 20, 2) := by decide +kernel
theorem dL_isSheet_744 : decode cL_isSheet 744 = .ok (.iconst 0, 1) := by decide +kernel
theorem dL_isSheet_745 : decode cL_isSheet 745 = .ok (.aload 4, 2) := by decide +kernel
theorem dL_isSheet_747 : decode cL_isSheet 747 = .ok (.aload 5, 2) := by decide +kernel
theorem dL_isSheet_749 : decode cL_isSheet 749 = .ok (.aload 6, 2) := by decide +kernel
theorem dL_isSheet_751 : decode cL_isSheet 751 = .ok (.aload 7, 2) := by decide +kernel
theorem dL_isSheet_753 : decode cL_isSheet 753 = .ok (.invokestatic 112, 3) := by decide +kernel
theorem dL_isSheet_756 : decode cL_isSheet 756 = .ok (.if_icmp .ne 7, 3) := by decide +kernel
theorem dL_isSheet_759 : decode cL_isSheet 759 = .ok (.iconst 1, 1) := by decide +kernel
theorem dL_isSheet_760 : decode cL_isSheet 760 = .ok (.goto 4, 3) := by decide +kernel
theorem dL_isSheet_763 : decode cL_isSheet 763 = .ok (.iconst 0, 1) := by decide +kernel
theorem dL_isSheet_764 : decode cL_isSheet 764 = .ok (.istore 15, 2) := by decide +kernel
theorem dL_isSheet_766 : decode cL_isSheet 766 = .ok (.iinc 20 1, 3) := by decide +kernel
theorem dL_isSheet_769 : decode cL_isSheet 769 = .ok (.goto (-73), 3) := by decide +kernel
theorem dL_isSheet_772 : decode cL_isSheet 772 = .ok (.iload 15, 2) := by decide +kernel
theorem dL_isSheet_774 : decode cL_isSheet 774 = .ok (.ifCond .eq 59, 3) := by decide +kernel
theorem dL_isSheet_777 : decode cL_isSheet 777 = .ok (.aload_n 0, 1) := by decide +kernel
theorem dL_isSheet_778 : decode cL_isSheet 778 = .ok (.iload_n 1, 1) := by decide +kernel
theorem dL_isSheet_779 : decode cL_isSheet 779 = .ok (.iload_n 2, 1) := by decide +kernel
theorem dL_isSheet_780 : decode cL_isSheet 780 = .ok (.iconst 1, 1) := by decide +kernel
theorem dL_isSheet_781 : decode cL_isSheet 781 = .ok (.invokestatic 179, 3) := by decide +kernel
theorem dL_isSheet_784 : decode cL_isSheet 784 = .ok (.iload_n 1, 1) := by decide +kernel
theorem dL_isSheet_785 : decode cL_isSheet 785 = .ok (.iload_n 2, 1) := by decide +kernel
theorem dL_isSheet_786 : decode cL_isSheet 786 = .ok (.iconst 1, 1) := by decide +kernel
theorem dL_isSheet_787 : decode cL_isSheet 787 = .ok (.aload 4, 2) := by decide +kernel
theorem dL_isSheet_789 : decode cL_isSheet 789 = .ok (.aload 5, 2) := by decide +kernel
theorem dL_isSheet_791 : decode cL_isSheet 791 = .ok (.aload 6, 2) := by decide +kernel
theorem dL_isSheet_793 : decode cL_isSheet 793 = .ok (.aload 7, 2) := by decide +kernel
theorem dL_isSheet_795 : decode cL_isSheet 795 = .ok (.aload 8, 2) := by decide +kernel
theorem dL_isSheet_797 : decode cL_isSheet 797 = .ok (.invokestatic 156, 3) := by decide +kernel
theorem dL_isSheet_800 : decode cL_isSheet 800 = .ok (.if_icmp .ne 33, 3) := by decide +kernel
theorem dL_isSheet_803 : decode cL_isSheet 803 = .ok (.aload_n 0, 1) := by decide +kernel
theorem dL_isSheet_804 : decode cL_isSheet 804 = .ok (.iload_n 1, 1) := by decide +kernel
theorem dL_isSheet_805 : decode cL_isSheet 805 = .ok (.iload_n 2, 1) := by decide +kernel
theorem dL_isSheet_806 : decode cL_isSheet 806 = .ok (.iconst 0, 1) := by decide +kernel
theorem dL_isSheet_807 : decode cL_isSheet 807 = .ok (.invokestatic 179, 3) := by decide +kernel
theorem dL_isSheet_810 : decode cL_isSheet 810 = .ok (.iload_n 1, 1) := by decide +kernel
theorem dL_isSheet_811 : decode cL_isSheet 811 = .ok (.iload_n 2, 1) := by decide +kernel
theorem dL_isSheet_812 : decode cL_isSheet 812 = .ok (.iconst 0, 1) := by decide +kernel
theorem dL_isSheet_813 : decode cL_isSheet 813 = .ok (.aload 4, 2) := by decide +kernel
theorem dL_isSheet_815 : decode cL_isSheet 815 = .ok (.aload 5, 2) := by decide +kernel
theorem dL_isSheet_817 : decode cL_isSheet 817 = .ok (.aload 6, 2) := by decide +kernel
theorem dL_isSheet_819 : decode cL_isSheet 819 = .ok (.aload 7, 2) := by decide +kernel
theorem dL_isSheet_821 : decode cL_isSheet 821 = .ok (.aload 8, 2) := by decide +kernel
theorem dL_isSheet_823 : decode cL_isSheet 823 = .ok (.invokestatic 156, 3) := by decide +kernel
theorem dL_isSheet_826 : decode cL_isSheet 826 = .ok (.if_icmp .ne 7, 3) := by decide +kernel
theorem dL_isSheet_829 : decode cL_isSheet 829 = .ok (.iconst 1, 1) := by decide +kernel
theorem dL_isSheet_830 : decode cL_isSheet 830 = .ok (.goto 4, 3) := by decide +kernel
theorem dL_isSheet_833 : decode cL_isSheet 833 = .ok (.iconst 0, 1) := by decide +kernel
theorem dL_isSheet_834 : decode cL_isSheet 834 = .ok (.ireturn, 1) := by decide +kernel
theorem dL_isSo_0 : decode cL_isSo 0 = .ok (.iconst 0, 1) := by decide +kernel
theorem dL_isSo_1 : decode cL_isSo 1 = .ok (.istore 7, 2) := by decide +kernel
theorem dL_isSo_3 : decode cL_isSo 3 = .ok (.iconst 0, 1) := by decide +kernel
theorem dL_isSo_4 : decode cL_isSo 4 = .ok (.istore 8, 2) := by decide +kernel
theorem dL_isSo_6 : decode cL_isSo 6 = .ok (.iconst 0, 1) := by decide +kernel
theorem dL_isSo_7 : decode cL_isSo 7 = .ok (.istore 9, 2) := by decide +kernel
theorem dL_isSo_9 : decode cL_isSo 9 = .ok (.iconst 0, 1) := by decide +kernel
theorem dL_isSo_10 : decode cL_isSo 10 = .ok (.istore 10, 2) := by decide +kernel
theorem dL_isSo_12 : decode cL_isSo 12 = .ok (.iconst 0, 1) := by decide +kernel
theorem dL_isSo_13 : decode cL_isSo 13 = .ok (.istore 11, 2) := by decide +kernel
theorem dL_isSo_15 : decode cL_isSo 15 = .ok (.iconst 0, 1) := by decide +kernel
theorem dL_isSo_16 : decode cL_isSo 16 = .ok (.istore 12, 2) := by decide +kernel
theorem dL_isSo_18 : decode cL_isSo 18 = .ok (.iconst 0, 1) := by decide +kernel
theorem dL_isSo_19 : decode cL_isSo 19 = .ok (.istore 13, 2) := by decide +kernel
theorem dL_isSo_21 : decode cL_isSo 21 = .ok (.iload 13, 2) := by decide +kernel
theorem dL_isSo_23 : decode cL_isSo 23 = .ok (.aload_n 2, 1) := by decide +kernel
theorem dL_isSo_24 : decode cL_isSo 24 = .ok (.bipush 10, 2) := by decide +kernel
theorem dL_isSo_26 : decode cL_isSo 26 = .ok (.iaload, 1) := by decide +kernel
theorem dL_isSo_27 : decode cL_isSo 27 = .ok (.if_icmp .ge 22, 3) := by decide +kernel
theorem dL_isSo_30 : decode cL_isSo 30 = .ok (.iload 7, 2) := by decide +kernel
theorem dL_isSo_32 : decode cL_isSo 32 = .ok (.aload 6, 2) := by decide +kernel
theorem dL_isSo_34 : decode cL_isSo 34 = .ok (.iload 13, 2) := by decide +kernel
theorem dL_isSo_36 : decode cL_isSo 36 = .ok (.iaload, 1) := by decide +kernel
theorem dL_isSo_37 : decode cL_isSo 37 = .ok (.bipush 8, 2) := by decide +kernel
theorem dL_isSo_39 : decode cL_isSo 39 = .ok (.ishr, 1) := by decide +kernel
theorem dL_isSo_40 : decode cL_isSo 40 = .ok (.iadd, 1) := by decide +kernel
theorem dL_isSo_41 : decode cL_isSo 41 = .ok (.istore 7, 2) := by decide +kernel
theorem dL_isSo_43 : decode cL_isSo 43 = .ok (.iinc 13 1, 3) := by decide +kernel
theorem dL_isSo_46 : decode cL_isSo 46 = .ok (.goto (-25), 3) := by decide +kernel
theorem dL_isSo_49 : decode cL_isSo 49 = .ok (.iconst 0, 1) := by decide +kernel
theorem dL_isSo_50 : decode cL_isSo 50 = .ok (.istore 13, 2) := by decide +kernel
theorem dL_isSo_52 : decode cL_isSo 52 = .ok (.iload 13, 2) := by decide +kernel
theorem dL_isSo_54 : decode cL_isSo 54 = .ok (.aload_n 2, 1) := by decide +kernel
theorem dL_isSo_55 : decode cL_isSo 55 = .ok (.bipush 9, 2) := by decide +kernel
theorem dL_isSo_57 : decode cL_isSo 57 = .ok (.iaload, 1) := by decide +kernel
theorem dL_isSo_58 : decode cL_isSo 58 = .ok (.if_icmp .ge 153, 3) := by decide +kernel
theorem dL_isSo_61 : decode cL_isSo 61 = .ok (.iload 13, 2) := by decide +kernel
theorem dL_isSo_63 : decode cL_isSo 63 = .ok (.iconst (-1), 1) := by decide +kernel
theorem dL_isSo_64 : decode cL_isSo 64 = .ok (.iconst (-1), 1) := by decide +kernel
theorem dL_isSo_65 : decode cL_isSo 65 = .ok (.iconst (-1), 1) := by decide +kernel
theorem dL_isSo_66 : decode cL_isSo 66 = .ok (.aload_n 2, 1) := by decide +kernel
theorem dL_isSo_67 : decode cL_isSo 67 = .ok (.aload 6, 2) := by decide +kernel
theorem dL_isSo_69 : decode cL_isSo 69 = .ok (.invokestatic 119, 3) := by decide +kernel
theorem dL_isSo_72 : decode cL_isSo 72 = .ok (.istore 14, 2) := by decide +kernel
theorem dL_isSo_74 : decode cL_isSo 74 = .ok (.iload 14, 2) := by decide +kernel
theorem dL_isSo_76 : decode cL_isSo 76 = .ok (.invokestatic 131, 3) := by decide +kernel
theorem dL_isSo_79 : decode cL_isSo 79 = .ok (.iload 8, 2) := by decide +kernel
theorem dL_isSo_81 : decode cL_isSo 81 = .ok (.if_icmp .le 11, 3) := by decide +kernel
theorem dL_isSo_84 : decode cL_isSo 84 = .ok (.iload 14, 2) := by decide +kernel
theorem dL_isSo_86 : decode cL_isSo 86 = .ok (.invokestatic 131, 3) := by decide +kernel
theorem dL_isSo_89 : decode cL_isSo 89 = .ok (.goto 5, 3) := by decide +kernel
theorem dL_isSo_92 : decode cL_isSo 92 = .ok (.iload 8, 2) := by decide +kernel
theorem dL_isSo_94 : decode cL_isSo 94 = .ok (.istore 8, 2) := by decide +kernel
theorem dL_isSo_96 : decode cL_isSo 96 = .ok (.iload 9, 2) := by decide +kernel
theorem dL_isSo_98 : decode cL_isSo 98 = .ok (.iload 13, 2) := by decide +kernel
theorem dL_isSo_100 : decode cL_isSo 100 = .ok (.aload_n 2, 1) := by decide +kernel
theorem dL_isSo_101 : decode cL_isSo 101 = .ok (.aload 4, 2) := by decide +kernel
theorem dL_isSo_103 : decode cL_isSo 103 = .ok (.aload 5, 2) := by decide +kernel
theorem dL_isSo_105 : decode cL_isSo 105 = .ok (.invokestatic 123, 3) := by decide +kernel
theorem dL_isSo_108 : decode cL_isSo 108 = .ok (.ifCond .eq 7, 3) := by decide +kernel
theorem dL_isSo_111 : decode cL_isSo 111 = .ok (.iconst 1, 1) := by decide +kernel
theorem dL_isSo_112 : decode cL_isSo 112 = .ok (.goto 4, 3) := by decide +kernel
theorem dL_isSo_115 : decode cL_isSo 115 = .ok (.iconst 0, 1) := by decide +kernel
theorem dL_isSo_116 : decode cL_isSo 116 = .ok (.iadd, 1) := by decide +kernel
theorem dL_isSo_117 : decode cL_isSo 117 = .ok (.istore 9, 2) := by decide +kernel
theorem dL_isSo_119 : decode cL_isSo 119 = .ok (.iload 13, 2) := by decide +kernel
theorem dL_isSo_121 : decode cL_isSo 121 = .ok (.iconst 1, 1) := by decide +kernel
theorem dL_isSo_122 : decode cL_isSo 122 = .ok (.iadd, 1) := by decide +kernel
theorem dL_isSo_123 : decode cL_isSo 123 = .ok (.istore 15, 2) := by decide +kernel
theorem dL_isSo_125 : decode cL_isSo 125 = .ok (.iload 15, 2) := by decide +kernel
theorem dL_isSo_127 : decode cL_isSo 127 = .ok (.aload_n 2, 1) := by decide +kernel
theorem dL_isSo_128 : decode cL_isSo 128 = .ok (.bipush 9, 2) := by decide +kernel
theorem dL_isSo_130 : decode cL_isSo 130 = .ok (.iaload, 1) := by decide +kernel
theorem dL_isSo_131 : decode cL_isSo 131 = .ok (.if_icmp .ge 74, 3) := by decide +kernel
theorem dL_isSo_134 : decode cL_isSo 134 = .ok (.iload 13, 2) := by decide +kernel
theorem dL_isSo_136 : decode cL_isSo 136 = .ok (.iload 15, 2) := by decide +kernel
theorem dL_isSo_138 : decode cL_isSo 138 = .ok (.iconst 0, 1) := by decide +kernel
theorem dL_isSo_139 : decode cL_isSo 139 = .ok (.aload_n 2, 1) := by decide +kernel
theorem dL_isSo_140 : decode cL_isSo 140 = .ok (.aload_n 3, 1) := by decide +kernel
theorem dL_isSo_141 : decode cL_isSo 141 = .ok (.aload 4, 2) := by decide +kernel
theorem dL_isSo_143 : decode cL_isSo 143 = .ok (.aload 5, 2) := by decide +kernel
theorem dL_isSo_145 : decode cL_isSo 145 = .ok (.invokestatic 127, 3) := by decide +kernel
theorem dL_isSo_148 : decode cL_isSo 148 = .ok (.invokestatic 131, 3) := by decide +kernel
theorem dL_isSo_151 : decode cL_isSo 151 = .ok (.istore 16, 2) := by decide +kernel
theorem dL_isSo_153 : decode cL_isSo 153 = .ok (.iload 10, 2) := by decide +kernel
theorem dL_isSo_155 : decode cL_isSo 155 = .ok (.iload 16, 2) := by decide +kernel
theorem dL_isSo_157 : decode cL_isSo 157 = .ok (.aload_n 2, 1) := by decide +kernel
theorem dL_isSo_158 : decode cL_isSo 158 = .ok (.bipush 8, 2) := by decide +kernel
theorem dL_isSo_160 : decode cL_isSo 160 = .ok (.iaload, 1) := by decide +kernel
theorem dL_isSo_161 : decode cL_isSo 161 = .ok (.if_icmp .lt 7, 3) := by decide +kernel
theorem dL_isSo_164 : decode cL_isSo 164 = .ok (.iconst 1, 1) := by decide +kernel
theorem dL_isSo_165 : decode cL_isSo 165 = .ok (.goto 4, 3) := by decide +kernel
theorem dL_isSo_168 : decode cL_isSo 168 = .ok (.iconst 0, 1) := by decide +kernel
theorem dL_isSo_169 : decode cL_isSo 169 = .ok (.iadd, 1) := by decide +kernel
theorem dL_isSo_170 : decode cL_isSo 170 = .ok (.istore 10, 2) := by decide +kernel
theorem dL_isSo_172 : decode cL_isSo 172 = .ok (.iload 11, 2) := by decide +kernel
theorem dL_isSo_174 : decode cL_isSo 174 = .ok (.iload 14, 2) := by decide +kernel
theorem dL_isSo_176 : decode cL_isSo 176 = .ok (.iload 15, 2) := by decide +kernel
theorem dL_isSo_178 : decode cL_isSo 178 = .ok (.ishr, 1) := by decide +kernel
theorem dL_isSo_179 : decode cL_isSo 179 = .ok (.iconst 1, 1) := by decide +kernel
theorem dL_isSo_180 : decode cL_isSo 180 = .ok (.iand, 1) := by decide +kernel
theorem dL_isSo_181 : decode cL_isSo 181 = .ok (.iload 16, 2) := by decide +kernel
theorem dL_isSo_183 : decode cL_isSo 183 = .ok (.imul, 1) := by decide +kernel
theorem dL_isSo_184 : decode cL_isSo 184 = .ok (.iadd, 1) := by decide +kernel
theorem dL_isSo_185 : decode cL_isSo 185 = .ok (.istore 11, 2) := by decide +kernel
theorem dL_isSo_187 : decode cL_isSo 187 = .ok (.iload 12, 2) := by decide +kernel
theorem dL_isSo_189 : decode cL_isSo 189 = .ok (.iload 14, 2) := by decide +kernel
theorem dL_isSo_191 : decode cL_isSo 191 = .ok (.iload 15, 2) := by decide +kernel
theorem dL_isSo_193 : decode cL_isSo 193 = .ok (.ishr, 1) := by decide +kernel
theorem dL_isSo_194 : decode cL_isSo 194 = .ok (.iconst 1, 1) := by decide +kernel
theorem dL_isSo_195 : decode cL_isSo 195 = .ok (.iand, 1) := by decide +kernel
theorem dL_isSo_196 : decode cL_isSo 196 = .ok (.iadd, 1) := by decide +kernel
theorem dL_isSo_197 : decode cL_isSo 197 = .ok (.istore 12, 2) := by decide +kernel
theorem dL_isSo_199 : decode cL_isSo 199 = .ok (.iinc 15 1, 3) := by decide +kernel
theorem dL_isSo_202 : decode cL_isSo 202 = .ok (.goto (-77), 3) := by decide +kernel
theorem dL_isSo_205 : decode cL_isSo 205 = .ok (.iinc 13 1, 3) := by decide +kernel
theorem dL_isSo_208 : decode cL_isSo 208 = .ok (.goto (-156), 3) := by decide +kernel
theorem dL_isSo_211 : decode cL_isSo 211 = .ok (.aload_n 0, 1) := by decide +kernel
theorem dL_isSo_212 : decode cL_isSo 212 = .ok (.iconst 0, 1) := by decide +kernel
theorem dL_isSo_213 : decode cL_isSo 213 = .ok (.invokestatic 181, 3) := by decide +kernel
theorem dL_isSo_216 : decode cL_isSo 216 = .ok (.aload_n 2, 1) := by decide +kernel
theorem dL_isSo_217 : decode cL_isSo 217 = .ok (.bipush 9, 2) := by decide +kernel
theorem dL_isSo_219 : decode cL_isSo 219 = .ok (.iaload, 1) := by decide +kernel
theorem dL_isSo_220 : decode cL_isSo 220 = .ok (.if_icmp .ne 114, 3) := by decide +kernel
theorem dL_isSo_223 : decode cL_isSo 223 = .ok (.aload_n 0, 1) := by decide +kernel
theorem dL_isSo_224 : decode cL_isSo 224 = .ok (.iconst 1, 1) := by decide +kernel
theorem dL_isSo_225 : decode cL_isSo 225 = .ok (.invokestatic 181, 3) := by decide +kernel
theorem dL_isSo_228 : decode cL_isSo 228 = .ok (.aload_n 2, 1) := by decide +kernel
theorem dL_isSo_229 : decode cL_isSo 229 = .ok (.bipush 10, 2) := by decide +kernel
theorem dL_isSo_231 : decode cL_isSo 231 = .ok (.iaload, 1) := by decide +kernel
theorem dL_isSo_232 : decode cL_isSo 232 = .ok (.if_icmp .ne 102, 3) := by decide +kernel
theorem dL_isSo_235 : decode cL_isSo 235 = .ok (.aload_n 0, 1) := by decide +kernel
theorem dL_isSo_236 : decode cL_isSo 236 = .ok (.iconst 2, 1) := by decide +kernel
theorem dL_isSo_237 : decode cL_isSo 237 = .ok (.invokestatic 181, 3) := by decide +kernel
theorem dL_isSo_240 : decode cL_isSo 240 = .ok (.iload 7, 2) := by decide +kernel
theorem dL_isSo_242 : decode cL_isSo 242 = .ok (.if_icmp .ne 92, 3) := by decide +kernel
theorem dL_isSo_245 : decode cL_isSo 245 = .ok (.aload_n 0, 1) := by decide +kernel
theorem dL_isSo_246 : decode cL_isSo 246 = .ok (.iconst 3, 1) := by decide +kernel
theorem dL_isSo_247 : decode cL_isSo 247 = .ok (.invokestatic 181, 3) := by decide +kernel
theorem dL_isSo_250 : decode cL_isSo 250 = .ok (.aload_n 2, 1) := by decide +kernel
theorem dL_isSo_251 : decode cL_isSo 251 = .ok (.aload 6, 2) := by decide +kernel
theorem dL_isSo_253 : decode cL_isSo 253 = .ok (.invokestatic 160, 3) := by decide +kernel
theorem dL_isSo_256 : decode cL_isSo 256 = .ok (.if_icmp .ne 78, 3) := by decide +kernel
theorem dL_isSo_259 : decode cL_isSo 259 = .ok (.aload_n 0, 1) := by decide +kernel
theorem dL_isSo_260 : decode cL_isSo 260 = .ok (.iconst 4, 1) := by decide +kernel
theorem dL_isSo_261 : decode cL_isSo 261 = .ok (.invokestatic 181, 3) := by decide +kernel
theorem dL_isSo_264 : decode cL_isSo 264 = .ok (.iload 8, 2) := by decide +kernel
theorem dL_isSo_266 : decode cL_isSo 266 = .ok (.if_icmp .ne 68, 3) := by decide +kernel
theorem dL_isSo_269 : decode cL_isSo 269 = .ok (.aload_n 0, 1) := by decide +kernel
theorem dL_isSo_270 : decode cL_isSo 270 = .ok (.iconst 5, 1) := by decide +kernel
theorem dL_isSo_271 : decode cL_isSo 271 = .ok (.invokestatic 181, 3) := by decide +kernel
theorem dL_isSo_274 : decode cL_isSo 274 = .ok (.iload 9, 2) := by decide +kernel
theorem dL_isSo_276 : decode cL_isSo 276 = .ok (.if_icmp .ne 58, 3) := by decide +kernel
theorem dL_isSo_279 : decode cL_isSo 279 = .ok (.aload_n 0, 1) := by decide +kernel
theorem dL_isSo_280 : decode cL_isSo 280 = .ok (.bipush 6, 2) := by decide +kernel
theorem dL_isSo_282 : decode cL_isSo 282 = .ok (.invokestatic 181, 3) := by decide +kernel
theorem dL_isSo_285 : decode cL_isSo 285 = .ok (.aload_n 2, 1) := by decide +kernel
theorem dL_isSo_286 : decode cL_isSo 286 = .ok (.bipush 11, 2) := by decide +kernel
theorem dL_isSo_288 : decode cL_isSo 288 = .ok (.iaload, 1) := by decide +kernel
theorem dL_isSo_289 : decode cL_isSo 289 = .ok (.if_icmp .ne 45, 3) := by decide +kernel
theorem dL_isSo_292 : decode cL_isSo 292 = .ok (.aload_n 0, 1) := by decide +kernel
theorem dL_isSo_293 : decode cL_isSo 293 = .ok (.bipush 7, 2) := by decide +kernel
theorem dL_isSo_295 : decode cL_isSo 295 = .ok (.invokestatic 181, 3) := by decide +kernel
theorem dL_isSo_298 : decode cL_isSo 298 = .ok (.iload 10, 2) := by decide +kernel
theorem dL_isSo_300 : decode cL_isSo 300 = .ok (.if_icmp .ne 34, 3) := by decide +kernel
theorem dL_isSo_303 : decode cL_isSo 303 = .ok (.aload_n 0, 1) := by decide +kernel
theorem dL_isSo_304 : decode cL_isSo 304 = .ok (.invokevirtual 183, 3) := by decide +kernel
theorem dL_isSo_307 : decode cL_isSo 307 = .ok (.iload 12, 2) := by decide +kernel
theorem dL_isSo_309 : decode cL_isSo 309 = .ok (.ifCond .ne 7, 3) := by decide +kernel
theorem dL_isSo_312 : decode cL_isSo 312 = .ok (.dconst 1, 1) := by decide +kernel
theorem dL_isSo_313 : decode cL_isSo 313 = .ok (.goto 13, 3) := by decide +kernel
theorem dL_isSo_316 : decode cL_isSo 316 = .ok (.iload 11, 2) := by decide +kernel
theorem dL_isSo_318 : decode cL_isSo 318 = .ok (.i2d, 1) := by decide +kernel
theorem dL_isSo_319 : decode cL_isSo 319 = .ok (.bipush 6, 2) := by decide +kernel
theorem dL_isSo_321 : decode cL_isSo 321 = .ok (.iload 12, 2) := by decide +kernel
theorem dL_isSo_323 : decode cL_isSo 323 = .ok (.imul, 1) := by decide +kernel
theorem dL_isSo_324 : decode cL_isSo 324 = .ok (.i2d, 1) := by decide +kernel
theorem dL_isSo_325 : decode cL_isSo 325 = .ok (.ddiv, 1) := by decide +kernel
theorem dL_isSo_326 : decode cL_isSo 326 = .ok (.dcmp .l, 1) := by decide +kernel
theorem dL_isSo_327 : decode cL_isSo 327 = .ok (.ifCond .ne 7, 3) := by decide +kernel
theorem dL_isSo_330 : decode cL_isSo 330 = .ok (.iconst 1, 1) := by decide +kernel
theorem dL_isSo_331 : decode cL_isSo 331 = .ok (.goto 4, 3) := by decide +kernel
theorem dL_isSo_334 : decode cL_isSo 334 = .ok (.iconst 0, 1) := by decide +kernel
theorem dL_isSo_335 : decode cL_isSo 335 = .ok (.istore 13, 2) := by decide +kernel
theorem dL_isSo_337 : decode cL_isSo 337 = .ok (.iconst 0, 1) := by decide +kernel
theorem dL_isSo_338 : decode cL_isSo 338 = .ok (.istore 14, 2) := by decide +kernel
theorem dL_isSo_340 : decode cL_isSo 340 = .ok (.iload 14, 2) := by decide +kernel
theorem dL_isSo_342 : decode cL_isSo 342 = .ok (.bipush 9, 2) := by decide +kernel
theorem dL_isSo_344 : decode cL_isSo 344 = .ok (.if_icmp .ge 37, 3) := by decide +kernel
theorem dL_isSo_347 : decode cL_isSo 347 = .ok (.iload 13, 2) := by decide +kernel
theorem dL_isSo_349 : decode cL_isSo 349 = .ok (.ifCond .eq 23, 3) := by decide +kernel
theorem dL_isSo_352 : decode cL_isSo 352 = .ok (.aload_n 0, 1) := by decide +kernel
theorem dL_isSo_353 : decode cL_isSo 353 = .ok (.bipush 8, 2) := by decide +kernel
theorem dL_isSo_355 : decode cL_isSo 355 = .ok (.iload 14, 2) := by decide +kernel
theorem dL_isSo_357 : decode cL_isSo 357 = .ok (.iadd, 1) := by decide +kernel
theorem dL_isSo_358 : decode cL_isSo 358 = .ok (.invokestatic 181, 3) := by decide +kernel
theorem dL_isSo_361 : decode cL_isSo 361 = .ok (.aload_n 2, 1) := by decide +kernel
theorem dL_isSo_362 : decode cL_isSo 362 = .ok (.iload 14, 2) := by decide +kernel
theorem dL_isSo_364 : decode cL_isSo 364 = .ok (.iaload, 1) := by decide +kernel
theorem dL_isSo_365 : decode cL_isSo 365 = .ok (.if_icmp .ne 7, 3) := by decide +kernel
theorem dL_isSo_368 : decode cL_isSo 368 = .ok (.iconst 1, 1) := by decide +kernel
theorem dL_isSo_369 : decode cL_isSo 369 = .ok (.goto 4, 3) := by decide +kernel
theorem dL_isSo_372 : decode cL_isSo 372 = .ok (.iconst 0, 1) := by decide +kernel
theorem dL_isSo_373 : decode cL_isSo 373 = .ok (.istore 13, 2) := by decide +kernel
theorem dL_isSo_375 : decode cL_isSo 375 = .ok (.iinc 14 1, 3) := by decide +kernel
theorem dL_isSo_378 : decode cL_isSo 378 = .ok (.goto (-38), 3) := by decide +kernel
theorem dL_isSo_381 : decode cL_isSo 381 = .ok (.iload_n 1, 1) := by decide +kernel
theorem dL_isSo_382 : decode cL_isSo 382 = .ok (.aload_n 2, 1) := by decide +kernel
theorem dL_isSo_383 : decode cL_isSo 383 = .ok (.bipush 10, 2) := by decide +kernel
theorem dL_isSo_385 : decode cL_isSo 385 = .ok (.iaload, 1) := by decide +kernel
theorem dL_isSo_386 : decode cL_isSo 386 = .ok (.iconst 1, 1) := by decide +kernel
theorem dL_isSo_387 : decode cL_isSo 387 = .ok (.iadd, 1) := by decide +kernel
theorem dL_isSo_388 : decode cL_isSo 388 = .ok (.invokestatic 85, 3) := by decide +kernel
theorem dL_isSo_391 : decode cL_isSo 391 = .ok (.istore 14, 2) := by decide +kernel
theorem dL_isSo_393 : decode cL_isSo 393 = .ok (.iload 14, 2) := by decide +kernel
theorem dL_isSo_395 : decode cL_isSo 395 = .ok (.aload_n 2, 1) := by decide +kernel
theorem dL_isSo_396 : decode cL_isSo 396 = .ok (.bipush 10, 2) := by decide +kernel
theorem dL_isSo_398 : decode cL_isSo 398 = .ok (.iaload, 1) := by decide +kernel
theorem dL_isSo_399 : decode cL_isSo 399 = .ok (.if_icmp .ge 7, 3) := by decide +kernel
theorem dL_isSo_402 : decode cL_isSo 402 = .ok (.iconst 1, 1) := by decide +kernel
theorem dL_isSo_403 : decode cL_isSo 403 = .ok (.goto 4, 3) := by decide +kernel
theorem dL_isSo_406 : decode cL_isSo 406 = .ok (.iconst 0, 1) := by decide +kernel
theorem dL_isSo_407 : decode cL_isSo 407 = .ok (.istore 15, 2) := by decide +kernel
theorem dL_isSo_409 : decode cL_isSo 409 = .ok (.aload 6, 2) := by decide +kernel
theorem dL_isSo_411 : decode cL_isSo 411 = .ok (.iload 14, 2) := by decide +kernel
theorem dL_isSo_413 : decode cL_isSo 413 = .ok (.iaload, 1) := by decide +kernel
theorem dL_isSo_414 : decode cL_isSo 414 = .ok (.bipush 15, 2) := by decide +kernel
theorem dL_isSo_416 : decode cL_isSo 416 = .ok (.iand, 1) := by decide +kernel
theorem dL_isSo_417 : decode cL_isSo 417 = .ok (.istore 16, 2) := by decide +kernel
theorem dL_isSo_419 : decode cL_isSo 419 = .ok (.aload 6, 2) := by decide +kernel
theorem dL_isSo_421 : decode cL_isSo 421 = .ok (.iload 14, 2) := by decide +kernel
theorem dL_isSo_423 : decode cL_isSo 423 = .ok (.iaload, 1) := by decide +kernel
theorem dL_isSo_424 : decode cL_isSo 424 = .ok (.iconst 4, 1) := by decide +kernel
theorem dL_isSo_425 : decode cL_isSo 425 = .ok (.ishr, 1) := by decide +kernel
theorem dL_isSo_426 : decode cL_isSo 426 = .ok (.bipush 15, 2) := by decide +kernel
theorem dL_isSo_428 : decode cL_isSo 428 = .ok (.iand, 1) := by decide +kernel
theorem dL_isSo_429 : decode cL_isSo 429 = .ok (.istore 17, 2) := by decide +kernel
theorem dL_isSo_431 : decode cL_isSo 431 = .ok (.iload 15, 2) := by decide +kernel
theorem dL_isSo_433 : decode cL_isSo 433 = .ok (.ifCond .eq 39, 3) := by decide +kernel
theorem dL_isSo_436 : decode cL_isSo 436 = .ok (.aload 6, 2) := by decide +kernel
theorem dL_isSo_438 : decode cL_isSo 438 = .ok (.iload 14, 2) := by decide +kernel
theorem dL_isSo_440 : decode cL_isSo 440 = .ok (.iaload, 1) := by decide +kernel
theorem dL_isSo_441 : decode cL_isSo 441 = .ok (.bipush 8, 2) := by decide +kernel
theorem dL_isSo_443 : decode cL_isSo 443 = .ok (.ishr, 1) := by decide +kernel
theorem dL_isSo_444 : decode cL_isSo 444 = .ok (.iconst 1, 1) := by decide +kernel
theorem dL_isSo_445 : decode cL_isSo 445 = .ok (.if_icmp .ne 27, 3) := by decide +kernel
theorem dL_isSo_448 : decode cL_isSo 448 = .ok (.iload 16, 2) := by decide +kernel
theorem dL_isSo_450 : decode cL_isSo 450 = .ok (.iload 14, 2) := by decide +kernel
theorem dL_isSo_452 : decode cL_isSo 452 = .ok (.iconst (-1), 1) := by decide +kernel
theorem dL_isSo_453 : decode cL_isSo 453 = .ok (.iconst (-1), 1) := by decide +kernel
theorem dL_isSo_454 : decode cL_isSo 454 = .ok (.aload_n 2, 1) := by decide +kernel
theorem dL_isSo_455 : decode cL_isSo 455 = .ok (.aload 6, 2) := by decide +kernel
theorem dL_isSo_457 : decode cL_isSo 457 = .ok (.invokestatic 119, 3) := by decide +kernel
theorem dL_isSo_460 : decode cL_isSo 460 = .ok (.iload 17, 2) := by decide +kernel
theorem dL_isSo_462 : decode cL_isSo 462 = .ok (.ishr, 1) := by decide +kernel
theorem dL_isSo_463 : decode cL_isSo 463 = .ok (.iconst 1, 1) := by decide +kernel
theorem dL_isSo_464 : decode cL_isSo 464 = .ok (.iand, 1) := by decide +kernel
theorem dL_isSo_465 : decode cL_isSo 465 = .ok (.ifCond .ne 7, 3) := by decide +kernel
theorem dL_isSo_468 : decode cL_isSo 468 = .ok (.iconst 1, 1) := by decide +kernel
theorem dL_isSo_469 : decode cL_isSo 469 = .ok (.goto 4, 3) := by decide +kernel
theorem dL_isSo_472 : decode cL_isSo 472 = .ok (.iconst 0, 1) := by decide +kernel
theorem dL_isSo_473 : decode cL_isSo 473 = .ok (.istore 18, 2) := by decide +kernel
theorem dL_isSo_475 : decode cL_isSo 475 = .ok (.iload 13, 2) := by decide +kernel
theorem dL_isSo_477 : decode cL_isSo 477 = .ok (.ifCond .eq 105, 3) := by decide +kernel
theorem dL_isSo_480 : decode cL_isSo 480 = .ok (.aload_n 0, 1) := by decide +kernel
theorem dL_isSo_481 : decode cL_isSo 481 = .ok (.iload 14, 2) := by decide +kernel
theorem dL_isSo_483 : decode cL_isSo 483 = .ok (.iconst 0, 1) := by decide +kernel
theorem dL_isSo_484 : decode cL_isSo 484 = .ok (.invokestatic 187, 3) := by decide +kernel
theorem dL_isSo_487 : decode cL_isSo 487 = .ok (.iload 15, 2) := by decide +kernel
theorem dL_isSo_489 : decode cL_isSo 489 = .ok (.ifCond .eq 8, 3) := by decide +kernel
theorem dL_isSo_492 : decode cL_isSo 492 = .ok (.iload 16, 2) := by decide +kernel
theorem dL_isSo_494 : decode cL_isSo 494 = .ok (.goto 4, 3) := by decide +kernel
theorem dL_isSo_497 : decode cL_isSo 497 = .ok (.iconst (-1), 1) := by decide +kernel
theorem dL_isSo_498 : decode cL_isSo 498 = .ok (.if_icmp .ne 84, 3) := by decide +kernel
theorem dL_isSo_501 : decode cL_isSo 501 = .ok (.aload_n 0, 1) := by decide +kernel
theorem dL_isSo_502 : decode cL_isSo 502 = .ok (.iload 14, 2) := by decide +kernel
theorem dL_isSo_504 : decode cL_isSo 504 = .ok (.iconst 1, 1) := by decide +kernel
theorem dL_isSo_505 : decode cL_isSo 505 = .ok (.invokestatic 187, 3) := by decide +kernel
theorem dL_isSo_508 : decode cL_isSo 508 = .ok (.iload 15, 2) := by decide +kernel
theorem dL_isSo_510 : decode cL_isSo 510 = .ok (.ifCond .eq 8, 3) := by decide +kernel
theorem dL_isSo_513 : decode cL_isSo 513 = .ok (.iload 17, 2) := by decide +kernel
theorem dL_isSo_515 : decode cL_isSo 515 = .ok (.goto 4, 3) := by decide +kernel
theorem dL_isSo_518 : decode cL_isSo 518 = .ok (.iconst (-1), 1) := by decide +kernel
theorem dL_isSo_519 : decode cL_isSo 519 = .ok (.if_icmp .ne 63, 3) := by decide +kernel
theorem dL_isSo_522 : decode cL_isSo 522 = .ok (.aload_n 0, 1) := by decide +kernel
theorem dL_isSo_523 : decode cL_isSo 523 = .ok (.iload 14, 2) := by decide +kernel
theorem dL_isSo_525 : decode cL_isSo 525 = .ok (.iconst 2, 1) := by decide +kernel
theorem dL_isSo_526 : decode cL_isSo 526 = .ok (.invokestatic 187, 3) := by decide +kernel
theorem dL_isSo_529 : decode cL_isSo 529 = .ok (.iload 15, 2) := by decide +kernel
theorem dL_isSo_531 : decode cL_isSo 531 = .ok (.ifCond .eq 14, 3) := by decide +kernel
theorem dL_isSo_534 : decode cL_isSo 534 = .ok (.aload 6, 2) := by decide +kernel
theorem dL_isSo_536 : decode cL_isSo 536 = .ok (.iload 14, 2) := by decide +kernel
theorem dL_isSo_538 : decode cL_isSo 538 = .ok (.iaload, 1) := by decide +kernel
theorem dL_isSo_539 : decode cL_isSo 539 = .ok (.bipush 8, 2) := by decide +kernel
theorem dL_isSo_541 : decode cL_isSo 541 = .ok (.ishr, 1) := by decide +kernel
theorem dL_isSo_542 : decode cL_isSo 542 = .ok (.goto 4, 3) := by decide +kernel
theorem dL_isSo_545 : decode cL_isSo 545 = .ok (.iconst (-1), 1) := by decide +kernel
theorem dL_isSo_546 : decode cL_isSo 546 = .ok (.if_icmp .ne 36, 3) := by decide +kernel
theorem dL_isSo_549 : decode cL_isSo 549 = .ok (.aload_n 0, 1) := by decide +kernel
theorem dL_isSo_550 : decode cL_isSo 550 = .ok (.iload 14, 2) := by decide +kernel
theorem dL_isSo_552 : decode cL_isSo 552 = .ok (.iconst 3, 1) := by decide +kernel
theorem dL_isSo_553 : decode cL_isSo 553 = .ok (.invokestatic 187, 3) := by decide +kernel
theorem dL_isSo_556 : decode cL_isSo 556 = .ok (.iload 15, 2) := by decide +kernel
theorem dL_isSo_558 : decode cL_isSo 558 = .ok (.ifCond .ne 7, 3) := by decide +kernel
theorem dL_isSo_561 : decode cL_isSo 561 = .ok (.iconst (-1), 1) := by decide +kernel
theorem dL_isSo_562 : decode cL_isSo 562 = .ok (.goto 13, 3) := by decide +kernel
theorem dL_isSo_565 : decode cL_isSo 565 = .ok (.iload 18, 2) := by decide +kernel
theorem dL_isSo_567 : decode cL_isSo 567 = .ok (.ifCond .eq 7, 3) := by decide +kernel
theorem dL_isSo_570 : decode cL_isSo 570 = .ok (.iconst 1, 1) := by decide +kernel
theorem dL_isSo_571 : decode cL_isSo 571 = .ok (.goto 4, 3) := by decide +kernel
theorem dL_isSo_574 : decode cL_isSo 574 = .ok (.iconst 0, 1) := by decide +kernel
theorem dL_isSo_575 : decode cL_isSo 575 = .ok (.if_icmp .ne 7, 3) := by decide +kernel
theorem dL_isSo_578 : decode cL_isSo 578 = .ok (.iconst 1, 1) := by decide +kernel
theorem dL_isSo_579 : decode cL_isSo 579 = .ok (.goto 4, 3) := by decide +kernel
theorem dL_isSo_582 : decode cL_isSo 582 = .ok (.iconst 0, 1) := by decide +kernel
theorem dL_isSo_583 : decode cL_isSo 583 = .ok (.istore 13, 2) := by decide +kernel
theorem dL_isSo_585 : decode cL_isSo 585 = .ok (.iload 13, 2) := by decide +kernel
theorem dL_isSo_587 : decode cL_isSo 587 = .ok (.ifCond .eq 54, 3) := by decide +kernel
theorem dL_isSo_590 : decode cL_isSo 590 = .ok (.aload_n 2, 1) := by decide +kernel
theorem dL_isSo_591 : decode cL_isSo 591 = .ok (.bipush 9, 2) := by decide +kernel
theorem dL_isSo_593 : decode cL_isSo 593 = .ok (.iaload, 1) := by decide +kernel
theorem dL_isSo_594 : decode cL_isSo 594 = .ok (.ifCond .eq 43, 3) := by decide +kernel
theorem dL_isSo_597 : decode cL_isSo 597 = .ok (.aload_n 0, 1) := by decide +kernel
theorem dL_isSo_598 : decode cL_isSo 598 = .ok (.iload_n 1, 1) := by decide +kernel
theorem dL_isSo_599 : decode cL_isSo 599 = .ok (.iconst 5, 1) := by decide +kernel
theorem dL_isSo_600 : decode cL_isSo 600 = .ok (.ishr, 1) := by decide +kernel
theorem dL_isSo_601 : decode cL_isSo 601 = .ok (.aload_n 2, 1) := by decide +kernel
theorem dL_isSo_602 : decode cL_isSo 602 = .ok (.bipush 9, 2) := by decide +kernel
theorem dL_isSo_604 : decode cL_isSo 604 = .ok (.iaload, 1) := by decide +kernel
theorem dL_isSo_605 : decode cL_isSo 605 = .ok (.invokestatic 85, 3) := by decide +kernel
theorem dL_isSo_608 : decode cL_isSo 608 = .ok (.iload_n 1, 1) := by decide +kernel
theorem dL_isSo_609 : decode cL_isSo 609 = .ok (.bipush 9, 2) := by decide +kernel
theorem dL_isSo_611 : decode cL_isSo 611 = .ok (.ishr, 1) := by decide +kernel
theorem dL_isSo_612 : decode cL_isSo 612 = .ok (.aload_n 2, 1) := by decide +kernel
theorem dL_isSo_613 : decode cL_isSo 613 = .ok (.bipush 9, 2) := by decide +kernel
theorem dL_isSo_615 : decode cL_isSo 615 = .ok (.iaload, 1) := by decide +kernel
theorem dL_isSo_616 : decode cL_isSo 616 = .ok (.invokestatic 85, 3) := by decide +kernel
theorem dL_isSo_619 : decode cL_isSo 619 = .ok (.iload_n 1, 1) := by decide +kernel
theorem dL_isSo_620 : decode cL_isSo 620 = .ok (.bipush 12, 2) := by decide +kernel
theorem dL_isSo_622 : decode cL_isSo 622 = .ok (.ishr, 1) := by decide +kernel
theorem dL_isSo_623 : decode cL_isSo 623 = .ok (.aload_n 2, 1) := by decide +kernel
theorem dL_isSo_624 : decode cL_isSo 624 = .ok (.aload_n 3, 1) := by decide +kernel
theorem dL_isSo_625 : decode cL_isSo 625 = .ok (.aload 4, 2) := by decide +kernel
theorem dL_isSo_627 : decode cL_isSo 627 = .ok (.aload 5, 2) := by decide +kernel
theorem dL_isSo_629 : decode cL_isSo 629 = .ok (.aload 6, 2) := by decide +kernel
theorem dL_isSo_631 : decode cL_isSo 631 = .ok (.invokestatic 189, 3) := by decide +kernel
theorem dL_isSo_634 : decode cL_isSo 634 = .ok (.ifCond .eq 7, 3) := by decide +kernel
theorem dL_isSo_637 : decode cL_isSo 637 = .ok (.iconst 1, 1) := by decide +kernel
theorem dL_isSo_638 : decode cL_isSo 638 = .ok (.goto 4, 3) := by decide +kernel
theorem dL_isSo_641 : decode cL_isSo 641 = .ok (.iconst 0, 1) := by decide +kernel
theorem dL_isSo_642 : decode cL_isSo 642 = .ok (.ireturn, 1) := by decide +kernel
theorem dL_told_0 : decode cL_told 0 = .ok (.ldc2_w 193, 3) := by decide +kernel
theorem dL_told_3 : decode cL_told 3 = .ok (.lstore_n 1, 1) := by decide +kernel
theorem dL_told_4 : decode cL_told 4 = .ok (.iconst 0, 1) := by decide +kernel
theorem dL_told_5 : decode cL_told 5 = .ok (.istore_n 3, 1) := by decide +kernel
theorem dL_told_6 : decode cL_told 6 = .ok (.iload_n 3, 1) := by decide +kernel
theorem dL_told_7 : decode cL_told 7 = .ok (.bipush 17, 2) := by decide +kernel
theorem dL_told_9 : decode cL_told 9 = .ok (.if_icmp .ge 22, 3) := by decide +kernel
theorem dL_told_12 : decode cL_told 12 = .ok (.ldc2_w 195, 3) := by decide +kernel
theorem dL_told_15 : decode cL_told 15 = .ok (.lload_n 1, 1) := by decide +kernel
theorem dL_told_16 : decode cL_told 16 = .ok (.lmul, 1) := by decide +kernel
theorem dL_told_17 : decode cL_told 17 = .ok (.aload_n 0, 1) := by decide +kernel
theorem dL_told_18 : decode cL_told 18 = .ok (.iload_n 3, 1) := by decide +kernel
theorem dL_told_19 : decode cL_told 19 = .ok (.invokestatic 181, 3) := by decide +kernel
theorem dL_told_22 : decode cL_told 22 = .ok (.i2l, 1) := by decide +kernel
theorem dL_told_23 : decode cL_told 23 = .ok (.ladd, 1) := by decide +kernel
theorem dL_told_24 : decode cL_told 24 = .ok (.lstore_n 1, 1) := by decide +kernel
theorem dL_told_25 : decode cL_told 25 = .ok (.iinc 3 1, 3) := by decide +kernel
theorem dL_told_28 : decode cL_told 28 = .ok (.goto (-22), 3) := by decide +kernel
theorem dL_told_31 : decode cL_told 31 = .ok (.iconst 0, 1) := by decide +kernel
theorem dL_told_32 : decode cL_told 32 = .ok (.istore_n 3, 1) := by decide +kernel
theorem dL_told_33 : decode cL_told 33 = .ok (.iload_n 3, 1) := by decide +kernel
theorem dL_told_34 : decode cL_told 34 = .ok (.bipush 28, 2) := by decide +kernel
theorem dL_told_36 : decode cL_told 36 = .ok (.if_icmp .ge 47, 3) := by decide +kernel
theorem dL_told_39 : decode cL_told 39 = .ok (.ldc2_w 195, 3) := by decide +kernel
theorem dL_told_42 : decode cL_told 42 = .ok (.ldc2_w 195, 3) := by decide +kernel
theorem dL_told_45 : decode cL_told 45 = .ok (.lload_n 1, 1) := by decide +kernel
theorem dL_told_46 : decode cL_told 46 = .ok (.lmul, 1) := by decide +kernel
theorem dL_told_47 : decode cL_told 47 = .ok (.aload_n 0, 1) := by decide +kernel
theorem dL_told_48 : decode cL_told 48 = .ok (.iload_n 3, 1) := by decide +kernel
theorem dL_told_49 : decode cL_told 49 = .ok (.iconst 0, 1) := by decide +kernel
theorem dL_told_50 : decode cL_told 50 = .ok (.invokestatic 187, 3) := by decide +kernel
theorem dL_told_53 : decode cL_told 53 = .ok (.i2l, 1) := by decide +kernel
theorem dL_told_54 : decode cL_told 54 = .ok (.ladd, 1) := by decide +kernel
theorem dL_told_55 : decode cL_told 55 = .ok (.ldc2_w 197, 3) := by decide +kernel
theorem dL_told_58 : decode cL_told 58 = .ok (.aload_n 0, 1) := by decide +kernel
theorem dL_told_59 : decode cL_told 59 = .ok (.iload_n 3, 1) := by decide +kernel
theorem dL_told_60 : decode cL_told 60 = .ok (.iconst 1, 1) := by decide +kernel
theorem dL_told_61 : decode cL_told 61 = .ok (.invokestatic 187, 3) := by decide +kernel
theorem dL_told_64 : decode cL_told 64 = .ok (.i2l, 1) := by decide +kernel
theorem dL_told_65 : decode cL_told 65 = .ok (.lmul, 1) := by decide +kernel
theorem dL_told_66 : decode cL_told 66 = .ok (.ladd, 1) := by decide +kernel
theorem dL_told_67 : decode cL_told 67 = .ok (.lmul, 1) := by decide +kernel
theorem dL_told_68 : decode cL_told 68 = .ok (.aload_n 0, 1) := by decide +kernel
theorem dL_told_69 : decode cL_told 69 = .ok (.iload_n 3, 1) := by decide +kernel
theorem dL_told_70 : decode cL_told 70 = .ok (.iconst 2, 1) := by decide +kernel
theorem dL_told_71 : decode cL_told 71 = .ok (.invokestatic 187, 3) := by decide +kernel
theorem dL_told_74 : decode cL_told 74 = .ok (.i2l, 1) := by decide +kernel
theorem dL_told_75 : decode cL_told 75 = .ok (.ladd, 1) := by decide +kernel
theorem dL_told_76 : decode cL_told 76 = .ok (.lstore_n 1, 1) := by decide +kernel
theorem dL_told_77 : decode cL_told 77 = .ok (.iinc 3 1, 3) := by decide +kernel
theorem dL_told_80 : decode cL_told 80 = .ok (.goto (-47), 3) := by decide +kernel
theorem dL_told_83 : decode cL_told 83 = .ok (.iconst 0, 1) := by decide +kernel
theorem dL_told_84 : decode cL_told 84 = .ok (.istore_n 3, 1) := by decide +kernel
theorem dL_told_85 : decode cL_told 85 = .ok (.iload_n 3, 1) := by decide +kernel
theorem dL_told_86 : decode cL_told 86 = .ok (.bipush 48, 2) := by decide +kernel
theorem dL_told_88 : decode cL_told 88 = .ok (.if_icmp .ge 47, 3) := by decide +kernel
theorem dL_told_91 : decode cL_told 91 = .ok (.ldc2_w 195, 3) := by decide +kernel
theorem dL_told_94 : decode cL_told 94 = .ok (.ldc2_w 195, 3) := by decide +kernel
theorem dL_told_97 : decode cL_told 97 = .ok (.lload_n 1, 1) := by decide +kernel
theorem dL_told_98 : decode cL_told 98 = .ok (.lmul, 1) := by decide +kernel
theorem dL_told_99 : decode cL_told 99 = .ok (.aload_n 0, 1) := by decide +kernel
theorem dL_told_100 : decode cL_told 100 = .ok (.iload_n 3, 1) := by decide +kernel
theorem dL_told_101 : decode cL_told 101 = .ok (.bipush 6, 2) := by decide +kernel
theorem dL_told_103 : decode cL_told 103 = .ok (.idiv, 1) := by decide +kernel
theorem dL_told_104 : decode cL_told 104 = .ok (.iload_n 3, 1) := by decide +kernel
theorem dL_told_105 : decode cL_told 105 = .ok (.bipush 6, 2) := by decide +kernel
theorem dL_told_107 : decode cL_told 107 = .ok (.irem, 1) := by decide +kernel
theorem dL_told_108 : decode cL_told 108 = .ok (.invokestatic 164, 3) := by decide +kernel
theorem dL_told_111 : decode cL_told 111 = .ok (.i2l, 1) := by decide +kernel
theorem dL_told_112 : decode cL_told 112 = .ok (.ladd, 1) := by decide +kernel
theorem dL_told_113 : decode cL_told 113 = .ok (.lmul, 1) := by decide +kernel
theorem dL_told_114 : decode cL_told 114 = .ok (.aload_n 0, 1) := by decide +kernel
theorem dL_told_115 : decode cL_told 115 = .ok (.iload_n 3, 1) := by decide +kernel
theorem dL_told_116 : decode cL_told 116 = .ok (.bipush 6, 2) := by decide +kernel
theorem dL_told_118 : decode cL_told 118 = .ok (.idiv, 1) := by decide +kernel
theorem dL_told_119 : decode cL_told 119 = .ok (.iload_n 3, 1) := by decide +kernel
theorem dL_told_120 : decode cL_told 120 = .ok (.bipush 6, 2) := by decide +kernel
theorem dL_told_122 : decode cL_told 122 = .ok (.irem, 1) := by decide +kernel
theorem dL_told_123 : decode cL_told 123 = .ok (.invokestatic 175, 3) := by decide +kernel
theorem dL_told_126 : decode cL_told 126 = .ok (.i2l, 1) := by decide +kernel
theorem dL_told_127 : decode cL_told 127 = .ok (.ladd, 1) := by decide +kernel
theorem dL_told_128 : decode cL_told 128 = .ok (.lstore_n 1, 1) := by decide +kernel
theorem dL_told_129 : decode cL_told 129 = .ok (.iinc 3 1, 3) := by decide +kernel
theorem dL_told_132 : decode cL_told 132 = .ok (.goto (-47), 3) := by decide +kernel
theorem dL_told_135 : decode cL_told 135 = .ok (.lload_n 1, 1) := by decide +kernel
theorem dL_told_136 : decode cL_told 136 = .ok (.lreturn, 1) := by decide +kernel
