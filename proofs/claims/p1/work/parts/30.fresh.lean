theorem d_Re_findFault_0 : decode M_Re_findFault.2.1 0 = .ok (.aload_n 0, 1) := by decide +kernel
theorem d_Re_findFault_1 : decode M_Re_findFault.2.1 1 = .ok (.getfield 12, 3) := by decide +kernel
theorem d_Re_findFault_4 : decode M_Re_findFault.2.1 4 = .ok (.iconst 0, 1) := by decide +kernel
theorem d_Re_findFault_5 : decode M_Re_findFault.2.1 5 = .ok (.putfield 30, 3) := by decide +kernel
theorem d_Re_findFault_8 : decode M_Re_findFault.2.1 8 = .ok (.aload_n 0, 1) := by decide +kernel
theorem d_Re_findFault_9 : decode M_Re_findFault.2.1 9 = .ok (.iconst 0, 1) := by decide +kernel
theorem d_Re_findFault_10 : decode M_Re_findFault.2.1 10 = .ok (.putfield 34, 3) := by decide +kernel
theorem d_Re_findFault_13 : decode M_Re_findFault.2.1 13 = .ok (.iconst 0, 1) := by decide +kernel
theorem d_Re_findFault_14 : decode M_Re_findFault.2.1 14 = .ok (.istore_n 2, 1) := by decide +kernel
theorem d_Re_findFault_15 : decode M_Re_findFault.2.1 15 = .ok (.iload_n 2, 1) := by decide +kernel
theorem d_Re_findFault_16 : decode M_Re_findFault.2.1 16 = .ok (.bipush 16, 2) := by decide +kernel
theorem d_Re_findFault_18 : decode M_Re_findFault.2.1 18 = .ok (.if_icmp .gt 79, 3) := by decide +kernel
theorem d_Re_findFault_21 : decode M_Re_findFault.2.1 21 = .ok (.aload_n 0, 1) := by decide +kernel
theorem d_Re_findFault_22 : decode M_Re_findFault.2.1 22 = .ok (.getfield 34, 3) := by decide +kernel
theorem d_Re_findFault_25 : decode M_Re_findFault.2.1 25 = .ok (.aload_n 0, 1) := by decide +kernel
theorem d_Re_findFault_26 : decode M_Re_findFault.2.1 26 = .ok (.getfield 22, 3) := by decide +kernel
theorem d_Re_findFault_29 : decode M_Re_findFault.2.1 29 = .ok (.getfield 37, 3) := by decide +kernel
theorem d_Re_findFault_32 : decode M_Re_findFault.2.1 32 = .ok (.if_icmp .ge 65, 3) := by decide +kernel
theorem d_Re_findFault_97 : decode M_Re_findFault.2.1 97 = .ok (.iconst (-1), 1) := by decide +kernel
theorem d_Re_findFault_98 : decode M_Re_findFault.2.1 98 = .ok (.ireturn, 1) := by decide +kernel
theorem d_Wr_length_0 : decode M_Wr_length.2.1 0 = .ok (.iconst 0, 1) := by decide +kernel
theorem d_Wr_length_1 : decode M_Wr_length.2.1 1 = .ok (.istore_n 2, 1) := by decide +kernel
theorem d_Wr_length_2 : decode M_Wr_length.2.1 2 = .ok (.iconst 0, 1) := by decide +kernel
theorem d_Wr_length_3 : decode M_Wr_length.2.1 3 = .ok (.istore_n 3, 1) := by decide +kernel
theorem d_Wr_length_4 : decode M_Wr_length.2.1 4 = .ok (.iload_n 3, 1) := by decide +kernel
theorem d_Wr_length_5 : decode M_Wr_length.2.1 5 = .ok (.aload_n 0, 1) := by decide +kernel
theorem d_Wr_length_6 : decode M_Wr_length.2.1 6 = .ok (.getfield 19, 3) := by decide +kernel
theorem d_Wr_length_9 : decode M_Wr_length.2.1 9 = .ok (.getfield 23, 3) := by decide +kernel
theorem d_Wr_length_12 : decode M_Wr_length.2.1 12 = .ok (.if_icmp .ge 28, 3) := by decide +kernel
theorem d_Wr_length_40 : decode M_Wr_length.2.1 40 = .ok (.iload_n 2, 1) := by decide +kernel
theorem d_Wr_length_41 : decode M_Wr_length.2.1 41 = .ok (.ireturn, 1) := by decide +kernel
theorem d_Wr_fill_0 : decode M_Wr_fill.2.1 0 = .ok (.aload_n 0, 1) := by decide +kernel
theorem d_Wr_fill_1 : decode M_Wr_fill.2.1 1 = .ok (.getfield 9, 3) := by decide +kernel
theorem d_Wr_fill_4 : decode M_Wr_fill.2.1 4 = .ok (.iconst 0, 1) := by decide +kernel
theorem d_Wr_fill_5 : decode M_Wr_fill.2.1 5 = .ok (.putfield 57, 3) := by decide +kernel
theorem d_Wr_fill_8 : decode M_Wr_fill.2.1 8 = .ok (.iconst 0, 1) := by decide +kernel
theorem d_Wr_fill_9 : decode M_Wr_fill.2.1 9 = .ok (.istore_n 2, 1) := by decide +kernel
theorem d_Wr_fill_10 : decode M_Wr_fill.2.1 10 = .ok (.iload_n 2, 1) := by decide +kernel
theorem d_Wr_fill_11 : decode M_Wr_fill.2.1 11 = .ok (.aload_n 0, 1) := by decide +kernel
theorem d_Wr_fill_12 : decode M_Wr_fill.2.1 12 = .ok (.getfield 19, 3) := by decide +kernel
theorem d_Wr_fill_15 : decode M_Wr_fill.2.1 15 = .ok (.getfield 23, 3) := by decide +kernel
theorem d_Wr_fill_18 : decode M_Wr_fill.2.1 18 = .ok (.if_icmp .ge 39, 3) := by decide +kernel
theorem d_Wr_fill_57 : decode M_Wr_fill.2.1 57 = .ok (.return_, 1) := by decide +kernel
theorem d_Rp_leastFrom_0 : decode M_Rp_leastFrom.2.1 0 = .ok (.iload_n 1, 1) := by decide +kernel
theorem d_Rp_leastFrom_1 : decode M_Rp_leastFrom.2.1 1 = .ok (.aload_n 0, 1) := by decide +kernel
theorem d_Rp_leastFrom_2 : decode M_Rp_leastFrom.2.1 2 = .ok (.getfield 33, 3) := by decide +kernel
theorem d_Rp_leastFrom_5 : decode M_Rp_leastFrom.2.1 5 = .ok (.getfield 45, 3) := by decide +kernel
theorem d_Rp_leastFrom_8 : decode M_Rp_leastFrom.2.1 8 = .ok (.if_icmp .lt 5, 3) := by decide +kernel
theorem d_Rp_leastFrom_11 : decode M_Rp_leastFrom.2.1 11 = .ok (.iconst 0, 1) := by decide +kernel
theorem d_Rp_leastFrom_12 : decode M_Rp_leastFrom.2.1 12 = .ok (.ireturn, 1) := by decide +kernel
theorem d_Rp_leastSum_0 : decode M_Rp_leastSum.2.1 0 = .ok (.aload_n 0, 1) := by decide +kernel
theorem d_Rp_leastSum_1 : decode M_Rp_leastSum.2.1 1 = .ok (.getfield 33, 3) := by decide +kernel
theorem d_Rp_leastSum_4 : decode M_Rp_leastSum.2.1 4 = .ok (.getfield 45, 3) := by decide +kernel
theorem d_Rp_leastSum_7 : decode M_Rp_leastSum.2.1 7 = .ok (.iconst 1, 1) := by decide +kernel
theorem d_Rp_leastSum_8 : decode M_Rp_leastSum.2.1 8 = .ok (.isub, 1) := by decide +kernel
theorem d_Rp_leastSum_9 : decode M_Rp_leastSum.2.1 9 = .ok (.istore_n 1, 1) := by decide +kernel
theorem d_Rp_leastSum_10 : decode M_Rp_leastSum.2.1 10 = .ok (.iload_n 1, 1) := by decide +kernel
theorem d_Rp_leastSum_11 : decode M_Rp_leastSum.2.1 11 = .ok (.ifCond .lt 104, 3) := by decide +kernel
theorem d_Rp_leastSum_115 : decode M_Rp_leastSum.2.1 115 = .ok (.aload_n 0, 1) := by decide +kernel
theorem d_Rp_leastSum_116 : decode M_Rp_leastSum.2.1 116 = .ok (.iconst 0, 1) := by decide +kernel
theorem d_Rp_leastSum_117 : decode M_Rp_leastSum.2.1 117 = .ok (.iconst 0, 1) := by decide +kernel
theorem d_Rp_leastSum_118 : decode M_Rp_leastSum.2.1 118 = .ok (.invokevirtual 83, 3) := by decide +kernel
theorem d_Rp_leastSum_121 : decode M_Rp_leastSum.2.1 121 = .ok (.ireturn, 1) := by decide +kernel
theorem d_Rp_take_0 : decode M_Rp_take.2.1 0 = .ok (.iconst 0, 1) := by decide +kernel
theorem d_Rp_take_1 : decode M_Rp_take.2.1 1 = .ok (.istore_n 1, 1) := by decide +kernel
theorem d_Rp_take_2 : decode M_Rp_take.2.1 2 = .ok (.iconst 0, 1) := by decide +kernel
theorem d_Rp_take_3 : decode M_Rp_take.2.1 3 = .ok (.istore_n 2, 1) := by decide +kernel
theorem d_Rp_take_4 : decode M_Rp_take.2.1 4 = .ok (.iload_n 2, 1) := by decide +kernel
theorem d_Rp_take_5 : decode M_Rp_take.2.1 5 = .ok (.aload_n 0, 1) := by decide +kernel
theorem d_Rp_take_6 : decode M_Rp_take.2.1 6 = .ok (.getfield 33, 3) := by decide +kernel
theorem d_Rp_take_9 : decode M_Rp_take.2.1 9 = .ok (.getfield 45, 3) := by decide +kernel
theorem d_Rp_take_12 : decode M_Rp_take.2.1 12 = .ok (.if_icmp .ge 86, 3) := by decide +kernel
theorem d_Rp_take_98 : decode M_Rp_take.2.1 98 = .ok (.return_, 1) := by decide +kernel
theorem d_CB_read_0 : decode M_CB_read.2.1 0 = .ok (.iload_n 1, 1) := by decide +kernel
theorem d_CB_read_1 : decode M_CB_read.2.1 1 = .ok (.invokestatic 96, 3) := by decide +kernel
theorem d_CB_read_4 : decode M_CB_read.2.1 4 = .ok (.ifCond .ne 6, 3) := by decide +kernel
theorem d_CB_read_7 : decode M_CB_read.2.1 7 = .ok (.bipush (-2), 2) := by decide +kernel
theorem d_CB_read_9 : decode M_CB_read.2.1 9 = .ok (.ireturn, 1) := by decide +kernel
theorem d_CB_read_10 : decode M_CB_read.2.1 10 = .ok (.aload_n 0, 1) := by decide +kernel
theorem d_CB_read_11 : decode M_CB_read.2.1 11 = .ok (.getfield 49, 3) := by decide +kernel
theorem d_CB_read_14 : decode M_CB_read.2.1 14 = .ok (.iload_n 1, 1) := by decide +kernel
theorem d_CB_read_15 : decode M_CB_read.2.1 15 = .ok (.invokevirtual 100, 3) := by decide +kernel
theorem d_CB_read_18 : decode M_CB_read.2.1 18 = .ok (.istore_n 2, 1) := by decide +kernel
theorem d_CB_read_19 : decode M_CB_read.2.1 19 = .ok (.iload_n 2, 1) := by decide +kernel
theorem d_CB_read_20 : decode M_CB_read.2.1 20 = .ok (.iconst (-1), 1) := by decide +kernel
theorem d_CB_read_21 : decode M_CB_read.2.1 21 = .ok (.if_icmp .eq 8, 3) := by decide +kernel
theorem d_CB_read_29 : decode M_CB_read.2.1 29 = .ok (.aload_n 0, 1) := by decide +kernel
theorem d_CB_read_30 : decode M_CB_read.2.1 30 = .ok (.getfield 40, 3) := by decide +kernel
theorem d_CB_read_33 : decode M_CB_read.2.1 33 = .ok (.aload_n 0, 1) := by decide +kernel
theorem d_CB_read_34 : decode M_CB_read.2.1 34 = .ok (.getfield 33, 3) := by decide +kernel
theorem d_CB_read_37 : decode M_CB_read.2.1 37 = .ok (.invokevirtual 103, 3) := by decide +kernel
theorem d_CB_read_40 : decode M_CB_read.2.1 40 = .ok (.aload_n 0, 1) := by decide +kernel
theorem d_CB_read_41 : decode M_CB_read.2.1 41 = .ok (.getfield 33, 3) := by decide +kernel
theorem d_CB_read_44 : decode M_CB_read.2.1 44 = .ok (.aload_n 0, 1) := by decide +kernel
theorem d_CB_read_45 : decode M_CB_read.2.1 45 = .ok (.getfield 49, 3) := by decide +kernel
theorem d_CB_read_48 : decode M_CB_read.2.1 48 = .ok (.getfield 106, 3) := by decide +kernel
theorem d_CB_read_51 : decode M_CB_read.2.1 51 = .ok (.invokevirtual 109, 3) := by decide +kernel
theorem d_CB_read_54 : decode M_CB_read.2.1 54 = .ok (.aload_n 0, 1) := by decide +kernel
theorem d_CB_read_55 : decode M_CB_read.2.1 55 = .ok (.getfield 33, 3) := by decide +kernel
theorem d_CB_read_58 : decode M_CB_read.2.1 58 = .ok (.getfield 112, 3) := by decide +kernel
theorem d_CB_read_61 : decode M_CB_read.2.1 61 = .ok (.ireturn, 1) := by decide +kernel
theorem d_CB_write_0 : decode M_CB_write.2.1 0 = .ok (.iload_n 1, 1) := by decide +kernel
theorem d_CB_write_1 : decode M_CB_write.2.1 1 = .ok (.invokestatic 96, 3) := by decide +kernel
theorem d_CB_write_4 : decode M_CB_write.2.1 4 = .ok (.ifCond .ne 6, 3) := by decide +kernel
theorem d_CB_write_7 : decode M_CB_write.2.1 7 = .ok (.bipush (-2), 2) := by decide +kernel
theorem d_CB_write_9 : decode M_CB_write.2.1 9 = .ok (.ireturn, 1) := by decide +kernel
theorem d_CB_write_10 : decode M_CB_write.2.1 10 = .ok (.aload_n 0, 1) := by decide +kernel
theorem d_CB_write_11 : decode M_CB_write.2.1 11 = .ok (.getfield 58, 3) := by decide +kernel
theorem d_CB_write_14 : decode M_CB_write.2.1 14 = .ok (.iload_n 1, 1) := by decide +kernel
theorem d_CB_write_15 : decode M_CB_write.2.1 15 = .ok (.invokevirtual 115, 3) := by decide +kernel
theorem d_CB_write_18 : decode M_CB_write.2.1 18 = .ok (.sipush 1000, 3) := by decide +kernel
theorem d_CB_write_21 : decode M_CB_write.2.1 21 = .ok (.if_icmp .le 6, 3) := by decide +kernel
theorem d_CB_write_27 : decode M_CB_write.2.1 27 = .ok (.aload_n 0, 1) := by decide +kernel
theorem d_CB_write_28 : decode M_CB_write.2.1 28 = .ok (.getfield 58, 3) := by decide +kernel
theorem d_CB_write_31 : decode M_CB_write.2.1 31 = .ok (.iload_n 1, 1) := by decide +kernel
theorem d_CB_write_32 : decode M_CB_write.2.1 32 = .ok (.invokevirtual 118, 3) := by decide +kernel
theorem d_CB_write_35 : decode M_CB_write.2.1 35 = .ok (.aload_n 0, 1) := by decide +kernel
theorem d_CB_write_36 : decode M_CB_write.2.1 36 = .ok (.getfield 10, 3) := by decide +kernel
theorem d_CB_write_39 : decode M_CB_write.2.1 39 = .ok (.getfield 80, 3) := by decide +kernel
theorem d_CB_write_42 : decode M_CB_write.2.1 42 = .ok (.ireturn, 1) := by decide +kernel
theorem d_CB_cue_0 : decode M_CB_cue.2.1 0 = .ok (.aload_n 0, 1) := by decide +kernel
theorem d_CB_cue_1 : decode M_CB_cue.2.1 1 = .ok (.getfield 33, 3) := by decide +kernel
theorem d_CB_cue_4 : decode M_CB_cue.2.1 4 = .ok (.iload_n 1, 1) := by decide +kernel
theorem d_CB_cue_5 : decode M_CB_cue.2.1 5 = .ok (.invokevirtual 121, 3) := by decide +kernel
theorem d_CB_cue_8 : decode M_CB_cue.2.1 8 = .ok (.ifCond .ne 7, 3) := by decide +kernel
theorem d_CB_cue_11 : decode M_CB_cue.2.1 11 = .ok (.ldc2_w 124, 3) := by decide +kernel
theorem d_CB_cue_14 : decode M_CB_cue.2.1 14 = .ok (.lreturn, 1) := by decide +kernel
theorem d_CB_text_0 : decode M_CB_text.2.1 0 = .ok (.aload_n 0, 1) := by decide +kernel
theorem d_CB_text_1 : decode M_CB_text.2.1 1 = .ok (.getfield 33, 3) := by decide +kernel
theorem d_CB_text_4 : decode M_CB_text.2.1 4 = .ok (.iload_n 1, 1) := by decide +kernel
theorem d_CB_text_5 : decode M_CB_text.2.1 5 = .ok (.invokevirtual 121, 3) := by decide +kernel
theorem d_CB_text_8 : decode M_CB_text.2.1 8 = .ok (.ifCond .eq 20, 3) := by decide +kernel
theorem d_CB_text_28 : decode M_CB_text.2.1 28 = .ok (.iconst (-1), 1) := by decide +kernel
theorem d_CB_text_29 : decode M_CB_text.2.1 29 = .ok (.ireturn, 1) := by decide +kernel
theorem d_CB_repair_0 : decode M_CB_repair.2.1 0 = .ok (.aload_n 0, 1) := by decide +kernel
theorem d_CB_repair_1 : decode M_CB_repair.2.1 1 = .ok (.getfield 76, 3) := by decide +kernel
theorem d_CB_repair_4 : decode M_CB_repair.2.1 4 = .ok (.invokevirtual 154, 3) := by decide +kernel
theorem d_CB_repair_7 : decode M_CB_repair.2.1 7 = .ok (.istore_n 1, 1) := by decide +kernel
theorem d_CB_repair_8 : decode M_CB_repair.2.1 8 = .ok (.iload_n 1, 1) := by decide +kernel
theorem d_CB_repair_9 : decode M_CB_repair.2.1 9 = .ok (.ldc 158, 2) := by decide +kernel
theorem d_CB_repair_11 : decode M_CB_repair.2.1 11 = .ok (.if_icmp .lt 14, 3) := by decide +kernel
theorem d_CB_repair_25 : decode M_CB_repair.2.1 25 = .ok (.aload_n 0, 1) := by decide +kernel
theorem d_CB_repair_26 : decode M_CB_repair.2.1 26 = .ok (.getfield 40, 3) := by decide +kernel
theorem d_CB_repair_29 : decode M_CB_repair.2.1 29 = .ok (.aload_n 0, 1) := by decide +kernel
theorem d_CB_repair_30 : decode M_CB_repair.2.1 30 = .ok (.getfield 33, 3) := by decide +kernel
theorem d_CB_repair_33 : decode M_CB_repair.2.1 33 = .ok (.invokevirtual 103, 3) := by decide +kernel
theorem d_CB_repair_36 : decode M_CB_repair.2.1 36 = .ok (.aload_n 0, 1) := by decide +kernel
theorem d_CB_repair_37 : decode M_CB_repair.2.1 37 = .ok (.getfield 76, 3) := by decide +kernel
theorem d_CB_repair_40 : decode M_CB_repair.2.1 40 = .ok (.invokevirtual 162, 3) := by decide +kernel
theorem d_CB_repair_43 : decode M_CB_repair.2.1 43 = .ok (.iload_n 1, 1) := by decide +kernel
theorem d_CB_repair_44 : decode M_CB_repair.2.1 44 = .ok (.ireturn, 1) := by decide +kernel
theorem d_CB_breakLines_0 : decode M_CB_breakLines.2.1 0 = .ok (.aload_n 0, 1) := by decide +kernel
theorem d_CB_breakLines_1 : decode M_CB_breakLines.2.1 1 = .ok (.getfield 33, 3) := by decide +kernel
theorem d_CB_breakLines_4 : decode M_CB_breakLines.2.1 4 = .ok (.iload_n 1, 1) := by decide +kernel
theorem d_CB_breakLines_5 : decode M_CB_breakLines.2.1 5 = .ok (.invokevirtual 121, 3) := by decide +kernel
theorem d_CB_breakLines_8 : decode M_CB_breakLines.2.1 8 = .ok (.ifCond .ne 6, 3) := by decide +kernel
theorem d_CB_breakLines_11 : decode M_CB_breakLines.2.1 11 = .ok (.bipush (-2), 2) := by decide +kernel
theorem d_CB_breakLines_13 : decode M_CB_breakLines.2.1 13 = .ok (.ireturn, 1) := by decide +kernel
theorem d_CB_merge_0 : decode M_CB_merge.2.1 0 = .ok (.aload_n 0, 1) := by decide +kernel
theorem d_CB_merge_1 : decode M_CB_merge.2.1 1 = .ok (.getfield 33, 3) := by decide +kernel
theorem d_CB_merge_4 : decode M_CB_merge.2.1 4 = .ok (.iload_n 1, 1) := by decide +kernel
theorem d_CB_merge_5 : decode M_CB_merge.2.1 5 = .ok (.invokevirtual 121, 3) := by decide +kernel
theorem d_CB_merge_8 : decode M_CB_merge.2.1 8 = .ok (.ifCond .eq 16, 3) := by decide +kernel
theorem d_CB_merge_24 : decode M_CB_merge.2.1 24 = .ok (.bipush (-2), 2) := by decide +kernel
theorem d_CB_merge_26 : decode M_CB_merge.2.1 26 = .ok (.ireturn, 1) := by decide +kernel
theorem d_CB_split_0 : decode M_CB_split.2.1 0 = .ok (.aload_n 0, 1) := by decide +kernel
theorem d_CB_split_1 : decode M_CB_split.2.1 1 = .ok (.getfield 33, 3) := by decide +kernel
theorem d_CB_split_4 : decode M_CB_split.2.1 4 = .ok (.iload_n 1, 1) := by decide +kernel
theorem d_CB_split_5 : decode M_CB_split.2.1 5 = .ok (.invokevirtual 121, 3) := by decide +kernel
theorem d_CB_split_8 : decode M_CB_split.2.1 8 = .ok (.ifCond .eq 21, 3) := by decide +kernel
theorem d_CB_split_29 : decode M_CB_split.2.1 29 = .ok (.bipush (-2), 2) := by decide +kernel
theorem d_CB_split_31 : decode M_CB_split.2.1 31 = .ok (.ireturn, 1) := by decide +kernel
theorem d_CB_shift_0 : decode M_CB_shift.2.1 0 = .ok (.lload_n 1, 1) := by decide +kernel
theorem d_CB_shift_1 : decode M_CB_shift.2.1 1 = .ok (.ldc2_w 196, 3) := by decide +kernel
theorem d_CB_shift_4 : decode M_CB_shift.2.1 4 = .ok (.lcmp, 1) := by decide +kernel
theorem d_CB_shift_5 : decode M_CB_shift.2.1 5 = .ok (.ifCond .lt 11, 3) := by decide +kernel
theorem d_CB_shift_8 : decode M_CB_shift.2.1 8 = .ok (.lload_n 1, 1) := by decide +kernel
theorem d_CB_shift_9 : decode M_CB_shift.2.1 9 = .ok (.ldc2_w 194, 3) := by decide +kernel
theorem d_CB_shift_12 : decode M_CB_shift.2.1 12 = .ok (.lcmp, 1) := by decide +kernel
theorem d_CB_shift_13 : decode M_CB_shift.2.1 13 = .ok (.ifCond .le 5, 3) := by decide +kernel
theorem d_CB_shift_16 : decode M_CB_shift.2.1 16 = .ok (.iconst 0, 1) := by decide +kernel
theorem d_CB_shift_17 : decode M_CB_shift.2.1 17 = .ok (.ireturn, 1) := by decide +kernel
theorem d_CB_shift_18 : decode M_CB_shift.2.1 18 = .ok (.iconst 0, 1) := by decide +kernel
theorem d_CB_shift_19 : decode M_CB_shift.2.1 19 = .ok (.istore_n 3, 1) := by decide +kernel
theorem d_CB_shift_20 : decode M_CB_shift.2.1 20 = .ok (.iload_n 3, 1) := by decide +kernel
theorem d_CB_shift_21 : decode M_CB_shift.2.1 21 = .ok (.aload_n 0, 1) := by decide +kernel
theorem d_CB_shift_22 : decode M_CB_shift.2.1 22 = .ok (.getfield 33, 3) := by decide +kernel
theorem d_CB_shift_25 : decode M_CB_shift.2.1 25 = .ok (.getfield 112, 3) := by decide +kernel
theorem d_CB_shift_28 : decode M_CB_shift.2.1 28 = .ok (.if_icmp .ge 45, 3) := by decide +kernel
theorem d_CB_shift_73 : decode M_CB_shift.2.1 73 = .ok (.aload_n 0, 1) := by decide +kernel
theorem d_CB_shift_74 : decode M_CB_shift.2.1 74 = .ok (.getfield 40, 3) := by decide +kernel
theorem d_CB_shift_77 : decode M_CB_shift.2.1 77 = .ok (.aload_n 0, 1) := by decide +kernel
theorem d_CB_shift_78 : decode M_CB_shift.2.1 78 = .ok (.getfield 33, 3) := by decide +kernel
theorem d_CB_shift_81 : decode M_CB_shift.2.1 81 = .ok (.invokevirtual 103, 3) := by decide +kernel
theorem d_CB_shift_84 : decode M_CB_shift.2.1 84 = .ok (.iconst 0, 1) := by decide +kernel
theorem d_CB_shift_85 : decode M_CB_shift.2.1 85 = .ok (.istore_n 3, 1) := by decide +kernel
theorem d_CB_shift_86 : decode M_CB_shift.2.1 86 = .ok (.iload_n 3, 1) := by decide +kernel
theorem d_CB_shift_87 : decode M_CB_shift.2.1 87 = .ok (.aload_n 0, 1) := by decide +kernel
theorem d_CB_shift_88 : decode M_CB_shift.2.1 88 = .ok (.getfield 33, 3) := by decide +kernel
theorem d_CB_shift_91 : decode M_CB_shift.2.1 91 = .ok (.getfield 112, 3) := by decide +kernel
theorem d_CB_shift_94 : decode M_CB_shift.2.1 94 = .ok (.if_icmp .ge 35, 3) := by decide +kernel
theorem d_CB_shift_129 : decode M_CB_shift.2.1 129 = .ok (.iconst 1, 1) := by decide +kernel
theorem d_CB_shift_130 : decode M_CB_shift.2.1 130 = .ok (.ireturn, 1) := by decide +kernel
theorem d_CB_clash_0 : decode M_CB_clash.2.1 0 = .ok (.iconst 0, 1) := by decide +kernel
theorem d_CB_clash_1 : decode M_CB_clash.2.1 1 = .ok (.istore_n 1, 1) := by decide +kernel
theorem d_CB_clash_2 : decode M_CB_clash.2.1 2 = .ok (.iload_n 1, 1) := by decide +kernel
theorem d_CB_clash_3 : decode M_CB_clash.2.1 3 = .ok (.iconst 1, 1) := by decide +kernel
theorem d_CB_clash_4 : decode M_CB_clash.2.1 4 = .ok (.iadd, 1) := by decide +kernel
theorem d_CB_clash_5 : decode M_CB_clash.2.1 5 = .ok (.aload_n 0, 1) := by decide +kernel
theorem d_CB_clash_6 : decode M_CB_clash.2.1 6 = .ok (.getfield 33, 3) := by decide +kernel
theorem d_CB_clash_9 : decode M_CB_clash.2.1 9 = .ok (.getfield 112, 3) := by decide +kernel
theorem d_CB_clash_12 : decode M_CB_clash.2.1 12 = .ok (.if_icmp .ge 35, 3) := by decide +kernel
theorem d_CB_clash_47 : decode M_CB_clash.2.1 47 = .ok (.iconst (-1), 1) := by decide +kernel
theorem d_CB_clash_48 : decode M_CB_clash.2.1 48 = .ok (.ireturn, 1) := by decide +kernel
theorem d_Pa_takeBack_0 : decode M_Pa_takeBack.2.1 0 = .ok (.aload_n 0, 1) := by decide +kernel
theorem d_Pa_takeBack_1 : decode M_Pa_takeBack.2.1 1 = .ok (.getfield 15, 3) := by decide +kernel
theorem d_Pa_takeBack_4 : decode M_Pa_takeBack.2.1 4 = .ok (.bipush 10, 2) := by decide +kernel
theorem d_Pa_takeBack_6 : decode M_Pa_takeBack.2.1 6 = .ok (.iadd, 1) := by decide +kernel
theorem d_Pa_takeBack_7 : decode M_Pa_takeBack.2.1 7 = .ok (.iconst 1, 1) := by decide +kernel
theorem d_Pa_takeBack_8 : decode M_Pa_takeBack.2.1 8 = .ok (.isub, 1) := by decide +kernel
theorem d_Pa_takeBack_9 : decode M_Pa_takeBack.2.1 9 = .ok (.bipush 10, 2) := by decide +kernel
theorem d_Pa_takeBack_11 : decode M_Pa_takeBack.2.1 11 = .ok (.irem, 1) := by decide +kernel
theorem d_Pa_takeBack_12 : decode M_Pa_takeBack.2.1 12 = .ok (.istore_n 2, 1) := by decide +kernel
theorem d_Pa_takeBack_13 : decode M_Pa_takeBack.2.1 13 = .ok (.aload_n 0, 1) := by decide +kernel
theorem d_Pa_takeBack_14 : decode M_Pa_takeBack.2.1 14 = .ok (.getfield 24, 3) := by decide +kernel
theorem d_Pa_takeBack_17 : decode M_Pa_takeBack.2.1 17 = .ok (.ifCond .eq 12, 3) := by decide +kernel
theorem d_Pa_takeBack_29 : decode M_Pa_takeBack.2.1 29 = .ok (.iconst 0, 1) := by decide +kernel
theorem d_Pa_takeBack_30 : decode M_Pa_takeBack.2.1 30 = .ok (.ireturn, 1) := by decide +kernel
theorem d_CB_undo_0 : decode M_CB_undo.2.1 0 = .ok (.aload_n 0, 1) := by decide +kernel
theorem d_CB_undo_1 : decode M_CB_undo.2.1 1 = .ok (.getfield 40, 3) := by decide +kernel
theorem d_CB_undo_4 : decode M_CB_undo.2.1 4 = .ok (.aload_n 0, 1) := by decide +kernel
theorem d_CB_undo_5 : decode M_CB_undo.2.1 5 = .ok (.getfield 33, 3) := by decide +kernel
theorem d_CB_undo_8 : decode M_CB_undo.2.1 8 = .ok (.invokevirtual 209, 3) := by decide +kernel
theorem d_CB_undo_11 : decode M_CB_undo.2.1 11 = .ok (.ireturn, 1) := by decide +kernel
theorem d_Po_init_0 : decode M_Po_init.2.1 0 = .ok (.aload_n 0, 1) := by decide +kernel
theorem d_Po_init_1 : decode M_Po_init.2.1 1 = .ok (.invokespecial 1, 3) := by decide +kernel
theorem d_Po_init_4 : decode M_Po_init.2.1 4 = .ok (.aload_n 0, 1) := by decide +kernel
theorem d_Po_init_5 : decode M_Po_init.2.1 5 = .ok (.lload_n 1, 1) := by decide +kernel
theorem d_Po_init_6 : decode M_Po_init.2.1 6 = .ok (.putfield 7, 3) := by decide +kernel
theorem d_Po_init_9 : decode M_Po_init.2.1 9 = .ok (.aload_n 0, 1) := by decide +kernel
theorem d_Po_init_10 : decode M_Po_init.2.1 10 = .ok (.iload_n 3, 1) := by decide +kernel
theorem d_Po_init_11 : decode M_Po_init.2.1 11 = .ok (.i2l, 1) := by decide +kernel
theorem d_Po_init_12 : decode M_Po_init.2.1 12 = .ok (.putfield 13, 3) := by decide +kernel
theorem d_Po_init_15 : decode M_Po_init.2.1 15 = .ok (.aload_n 0, 1) := by decide +kernel
theorem d_Po_init_16 : decode M_Po_init.2.1 16 = .ok (.iload 4, 2) := by decide +kernel
theorem d_Po_init_18 : decode M_Po_init.2.1 18 = .ok (.i2l, 1) := by decide +kernel
theorem d_Po_init_19 : decode M_Po_init.2.1 19 = .ok (.putfield 16, 3) := by decide +kernel
theorem d_Po_init_22 : decode M_Po_init.2.1 22 = .ok (.aload_n 0, 1) := by decide +kernel
theorem d_Po_init_23 : decode M_Po_init.2.1 23 = .ok (.iload 5, 2) := by decide +kernel
theorem d_Po_init_25 : decode M_Po_init.2.1 25 = .ok (.iload_n 3, 1) := by decide +kernel
theorem d_Po_init_26 : decode M_Po_init.2.1 26 = .ok (.isub, 1) := by decide +kernel
theorem d_Po_init_27 : decode M_Po_init.2.1 27 = .ok (.i2l, 1) := by decide +kernel
theorem d_Po_init_28 : decode M_Po_init.2.1 28 = .ok (.putfield 19, 3) := by decide +kernel
theorem d_Po_init_31 : decode M_Po_init.2.1 31 = .ok (.aload_n 0, 1) := by decide +kernel
theorem d_Po_init_32 : decode M_Po_init.2.1 32 = .ok (.iload 6, 2) := by decide +kernel
theorem d_Po_init_34 : decode M_Po_init.2.1 34 = .ok (.iload 4, 2) := by decide +kernel
theorem d_Po_init_36 : decode M_Po_init.2.1 36 = .ok (.isub, 1) := by decide +kernel
theorem d_Po_init_37 : decode M_Po_init.2.1 37 = .ok (.i2l, 1) := by decide +kernel
theorem d_Po_init_38 : decode M_Po_init.2.1 38 = .ok (.putfield 22, 3) := by decide +kernel
theorem d_Po_init_41 : decode M_Po_init.2.1 41 = .ok (.return_, 1) := by decide +kernel
theorem d_CB_twoPoint_0 : decode M_CB_twoPoint.2.1 0 = .ok (.aload_n 0, 1) := by decide +kernel
theorem d_CB_twoPoint_1 : decode M_CB_twoPoint.2.1 1 = .ok (.getfield 19, 3) := by decide +kernel
theorem d_CB_twoPoint_4 : decode M_CB_twoPoint.2.1 4 = .ok (.iload_n 1, 1) := by decide +kernel
theorem d_CB_twoPoint_5 : decode M_CB_twoPoint.2.1 5 = .ok (.invokevirtual 178, 3) := by decide +kernel
theorem d_CB_twoPoint_8 : decode M_CB_twoPoint.2.1 8 = .ok (.ifCond .eq 14, 3) := by decide +kernel
theorem d_CB_twoPoint_11 : decode M_CB_twoPoint.2.1 11 = .ok (.aload_n 0, 1) := by decide +kernel
theorem d_CB_twoPoint_12 : decode M_CB_twoPoint.2.1 12 = .ok (.getfield 19, 3) := by decide +kernel
theorem d_CB_twoPoint_15 : decode M_CB_twoPoint.2.1 15 = .ok (.iload_n 2, 1) := by decide +kernel
theorem d_CB_twoPoint_16 : decode M_CB_twoPoint.2.1 16 = .ok (.invokevirtual 178, 3) := by decide +kernel
theorem d_CB_twoPoint_19 : decode M_CB_twoPoint.2.1 19 = .ok (.ifCond .ne 5, 3) := by decide +kernel
theorem d_CB_twoPoint_22 : decode M_CB_twoPoint.2.1 22 = .ok (.iconst 0, 1) := by decide +kernel
theorem d_CB_twoPoint_23 : decode M_CB_twoPoint.2.1 23 = .ok (.ireturn, 1) := by decide +kernel
theorem d_CB_twoPoint_24 : decode M_CB_twoPoint.2.1 24 = .ok (.aload_n 0, 1) := by decide +kernel
theorem d_CB_twoPoint_25 : decode M_CB_twoPoint.2.1 25 = .ok (.getfield 19, 3) := by decide +kernel
theorem d_CB_twoPoint_28 : decode M_CB_twoPoint.2.1 28 = .ok (.iload_n 3, 1) := by decide +kernel
theorem d_CB_twoPoint_29 : decode M_CB_twoPoint.2.1 29 = .ok (.invokevirtual 178, 3) := by decide +kernel
theorem d_CB_twoPoint_32 : decode M_CB_twoPoint.2.1 32 = .ok (.ifCond .eq 15, 3) := by decide +kernel
theorem d_CB_twoPoint_35 : decode M_CB_twoPoint.2.1 35 = .ok (.aload_n 0, 1) := by decide +kernel
theorem d_CB_twoPoint_36 : decode M_CB_twoPoint.2.1 36 = .ok (.getfield 19, 3) := by decide +kernel
theorem d_CB_twoPoint_39 : decode M_CB_twoPoint.2.1 39 = .ok (.iload 4, 2) := by decide +kernel
theorem d_CB_twoPoint_41 : decode M_CB_twoPoint.2.1 41 = .ok (.invokevirtual 178, 3) := by decide +kernel
theorem d_CB_twoPoint_44 : decode M_CB_twoPoint.2.1 44 = .ok (.ifCond .ne 5, 3) := by decide +kernel
theorem d_CB_twoPoint_47 : decode M_CB_twoPoint.2.1 47 = .ok (.iconst 0, 1) := by decide +kernel
theorem d_CB_twoPoint_48 : decode M_CB_twoPoint.2.1 48 = .ok (.ireturn, 1) := by decide +kernel
theorem d_CB_twoPoint_49 : decode M_CB_twoPoint.2.1 49 = .ok (.iload_n 1, 1) := by decide +kernel
theorem d_CB_twoPoint_50 : decode M_CB_twoPoint.2.1 50 = .ok (.iload_n 3, 1) := by decide +kernel
theorem d_CB_twoPoint_51 : decode M_CB_twoPoint.2.1 51 = .ok (.if_icmp .eq 33, 3) := by decide +kernel
theorem d_CB_twoPoint_54 : decode M_CB_twoPoint.2.1 54 = .ok (.iload_n 2, 1) := by decide +kernel
theorem d_CB_twoPoint_55 : decode M_CB_twoPoint.2.1 55 = .ok (.iload 4, 2) := by decide +kernel
theorem d_CB_twoPoint_57 : decode M_CB_twoPoint.2.1 57 = .ok (.if_icmp .eq 27, 3) := by decide +kernel
theorem d_CB_twoPoint_60 : decode M_CB_twoPoint.2.1 60 = .ok (.iload_n 1, 1) := by decide +kernel
theorem d_CB_twoPoint_61 : decode M_CB_twoPoint.2.1 61 = .ok (.iload_n 3, 1) := by decide +kernel
theorem d_CB_twoPoint_62 : decode M_CB_twoPoint.2.1 62 = .ok (.if_icmp .ge 7, 3) := by decide +kernel
theorem d_CB_twoPoint_65 : decode M_CB_twoPoint.2.1 65 = .ok (.iconst 1, 1) := by decide +kernel
theorem d_CB_twoPoint_66 : decode M_CB_twoPoint.2.1 66 = .ok (.goto 4, 3) := by decide +kernel
theorem d_CB_twoPoint_69 : decode M_CB_twoPoint.2.1 69 = .ok (.iconst 0, 1) := by decide +kernel
theorem d_CB_twoPoint_70 : decode M_CB_twoPoint.2.1 70 = .ok (.iload_n 2, 1) := by decide +kernel
theorem d_CB_twoPoint_71 : decode M_CB_twoPoint.2.1 71 = .ok (.iload 4, 2) := by decide +kernel
theorem d_CB_twoPoint_73 : decode M_CB_twoPoint.2.1 73 = .ok (.if_icmp .ge 7, 3) := by decide +kernel
theorem d_CB_twoPoint_76 : decode M_CB_twoPoint.2.1 76 = .ok (.iconst 1, 1) := by decide +kernel
theorem d_CB_twoPoint_77 : decode M_CB_twoPoint.2.1 77 = .ok (.goto 4, 3) := by decide +kernel
theorem d_CB_twoPoint_80 : decode M_CB_twoPoint.2.1 80 = .ok (.iconst 0, 1) := by decide +kernel
theorem d_CB_twoPoint_81 : decode M_CB_twoPoint.2.1 81 = .ok (.if_icmp .eq 5, 3) := by decide +kernel
theorem d_CB_twoPoint_84 : decode M_CB_twoPoint.2.1 84 = .ok (.iconst 0, 1) := by decide +kernel
theorem d_CB_twoPoint_85 : decode M_CB_twoPoint.2.1 85 = .ok (.ireturn, 1) := by decide +kernel
theorem d_CB_twoPoint_86 : decode M_CB_twoPoint.2.1 86 = .ok (.iload_n 1, 1) := by decide +kernel
theorem d_CB_twoPoint_87 : decode M_CB_twoPoint.2.1 87 = .ok (.iload_n 3, 1) := by decide +kernel
theorem d_CB_twoPoint_88 : decode M_CB_twoPoint.2.1 88 = .ok (.if_icmp .ge 25, 3) := by decide +kernel
theorem d_CB_twoPoint_91 : decode M_CB_twoPoint.2.1 91 = .ok (.new 181, 3) := by decide +kernel
theorem d_CB_twoPoint_94 : decode M_CB_twoPoint.2.1 94 = .ok (.dup, 1) := by decide +kernel
theorem d_CB_twoPoint_95 : decode M_CB_twoPoint.2.1 95 = .ok (.aload_n 0, 1) := by decide +kernel
theorem d_CB_twoPoint_96 : decode M_CB_twoPoint.2.1 96 = .ok (.getfield 19, 3) := by decide +kernel
theorem d_CB_twoPoint_99 : decode M_CB_twoPoint.2.1 99 = .ok (.getfield 183, 3) := by decide +kernel
theorem d_CB_twoPoint_102 : decode M_CB_twoPoint.2.1 102 = .ok (.iload_n 1, 1) := by decide +kernel
theorem d_CB_twoPoint_103 : decode M_CB_twoPoint.2.1 103 = .ok (.iload_n 2, 1) := by decide +kernel
theorem d_CB_twoPoint_104 : decode M_CB_twoPoint.2.1 104 = .ok (.iload_n 3, 1) := by decide +kernel
theorem d_CB_twoPoint_105 : decode M_CB_twoPoint.2.1 105 = .ok (.iload 4, 2) := by decide +kernel
theorem d_CB_twoPoint_107 : decode M_CB_twoPoint.2.1 107 = .ok (.invokespecial 187, 3) := by decide +kernel
theorem d_CB_twoPoint_110 : decode M_CB_twoPoint.2.1 110 = .ok (.goto 22, 3) := by decide +kernel
theorem d_CB_twoPoint_113 : decode M_CB_twoPoint.2.1 113 = .ok (.new 181, 3) := by decide +kernel
theorem d_CB_twoPoint_116 : decode M_CB_twoPoint.2.1 116 = .ok (.dup, 1) := by decide +kernel
theorem d_CB_twoPoint_117 : decode M_CB_twoPoint.2.1 117 = .ok (.aload_n 0, 1) := by decide +kernel
theorem d_CB_twoPoint_118 : decode M_CB_twoPoint.2.1 118 = .ok (.getfield 19, 3) := by decide +kernel
theorem d_CB_twoPoint_121 : decode M_CB_twoPoint.2.1 121 = .ok (.getfield 183, 3) := by decide +kernel
theorem d_CB_twoPoint_124 : decode M_CB_twoPoint.2.1 124 = .ok (.iload_n 3, 1) := by decide +kernel
theorem d_CB_twoPoint_125 : decode M_CB_twoPoint.2.1 125 = .ok (.iload 4, 2) := by decide +kernel
theorem d_CB_twoPoint_127 : decode M_CB_twoPoint.2.1 127 = .ok (.iload_n 1, 1) := by decide +kernel
theorem d_CB_twoPoint_128 : decode M_CB_twoPoint.2.1 128 = .ok (.iload_n 2, 1) := by decide +kernel
theorem d_CB_twoPoint_129 : decode M_CB_twoPoint.2.1 129 = .ok (.invokespecial 187, 3) := by decide +kernel
theorem d_CB_twoPoint_132 : decode M_CB_twoPoint.2.1 132 = .ok (.astore 5, 2) := by decide +kernel
theorem d_CB_twoPoint_134 : decode M_CB_twoPoint.2.1 134 = .ok (.iconst 0, 1) := by decide +kernel
theorem d_CB_twoPoint_135 : decode M_CB_twoPoint.2.1 135 = .ok (.istore 6, 2) := by decide +kernel
theorem d_CB_twoPoint_137 : decode M_CB_twoPoint.2.1 137 = .ok (.iload 6, 2) := by decide +kernel
theorem d_CB_twoPoint_139 : decode M_CB_twoPoint.2.1 139 = .ok (.aload_n 0, 1) := by decide +kernel
theorem d_CB_twoPoint_140 : decode M_CB_twoPoint.2.1 140 = .ok (.getfield 33, 3) := by decide +kernel
theorem d_CB_twoPoint_143 : decode M_CB_twoPoint.2.1 143 = .ok (.getfield 112, 3) := by decide +kernel
theorem d_CB_twoPoint_146 : decode M_CB_twoPoint.2.1 146 = .ok (.if_icmp .ge 69, 3) := by decide +kernel
theorem d_CB_twoPoint_215 : decode M_CB_twoPoint.2.1 215 = .ok (.aload_n 0, 1) := by decide +kernel
theorem d_CB_twoPoint_216 : decode M_CB_twoPoint.2.1 216 = .ok (.getfield 40, 3) := by decide +kernel
theorem d_CB_twoPoint_219 : decode M_CB_twoPoint.2.1 219 = .ok (.aload_n 0, 1) := by decide +kernel
theorem d_CB_twoPoint_220 : decode M_CB_twoPoint.2.1 220 = .ok (.getfield 33, 3) := by decide +kernel
theorem d_CB_twoPoint_223 : decode M_CB_twoPoint.2.1 223 = .ok (.invokevirtual 103, 3) := by decide +kernel
theorem d_CB_twoPoint_226 : decode M_CB_twoPoint.2.1 226 = .ok (.iconst 0, 1) := by decide +kernel
theorem d_CB_twoPoint_227 : decode M_CB_twoPoint.2.1 227 = .ok (.istore 6, 2) := by decide +kernel
theorem d_CB_twoPoint_229 : decode M_CB_twoPoint.2.1 229 = .ok (.iload 6, 2) := by decide +kernel
theorem d_CB_twoPoint_231 : decode M_CB_twoPoint.2.1 231 = .ok (.aload_n 0, 1) := by decide +kernel
theorem d_CB_twoPoint_232 : decode M_CB_twoPoint.2.1 232 = .ok (.getfield 33, 3) := by decide +kernel
theorem d_CB_twoPoint_235 : decode M_CB_twoPoint.2.1 235 = .ok (.getfield 112, 3) := by decide +kernel
theorem d_CB_twoPoint_238 : decode M_CB_twoPoint.2.1 238 = .ok (.if_icmp .ge 59, 3) := by decide +kernel
theorem d_CB_twoPoint_297 : decode M_CB_twoPoint.2.1 297 = .ok (.iconst 1, 1) := by decide +kernel
theorem d_CB_twoPoint_298 : decode M_CB_twoPoint.2.1 298 = .ok (.ireturn, 1) := by decide +kernel
theorem d_Mo_isCue_0 : decode M_Mo_isCue.2.1 0 = .ok (.iload_n 1, 1) := by decide +kernel
theorem d_Mo_isCue_1 : decode M_Mo_isCue.2.1 1 = .ok (.ifCond .lt 15, 3) := by decide +kernel
theorem d_Mo_isCue_4 : decode M_Mo_isCue.2.1 4 = .ok (.iload_n 1, 1) := by decide +kernel
theorem d_Mo_isCue_5 : decode M_Mo_isCue.2.1 5 = .ok (.aload_n 0, 1) := by decide +kernel
theorem d_Mo_isCue_6 : decode M_Mo_isCue.2.1 6 = .ok (.getfield 92, 3) := by decide +kernel
theorem d_Mo_isCue_9 : decode M_Mo_isCue.2.1 9 = .ok (.if_icmp .ge 7, 3) := by decide +kernel
theorem d_Mo_isCue_12 : decode M_Mo_isCue.2.1 12 = .ok (.iconst 1, 1) := by decide +kernel
theorem d_Mo_isCue_13 : decode M_Mo_isCue.2.1 13 = .ok (.goto 4, 3) := by decide +kernel
theorem d_Mo_isCue_16 : decode M_Mo_isCue.2.1 16 = .ok (.iconst 0, 1) := by decide +kernel
theorem d_Mo_isCue_17 : decode M_Mo_isCue.2.1 17 = .ok (.ireturn, 1) := by decide +kernel
theorem d_Mo_isTime_0 : decode M_Mo_isTime.2.1 0 = .ok (.lload_n 1, 1) := by decide +kernel
theorem d_Mo_isTime_1 : decode M_Mo_isTime.2.1 1 = .ok (.lconst 0, 1) := by decide +kernel
theorem d_Mo_isTime_2 : decode M_Mo_isTime.2.1 2 = .ok (.lcmp, 1) := by decide +kernel
theorem d_Mo_isTime_3 : decode M_Mo_isTime.2.1 3 = .ok (.ifCond .lt 15, 3) := by decide +kernel
theorem d_Mo_isTime_6 : decode M_Mo_isTime.2.1 6 = .ok (.lload_n 1, 1) := by decide +kernel
theorem d_Mo_isTime_7 : decode M_Mo_isTime.2.1 7 = .ok (.ldc2_w 171, 3) := by decide +kernel
theorem d_Mo_isTime_10 : decode M_Mo_isTime.2.1 10 = .ok (.lcmp, 1) := by decide +kernel
theorem d_Mo_isTime_11 : decode M_Mo_isTime.2.1 11 = .ok (.ifCond .gt 7, 3) := by decide +kernel
theorem d_Mo_isTime_14 : decode M_Mo_isTime.2.1 14 = .ok (.iconst 1, 1) := by decide +kernel
theorem d_Mo_isTime_15 : decode M_Mo_isTime.2.1 15 = .ok (.goto 4, 3) := by decide +kernel
theorem d_Mo_isTime_18 : decode M_Mo_isTime.2.1 18 = .ok (.iconst 0, 1) := by decide +kernel
theorem d_Mo_isTime_19 : decode M_Mo_isTime.2.1 19 = .ok (.ireturn, 1) := by decide +kernel
theorem d_Mo_frame_0 : decode M_Mo_frame.2.1 0 = .ok (.ldc2_w 86, 3) := by decide +kernel
theorem d_Mo_frame_3 : decode M_Mo_frame.2.1 3 = .ok (.aload_n 0, 1) := by decide +kernel
theorem d_Mo_frame_4 : decode M_Mo_frame.2.1 4 = .ok (.getfield 17, 3) := by decide +kernel
theorem d_Mo_frame_7 : decode M_Mo_frame.2.1 7 = .ok (.i2l, 1) := by decide +kernel
theorem d_Mo_frame_8 : decode M_Mo_frame.2.1 8 = .ok (.lmul, 1) := by decide +kernel
theorem d_Mo_frame_9 : decode M_Mo_frame.2.1 9 = .ok (.aload_n 0, 1) := by decide +kernel
theorem d_Mo_frame_10 : decode M_Mo_frame.2.1 10 = .ok (.getfield 13, 3) := by decide +kernel
theorem d_Mo_frame_13 : decode M_Mo_frame.2.1 13 = .ok (.i2l, 1) := by decide +kernel
theorem d_Mo_frame_14 : decode M_Mo_frame.2.1 14 = .ok (.ldiv, 1) := by decide +kernel
theorem d_Mo_frame_15 : decode M_Mo_frame.2.1 15 = .ok (.lreturn, 1) := by decide +kernel
theorem d_Mo_read_0 : decode M_Mo_read.2.1 0 = .ok (.iload_n 1, 1) := by decide +kernel
theorem d_Mo_read_1 : decode M_Mo_read.2.1 1 = .ok (.ifCond .lt 8, 3) := by decide +kernel
theorem d_Mo_read_4 : decode M_Mo_read.2.1 4 = .ok (.iload_n 1, 1) := by decide +kernel
theorem d_Mo_read_5 : decode M_Mo_read.2.1 5 = .ok (.iconst 2, 1) := by decide +kernel
theorem d_Mo_read_6 : decode M_Mo_read.2.1 6 = .ok (.if_icmp .le 6, 3) := by decide +kernel
theorem d_Mo_read_9 : decode M_Mo_read.2.1 9 = .ok (.bipush (-2), 2) := by decide +kernel
theorem d_Mo_read_11 : decode M_Mo_read.2.1 11 = .ok (.ireturn, 1) := by decide +kernel
theorem d_Mo_read_12 : decode M_Mo_read.2.1 12 = .ok (.aload_n 0, 1) := by decide +kernel
theorem d_Mo_read_13 : decode M_Mo_read.2.1 13 = .ok (.iconst 0, 1) := by decide +kernel
theorem d_Mo_read_14 : decode M_Mo_read.2.1 14 = .ok (.putfield 110, 3) := by decide +kernel
theorem d_Mo_read_17 : decode M_Mo_read.2.1 17 = .ok (.aload_n 0, 1) := by decide +kernel
theorem d_Mo_read_18 : decode M_Mo_read.2.1 18 = .ok (.iconst (-1), 1) := by decide +kernel
theorem d_Mo_read_19 : decode M_Mo_read.2.1 19 = .ok (.putfield 107, 3) := by decide +kernel
theorem d_Mo_read_22 : decode M_Mo_read.2.1 22 = .ok (.aload_n 0, 1) := by decide +kernel
theorem d_Mo_read_23 : decode M_Mo_read.2.1 23 = .ok (.iconst 0, 1) := by decide +kernel
theorem d_Mo_read_24 : decode M_Mo_read.2.1 24 = .ok (.putfield 140, 3) := by decide +kernel
theorem d_Mo_read_27 : decode M_Mo_read.2.1 27 = .ok (.aload_n 0, 1) := by decide +kernel
theorem d_Mo_read_28 : decode M_Mo_read.2.1 28 = .ok (.getfield 110, 3) := by decide +kernel
theorem d_Mo_read_31 : decode M_Mo_read.2.1 31 = .ok (.aload_n 0, 1) := by decide +kernel
theorem d_Mo_read_32 : decode M_Mo_read.2.1 32 = .ok (.getfield 95, 3) := by decide +kernel
theorem d_Mo_read_35 : decode M_Mo_read.2.1 35 = .ok (.if_icmp .ge 18, 3) := by decide +kernel
theorem d_Mo_read_53 : decode M_Mo_read.2.1 53 = .ok (.aload_n 0, 1) := by decide +kernel
theorem d_Mo_read_54 : decode M_Mo_read.2.1 54 = .ok (.getfield 107, 3) := by decide +kernel
theorem d_Mo_read_57 : decode M_Mo_read.2.1 57 = .ok (.ifCond .lt 11, 3) := by decide +kernel
theorem d_Mo_read_68 : decode M_Mo_read.2.1 68 = .ok (.aload_n 0, 1) := by decide +kernel
theorem d_Mo_read_69 : decode M_Mo_read.2.1 69 = .ok (.invokevirtual 176, 3) := by decide +kernel
theorem d_Mo_read_72 : decode M_Mo_read.2.1 72 = .ok (.aload_n 0, 1) := by decide +kernel
theorem d_Mo_read_73 : decode M_Mo_read.2.1 73 = .ok (.aload_n 0, 1) := by decide +kernel
theorem d_Mo_read_74 : decode M_Mo_read.2.1 74 = .ok (.getfield 140, 3) := by decide +kernel
theorem d_Mo_read_77 : decode M_Mo_read.2.1 77 = .ok (.putfield 92, 3) := by decide +kernel
theorem d_Mo_read_80 : decode M_Mo_read.2.1 80 = .ok (.iconst 0, 1) := by decide +kernel
theorem d_Mo_read_81 : decode M_Mo_read.2.1 81 = .ok (.istore_n 2, 1) := by decide +kernel
theorem d_Mo_read_82 : decode M_Mo_read.2.1 82 = .ok (.iload_n 2, 1) := by decide +kernel
theorem d_Mo_read_83 : decode M_Mo_read.2.1 83 = .ok (.aload_n 0, 1) := by decide +kernel
theorem d_Mo_read_84 : decode M_Mo_read.2.1 84 = .ok (.getfield 92, 3) := by decide +kernel
theorem d_Mo_read_87 : decode M_Mo_read.2.1 87 = .ok (.if_icmp .ge 85, 3) := by decide +kernel
theorem d_Mo_read_172 : decode M_Mo_read.2.1 172 = .ok (.aload_n 0, 1) := by decide +kernel
theorem d_Mo_read_173 : decode M_Mo_read.2.1 173 = .ok (.getfield 92, 3) := by decide +kernel
theorem d_Mo_read_176 : decode M_Mo_read.2.1 176 = .ok (.ireturn, 1) := by decide +kernel
theorem d_Mo_write_0 : decode M_Mo_write.2.1 0 = .ok (.iload_n 1, 1) := by decide +kernel
theorem d_Mo_write_1 : decode M_Mo_write.2.1 1 = .ok (.ifCond .lt 8, 3) := by decide +kernel
theorem d_Mo_write_4 : decode M_Mo_write.2.1 4 = .ok (.iload_n 1, 1) := by decide +kernel
theorem d_Mo_write_5 : decode M_Mo_write.2.1 5 = .ok (.iconst 2, 1) := by decide +kernel
theorem d_Mo_write_6 : decode M_Mo_write.2.1 6 = .ok (.if_icmp .le 6, 3) := by decide +kernel
theorem d_Mo_write_9 : decode M_Mo_write.2.1 9 = .ok (.bipush (-2), 2) := by decide +kernel
theorem d_Mo_write_11 : decode M_Mo_write.2.1 11 = .ok (.ireturn, 1) := by decide +kernel
theorem d_Mo_write_12 : decode M_Mo_write.2.1 12 = .ok (.iconst 0, 1) := by decide +kernel
theorem d_Mo_write_13 : decode M_Mo_write.2.1 13 = .ok (.istore_n 2, 1) := by decide +kernel
theorem d_Mo_write_14 : decode M_Mo_write.2.1 14 = .ok (.iload_n 2, 1) := by decide +kernel
theorem d_Mo_write_15 : decode M_Mo_write.2.1 15 = .ok (.iconst 2, 1) := by decide +kernel
theorem d_Mo_write_16 : decode M_Mo_write.2.1 16 = .ok (.if_icmp .ge 62, 3) := by decide +kernel
theorem d_Mo_write_19 : decode M_Mo_write.2.1 19 = .ok (.aload_n 0, 1) := by decide +kernel
theorem d_Mo_write_20 : decode M_Mo_write.2.1 20 = .ok (.iload_n 2, 1) := by decide +kernel
theorem d_Mo_write_21 : decode M_Mo_write.2.1 21 = .ok (.ifCond .ne 7, 3) := by decide +kernel
theorem d_Mo_write_24 : decode M_Mo_write.2.1 24 = .ok (.iconst 1, 1) := by decide +kernel
theorem d_Mo_write_25 : decode M_Mo_write.2.1 25 = .ok (.goto 4, 3) := by decide +kernel
theorem d_Mo_write_28 : decode M_Mo_write.2.1 28 = .ok (.iconst 0, 1) := by decide +kernel
theorem d_Mo_write_29 : decode M_Mo_write.2.1 29 = .ok (.putfield 179, 3) := by decide +kernel
theorem d_Mo_write_32 : decode M_Mo_write.2.1 32 = .ok (.aload_n 0, 1) := by decide +kernel
theorem d_Mo_write_33 : decode M_Mo_write.2.1 33 = .ok (.iconst 0, 1) := by decide +kernel
theorem d_Mo_write_34 : decode M_Mo_write.2.1 34 = .ok (.putfield 183, 3) := by decide +kernel
theorem d_Mo_write_37 : decode M_Mo_write.2.1 37 = .ok (.iconst 0, 1) := by decide +kernel
theorem d_Mo_write_38 : decode M_Mo_write.2.1 38 = .ok (.istore_n 3, 1) := by decide +kernel
theorem d_Mo_write_39 : decode M_Mo_write.2.1 39 = .ok (.iload_n 3, 1) := by decide +kernel
theorem d_Mo_write_40 : decode M_Mo_write.2.1 40 = .ok (.aload_n 0, 1) := by decide +kernel
theorem d_Mo_write_41 : decode M_Mo_write.2.1 41 = .ok (.getfield 92, 3) := by decide +kernel
theorem d_Mo_write_44 : decode M_Mo_write.2.1 44 = .ok (.if_icmp .ge 15, 3) := by decide +kernel
theorem d_Mo_write_59 : decode M_Mo_write.2.1 59 = .ok (.aload_n 0, 1) := by decide +kernel
theorem d_Mo_write_60 : decode M_Mo_write.2.1 60 = .ok (.getfield 183, 3) := by decide +kernel
theorem d_Mo_write_63 : decode M_Mo_write.2.1 63 = .ok (.sipush 1000, 3) := by decide +kernel
theorem d_Mo_write_66 : decode M_Mo_write.2.1 66 = .ok (.if_icmp .le 6, 3) := by decide +kernel
theorem d_Mo_write_72 : decode M_Mo_write.2.1 72 = .ok (.iinc 2 1, 3) := by decide +kernel
theorem d_Mo_write_75 : decode M_Mo_write.2.1 75 = .ok (.goto (-61), 3) := by decide +kernel
theorem d_Mo_write_78 : decode M_Mo_write.2.1 78 = .ok (.aload_n 0, 1) := by decide +kernel
theorem d_Mo_write_79 : decode M_Mo_write.2.1 79 = .ok (.aload_n 0, 1) := by decide +kernel
theorem d_Mo_write_80 : decode M_Mo_write.2.1 80 = .ok (.getfield 183, 3) := by decide +kernel
theorem d_Mo_write_83 : decode M_Mo_write.2.1 83 = .ok (.putfield 95, 3) := by decide +kernel
theorem d_Mo_write_86 : decode M_Mo_write.2.1 86 = .ok (.aload_n 0, 1) := by decide +kernel
theorem d_Mo_write_87 : decode M_Mo_write.2.1 87 = .ok (.getfield 95, 3) := by decide +kernel
theorem d_Mo_write_90 : decode M_Mo_write.2.1 90 = .ok (.ireturn, 1) := by decide +kernel
theorem d_Mo_cue_0 : decode M_Mo_cue.2.1 0 = .ok (.aload_n 0, 1) := by decide +kernel
theorem d_Mo_cue_1 : decode M_Mo_cue.2.1 1 = .ok (.iload_n 1, 1) := by decide +kernel
theorem d_Mo_cue_2 : decode M_Mo_cue.2.1 2 = .ok (.invokevirtual 217, 3) := by decide +kernel
theorem d_Mo_cue_5 : decode M_Mo_cue.2.1 5 = .ok (.ifCond .eq 12, 3) := by decide +kernel
theorem d_Mo_cue_17 : decode M_Mo_cue.2.1 17 = .ok (.ldc2_w 220, 3) := by decide +kernel
theorem d_Mo_cue_20 : decode M_Mo_cue.2.1 20 = .ok (.lreturn, 1) := by decide +kernel
theorem d_Mo_text_0 : decode M_Mo_text.2.1 0 = .ok (.aload_n 0, 1) := by decide +kernel
theorem d_Mo_text_1 : decode M_Mo_text.2.1 1 = .ok (.iload_n 1, 1) := by decide +kernel
theorem d_Mo_text_2 : decode M_Mo_text.2.1 2 = .ok (.invokevirtual 217, 3) := by decide +kernel
theorem d_Mo_text_5 : decode M_Mo_text.2.1 5 = .ok (.ifCond .eq 31, 3) := by decide +kernel
theorem d_Mo_text_36 : decode M_Mo_text.2.1 36 = .ok (.iconst (-1), 1) := by decide +kernel
theorem d_Mo_text_37 : decode M_Mo_text.2.1 37 = .ok (.ireturn, 1) := by decide +kernel
theorem d_Mo_repair_0 : decode M_Mo_repair.2.1 0 = .ok (.iconst 0, 1) := by decide +kernel
theorem d_Mo_repair_1 : decode M_Mo_repair.2.1 1 = .ok (.istore_n 1, 1) := by decide +kernel
theorem d_Mo_repair_2 : decode M_Mo_repair.2.1 2 = .ok (.iload_n 1, 1) := by decide +kernel
theorem d_Mo_repair_3 : decode M_Mo_repair.2.1 3 = .ok (.aload_n 0, 1) := by decide +kernel
theorem d_Mo_repair_4 : decode M_Mo_repair.2.1 4 = .ok (.getfield 92, 3) := by decide +kernel
theorem d_Mo_repair_7 : decode M_Mo_repair.2.1 7 = .ok (.if_icmp .ge 22, 3) := by decide +kernel
theorem d_Mo_repair_29 : decode M_Mo_repair.2.1 29 = .ok (.aload_n 0, 1) := by decide +kernel
theorem d_Mo_repair_30 : decode M_Mo_repair.2.1 30 = .ok (.invokevirtual 176, 3) := by decide +kernel
theorem d_Mo_repair_33 : decode M_Mo_repair.2.1 33 = .ok (.aload_n 0, 1) := by decide +kernel
theorem d_Mo_repair_34 : decode M_Mo_repair.2.1 34 = .ok (.getfield 92, 3) := by decide +kernel
theorem d_Mo_repair_37 : decode M_Mo_repair.2.1 37 = .ok (.ifCond .ne 5, 3) := by decide +kernel
theorem d_Mo_repair_40 : decode M_Mo_repair.2.1 40 = .ok (.iconst 0, 1) := by decide +kernel
theorem d_Mo_repair_41 : decode M_Mo_repair.2.1 41 = .ok (.ireturn, 1) := by decide +kernel
theorem d_Mo_breakLines_0 : decode M_Mo_breakLines.2.1 0 = .ok (.aload_n 0, 1) := by decide +kernel
theorem d_Mo_breakLines_1 : decode M_Mo_breakLines.2.1 1 = .ok (.iload_n 1, 1) := by decide +kernel
theorem d_Mo_breakLines_2 : decode M_Mo_breakLines.2.1 2 = .ok (.invokevirtual 217, 3) := by decide +kernel
theorem d_Mo_breakLines_5 : decode M_Mo_breakLines.2.1 5 = .ok (.ifCond .ne 6, 3) := by decide +kernel
theorem d_Mo_breakLines_8 : decode M_Mo_breakLines.2.1 8 = .ok (.bipush (-2), 2) := by decide +kernel
theorem d_Mo_breakLines_10 : decode M_Mo_breakLines.2.1 10 = .ok (.ireturn, 1) := by decide +kernel
theorem d_Mo_merge_0 : decode M_Mo_merge.2.1 0 = .ok (.aload_n 0, 1) := by decide +kernel
theorem d_Mo_merge_1 : decode M_Mo_merge.2.1 1 = .ok (.iload_n 1, 1) := by decide +kernel
theorem d_Mo_merge_2 : decode M_Mo_merge.2.1 2 = .ok (.invokevirtual 217, 3) := by decide +kernel
theorem d_Mo_merge_5 : decode M_Mo_merge.2.1 5 = .ok (.ifCond .eq 13, 3) := by decide +kernel
theorem d_Mo_merge_18 : decode M_Mo_merge.2.1 18 = .ok (.bipush (-2), 2) := by decide +kernel
theorem d_Mo_merge_20 : decode M_Mo_merge.2.1 20 = .ok (.ireturn, 1) := by decide +kernel
theorem d_Mo_split_0 : decode M_Mo_split.2.1 0 = .ok (.aload_n 0, 1) := by decide +kernel
theorem d_Mo_split_1 : decode M_Mo_split.2.1 1 = .ok (.iload_n 1, 1) := by decide +kernel
theorem d_Mo_split_2 : decode M_Mo_split.2.1 2 = .ok (.invokevirtual 217, 3) := by decide +kernel
theorem d_Mo_split_5 : decode M_Mo_split.2.1 5 = .ok (.ifCond .eq 36, 3) := by decide +kernel
theorem d_Mo_split_41 : decode M_Mo_split.2.1 41 = .ok (.bipush (-2), 2) := by decide +kernel
theorem d_Mo_split_43 : decode M_Mo_split.2.1 43 = .ok (.ireturn, 1) := by decide +kernel
theorem d_Mo_shift_0 : decode M_Mo_shift.2.1 0 = .ok (.lload_n 1, 1) := by decide +kernel
theorem d_Mo_shift_1 : decode M_Mo_shift.2.1 1 = .ok (.ldc2_w 273, 3) := by decide +kernel
theorem d_Mo_shift_4 : decode M_Mo_shift.2.1 4 = .ok (.lcmp, 1) := by decide +kernel
theorem d_Mo_shift_5 : decode M_Mo_shift.2.1 5 = .ok (.ifCond .lt 15, 3) := by decide +kernel
theorem d_Mo_shift_8 : decode M_Mo_shift.2.1 8 = .ok (.lload_n 1, 1) := by decide +kernel
theorem d_Mo_shift_9 : decode M_Mo_shift.2.1 9 = .ok (.ldc2_w 171, 3) := by decide +kernel
theorem d_Mo_shift_12 : decode M_Mo_shift.2.1 12 = .ok (.lcmp, 1) := by decide +kernel
theorem d_Mo_shift_13 : decode M_Mo_shift.2.1 13 = .ok (.ifCond .gt 7, 3) := by decide +kernel
theorem d_Mo_shift_16 : decode M_Mo_shift.2.1 16 = .ok (.iconst 1, 1) := by decide +kernel
theorem d_Mo_shift_17 : decode M_Mo_shift.2.1 17 = .ok (.goto 4, 3) := by decide +kernel
theorem d_Mo_shift_20 : decode M_Mo_shift.2.1 20 = .ok (.iconst 0, 1) := by decide +kernel
theorem d_Mo_shift_21 : decode M_Mo_shift.2.1 21 = .ok (.istore_n 3, 1) := by decide +kernel
theorem d_Mo_shift_22 : decode M_Mo_shift.2.1 22 = .ok (.iconst 0, 1) := by decide +kernel
theorem d_Mo_shift_23 : decode M_Mo_shift.2.1 23 = .ok (.istore 4, 2) := by decide +kernel
theorem d_Mo_shift_25 : decode M_Mo_shift.2.1 25 = .ok (.iload 4, 2) := by decide +kernel
theorem d_Mo_shift_27 : decode M_Mo_shift.2.1 27 = .ok (.aload_n 0, 1) := by decide +kernel
theorem d_Mo_shift_28 : decode M_Mo_shift.2.1 28 = .ok (.getfield 92, 3) := by decide +kernel
theorem d_Mo_shift_31 : decode M_Mo_shift.2.1 31 = .ok (.if_icmp .ge 51, 3) := by decide +kernel
theorem d_Mo_shift_82 : decode M_Mo_shift.2.1 82 = .ok (.iload_n 3, 1) := by decide +kernel
theorem d_Mo_shift_83 : decode M_Mo_shift.2.1 83 = .ok (.ifCond .ne 5, 3) := by decide +kernel
theorem d_Mo_shift_86 : decode M_Mo_shift.2.1 86 = .ok (.iconst 0, 1) := by decide +kernel
theorem d_Mo_shift_87 : decode M_Mo_shift.2.1 87 = .ok (.ireturn, 1) := by decide +kernel
theorem d_Mo_shift_88 : decode M_Mo_shift.2.1 88 = .ok (.aload_n 0, 1) := by decide +kernel
theorem d_Mo_shift_89 : decode M_Mo_shift.2.1 89 = .ok (.invokevirtual 176, 3) := by decide +kernel
theorem d_Mo_shift_92 : decode M_Mo_shift.2.1 92 = .ok (.iconst 0, 1) := by decide +kernel
theorem d_Mo_shift_93 : decode M_Mo_shift.2.1 93 = .ok (.istore 4, 2) := by decide +kernel
theorem d_Mo_shift_95 : decode M_Mo_shift.2.1 95 = .ok (.iload 4, 2) := by decide +kernel
theorem d_Mo_shift_97 : decode M_Mo_shift.2.1 97 = .ok (.aload_n 0, 1) := by decide +kernel
theorem d_Mo_shift_98 : decode M_Mo_shift.2.1 98 = .ok (.getfield 92, 3) := by decide +kernel
theorem d_Mo_shift_101 : decode M_Mo_shift.2.1 101 = .ok (.if_icmp .ge 41, 3) := by decide +kernel
theorem d_Mo_shift_142 : decode M_Mo_shift.2.1 142 = .ok (.iconst 1, 1) := by decide +kernel
theorem d_Mo_shift_143 : decode M_Mo_shift.2.1 143 = .ok (.ireturn, 1) := by decide +kernel
theorem d_Mo_clash_0 : decode M_Mo_clash.2.1 0 = .ok (.iconst 0, 1) := by decide +kernel
theorem d_Mo_clash_1 : decode M_Mo_clash.2.1 1 = .ok (.istore_n 1, 1) := by decide +kernel
theorem d_Mo_clash_2 : decode M_Mo_clash.2.1 2 = .ok (.iload_n 1, 1) := by decide +kernel
theorem d_Mo_clash_3 : decode M_Mo_clash.2.1 3 = .ok (.iconst 1, 1) := by decide +kernel
theorem d_Mo_clash_4 : decode M_Mo_clash.2.1 4 = .ok (.iadd, 1) := by decide +kernel
theorem d_Mo_clash_5 : decode M_Mo_clash.2.1 5 = .ok (.aload_n 0, 1) := by decide +kernel
theorem d_Mo_clash_6 : decode M_Mo_clash.2.1 6 = .ok (.getfield 92, 3) := by decide +kernel
theorem d_Mo_clash_9 : decode M_Mo_clash.2.1 9 = .ok (.if_icmp .ge 29, 3) := by decide +kernel
theorem d_Mo_clash_38 : decode M_Mo_clash.2.1 38 = .ok (.iconst (-1), 1) := by decide +kernel
theorem d_Mo_clash_39 : decode M_Mo_clash.2.1 39 = .ok (.ireturn, 1) := by decide +kernel
theorem d_Mo_undo_0 : decode M_Mo_undo.2.1 0 = .ok (.aload_n 0, 1) := by decide +kernel
theorem d_Mo_undo_1 : decode M_Mo_undo.2.1 1 = .ok (.getfield 104, 3) := by decide +kernel
theorem d_Mo_undo_4 : decode M_Mo_undo.2.1 4 = .ok (.ifCond .ne 5, 3) := by decide +kernel
theorem d_Mo_undo_7 : decode M_Mo_undo.2.1 7 = .ok (.iconst 0, 1) := by decide +kernel
theorem d_Mo_undo_8 : decode M_Mo_undo.2.1 8 = .ok (.ireturn, 1) := by decide +kernel
theorem d_Mo_twoPoint_0 : decode M_Mo_twoPoint.2.1 0 = .ok (.aload_n 0, 1) := by decide +kernel
theorem d_Mo_twoPoint_1 : decode M_Mo_twoPoint.2.1 1 = .ok (.invokevirtual 134, 3) := by decide +kernel
theorem d_Mo_twoPoint_4 : decode M_Mo_twoPoint.2.1 4 = .ok (.lstore 5, 2) := by decide +kernel
theorem d_Mo_twoPoint_6 : decode M_Mo_twoPoint.2.1 6 = .ok (.aload_n 0, 1) := by decide +kernel
theorem d_Mo_twoPoint_7 : decode M_Mo_twoPoint.2.1 7 = .ok (.iload_n 1, 1) := by decide +kernel
theorem d_Mo_twoPoint_8 : decode M_Mo_twoPoint.2.1 8 = .ok (.i2l, 1) := by decide +kernel
theorem d_Mo_twoPoint_9 : decode M_Mo_twoPoint.2.1 9 = .ok (.lload 5, 2) := by decide +kernel
theorem d_Mo_twoPoint_11 : decode M_Mo_twoPoint.2.1 11 = .ok (.lmul, 1) := by decide +kernel
theorem d_Mo_twoPoint_12 : decode M_Mo_twoPoint.2.1 12 = .ok (.invokevirtual 266, 3) := by decide +kernel
theorem d_Mo_twoPoint_15 : decode M_Mo_twoPoint.2.1 15 = .ok (.ifCond .eq 79, 3) := by decide +kernel
theorem d_Mo_twoPoint_18 : decode M_Mo_twoPoint.2.1 18 = .ok (.aload_n 0, 1) := by decide +kernel
theorem d_Mo_twoPoint_19 : decode M_Mo_twoPoint.2.1 19 = .ok (.iload_n 2, 1) := by decide +kernel
theorem d_Mo_twoPoint_20 : decode M_Mo_twoPoint.2.1 20 = .ok (.i2l, 1) := by decide +kernel
theorem d_Mo_twoPoint_21 : decode M_Mo_twoPoint.2.1 21 = .ok (.lload 5, 2) := by decide +kernel
theorem d_Mo_twoPoint_23 : decode M_Mo_twoPoint.2.1 23 = .ok (.lmul, 1) := by decide +kernel
theorem d_Mo_twoPoint_24 : decode M_Mo_twoPoint.2.1 24 = .ok (.invokevirtual 266, 3) := by decide +kernel
theorem d_Mo_twoPoint_27 : decode M_Mo_twoPoint.2.1 27 = .ok (.ifCond .eq 67, 3) := by decide +kernel
theorem d_Mo_twoPoint_30 : decode M_Mo_twoPoint.2.1 30 = .ok (.aload_n 0, 1) := by decide +kernel
theorem d_Mo_twoPoint_31 : decode M_Mo_twoPoint.2.1 31 = .ok (.iload_n 3, 1) := by decide +kernel
theorem d_Mo_twoPoint_32 : decode M_Mo_twoPoint.2.1 32 = .ok (.i2l, 1) := by decide +kernel
theorem d_Mo_twoPoint_33 : decode M_Mo_twoPoint.2.1 33 = .ok (.lload 5, 2) := by decide +kernel
theorem d_Mo_twoPoint_35 : decode M_Mo_twoPoint.2.1 35 = .ok (.lmul, 1) := by decide +kernel
theorem d_Mo_twoPoint_36 : decode M_Mo_twoPoint.2.1 36 = .ok (.invokevirtual 266, 3) := by decide +kernel
theorem d_Mo_twoPoint_39 : decode M_Mo_twoPoint.2.1 39 = .ok (.ifCond .eq 55, 3) := by decide +kernel
theorem d_Mo_twoPoint_42 : decode M_Mo_twoPoint.2.1 42 = .ok (.aload_n 0, 1) := by decide +kernel
theorem d_Mo_twoPoint_43 : decode M_Mo_twoPoint.2.1 43 = .ok (.iload 4, 2) := by decide +kernel
theorem d_Mo_twoPoint_45 : decode M_Mo_twoPoint.2.1 45 = .ok (.i2l, 1) := by decide +kernel
theorem d_Mo_twoPoint_46 : decode M_Mo_twoPoint.2.1 46 = .ok (.lload 5, 2) := by decide +kernel
theorem d_Mo_twoPoint_48 : decode M_Mo_twoPoint.2.1 48 = .ok (.lmul, 1) := by decide +kernel
theorem d_Mo_twoPoint_49 : decode M_Mo_twoPoint.2.1 49 = .ok (.invokevirtual 266, 3) := by decide +kernel
theorem d_Mo_twoPoint_52 : decode M_Mo_twoPoint.2.1 52 = .ok (.ifCond .eq 42, 3) := by decide +kernel
theorem d_Mo_twoPoint_55 : decode M_Mo_twoPoint.2.1 55 = .ok (.iload_n 1, 1) := by decide +kernel
theorem d_Mo_twoPoint_56 : decode M_Mo_twoPoint.2.1 56 = .ok (.iload_n 3, 1) := by decide +kernel
theorem d_Mo_twoPoint_57 : decode M_Mo_twoPoint.2.1 57 = .ok (.if_icmp .eq 37, 3) := by decide +kernel
theorem d_Mo_twoPoint_60 : decode M_Mo_twoPoint.2.1 60 = .ok (.iload_n 3, 1) := by decide +kernel
theorem d_Mo_twoPoint_61 : decode M_Mo_twoPoint.2.1 61 = .ok (.iload_n 1, 1) := by decide +kernel
theorem d_Mo_twoPoint_62 : decode M_Mo_twoPoint.2.1 62 = .ok (.if_icmp .le 7, 3) := by decide +kernel
theorem d_Mo_twoPoint_65 : decode M_Mo_twoPoint.2.1 65 = .ok (.iconst 1, 1) := by decide +kernel
theorem d_Mo_twoPoint_66 : decode M_Mo_twoPoint.2.1 66 = .ok (.goto 4, 3) := by decide +kernel
theorem d_Mo_twoPoint_69 : decode M_Mo_twoPoint.2.1 69 = .ok (.iconst 0, 1) := by decide +kernel
theorem d_Mo_twoPoint_70 : decode M_Mo_twoPoint.2.1 70 = .ok (.iload 4, 2) := by decide +kernel
theorem d_Mo_twoPoint_72 : decode M_Mo_twoPoint.2.1 72 = .ok (.iload_n 2, 1) := by decide +kernel
theorem d_Mo_twoPoint_73 : decode M_Mo_twoPoint.2.1 73 = .ok (.if_icmp .le 7, 3) := by decide +kernel
theorem d_Mo_twoPoint_76 : decode M_Mo_twoPoint.2.1 76 = .ok (.iconst 1, 1) := by decide +kernel
theorem d_Mo_twoPoint_77 : decode M_Mo_twoPoint.2.1 77 = .ok (.goto 4, 3) := by decide +kernel
theorem d_Mo_twoPoint_80 : decode M_Mo_twoPoint.2.1 80 = .ok (.iconst 0, 1) := by decide +kernel
theorem d_Mo_twoPoint_81 : decode M_Mo_twoPoint.2.1 81 = .ok (.if_icmp .ne 13, 3) := by decide +kernel
theorem d_Mo_twoPoint_84 : decode M_Mo_twoPoint.2.1 84 = .ok (.iload_n 2, 1) := by decide +kernel
theorem d_Mo_twoPoint_85 : decode M_Mo_twoPoint.2.1 85 = .ok (.iload 4, 2) := by decide +kernel
theorem d_Mo_twoPoint_87 : decode M_Mo_twoPoint.2.1 87 = .ok (.if_icmp .eq 7, 3) := by decide +kernel
theorem d_Mo_twoPoint_90 : decode M_Mo_twoPoint.2.1 90 = .ok (.iconst 1, 1) := by decide +kernel
theorem d_Mo_twoPoint_91 : decode M_Mo_twoPoint.2.1 91 = .ok (.goto 4, 3) := by decide +kernel
theorem d_Mo_twoPoint_94 : decode M_Mo_twoPoint.2.1 94 = .ok (.iconst 0, 1) := by decide +kernel
theorem d_Mo_twoPoint_95 : decode M_Mo_twoPoint.2.1 95 = .ok (.istore 7, 2) := by decide +kernel
theorem d_Mo_twoPoint_97 : decode M_Mo_twoPoint.2.1 97 = .ok (.iconst 0, 1) := by decide +kernel
theorem d_Mo_twoPoint_98 : decode M_Mo_twoPoint.2.1 98 = .ok (.istore 8, 2) := by decide +kernel
theorem d_Mo_twoPoint_100 : decode M_Mo_twoPoint.2.1 100 = .ok (.iload 8, 2) := by decide +kernel
theorem d_Mo_twoPoint_102 : decode M_Mo_twoPoint.2.1 102 = .ok (.aload_n 0, 1) := by decide +kernel
theorem d_Mo_twoPoint_103 : decode M_Mo_twoPoint.2.1 103 = .ok (.getfield 92, 3) := by decide +kernel
theorem d_Mo_twoPoint_106 : decode M_Mo_twoPoint.2.1 106 = .ok (.if_icmp .ge 92, 3) := by decide +kernel
theorem d_Mo_twoPoint_198 : decode M_Mo_twoPoint.2.1 198 = .ok (.iload 7, 2) := by decide +kernel
theorem d_Mo_twoPoint_200 : decode M_Mo_twoPoint.2.1 200 = .ok (.ifCond .ne 5, 3) := by decide +kernel
theorem d_Mo_twoPoint_203 : decode M_Mo_twoPoint.2.1 203 = .ok (.iconst 0, 1) := by decide +kernel
theorem d_Mo_twoPoint_204 : decode M_Mo_twoPoint.2.1 204 = .ok (.ireturn, 1) := by decide +kernel
theorem d_Mo_twoPoint_205 : decode M_Mo_twoPoint.2.1 205 = .ok (.aload_n 0, 1) := by decide +kernel
theorem d_Mo_twoPoint_206 : decode M_Mo_twoPoint.2.1 206 = .ok (.invokevirtual 176, 3) := by decide +kernel
theorem d_Mo_twoPoint_209 : decode M_Mo_twoPoint.2.1 209 = .ok (.iconst 0, 1) := by decide +kernel
theorem d_Mo_twoPoint_210 : decode M_Mo_twoPoint.2.1 210 = .ok (.istore 8, 2) := by decide +kernel
theorem d_Mo_twoPoint_212 : decode M_Mo_twoPoint.2.1 212 = .ok (.iload 8, 2) := by decide +kernel
theorem d_Mo_twoPoint_214 : decode M_Mo_twoPoint.2.1 214 = .ok (.aload_n 0, 1) := by decide +kernel
theorem d_Mo_twoPoint_215 : decode M_Mo_twoPoint.2.1 215 = .ok (.getfield 92, 3) := by decide +kernel
theorem d_Mo_twoPoint_218 : decode M_Mo_twoPoint.2.1 218 = .ok (.if_icmp .ge 69, 3) := by decide +kernel
theorem d_Mo_twoPoint_287 : decode M_Mo_twoPoint.2.1 287 = .ok (.iconst 1, 1) := by decide +kernel
theorem d_Mo_twoPoint_288 : decode M_Mo_twoPoint.2.1 288 = .ok (.ireturn, 1) := by decide +kernel
theorem has0 (i : Int) : hasZ 0 i = 0 := by
  unfold hasZ
  split <;> omega
theorem holdZ_0 {t f : Int} (h : holdZ t f = 0) : f < 0 ∨ 2540160000000 < f * t := by
  unfold holdZ at h
  split at h <;> omega
theorem holdZ_1 {t f : Int} (h : holdZ t f ≠ 0) : 0 ≤ f ∧ f * t ≤ 2540160000000 := by
  unfold holdZ at h
  split at h <;> omega
theorem holdZ_r (t f : Int) : holdZ t f = 0 ∨ holdZ t f = 1 := by
  unfold holdZ
  split <;> omega
def timeZ (t : Int) : Int := if 0 ≤ t ∧ t ≤ 2540160000000 then 1 else 0
theorem timeZ_0 {t : Int} (h : timeZ t = 0) : t < 0 ∨ 2540160000000 < t := by
  unfold timeZ at h
  split at h <;> omega
theorem timeZ_1 {t : Int} (h : timeZ t ≠ 0) : 0 ≤ t ∧ t ≤ 2540160000000 := by
  unfold timeZ at h
  split at h <;> omega
theorem timeZ_r (t : Int) : timeZ t = 0 ∨ timeZ t = 1 := by
  unfold timeZ
  split <;> omega
theorem isFormZ_r (f : Int) : isFormZ f = 0 ∨ isFormZ f = 1 := by
  unfold isFormZ
  split <;> omega
theorem isFormZ_0 {f : Int} (h : isFormZ f = 0) : f < 0 ∨ 2 < f := by
  unfold isFormZ at h
  split at h <;> omega
theorem isFormZ_1 {f : Int} (h : isFormZ f ≠ 0) : 0 ≤ f ∧ f ≤ 2 := by
  unfold isFormZ at h
  split at h <;> omega
def okF (f : Int) : Int := if 0 ≤ f ∧ f ≤ 2 then 0 else -2
def tpZ (a c b d : Int) : Int := if 0 ≤ a ∧ a * 28224000 ≤ 2540160000000 ∧ 0 ≤ c ∧ c * 28224000 ≤ 2540160000000 ∧ 0 ≤ b ∧ b * 28224000 ≤ 2540160000000 ∧ 0 ≤ d ∧ d * 28224000 ≤ 2540160000000 ∧ ((a < b ∧ c < d) ∨ (b < a ∧ d < c)) then 1 else 0
def shZ (t : Int) : Int := if -2540160000000 ≤ t ∧ t ≤ 2540160000000 then 1 else 0
set_option maxHeartbeats 4000000 in
set_option maxRecDepth 100000 in
theorem f_Re_findFault (G : GT) (h : HM) (b bb xe xf ef el e1 e2 e3 e4 : Nat) (f : Int) (hb : h b = some (.inr (1, [.ref bb, .int (iZ 0)]))) (he : h xe = some (.inr (3, [.ref b, .ref xf, .ref ef, .ref el, .int (iZ 0), .int (iZ 0), .int (iZ 0), .long (lZ 0), .long (lZ 0), .long (lZ 0)]))) (hg : h ef = some (.inr (2, [.ref e1, .ref e2, .ref e3, .ref e4, .int (iZ 0)]))) (g0 : iR f)  : Rn G M_Re_findFault (rm 0 0) [.ref xe, .int (iZ f)] h (fun r h' => r = some (.int (iZ (-1))) ∧ Fx [ef, xe] h h') := by
  refine rn_of (by decide) (Nat.le_of_ble_eq_true rfl) ?_
  show Ev G M_Re_findFault _ _ 0 [(0, .ref xe), (1, .int (iZ f))] [] _ 0 0
  have fx : Fx [ef, xe] h h := Fx.rf
  refine ev_aload_n d_Re_findFault_0 rfl rfl ?_
  refine ev_get d_Re_findFault_1 fl_Re_12 he rfl ?_
  refine ev_iconst (v := iZ 0) d_Re_findFault_4 rfl ?_
  refine ev_put2 (fs' := [.ref e1, .ref e2, .ref e3, .ref e4, .int (iZ 0)]) d_Re_findFault_5 fw_Re_30 (Or.inr (fun _ _ _ q => by cases q; rfl)) hg (Nat.le_of_ble_eq_true rfl) rfl rfl rfl (fun h1 h1a h1o => ?_)
  have hb := (h1o _ (cne hb hg (by simp))).trans hb
  have he := (h1o _ (cne he hg (by simp))).trans he
  have hg := h1a
  have fx := fx.step (by simp) h1o
  refine ev_aload_n d_Re_findFault_8 rfl rfl ?_
  refine ev_iconst (v := iZ 0) d_Re_findFault_9 rfl ?_
  refine ev_put2 (fs' := [.ref b, .ref xf, .ref ef, .ref el, .int (iZ 0), .int (iZ 0), .int (iZ 0), .long (lZ 0), .long (lZ 0), .long (lZ 0)]) d_Re_findFault_10 fw_Re_34 (Or.inr (fun _ _ _ q => by cases q; rfl)) he (Nat.le_of_ble_eq_true rfl) rfl rfl rfl (fun h2 h2a h2o => ?_)
  have hb := (h2o _ (cne hb he (by simp))).trans hb
  have hg := (h2o _ (cne hg he (by simp))).trans hg
  have he := h2a
  have fx := fx.step (by simp) h2o
  refine ev_iconst (v := iZ 0) d_Re_findFault_13 rfl ?_
  refine ev_istore_n (L' := [(0, .ref xe), (1, .int (iZ f)), (2, .int (iZ 0))]) d_Re_findFault_14 rfl (by decide) rfl ?_
  refine ev_iload_n d_Re_findFault_15 rfl rfl ?_
  refine ev_bipush (v := iZ 16) d_Re_findFault_16 rfl ?_
  refine ez_icmp_gt (tgt := 97) (by decide) (by decide) d_Re_findFault_18 rfl (fun c18 => absurd c18 (by omega)) (fun c18 => ?_)
  refine ev_aload_n d_Re_findFault_21 rfl rfl ?_
  refine ev_get d_Re_findFault_22 fl_Re_34 he rfl ?_
  refine ev_aload_n d_Re_findFault_25 rfl rfl ?_
  refine ev_get d_Re_findFault_26 fl_Re_22 he rfl ?_
  refine ev_get d_Re_findFault_29 fl_Re_37 hb rfl ?_
  refine ez_icmp_ge (tgt := 97) (by decide) (by decide) d_Re_findFault_32 rfl (fun c32 => ?_) (fun c32 => absurd c32 (by omega))
  refine ev_iconst (v := iZ (-1)) d_Re_findFault_97 rfl ?_
  exact ev_ireturn d_Re_findFault_98 rfl (by decide) (by decide) (⟨rfl, fx⟩)
set_option maxHeartbeats 4000000 in
set_option maxRecDepth 100000 in
theorem f_Wr_length (G : GT) (h : HM) (xo o1 o2 o3 o4 xw b xf : Nat) (f : Int) (ho : h xo = some (.inr (2, [.ref o1, .ref o2, .ref o3, .ref o4, .int (iZ 0)]))) (hw : h xw = some (.inr (4, [.ref b, .ref xf, .ref xo]))) (g0 : iR f)  : Rn G M_Wr_length (rm 0 0) [.ref xw, .int (iZ f)] h (fun r h' => r = some (.int (iZ (0))) ∧ Fx [] h h') := by
  refine rn_of (by decide) (Nat.le_of_ble_eq_true rfl) ?_
  show Ev G M_Wr_length _ _ 0 [(0, .ref xw), (1, .int (iZ f))] [] _ 0 0
  have fx : Fx [] h h := Fx.rf
  refine ev_iconst (v := iZ 0) d_Wr_length_0 rfl ?_
  refine ev_istore_n (L' := [(0, .ref xw), (1, .int (iZ f)), (2, .int (iZ 0))]) d_Wr_length_1 rfl (by decide) rfl ?_
  refine ev_iconst (v := iZ 0) d_Wr_length_2 rfl ?_
  refine ev_istore_n (L' := [(0, .ref xw), (1, .int (iZ f)), (2, .int (iZ 0)), (3, .int (iZ 0))]) d_Wr_length_3 rfl (by decide) rfl ?_
  refine ev_iload_n d_Wr_length_4 rfl rfl ?_
  refine ev_aload_n d_Wr_length_5 rfl rfl ?_
  refine ev_get d_Wr_length_6 fl_Wr_19 hw rfl ?_
  refine ev_get d_Wr_length_9 fl_Wr_23 ho rfl ?_
  refine ez_icmp_ge (tgt := 40) (by decide) (by decide) d_Wr_length_12 rfl (fun c12 => ?_) (fun c12 => absurd c12 (by omega))
  refine ev_iload_n d_Wr_length_40 rfl rfl ?_
  exact ev_ireturn d_Wr_length_41 rfl (by decide) (by decide) (⟨rfl, fx⟩)
set_option maxHeartbeats 4000000 in
set_option maxRecDepth 100000 in
theorem f_Wr_fill (G : GT) (h : HM) (b bb xo o1 o2 o3 o4 xw xf : Nat) (f : Int) (hb : h b = some (.inr (1, [.ref bb, .int (iZ 0)]))) (ho : h xo = some (.inr (2, [.ref o1, .ref o2, .ref o3, .ref o4, .int (iZ 0)]))) (hw : h xw = some (.inr (4, [.ref b, .ref xf, .ref xo]))) (g0 : iR f)  : Rn G M_Wr_fill (rm 0 0) [.ref xw, .int (iZ f)] h (fun r h' => r = none ∧ Fx [b] h h') := by
  refine rn_of (by decide) (Nat.le_of_ble_eq_true rfl) ?_
  show Ev G M_Wr_fill _ _ 0 [(0, .ref xw), (1, .int (iZ f))] [] _ 0 0
  have fx : Fx [b] h h := Fx.rf
  refine ev_aload_n d_Wr_fill_0 rfl rfl ?_
  refine ev_get d_Wr_fill_1 fl_Wr_9 hw rfl ?_
  refine ev_iconst (v := iZ 0) d_Wr_fill_4 rfl ?_
  refine ev_put2 (fs' := [.ref bb, .int (iZ 0)]) d_Wr_fill_5 fw_Wr_57 (Or.inr (fun _ _ _ q => by cases q; rfl)) hb (Nat.le_of_ble_eq_true rfl) rfl rfl rfl (fun h1 h1a h1o => ?_)
  have ho := (h1o _ (cne ho hb (by simp))).trans ho
  have hw := (h1o _ (cne hw hb (by simp))).trans hw
  have hb := h1a
  have fx := fx.step (by simp) h1o
  refine ev_iconst (v := iZ 0) d_Wr_fill_8 rfl ?_
  refine ev_istore_n (L' := [(0, .ref xw), (1, .int (iZ f)), (2, .int (iZ 0))]) d_Wr_fill_9 rfl (by decide) rfl ?_
  refine ev_iload_n d_Wr_fill_10 rfl rfl ?_
  refine ev_aload_n d_Wr_fill_11 rfl rfl ?_
  refine ev_get d_Wr_fill_12 fl_Wr_19 hw rfl ?_
  refine ev_get d_Wr_fill_15 fl_Wr_23 ho rfl ?_
  refine ez_icmp_ge (tgt := 57) (by decide) (by decide) d_Wr_fill_18 rfl (fun c18 => ?_) (fun c18 => absurd c18 (by omega))
  exact ev_return d_Wr_fill_57 rfl (by decide) (by decide) (⟨rfl, fx⟩)
set_option maxHeartbeats 4000000 in
set_option maxRecDepth 100000 in
theorem f_Rp_leastFrom (G : GT) (h : HM) (xo o1 o2 o3 o4 xr xf xu t1 t2 t3 t4 t5 t6 t7 : Nat)  (ho : h xo = some (.inr (2, [.ref o1, .ref o2, .ref o3, .ref o4, .int (iZ 0)]))) (hrp : h xr = some (.inr (9, [.ref xo, .ref xf, .ref xu, .ref t1, .ref t2, .ref t3, .ref t4, .ref t5, .ref t6, .ref t7])))   : Rn G M_Rp_leastFrom (rm 0 0) [.ref xr, .int (iZ 0), .int (iZ 0)] h (fun r h' => r = some (.int (iZ (0))) ∧ Fx [] h h') := by
  refine rn_of (by decide) (Nat.le_of_ble_eq_true rfl) ?_
  show Ev G M_Rp_leastFrom _ _ 0 [(0, .ref xr), (1, .int (iZ 0)), (2, .int (iZ 0))] [] _ 0 0
  have fx : Fx [] h h := Fx.rf
  refine ev_iload_n d_Rp_leastFrom_0 rfl rfl ?_
  refine ev_aload_n d_Rp_leastFrom_1 rfl rfl ?_
  refine ev_get d_Rp_leastFrom_2 fl_Rp_33 hrp rfl ?_
  refine ev_get d_Rp_leastFrom_5 fl_Rp_45 ho rfl ?_
  refine ez_icmp_lt (tgt := 13) (by decide) (by decide) d_Rp_leastFrom_8 rfl (fun c8 => absurd c8 (by omega)) (fun c8 => ?_)
  refine ev_iconst (v := iZ 0) d_Rp_leastFrom_11 rfl ?_
  exact ev_ireturn d_Rp_leastFrom_12 rfl (by decide) (by decide) (⟨rfl, fx⟩)
set_option maxHeartbeats 4000000 in
set_option maxRecDepth 100000 in
theorem f_Rp_leastSum (G : GT) (h : HM) (xo o1 o2 o3 o4 xr xf xu t1 t2 t3 t4 t5 t6 t7 : Nat)  (ho : h xo = some (.inr (2, [.ref o1, .ref o2, .ref o3, .ref o4, .int (iZ 0)]))) (hrp : h xr = some (.inr (9, [.ref xo, .ref xf, .ref xu, .ref t1, .ref t2, .ref t3, .ref t4, .ref t5, .ref t6, .ref t7])))   : Rn G M_Rp_leastSum (rm 1 23) [.ref xr] h (fun r h' => r = some (.int (iZ (0))) ∧ Fx [] h h') := by
  refine rn_of (by decide) (Nat.le_of_ble_eq_true rfl) ?_
  show Ev G M_Rp_leastSum _ _ 0 [(0, .ref xr)] [] _ 0 0
  have fx : Fx [] h h := Fx.rf
  refine ev_aload_n d_Rp_leastSum_0 rfl rfl ?_
  refine ev_get d_Rp_leastSum_1 fl_Rp_33 hrp rfl ?_
  refine ev_get d_Rp_leastSum_4 fl_Rp_45 ho rfl ?_
  refine ev_iconst (v := iZ 1) d_Rp_leastSum_7 rfl ?_
  refine ez_isub d_Rp_leastSum_8 ?_
  refine ev_istore_n (L' := [(0, .ref xr), (1, .int (iZ (-1)))]) d_Rp_leastSum_9 rfl (by decide) rfl ?_
  refine ev_iload_n d_Rp_leastSum_10 rfl rfl ?_
  refine ez_if_lt (tgt := 115) (by decide) d_Rp_leastSum_11 rfl (fun c11 => ?_) (fun c11 => absurd c11 (by omega))
  refine ev_aload_n d_Rp_leastSum_115 rfl rfl ?_
  refine ev_iconst (v := iZ 0) d_Rp_leastSum_116 rfl ?_
  refine ev_iconst (v := iZ 0) d_Rp_leastSum_117 rfl ?_
  refine ev_callV M_Rp_leastFrom (rm 0 0) _ (As := [.int (iZ 0), .int (iZ 0)]) (f_Rp_leastFrom G h xo o1 o2 o3 o4 xr xf xu t1 t2 t3 t4 t5 t6 t7 ho hrp) d_Rp_leastSum_118 mk_Rp_leastFrom ml_Rp_83 mv_Rp_leastFrom hrp rfl rfl rfl (Nat.le_of_ble_eq_true rfl) ⟨by decide, by decide⟩ ⟨by decide, by decide⟩ (fun r h2 hq => ?_)
  obtain ⟨rfl, fx2⟩ := hq
  have hrp := fx2 _ _ hrp nin0
  have ho := fx2 _ _ ho nin0
  have fx := fx.call fx2 (fun z hz => absurd hz nin0)
  exact ev_ireturn d_Rp_leastSum_121 rfl (by decide) (by decide) (⟨rfl, fx⟩)
set_option maxHeartbeats 4000000 in
set_option maxRecDepth 100000 in
theorem f_Rp_take (G : GT) (h : HM) (xo o1 o2 o3 o4 xr xf xu t1 t2 t3 t4 t5 t6 t7 : Nat)  (ho : h xo = some (.inr (2, [.ref o1, .ref o2, .ref o3, .ref o4, .int (iZ 0)]))) (hrp : h xr = some (.inr (9, [.ref xo, .ref xf, .ref xu, .ref t1, .ref t2, .ref t3, .ref t4, .ref t5, .ref t6, .ref t7])))   : Rn G M_Rp_take (rm 0 0) [.ref xr] h (fun r h' => r = none ∧ Fx [] h h') := by
  refine rn_of (by decide) (Nat.le_of_ble_eq_true rfl) ?_
  show Ev G M_Rp_take _ _ 0 [(0, .ref xr)] [] _ 0 0
  have fx : Fx [] h h := Fx.rf
  refine ev_iconst (v := iZ 0) d_Rp_take_0 rfl ?_
  refine ev_istore_n (L' := [(0, .ref xr), (1, .int (iZ 0))]) d_Rp_take_1 rfl (by decide) rfl ?_
  refine ev_iconst (v := iZ 0) d_Rp_take_2 rfl ?_
  refine ev_istore_n (L' := [(0, .ref xr), (1, .int (iZ 0)), (2, .int (iZ 0))]) d_Rp_take_3 rfl (by decide) rfl ?_
  refine ev_iload_n d_Rp_take_4 rfl rfl ?_
  refine ev_aload_n d_Rp_take_5 rfl rfl ?_
  refine ev_get d_Rp_take_6 fl_Rp_33 hrp rfl ?_
  refine ev_get d_Rp_take_9 fl_Rp_45 ho rfl ?_
  refine ez_icmp_ge (tgt := 98) (by decide) (by decide) d_Rp_take_12 rfl (fun c12 => ?_) (fun c12 => absurd c12 (by omega))
  exact ev_return d_Rp_take_98 rfl (by decide) (by decide) (⟨rfl, fx⟩)
set_option maxHeartbeats 4000000 in
set_option maxRecDepth 100000 in
theorem g_Re_findFault (G : GT) (h : HM) (b bb xe xf ef el e1 e2 e3 e4 : Nat) (f : Int) (hb : h b = some (.inr (1, [.ref bb, .int (iZ 0)]))) (he : h xe = some (.inr (3, [.ref b, .ref xf, .ref ef, .ref el, .int (iZ 0), .int (iZ 0), .int (iZ 0), .long (lZ 0), .long (lZ 0), .long (lZ 0)]))) (hg : h ef = some (.inr (2, [.ref e1, .ref e2, .ref e3, .ref e4, .int (iZ 0)]))) (g0 : iR f) : Rn G M_Re_findFault (rm 0 0) [.ref xe, .int (iZ f)] h (fun r h' => r = some (.int (iZ (-1))) ∧ h' xe = some (.inr (3, [.ref b, .ref xf, .ref ef, .ref el, .int (iZ 0), .int (iZ 0), .int (iZ 0), .long (lZ 0), .long (lZ 0), .long (lZ 0)])) ∧ h' ef = some (.inr (2, [.ref e1, .ref e2, .ref e3, .ref e4, .int (iZ 0)])) ∧ Fm [ef, xe] h h') := by
  refine rn_of (by decide) (Nat.le_of_ble_eq_true rfl) ?_
  show Ev G M_Re_findFault _ _ 0 [(0, .ref xe), (1, .int (iZ f))] [] _ 0 0
  have fm : Fm [ef, xe] h h := Fm.rf
  refine ev_aload_n d_Re_findFault_0 rfl rfl ?_
  refine ev_get d_Re_findFault_1 fl_Re_12 he rfl ?_
  refine ev_iconst (v := iZ 0) d_Re_findFault_4 rfl ?_
  refine ev_put2 (fs' := [.ref e1, .ref e2, .ref e3, .ref e4, .int (iZ 0)]) d_Re_findFault_5 fw_Re_30 (Or.inr (fun _ _ _ q => by cases q; rfl)) hg (Nat.le_of_ble_eq_true rfl) rfl rfl rfl (fun h1 h1a h1o => ?_)
  have hb := (h1o _ (cne hb hg (by simp))).trans hb
  have he := (h1o _ (cne he hg (by simp))).trans he
  have hg := h1a
  have fm := fm.step (by simp) h1o
  refine ev_aload_n d_Re_findFault_8 rfl rfl ?_
  refine ev_iconst (v := iZ 0) d_Re_findFault_9 rfl ?_
  refine ev_put2 (fs' := [.ref b, .ref xf, .ref ef, .ref el, .int (iZ 0), .int (iZ 0), .int (iZ 0), .long (lZ 0), .long (lZ 0), .long (lZ 0)]) d_Re_findFault_10 fw_Re_34 (Or.inr (fun _ _ _ q => by cases q; rfl)) he (Nat.le_of_ble_eq_true rfl) rfl rfl rfl (fun h2 h2a h2o => ?_)
  have hb := (h2o _ (cne hb he (by simp))).trans hb
  have hg := (h2o _ (cne hg he (by simp))).trans hg
  have he := h2a
  have fm := fm.step (by simp) h2o
  refine ev_iconst (v := iZ 0) d_Re_findFault_13 rfl ?_
  refine ev_istore_n (L' := [(0, .ref xe), (1, .int (iZ f)), (2, .int (iZ 0))]) d_Re_findFault_14 rfl (by decide) rfl ?_
  refine ev_iload_n d_Re_findFault_15 rfl rfl ?_
  refine ev_bipush (v := iZ 16) d_Re_findFault_16 rfl ?_
  refine ez_icmp_gt (tgt := 97) (by decide) (by decide) d_Re_findFault_18 rfl (fun c18 => absurd c18 (by omega)) (fun c18 => ?_)
  refine ev_aload_n d_Re_findFault_21 rfl rfl ?_
  refine ev_get d_Re_findFault_22 fl_Re_34 he rfl ?_
  refine ev_aload_n d_Re_findFault_25 rfl rfl ?_
  refine ev_get d_Re_findFault_26 fl_Re_22 he rfl ?_
  refine ev_get d_Re_findFault_29 fl_Re_37 hb rfl ?_
  refine ez_icmp_ge (tgt := 97) (by decide) (by decide) d_Re_findFault_32 rfl (fun c32 => ?_) (fun c32 => absurd c32 (by omega))
  refine ev_iconst (v := iZ (-1)) d_Re_findFault_97 rfl ?_
  exact ev_ireturn d_Re_findFault_98 rfl (by decide) (by decide) (⟨rfl, he, hg, fm⟩)
set_option maxHeartbeats 4000000 in
set_option maxRecDepth 100000 in
theorem f_CB_read (G : GT) (h : HM) (x b xf xu xo xp xe xw xl xr bb o1 o2 o3 o4 pk ef el e1 e2 e3 e4 : Nat) (f : Int) (hx : h x = some (.inr (0, [.ref b, .ref xf, .ref xu, .ref xo, .ref xp, .ref xe, .ref xw, .ref xl, .ref xr]))) (hb : h b = some (.inr (1, [.ref bb, .int (iZ 0)]))) (ho : h xo = some (.inr (2, [.ref o1, .ref o2, .ref o3, .ref o4, .int (iZ 0)]))) (ho1 : h o1 = some (.inl (G_j G, 16, .inr (.inl (lA (fun _ => 0)))))) (ho2 : h o2 = some (.inl (G_j G, 16, .inr (.inl (lA (fun _ => 0)))))) (ho3 : h o3 = some (.inl (G_i G, 16, .inl (iA (fun _ => 0))))) (ho4 : h o4 = some (.inl (G_i G, 1024, .inl (iA (fun _ => 0))))) (hp : h xp = some (.inr (7, [.ref pk, .int (iZ 0), .int (iZ 0)]))) (hpk : h pk = some (.inl (G_q G, 10, .inr (.inr (.inr (.inr (fun _ => none))))))) (he : h xe = some (.inr (3, [.ref b, .ref xf, .ref ef, .ref el, .int (iZ 0), .int (iZ 0), .int (iZ 0), .long (lZ 0), .long (lZ 0), .long (lZ 0)]))) (hg : h ef = some (.inr (2, [.ref e1, .ref e2, .ref e3, .ref e4, .int (iZ 0)]))) (hg1 : h e1 = some (.inl (G_j G, 16, .inr (.inl (lA (fun _ => 0)))))) (hg2 : h e2 = some (.inl (G_j G, 16, .inr (.inl (lA (fun _ => 0)))))) (hg3 : h e3 = some (.inl (G_i G, 16, .inl (iA (fun _ => 0))))) (hg4 : h e4 = some (.inl (G_i G, 1024, .inl (iA (fun _ => 0))))) (g0 : iR f) (n_o : o1 ≠ o2) (n_oe : xo ≠ ef) (n_11 : o1 ≠ e1) (n_12 : o1 ≠ e2) (n_21 : o2 ≠ e1) (n_22 : o2 ≠ e2) (n_33 : o3 ≠ e3) (n_44 : o4 ≠ e4) (n_e : e1 ≠ e2) : Rn G M_CB_read ({ frames := 3, cells := 5, slots := 1077, locals := 82 }) [.ref x, .int (iZ f)] h (fun r h' => r = some (.int (iZ (okF f))) ∧ Fx [xo, o1, o2, o3, o4, ef, xe, xp, pk] h h') := by
  refine rn_of (by decide) (Nat.le_of_ble_eq_true rfl) ?_
  show Ev G M_CB_read _ _ 0 [(0, .ref x), (1, .int (iZ f))] [] _ 0 0
  have fx : Fx [xo, o1, o2, o3, o4, ef, xe, xp, pk] h h := Fx.rf
  refine ev_iload_n d_CB_read_0 rfl rfl ?_
  have fr9 := isFormZ_r f
  refine ev_pS M_CB_isForm 0 0 (As := [.int (iZ f)]) (c_CB_isForm G h f (by omega)) d_CB_read_1 mk_CB_isForm ml_CB_96 ms_CB_isForm rfl rfl (Nat.le_of_ble_eq_true rfl) ⟨by decide, by decide⟩ ⟨by decide, by decide⟩ ?_
  refine ez_if_ne (tgt := 10) (by omega) d_CB_read_4 rfl (fun c4 => ?_) (fun c4 => ?_)
  · have z4 := isFormZ_1 c4
    refine ev_aload_n d_CB_read_10 rfl rfl ?_
    refine ev_get d_CB_read_11 fl_CB_49 hx rfl ?_
    refine ev_iload_n d_CB_read_14 rfl rfl ?_
    refine ev_callV M_Re_findFault (rm 0 0) _ (As := [.int (iZ f)]) (g_Re_findFault G h b bb xe xf ef el e1 e2 e3 e4 f hb he hg g0) d_CB_read_15 mk_Re_findFault ml_CB_100 mv_Re_findFault he rfl rfl rfl (Nat.le_of_ble_eq_true rfl) ⟨by decide, by decide⟩ ⟨by decide, by decide⟩ (fun r h1 hq => ?_)
    obtain ⟨rfl, heN, hgN, fm2⟩ := hq
    have hx := (fm2 _ (ninc (cne hx hg (by simp)) (ninc (cne hx he (by simp)) nin0))).trans hx
    have hb := (fm2 _ (ninc (cne hb hg (by simp)) (ninc (cne hb he (by simp)) nin0))).trans hb
    have ho := (fm2 _ (ninc n_oe (ninc (cne ho he (by simp)) nin0))).trans ho
    have ho1 := (fm2 _ (ninc (cne ho1 hg (by simp)) (ninc (cne ho1 he (by simp)) nin0))).trans ho1
    have ho2 := (fm2 _ (ninc (cne ho2 hg (by simp)) (ninc (cne ho2 he (by simp)) nin0))).trans ho2
    have ho3 := (fm2 _ (ninc (cne ho3 hg (by simp)) (ninc (cne ho3 he (by simp)) nin0))).trans ho3
    have ho4 := (fm2 _ (ninc (cne ho4 hg (by simp)) (ninc (cne ho4 he (by simp)) nin0))).trans ho4
    have hp := (fm2 _ (ninc (cne hp hg (by simp)) (ninc (cne hp he (by simp)) nin0))).trans hp
    have hpk := (fm2 _ (ninc (cne hpk hg (by simp)) (ninc (cne hpk he (by simp)) nin0))).trans hpk
    have hg1 := (fm2 _ (ninc (cne hg1 hg (by simp)) (ninc (cne hg1 he (by simp)) nin0))).trans hg1
    have hg2 := (fm2 _ (ninc (cne hg2 hg (by simp)) (ninc (cne hg2 he (by simp)) nin0))).trans hg2
    have hg3 := (fm2 _ (ninc (cne hg3 hg (by simp)) (ninc (cne hg3 he (by simp)) nin0))).trans hg3
    have hg4 := (fm2 _ (ninc (cne hg4 hg (by simp)) (ninc (cne hg4 he (by simp)) nin0))).trans hg4
    have he := heN
    have hg := hgN
    have fx := fx.call (Fx.of fm2) (fun z hz => Or.inl (by simp at hz ⊢; rcases hz with rfl | rfl <;> simp))
    refine ev_istore_n (L' := [(0, .ref x), (1, .int (iZ f)), (2, .int (iZ (-1)))]) d_CB_read_18 rfl (by decide) rfl ?_
    refine ev_iload_n d_CB_read_19 rfl rfl ?_
    refine ev_iconst (v := iZ (-1)) d_CB_read_20 rfl ?_
    refine ez_icmp_eq (tgt := 29) (by decide) (by decide) d_CB_read_21 rfl (fun c21 => ?_) (fun c21 => absurd c21 (by omega))
    refine ev_aload_n d_CB_read_29 rfl rfl ?_
    refine ev_get d_CB_read_30 fl_CB_40 hx rfl ?_
    refine ev_aload_n d_CB_read_33 rfl rfl ?_
    refine ev_get d_CB_read_34 fl_CB_33 hx rfl ?_
    refine ev_callV M_Pa_keep ({ frames := 2, cells := 5, slots := 1077, locals := 61 }) _ (As := [.ref xo]) (c_Pa_keepN G h1 xp pk xo o1 o2 o3 o4 (fun _ => none) 0 0 0 _ _ _ _ hp hpk ho ho1 ho2 ho3 ho4 (by decide) (by decide) (by decide) rfl n_o) d_CB_read_37 mk_Pa_keep ml_CB_103 mv_Pa_keep hp rfl rfl rfl (Nat.le_of_ble_eq_true rfl) ⟨by decide, by decide⟩ ⟨by decide, by decide⟩ (fun r h2 hq => ?_)
    obtain ⟨rfl, kq, kq1, kq2, kq3, kq4, ltq, _, _, _, _, _, _, _, _, _, _, _, fxk⟩ := hq
    have hx := fxk _ _ hx (ninc (cne hx hp (by simp)) (ninc (cne hx hpk (by simp)) nin0))
    have hb := fxk _ _ hb (ninc (cne hb hp (by simp)) (ninc (cne hb hpk (by simp)) nin0))
    have ho := fxk _ _ ho (ninc (cne ho hp (by simp)) (ninc (cne ho hpk (by simp)) nin0))
    have ho1 := fxk _ _ ho1 (ninc (cne ho1 hp (by simp)) (ninc (cne ho1 hpk (by simp)) nin0))
    have ho2 := fxk _ _ ho2 (ninc (cne ho2 hp (by simp)) (ninc (cne ho2 hpk (by simp)) nin0))
    have ho3 := fxk _ _ ho3 (ninc (cne ho3 hp (by simp)) (ninc (cne ho3 hpk (by simp)) nin0))
    have ho4 := fxk _ _ ho4 (ninc (cne ho4 hp (by simp)) (ninc (cne ho4 hpk (by simp)) nin0))
    have he := fxk _ _ he (ninc (cne he hp (by simp)) (ninc (cne he hpk (by simp)) nin0))
    have hg := fxk _ _ hg (ninc (cne hg hp (by simp)) (ninc (cne hg hpk (by simp)) nin0))
    have hg1 := fxk _ _ hg1 (ninc (cne hg1 hp (by simp)) (ninc (cne hg1 hpk (by simp)) nin0))
    have hg2 := fxk _ _ hg2 (ninc (cne hg2 hp (by simp)) (ninc (cne hg2 hpk (by simp)) nin0))
    have hg3 := fxk _ _ hg3 (ninc (cne hg3 hp (by simp)) (ninc (cne hg3 hpk (by simp)) nin0))
    have hg4 := fxk _ _ hg4 (ninc (cne hg4 hp (by simp)) (ninc (cne hg4 hpk (by simp)) nin0))
    have fx := fx.call fxk (fun z hz => Or.inl (by simp at hz ⊢; rcases hz with rfl | rfl <;> simp))
    refine ev_aload_n d_CB_read_40 rfl rfl ?_
    refine ev_get d_CB_read_41 fl_CB_33 hx rfl ?_
    refine ev_aload_n d_CB_read_44 rfl rfl ?_
    refine ev_get d_CB_read_45 fl_CB_49 hx rfl ?_
    refine ev_get d_CB_read_48 fl_CB_106 he rfl ?_
    refine ev_callV M_Ro_copyFrom (rm 1 40) _ (As := [.ref ef]) (c_Ro_copyFrom G h2 xo o1 o2 o3 o4 ef e1 e2 e3 e4 0 0 _ _ _ _ _ _ _ _ ho ho1 ho2 ho3 ho4 hg hg1 hg2 hg3 hg4 (by decide) n_oe n_o n_11 n_12 n_21 n_22 n_33 n_44 n_e) d_CB_read_51 mk_Ro_copyFrom ml_CB_109 mv_Ro_copyFrom ho rfl rfl rfl (Nat.le_of_ble_eq_true rfl) ⟨by decide, by decide⟩ ⟨by decide, by decide⟩ (fun r h3 hq => ?_)
    obtain ⟨rfl, hoN, _, _, _, _, fmc⟩ := hq
    have hx := (fmc _ (ninc (cne hx ho (by simp)) (ninc (cne hx ho1 (by simp)) (ninc (cne hx ho2 (by simp)) (ninc (cne hx ho3 (by simp)) (ninc (cne hx ho4 (by simp)) nin0)))))).trans hx
    have hb := (fmc _ (ninc (cne hb ho (by simp)) (ninc (cne hb ho1 (by simp)) (ninc (cne hb ho2 (by simp)) (ninc (cne hb ho3 (by simp)) (ninc (cne hb ho4 (by simp)) nin0)))))).trans hb
    have he := (fmc _ (ninc (cne he ho (by simp)) (ninc (cne he ho1 (by simp)) (ninc (cne he ho2 (by simp)) (ninc (cne he ho3 (by simp)) (ninc (cne he ho4 (by simp)) nin0)))))).trans he
    have hg := (fmc _ (ninc (Ne.symm n_oe) (ninc (cne hg ho1 (by simp)) (ninc (cne hg ho2 (by simp)) (ninc (cne hg ho3 (by simp)) (ninc (cne hg ho4 (by simp)) nin0)))))).trans hg
    have hg1 := (fmc _ (ninc (cne hg1 ho (by simp)) (ninc (Ne.symm n_11) (ninc (Ne.symm n_21) (ninc (cne hg1 ho3 (by simp)) (ninc (cne hg1 ho4 (by simp)) nin0)))))).trans hg1
    have hg2 := (fmc _ (ninc (cne hg2 ho (by simp)) (ninc (Ne.symm n_12) (ninc (Ne.symm n_22) (ninc (cne hg2 ho3 (by simp)) (ninc (cne hg2 ho4 (by simp)) nin0)))))).trans hg2
    have hg3 := (fmc _ (ninc (cne hg3 ho (by simp)) (ninc (cne hg3 ho1 (by simp)) (ninc (cne hg3 ho2 (by simp)) (ninc (Ne.symm n_33) (ninc (cne hg3 ho4 (by simp)) nin0)))))).trans hg3
    have hg4 := (fmc _ (ninc (cne hg4 ho (by simp)) (ninc (cne hg4 ho1 (by simp)) (ninc (cne hg4 ho2 (by simp)) (ninc (cne hg4 ho3 (by simp)) (ninc (Ne.symm n_44) nin0)))))).trans hg4
    have ho : h3 xo = some (.inr (2, [.ref o1, .ref o2, .ref o3, .ref o4, .int (iZ 0)])) := hoN
    have fx := fx.call (Fx.of fmc) (fun z hz => Or.inl (by simp at hz ⊢; rcases hz with rfl | rfl | rfl | rfl | rfl <;> simp))
    refine ev_aload_n d_CB_read_54 rfl rfl ?_
    refine ev_get d_CB_read_55 fl_CB_33 hx rfl ?_
    refine ev_get d_CB_read_58 fl_CB_112 ho rfl ?_
    exact ev_ireturn d_CB_read_61 rfl (by decide) (by decide) (⟨by rw [show (okF f : Int) = 0 from by unfold okF; split <;> omega], fx⟩)
  · have z4 := isFormZ_0 c4
    refine ev_bipush (v := iZ (-2)) d_CB_read_7 rfl ?_
    exact ev_ireturn d_CB_read_9 rfl (by decide) (by decide) (⟨by rw [show (okF f : Int) = (-2) from by unfold okF; split <;> omega], fx⟩)
set_option maxHeartbeats 4000000 in
set_option maxRecDepth 100000 in
theorem g_Wr_fill (G : GT) (h : HM) (b bb xo o1 o2 o3 o4 xw xf : Nat) (f : Int) (hb : h b = some (.inr (1, [.ref bb, .int (iZ 0)]))) (ho : h xo = some (.inr (2, [.ref o1, .ref o2, .ref o3, .ref o4, .int (iZ 0)]))) (hw : h xw = some (.inr (4, [.ref b, .ref xf, .ref xo]))) (g0 : iR f) : Rn G M_Wr_fill (rm 0 0) [.ref xw, .int (iZ f)] h (fun r h' => r = none ∧ h' b = some (.inr (1, [.ref bb, .int (iZ 0)])) ∧ Fm [b] h h') := by
  refine rn_of (by decide) (Nat.le_of_ble_eq_true rfl) ?_
  show Ev G M_Wr_fill _ _ 0 [(0, .ref xw), (1, .int (iZ f))] [] _ 0 0
  have fm : Fm [b] h h := Fm.rf
  refine ev_aload_n d_Wr_fill_0 rfl rfl ?_
  refine ev_get d_Wr_fill_1 fl_Wr_9 hw rfl ?_
  refine ev_iconst (v := iZ 0) d_Wr_fill_4 rfl ?_
  refine ev_put2 (fs' := [.ref bb, .int (iZ 0)]) d_Wr_fill_5 fw_Wr_57 (Or.inr (fun _ _ _ q => by cases q; rfl)) hb (Nat.le_of_ble_eq_true rfl) rfl rfl rfl (fun h1 h1a h1o => ?_)
  have ho := (h1o _ (cne ho hb (by simp))).trans ho
  have hw := (h1o _ (cne hw hb (by simp))).trans hw
  have hb := h1a
  have fm := fm.step (by simp) h1o
  refine ev_iconst (v := iZ 0) d_Wr_fill_8 rfl ?_
  refine ev_istore_n (L' := [(0, .ref xw), (1, .int (iZ f)), (2, .int (iZ 0))]) d_Wr_fill_9 rfl (by decide) rfl ?_
  refine ev_iload_n d_Wr_fill_10 rfl rfl ?_
  refine ev_aload_n d_Wr_fill_11 rfl rfl ?_
  refine ev_get d_Wr_fill_12 fl_Wr_19 hw rfl ?_
  refine ev_get d_Wr_fill_15 fl_Wr_23 ho rfl ?_
  refine ez_icmp_ge (tgt := 57) (by decide) (by decide) d_Wr_fill_18 rfl (fun c18 => ?_) (fun c18 => absurd c18 (by omega))
  exact ev_return d_Wr_fill_57 rfl (by decide) (by decide) (⟨rfl, hb, fm⟩)
set_option maxHeartbeats 4000000 in
set_option maxRecDepth 100000 in
theorem f_CB_write (G : GT) (h : HM) (x b xf xu xo xp xe xw xl xr bb o1 o2 o3 o4 : Nat) (f : Int) (hx : h x = some (.inr (0, [.ref b, .ref xf, .ref xu, .ref xo, .ref xp, .ref xe, .ref xw, .ref xl, .ref xr]))) (hb : h b = some (.inr (1, [.ref bb, .int (iZ 0)]))) (ho : h xo = some (.inr (2, [.ref o1, .ref o2, .ref o3, .ref o4, .int (iZ 0)]))) (hw : h xw = some (.inr (4, [.ref b, .ref xf, .ref xo]))) (g0 : iR f)  : Rn G M_CB_write (rm 1 40) [.ref x, .int (iZ f)] h (fun r h' => r = some (.int (iZ (okF f))) ∧ Fx [b] h h') := by
  refine rn_of (by decide) (Nat.le_of_ble_eq_true rfl) ?_
  show Ev G M_CB_write _ _ 0 [(0, .ref x), (1, .int (iZ f))] [] _ 0 0
  have fx : Fx [b] h h := Fx.rf
  refine ev_iload_n d_CB_write_0 rfl rfl ?_
  have fr9 := isFormZ_r f
  refine ev_pS M_CB_isForm 0 0 (As := [.int (iZ f)]) (c_CB_isForm G h f (by omega)) d_CB_write_1 mk_CB_isForm ml_CB_96 ms_CB_isForm rfl rfl (Nat.le_of_ble_eq_true rfl) ⟨by decide, by decide⟩ ⟨by decide, by decide⟩ ?_
  refine ez_if_ne (tgt := 10) (by omega) d_CB_write_4 rfl (fun c4 => ?_) (fun c4 => ?_)
  · have z4 := isFormZ_1 c4
    refine ev_aload_n d_CB_write_10 rfl rfl ?_
    refine ev_get d_CB_write_11 fl_CB_58 hx rfl ?_
    refine ev_iload_n d_CB_write_14 rfl rfl ?_
    refine ev_callV M_Wr_length (rm 0 0) _ (As := [.int (iZ f)]) (f_Wr_length G h xo o1 o2 o3 o4 xw b xf f ho hw (by omega) ) d_CB_write_15 mk_Wr_length ml_CB_115 mv_Wr_length hw rfl rfl rfl (Nat.le_of_ble_eq_true rfl) ⟨by decide, by decide⟩ ⟨by decide, by decide⟩ (fun r h1 hq => ?_)
    obtain ⟨rfl, fx2⟩ := hq
    have hx := fx2 _ _ hx nin0
    have hb := fx2 _ _ hb nin0
    have ho := fx2 _ _ ho nin0
    have hw := fx2 _ _ hw nin0
    have fx := fx.call fx2 (fun z hz => absurd hz nin0)
    refine ev_sipush (v := iZ 1000) d_CB_write_18 rfl ?_
    refine ez_icmp_le (tgt := 27) (by decide) (by decide) d_CB_write_21 rfl (fun c21 => ?_) (fun c21 => absurd c21 (by omega))
    refine ev_aload_n d_CB_write_27 rfl rfl ?_
    refine ev_get d_CB_write_28 fl_CB_58 hx rfl ?_
    refine ev_iload_n d_CB_write_31 rfl rfl ?_
    refine ev_callV M_Wr_fill (rm 0 0) _ (As := [.int (iZ f)]) (g_Wr_fill G h1 b bb xo o1 o2 o3 o4 xw xf f hb ho hw g0) d_CB_write_32 mk_Wr_fill ml_CB_118 mv_Wr_fill hw rfl rfl rfl (Nat.le_of_ble_eq_true rfl) ⟨by decide, by decide⟩ ⟨by decide, by decide⟩ (fun r h2 hq => ?_)
    obtain ⟨rfl, hb2, fm2⟩ := hq
    have hx := (fm2 _ (ninc (cne hx hb (by simp)) nin0)).trans hx
    have ho := (fm2 _ (ninc (cne ho hb (by simp)) nin0)).trans ho
    have hw := (fm2 _ (ninc (cne hw hb (by simp)) nin0)).trans hw
    have hb := hb2
    have fx := fx.call (Fx.of fm2) (fun z hz => Or.inl (by simp at hz ⊢; subst hz; simp))
    refine ev_aload_n d_CB_write_35 rfl rfl ?_
    refine ev_get d_CB_write_36 fl_CB_10 hx rfl ?_
    refine ev_get d_CB_write_39 fl_CB_80 hb rfl ?_
    exact ev_ireturn d_CB_write_42 rfl (by decide) (by decide) (⟨by rw [show (okF f : Int) = 0 from by unfold okF; split <;> omega], fx⟩)
  · have z4 := isFormZ_0 c4
    refine ev_bipush (v := iZ (-2)) d_CB_write_7 rfl ?_
    exact ev_ireturn d_CB_write_9 rfl (by decide) (by decide) (⟨by rw [show (okF f : Int) = (-2) from by unfold okF; split <;> omega], fx⟩)
set_option maxHeartbeats 4000000 in
set_option maxRecDepth 100000 in
theorem f_CB_cue (G : GT) (h : HM) (x b xf xu xo xp xe xw xl xr o1 o2 o3 o4 : Nat) (i : Int) (w : Int) (hx : h x = some (.inr (0, [.ref b, .ref xf, .ref xu, .ref xo, .ref xp, .ref xe, .ref xw, .ref xl, .ref xr]))) (ho : h xo = some (.inr (2, [.ref o1, .ref o2, .ref o3, .ref o4, .int (iZ 0)]))) (g0 : iR i) (g1 : iR w)  : Rn G M_CB_cue (rm 1 40) [.ref x, .int (iZ i), .int (iZ w)] h (fun r h' => r = some (.long (lZ (-1))) ∧ Fx [] h h') := by
  refine rn_of (by decide) (Nat.le_of_ble_eq_true rfl) ?_
  show Ev G M_CB_cue _ _ 0 [(0, .ref x), (1, .int (iZ i)), (2, .int (iZ w))] [] _ 0 0
  have fx : Fx [] h h := Fx.rf
  refine ev_aload_n d_CB_cue_0 rfl rfl ?_
  refine ev_get d_CB_cue_1 fl_CB_33 hx rfl ?_
  refine ev_iload_n d_CB_cue_4 rfl rfl ?_
  refine ev_pV M_Ro_has 0 0 (As := [.int (iZ i)]) (c_Ro_has G h xo o1 o2 o3 o4 0 i ho (by decide) (by omega)) d_CB_cue_5 mk_Ro_has ml_CB_121 mv_Ro_has ho rfl rfl rfl (Nat.le_of_ble_eq_true rfl) ⟨by decide, by decide⟩ ⟨by decide, by decide⟩ ?_
  rw [has0]
  refine ez_if_ne (tgt := 15) (by decide) d_CB_cue_8 rfl (fun c8 => absurd c8 (by omega)) (fun c8 => ?_)
  refine ev_ldc2 (v := lZ (-1)) d_CB_cue_11 kc_CB_124 ?_
  exact ev_lreturn d_CB_cue_14 rfl (by decide) (by decide) (⟨rfl, fx⟩)
set_option maxHeartbeats 4000000 in
set_option maxRecDepth 100000 in
theorem f_CB_text (G : GT) (h : HM) (x b xf xu xo xp xe xw xl xr o1 o2 o3 o4 : Nat) (i : Int) (j : Int) (hx : h x = some (.inr (0, [.ref b, .ref xf, .ref xu, .ref xo, .ref xp, .ref xe, .ref xw, .ref xl, .ref xr]))) (ho : h xo = some (.inr (2, [.ref o1, .ref o2, .ref o3, .ref o4, .int (iZ 0)]))) (g0 : iR i) (g1 : iR j)  : Rn G M_CB_text (rm 1 40) [.ref x, .int (iZ i), .int (iZ j)] h (fun r h' => r = some (.int (iZ (-1))) ∧ Fx [] h h') := by
  refine rn_of (by decide) (Nat.le_of_ble_eq_true rfl) ?_
  show Ev G M_CB_text _ _ 0 [(0, .ref x), (1, .int (iZ i)), (2, .int (iZ j))] [] _ 0 0
  have fx : Fx [] h h := Fx.rf
  refine ev_aload_n d_CB_text_0 rfl rfl ?_
  refine ev_get d_CB_text_1 fl_CB_33 hx rfl ?_
  refine ev_iload_n d_CB_text_4 rfl rfl ?_
  refine ev_pV M_Ro_has 0 0 (As := [.int (iZ i)]) (c_Ro_has G h xo o1 o2 o3 o4 0 i ho (by decide) (by omega)) d_CB_text_5 mk_Ro_has ml_CB_121 mv_Ro_has ho rfl rfl rfl (Nat.le_of_ble_eq_true rfl) ⟨by decide, by decide⟩ ⟨by decide, by decide⟩ ?_
  rw [has0]
  refine ez_if_eq (tgt := 28) (by decide) d_CB_text_8 rfl (fun c8 => ?_) (fun c8 => absurd c8 (by omega))
  refine ev_iconst (v := iZ (-1)) d_CB_text_28 rfl ?_
  exact ev_ireturn d_CB_text_29 rfl (by decide) (by decide) (⟨rfl, fx⟩)
set_option maxHeartbeats 4000000 in
set_option maxRecDepth 100000 in
theorem f_CB_repair (G : GT) (h : HM) (x b xf xu xo xp xe xw xl xr o1 o2 o3 o4 pk t1 t2 t3 t4 t5 t6 t7 : Nat)  (hx : h x = some (.inr (0, [.ref b, .ref xf, .ref xu, .ref xo, .ref xp, .ref xe, .ref xw, .ref xl, .ref xr]))) (ho : h xo = some (.inr (2, [.ref o1, .ref o2, .ref o3, .ref o4, .int (iZ 0)]))) (ho1 : h o1 = some (.inl (G_j G, 16, .inr (.inl (lA (fun _ => 0)))))) (ho2 : h o2 = some (.inl (G_j G, 16, .inr (.inl (lA (fun _ => 0)))))) (ho3 : h o3 = some (.inl (G_i G, 16, .inl (iA (fun _ => 0))))) (ho4 : h o4 = some (.inl (G_i G, 1024, .inl (iA (fun _ => 0))))) (hp : h xp = some (.inr (7, [.ref pk, .int (iZ 0), .int (iZ 0)]))) (hpk : h pk = some (.inl (G_q G, 10, .inr (.inr (.inr (.inr (fun _ => none))))))) (hrp : h xr = some (.inr (9, [.ref xo, .ref xf, .ref xu, .ref t1, .ref t2, .ref t3, .ref t4, .ref t5, .ref t6, .ref t7])))  (n_o : o1 ≠ o2) : Rn G M_CB_repair ({ frames := 3, cells := 5, slots := 1077, locals := 82 }) [.ref x] h (fun r h' => r = some (.int (iZ 0)) ∧ Fx [xp, pk] h h') := by
  refine rn_of (by decide) (Nat.le_of_ble_eq_true rfl) ?_
  show Ev G M_CB_repair _ _ 0 [(0, .ref x)] [] _ 0 0
  have fx : Fx [xp, pk] h h := Fx.rf
  refine ev_aload_n d_CB_repair_0 rfl rfl ?_
  refine ev_get d_CB_repair_1 fl_CB_76 hx rfl ?_
  refine ev_callV M_Rp_leastSum (rm 1 23) _ (As := []) (f_Rp_leastSum G h xo o1 o2 o3 o4 xr xf xu t1 t2 t3 t4 t5 t6 t7  ho hrp  ) d_CB_repair_4 mk_Rp_leastSum ml_CB_154 mv_Rp_leastSum hrp rfl rfl rfl (Nat.le_of_ble_eq_true rfl) ⟨by decide, by decide⟩ ⟨by decide, by decide⟩ (fun r h1 hq => ?_)
  obtain ⟨rfl, fx2⟩ := hq
  have hx := fx2 _ _ hx nin0
  have ho := fx2 _ _ ho nin0
  have ho1 := fx2 _ _ ho1 nin0
  have ho2 := fx2 _ _ ho2 nin0
  have ho3 := fx2 _ _ ho3 nin0
  have ho4 := fx2 _ _ ho4 nin0
  have hp := fx2 _ _ hp nin0
  have hpk := fx2 _ _ hpk nin0
  have hrp := fx2 _ _ hrp nin0
  have fx := fx.call fx2 (fun z hz => absurd hz nin0)
  refine ev_istore_n (L' := [(0, .ref x), (1, .int (iZ 0))]) d_CB_repair_7 rfl (by decide) rfl ?_
  refine ev_iload_n d_CB_repair_8 rfl rfl ?_
  refine ev_ldc (v := iZ 1000000) d_CB_repair_9 kc_CB_158 ?_
  refine ez_icmp_lt (tgt := 25) (by decide) (by decide) d_CB_repair_11 rfl (fun c11 => ?_) (fun c11 => absurd c11 (by omega))
  refine ev_aload_n d_CB_repair_25 rfl rfl ?_
  refine ev_get d_CB_repair_26 fl_CB_40 hx rfl ?_
  refine ev_aload_n d_CB_repair_29 rfl rfl ?_
  refine ev_get d_CB_repair_30 fl_CB_33 hx rfl ?_
  refine ev_callV M_Pa_keep ({ frames := 2, cells := 5, slots := 1077, locals := 61 }) _ (As := [.ref xo]) (c_Pa_keepN G h1 xp pk xo o1 o2 o3 o4 (fun _ => none) 0 0 0 _ _ _ _ hp hpk ho ho1 ho2 ho3 ho4 (by decide) (by decide) (by decide) rfl n_o) d_CB_repair_33 mk_Pa_keep ml_CB_103 mv_Pa_keep hp rfl rfl rfl (Nat.le_of_ble_eq_true rfl) ⟨by decide, by decide⟩ ⟨by decide, by decide⟩ (fun r h2 hq => ?_)
  obtain ⟨rfl, kq, kq1, kq2, kq3, kq4, ltq, _, _, _, _, _, _, _, _, _, _, _, fxk⟩ := hq
  have hx := fxk _ _ hx (ninc (cne hx hp (by simp)) (ninc (cne hx hpk (by simp)) nin0))
  have ho := fxk _ _ ho (ninc (cne ho hp (by simp)) (ninc (cne ho hpk (by simp)) nin0))
  have ho1 := fxk _ _ ho1 (ninc (cne ho1 hp (by simp)) (ninc (cne ho1 hpk (by simp)) nin0))
  have ho2 := fxk _ _ ho2 (ninc (cne ho2 hp (by simp)) (ninc (cne ho2 hpk (by simp)) nin0))
  have ho3 := fxk _ _ ho3 (ninc (cne ho3 hp (by simp)) (ninc (cne ho3 hpk (by simp)) nin0))
  have ho4 := fxk _ _ ho4 (ninc (cne ho4 hp (by simp)) (ninc (cne ho4 hpk (by simp)) nin0))
  have hrp := fxk _ _ hrp (ninc (cne hrp hp (by simp)) (ninc (cne hrp hpk (by simp)) nin0))
  have fx := fx.call fxk (fun z hz => Or.inl (by simp at hz ⊢; rcases hz with rfl | rfl <;> simp))
  refine ev_aload_n d_CB_repair_36 rfl rfl ?_
  refine ev_get d_CB_repair_37 fl_CB_76 hx rfl ?_
  refine ev_callV M_Rp_take (rm 0 0) _ (As := []) (f_Rp_take G h2 xo o1 o2 o3 o4 xr xf xu t1 t2 t3 t4 t5 t6 t7  ho hrp  ) d_CB_repair_40 mk_Rp_take ml_CB_162 mv_Rp_take hrp rfl rfl rfl (Nat.le_of_ble_eq_true rfl) ⟨by decide, by decide⟩ ⟨by decide, by decide⟩ (fun r h3 hq => ?_)
  obtain ⟨rfl, fx2⟩ := hq
  have hx := fx2 _ _ hx nin0
  have ho := fx2 _ _ ho nin0
  have ho1 := fx2 _ _ ho1 nin0
  have ho2 := fx2 _ _ ho2 nin0
  have ho3 := fx2 _ _ ho3 nin0
  have ho4 := fx2 _ _ ho4 nin0
  have hrp := fx2 _ _ hrp nin0
  have fx := fx.call fx2 (fun z hz => absurd hz nin0)
  refine ev_iload_n d_CB_repair_43 rfl rfl ?_
  exact ev_ireturn d_CB_repair_44 rfl (by decide) (by decide) (⟨rfl, fx⟩)
set_option maxHeartbeats 4000000 in
set_option maxRecDepth 100000 in
theorem f_CB_breakLines (G : GT) (h : HM) (x b xf xu xo xp xe xw xl xr o1 o2 o3 o4 : Nat) (i : Int) (hx : h x = some (.inr (0, [.ref b, .ref xf, .ref xu, .ref xo, .ref xp, .ref xe, .ref xw, .ref xl, .ref xr]))) (ho : h xo = some (.inr (2, [.ref o1, .ref o2, .ref o3, .ref o4, .int (iZ 0)]))) (g0 : iR i)  : Rn G M_CB_breakLines (rm 1 40) [.ref x, .int (iZ i)] h (fun r h' => r = some (.int (iZ (-2))) ∧ Fx [] h h') := by
  refine rn_of (by decide) (Nat.le_of_ble_eq_true rfl) ?_
  show Ev G M_CB_breakLines _ _ 0 [(0, .ref x), (1, .int (iZ i))] [] _ 0 0
  have fx : Fx [] h h := Fx.rf
  refine ev_aload_n d_CB_breakLines_0 rfl rfl ?_
  refine ev_get d_CB_breakLines_1 fl_CB_33 hx rfl ?_
  refine ev_iload_n d_CB_breakLines_4 rfl rfl ?_
  refine ev_pV M_Ro_has 0 0 (As := [.int (iZ i)]) (c_Ro_has G h xo o1 o2 o3 o4 0 i ho (by decide) (by omega)) d_CB_breakLines_5 mk_Ro_has ml_CB_121 mv_Ro_has ho rfl rfl rfl (Nat.le_of_ble_eq_true rfl) ⟨by decide, by decide⟩ ⟨by decide, by decide⟩ ?_
  rw [has0]
  refine ez_if_ne (tgt := 14) (by decide) d_CB_breakLines_8 rfl (fun c8 => absurd c8 (by omega)) (fun c8 => ?_)
  refine ev_bipush (v := iZ (-2)) d_CB_breakLines_11 rfl ?_
  exact ev_ireturn d_CB_breakLines_13 rfl (by decide) (by decide) (⟨rfl, fx⟩)
set_option maxHeartbeats 4000000 in
set_option maxRecDepth 100000 in
theorem f_CB_merge (G : GT) (h : HM) (x b xf xu xo xp xe xw xl xr o1 o2 o3 o4 : Nat) (i : Int) (hx : h x = some (.inr (0, [.ref b, .ref xf, .ref xu, .ref xo, .ref xp, .ref xe, .ref xw, .ref xl, .ref xr]))) (ho : h xo = some (.inr (2, [.ref o1, .ref o2, .ref o3, .ref o4, .int (iZ 0)]))) (g0 : iR i)  : Rn G M_CB_merge (rm 1 40) [.ref x, .int (iZ i)] h (fun r h' => r = some (.int (iZ (-2))) ∧ Fx [] h h') := by
  refine rn_of (by decide) (Nat.le_of_ble_eq_true rfl) ?_
  show Ev G M_CB_merge _ _ 0 [(0, .ref x), (1, .int (iZ i))] [] _ 0 0
  have fx : Fx [] h h := Fx.rf
  refine ev_aload_n d_CB_merge_0 rfl rfl ?_
  refine ev_get d_CB_merge_1 fl_CB_33 hx rfl ?_
  refine ev_iload_n d_CB_merge_4 rfl rfl ?_
  refine ev_pV M_Ro_has 0 0 (As := [.int (iZ i)]) (c_Ro_has G h xo o1 o2 o3 o4 0 i ho (by decide) (by omega)) d_CB_merge_5 mk_Ro_has ml_CB_121 mv_Ro_has ho rfl rfl rfl (Nat.le_of_ble_eq_true rfl) ⟨by decide, by decide⟩ ⟨by decide, by decide⟩ ?_
  rw [has0]
  refine ez_if_eq (tgt := 24) (by decide) d_CB_merge_8 rfl (fun c8 => ?_) (fun c8 => absurd c8 (by omega))
  refine ev_bipush (v := iZ (-2)) d_CB_merge_24 rfl ?_
  exact ev_ireturn d_CB_merge_26 rfl (by decide) (by decide) (⟨rfl, fx⟩)
set_option maxHeartbeats 4000000 in
set_option maxRecDepth 100000 in
theorem f_CB_split (G : GT) (h : HM) (x b xf xu xo xp xe xw xl xr o1 o2 o3 o4 : Nat) (i : Int) (j : Int) (hx : h x = some (.inr (0, [.ref b, .ref xf, .ref xu, .ref xo, .ref xp, .ref xe, .ref xw, .ref xl, .ref xr]))) (ho : h xo = some (.inr (2, [.ref o1, .ref o2, .ref o3, .ref o4, .int (iZ 0)]))) (g0 : iR i) (g1 : iR j)  : Rn G M_CB_split (rm 1 40) [.ref x, .int (iZ i), .int (iZ j)] h (fun r h' => r = some (.int (iZ (-2))) ∧ Fx [] h h') := by
  refine rn_of (by decide) (Nat.le_of_ble_eq_true rfl) ?_
  show Ev G M_CB_split _ _ 0 [(0, .ref x), (1, .int (iZ i)), (2, .int (iZ j))] [] _ 0 0
  have fx : Fx [] h h := Fx.rf
  refine ev_aload_n d_CB_split_0 rfl rfl ?_
  refine ev_get d_CB_split_1 fl_CB_33 hx rfl ?_
  refine ev_iload_n d_CB_split_4 rfl rfl ?_
  refine ev_pV M_Ro_has 0 0 (As := [.int (iZ i)]) (c_Ro_has G h xo o1 o2 o3 o4 0 i ho (by decide) (by omega)) d_CB_split_5 mk_Ro_has ml_CB_121 mv_Ro_has ho rfl rfl rfl (Nat.le_of_ble_eq_true rfl) ⟨by decide, by decide⟩ ⟨by decide, by decide⟩ ?_
  rw [has0]
  refine ez_if_eq (tgt := 29) (by decide) d_CB_split_8 rfl (fun c8 => ?_) (fun c8 => absurd c8 (by omega))
  refine ev_bipush (v := iZ (-2)) d_CB_split_29 rfl ?_
  exact ev_ireturn d_CB_split_31 rfl (by decide) (by decide) (⟨rfl, fx⟩)
set_option maxHeartbeats 4000000 in
set_option maxRecDepth 100000 in
theorem f_CB_shift (G : GT) (h : HM) (x b xf xu xo xp xe xw xl xr o1 o2 o3 o4 pk : Nat) (t : Int) (hx : h x = some (.inr (0, [.ref b, .ref xf, .ref xu, .ref xo, .ref xp, .ref xe, .ref xw, .ref xl, .ref xr]))) (ho : h xo = some (.inr (2, [.ref o1, .ref o2, .ref o3, .ref o4, .int (iZ 0)]))) (ho1 : h o1 = some (.inl (G_j G, 16, .inr (.inl (lA (fun _ => 0)))))) (ho2 : h o2 = some (.inl (G_j G, 16, .inr (.inl (lA (fun _ => 0)))))) (ho3 : h o3 = some (.inl (G_i G, 16, .inl (iA (fun _ => 0))))) (ho4 : h o4 = some (.inl (G_i G, 1024, .inl (iA (fun _ => 0))))) (hp : h xp = some (.inr (7, [.ref pk, .int (iZ 0), .int (iZ 0)]))) (hpk : h pk = some (.inl (G_q G, 10, .inr (.inr (.inr (.inr (fun _ => none))))))) (g0 : lR t) (n_o : o1 ≠ o2) : Rn G M_CB_shift ({ frames := 3, cells := 5, slots := 1077, locals := 82 }) [.ref x, .long (lZ t)] h (fun r h' => r = some (.int (iZ (shZ t))) ∧ Fx [xp, pk] h h') := by
  refine rn_of (by decide) (Nat.le_of_ble_eq_true rfl) ?_
  show Ev G M_CB_shift _ _ 0 [(0, .ref x), (1, .long (lZ t))] [] _ 0 0
  have fx : Fx [xp, pk] h h := Fx.rf
  refine ev_lload_n d_CB_shift_0 rfl rfl ?_
  refine ev_ldc2 (v := lZ (-2540160000000)) d_CB_shift_1 kc_CB_196 ?_
  refine ev_lcmp d_CB_shift_4 ?_
  refine ez_lif_lt (tgt := 16) (by omega) (by decide) d_CB_shift_5 rfl (fun c5 => ?_) (fun c5 => ?_)
  · refine ev_iconst (v := iZ 0) d_CB_shift_16 rfl ?_
    exact ev_zreturn d_CB_shift_17 rfl (Or.inl rfl) (by decide) (by decide) (⟨by rw [show (shZ t : Int) = 0 from by unfold shZ; split <;> omega], fx⟩)
  · refine ev_lload_n d_CB_shift_8 rfl rfl ?_
    refine ev_ldc2 (v := lZ 2540160000000) d_CB_shift_9 kc_CB_194 ?_
    refine ev_lcmp d_CB_shift_12 ?_
    refine ez_lif_le (tgt := 18) (by omega) (by decide) d_CB_shift_13 rfl (fun c13 => ?_) (fun c13 => ?_)
    · refine ev_iconst (v := iZ 0) d_CB_shift_18 rfl ?_
      refine ev_istore_n (L' := [(0, .ref x), (1, .long (lZ t)), (3, .int (iZ 0))]) d_CB_shift_19 rfl (by decide) rfl ?_
      refine ev_iload_n d_CB_shift_20 rfl rfl ?_
      refine ev_aload_n d_CB_shift_21 rfl rfl ?_
      refine ev_get d_CB_shift_22 fl_CB_33 hx rfl ?_
      refine ev_get d_CB_shift_25 fl_CB_112 ho rfl ?_
      refine ez_icmp_ge (tgt := 73) (by decide) (by decide) d_CB_shift_28 rfl (fun c28 => ?_) (fun c28 => absurd c28 (by omega))
      refine ev_aload_n d_CB_shift_73 rfl rfl ?_
      refine ev_get d_CB_shift_74 fl_CB_40 hx rfl ?_
      refine ev_aload_n d_CB_shift_77 rfl rfl ?_
      refine ev_get d_CB_shift_78 fl_CB_33 hx rfl ?_
      refine ev_callV M_Pa_keep ({ frames := 2, cells := 5, slots := 1077, locals := 61 }) _ (As := [.ref xo]) (c_Pa_keepN G h xp pk xo o1 o2 o3 o4 (fun _ => none) 0 0 0 _ _ _ _ hp hpk ho ho1 ho2 ho3 ho4 (by decide) (by decide) (by decide) rfl n_o) d_CB_shift_81 mk_Pa_keep ml_CB_103 mv_Pa_keep hp rfl rfl rfl (Nat.le_of_ble_eq_true rfl) ⟨by decide, by decide⟩ ⟨by decide, by decide⟩ (fun r h1 hq => ?_)
      obtain ⟨rfl, kq, kq1, kq2, kq3, kq4, ltq, _, _, _, _, _, _, _, _, _, _, _, fxk⟩ := hq
      have hx := fxk _ _ hx (ninc (cne hx hp (by simp)) (ninc (cne hx hpk (by simp)) nin0))
      have ho := fxk _ _ ho (ninc (cne ho hp (by simp)) (ninc (cne ho hpk (by simp)) nin0))
      have ho1 := fxk _ _ ho1 (ninc (cne ho1 hp (by simp)) (ninc (cne ho1 hpk (by simp)) nin0))
      have ho2 := fxk _ _ ho2 (ninc (cne ho2 hp (by simp)) (ninc (cne ho2 hpk (by simp)) nin0))
      have ho3 := fxk _ _ ho3 (ninc (cne ho3 hp (by simp)) (ninc (cne ho3 hpk (by simp)) nin0))
      have ho4 := fxk _ _ ho4 (ninc (cne ho4 hp (by simp)) (ninc (cne ho4 hpk (by simp)) nin0))
      have fx := fx.call fxk (fun z hz => Or.inl (by simp at hz ⊢; rcases hz with rfl | rfl <;> simp))
      refine ev_iconst (v := iZ 0) d_CB_shift_84 rfl ?_
      refine ev_istore_n (L' := [(0, .ref x), (1, .long (lZ t)), (3, .int (iZ 0))]) d_CB_shift_85 rfl (by decide) rfl ?_
      refine ev_iload_n d_CB_shift_86 rfl rfl ?_
      refine ev_aload_n d_CB_shift_87 rfl rfl ?_
      refine ev_get d_CB_shift_88 fl_CB_33 hx rfl ?_
      refine ev_get d_CB_shift_91 fl_CB_112 ho rfl ?_
      refine ez_icmp_ge (tgt := 129) (by decide) (by decide) d_CB_shift_94 rfl (fun c94 => ?_) (fun c94 => absurd c94 (by omega))
      refine ev_iconst (v := iZ 1) d_CB_shift_129 rfl ?_
      exact ev_zreturn d_CB_shift_130 rfl (Or.inr rfl) (by decide) (by decide) (⟨by rw [show (shZ t : Int) = 1 from by unfold shZ; split <;> omega], fx⟩)
    · refine ev_iconst (v := iZ 0) d_CB_shift_16 rfl ?_
      exact ev_zreturn d_CB_shift_17 rfl (Or.inl rfl) (by decide) (by decide) (⟨by rw [show (shZ t : Int) = 0 from by unfold shZ; split <;> omega], fx⟩)
set_option maxHeartbeats 4000000 in
set_option maxRecDepth 100000 in
theorem f_CB_clash (G : GT) (h : HM) (x b xf xu xo xp xe xw xl xr o1 o2 o3 o4 : Nat)  (hx : h x = some (.inr (0, [.ref b, .ref xf, .ref xu, .ref xo, .ref xp, .ref xe, .ref xw, .ref xl, .ref xr]))) (ho : h xo = some (.inr (2, [.ref o1, .ref o2, .ref o3, .ref o4, .int (iZ 0)])))   : Rn G M_CB_clash (rm 0 0) [.ref x] h (fun r h' => r = some (.int (iZ (-1))) ∧ Fx [] h h') := by
  refine rn_of (by decide) (Nat.le_of_ble_eq_true rfl) ?_
  show Ev G M_CB_clash _ _ 0 [(0, .ref x)] [] _ 0 0
  have fx : Fx [] h h := Fx.rf
  refine ev_iconst (v := iZ 0) d_CB_clash_0 rfl ?_
  refine ev_istore_n (L' := [(0, .ref x), (1, .int (iZ 0))]) d_CB_clash_1 rfl (by decide) rfl ?_
  refine ev_iload_n d_CB_clash_2 rfl rfl ?_
  refine ev_iconst (v := iZ 1) d_CB_clash_3 rfl ?_
  refine ez_iadd d_CB_clash_4 ?_
  refine ev_aload_n d_CB_clash_5 rfl rfl ?_
  refine ev_get d_CB_clash_6 fl_CB_33 hx rfl ?_
  refine ev_get d_CB_clash_9 fl_CB_112 ho rfl ?_
  refine ez_icmp_ge (tgt := 47) (by decide) (by decide) d_CB_clash_12 rfl (fun c12 => ?_) (fun c12 => absurd c12 (by omega))
  refine ev_iconst (v := iZ (-1)) d_CB_clash_47 rfl ?_
  exact ev_ireturn d_CB_clash_48 rfl (by decide) (by decide) (⟨rfl, fx⟩)
set_option maxHeartbeats 4000000 in
set_option maxRecDepth 100000 in
theorem f_Pa_takeBack (G : GT) (h : HM) (xp pk o : Nat) (hp : h xp = some (.inr (7, [.ref pk, .int (iZ 0), .int (iZ 0)]))) (hpk : h pk = some (.inl (G_q G, 10, .inr (.inr (.inr (.inr (fun _ => none))))))) : Rn G M_Pa_takeBack (rm 0 0) [.ref xp, .ref o] h (Pu (.int (iZ 0)) h) := by
  refine rn_of (by decide) (Nat.le_of_ble_eq_true rfl) ?_
  show Ev G M_Pa_takeBack _ _ 0 [(0, .ref xp), (1, .ref o)] [] _ 0 0
  refine ev_aload_n d_Pa_takeBack_0 rfl rfl ?_
  refine ev_get d_Pa_takeBack_1 fl_Pa_15 hp rfl ?_
  refine ev_bipush (v := iZ 10) d_Pa_takeBack_4 rfl ?_
  refine ez_iadd d_Pa_takeBack_6 ?_
  refine ev_iconst (v := iZ 1) d_Pa_takeBack_7 rfl ?_
  refine ez_isub d_Pa_takeBack_8 ?_
  refine ev_bipush (v := iZ 10) d_Pa_takeBack_9 rfl ?_
  refine ez_irem (by omega) (by omega) (by omega) (by omega) d_Pa_takeBack_11 ?_
  refine ev_istore_n (L' := [(0, .ref xp), (1, .ref o), (2, .int (iZ (9 % 10)))]) d_Pa_takeBack_12 rfl (by decide) rfl ?_
  refine ev_aload_n d_Pa_takeBack_13 rfl rfl ?_
  refine ev_get d_Pa_takeBack_14 fl_Pa_24 hp rfl ?_
  refine ez_if_eq (tgt := 29) (by decide) d_Pa_takeBack_17 rfl (fun c17 => ?_) (fun c17 => absurd c17 (by omega))
  refine ev_iconst (v := iZ 0) d_Pa_takeBack_29 rfl ?_
  exact ev_zreturn d_Pa_takeBack_30 rfl (Or.inl rfl) (by decide) (by decide) (⟨rfl, rfl⟩)
set_option maxHeartbeats 4000000 in
set_option maxRecDepth 100000 in
theorem f_CB_undo (G : GT) (h : HM) (x b xf xu xo xp xe xw xl xr o1 o2 o3 o4 pk : Nat)  (hx : h x = some (.inr (0, [.ref b, .ref xf, .ref xu, .ref xo, .ref xp, .ref xe, .ref xw, .ref xl, .ref xr]))) (ho : h xo = some (.inr (2, [.ref o1, .ref o2, .ref o3, .ref o4, .int (iZ 0)]))) (hp : h xp = some (.inr (7, [.ref pk, .int (iZ 0), .int (iZ 0)]))) (hpk : h pk = some (.inl (G_q G, 10, .inr (.inr (.inr (.inr (fun _ => none)))))))   : Rn G M_CB_undo (rm 1 40) [.ref x] h (fun r h' => r = some (.int (iZ 0)) ∧ Fx [] h h') := by
  refine rn_of (by decide) (Nat.le_of_ble_eq_true rfl) ?_
  show Ev G M_CB_undo _ _ 0 [(0, .ref x)] [] _ 0 0
  have fx : Fx [] h h := Fx.rf
  refine ev_aload_n d_CB_undo_0 rfl rfl ?_
  refine ev_get d_CB_undo_1 fl_CB_40 hx rfl ?_
  refine ev_aload_n d_CB_undo_4 rfl rfl ?_
  refine ev_get d_CB_undo_5 fl_CB_33 hx rfl ?_
  refine ev_pV M_Pa_takeBack 0 0 (As := [.ref xo]) (f_Pa_takeBack G h xp pk xo hp hpk) d_CB_undo_8 mk_Pa_takeBack ml_CB_209 mv_Pa_takeBack hp rfl rfl rfl (Nat.le_of_ble_eq_true rfl) ⟨by decide, by decide⟩ ⟨by decide, by decide⟩ ?_
  exact ev_zreturn d_CB_undo_11 rfl (Or.inl rfl) (by decide) (by decide) (⟨rfl, fx⟩)
set_option maxHeartbeats 4000000 in
set_option maxRecDepth 100000 in
theorem c_Po_init (G : GT) (h : HM) (q : Nat) (t : Int) (pa : Int) (pc : Int) (pb : Int) (pd : Int) (hq : h q = some (.inr (8, [.long (lZ 0), .long (lZ 0), .long (lZ 0), .long (lZ 0), .long (lZ 0)]))) (g1 : iR pa) (g2 : iR pc) (g3 : iR (pb - pa)) (g4 : iR (pd - pc)) : Rn G M_Po_init ({ frames := 1, cells := 0, slots := 0, locals := 12 }) [.ref q, .long (lZ t), .int (iZ pa), .int (iZ pc), .int (iZ pb), .int (iZ pd)] h (fun r h' => r = none ∧ h' q = some (.inr (8, [.long (lZ t), .long (lZ pa), .long (lZ pc), .long (lZ (pb - pa)), .long (lZ (pd - pc))])) ∧ Fx [q] h h') := by
  refine rn_of (by decide) (Nat.le_of_ble_eq_true rfl) ?_
  show Ev G M_Po_init _ _ 0 [(0, .ref q), (1, .long (lZ t)), (3, .int (iZ pa)), (4, .int (iZ pc)), (5, .int (iZ pb)), (6, .int (iZ pd))] [] _ 0 0
  have fx : Fx [q] h h := Fx.rf
  refine ev_aload_n d_Po_init_0 rfl rfl ?_
  refine ev_objInit d_Po_init_1 ml_Po_1 oi_1 oi_2 (by decide) (by decide) ?_
  refine ev_aload_n d_Po_init_4 rfl rfl ?_
  refine ev_lload_n d_Po_init_5 rfl rfl ?_
  refine ev_put2 (fs' := [.long (lZ t), .long (lZ 0), .long (lZ 0), .long (lZ 0), .long (lZ 0)]) d_Po_init_6 fw_Po_7 (Or.inl rfl) hq (Nat.le_of_ble_eq_true rfl) rfl rfl rfl (fun h1 h1a h1o => ?_)
  have hq := h1a
  have fx := fx.step (by simp) h1o
  refine ev_aload_n d_Po_init_9 rfl rfl ?_
  refine ev_iload_n d_Po_init_10 rfl rfl ?_
  refine ez_i2l (by omega) d_Po_init_11 ?_
  refine ev_put2 (fs' := [.long (lZ t), .long (lZ pa), .long (lZ 0), .long (lZ 0), .long (lZ 0)]) d_Po_init_12 fw_Po_13 (Or.inl rfl) hq (Nat.le_of_ble_eq_true rfl) rfl rfl rfl (fun h2 h2a h2o => ?_)
  have hq := h2a
  have fx := fx.step (by simp) h2o
  refine ev_aload_n d_Po_init_15 rfl rfl ?_
  refine ev_iload d_Po_init_16 rfl ?_
  refine ez_i2l (by omega) d_Po_init_18 ?_
  refine ev_put2 (fs' := [.long (lZ t), .long (lZ pa), .long (lZ pc), .long (lZ 0), .long (lZ 0)]) d_Po_init_19 fw_Po_16 (Or.inl rfl) hq (Nat.le_of_ble_eq_true rfl) rfl rfl rfl (fun h3 h3a h3o => ?_)
  have hq := h3a
  have fx := fx.step (by simp) h3o
  refine ev_aload_n d_Po_init_22 rfl rfl ?_
  refine ev_iload d_Po_init_23 rfl ?_
  refine ev_iload_n d_Po_init_25 rfl rfl ?_
  refine ez_isub d_Po_init_26 ?_
  refine ez_i2l (by omega) d_Po_init_27 ?_
  refine ev_put2 (fs' := [.long (lZ t), .long (lZ pa), .long (lZ pc), .long (lZ (pb - pa)), .long (lZ 0)]) d_Po_init_28 fw_Po_19 (Or.inl rfl) hq (Nat.le_of_ble_eq_true rfl) rfl rfl rfl (fun h4 h4a h4o => ?_)
  have hq := h4a
  have fx := fx.step (by simp) h4o
  refine ev_aload_n d_Po_init_31 rfl rfl ?_
  refine ev_iload d_Po_init_32 rfl ?_
  refine ev_iload d_Po_init_34 rfl ?_
  refine ez_isub d_Po_init_36 ?_
  refine ez_i2l (by omega) d_Po_init_37 ?_
  refine ev_put2 (fs' := [.long (lZ t), .long (lZ pa), .long (lZ pc), .long (lZ (pb - pa)), .long (lZ (pd - pc))]) d_Po_init_38 fw_Po_22 (Or.inl rfl) hq (Nat.le_of_ble_eq_true rfl) rfl rfl rfl (fun h5 h5a h5o => ?_)
  have hq := h5a
  have fx := fx.step (by simp) h5o
  exact ev_return d_Po_init_41 rfl (by decide) (by decide) (⟨rfl, hq, fx⟩)
set_option maxHeartbeats 4000000 in
set_option maxRecDepth 100000 in
theorem f_CB_twoPoint (G : GT) (h : HM) (x bu xf xu xo xp xe xw xl xr o1 o2 o3 o4 pk : Nat) (a : Int) (c : Int) (b : Int) (d : Int) (hx : h x = some (.inr (0, [.ref bu, .ref xf, .ref xu, .ref xo, .ref xp, .ref xe, .ref xw, .ref xl, .ref xr]))) (hf : h xf = some (.inr (5, [.int (iZ 25), .int (iZ 1), .long (lZ 28224000)]))) (ho : h xo = some (.inr (2, [.ref o1, .ref o2, .ref o3, .ref o4, .int (iZ 0)]))) (ho1 : h o1 = some (.inl (G_j G, 16, .inr (.inl (lA (fun _ => 0)))))) (ho2 : h o2 = some (.inl (G_j G, 16, .inr (.inl (lA (fun _ => 0)))))) (ho3 : h o3 = some (.inl (G_i G, 16, .inl (iA (fun _ => 0))))) (ho4 : h o4 = some (.inl (G_i G, 1024, .inl (iA (fun _ => 0))))) (hp : h xp = some (.inr (7, [.ref pk, .int (iZ 0), .int (iZ 0)]))) (hpk : h pk = some (.inl (G_q G, 10, .inr (.inr (.inr (.inr (fun _ => none))))))) (g0 : iR a) (g1 : iR c) (g2 : iR b) (g3 : iR d) (n_o : o1 ≠ o2) : Rn G M_CB_twoPoint ({ frames := 3, cells := 6, slots := 1082, locals := 82 }) [.ref x, .int (iZ a), .int (iZ c), .int (iZ b), .int (iZ d)] h (fun r h' => r = some (.int (iZ (tpZ a c b d))) ∧ Fx [xp, pk] h h') := by
  refine rn_of (by decide) (Nat.le_of_ble_eq_true rfl) ?_
  show Ev G M_CB_twoPoint _ _ 0 [(0, .ref x), (1, .int (iZ a)), (2, .int (iZ c)), (3, .int (iZ b)), (4, .int (iZ d))] [] _ 0 0
  have fx : Fx [xp, pk] h h := Fx.rf
  refine ev_aload_n d_CB_twoPoint_0 rfl rfl ?_
  refine ev_get d_CB_twoPoint_1 fl_CB_19 hx rfl ?_
  refine ev_iload_n d_CB_twoPoint_4 rfl rfl ?_
  have hr5 := holdZ_r 28224000 a
  refine ev_pV M_Fr_holds 0 0 (As := [.int (iZ a)]) (c_Fr_holds G h xf 25 1 28224000 a hf (by omega) (by omega)) d_CB_twoPoint_5 mk_Fr_holds ml_CB_178 mv_Fr_holds hf rfl rfl rfl (Nat.le_of_ble_eq_true rfl) ⟨by decide, by decide⟩ ⟨by decide, by decide⟩ ?_
  refine ez_if_eq (tgt := 22) (by omega) d_CB_twoPoint_8 rfl (fun c8 => ?_) (fun c8 => ?_)
  · have z8 := holdZ_0 c8
    refine ev_iconst (v := iZ 0) d_CB_twoPoint_22 rfl ?_
    exact ev_zreturn d_CB_twoPoint_23 rfl (Or.inl rfl) (by decide) (by decide) (⟨by rw [show (tpZ a c b d : Int) = 0 from by unfold tpZ; split <;> omega], fx⟩)
  · have z8 := holdZ_1 c8
    refine ev_aload_n d_CB_twoPoint_11 rfl rfl ?_
    refine ev_get d_CB_twoPoint_12 fl_CB_19 hx rfl ?_
    refine ev_iload_n d_CB_twoPoint_15 rfl rfl ?_
    have hr16 := holdZ_r 28224000 c
    refine ev_pV M_Fr_holds 0 0 (As := [.int (iZ c)]) (c_Fr_holds G h xf 25 1 28224000 c hf (by omega) (by omega)) d_CB_twoPoint_16 mk_Fr_holds ml_CB_178 mv_Fr_holds hf rfl rfl rfl (Nat.le_of_ble_eq_true rfl) ⟨by decide, by decide⟩ ⟨by decide, by decide⟩ ?_
    refine ez_if_ne (tgt := 24) (by omega) d_CB_twoPoint_19 rfl (fun c19 => ?_) (fun c19 => ?_)
    · have z19 := holdZ_1 c19
      refine ev_aload_n d_CB_twoPoint_24 rfl rfl ?_
      refine ev_get d_CB_twoPoint_25 fl_CB_19 hx rfl ?_
      refine ev_iload_n d_CB_twoPoint_28 rfl rfl ?_
      have hr29 := holdZ_r 28224000 b
      refine ev_pV M_Fr_holds 0 0 (As := [.int (iZ b)]) (c_Fr_holds G h xf 25 1 28224000 b hf (by omega) (by omega)) d_CB_twoPoint_29 mk_Fr_holds ml_CB_178 mv_Fr_holds hf rfl rfl rfl (Nat.le_of_ble_eq_true rfl) ⟨by decide, by decide⟩ ⟨by decide, by decide⟩ ?_
      refine ez_if_eq (tgt := 47) (by omega) d_CB_twoPoint_32 rfl (fun c32 => ?_) (fun c32 => ?_)
      · have z32 := holdZ_0 c32
        refine ev_iconst (v := iZ 0) d_CB_twoPoint_47 rfl ?_
        exact ev_zreturn d_CB_twoPoint_48 rfl (Or.inl rfl) (by decide) (by decide) (⟨by rw [show (tpZ a c b d : Int) = 0 from by unfold tpZ; split <;> omega], fx⟩)
      · have z32 := holdZ_1 c32
        refine ev_aload_n d_CB_twoPoint_35 rfl rfl ?_
        refine ev_get d_CB_twoPoint_36 fl_CB_19 hx rfl ?_
        refine ev_iload d_CB_twoPoint_39 rfl ?_
        have hr41 := holdZ_r 28224000 d
        refine ev_pV M_Fr_holds 0 0 (As := [.int (iZ d)]) (c_Fr_holds G h xf 25 1 28224000 d hf (by omega) (by omega)) d_CB_twoPoint_41 mk_Fr_holds ml_CB_178 mv_Fr_holds hf rfl rfl rfl (Nat.le_of_ble_eq_true rfl) ⟨by decide, by decide⟩ ⟨by decide, by decide⟩ ?_
        refine ez_if_ne (tgt := 49) (by omega) d_CB_twoPoint_44 rfl (fun c44 => ?_) (fun c44 => ?_)
        · have z44 := holdZ_1 c44
          refine ev_iload_n d_CB_twoPoint_49 rfl rfl ?_
          refine ev_iload_n d_CB_twoPoint_50 rfl rfl ?_
          refine ez_icmp_eq (tgt := 84) (by omega) (by omega) d_CB_twoPoint_51 rfl (fun c51 => ?_) (fun c51 => ?_)
          · refine ev_iconst (v := iZ 0) d_CB_twoPoint_84 rfl ?_
            exact ev_zreturn d_CB_twoPoint_85 rfl (Or.inl rfl) (by decide) (by decide) (⟨by rw [show (tpZ a c b d : Int) = 0 from by unfold tpZ; split <;> omega], fx⟩)
          · refine ev_iload_n d_CB_twoPoint_54 rfl rfl ?_
            refine ev_iload d_CB_twoPoint_55 rfl ?_
            refine ez_icmp_eq (tgt := 84) (by omega) (by omega) d_CB_twoPoint_57 rfl (fun c57 => ?_) (fun c57 => ?_)
            · refine ev_iconst (v := iZ 0) d_CB_twoPoint_84 rfl ?_
              exact ev_zreturn d_CB_twoPoint_85 rfl (Or.inl rfl) (by decide) (by decide) (⟨by rw [show (tpZ a c b d : Int) = 0 from by unfold tpZ; split <;> omega], fx⟩)
            · refine ev_iload_n d_CB_twoPoint_60 rfl rfl ?_
              refine ev_iload_n d_CB_twoPoint_61 rfl rfl ?_
              refine ez_icmp_ge (tgt := 69) (by omega) (by omega) d_CB_twoPoint_62 rfl (fun c62 => ?_) (fun c62 => ?_)
              · refine ev_iconst (v := iZ 0) d_CB_twoPoint_69 rfl ?_
                refine ev_iload_n d_CB_twoPoint_70 rfl rfl ?_
                refine ev_iload d_CB_twoPoint_71 rfl ?_
                refine ez_icmp_ge (tgt := 80) (by omega) (by omega) d_CB_twoPoint_73 rfl (fun c73 => ?_) (fun c73 => ?_)
                · refine ev_iconst (v := iZ 0) d_CB_twoPoint_80 rfl ?_
                  refine ez_icmp_eq (tgt := 86) (by decide) (by decide) d_CB_twoPoint_81 rfl (fun c81 => ?_) (fun c81 => absurd c81 (by omega))
                  refine ev_iload_n d_CB_twoPoint_86 rfl rfl ?_
                  refine ev_iload_n d_CB_twoPoint_87 rfl rfl ?_
                  refine ez_icmp_ge (tgt := 113) (by omega) (by omega) d_CB_twoPoint_88 rfl (fun c88 => ?_) (fun c88 => ?_)
                  · refine ez_new 5 d_CB_twoPoint_113 nc_CB_181 rfl (by decide) (by decide) (fun q1 h2 lt9 h2a h2o => ?_)
                    have lo9 : ∀ b e, h b = some e → b < q1 := fun b e hb9 => lt9 b e (hb9)
                    have fx := fx.new lt9 h2o
                    have hx := (h2o _ (Nat.ne_of_lt (lt9 _ _ hx))).trans hx
                    have hf := (h2o _ (Nat.ne_of_lt (lt9 _ _ hf))).trans hf
                    have ho := (h2o _ (Nat.ne_of_lt (lt9 _ _ ho))).trans ho
                    have ho1 := (h2o _ (Nat.ne_of_lt (lt9 _ _ ho1))).trans ho1
                    have ho2 := (h2o _ (Nat.ne_of_lt (lt9 _ _ ho2))).trans ho2
                    have ho3 := (h2o _ (Nat.ne_of_lt (lt9 _ _ ho3))).trans ho3
                    have ho4 := (h2o _ (Nat.ne_of_lt (lt9 _ _ ho4))).trans ho4
                    have hp := (h2o _ (Nat.ne_of_lt (lt9 _ _ hp))).trans hp
                    have hpk := (h2o _ (Nat.ne_of_lt (lt9 _ _ hpk))).trans hpk
                    have hpm := h2a
                    refine ev_dup d_CB_twoPoint_116 rfl ?_
                    refine ev_aload_n d_CB_twoPoint_117 rfl rfl ?_
                    refine ev_get d_CB_twoPoint_118 fl_CB_19 hx rfl ?_
                    refine ev_get d_CB_twoPoint_121 fl_CB_183 hf rfl ?_
                    refine ev_iload_n d_CB_twoPoint_124 rfl rfl ?_
                    refine ev_iload d_CB_twoPoint_125 rfl ?_
                    refine ev_iload_n d_CB_twoPoint_127 rfl rfl ?_
                    refine ev_iload_n d_CB_twoPoint_128 rfl rfl ?_
                    refine ev_callI M_Po_init ({ frames := 1, cells := 0, slots := 0, locals := 12 }) _ (As := [.long (lZ 28224000), .int (iZ b), .int (iZ d), .int (iZ a), .int (iZ c)]) (c_Po_init G h2 q1 28224000 b d a c hpm (by omega) (by omega) (by omega) (by omega)) d_CB_twoPoint_129 mk_Po_init ml_CB_187 ⟨rfl, rfl⟩ mi_Po_init rfl rfl (Nat.le_of_ble_eq_true rfl) ⟨by decide, by decide⟩ ⟨by decide, by decide⟩ (fun r h3 hq => ?_)
                    obtain ⟨rfl, _, fxp⟩ := hq
                    have hx := fxp _ _ hx (ninc (cne hx hpm (by simp)) nin0)
                    have hf := fxp _ _ hf (ninc (cne hf hpm (by simp)) nin0)
                    have ho := fxp _ _ ho (ninc (cne ho hpm (by simp)) nin0)
                    have ho1 := fxp _ _ ho1 (ninc (cne ho1 hpm (by simp)) nin0)
                    have ho2 := fxp _ _ ho2 (ninc (cne ho2 hpm (by simp)) nin0)
                    have ho3 := fxp _ _ ho3 (ninc (cne ho3 hpm (by simp)) nin0)
                    have ho4 := fxp _ _ ho4 (ninc (cne ho4 hpm (by simp)) nin0)
                    have hp := fxp _ _ hp (ninc (cne hp hpm (by simp)) nin0)
                    have hpk := fxp _ _ hpk (ninc (cne hpk hpm (by simp)) nin0)
                    have fx := fx.call fxp (fun z hz => Or.inr (fun b e hb9 => by simp at hz; subst hz; exact Nat.ne_of_lt (lo9 b e hb9)))
                    refine ev_astore (L' := [(0, .ref x), (1, .int (iZ a)), (2, .int (iZ c)), (3, .int (iZ b)), (4, .int (iZ d)), (5, .ref q1)]) d_CB_twoPoint_132 (by decide) rfl ?_
                    refine ev_iconst (v := iZ 0) d_CB_twoPoint_134 rfl ?_
                    refine ev_istore (L' := [(0, .ref x), (1, .int (iZ a)), (2, .int (iZ c)), (3, .int (iZ b)), (4, .int (iZ d)), (5, .ref q1), (6, .int (iZ 0))]) d_CB_twoPoint_135 (by decide) rfl ?_
                    refine ev_iload d_CB_twoPoint_137 rfl ?_
                    refine ev_aload_n d_CB_twoPoint_139 rfl rfl ?_
                    refine ev_get d_CB_twoPoint_140 fl_CB_33 hx rfl ?_
                    refine ev_get d_CB_twoPoint_143 fl_CB_112 ho rfl ?_
                    refine ez_icmp_ge (tgt := 215) (by decide) (by decide) d_CB_twoPoint_146 rfl (fun c146 => ?_) (fun c146 => absurd c146 (by omega))
                    refine ev_aload_n d_CB_twoPoint_215 rfl rfl ?_
                    refine ev_get d_CB_twoPoint_216 fl_CB_40 hx rfl ?_
                    refine ev_aload_n d_CB_twoPoint_219 rfl rfl ?_
                    refine ev_get d_CB_twoPoint_220 fl_CB_33 hx rfl ?_
                    refine ev_callV M_Pa_keep ({ frames := 2, cells := 5, slots := 1077, locals := 61 }) _ (As := [.ref xo]) (c_Pa_keepN G h3 xp pk xo o1 o2 o3 o4 (fun _ => none) 0 0 0 _ _ _ _ hp hpk ho ho1 ho2 ho3 ho4 (by decide) (by decide) (by decide) rfl n_o) d_CB_twoPoint_223 mk_Pa_keep ml_CB_103 mv_Pa_keep hp rfl rfl rfl (Nat.le_of_ble_eq_true rfl) ⟨by decide, by decide⟩ ⟨by decide, by decide⟩ (fun r h4 hq => ?_)
                    obtain ⟨rfl, kq, kq1, kq2, kq3, kq4, ltq, _, _, _, _, _, _, _, _, _, _, _, fxk⟩ := hq
                    have hx := fxk _ _ hx (ninc (cne hx hp (by simp)) (ninc (cne hx hpk (by simp)) nin0))
                    have hf := fxk _ _ hf (ninc (cne hf hp (by simp)) (ninc (cne hf hpk (by simp)) nin0))
                    have ho := fxk _ _ ho (ninc (cne ho hp (by simp)) (ninc (cne ho hpk (by simp)) nin0))
                    have ho1 := fxk _ _ ho1 (ninc (cne ho1 hp (by simp)) (ninc (cne ho1 hpk (by simp)) nin0))
                    have ho2 := fxk _ _ ho2 (ninc (cne ho2 hp (by simp)) (ninc (cne ho2 hpk (by simp)) nin0))
                    have ho3 := fxk _ _ ho3 (ninc (cne ho3 hp (by simp)) (ninc (cne ho3 hpk (by simp)) nin0))
                    have ho4 := fxk _ _ ho4 (ninc (cne ho4 hp (by simp)) (ninc (cne ho4 hpk (by simp)) nin0))
                    have fx := fx.call fxk (fun z hz => Or.inl (by simp at hz ⊢; rcases hz with rfl | rfl <;> simp))
                    refine ev_iconst (v := iZ 0) d_CB_twoPoint_226 rfl ?_
                    refine ev_istore (L' := [(0, .ref x), (1, .int (iZ a)), (2, .int (iZ c)), (3, .int (iZ b)), (4, .int (iZ d)), (5, .ref q1), (6, .int (iZ 0))]) d_CB_twoPoint_227 (by decide) rfl ?_
                    refine ev_iload d_CB_twoPoint_229 rfl ?_
                    refine ev_aload_n d_CB_twoPoint_231 rfl rfl ?_
                    refine ev_get d_CB_twoPoint_232 fl_CB_33 hx rfl ?_
                    refine ev_get d_CB_twoPoint_235 fl_CB_112 ho rfl ?_
                    refine ez_icmp_ge (tgt := 297) (by decide) (by decide) d_CB_twoPoint_238 rfl (fun c238 => ?_) (fun c238 => absurd c238 (by omega))
                    refine ev_iconst (v := iZ 1) d_CB_twoPoint_297 rfl ?_
                    exact ev_zreturn d_CB_twoPoint_298 rfl (Or.inr rfl) (by decide) (by decide) (⟨by rw [show (tpZ a c b d : Int) = 1 from by unfold tpZ; split <;> omega], fx⟩)
                  · refine ez_new 5 d_CB_twoPoint_91 nc_CB_181 rfl (by decide) (by decide) (fun q5 h6 lt9 h6a h6o => ?_)
                    have lo9 : ∀ b e, h b = some e → b < q5 := fun b e hb9 => lt9 b e (hb9)
                    have fx := fx.new lt9 h6o
                    have hx := (h6o _ (Nat.ne_of_lt (lt9 _ _ hx))).trans hx
                    have hf := (h6o _ (Nat.ne_of_lt (lt9 _ _ hf))).trans hf
                    have ho := (h6o _ (Nat.ne_of_lt (lt9 _ _ ho))).trans ho
                    have ho1 := (h6o _ (Nat.ne_of_lt (lt9 _ _ ho1))).trans ho1
                    have ho2 := (h6o _ (Nat.ne_of_lt (lt9 _ _ ho2))).trans ho2
                    have ho3 := (h6o _ (Nat.ne_of_lt (lt9 _ _ ho3))).trans ho3
                    have ho4 := (h6o _ (Nat.ne_of_lt (lt9 _ _ ho4))).trans ho4
                    have hp := (h6o _ (Nat.ne_of_lt (lt9 _ _ hp))).trans hp
                    have hpk := (h6o _ (Nat.ne_of_lt (lt9 _ _ hpk))).trans hpk
                    have hpm := h6a
                    refine ev_dup d_CB_twoPoint_94 rfl ?_
                    refine ev_aload_n d_CB_twoPoint_95 rfl rfl ?_
                    refine ev_get d_CB_twoPoint_96 fl_CB_19 hx rfl ?_
                    refine ev_get d_CB_twoPoint_99 fl_CB_183 hf rfl ?_
                    refine ev_iload_n d_CB_twoPoint_102 rfl rfl ?_
                    refine ev_iload_n d_CB_twoPoint_103 rfl rfl ?_
                    refine ev_iload_n d_CB_twoPoint_104 rfl rfl ?_
                    refine ev_iload d_CB_twoPoint_105 rfl ?_
                    refine ev_callI M_Po_init ({ frames := 1, cells := 0, slots := 0, locals := 12 }) _ (As := [.long (lZ 28224000), .int (iZ a), .int (iZ c), .int (iZ b), .int (iZ d)]) (c_Po_init G h6 q5 28224000 a c b d hpm (by omega) (by omega) (by omega) (by omega)) d_CB_twoPoint_107 mk_Po_init ml_CB_187 ⟨rfl, rfl⟩ mi_Po_init rfl rfl (Nat.le_of_ble_eq_true rfl) ⟨by decide, by decide⟩ ⟨by decide, by decide⟩ (fun r h7 hq => ?_)
                    obtain ⟨rfl, _, fxp⟩ := hq
                    have hx := fxp _ _ hx (ninc (cne hx hpm (by simp)) nin0)
                    have hf := fxp _ _ hf (ninc (cne hf hpm (by simp)) nin0)
                    have ho := fxp _ _ ho (ninc (cne ho hpm (by simp)) nin0)
                    have ho1 := fxp _ _ ho1 (ninc (cne ho1 hpm (by simp)) nin0)
                    have ho2 := fxp _ _ ho2 (ninc (cne ho2 hpm (by simp)) nin0)
                    have ho3 := fxp _ _ ho3 (ninc (cne ho3 hpm (by simp)) nin0)
                    have ho4 := fxp _ _ ho4 (ninc (cne ho4 hpm (by simp)) nin0)
                    have hp := fxp _ _ hp (ninc (cne hp hpm (by simp)) nin0)
                    have hpk := fxp _ _ hpk (ninc (cne hpk hpm (by simp)) nin0)
                    have fx := fx.call fxp (fun z hz => Or.inr (fun b e hb9 => by simp at hz; subst hz; exact Nat.ne_of_lt (lo9 b e hb9)))
                    refine ev_goto (tgt := 132) d_CB_twoPoint_110 rfl ?_
                    refine ev_astore (L' := [(0, .ref x), (1, .int (iZ a)), (2, .int (iZ c)), (3, .int (iZ b)), (4, .int (iZ d)), (5, .ref q5)]) d_CB_twoPoint_132 (by decide) rfl ?_
                    refine ev_iconst (v := iZ 0) d_CB_twoPoint_134 rfl ?_
                    refine ev_istore (L' := [(0, .ref x), (1, .int (iZ a)), (2, .int (iZ c)), (3, .int (iZ b)), (4, .int (iZ d)), (5, .ref q5), (6, .int (iZ 0))]) d_CB_twoPoint_135 (by decide) rfl ?_
                    refine ev_iload d_CB_twoPoint_137 rfl ?_
                    refine ev_aload_n d_CB_twoPoint_139 rfl rfl ?_
                    refine ev_get d_CB_twoPoint_140 fl_CB_33 hx rfl ?_
                    refine ev_get d_CB_twoPoint_143 fl_CB_112 ho rfl ?_
                    refine ez_icmp_ge (tgt := 215) (by decide) (by decide) d_CB_twoPoint_146 rfl (fun c146 => ?_) (fun c146 => absurd c146 (by omega))
                    refine ev_aload_n d_CB_twoPoint_215 rfl rfl ?_
                    refine ev_get d_CB_twoPoint_216 fl_CB_40 hx rfl ?_
                    refine ev_aload_n d_CB_twoPoint_219 rfl rfl ?_
                    refine ev_get d_CB_twoPoint_220 fl_CB_33 hx rfl ?_
                    refine ev_callV M_Pa_keep ({ frames := 2, cells := 5, slots := 1077, locals := 61 }) _ (As := [.ref xo]) (c_Pa_keepN G h7 xp pk xo o1 o2 o3 o4 (fun _ => none) 0 0 0 _ _ _ _ hp hpk ho ho1 ho2 ho3 ho4 (by decide) (by decide) (by decide) rfl n_o) d_CB_twoPoint_223 mk_Pa_keep ml_CB_103 mv_Pa_keep hp rfl rfl rfl (Nat.le_of_ble_eq_true rfl) ⟨by decide, by decide⟩ ⟨by decide, by decide⟩ (fun r h8 hq => ?_)
                    obtain ⟨rfl, kq, kq1, kq2, kq3, kq4, ltq, _, _, _, _, _, _, _, _, _, _, _, fxk⟩ := hq
                    have hx := fxk _ _ hx (ninc (cne hx hp (by simp)) (ninc (cne hx hpk (by simp)) nin0))
                    have hf := fxk _ _ hf (ninc (cne hf hp (by simp)) (ninc (cne hf hpk (by simp)) nin0))
                    have ho := fxk _ _ ho (ninc (cne ho hp (by simp)) (ninc (cne ho hpk (by simp)) nin0))
                    have ho1 := fxk _ _ ho1 (ninc (cne ho1 hp (by simp)) (ninc (cne ho1 hpk (by simp)) nin0))
                    have ho2 := fxk _ _ ho2 (ninc (cne ho2 hp (by simp)) (ninc (cne ho2 hpk (by simp)) nin0))
                    have ho3 := fxk _ _ ho3 (ninc (cne ho3 hp (by simp)) (ninc (cne ho3 hpk (by simp)) nin0))
                    have ho4 := fxk _ _ ho4 (ninc (cne ho4 hp (by simp)) (ninc (cne ho4 hpk (by simp)) nin0))
                    have fx := fx.call fxk (fun z hz => Or.inl (by simp at hz ⊢; rcases hz with rfl | rfl <;> simp))
                    refine ev_iconst (v := iZ 0) d_CB_twoPoint_226 rfl ?_
                    refine ev_istore (L' := [(0, .ref x), (1, .int (iZ a)), (2, .int (iZ c)), (3, .int (iZ b)), (4, .int (iZ d)), (5, .ref q5), (6, .int (iZ 0))]) d_CB_twoPoint_227 (by decide) rfl ?_
                    refine ev_iload d_CB_twoPoint_229 rfl ?_
                    refine ev_aload_n d_CB_twoPoint_231 rfl rfl ?_
                    refine ev_get d_CB_twoPoint_232 fl_CB_33 hx rfl ?_
                    refine ev_get d_CB_twoPoint_235 fl_CB_112 ho rfl ?_
                    refine ez_icmp_ge (tgt := 297) (by decide) (by decide) d_CB_twoPoint_238 rfl (fun c238 => ?_) (fun c238 => absurd c238 (by omega))
                    refine ev_iconst (v := iZ 1) d_CB_twoPoint_297 rfl ?_
                    exact ev_zreturn d_CB_twoPoint_298 rfl (Or.inr rfl) (by decide) (by decide) (⟨by rw [show (tpZ a c b d : Int) = 1 from by unfold tpZ; split <;> omega], fx⟩)
                · refine ev_iconst (v := iZ 1) d_CB_twoPoint_76 rfl ?_
                  refine ev_goto (tgt := 81) d_CB_twoPoint_77 rfl ?_
                  refine ez_icmp_eq (tgt := 86) (by decide) (by decide) d_CB_twoPoint_81 rfl (fun c81 => absurd c81 (by omega)) (fun c81 => ?_)
                  refine ev_iconst (v := iZ 0) d_CB_twoPoint_84 rfl ?_
                  exact ev_zreturn d_CB_twoPoint_85 rfl (Or.inl rfl) (by decide) (by decide) (⟨by rw [show (tpZ a c b d : Int) = 0 from by unfold tpZ; split <;> omega], fx⟩)
              · refine ev_iconst (v := iZ 1) d_CB_twoPoint_65 rfl ?_
                refine ev_goto (tgt := 70) d_CB_twoPoint_66 rfl ?_
                refine ev_iload_n d_CB_twoPoint_70 rfl rfl ?_
                refine ev_iload d_CB_twoPoint_71 rfl ?_
                refine ez_icmp_ge (tgt := 80) (by omega) (by omega) d_CB_twoPoint_73 rfl (fun c73 => ?_) (fun c73 => ?_)
                · refine ev_iconst (v := iZ 0) d_CB_twoPoint_80 rfl ?_
                  refine ez_icmp_eq (tgt := 86) (by decide) (by decide) d_CB_twoPoint_81 rfl (fun c81 => absurd c81 (by omega)) (fun c81 => ?_)
                  refine ev_iconst (v := iZ 0) d_CB_twoPoint_84 rfl ?_
                  exact ev_zreturn d_CB_twoPoint_85 rfl (Or.inl rfl) (by decide) (by decide) (⟨by rw [show (tpZ a c b d : Int) = 0 from by unfold tpZ; split <;> omega], fx⟩)
                · refine ev_iconst (v := iZ 1) d_CB_twoPoint_76 rfl ?_
                  refine ev_goto (tgt := 81) d_CB_twoPoint_77 rfl ?_
                  refine ez_icmp_eq (tgt := 86) (by decide) (by decide) d_CB_twoPoint_81 rfl (fun c81 => ?_) (fun c81 => absurd c81 (by omega))
                  refine ev_iload_n d_CB_twoPoint_86 rfl rfl ?_
                  refine ev_iload_n d_CB_twoPoint_87 rfl rfl ?_
                  refine ez_icmp_ge (tgt := 113) (by omega) (by omega) d_CB_twoPoint_88 rfl (fun c88 => ?_) (fun c88 => ?_)
                  · refine ez_new 5 d_CB_twoPoint_113 nc_CB_181 rfl (by decide) (by decide) (fun q9 h10 lt9 h10a h10o => ?_)
                    have lo9 : ∀ b e, h b = some e → b < q9 := fun b e hb9 => lt9 b e (hb9)
                    have fx := fx.new lt9 h10o
                    have hx := (h10o _ (Nat.ne_of_lt (lt9 _ _ hx))).trans hx
                    have hf := (h10o _ (Nat.ne_of_lt (lt9 _ _ hf))).trans hf
                    have ho := (h10o _ (Nat.ne_of_lt (lt9 _ _ ho))).trans ho
                    have ho1 := (h10o _ (Nat.ne_of_lt (lt9 _ _ ho1))).trans ho1
                    have ho2 := (h10o _ (Nat.ne_of_lt (lt9 _ _ ho2))).trans ho2
                    have ho3 := (h10o _ (Nat.ne_of_lt (lt9 _ _ ho3))).trans ho3
                    have ho4 := (h10o _ (Nat.ne_of_lt (lt9 _ _ ho4))).trans ho4
                    have hp := (h10o _ (Nat.ne_of_lt (lt9 _ _ hp))).trans hp
                    have hpk := (h10o _ (Nat.ne_of_lt (lt9 _ _ hpk))).trans hpk
                    have hpm := h10a
                    refine ev_dup d_CB_twoPoint_116 rfl ?_
                    refine ev_aload_n d_CB_twoPoint_117 rfl rfl ?_
                    refine ev_get d_CB_twoPoint_118 fl_CB_19 hx rfl ?_
                    refine ev_get d_CB_twoPoint_121 fl_CB_183 hf rfl ?_
                    refine ev_iload_n d_CB_twoPoint_124 rfl rfl ?_
                    refine ev_iload d_CB_twoPoint_125 rfl ?_
                    refine ev_iload_n d_CB_twoPoint_127 rfl rfl ?_
                    refine ev_iload_n d_CB_twoPoint_128 rfl rfl ?_
                    refine ev_callI M_Po_init ({ frames := 1, cells := 0, slots := 0, locals := 12 }) _ (As := [.long (lZ 28224000), .int (iZ b), .int (iZ d), .int (iZ a), .int (iZ c)]) (c_Po_init G h10 q9 28224000 b d a c hpm (by omega) (by omega) (by omega) (by omega)) d_CB_twoPoint_129 mk_Po_init ml_CB_187 ⟨rfl, rfl⟩ mi_Po_init rfl rfl (Nat.le_of_ble_eq_true rfl) ⟨by decide, by decide⟩ ⟨by decide, by decide⟩ (fun r h11 hq => ?_)
                    obtain ⟨rfl, _, fxp⟩ := hq
                    have hx := fxp _ _ hx (ninc (cne hx hpm (by simp)) nin0)
                    have hf := fxp _ _ hf (ninc (cne hf hpm (by simp)) nin0)
                    have ho := fxp _ _ ho (ninc (cne ho hpm (by simp)) nin0)
                    have ho1 := fxp _ _ ho1 (ninc (cne ho1 hpm (by simp)) nin0)
                    have ho2 := fxp _ _ ho2 (ninc (cne ho2 hpm (by simp)) nin0)
                    have ho3 := fxp _ _ ho3 (ninc (cne ho3 hpm (by simp)) nin0)
                    have ho4 := fxp _ _ ho4 (ninc (cne ho4 hpm (by simp)) nin0)
                    have hp := fxp _ _ hp (ninc (cne hp hpm (by simp)) nin0)
                    have hpk := fxp _ _ hpk (ninc (cne hpk hpm (by simp)) nin0)
                    have fx := fx.call fxp (fun z hz => Or.inr (fun b e hb9 => by simp at hz; subst hz; exact Nat.ne_of_lt (lo9 b e hb9)))
                    refine ev_astore (L' := [(0, .ref x), (1, .int (iZ a)), (2, .int (iZ c)), (3, .int (iZ b)), (4, .int (iZ d)), (5, .ref q9)]) d_CB_twoPoint_132 (by decide) rfl ?_
                    refine ev_iconst (v := iZ 0) d_CB_twoPoint_134 rfl ?_
                    refine ev_istore (L' := [(0, .ref x), (1, .int (iZ a)), (2, .int (iZ c)), (3, .int (iZ b)), (4, .int (iZ d)), (5, .ref q9), (6, .int (iZ 0))]) d_CB_twoPoint_135 (by decide) rfl ?_
                    refine ev_iload d_CB_twoPoint_137 rfl ?_
                    refine ev_aload_n d_CB_twoPoint_139 rfl rfl ?_
                    refine ev_get d_CB_twoPoint_140 fl_CB_33 hx rfl ?_
                    refine ev_get d_CB_twoPoint_143 fl_CB_112 ho rfl ?_
                    refine ez_icmp_ge (tgt := 215) (by decide) (by decide) d_CB_twoPoint_146 rfl (fun c146 => ?_) (fun c146 => absurd c146 (by omega))
                    refine ev_aload_n d_CB_twoPoint_215 rfl rfl ?_
                    refine ev_get d_CB_twoPoint_216 fl_CB_40 hx rfl ?_
                    refine ev_aload_n d_CB_twoPoint_219 rfl rfl ?_
                    refine ev_get d_CB_twoPoint_220 fl_CB_33 hx rfl ?_
                    refine ev_callV M_Pa_keep ({ frames := 2, cells := 5, slots := 1077, locals := 61 }) _ (As := [.ref xo]) (c_Pa_keepN G h11 xp pk xo o1 o2 o3 o4 (fun _ => none) 0 0 0 _ _ _ _ hp hpk ho ho1 ho2 ho3 ho4 (by decide) (by decide) (by decide) rfl n_o) d_CB_twoPoint_223 mk_Pa_keep ml_CB_103 mv_Pa_keep hp rfl rfl rfl (Nat.le_of_ble_eq_true rfl) ⟨by decide, by decide⟩ ⟨by decide, by decide⟩ (fun r h12 hq => ?_)
                    obtain ⟨rfl, kq, kq1, kq2, kq3, kq4, ltq, _, _, _, _, _, _, _, _, _, _, _, fxk⟩ := hq
                    have hx := fxk _ _ hx (ninc (cne hx hp (by simp)) (ninc (cne hx hpk (by simp)) nin0))
                    have hf := fxk _ _ hf (ninc (cne hf hp (by simp)) (ninc (cne hf hpk (by simp)) nin0))
                    have ho := fxk _ _ ho (ninc (cne ho hp (by simp)) (ninc (cne ho hpk (by simp)) nin0))
                    have ho1 := fxk _ _ ho1 (ninc (cne ho1 hp (by simp)) (ninc (cne ho1 hpk (by simp)) nin0))
                    have ho2 := fxk _ _ ho2 (ninc (cne ho2 hp (by simp)) (ninc (cne ho2 hpk (by simp)) nin0))
                    have ho3 := fxk _ _ ho3 (ninc (cne ho3 hp (by simp)) (ninc (cne ho3 hpk (by simp)) nin0))
                    have ho4 := fxk _ _ ho4 (ninc (cne ho4 hp (by simp)) (ninc (cne ho4 hpk (by simp)) nin0))
                    have fx := fx.call fxk (fun z hz => Or.inl (by simp at hz ⊢; rcases hz with rfl | rfl <;> simp))
                    refine ev_iconst (v := iZ 0) d_CB_twoPoint_226 rfl ?_
                    refine ev_istore (L' := [(0, .ref x), (1, .int (iZ a)), (2, .int (iZ c)), (3, .int (iZ b)), (4, .int (iZ d)), (5, .ref q9), (6, .int (iZ 0))]) d_CB_twoPoint_227 (by decide) rfl ?_
                    refine ev_iload d_CB_twoPoint_229 rfl ?_
                    refine ev_aload_n d_CB_twoPoint_231 rfl rfl ?_
                    refine ev_get d_CB_twoPoint_232 fl_CB_33 hx rfl ?_
                    refine ev_get d_CB_twoPoint_235 fl_CB_112 ho rfl ?_
                    refine ez_icmp_ge (tgt := 297) (by decide) (by decide) d_CB_twoPoint_238 rfl (fun c238 => ?_) (fun c238 => absurd c238 (by omega))
                    refine ev_iconst (v := iZ 1) d_CB_twoPoint_297 rfl ?_
                    exact ev_zreturn d_CB_twoPoint_298 rfl (Or.inr rfl) (by decide) (by decide) (⟨by rw [show (tpZ a c b d : Int) = 1 from by unfold tpZ; split <;> omega], fx⟩)
                  · refine ez_new 5 d_CB_twoPoint_91 nc_CB_181 rfl (by decide) (by decide) (fun q13 h14 lt9 h14a h14o => ?_)
                    have lo9 : ∀ b e, h b = some e → b < q13 := fun b e hb9 => lt9 b e (hb9)
                    have fx := fx.new lt9 h14o
                    have hx := (h14o _ (Nat.ne_of_lt (lt9 _ _ hx))).trans hx
                    have hf := (h14o _ (Nat.ne_of_lt (lt9 _ _ hf))).trans hf
                    have ho := (h14o _ (Nat.ne_of_lt (lt9 _ _ ho))).trans ho
                    have ho1 := (h14o _ (Nat.ne_of_lt (lt9 _ _ ho1))).trans ho1
                    have ho2 := (h14o _ (Nat.ne_of_lt (lt9 _ _ ho2))).trans ho2
                    have ho3 := (h14o _ (Nat.ne_of_lt (lt9 _ _ ho3))).trans ho3
                    have ho4 := (h14o _ (Nat.ne_of_lt (lt9 _ _ ho4))).trans ho4
                    have hp := (h14o _ (Nat.ne_of_lt (lt9 _ _ hp))).trans hp
                    have hpk := (h14o _ (Nat.ne_of_lt (lt9 _ _ hpk))).trans hpk
                    have hpm := h14a
                    refine ev_dup d_CB_twoPoint_94 rfl ?_
                    refine ev_aload_n d_CB_twoPoint_95 rfl rfl ?_
                    refine ev_get d_CB_twoPoint_96 fl_CB_19 hx rfl ?_
                    refine ev_get d_CB_twoPoint_99 fl_CB_183 hf rfl ?_
                    refine ev_iload_n d_CB_twoPoint_102 rfl rfl ?_
                    refine ev_iload_n d_CB_twoPoint_103 rfl rfl ?_
                    refine ev_iload_n d_CB_twoPoint_104 rfl rfl ?_
                    refine ev_iload d_CB_twoPoint_105 rfl ?_
                    refine ev_callI M_Po_init ({ frames := 1, cells := 0, slots := 0, locals := 12 }) _ (As := [.long (lZ 28224000), .int (iZ a), .int (iZ c), .int (iZ b), .int (iZ d)]) (c_Po_init G h14 q13 28224000 a c b d hpm (by omega) (by omega) (by omega) (by omega)) d_CB_twoPoint_107 mk_Po_init ml_CB_187 ⟨rfl, rfl⟩ mi_Po_init rfl rfl (Nat.le_of_ble_eq_true rfl) ⟨by decide, by decide⟩ ⟨by decide, by decide⟩ (fun r h15 hq => ?_)
                    obtain ⟨rfl, _, fxp⟩ := hq
                    have hx := fxp _ _ hx (ninc (cne hx hpm (by simp)) nin0)
                    have hf := fxp _ _ hf (ninc (cne hf hpm (by simp)) nin0)
                    have ho := fxp _ _ ho (ninc (cne ho hpm (by simp)) nin0)
                    have ho1 := fxp _ _ ho1 (ninc (cne ho1 hpm (by simp)) nin0)
                    have ho2 := fxp _ _ ho2 (ninc (cne ho2 hpm (by simp)) nin0)
                    have ho3 := fxp _ _ ho3 (ninc (cne ho3 hpm (by simp)) nin0)
                    have ho4 := fxp _ _ ho4 (ninc (cne ho4 hpm (by simp)) nin0)
                    have hp := fxp _ _ hp (ninc (cne hp hpm (by simp)) nin0)
                    have hpk := fxp _ _ hpk (ninc (cne hpk hpm (by simp)) nin0)
                    have fx := fx.call fxp (fun z hz => Or.inr (fun b e hb9 => by simp at hz; subst hz; exact Nat.ne_of_lt (lo9 b e hb9)))
                    refine ev_goto (tgt := 132) d_CB_twoPoint_110 rfl ?_
                    refine ev_astore (L' := [(0, .ref x), (1, .int (iZ a)), (2, .int (iZ c)), (3, .int (iZ b)), (4, .int (iZ d)), (5, .ref q13)]) d_CB_twoPoint_132 (by decide) rfl ?_
                    refine ev_iconst (v := iZ 0) d_CB_twoPoint_134 rfl ?_
                    refine ev_istore (L' := [(0, .ref x), (1, .int (iZ a)), (2, .int (iZ c)), (3, .int (iZ b)), (4, .int (iZ d)), (5, .ref q13), (6, .int (iZ 0))]) d_CB_twoPoint_135 (by decide) rfl ?_
                    refine ev_iload d_CB_twoPoint_137 rfl ?_
                    refine ev_aload_n d_CB_twoPoint_139 rfl rfl ?_
                    refine ev_get d_CB_twoPoint_140 fl_CB_33 hx rfl ?_
                    refine ev_get d_CB_twoPoint_143 fl_CB_112 ho rfl ?_
                    refine ez_icmp_ge (tgt := 215) (by decide) (by decide) d_CB_twoPoint_146 rfl (fun c146 => ?_) (fun c146 => absurd c146 (by omega))
                    refine ev_aload_n d_CB_twoPoint_215 rfl rfl ?_
                    refine ev_get d_CB_twoPoint_216 fl_CB_40 hx rfl ?_
                    refine ev_aload_n d_CB_twoPoint_219 rfl rfl ?_
                    refine ev_get d_CB_twoPoint_220 fl_CB_33 hx rfl ?_
                    refine ev_callV M_Pa_keep ({ frames := 2, cells := 5, slots := 1077, locals := 61 }) _ (As := [.ref xo]) (c_Pa_keepN G h15 xp pk xo o1 o2 o3 o4 (fun _ => none) 0 0 0 _ _ _ _ hp hpk ho ho1 ho2 ho3 ho4 (by decide) (by decide) (by decide) rfl n_o) d_CB_twoPoint_223 mk_Pa_keep ml_CB_103 mv_Pa_keep hp rfl rfl rfl (Nat.le_of_ble_eq_true rfl) ⟨by decide, by decide⟩ ⟨by decide, by decide⟩ (fun r h16 hq => ?_)
                    obtain ⟨rfl, kq, kq1, kq2, kq3, kq4, ltq, _, _, _, _, _, _, _, _, _, _, _, fxk⟩ := hq
                    have hx := fxk _ _ hx (ninc (cne hx hp (by simp)) (ninc (cne hx hpk (by simp)) nin0))
                    have hf := fxk _ _ hf (ninc (cne hf hp (by simp)) (ninc (cne hf hpk (by simp)) nin0))
                    have ho := fxk _ _ ho (ninc (cne ho hp (by simp)) (ninc (cne ho hpk (by simp)) nin0))
                    have ho1 := fxk _ _ ho1 (ninc (cne ho1 hp (by simp)) (ninc (cne ho1 hpk (by simp)) nin0))
                    have ho2 := fxk _ _ ho2 (ninc (cne ho2 hp (by simp)) (ninc (cne ho2 hpk (by simp)) nin0))
                    have ho3 := fxk _ _ ho3 (ninc (cne ho3 hp (by simp)) (ninc (cne ho3 hpk (by simp)) nin0))
                    have ho4 := fxk _ _ ho4 (ninc (cne ho4 hp (by simp)) (ninc (cne ho4 hpk (by simp)) nin0))
                    have fx := fx.call fxk (fun z hz => Or.inl (by simp at hz ⊢; rcases hz with rfl | rfl <;> simp))
                    refine ev_iconst (v := iZ 0) d_CB_twoPoint_226 rfl ?_
                    refine ev_istore (L' := [(0, .ref x), (1, .int (iZ a)), (2, .int (iZ c)), (3, .int (iZ b)), (4, .int (iZ d)), (5, .ref q13), (6, .int (iZ 0))]) d_CB_twoPoint_227 (by decide) rfl ?_
                    refine ev_iload d_CB_twoPoint_229 rfl ?_
                    refine ev_aload_n d_CB_twoPoint_231 rfl rfl ?_
                    refine ev_get d_CB_twoPoint_232 fl_CB_33 hx rfl ?_
                    refine ev_get d_CB_twoPoint_235 fl_CB_112 ho rfl ?_
                    refine ez_icmp_ge (tgt := 297) (by decide) (by decide) d_CB_twoPoint_238 rfl (fun c238 => ?_) (fun c238 => absurd c238 (by omega))
                    refine ev_iconst (v := iZ 1) d_CB_twoPoint_297 rfl ?_
                    exact ev_zreturn d_CB_twoPoint_298 rfl (Or.inr rfl) (by decide) (by decide) (⟨by rw [show (tpZ a c b d : Int) = 1 from by unfold tpZ; split <;> omega], fx⟩)
        · have z44 := holdZ_0 c44
          refine ev_iconst (v := iZ 0) d_CB_twoPoint_47 rfl ?_
          exact ev_zreturn d_CB_twoPoint_48 rfl (Or.inl rfl) (by decide) (by decide) (⟨by rw [show (tpZ a c b d : Int) = 0 from by unfold tpZ; split <;> omega], fx⟩)
    · have z19 := holdZ_0 c19
      refine ev_iconst (v := iZ 0) d_CB_twoPoint_22 rfl ?_
      exact ev_zreturn d_CB_twoPoint_23 rfl (Or.inl rfl) (by decide) (by decide) (⟨by rw [show (tpZ a c b d : Int) = 0 from by unfold tpZ; split <;> omega], fx⟩)
set_option maxHeartbeats 4000000 in
set_option maxRecDepth 100000 in
theorem c_Mo_isCue (G : GT) (h : HM) (σ : Nat → Value) (m : Nat) (n i : Int) (hm : h m = some (.inr (11, fsN 34 σ))) (f4 : σ 4 = .int (iZ n)) (hn : 0 ≤ n ∧ n ≤ 16) (hi : iR i) : Rn G M_Mo_isCue (rm 0 0) [.ref m, .int (iZ i)] h (Pu (.int (iZ (hasZ n i))) h) := by
  refine rn_of (by decide) (Nat.le_of_ble_eq_true rfl) ?_
  show Ev G M_Mo_isCue _ _ 0 [(0, .ref m), (1, .int (iZ i))] [] _ 0 0
  refine ev_iload_n d_Mo_isCue_0 rfl rfl ?_
  refine ez_if_lt (tgt := 16) (by omega) d_Mo_isCue_1 rfl (fun c1 => ?_) (fun c1 => ?_)
  · refine ev_iconst (v := iZ 0) d_Mo_isCue_16 rfl ?_
    exact ev_zreturn d_Mo_isCue_17 rfl (Or.inl rfl) (by decide) (by decide) (⟨by rw [show (hasZ n i : Int) = 0 from by unfold hasZ; (repeat' split) <;> omega], rfl⟩)
  · refine ev_iload_n d_Mo_isCue_4 rfl rfl ?_
    refine ev_aload_n d_Mo_isCue_5 rfl rfl ?_
    refine ev_getF d_Mo_isCue_6 fl_Mo_92 hm (by decide) f4 ?_
    refine ez_icmp_ge (tgt := 16) (by omega) (by omega) d_Mo_isCue_9 rfl (fun c9 => ?_) (fun c9 => ?_)
    · refine ev_iconst (v := iZ 0) d_Mo_isCue_16 rfl ?_
      exact ev_zreturn d_Mo_isCue_17 rfl (Or.inl rfl) (by decide) (by decide) (⟨by rw [show (hasZ n i : Int) = 0 from by unfold hasZ; (repeat' split) <;> omega], rfl⟩)
    · refine ev_iconst (v := iZ 1) d_Mo_isCue_12 rfl ?_
      refine ev_goto (tgt := 17) d_Mo_isCue_13 rfl ?_
      exact ev_zreturn d_Mo_isCue_17 rfl (Or.inr rfl) (by decide) (by decide) (⟨by rw [show (hasZ n i : Int) = 1 from by unfold hasZ; (repeat' split) <;> omega], rfl⟩)
set_option maxHeartbeats 4000000 in
set_option maxRecDepth 100000 in
theorem c_Mo_isTime (G : GT) (h : HM) (m : Nat) (t : Int) (ht : lR t) : Rn G M_Mo_isTime (rm 0 0) [.ref m, .long (lZ t)] h (Pu (.int (iZ (timeZ t))) h) := by
  refine rn_of (by decide) (Nat.le_of_ble_eq_true rfl) ?_
  show Ev G M_Mo_isTime _ _ 0 [(0, .ref m), (1, .long (lZ t))] [] _ 0 0
  refine ev_lload_n d_Mo_isTime_0 rfl rfl ?_
  refine ev_lconst (v := lZ 0) d_Mo_isTime_1 rfl ?_
  refine ev_lcmp d_Mo_isTime_2 ?_
  refine ez_lif_lt (tgt := 18) (by omega) (by decide) d_Mo_isTime_3 rfl (fun c3 => ?_) (fun c3 => ?_)
  · refine ev_iconst (v := iZ 0) d_Mo_isTime_18 rfl ?_
    exact ev_zreturn d_Mo_isTime_19 rfl (Or.inl rfl) (by decide) (by decide) (⟨by rw [show (timeZ t : Int) = 0 from by unfold timeZ; (repeat' split) <;> omega], rfl⟩)
  · refine ev_lload_n d_Mo_isTime_6 rfl rfl ?_
    refine ev_ldc2 (v := lZ 2540160000000) d_Mo_isTime_7 kc_Mo_171 ?_
    refine ev_lcmp d_Mo_isTime_10 ?_
    refine ez_lif_gt (tgt := 18) (by omega) (by decide) d_Mo_isTime_11 rfl (fun c11 => ?_) (fun c11 => ?_)
    · refine ev_iconst (v := iZ 0) d_Mo_isTime_18 rfl ?_
      exact ev_zreturn d_Mo_isTime_19 rfl (Or.inl rfl) (by decide) (by decide) (⟨by rw [show (timeZ t : Int) = 0 from by unfold timeZ; (repeat' split) <;> omega], rfl⟩)
    · refine ev_iconst (v := iZ 1) d_Mo_isTime_14 rfl ?_
      refine ev_goto (tgt := 19) d_Mo_isTime_15 rfl ?_
      exact ev_zreturn d_Mo_isTime_19 rfl (Or.inr rfl) (by decide) (by decide) (⟨by rw [show (timeZ t : Int) = 1 from by unfold timeZ; (repeat' split) <;> omega], rfl⟩)
set_option maxHeartbeats 4000000 in
set_option maxRecDepth 100000 in
theorem c_Mo_frame (G : GT) (h : HM) (σ : Nat → Value) (m : Nat) (num den : Int) (hm : h m = some (.inr (11, fsN 34 σ))) (f2 : σ 2 = .int (iZ num)) (f3 : σ 3 = .int (iZ den)) (hn : 1 ≤ num ∧ num ≤ 120000) (hd : 1 ≤ den ∧ den ≤ 1001) : Rn G M_Mo_frame (rm 0 0) [.ref m] h (Pu (.long (lZ (705600000 * den / num))) h) := by
  refine rn_of (by decide) (Nat.le_of_ble_eq_true rfl) ?_
  show Ev G M_Mo_frame _ _ 0 [(0, .ref m)] [] _ 0 0
  refine ev_ldc2 (v := lZ 705600000) d_Mo_frame_0 kc_Mo_86 ?_
  refine ev_aload_n d_Mo_frame_3 rfl rfl ?_
  refine ev_getF d_Mo_frame_4 fl_Mo_17 hm (by decide) f3 ?_
  refine ez_i2l (by omega) d_Mo_frame_7 ?_
  refine ez_lmul d_Mo_frame_8 ?_
  refine ev_aload_n d_Mo_frame_9 rfl rfl ?_
  refine ev_getF d_Mo_frame_10 fl_Mo_13 hm (by decide) f2 ?_
  refine ez_i2l (by omega) d_Mo_frame_13 ?_
  refine ez_ldiv (by omega) (by omega) (by omega) (by omega) d_Mo_frame_14 ?_
  exact ev_lreturn d_Mo_frame_15 rfl (by decide) (by decide) (⟨rfl, rfl⟩)
set_option maxHeartbeats 4000000 in
set_option maxRecDepth 100000 in
theorem f_Mo_read (G : GT) (h : HM) (σ : Nat → Value) (m s1 s2 s3 s4 k0 k1 k2 k3 k4 : Nat) (f : Int) (hm : h m = some (.inr (11, fsN 34 σ))) (f0 : σ 0 = .int (iZ 0)) (f2 : σ 2 = .int (iZ 25)) (f3 : σ 3 = .int (iZ 1)) (f4 : σ 4 = .int (iZ 0)) (f5 : σ 5 = .ref s1) (f6 : σ 6 = .ref s2) (f7 : σ 7 = .ref s3) (f8 : σ 8 = .ref s4) (f11 : σ 11 = .ref k0) (f12 : σ 12 = .ref k1) (f13 : σ 13 = .ref k2) (f14 : σ 14 = .ref k3) (f15 : σ 15 = .ref k4) (f9 : σ 9 = .int (iZ 0)) (f10 : σ 10 = .int (iZ 0)) (f16 : σ 16 = .int (iZ 0)) (f17 : σ 17 = .int (iZ 0)) (f18 : σ 18 = .int (iZ 0)) (f23 : σ 23 = .int (iZ 0)) (f24 : σ 24 = .int (iZ 0)) (hs1 : h s1 = some (.inl (G_j G, 16, .inr (.inl (lA (fun _ => 0)))))) (hs2 : h s2 = some (.inl (G_j G, 16, .inr (.inl (lA (fun _ => 0)))))) (hs3 : h s3 = some (.inl (G_i G, 16, .inl (iA (fun _ => 0))))) (hs4 : h s4 = some (.inl (G_i G, 1024, .inl (iA (fun _ => 0))))) (hk0 : h k0 = some (.inl (G_i G, 10, .inl (iA (fun _ => 0))))) (hk1 : h k1 = some (.inl (G_j G, 160, .inr (.inl (lA (fun _ => 0)))))) (hk2 : h k2 = some (.inl (G_j G, 160, .inr (.inl (lA (fun _ => 0)))))) (hk3 : h k3 = some (.inl (G_i G, 160, .inl (iA (fun _ => 0))))) (hk4 : h k4 = some (.inl (G_i G, 10240, .inl (iA (fun _ => 0))))) (n_s : s1 ≠ s2) (n_k : k1 ≠ k2) (g0 : iR f) : Rn G M_Mo_read (rm 1 30) [.ref m, .int (iZ f)] h (fun r _ => r = some (.int (iZ (okF f)))) := by
  refine rn_of (by decide) (Nat.le_of_ble_eq_true rfl) ?_
  show Ev G M_Mo_read _ _ 0 [(0, .ref m), (1, .int (iZ f))] [] _ 0 0
  refine ev_iload_n d_Mo_read_0 rfl rfl ?_
  refine ez_if_lt (tgt := 9) (by omega) d_Mo_read_1 rfl (fun c1 => ?_) (fun c1 => ?_)
  · refine ev_bipush (v := iZ (-2)) d_Mo_read_9 rfl ?_
    exact ev_ireturn d_Mo_read_11 rfl (by decide) (by decide) (by rw [show (okF f : Int) = (-2) from by unfold okF; split <;> omega])
  · refine ev_iload_n d_Mo_read_4 rfl rfl ?_
    refine ev_iconst (v := iZ 2) d_Mo_read_5 rfl ?_
    refine ez_icmp_le (tgt := 12) (by omega) (by decide) d_Mo_read_6 rfl (fun c6 => ?_) (fun c6 => ?_)
    · refine ev_aload_n d_Mo_read_12 rfl rfl ?_
      refine ev_iconst (v := iZ 0) d_Mo_read_13 rfl ?_
      refine ev_putF2 d_Mo_read_14 fw_Mo_110 (Or.inr (fun _ _ _ q => by cases q; rfl)) hm (by decide) rfl rfl (fun h1 σ2 h1a σ2j σ2o h1o => ?_)
      have f0 := (σ2o 0 (by decide)).trans f0
      have f2 := (σ2o 2 (by decide)).trans f2
      have f3 := (σ2o 3 (by decide)).trans f3
      have f4 := (σ2o 4 (by decide)).trans f4
      have f5 := (σ2o 5 (by decide)).trans f5
      have f6 := (σ2o 6 (by decide)).trans f6
      have f7 := (σ2o 7 (by decide)).trans f7
      have f8 := (σ2o 8 (by decide)).trans f8
      have f9 := (σ2o 9 (by decide)).trans f9
      have f10 := (σ2o 10 (by decide)).trans f10
      have f11 := (σ2o 11 (by decide)).trans f11
      have f12 := (σ2o 12 (by decide)).trans f12
      have f13 := (σ2o 13 (by decide)).trans f13
      have f14 := (σ2o 14 (by decide)).trans f14
      have f15 := (σ2o 15 (by decide)).trans f15
      have f17 := (σ2o 17 (by decide)).trans f17
      have f18 := (σ2o 18 (by decide)).trans f18
      have f23 := (σ2o 23 (by decide)).trans f23
      have f24 := (σ2o 24 (by decide)).trans f24
      have f16 := σ2j
      have hs1 := (h1o _ (cne hs1 hm (by simp))).trans hs1
      have hs2 := (h1o _ (cne hs2 hm (by simp))).trans hs2
      have hs3 := (h1o _ (cne hs3 hm (by simp))).trans hs3
      have hs4 := (h1o _ (cne hs4 hm (by simp))).trans hs4
      have hk0 := (h1o _ (cne hk0 hm (by simp))).trans hk0
      have hk1 := (h1o _ (cne hk1 hm (by simp))).trans hk1
      have hk2 := (h1o _ (cne hk2 hm (by simp))).trans hk2
      have hk3 := (h1o _ (cne hk3 hm (by simp))).trans hk3
      have hk4 := (h1o _ (cne hk4 hm (by simp))).trans hk4
      have hm := h1a
      refine ev_aload_n d_Mo_read_17 rfl rfl ?_
      refine ev_iconst (v := iZ (-1)) d_Mo_read_18 rfl ?_
      refine ev_putF2 d_Mo_read_19 fw_Mo_107 (Or.inr (fun _ _ _ q => by cases q; rfl)) hm (by decide) rfl rfl (fun h3 σ4 h3a σ4j σ4o h3o => ?_)
      have f0 := (σ4o 0 (by decide)).trans f0
      have f2 := (σ4o 2 (by decide)).trans f2
      have f3 := (σ4o 3 (by decide)).trans f3
      have f4 := (σ4o 4 (by decide)).trans f4
      have f5 := (σ4o 5 (by decide)).trans f5
      have f6 := (σ4o 6 (by decide)).trans f6
      have f7 := (σ4o 7 (by decide)).trans f7
      have f8 := (σ4o 8 (by decide)).trans f8
      have f9 := (σ4o 9 (by decide)).trans f9
      have f10 := (σ4o 10 (by decide)).trans f10
      have f11 := (σ4o 11 (by decide)).trans f11
      have f12 := (σ4o 12 (by decide)).trans f12
      have f13 := (σ4o 13 (by decide)).trans f13
      have f14 := (σ4o 14 (by decide)).trans f14
      have f15 := (σ4o 15 (by decide)).trans f15
      have f16 := (σ4o 16 (by decide)).trans f16
      have f18 := (σ4o 18 (by decide)).trans f18
      have f23 := (σ4o 23 (by decide)).trans f23
      have f24 := (σ4o 24 (by decide)).trans f24
      have f17 := σ4j
      have hs1 := (h3o _ (cne hs1 hm (by simp))).trans hs1
      have hs2 := (h3o _ (cne hs2 hm (by simp))).trans hs2
      have hs3 := (h3o _ (cne hs3 hm (by simp))).trans hs3
      have hs4 := (h3o _ (cne hs4 hm (by simp))).trans hs4
      have hk0 := (h3o _ (cne hk0 hm (by simp))).trans hk0
      have hk1 := (h3o _ (cne hk1 hm (by simp))).trans hk1
      have hk2 := (h3o _ (cne hk2 hm (by simp))).trans hk2
      have hk3 := (h3o _ (cne hk3 hm (by simp))).trans hk3
      have hk4 := (h3o _ (cne hk4 hm (by simp))).trans hk4
      have hm := h3a
      refine ev_aload_n d_Mo_read_22 rfl rfl ?_
      refine ev_iconst (v := iZ 0) d_Mo_read_23 rfl ?_
      refine ev_putF2 d_Mo_read_24 fw_Mo_140 (Or.inr (fun _ _ _ q => by cases q; rfl)) hm (by decide) rfl rfl (fun h5 σ6 h5a σ6j σ6o h5o => ?_)
      have f0 := (σ6o 0 (by decide)).trans f0
      have f2 := (σ6o 2 (by decide)).trans f2
      have f3 := (σ6o 3 (by decide)).trans f3
      have f4 := (σ6o 4 (by decide)).trans f4
      have f5 := (σ6o 5 (by decide)).trans f5
      have f6 := (σ6o 6 (by decide)).trans f6
      have f7 := (σ6o 7 (by decide)).trans f7
      have f8 := (σ6o 8 (by decide)).trans f8
      have f9 := (σ6o 9 (by decide)).trans f9
      have f10 := (σ6o 10 (by decide)).trans f10
      have f11 := (σ6o 11 (by decide)).trans f11
      have f12 := (σ6o 12 (by decide)).trans f12
      have f13 := (σ6o 13 (by decide)).trans f13
      have f14 := (σ6o 14 (by decide)).trans f14
      have f15 := (σ6o 15 (by decide)).trans f15
      have f16 := (σ6o 16 (by decide)).trans f16
      have f17 := (σ6o 17 (by decide)).trans f17
      have f23 := (σ6o 23 (by decide)).trans f23
      have f24 := (σ6o 24 (by decide)).trans f24
      have f18 := σ6j
      have hs1 := (h5o _ (cne hs1 hm (by simp))).trans hs1
      have hs2 := (h5o _ (cne hs2 hm (by simp))).trans hs2
      have hs3 := (h5o _ (cne hs3 hm (by simp))).trans hs3
      have hs4 := (h5o _ (cne hs4 hm (by simp))).trans hs4
      have hk0 := (h5o _ (cne hk0 hm (by simp))).trans hk0
      have hk1 := (h5o _ (cne hk1 hm (by simp))).trans hk1
      have hk2 := (h5o _ (cne hk2 hm (by simp))).trans hk2
      have hk3 := (h5o _ (cne hk3 hm (by simp))).trans hk3
      have hk4 := (h5o _ (cne hk4 hm (by simp))).trans hk4
      have hm := h5a
      refine ev_aload_n d_Mo_read_27 rfl rfl ?_
      refine ev_getF d_Mo_read_28 fl_Mo_110 hm (by decide) f16 ?_
      refine ev_aload_n d_Mo_read_31 rfl rfl ?_
      refine ev_getF d_Mo_read_32 fl_Mo_95 hm (by decide) f0 ?_
      refine ez_icmp_ge (tgt := 53) (by decide) (by decide) d_Mo_read_35 rfl (fun c35 => ?_) (fun c35 => absurd c35 (by omega))
      refine ev_aload_n d_Mo_read_53 rfl rfl ?_
      refine ev_getF d_Mo_read_54 fl_Mo_107 hm (by decide) f17 ?_
      refine ez_if_lt (tgt := 68) (by decide) d_Mo_read_57 rfl (fun c57 => ?_) (fun c57 => absurd c57 (by omega))
      refine ev_aload_n d_Mo_read_68 rfl rfl ?_
      refine ev_callV M_Mo_keep (rm 0 0) _ (As := []) (c_Mo_keep G h5 σ6 m s1 s2 s3 s4 k0 k1 k2 k3 k4 0 0 0 _ _ _ _ _ _ _ _ _ hm f4 f5 f6 f7 f8 f9 f10 f11 f12 f13 f14 f15 hs1 hs2 hs3 hs4 hk0 hk1 hk2 hk3 hk4 (by decide) (by decide) n_s n_k) d_Mo_read_69 mk_Mo_keep ml_Mo_176 mv_Mo_keep hm rfl rfl rfl (Nat.le_of_ble_eq_true rfl) ⟨by decide, by decide⟩ ⟨by decide, by decide⟩ (fun r h7 hq => ?_)
      obtain ⟨rfl, ⟨σ8, hm, _, _, fs2⟩, _, _, _, _, _, _⟩ := hq
      have f0 := (fs2 0 (by decide)).trans f0
      have f2 := (fs2 2 (by decide)).trans f2
      have f3 := (fs2 3 (by decide)).trans f3
      have f4 := (fs2 4 (by decide)).trans f4
      have f5 := (fs2 5 (by decide)).trans f5
      have f6 := (fs2 6 (by decide)).trans f6
      have f7 := (fs2 7 (by decide)).trans f7
      have f8 := (fs2 8 (by decide)).trans f8
      have f11 := (fs2 11 (by decide)).trans f11
      have f12 := (fs2 12 (by decide)).trans f12
      have f13 := (fs2 13 (by decide)).trans f13
      have f14 := (fs2 14 (by decide)).trans f14
      have f15 := (fs2 15 (by decide)).trans f15
      have f16 := (fs2 16 (by decide)).trans f16
      have f17 := (fs2 17 (by decide)).trans f17
      have f18 := (fs2 18 (by decide)).trans f18
      have f23 := (fs2 23 (by decide)).trans f23
      have f24 := (fs2 24 (by decide)).trans f24
      refine ev_aload_n d_Mo_read_72 rfl rfl ?_
      refine ev_aload_n d_Mo_read_73 rfl rfl ?_
      refine ev_getF d_Mo_read_74 fl_Mo_140 hm (by decide) f18 ?_
      refine ev_putF2 d_Mo_read_77 fw_Mo_92 (Or.inr (fun _ _ _ q => by cases q; rfl)) hm (by decide) rfl rfl (fun h9 σ10 h9a σ10j σ10o h9o => ?_)
      have f0 := (σ10o 0 (by decide)).trans f0
      have f2 := (σ10o 2 (by decide)).trans f2
      have f3 := (σ10o 3 (by decide)).trans f3
      have f5 := (σ10o 5 (by decide)).trans f5
      have f6 := (σ10o 6 (by decide)).trans f6
      have f7 := (σ10o 7 (by decide)).trans f7
      have f8 := (σ10o 8 (by decide)).trans f8
      have f11 := (σ10o 11 (by decide)).trans f11
      have f12 := (σ10o 12 (by decide)).trans f12
      have f13 := (σ10o 13 (by decide)).trans f13
      have f14 := (σ10o 14 (by decide)).trans f14
      have f15 := (σ10o 15 (by decide)).trans f15
      have f16 := (σ10o 16 (by decide)).trans f16
      have f17 := (σ10o 17 (by decide)).trans f17
      have f18 := (σ10o 18 (by decide)).trans f18
      have f23 := (σ10o 23 (by decide)).trans f23
      have f24 := (σ10o 24 (by decide)).trans f24
      have f4 := σ10j
      have hm := h9a
      refine ev_iconst (v := iZ 0) d_Mo_read_80 rfl ?_
      refine ev_istore_n (L' := [(0, .ref m), (1, .int (iZ f)), (2, .int (iZ 0))]) d_Mo_read_81 rfl (by decide) rfl ?_
      refine ev_iload_n d_Mo_read_82 rfl rfl ?_
      refine ev_aload_n d_Mo_read_83 rfl rfl ?_
      refine ev_getF d_Mo_read_84 fl_Mo_92 hm (by decide) f4 ?_
      refine ez_icmp_ge (tgt := 172) (by decide) (by decide) d_Mo_read_87 rfl (fun c87 => ?_) (fun c87 => absurd c87 (by omega))
      refine ev_aload_n d_Mo_read_172 rfl rfl ?_
      refine ev_getF d_Mo_read_173 fl_Mo_92 hm (by decide) f4 ?_
      exact ev_ireturn d_Mo_read_176 rfl (by decide) (by decide) (by rw [show (okF f : Int) = 0 from by unfold okF; split <;> omega])
    · refine ev_bipush (v := iZ (-2)) d_Mo_read_9 rfl ?_
      exact ev_ireturn d_Mo_read_11 rfl (by decide) (by decide) (by rw [show (okF f : Int) = (-2) from by unfold okF; split <;> omega])
set_option maxHeartbeats 4000000 in
set_option maxRecDepth 100000 in
theorem f_Mo_write (G : GT) (h : HM) (σ : Nat → Value) (m s1 s2 s3 s4 k0 k1 k2 k3 k4 : Nat) (f : Int) (hm : h m = some (.inr (11, fsN 34 σ))) (f0 : σ 0 = .int (iZ 0)) (f2 : σ 2 = .int (iZ 25)) (f3 : σ 3 = .int (iZ 1)) (f4 : σ 4 = .int (iZ 0)) (f5 : σ 5 = .ref s1) (f6 : σ 6 = .ref s2) (f7 : σ 7 = .ref s3) (f8 : σ 8 = .ref s4) (f11 : σ 11 = .ref k0) (f12 : σ 12 = .ref k1) (f13 : σ 13 = .ref k2) (f14 : σ 14 = .ref k3) (f15 : σ 15 = .ref k4) (f9 : σ 9 = .int (iZ 0)) (f10 : σ 10 = .int (iZ 0)) (f16 : σ 16 = .int (iZ 0)) (f17 : σ 17 = .int (iZ 0)) (f18 : σ 18 = .int (iZ 0)) (f23 : σ 23 = .int (iZ 0)) (f24 : σ 24 = .int (iZ 0))  (g0 : iR f) : Rn G M_Mo_write (rm 1 30) [.ref m, .int (iZ f)] h (fun r _ => r = some (.int (iZ (okF f)))) := by
  refine rn_of (by decide) (Nat.le_of_ble_eq_true rfl) ?_
  show Ev G M_Mo_write _ _ 0 [(0, .ref m), (1, .int (iZ f))] [] _ 0 0
  refine ev_iload_n d_Mo_write_0 rfl rfl ?_
  refine ez_if_lt (tgt := 9) (by omega) d_Mo_write_1 rfl (fun c1 => ?_) (fun c1 => ?_)
  · refine ev_bipush (v := iZ (-2)) d_Mo_write_9 rfl ?_
    exact ev_ireturn d_Mo_write_11 rfl (by decide) (by decide) (by rw [show (okF f : Int) = (-2) from by unfold okF; split <;> omega])
  · refine ev_iload_n d_Mo_write_4 rfl rfl ?_
    refine ev_iconst (v := iZ 2) d_Mo_write_5 rfl ?_
    refine ez_icmp_le (tgt := 12) (by omega) (by decide) d_Mo_write_6 rfl (fun c6 => ?_) (fun c6 => ?_)
    · refine ev_iconst (v := iZ 0) d_Mo_write_12 rfl ?_
      refine ev_istore_n (L' := [(0, .ref m), (1, .int (iZ f)), (2, .int (iZ 0))]) d_Mo_write_13 rfl (by decide) rfl ?_
      refine ev_iload_n d_Mo_write_14 rfl rfl ?_
      refine ev_iconst (v := iZ 2) d_Mo_write_15 rfl ?_
      refine ez_icmp_ge (tgt := 78) (by decide) (by decide) d_Mo_write_16 rfl (fun c16 => absurd c16 (by omega)) (fun c16 => ?_)
      refine ev_aload_n d_Mo_write_19 rfl rfl ?_
      refine ev_iload_n d_Mo_write_20 rfl rfl ?_
      refine ez_if_ne (tgt := 28) (by decide) d_Mo_write_21 rfl (fun c21 => absurd c21 (by omega)) (fun c21 => ?_)
      refine ev_iconst (v := iZ 1) d_Mo_write_24 rfl ?_
      refine ev_goto (tgt := 29) d_Mo_write_25 rfl ?_
      refine ev_putF2 d_Mo_write_29 fw_Mo_179 (Or.inr (fun _ _ _ q => by cases q; rfl)) hm (by decide) rfl rfl (fun h1 σ2 h1a σ2j σ2o h1o => ?_)
      have f0 := (σ2o 0 (by decide)).trans f0
      have f2 := (σ2o 2 (by decide)).trans f2
      have f3 := (σ2o 3 (by decide)).trans f3
      have f4 := (σ2o 4 (by decide)).trans f4
      have f5 := (σ2o 5 (by decide)).trans f5
      have f6 := (σ2o 6 (by decide)).trans f6
      have f7 := (σ2o 7 (by decide)).trans f7
      have f8 := (σ2o 8 (by decide)).trans f8
      have f9 := (σ2o 9 (by decide)).trans f9
      have f10 := (σ2o 10 (by decide)).trans f10
      have f11 := (σ2o 11 (by decide)).trans f11
      have f12 := (σ2o 12 (by decide)).trans f12
      have f13 := (σ2o 13 (by decide)).trans f13
      have f14 := (σ2o 14 (by decide)).trans f14
      have f15 := (σ2o 15 (by decide)).trans f15
      have f16 := (σ2o 16 (by decide)).trans f16
      have f17 := (σ2o 17 (by decide)).trans f17
      have f18 := (σ2o 18 (by decide)).trans f18
      have f23 := (σ2o 23 (by decide)).trans f23
      have f24 := σ2j
      have hm := h1a
      refine ev_aload_n d_Mo_write_32 rfl rfl ?_
      refine ev_iconst (v := iZ 0) d_Mo_write_33 rfl ?_
      refine ev_putF2 d_Mo_write_34 fw_Mo_183 (Or.inr (fun _ _ _ q => by cases q; rfl)) hm (by decide) rfl rfl (fun h3 σ4 h3a σ4j σ4o h3o => ?_)
      have f0 := (σ4o 0 (by decide)).trans f0
      have f2 := (σ4o 2 (by decide)).trans f2
      have f3 := (σ4o 3 (by decide)).trans f3
      have f4 := (σ4o 4 (by decide)).trans f4
      have f5 := (σ4o 5 (by decide)).trans f5
      have f6 := (σ4o 6 (by decide)).trans f6
      have f7 := (σ4o 7 (by decide)).trans f7
      have f8 := (σ4o 8 (by decide)).trans f8
      have f9 := (σ4o 9 (by decide)).trans f9
      have f10 := (σ4o 10 (by decide)).trans f10
      have f11 := (σ4o 11 (by decide)).trans f11
      have f12 := (σ4o 12 (by decide)).trans f12
      have f13 := (σ4o 13 (by decide)).trans f13
      have f14 := (σ4o 14 (by decide)).trans f14
      have f15 := (σ4o 15 (by decide)).trans f15
      have f16 := (σ4o 16 (by decide)).trans f16
      have f17 := (σ4o 17 (by decide)).trans f17
      have f18 := (σ4o 18 (by decide)).trans f18
      have f24 := (σ4o 24 (by decide)).trans f24
      have f23 := σ4j
      have hm := h3a
      refine ev_iconst (v := iZ 0) d_Mo_write_37 rfl ?_
      refine ev_istore_n (L' := [(0, .ref m), (1, .int (iZ f)), (2, .int (iZ 0)), (3, .int (iZ 0))]) d_Mo_write_38 rfl (by decide) rfl ?_
      refine ev_iload_n d_Mo_write_39 rfl rfl ?_
      refine ev_aload_n d_Mo_write_40 rfl rfl ?_
      refine ev_getF d_Mo_write_41 fl_Mo_92 hm (by decide) f4 ?_
      refine ez_icmp_ge (tgt := 59) (by decide) (by decide) d_Mo_write_44 rfl (fun c44 => ?_) (fun c44 => absurd c44 (by omega))
      refine ev_aload_n d_Mo_write_59 rfl rfl ?_
      refine ev_getF d_Mo_write_60 fl_Mo_183 hm (by decide) f23 ?_
      refine ev_sipush (v := iZ 1000) d_Mo_write_63 rfl ?_
      refine ez_icmp_le (tgt := 72) (by decide) (by decide) d_Mo_write_66 rfl (fun c66 => ?_) (fun c66 => absurd c66 (by omega))
      refine ez_iinc (L' := [(0, .ref m), (1, .int (iZ f)), (2, .int (iZ 1)), (3, .int (iZ 0))]) d_Mo_write_72 rfl (by decide) rfl ?_
      refine ev_goto (tgt := 14) d_Mo_write_75 rfl ?_
      refine ev_iload_n d_Mo_write_14 rfl rfl ?_
      refine ev_iconst (v := iZ 2) d_Mo_write_15 rfl ?_
      refine ez_icmp_ge (tgt := 78) (by decide) (by decide) d_Mo_write_16 rfl (fun c16 => absurd c16 (by omega)) (fun c16 => ?_)
      refine ev_aload_n d_Mo_write_19 rfl rfl ?_
      refine ev_iload_n d_Mo_write_20 rfl rfl ?_
      refine ez_if_ne (tgt := 28) (by decide) d_Mo_write_21 rfl (fun c21 => ?_) (fun c21 => absurd c21 (by omega))
      refine ev_iconst (v := iZ 0) d_Mo_write_28 rfl ?_
      refine ev_putF2 d_Mo_write_29 fw_Mo_179 (Or.inr (fun _ _ _ q => by cases q; rfl)) hm (by decide) rfl rfl (fun h5 σ6 h5a σ6j σ6o h5o => ?_)
      have f0 := (σ6o 0 (by decide)).trans f0
      have f2 := (σ6o 2 (by decide)).trans f2
      have f3 := (σ6o 3 (by decide)).trans f3
      have f4 := (σ6o 4 (by decide)).trans f4
      have f5 := (σ6o 5 (by decide)).trans f5
      have f6 := (σ6o 6 (by decide)).trans f6
      have f7 := (σ6o 7 (by decide)).trans f7
      have f8 := (σ6o 8 (by decide)).trans f8
      have f9 := (σ6o 9 (by decide)).trans f9
      have f10 := (σ6o 10 (by decide)).trans f10
      have f11 := (σ6o 11 (by decide)).trans f11
      have f12 := (σ6o 12 (by decide)).trans f12
      have f13 := (σ6o 13 (by decide)).trans f13
      have f14 := (σ6o 14 (by decide)).trans f14
      have f15 := (σ6o 15 (by decide)).trans f15
      have f16 := (σ6o 16 (by decide)).trans f16
      have f17 := (σ6o 17 (by decide)).trans f17
      have f18 := (σ6o 18 (by decide)).trans f18
      have f23 := (σ6o 23 (by decide)).trans f23
      have f24 := σ6j
      have hm := h5a
      refine ev_aload_n d_Mo_write_32 rfl rfl ?_
      refine ev_iconst (v := iZ 0) d_Mo_write_33 rfl ?_
      refine ev_putF2 d_Mo_write_34 fw_Mo_183 (Or.inr (fun _ _ _ q => by cases q; rfl)) hm (by decide) rfl rfl (fun h7 σ8 h7a σ8j σ8o h7o => ?_)
      have f0 := (σ8o 0 (by decide)).trans f0
      have f2 := (σ8o 2 (by decide)).trans f2
      have f3 := (σ8o 3 (by decide)).trans f3
      have f4 := (σ8o 4 (by decide)).trans f4
      have f5 := (σ8o 5 (by decide)).trans f5
      have f6 := (σ8o 6 (by decide)).trans f6
      have f7 := (σ8o 7 (by decide)).trans f7
      have f8 := (σ8o 8 (by decide)).trans f8
      have f9 := (σ8o 9 (by decide)).trans f9
      have f10 := (σ8o 10 (by decide)).trans f10
      have f11 := (σ8o 11 (by decide)).trans f11
      have f12 := (σ8o 12 (by decide)).trans f12
      have f13 := (σ8o 13 (by decide)).trans f13
      have f14 := (σ8o 14 (by decide)).trans f14
      have f15 := (σ8o 15 (by decide)).trans f15
      have f16 := (σ8o 16 (by decide)).trans f16
      have f17 := (σ8o 17 (by decide)).trans f17
      have f18 := (σ8o 18 (by decide)).trans f18
      have f24 := (σ8o 24 (by decide)).trans f24
      have f23 := σ8j
      have hm := h7a
      refine ev_iconst (v := iZ 0) d_Mo_write_37 rfl ?_
      refine ev_istore_n (L' := [(0, .ref m), (1, .int (iZ f)), (2, .int (iZ 1)), (3, .int (iZ 0))]) d_Mo_write_38 rfl (by decide) rfl ?_
      refine ev_iload_n d_Mo_write_39 rfl rfl ?_
      refine ev_aload_n d_Mo_write_40 rfl rfl ?_
      refine ev_getF d_Mo_write_41 fl_Mo_92 hm (by decide) f4 ?_
      refine ez_icmp_ge (tgt := 59) (by decide) (by decide) d_Mo_write_44 rfl (fun c44 => ?_) (fun c44 => absurd c44 (by omega))
      refine ev_aload_n d_Mo_write_59 rfl rfl ?_
      refine ev_getF d_Mo_write_60 fl_Mo_183 hm (by decide) f23 ?_
      refine ev_sipush (v := iZ 1000) d_Mo_write_63 rfl ?_
      refine ez_icmp_le (tgt := 72) (by decide) (by decide) d_Mo_write_66 rfl (fun c66 => ?_) (fun c66 => absurd c66 (by omega))
      refine ez_iinc (L' := [(0, .ref m), (1, .int (iZ f)), (2, .int (iZ 2)), (3, .int (iZ 0))]) d_Mo_write_72 rfl (by decide) rfl ?_
      refine ev_goto (tgt := 14) d_Mo_write_75 rfl ?_
      refine ev_iload_n d_Mo_write_14 rfl rfl ?_
      refine ev_iconst (v := iZ 2) d_Mo_write_15 rfl ?_
      refine ez_icmp_ge (tgt := 78) (by decide) (by decide) d_Mo_write_16 rfl (fun c16 => ?_) (fun c16 => absurd c16 (by omega))
      refine ev_aload_n d_Mo_write_78 rfl rfl ?_
      refine ev_aload_n d_Mo_write_79 rfl rfl ?_
      refine ev_getF d_Mo_write_80 fl_Mo_183 hm (by decide) f23 ?_
      refine ev_putF2 d_Mo_write_83 fw_Mo_95 (Or.inr (fun _ _ _ q => by cases q; rfl)) hm (by decide) rfl rfl (fun h9 σ10 h9a σ10j σ10o h9o => ?_)
      have f2 := (σ10o 2 (by decide)).trans f2
      have f3 := (σ10o 3 (by decide)).trans f3
      have f4 := (σ10o 4 (by decide)).trans f4
      have f5 := (σ10o 5 (by decide)).trans f5
      have f6 := (σ10o 6 (by decide)).trans f6
      have f7 := (σ10o 7 (by decide)).trans f7
      have f8 := (σ10o 8 (by decide)).trans f8
      have f9 := (σ10o 9 (by decide)).trans f9
      have f10 := (σ10o 10 (by decide)).trans f10
      have f11 := (σ10o 11 (by decide)).trans f11
      have f12 := (σ10o 12 (by decide)).trans f12
      have f13 := (σ10o 13 (by decide)).trans f13
      have f14 := (σ10o 14 (by decide)).trans f14
      have f15 := (σ10o 15 (by decide)).trans f15
      have f16 := (σ10o 16 (by decide)).trans f16
      have f17 := (σ10o 17 (by decide)).trans f17
      have f18 := (σ10o 18 (by decide)).trans f18
      have f23 := (σ10o 23 (by decide)).trans f23
      have f24 := (σ10o 24 (by decide)).trans f24
      have f0 := σ10j
      have hm := h9a
      refine ev_aload_n d_Mo_write_86 rfl rfl ?_
      refine ev_getF d_Mo_write_87 fl_Mo_95 hm (by decide) f0 ?_
      exact ev_ireturn d_Mo_write_90 rfl (by decide) (by decide) (by rw [show (okF f : Int) = 0 from by unfold okF; split <;> omega])
    · refine ev_bipush (v := iZ (-2)) d_Mo_write_9 rfl ?_
      exact ev_ireturn d_Mo_write_11 rfl (by decide) (by decide) (by rw [show (okF f : Int) = (-2) from by unfold okF; split <;> omega])
set_option maxHeartbeats 4000000 in
set_option maxRecDepth 100000 in
theorem f_Mo_cue (G : GT) (h : HM) (σ : Nat → Value) (m s1 s2 s3 s4 k0 k1 k2 k3 k4 : Nat) (i : Int) (w : Int) (hm : h m = some (.inr (11, fsN 34 σ))) (f0 : σ 0 = .int (iZ 0)) (f2 : σ 2 = .int (iZ 25)) (f3 : σ 3 = .int (iZ 1)) (f4 : σ 4 = .int (iZ 0)) (f5 : σ 5 = .ref s1) (f6 : σ 6 = .ref s2) (f7 : σ 7 = .ref s3) (f8 : σ 8 = .ref s4) (f11 : σ 11 = .ref k0) (f12 : σ 12 = .ref k1) (f13 : σ 13 = .ref k2) (f14 : σ 14 = .ref k3) (f15 : σ 15 = .ref k4) (f9 : σ 9 = .int (iZ 0)) (f10 : σ 10 = .int (iZ 0)) (f16 : σ 16 = .int (iZ 0)) (f17 : σ 17 = .int (iZ 0)) (f18 : σ 18 = .int (iZ 0)) (f23 : σ 23 = .int (iZ 0)) (f24 : σ 24 = .int (iZ 0))  (g0 : iR i) (g1 : iR w) : Rn G M_Mo_cue (rm 1 40) [.ref m, .int (iZ i), .int (iZ w)] h (fun r _ => r = some (.long (lZ (-1)))) := by
  refine rn_of (by decide) (Nat.le_of_ble_eq_true rfl) ?_
  show Ev G M_Mo_cue _ _ 0 [(0, .ref m), (1, .int (iZ i)), (2, .int (iZ w))] [] _ 0 0
  refine ev_aload_n d_Mo_cue_0 rfl rfl ?_
  refine ev_iload_n d_Mo_cue_1 rfl rfl ?_
  refine ev_pV M_Mo_isCue 0 0 (As := [.int (iZ i)]) (c_Mo_isCue G h σ m 0 i hm f4 (by decide) (by omega)) d_Mo_cue_2 mk_Mo_isCue ml_Mo_217 mv_Mo_isCue hm rfl rfl rfl (Nat.le_of_ble_eq_true rfl) ⟨by decide, by decide⟩ ⟨by decide, by decide⟩ ?_
  rw [has0]
  refine ez_if_eq (tgt := 17) (by decide) d_Mo_cue_5 rfl (fun c5 => ?_) (fun c5 => absurd c5 (by omega))
  refine ev_ldc2 (v := lZ (-1)) d_Mo_cue_17 kc_Mo_220 ?_
  exact ev_lreturn d_Mo_cue_20 rfl (by decide) (by decide) (rfl)
set_option maxHeartbeats 4000000 in
set_option maxRecDepth 100000 in
theorem f_Mo_text (G : GT) (h : HM) (σ : Nat → Value) (m s1 s2 s3 s4 k0 k1 k2 k3 k4 : Nat) (i : Int) (j : Int) (hm : h m = some (.inr (11, fsN 34 σ))) (f0 : σ 0 = .int (iZ 0)) (f2 : σ 2 = .int (iZ 25)) (f3 : σ 3 = .int (iZ 1)) (f4 : σ 4 = .int (iZ 0)) (f5 : σ 5 = .ref s1) (f6 : σ 6 = .ref s2) (f7 : σ 7 = .ref s3) (f8 : σ 8 = .ref s4) (f11 : σ 11 = .ref k0) (f12 : σ 12 = .ref k1) (f13 : σ 13 = .ref k2) (f14 : σ 14 = .ref k3) (f15 : σ 15 = .ref k4) (f9 : σ 9 = .int (iZ 0)) (f10 : σ 10 = .int (iZ 0)) (f16 : σ 16 = .int (iZ 0)) (f17 : σ 17 = .int (iZ 0)) (f18 : σ 18 = .int (iZ 0)) (f23 : σ 23 = .int (iZ 0)) (f24 : σ 24 = .int (iZ 0))  (g0 : iR i) (g1 : iR j) : Rn G M_Mo_text (rm 1 40) [.ref m, .int (iZ i), .int (iZ j)] h (fun r _ => r = some (.int (iZ (-1)))) := by
  refine rn_of (by decide) (Nat.le_of_ble_eq_true rfl) ?_
  show Ev G M_Mo_text _ _ 0 [(0, .ref m), (1, .int (iZ i)), (2, .int (iZ j))] [] _ 0 0
  refine ev_aload_n d_Mo_text_0 rfl rfl ?_
  refine ev_iload_n d_Mo_text_1 rfl rfl ?_
  refine ev_pV M_Mo_isCue 0 0 (As := [.int (iZ i)]) (c_Mo_isCue G h σ m 0 i hm f4 (by decide) (by omega)) d_Mo_text_2 mk_Mo_isCue ml_Mo_217 mv_Mo_isCue hm rfl rfl rfl (Nat.le_of_ble_eq_true rfl) ⟨by decide, by decide⟩ ⟨by decide, by decide⟩ ?_
  rw [has0]
  refine ez_if_eq (tgt := 36) (by decide) d_Mo_text_5 rfl (fun c5 => ?_) (fun c5 => absurd c5 (by omega))
  refine ev_iconst (v := iZ (-1)) d_Mo_text_36 rfl ?_
  exact ev_ireturn d_Mo_text_37 rfl (by decide) (by decide) (rfl)
set_option maxHeartbeats 4000000 in
set_option maxRecDepth 100000 in
theorem f_Mo_repair (G : GT) (h : HM) (σ : Nat → Value) (m s1 s2 s3 s4 k0 k1 k2 k3 k4 : Nat)  (hm : h m = some (.inr (11, fsN 34 σ))) (f0 : σ 0 = .int (iZ 0)) (f2 : σ 2 = .int (iZ 25)) (f3 : σ 3 = .int (iZ 1)) (f4 : σ 4 = .int (iZ 0)) (f5 : σ 5 = .ref s1) (f6 : σ 6 = .ref s2) (f7 : σ 7 = .ref s3) (f8 : σ 8 = .ref s4) (f11 : σ 11 = .ref k0) (f12 : σ 12 = .ref k1) (f13 : σ 13 = .ref k2) (f14 : σ 14 = .ref k3) (f15 : σ 15 = .ref k4) (f9 : σ 9 = .int (iZ 0)) (f10 : σ 10 = .int (iZ 0)) (f16 : σ 16 = .int (iZ 0)) (f17 : σ 17 = .int (iZ 0)) (f18 : σ 18 = .int (iZ 0)) (f23 : σ 23 = .int (iZ 0)) (f24 : σ 24 = .int (iZ 0)) (hs1 : h s1 = some (.inl (G_j G, 16, .inr (.inl (lA (fun _ => 0)))))) (hs2 : h s2 = some (.inl (G_j G, 16, .inr (.inl (lA (fun _ => 0)))))) (hs3 : h s3 = some (.inl (G_i G, 16, .inl (iA (fun _ => 0))))) (hs4 : h s4 = some (.inl (G_i G, 1024, .inl (iA (fun _ => 0))))) (hk0 : h k0 = some (.inl (G_i G, 10, .inl (iA (fun _ => 0))))) (hk1 : h k1 = some (.inl (G_j G, 160, .inr (.inl (lA (fun _ => 0)))))) (hk2 : h k2 = some (.inl (G_j G, 160, .inr (.inl (lA (fun _ => 0)))))) (hk3 : h k3 = some (.inl (G_i G, 160, .inl (iA (fun _ => 0))))) (hk4 : h k4 = some (.inl (G_i G, 10240, .inl (iA (fun _ => 0))))) (n_s : s1 ≠ s2) (n_k : k1 ≠ k2)  : Rn G M_Mo_repair (rm 1 30) [.ref m] h (fun r _ => r = some (.int (iZ 0))) := by
  refine rn_of (by decide) (Nat.le_of_ble_eq_true rfl) ?_
  show Ev G M_Mo_repair _ _ 0 [(0, .ref m)] [] _ 0 0
  refine ev_iconst (v := iZ 0) d_Mo_repair_0 rfl ?_
  refine ev_istore_n (L' := [(0, .ref m), (1, .int (iZ 0))]) d_Mo_repair_1 rfl (by decide) rfl ?_
  refine ev_iload_n d_Mo_repair_2 rfl rfl ?_
  refine ev_aload_n d_Mo_repair_3 rfl rfl ?_
  refine ev_getF d_Mo_repair_4 fl_Mo_92 hm (by decide) f4 ?_
  refine ez_icmp_ge (tgt := 29) (by decide) (by decide) d_Mo_repair_7 rfl (fun c7 => ?_) (fun c7 => absurd c7 (by omega))
  refine ev_aload_n d_Mo_repair_29 rfl rfl ?_
  refine ev_callV M_Mo_keep (rm 0 0) _ (As := []) (c_Mo_keep G h σ m s1 s2 s3 s4 k0 k1 k2 k3 k4 0 0 0 _ _ _ _ _ _ _ _ _ hm f4 f5 f6 f7 f8 f9 f10 f11 f12 f13 f14 f15 hs1 hs2 hs3 hs4 hk0 hk1 hk2 hk3 hk4 (by decide) (by decide) n_s n_k) d_Mo_repair_30 mk_Mo_keep ml_Mo_176 mv_Mo_keep hm rfl rfl rfl (Nat.le_of_ble_eq_true rfl) ⟨by decide, by decide⟩ ⟨by decide, by decide⟩ (fun r h1 hq => ?_)
  obtain ⟨rfl, ⟨σ2, hm, _, _, fs2⟩, _, _, _, _, _, _⟩ := hq
  have f0 := (fs2 0 (by decide)).trans f0
  have f2 := (fs2 2 (by decide)).trans f2
  have f3 := (fs2 3 (by decide)).trans f3
  have f4 := (fs2 4 (by decide)).trans f4
  have f5 := (fs2 5 (by decide)).trans f5
  have f6 := (fs2 6 (by decide)).trans f6
  have f7 := (fs2 7 (by decide)).trans f7
  have f8 := (fs2 8 (by decide)).trans f8
  have f11 := (fs2 11 (by decide)).trans f11
  have f12 := (fs2 12 (by decide)).trans f12
  have f13 := (fs2 13 (by decide)).trans f13
  have f14 := (fs2 14 (by decide)).trans f14
  have f15 := (fs2 15 (by decide)).trans f15
  have f16 := (fs2 16 (by decide)).trans f16
  have f17 := (fs2 17 (by decide)).trans f17
  have f18 := (fs2 18 (by decide)).trans f18
  have f23 := (fs2 23 (by decide)).trans f23
  have f24 := (fs2 24 (by decide)).trans f24
  refine ev_aload_n d_Mo_repair_33 rfl rfl ?_
  refine ev_getF d_Mo_repair_34 fl_Mo_92 hm (by decide) f4 ?_
  refine ez_if_ne (tgt := 42) (by decide) d_Mo_repair_37 rfl (fun c37 => absurd c37 (by omega)) (fun c37 => ?_)
  refine ev_iconst (v := iZ 0) d_Mo_repair_40 rfl ?_
  exact ev_ireturn d_Mo_repair_41 rfl (by decide) (by decide) (rfl)
set_option maxHeartbeats 4000000 in
set_option maxRecDepth 100000 in
theorem f_Mo_breakLines (G : GT) (h : HM) (σ : Nat → Value) (m s1 s2 s3 s4 k0 k1 k2 k3 k4 : Nat) (i : Int) (hm : h m = some (.inr (11, fsN 34 σ))) (f0 : σ 0 = .int (iZ 0)) (f2 : σ 2 = .int (iZ 25)) (f3 : σ 3 = .int (iZ 1)) (f4 : σ 4 = .int (iZ 0)) (f5 : σ 5 = .ref s1) (f6 : σ 6 = .ref s2) (f7 : σ 7 = .ref s3) (f8 : σ 8 = .ref s4) (f11 : σ 11 = .ref k0) (f12 : σ 12 = .ref k1) (f13 : σ 13 = .ref k2) (f14 : σ 14 = .ref k3) (f15 : σ 15 = .ref k4) (f9 : σ 9 = .int (iZ 0)) (f10 : σ 10 = .int (iZ 0)) (f16 : σ 16 = .int (iZ 0)) (f17 : σ 17 = .int (iZ 0)) (f18 : σ 18 = .int (iZ 0)) (f23 : σ 23 = .int (iZ 0)) (f24 : σ 24 = .int (iZ 0))  (g0 : iR i) : Rn G M_Mo_breakLines (rm 1 40) [.ref m, .int (iZ i)] h (fun r _ => r = some (.int (iZ (-2)))) := by
  refine rn_of (by decide) (Nat.le_of_ble_eq_true rfl) ?_
  show Ev G M_Mo_breakLines _ _ 0 [(0, .ref m), (1, .int (iZ i))] [] _ 0 0
  refine ev_aload_n d_Mo_breakLines_0 rfl rfl ?_
  refine ev_iload_n d_Mo_breakLines_1 rfl rfl ?_
  refine ev_pV M_Mo_isCue 0 0 (As := [.int (iZ i)]) (c_Mo_isCue G h σ m 0 i hm f4 (by decide) (by omega)) d_Mo_breakLines_2 mk_Mo_isCue ml_Mo_217 mv_Mo_isCue hm rfl rfl rfl (Nat.le_of_ble_eq_true rfl) ⟨by decide, by decide⟩ ⟨by decide, by decide⟩ ?_
  rw [has0]
  refine ez_if_ne (tgt := 11) (by decide) d_Mo_breakLines_5 rfl (fun c5 => absurd c5 (by omega)) (fun c5 => ?_)
  refine ev_bipush (v := iZ (-2)) d_Mo_breakLines_8 rfl ?_
  exact ev_ireturn d_Mo_breakLines_10 rfl (by decide) (by decide) (rfl)
set_option maxHeartbeats 4000000 in
set_option maxRecDepth 100000 in
theorem f_Mo_merge (G : GT) (h : HM) (σ : Nat → Value) (m s1 s2 s3 s4 k0 k1 k2 k3 k4 : Nat) (i : Int) (hm : h m = some (.inr (11, fsN 34 σ))) (f0 : σ 0 = .int (iZ 0)) (f2 : σ 2 = .int (iZ 25)) (f3 : σ 3 = .int (iZ 1)) (f4 : σ 4 = .int (iZ 0)) (f5 : σ 5 = .ref s1) (f6 : σ 6 = .ref s2) (f7 : σ 7 = .ref s3) (f8 : σ 8 = .ref s4) (f11 : σ 11 = .ref k0) (f12 : σ 12 = .ref k1) (f13 : σ 13 = .ref k2) (f14 : σ 14 = .ref k3) (f15 : σ 15 = .ref k4) (f9 : σ 9 = .int (iZ 0)) (f10 : σ 10 = .int (iZ 0)) (f16 : σ 16 = .int (iZ 0)) (f17 : σ 17 = .int (iZ 0)) (f18 : σ 18 = .int (iZ 0)) (f23 : σ 23 = .int (iZ 0)) (f24 : σ 24 = .int (iZ 0))  (g0 : iR i) : Rn G M_Mo_merge (rm 1 40) [.ref m, .int (iZ i)] h (fun r _ => r = some (.int (iZ (-2)))) := by
  refine rn_of (by decide) (Nat.le_of_ble_eq_true rfl) ?_
  show Ev G M_Mo_merge _ _ 0 [(0, .ref m), (1, .int (iZ i))] [] _ 0 0
  refine ev_aload_n d_Mo_merge_0 rfl rfl ?_
  refine ev_iload_n d_Mo_merge_1 rfl rfl ?_
  refine ev_pV M_Mo_isCue 0 0 (As := [.int (iZ i)]) (c_Mo_isCue G h σ m 0 i hm f4 (by decide) (by omega)) d_Mo_merge_2 mk_Mo_isCue ml_Mo_217 mv_Mo_isCue hm rfl rfl rfl (Nat.le_of_ble_eq_true rfl) ⟨by decide, by decide⟩ ⟨by decide, by decide⟩ ?_
  rw [has0]
  refine ez_if_eq (tgt := 18) (by decide) d_Mo_merge_5 rfl (fun c5 => ?_) (fun c5 => absurd c5 (by omega))
  refine ev_bipush (v := iZ (-2)) d_Mo_merge_18 rfl ?_
  exact ev_ireturn d_Mo_merge_20 rfl (by decide) (by decide) (rfl)
set_option maxHeartbeats 4000000 in
set_option maxRecDepth 100000 in
theorem f_Mo_split (G : GT) (h : HM) (σ : Nat → Value) (m s1 s2 s3 s4 k0 k1 k2 k3 k4 : Nat) (i : Int) (j : Int) (hm : h m = some (.inr (11, fsN 34 σ))) (f0 : σ 0 = .int (iZ 0)) (f2 : σ 2 = .int (iZ 25)) (f3 : σ 3 = .int (iZ 1)) (f4 : σ 4 = .int (iZ 0)) (f5 : σ 5 = .ref s1) (f6 : σ 6 = .ref s2) (f7 : σ 7 = .ref s3) (f8 : σ 8 = .ref s4) (f11 : σ 11 = .ref k0) (f12 : σ 12 = .ref k1) (f13 : σ 13 = .ref k2) (f14 : σ 14 = .ref k3) (f15 : σ 15 = .ref k4) (f9 : σ 9 = .int (iZ 0)) (f10 : σ 10 = .int (iZ 0)) (f16 : σ 16 = .int (iZ 0)) (f17 : σ 17 = .int (iZ 0)) (f18 : σ 18 = .int (iZ 0)) (f23 : σ 23 = .int (iZ 0)) (f24 : σ 24 = .int (iZ 0))  (g0 : iR i) (g1 : iR j) : Rn G M_Mo_split (rm 1 40) [.ref m, .int (iZ i), .int (iZ j)] h (fun r _ => r = some (.int (iZ (-2)))) := by
  refine rn_of (by decide) (Nat.le_of_ble_eq_true rfl) ?_
  show Ev G M_Mo_split _ _ 0 [(0, .ref m), (1, .int (iZ i)), (2, .int (iZ j))] [] _ 0 0
  refine ev_aload_n d_Mo_split_0 rfl rfl ?_
  refine ev_iload_n d_Mo_split_1 rfl rfl ?_
  refine ev_pV M_Mo_isCue 0 0 (As := [.int (iZ i)]) (c_Mo_isCue G h σ m 0 i hm f4 (by decide) (by omega)) d_Mo_split_2 mk_Mo_isCue ml_Mo_217 mv_Mo_isCue hm rfl rfl rfl (Nat.le_of_ble_eq_true rfl) ⟨by decide, by decide⟩ ⟨by decide, by decide⟩ ?_
  rw [has0]
  refine ez_if_eq (tgt := 41) (by decide) d_Mo_split_5 rfl (fun c5 => ?_) (fun c5 => absurd c5 (by omega))
  refine ev_bipush (v := iZ (-2)) d_Mo_split_41 rfl ?_
  exact ev_ireturn d_Mo_split_43 rfl (by decide) (by decide) (rfl)
set_option maxHeartbeats 4000000 in
set_option maxRecDepth 100000 in
theorem f_Mo_shift (G : GT) (h : HM) (σ : Nat → Value) (m s1 s2 s3 s4 k0 k1 k2 k3 k4 : Nat) (t : Int) (hm : h m = some (.inr (11, fsN 34 σ))) (f0 : σ 0 = .int (iZ 0)) (f2 : σ 2 = .int (iZ 25)) (f3 : σ 3 = .int (iZ 1)) (f4 : σ 4 = .int (iZ 0)) (f5 : σ 5 = .ref s1) (f6 : σ 6 = .ref s2) (f7 : σ 7 = .ref s3) (f8 : σ 8 = .ref s4) (f11 : σ 11 = .ref k0) (f12 : σ 12 = .ref k1) (f13 : σ 13 = .ref k2) (f14 : σ 14 = .ref k3) (f15 : σ 15 = .ref k4) (f9 : σ 9 = .int (iZ 0)) (f10 : σ 10 = .int (iZ 0)) (f16 : σ 16 = .int (iZ 0)) (f17 : σ 17 = .int (iZ 0)) (f18 : σ 18 = .int (iZ 0)) (f23 : σ 23 = .int (iZ 0)) (f24 : σ 24 = .int (iZ 0)) (hs1 : h s1 = some (.inl (G_j G, 16, .inr (.inl (lA (fun _ => 0)))))) (hs2 : h s2 = some (.inl (G_j G, 16, .inr (.inl (lA (fun _ => 0)))))) (hs3 : h s3 = some (.inl (G_i G, 16, .inl (iA (fun _ => 0))))) (hs4 : h s4 = some (.inl (G_i G, 1024, .inl (iA (fun _ => 0))))) (hk0 : h k0 = some (.inl (G_i G, 10, .inl (iA (fun _ => 0))))) (hk1 : h k1 = some (.inl (G_j G, 160, .inr (.inl (lA (fun _ => 0)))))) (hk2 : h k2 = some (.inl (G_j G, 160, .inr (.inl (lA (fun _ => 0)))))) (hk3 : h k3 = some (.inl (G_i G, 160, .inl (iA (fun _ => 0))))) (hk4 : h k4 = some (.inl (G_i G, 10240, .inl (iA (fun _ => 0))))) (n_s : s1 ≠ s2) (n_k : k1 ≠ k2) (g0 : lR t) : Rn G M_Mo_shift (rm 1 30) [.ref m, .long (lZ t)] h (fun r _ => r = some (.int (iZ (shZ t)))) := by
  refine rn_of (by decide) (Nat.le_of_ble_eq_true rfl) ?_
  show Ev G M_Mo_shift _ _ 0 [(0, .ref m), (1, .long (lZ t))] [] _ 0 0
  refine ev_lload_n d_Mo_shift_0 rfl rfl ?_
  refine ev_ldc2 (v := lZ (-2540160000000)) d_Mo_shift_1 kc_Mo_273 ?_
  refine ev_lcmp d_Mo_shift_4 ?_
  refine ez_lif_lt (tgt := 20) (by omega) (by decide) d_Mo_shift_5 rfl (fun c5 => ?_) (fun c5 => ?_)
  · refine ev_iconst (v := iZ 0) d_Mo_shift_20 rfl ?_
    refine ev_istore_n (L' := [(0, .ref m), (1, .long (lZ t)), (3, .int (iZ 0))]) d_Mo_shift_21 rfl (by decide) rfl ?_
    refine ev_iconst (v := iZ 0) d_Mo_shift_22 rfl ?_
    refine ev_istore (L' := [(0, .ref m), (1, .long (lZ t)), (3, .int (iZ 0)), (4, .int (iZ 0))]) d_Mo_shift_23 (by decide) rfl ?_
    refine ev_iload d_Mo_shift_25 rfl ?_
    refine ev_aload_n d_Mo_shift_27 rfl rfl ?_
    refine ev_getF d_Mo_shift_28 fl_Mo_92 hm (by decide) f4 ?_
    refine ez_icmp_ge (tgt := 82) (by decide) (by decide) d_Mo_shift_31 rfl (fun c31 => ?_) (fun c31 => absurd c31 (by omega))
    refine ev_iload_n d_Mo_shift_82 rfl rfl ?_
    refine ez_if_ne (tgt := 88) (by decide) d_Mo_shift_83 rfl (fun c83 => absurd c83 (by omega)) (fun c83 => ?_)
    refine ev_iconst (v := iZ 0) d_Mo_shift_86 rfl ?_
    exact ev_zreturn d_Mo_shift_87 rfl (Or.inl rfl) (by decide) (by decide) (by rw [show (shZ t : Int) = 0 from by unfold shZ; split <;> omega])
  · refine ev_lload_n d_Mo_shift_8 rfl rfl ?_
    refine ev_ldc2 (v := lZ 2540160000000) d_Mo_shift_9 kc_Mo_171 ?_
    refine ev_lcmp d_Mo_shift_12 ?_
    refine ez_lif_gt (tgt := 20) (by omega) (by decide) d_Mo_shift_13 rfl (fun c13 => ?_) (fun c13 => ?_)
    · refine ev_iconst (v := iZ 0) d_Mo_shift_20 rfl ?_
      refine ev_istore_n (L' := [(0, .ref m), (1, .long (lZ t)), (3, .int (iZ 0))]) d_Mo_shift_21 rfl (by decide) rfl ?_
      refine ev_iconst (v := iZ 0) d_Mo_shift_22 rfl ?_
      refine ev_istore (L' := [(0, .ref m), (1, .long (lZ t)), (3, .int (iZ 0)), (4, .int (iZ 0))]) d_Mo_shift_23 (by decide) rfl ?_
      refine ev_iload d_Mo_shift_25 rfl ?_
      refine ev_aload_n d_Mo_shift_27 rfl rfl ?_
      refine ev_getF d_Mo_shift_28 fl_Mo_92 hm (by decide) f4 ?_
      refine ez_icmp_ge (tgt := 82) (by decide) (by decide) d_Mo_shift_31 rfl (fun c31 => ?_) (fun c31 => absurd c31 (by omega))
      refine ev_iload_n d_Mo_shift_82 rfl rfl ?_
      refine ez_if_ne (tgt := 88) (by decide) d_Mo_shift_83 rfl (fun c83 => absurd c83 (by omega)) (fun c83 => ?_)
      refine ev_iconst (v := iZ 0) d_Mo_shift_86 rfl ?_
      exact ev_zreturn d_Mo_shift_87 rfl (Or.inl rfl) (by decide) (by decide) (by rw [show (shZ t : Int) = 0 from by unfold shZ; split <;> omega])
    · refine ev_iconst (v := iZ 1) d_Mo_shift_16 rfl ?_
      refine ev_goto (tgt := 21) d_Mo_shift_17 rfl ?_
      refine ev_istore_n (L' := [(0, .ref m), (1, .long (lZ t)), (3, .int (iZ 1))]) d_Mo_shift_21 rfl (by decide) rfl ?_
      refine ev_iconst (v := iZ 0) d_Mo_shift_22 rfl ?_
      refine ev_istore (L' := [(0, .ref m), (1, .long (lZ t)), (3, .int (iZ 1)), (4, .int (iZ 0))]) d_Mo_shift_23 (by decide) rfl ?_
      refine ev_iload d_Mo_shift_25 rfl ?_
      refine ev_aload_n d_Mo_shift_27 rfl rfl ?_
      refine ev_getF d_Mo_shift_28 fl_Mo_92 hm (by decide) f4 ?_
      refine ez_icmp_ge (tgt := 82) (by decide) (by decide) d_Mo_shift_31 rfl (fun c31 => ?_) (fun c31 => absurd c31 (by omega))
      refine ev_iload_n d_Mo_shift_82 rfl rfl ?_
      refine ez_if_ne (tgt := 88) (by decide) d_Mo_shift_83 rfl (fun c83 => ?_) (fun c83 => absurd c83 (by omega))
      refine ev_aload_n d_Mo_shift_88 rfl rfl ?_
      refine ev_callV M_Mo_keep (rm 0 0) _ (As := []) (c_Mo_keep G h σ m s1 s2 s3 s4 k0 k1 k2 k3 k4 0 0 0 _ _ _ _ _ _ _ _ _ hm f4 f5 f6 f7 f8 f9 f10 f11 f12 f13 f14 f15 hs1 hs2 hs3 hs4 hk0 hk1 hk2 hk3 hk4 (by decide) (by decide) n_s n_k) d_Mo_shift_89 mk_Mo_keep ml_Mo_176 mv_Mo_keep hm rfl rfl rfl (Nat.le_of_ble_eq_true rfl) ⟨by decide, by decide⟩ ⟨by decide, by decide⟩ (fun r h1 hq => ?_)
      obtain ⟨rfl, ⟨σ2, hm, _, _, fs2⟩, _, _, _, _, _, _⟩ := hq
      have f0 := (fs2 0 (by decide)).trans f0
      have f2 := (fs2 2 (by decide)).trans f2
      have f3 := (fs2 3 (by decide)).trans f3
      have f4 := (fs2 4 (by decide)).trans f4
      have f5 := (fs2 5 (by decide)).trans f5
      have f6 := (fs2 6 (by decide)).trans f6
      have f7 := (fs2 7 (by decide)).trans f7
      have f8 := (fs2 8 (by decide)).trans f8
      have f11 := (fs2 11 (by decide)).trans f11
      have f12 := (fs2 12 (by decide)).trans f12
      have f13 := (fs2 13 (by decide)).trans f13
      have f14 := (fs2 14 (by decide)).trans f14
      have f15 := (fs2 15 (by decide)).trans f15
      have f16 := (fs2 16 (by decide)).trans f16
      have f17 := (fs2 17 (by decide)).trans f17
      have f18 := (fs2 18 (by decide)).trans f18
      have f23 := (fs2 23 (by decide)).trans f23
      have f24 := (fs2 24 (by decide)).trans f24
      refine ev_iconst (v := iZ 0) d_Mo_shift_92 rfl ?_
      refine ev_istore (L' := [(0, .ref m), (1, .long (lZ t)), (3, .int (iZ 1)), (4, .int (iZ 0))]) d_Mo_shift_93 (by decide) rfl ?_
      refine ev_iload d_Mo_shift_95 rfl ?_
      refine ev_aload_n d_Mo_shift_97 rfl rfl ?_
      refine ev_getF d_Mo_shift_98 fl_Mo_92 hm (by decide) f4 ?_
      refine ez_icmp_ge (tgt := 142) (by decide) (by decide) d_Mo_shift_101 rfl (fun c101 => ?_) (fun c101 => absurd c101 (by omega))
      refine ev_iconst (v := iZ 1) d_Mo_shift_142 rfl ?_
      exact ev_zreturn d_Mo_shift_143 rfl (Or.inr rfl) (by decide) (by decide) (by rw [show (shZ t : Int) = 1 from by unfold shZ; split <;> omega])
set_option maxHeartbeats 4000000 in
set_option maxRecDepth 100000 in
theorem f_Mo_clash (G : GT) (h : HM) (σ : Nat → Value) (m s1 s2 s3 s4 k0 k1 k2 k3 k4 : Nat)  (hm : h m = some (.inr (11, fsN 34 σ))) (f0 : σ 0 = .int (iZ 0)) (f2 : σ 2 = .int (iZ 25)) (f3 : σ 3 = .int (iZ 1)) (f4 : σ 4 = .int (iZ 0)) (f5 : σ 5 = .ref s1) (f6 : σ 6 = .ref s2) (f7 : σ 7 = .ref s3) (f8 : σ 8 = .ref s4) (f11 : σ 11 = .ref k0) (f12 : σ 12 = .ref k1) (f13 : σ 13 = .ref k2) (f14 : σ 14 = .ref k3) (f15 : σ 15 = .ref k4) (f9 : σ 9 = .int (iZ 0)) (f10 : σ 10 = .int (iZ 0)) (f16 : σ 16 = .int (iZ 0)) (f17 : σ 17 = .int (iZ 0)) (f18 : σ 18 = .int (iZ 0)) (f23 : σ 23 = .int (iZ 0)) (f24 : σ 24 = .int (iZ 0))   : Rn G M_Mo_clash (rm 0 0) [.ref m] h (fun r _ => r = some (.int (iZ (-1)))) := by
  refine rn_of (by decide) (Nat.le_of_ble_eq_true rfl) ?_
  show Ev G M_Mo_clash _ _ 0 [(0, .ref m)] [] _ 0 0
  refine ev_iconst (v := iZ 0) d_Mo_clash_0 rfl ?_
  refine ev_istore_n (L' := [(0, .ref m), (1, .int (iZ 0))]) d_Mo_clash_1 rfl (by decide) rfl ?_
  refine ev_iload_n d_Mo_clash_2 rfl rfl ?_
  refine ev_iconst (v := iZ 1) d_Mo_clash_3 rfl ?_
  refine ez_iadd d_Mo_clash_4 ?_
  refine ev_aload_n d_Mo_clash_5 rfl rfl ?_
  refine ev_getF d_Mo_clash_6 fl_Mo_92 hm (by decide) f4 ?_
  refine ez_icmp_ge (tgt := 38) (by decide) (by decide) d_Mo_clash_9 rfl (fun c9 => ?_) (fun c9 => absurd c9 (by omega))
  refine ev_iconst (v := iZ (-1)) d_Mo_clash_38 rfl ?_
  exact ev_ireturn d_Mo_clash_39 rfl (by decide) (by decide) (rfl)
set_option maxHeartbeats 4000000 in
set_option maxRecDepth 100000 in
theorem f_Mo_undo (G : GT) (h : HM) (σ : Nat → Value) (m s1 s2 s3 s4 k0 k1 k2 k3 k4 : Nat)  (hm : h m = some (.inr (11, fsN 34 σ))) (f0 : σ 0 = .int (iZ 0)) (f2 : σ 2 = .int (iZ 25)) (f3 : σ 3 = .int (iZ 1)) (f4 : σ 4 = .int (iZ 0)) (f5 : σ 5 = .ref s1) (f6 : σ 6 = .ref s2) (f7 : σ 7 = .ref s3) (f8 : σ 8 = .ref s4) (f11 : σ 11 = .ref k0) (f12 : σ 12 = .ref k1) (f13 : σ 13 = .ref k2) (f14 : σ 14 = .ref k3) (f15 : σ 15 = .ref k4) (f9 : σ 9 = .int (iZ 0)) (f10 : σ 10 = .int (iZ 0)) (f16 : σ 16 = .int (iZ 0)) (f17 : σ 17 = .int (iZ 0)) (f18 : σ 18 = .int (iZ 0)) (f23 : σ 23 = .int (iZ 0)) (f24 : σ 24 = .int (iZ 0))   : Rn G M_Mo_undo (rm 0 0) [.ref m] h (fun r _ => r = some (.int (iZ 0))) := by
  refine rn_of (by decide) (Nat.le_of_ble_eq_true rfl) ?_
  show Ev G M_Mo_undo _ _ 0 [(0, .ref m)] [] _ 0 0
  refine ev_aload_n d_Mo_undo_0 rfl rfl ?_
  refine ev_getF d_Mo_undo_1 fl_Mo_104 hm (by decide) f10 ?_
  refine ez_if_ne (tgt := 9) (by decide) d_Mo_undo_4 rfl (fun c4 => absurd c4 (by omega)) (fun c4 => ?_)
  refine ev_iconst (v := iZ 0) d_Mo_undo_7 rfl ?_
  exact ev_zreturn d_Mo_undo_8 rfl (Or.inl rfl) (by decide) (by decide) (rfl)
set_option maxHeartbeats 4000000 in
set_option maxRecDepth 100000 in
theorem f_Mo_twoPoint (G : GT) (h : HM) (σ : Nat → Value) (m s1 s2 s3 s4 k0 k1 k2 k3 k4 : Nat) (a : Int) (c : Int) (b : Int) (d : Int) (hm : h m = some (.inr (11, fsN 34 σ))) (f0 : σ 0 = .int (iZ 0)) (f2 : σ 2 = .int (iZ 25)) (f3 : σ 3 = .int (iZ 1)) (f4 : σ 4 = .int (iZ 0)) (f5 : σ 5 = .ref s1) (f6 : σ 6 = .ref s2) (f7 : σ 7 = .ref s3) (f8 : σ 8 = .ref s4) (f11 : σ 11 = .ref k0) (f12 : σ 12 = .ref k1) (f13 : σ 13 = .ref k2) (f14 : σ 14 = .ref k3) (f15 : σ 15 = .ref k4) (f9 : σ 9 = .int (iZ 0)) (f10 : σ 10 = .int (iZ 0)) (f16 : σ 16 = .int (iZ 0)) (f17 : σ 17 = .int (iZ 0)) (f18 : σ 18 = .int (iZ 0)) (f23 : σ 23 = .int (iZ 0)) (f24 : σ 24 = .int (iZ 0)) (hs1 : h s1 = some (.inl (G_j G, 16, .inr (.inl (lA (fun _ => 0)))))) (hs2 : h s2 = some (.inl (G_j G, 16, .inr (.inl (lA (fun _ => 0)))))) (hs3 : h s3 = some (.inl (G_i G, 16, .inl (iA (fun _ => 0))))) (hs4 : h s4 = some (.inl (G_i G, 1024, .inl (iA (fun _ => 0))))) (hk0 : h k0 = some (.inl (G_i G, 10, .inl (iA (fun _ => 0))))) (hk1 : h k1 = some (.inl (G_j G, 160, .inr (.inl (lA (fun _ => 0)))))) (hk2 : h k2 = some (.inl (G_j G, 160, .inr (.inl (lA (fun _ => 0)))))) (hk3 : h k3 = some (.inl (G_i G, 160, .inl (iA (fun _ => 0))))) (hk4 : h k4 = some (.inl (G_i G, 10240, .inl (iA (fun _ => 0))))) (n_s : s1 ≠ s2) (n_k : k1 ≠ k2) (g0 : iR a) (g1 : iR c) (g2 : iR b) (g3 : iR d) : Rn G M_Mo_twoPoint (rm 1 30) [.ref m, .int (iZ a), .int (iZ c), .int (iZ b), .int (iZ d)] h (fun r _ => r = some (.int (iZ (tpZ a c b d)))) := by
  refine rn_of (by decide) (Nat.le_of_ble_eq_true rfl) ?_
  show Ev G M_Mo_twoPoint _ _ 0 [(0, .ref m), (1, .int (iZ a)), (2, .int (iZ c)), (3, .int (iZ b)), (4, .int (iZ d))] [] _ 0 0
  refine ev_aload_n d_Mo_twoPoint_0 rfl rfl ?_
  refine ev_pV M_Mo_frame 0 0 (As := []) (c_Mo_frame G h σ m 25 1 hm f2 f3 (by decide) (by decide)) d_Mo_twoPoint_1 mk_Mo_frame ml_Mo_134 mv_Mo_frame hm rfl rfl rfl (Nat.le_of_ble_eq_true rfl) ⟨by decide, by decide⟩ ⟨by decide, by decide⟩ ?_
  rw [show (705600000 * 1 / 25 : Int) = 28224000 from rfl]
  refine ev_lstore (L' := [(0, .ref m), (1, .int (iZ a)), (2, .int (iZ c)), (3, .int (iZ b)), (4, .int (iZ d)), (5, .long (lZ 28224000))]) d_Mo_twoPoint_4 (by decide) rfl ?_
  refine ev_aload_n d_Mo_twoPoint_6 rfl rfl ?_
  refine ev_iload_n d_Mo_twoPoint_7 rfl rfl ?_
  refine ez_i2l (by omega) d_Mo_twoPoint_8 ?_
  refine ev_lload d_Mo_twoPoint_9 rfl ?_
  refine ez_lmul d_Mo_twoPoint_11 ?_
  have tr12 := timeZ_r (a * 28224000)
  refine ev_pV M_Mo_isTime 0 0 (As := [.long (lZ (a * 28224000))]) (c_Mo_isTime G h m (a * 28224000) (by omega)) d_Mo_twoPoint_12 mk_Mo_isTime ml_Mo_266 mv_Mo_isTime hm rfl rfl rfl (Nat.le_of_ble_eq_true rfl) ⟨by decide, by decide⟩ ⟨by decide, by decide⟩ ?_
  refine ez_if_eq (tgt := 94) (by omega) d_Mo_twoPoint_15 rfl (fun c15 => ?_) (fun c15 => ?_)
  · have z15 := timeZ_0 c15
    refine ev_iconst (v := iZ 0) d_Mo_twoPoint_94 rfl ?_
    refine ev_istore (L' := [(0, .ref m), (1, .int (iZ a)), (2, .int (iZ c)), (3, .int (iZ b)), (4, .int (iZ d)), (5, .long (lZ 28224000)), (7, .int (iZ 0))]) d_Mo_twoPoint_95 (by decide) rfl ?_
    refine ev_iconst (v := iZ 0) d_Mo_twoPoint_97 rfl ?_
    refine ev_istore (L' := [(0, .ref m), (1, .int (iZ a)), (2, .int (iZ c)), (3, .int (iZ b)), (4, .int (iZ d)), (5, .long (lZ 28224000)), (7, .int (iZ 0)), (8, .int (iZ 0))]) d_Mo_twoPoint_98 (by decide) rfl ?_
    refine ev_iload d_Mo_twoPoint_100 rfl ?_
    refine ev_aload_n d_Mo_twoPoint_102 rfl rfl ?_
    refine ev_getF d_Mo_twoPoint_103 fl_Mo_92 hm (by decide) f4 ?_
    refine ez_icmp_ge (tgt := 198) (by decide) (by decide) d_Mo_twoPoint_106 rfl (fun c106 => ?_) (fun c106 => absurd c106 (by omega))
    refine ev_iload d_Mo_twoPoint_198 rfl ?_
    refine ez_if_ne (tgt := 205) (by decide) d_Mo_twoPoint_200 rfl (fun c200 => absurd c200 (by omega)) (fun c200 => ?_)
    refine ev_iconst (v := iZ 0) d_Mo_twoPoint_203 rfl ?_
    exact ev_zreturn d_Mo_twoPoint_204 rfl (Or.inl rfl) (by decide) (by decide) (by rw [show (tpZ a c b d : Int) = 0 from by unfold tpZ; split <;> omega])
  · have z15 := timeZ_1 c15
    refine ev_aload_n d_Mo_twoPoint_18 rfl rfl ?_
    refine ev_iload_n d_Mo_twoPoint_19 rfl rfl ?_
    refine ez_i2l (by omega) d_Mo_twoPoint_20 ?_
    refine ev_lload d_Mo_twoPoint_21 rfl ?_
    refine ez_lmul d_Mo_twoPoint_23 ?_
    have tr24 := timeZ_r (c * 28224000)
    refine ev_pV M_Mo_isTime 0 0 (As := [.long (lZ (c * 28224000))]) (c_Mo_isTime G h m (c * 28224000) (by omega)) d_Mo_twoPoint_24 mk_Mo_isTime ml_Mo_266 mv_Mo_isTime hm rfl rfl rfl (Nat.le_of_ble_eq_true rfl) ⟨by decide, by decide⟩ ⟨by decide, by decide⟩ ?_
    refine ez_if_eq (tgt := 94) (by omega) d_Mo_twoPoint_27 rfl (fun c27 => ?_) (fun c27 => ?_)
    · have z27 := timeZ_0 c27
      refine ev_iconst (v := iZ 0) d_Mo_twoPoint_94 rfl ?_
      refine ev_istore (L' := [(0, .ref m), (1, .int (iZ a)), (2, .int (iZ c)), (3, .int (iZ b)), (4, .int (iZ d)), (5, .long (lZ 28224000)), (7, .int (iZ 0))]) d_Mo_twoPoint_95 (by decide) rfl ?_
      refine ev_iconst (v := iZ 0) d_Mo_twoPoint_97 rfl ?_
      refine ev_istore (L' := [(0, .ref m), (1, .int (iZ a)), (2, .int (iZ c)), (3, .int (iZ b)), (4, .int (iZ d)), (5, .long (lZ 28224000)), (7, .int (iZ 0)), (8, .int (iZ 0))]) d_Mo_twoPoint_98 (by decide) rfl ?_
      refine ev_iload d_Mo_twoPoint_100 rfl ?_
      refine ev_aload_n d_Mo_twoPoint_102 rfl rfl ?_
      refine ev_getF d_Mo_twoPoint_103 fl_Mo_92 hm (by decide) f4 ?_
      refine ez_icmp_ge (tgt := 198) (by decide) (by decide) d_Mo_twoPoint_106 rfl (fun c106 => ?_) (fun c106 => absurd c106 (by omega))
      refine ev_iload d_Mo_twoPoint_198 rfl ?_
      refine ez_if_ne (tgt := 205) (by decide) d_Mo_twoPoint_200 rfl (fun c200 => absurd c200 (by omega)) (fun c200 => ?_)
      refine ev_iconst (v := iZ 0) d_Mo_twoPoint_203 rfl ?_
      exact ev_zreturn d_Mo_twoPoint_204 rfl (Or.inl rfl) (by decide) (by decide) (by rw [show (tpZ a c b d : Int) = 0 from by unfold tpZ; split <;> omega])
    · have z27 := timeZ_1 c27
      refine ev_aload_n d_Mo_twoPoint_30 rfl rfl ?_
      refine ev_iload_n d_Mo_twoPoint_31 rfl rfl ?_
      refine ez_i2l (by omega) d_Mo_twoPoint_32 ?_
      refine ev_lload d_Mo_twoPoint_33 rfl ?_
      refine ez_lmul d_Mo_twoPoint_35 ?_
      have tr36 := timeZ_r (b * 28224000)
      refine ev_pV M_Mo_isTime 0 0 (As := [.long (lZ (b * 28224000))]) (c_Mo_isTime G h m (b * 28224000) (by omega)) d_Mo_twoPoint_36 mk_Mo_isTime ml_Mo_266 mv_Mo_isTime hm rfl rfl rfl (Nat.le_of_ble_eq_true rfl) ⟨by decide, by decide⟩ ⟨by decide, by decide⟩ ?_
      refine ez_if_eq (tgt := 94) (by omega) d_Mo_twoPoint_39 rfl (fun c39 => ?_) (fun c39 => ?_)
      · have z39 := timeZ_0 c39
        refine ev_iconst (v := iZ 0) d_Mo_twoPoint_94 rfl ?_
        refine ev_istore (L' := [(0, .ref m), (1, .int (iZ a)), (2, .int (iZ c)), (3, .int (iZ b)), (4, .int (iZ d)), (5, .long (lZ 28224000)), (7, .int (iZ 0))]) d_Mo_twoPoint_95 (by decide) rfl ?_
        refine ev_iconst (v := iZ 0) d_Mo_twoPoint_97 rfl ?_
        refine ev_istore (L' := [(0, .ref m), (1, .int (iZ a)), (2, .int (iZ c)), (3, .int (iZ b)), (4, .int (iZ d)), (5, .long (lZ 28224000)), (7, .int (iZ 0)), (8, .int (iZ 0))]) d_Mo_twoPoint_98 (by decide) rfl ?_
        refine ev_iload d_Mo_twoPoint_100 rfl ?_
        refine ev_aload_n d_Mo_twoPoint_102 rfl rfl ?_
        refine ev_getF d_Mo_twoPoint_103 fl_Mo_92 hm (by decide) f4 ?_
        refine ez_icmp_ge (tgt := 198) (by decide) (by decide) d_Mo_twoPoint_106 rfl (fun c106 => ?_) (fun c106 => absurd c106 (by omega))
        refine ev_iload d_Mo_twoPoint_198 rfl ?_
        refine ez_if_ne (tgt := 205) (by decide) d_Mo_twoPoint_200 rfl (fun c200 => absurd c200 (by omega)) (fun c200 => ?_)
        refine ev_iconst (v := iZ 0) d_Mo_twoPoint_203 rfl ?_
        exact ev_zreturn d_Mo_twoPoint_204 rfl (Or.inl rfl) (by decide) (by decide) (by rw [show (tpZ a c b d : Int) = 0 from by unfold tpZ; split <;> omega])
      · have z39 := timeZ_1 c39
        refine ev_aload_n d_Mo_twoPoint_42 rfl rfl ?_
        refine ev_iload d_Mo_twoPoint_43 rfl ?_
        refine ez_i2l (by omega) d_Mo_twoPoint_45 ?_
        refine ev_lload d_Mo_twoPoint_46 rfl ?_
        refine ez_lmul d_Mo_twoPoint_48 ?_
        have tr49 := timeZ_r (d * 28224000)
        refine ev_pV M_Mo_isTime 0 0 (As := [.long (lZ (d * 28224000))]) (c_Mo_isTime G h m (d * 28224000) (by omega)) d_Mo_twoPoint_49 mk_Mo_isTime ml_Mo_266 mv_Mo_isTime hm rfl rfl rfl (Nat.le_of_ble_eq_true rfl) ⟨by decide, by decide⟩ ⟨by decide, by decide⟩ ?_
        refine ez_if_eq (tgt := 94) (by omega) d_Mo_twoPoint_52 rfl (fun c52 => ?_) (fun c52 => ?_)
        · have z52 := timeZ_0 c52
          refine ev_iconst (v := iZ 0) d_Mo_twoPoint_94 rfl ?_
          refine ev_istore (L' := [(0, .ref m), (1, .int (iZ a)), (2, .int (iZ c)), (3, .int (iZ b)), (4, .int (iZ d)), (5, .long (lZ 28224000)), (7, .int (iZ 0))]) d_Mo_twoPoint_95 (by decide) rfl ?_
          refine ev_iconst (v := iZ 0) d_Mo_twoPoint_97 rfl ?_
          refine ev_istore (L' := [(0, .ref m), (1, .int (iZ a)), (2, .int (iZ c)), (3, .int (iZ b)), (4, .int (iZ d)), (5, .long (lZ 28224000)), (7, .int (iZ 0)), (8, .int (iZ 0))]) d_Mo_twoPoint_98 (by decide) rfl ?_
          refine ev_iload d_Mo_twoPoint_100 rfl ?_
          refine ev_aload_n d_Mo_twoPoint_102 rfl rfl ?_
          refine ev_getF d_Mo_twoPoint_103 fl_Mo_92 hm (by decide) f4 ?_
          refine ez_icmp_ge (tgt := 198) (by decide) (by decide) d_Mo_twoPoint_106 rfl (fun c106 => ?_) (fun c106 => absurd c106 (by omega))
          refine ev_iload d_Mo_twoPoint_198 rfl ?_
          refine ez_if_ne (tgt := 205) (by decide) d_Mo_twoPoint_200 rfl (fun c200 => absurd c200 (by omega)) (fun c200 => ?_)
          refine ev_iconst (v := iZ 0) d_Mo_twoPoint_203 rfl ?_
          exact ev_zreturn d_Mo_twoPoint_204 rfl (Or.inl rfl) (by decide) (by decide) (by rw [show (tpZ a c b d : Int) = 0 from by unfold tpZ; split <;> omega])
        · have z52 := timeZ_1 c52
          refine ev_iload_n d_Mo_twoPoint_55 rfl rfl ?_
          refine ev_iload_n d_Mo_twoPoint_56 rfl rfl ?_
          refine ez_icmp_eq (tgt := 94) (by omega) (by omega) d_Mo_twoPoint_57 rfl (fun c57 => ?_) (fun c57 => ?_)
          · refine ev_iconst (v := iZ 0) d_Mo_twoPoint_94 rfl ?_
            refine ev_istore (L' := [(0, .ref m), (1, .int (iZ a)), (2, .int (iZ c)), (3, .int (iZ b)), (4, .int (iZ d)), (5, .long (lZ 28224000)), (7, .int (iZ 0))]) d_Mo_twoPoint_95 (by decide) rfl ?_
            refine ev_iconst (v := iZ 0) d_Mo_twoPoint_97 rfl ?_
            refine ev_istore (L' := [(0, .ref m), (1, .int (iZ a)), (2, .int (iZ c)), (3, .int (iZ b)), (4, .int (iZ d)), (5, .long (lZ 28224000)), (7, .int (iZ 0)), (8, .int (iZ 0))]) d_Mo_twoPoint_98 (by decide) rfl ?_
            refine ev_iload d_Mo_twoPoint_100 rfl ?_
            refine ev_aload_n d_Mo_twoPoint_102 rfl rfl ?_
            refine ev_getF d_Mo_twoPoint_103 fl_Mo_92 hm (by decide) f4 ?_
            refine ez_icmp_ge (tgt := 198) (by decide) (by decide) d_Mo_twoPoint_106 rfl (fun c106 => ?_) (fun c106 => absurd c106 (by omega))
            refine ev_iload d_Mo_twoPoint_198 rfl ?_
            refine ez_if_ne (tgt := 205) (by decide) d_Mo_twoPoint_200 rfl (fun c200 => absurd c200 (by omega)) (fun c200 => ?_)
            refine ev_iconst (v := iZ 0) d_Mo_twoPoint_203 rfl ?_
            exact ev_zreturn d_Mo_twoPoint_204 rfl (Or.inl rfl) (by decide) (by decide) (by rw [show (tpZ a c b d : Int) = 0 from by unfold tpZ; split <;> omega])
          · refine ev_iload_n d_Mo_twoPoint_60 rfl rfl ?_
            refine ev_iload_n d_Mo_twoPoint_61 rfl rfl ?_
            refine ez_icmp_le (tgt := 69) (by omega) (by omega) d_Mo_twoPoint_62 rfl (fun c62 => ?_) (fun c62 => ?_)
            · refine ev_iconst (v := iZ 0) d_Mo_twoPoint_69 rfl ?_
              refine ev_iload d_Mo_twoPoint_70 rfl ?_
              refine ev_iload_n d_Mo_twoPoint_72 rfl rfl ?_
              refine ez_icmp_le (tgt := 80) (by omega) (by omega) d_Mo_twoPoint_73 rfl (fun c73 => ?_) (fun c73 => ?_)
              · refine ev_iconst (v := iZ 0) d_Mo_twoPoint_80 rfl ?_
                refine ez_icmp_ne (tgt := 94) (by decide) (by decide) d_Mo_twoPoint_81 rfl (fun c81 => absurd c81 (by omega)) (fun c81 => ?_)
                refine ev_iload_n d_Mo_twoPoint_84 rfl rfl ?_
                refine ev_iload d_Mo_twoPoint_85 rfl ?_
                refine ez_icmp_eq (tgt := 94) (by omega) (by omega) d_Mo_twoPoint_87 rfl (fun c87 => ?_) (fun c87 => ?_)
                · refine ev_iconst (v := iZ 0) d_Mo_twoPoint_94 rfl ?_
                  refine ev_istore (L' := [(0, .ref m), (1, .int (iZ a)), (2, .int (iZ c)), (3, .int (iZ b)), (4, .int (iZ d)), (5, .long (lZ 28224000)), (7, .int (iZ 0))]) d_Mo_twoPoint_95 (by decide) rfl ?_
                  refine ev_iconst (v := iZ 0) d_Mo_twoPoint_97 rfl ?_
                  refine ev_istore (L' := [(0, .ref m), (1, .int (iZ a)), (2, .int (iZ c)), (3, .int (iZ b)), (4, .int (iZ d)), (5, .long (lZ 28224000)), (7, .int (iZ 0)), (8, .int (iZ 0))]) d_Mo_twoPoint_98 (by decide) rfl ?_
                  refine ev_iload d_Mo_twoPoint_100 rfl ?_
                  refine ev_aload_n d_Mo_twoPoint_102 rfl rfl ?_
                  refine ev_getF d_Mo_twoPoint_103 fl_Mo_92 hm (by decide) f4 ?_
                  refine ez_icmp_ge (tgt := 198) (by decide) (by decide) d_Mo_twoPoint_106 rfl (fun c106 => ?_) (fun c106 => absurd c106 (by omega))
                  refine ev_iload d_Mo_twoPoint_198 rfl ?_
                  refine ez_if_ne (tgt := 205) (by decide) d_Mo_twoPoint_200 rfl (fun c200 => absurd c200 (by omega)) (fun c200 => ?_)
                  refine ev_iconst (v := iZ 0) d_Mo_twoPoint_203 rfl ?_
                  exact ev_zreturn d_Mo_twoPoint_204 rfl (Or.inl rfl) (by decide) (by decide) (by rw [show (tpZ a c b d : Int) = 0 from by unfold tpZ; split <;> omega])
                · refine ev_iconst (v := iZ 1) d_Mo_twoPoint_90 rfl ?_
                  refine ev_goto (tgt := 95) d_Mo_twoPoint_91 rfl ?_
                  refine ev_istore (L' := [(0, .ref m), (1, .int (iZ a)), (2, .int (iZ c)), (3, .int (iZ b)), (4, .int (iZ d)), (5, .long (lZ 28224000)), (7, .int (iZ 1))]) d_Mo_twoPoint_95 (by decide) rfl ?_
                  refine ev_iconst (v := iZ 0) d_Mo_twoPoint_97 rfl ?_
                  refine ev_istore (L' := [(0, .ref m), (1, .int (iZ a)), (2, .int (iZ c)), (3, .int (iZ b)), (4, .int (iZ d)), (5, .long (lZ 28224000)), (7, .int (iZ 1)), (8, .int (iZ 0))]) d_Mo_twoPoint_98 (by decide) rfl ?_
                  refine ev_iload d_Mo_twoPoint_100 rfl ?_
                  refine ev_aload_n d_Mo_twoPoint_102 rfl rfl ?_
                  refine ev_getF d_Mo_twoPoint_103 fl_Mo_92 hm (by decide) f4 ?_
                  refine ez_icmp_ge (tgt := 198) (by decide) (by decide) d_Mo_twoPoint_106 rfl (fun c106 => ?_) (fun c106 => absurd c106 (by omega))
                  refine ev_iload d_Mo_twoPoint_198 rfl ?_
                  refine ez_if_ne (tgt := 205) (by decide) d_Mo_twoPoint_200 rfl (fun c200 => ?_) (fun c200 => absurd c200 (by omega))
                  refine ev_aload_n d_Mo_twoPoint_205 rfl rfl ?_
                  refine ev_callV M_Mo_keep (rm 0 0) _ (As := []) (c_Mo_keep G h σ m s1 s2 s3 s4 k0 k1 k2 k3 k4 0 0 0 _ _ _ _ _ _ _ _ _ hm f4 f5 f6 f7 f8 f9 f10 f11 f12 f13 f14 f15 hs1 hs2 hs3 hs4 hk0 hk1 hk2 hk3 hk4 (by decide) (by decide) n_s n_k) d_Mo_twoPoint_206 mk_Mo_keep ml_Mo_176 mv_Mo_keep hm rfl rfl rfl (Nat.le_of_ble_eq_true rfl) ⟨by decide, by decide⟩ ⟨by decide, by decide⟩ (fun r h1 hq => ?_)
                  obtain ⟨rfl, ⟨σ2, hm, _, _, fs2⟩, _, _, _, _, _, _⟩ := hq
                  have f0 := (fs2 0 (by decide)).trans f0
                  have f2 := (fs2 2 (by decide)).trans f2
                  have f3 := (fs2 3 (by decide)).trans f3
                  have f4 := (fs2 4 (by decide)).trans f4
                  have f5 := (fs2 5 (by decide)).trans f5
                  have f6 := (fs2 6 (by decide)).trans f6
                  have f7 := (fs2 7 (by decide)).trans f7
                  have f8 := (fs2 8 (by decide)).trans f8
                  have f11 := (fs2 11 (by decide)).trans f11
                  have f12 := (fs2 12 (by decide)).trans f12
                  have f13 := (fs2 13 (by decide)).trans f13
                  have f14 := (fs2 14 (by decide)).trans f14
                  have f15 := (fs2 15 (by decide)).trans f15
                  have f16 := (fs2 16 (by decide)).trans f16
                  have f17 := (fs2 17 (by decide)).trans f17
                  have f18 := (fs2 18 (by decide)).trans f18
                  have f23 := (fs2 23 (by decide)).trans f23
                  have f24 := (fs2 24 (by decide)).trans f24
                  refine ev_iconst (v := iZ 0) d_Mo_twoPoint_209 rfl ?_
                  refine ev_istore (L' := [(0, .ref m), (1, .int (iZ a)), (2, .int (iZ c)), (3, .int (iZ b)), (4, .int (iZ d)), (5, .long (lZ 28224000)), (7, .int (iZ 1)), (8, .int (iZ 0))]) d_Mo_twoPoint_210 (by decide) rfl ?_
                  refine ev_iload d_Mo_twoPoint_212 rfl ?_
                  refine ev_aload_n d_Mo_twoPoint_214 rfl rfl ?_
                  refine ev_getF d_Mo_twoPoint_215 fl_Mo_92 hm (by decide) f4 ?_
                  refine ez_icmp_ge (tgt := 287) (by decide) (by decide) d_Mo_twoPoint_218 rfl (fun c218 => ?_) (fun c218 => absurd c218 (by omega))
                  refine ev_iconst (v := iZ 1) d_Mo_twoPoint_287 rfl ?_
                  exact ev_zreturn d_Mo_twoPoint_288 rfl (Or.inr rfl) (by decide) (by decide) (by rw [show (tpZ a c b d : Int) = 1 from by unfold tpZ; split <;> omega])
              · refine ev_iconst (v := iZ 1) d_Mo_twoPoint_76 rfl ?_
                refine ev_goto (tgt := 81) d_Mo_twoPoint_77 rfl ?_
                refine ez_icmp_ne (tgt := 94) (by decide) (by decide) d_Mo_twoPoint_81 rfl (fun c81 => ?_) (fun c81 => absurd c81 (by omega))
                refine ev_iconst (v := iZ 0) d_Mo_twoPoint_94 rfl ?_
                refine ev_istore (L' := [(0, .ref m), (1, .int (iZ a)), (2, .int (iZ c)), (3, .int (iZ b)), (4, .int (iZ d)), (5, .long (lZ 28224000)), (7, .int (iZ 0))]) d_Mo_twoPoint_95 (by decide) rfl ?_
                refine ev_iconst (v := iZ 0) d_Mo_twoPoint_97 rfl ?_
                refine ev_istore (L' := [(0, .ref m), (1, .int (iZ a)), (2, .int (iZ c)), (3, .int (iZ b)), (4, .int (iZ d)), (5, .long (lZ 28224000)), (7, .int (iZ 0)), (8, .int (iZ 0))]) d_Mo_twoPoint_98 (by decide) rfl ?_
                refine ev_iload d_Mo_twoPoint_100 rfl ?_
                refine ev_aload_n d_Mo_twoPoint_102 rfl rfl ?_
                refine ev_getF d_Mo_twoPoint_103 fl_Mo_92 hm (by decide) f4 ?_
                refine ez_icmp_ge (tgt := 198) (by decide) (by decide) d_Mo_twoPoint_106 rfl (fun c106 => ?_) (fun c106 => absurd c106 (by omega))
                refine ev_iload d_Mo_twoPoint_198 rfl ?_
                refine ez_if_ne (tgt := 205) (by decide) d_Mo_twoPoint_200 rfl (fun c200 => absurd c200 (by omega)) (fun c200 => ?_)
                refine ev_iconst (v := iZ 0) d_Mo_twoPoint_203 rfl ?_
                exact ev_zreturn d_Mo_twoPoint_204 rfl (Or.inl rfl) (by decide) (by decide) (by rw [show (tpZ a c b d : Int) = 0 from by unfold tpZ; split <;> omega])
            · refine ev_iconst (v := iZ 1) d_Mo_twoPoint_65 rfl ?_
              refine ev_goto (tgt := 70) d_Mo_twoPoint_66 rfl ?_
              refine ev_iload d_Mo_twoPoint_70 rfl ?_
              refine ev_iload_n d_Mo_twoPoint_72 rfl rfl ?_
              refine ez_icmp_le (tgt := 80) (by omega) (by omega) d_Mo_twoPoint_73 rfl (fun c73 => ?_) (fun c73 => ?_)
              · refine ev_iconst (v := iZ 0) d_Mo_twoPoint_80 rfl ?_
                refine ez_icmp_ne (tgt := 94) (by decide) (by decide) d_Mo_twoPoint_81 rfl (fun c81 => ?_) (fun c81 => absurd c81 (by omega))
                refine ev_iconst (v := iZ 0) d_Mo_twoPoint_94 rfl ?_
                refine ev_istore (L' := [(0, .ref m), (1, .int (iZ a)), (2, .int (iZ c)), (3, .int (iZ b)), (4, .int (iZ d)), (5, .long (lZ 28224000)), (7, .int (iZ 0))]) d_Mo_twoPoint_95 (by decide) rfl ?_
                refine ev_iconst (v := iZ 0) d_Mo_twoPoint_97 rfl ?_
                refine ev_istore (L' := [(0, .ref m), (1, .int (iZ a)), (2, .int (iZ c)), (3, .int (iZ b)), (4, .int (iZ d)), (5, .long (lZ 28224000)), (7, .int (iZ 0)), (8, .int (iZ 0))]) d_Mo_twoPoint_98 (by decide) rfl ?_
                refine ev_iload d_Mo_twoPoint_100 rfl ?_
                refine ev_aload_n d_Mo_twoPoint_102 rfl rfl ?_
                refine ev_getF d_Mo_twoPoint_103 fl_Mo_92 hm (by decide) f4 ?_
                refine ez_icmp_ge (tgt := 198) (by decide) (by decide) d_Mo_twoPoint_106 rfl (fun c106 => ?_) (fun c106 => absurd c106 (by omega))
                refine ev_iload d_Mo_twoPoint_198 rfl ?_
                refine ez_if_ne (tgt := 205) (by decide) d_Mo_twoPoint_200 rfl (fun c200 => absurd c200 (by omega)) (fun c200 => ?_)
                refine ev_iconst (v := iZ 0) d_Mo_twoPoint_203 rfl ?_
                exact ev_zreturn d_Mo_twoPoint_204 rfl (Or.inl rfl) (by decide) (by decide) (by rw [show (tpZ a c b d : Int) = 0 from by unfold tpZ; split <;> omega])
              · refine ev_iconst (v := iZ 1) d_Mo_twoPoint_76 rfl ?_
                refine ev_goto (tgt := 81) d_Mo_twoPoint_77 rfl ?_
                refine ez_icmp_ne (tgt := 94) (by decide) (by decide) d_Mo_twoPoint_81 rfl (fun c81 => absurd c81 (by omega)) (fun c81 => ?_)
                refine ev_iload_n d_Mo_twoPoint_84 rfl rfl ?_
                refine ev_iload d_Mo_twoPoint_85 rfl ?_
                refine ez_icmp_eq (tgt := 94) (by omega) (by omega) d_Mo_twoPoint_87 rfl (fun c87 => ?_) (fun c87 => ?_)
                · refine ev_iconst (v := iZ 0) d_Mo_twoPoint_94 rfl ?_
                  refine ev_istore (L' := [(0, .ref m), (1, .int (iZ a)), (2, .int (iZ c)), (3, .int (iZ b)), (4, .int (iZ d)), (5, .long (lZ 28224000)), (7, .int (iZ 0))]) d_Mo_twoPoint_95 (by decide) rfl ?_
                  refine ev_iconst (v := iZ 0) d_Mo_twoPoint_97 rfl ?_
                  refine ev_istore (L' := [(0, .ref m), (1, .int (iZ a)), (2, .int (iZ c)), (3, .int (iZ b)), (4, .int (iZ d)), (5, .long (lZ 28224000)), (7, .int (iZ 0)), (8, .int (iZ 0))]) d_Mo_twoPoint_98 (by decide) rfl ?_
                  refine ev_iload d_Mo_twoPoint_100 rfl ?_
                  refine ev_aload_n d_Mo_twoPoint_102 rfl rfl ?_
                  refine ev_getF d_Mo_twoPoint_103 fl_Mo_92 hm (by decide) f4 ?_
                  refine ez_icmp_ge (tgt := 198) (by decide) (by decide) d_Mo_twoPoint_106 rfl (fun c106 => ?_) (fun c106 => absurd c106 (by omega))
                  refine ev_iload d_Mo_twoPoint_198 rfl ?_
                  refine ez_if_ne (tgt := 205) (by decide) d_Mo_twoPoint_200 rfl (fun c200 => absurd c200 (by omega)) (fun c200 => ?_)
                  refine ev_iconst (v := iZ 0) d_Mo_twoPoint_203 rfl ?_
                  exact ev_zreturn d_Mo_twoPoint_204 rfl (Or.inl rfl) (by decide) (by decide) (by rw [show (tpZ a c b d : Int) = 0 from by unfold tpZ; split <;> omega])
                · refine ev_iconst (v := iZ 1) d_Mo_twoPoint_90 rfl ?_
                  refine ev_goto (tgt := 95) d_Mo_twoPoint_91 rfl ?_
                  refine ev_istore (L' := [(0, .ref m), (1, .int (iZ a)), (2, .int (iZ c)), (3, .int (iZ b)), (4, .int (iZ d)), (5, .long (lZ 28224000)), (7, .int (iZ 1))]) d_Mo_twoPoint_95 (by decide) rfl ?_
                  refine ev_iconst (v := iZ 0) d_Mo_twoPoint_97 rfl ?_
                  refine ev_istore (L' := [(0, .ref m), (1, .int (iZ a)), (2, .int (iZ c)), (3, .int (iZ b)), (4, .int (iZ d)), (5, .long (lZ 28224000)), (7, .int (iZ 1)), (8, .int (iZ 0))]) d_Mo_twoPoint_98 (by decide) rfl ?_
                  refine ev_iload d_Mo_twoPoint_100 rfl ?_
                  refine ev_aload_n d_Mo_twoPoint_102 rfl rfl ?_
                  refine ev_getF d_Mo_twoPoint_103 fl_Mo_92 hm (by decide) f4 ?_
                  refine ez_icmp_ge (tgt := 198) (by decide) (by decide) d_Mo_twoPoint_106 rfl (fun c106 => ?_) (fun c106 => absurd c106 (by omega))
                  refine ev_iload d_Mo_twoPoint_198 rfl ?_
                  refine ez_if_ne (tgt := 205) (by decide) d_Mo_twoPoint_200 rfl (fun c200 => ?_) (fun c200 => absurd c200 (by omega))
                  refine ev_aload_n d_Mo_twoPoint_205 rfl rfl ?_
                  refine ev_callV M_Mo_keep (rm 0 0) _ (As := []) (c_Mo_keep G h σ m s1 s2 s3 s4 k0 k1 k2 k3 k4 0 0 0 _ _ _ _ _ _ _ _ _ hm f4 f5 f6 f7 f8 f9 f10 f11 f12 f13 f14 f15 hs1 hs2 hs3 hs4 hk0 hk1 hk2 hk3 hk4 (by decide) (by decide) n_s n_k) d_Mo_twoPoint_206 mk_Mo_keep ml_Mo_176 mv_Mo_keep hm rfl rfl rfl (Nat.le_of_ble_eq_true rfl) ⟨by decide, by decide⟩ ⟨by decide, by decide⟩ (fun r h3 hq => ?_)
                  obtain ⟨rfl, ⟨σ4, hm, _, _, fs2⟩, _, _, _, _, _, _⟩ := hq
                  have f0 := (fs2 0 (by decide)).trans f0
                  have f2 := (fs2 2 (by decide)).trans f2
                  have f3 := (fs2 3 (by decide)).trans f3
                  have f4 := (fs2 4 (by decide)).trans f4
                  have f5 := (fs2 5 (by decide)).trans f5
                  have f6 := (fs2 6 (by decide)).trans f6
                  have f7 := (fs2 7 (by decide)).trans f7
                  have f8 := (fs2 8 (by decide)).trans f8
                  have f11 := (fs2 11 (by decide)).trans f11
                  have f12 := (fs2 12 (by decide)).trans f12
                  have f13 := (fs2 13 (by decide)).trans f13
                  have f14 := (fs2 14 (by decide)).trans f14
                  have f15 := (fs2 15 (by decide)).trans f15
                  have f16 := (fs2 16 (by decide)).trans f16
                  have f17 := (fs2 17 (by decide)).trans f17
                  have f18 := (fs2 18 (by decide)).trans f18
                  have f23 := (fs2 23 (by decide)).trans f23
                  have f24 := (fs2 24 (by decide)).trans f24
                  refine ev_iconst (v := iZ 0) d_Mo_twoPoint_209 rfl ?_
                  refine ev_istore (L' := [(0, .ref m), (1, .int (iZ a)), (2, .int (iZ c)), (3, .int (iZ b)), (4, .int (iZ d)), (5, .long (lZ 28224000)), (7, .int (iZ 1)), (8, .int (iZ 0))]) d_Mo_twoPoint_210 (by decide) rfl ?_
                  refine ev_iload d_Mo_twoPoint_212 rfl ?_
                  refine ev_aload_n d_Mo_twoPoint_214 rfl rfl ?_
                  refine ev_getF d_Mo_twoPoint_215 fl_Mo_92 hm (by decide) f4 ?_
                  refine ez_icmp_ge (tgt := 287) (by decide) (by decide) d_Mo_twoPoint_218 rfl (fun c218 => ?_) (fun c218 => absurd c218 (by omega))
                  refine ev_iconst (v := iZ 1) d_Mo_twoPoint_287 rfl ?_
                  exact ev_zreturn d_Mo_twoPoint_288 rfl (Or.inr rfl) (by decide) (by decide) (by rw [show (tpZ a c b d : Int) = 1 from by unfold tpZ; split <;> omega])
