theorem d_Ro_lines_0 : decode M_Ro_lines.2.1 0 = .ok (.iconst 1, 1) := by decide +kernel
theorem d_Ro_lines_1 : decode M_Ro_lines.2.1 1 = .ok (.istore_n 2, 1) := by decide +kernel
theorem d_Ro_lines_2 : decode M_Ro_lines.2.1 2 = .ok (.iconst 0, 1) := by decide +kernel
theorem d_Ro_lines_3 : decode M_Ro_lines.2.1 3 = .ok (.istore_n 3, 1) := by decide +kernel
theorem d_Ro_lines_4 : decode M_Ro_lines.2.1 4 = .ok (.iload_n 3, 1) := by decide +kernel
theorem d_Ro_lines_5 : decode M_Ro_lines.2.1 5 = .ok (.aload_n 0, 1) := by decide +kernel
theorem d_Ro_lines_6 : decode M_Ro_lines.2.1 6 = .ok (.getfield 18, 3) := by decide +kernel
theorem d_Ro_lines_9 : decode M_Ro_lines.2.1 9 = .ok (.iload_n 1, 1) := by decide +kernel
theorem d_Ro_lines_10 : decode M_Ro_lines.2.1 10 = .ok (.iaload, 1) := by decide +kernel
theorem d_Ro_lines_11 : decode M_Ro_lines.2.1 11 = .ok (.if_icmp .ge 23, 3) := by decide +kernel
theorem d_Ro_lines_14 : decode M_Ro_lines.2.1 14 = .ok (.aload_n 0, 1) := by decide +kernel
theorem d_Ro_lines_15 : decode M_Ro_lines.2.1 15 = .ok (.iload_n 1, 1) := by decide +kernel
theorem d_Ro_lines_16 : decode M_Ro_lines.2.1 16 = .ok (.iload_n 3, 1) := by decide +kernel
theorem d_Ro_lines_17 : decode M_Ro_lines.2.1 17 = .ok (.invokevirtual 29, 3) := by decide +kernel
theorem d_Ro_lines_20 : decode M_Ro_lines.2.1 20 = .ok (.bipush 10, 2) := by decide +kernel
theorem d_Ro_lines_22 : decode M_Ro_lines.2.1 22 = .ok (.if_icmp .ne 6, 3) := by decide +kernel
theorem d_Ro_lines_25 : decode M_Ro_lines.2.1 25 = .ok (.iinc 2 1, 3) := by decide +kernel
theorem d_Ro_lines_28 : decode M_Ro_lines.2.1 28 = .ok (.iinc 3 1, 3) := by decide +kernel
theorem d_Ro_lines_31 : decode M_Ro_lines.2.1 31 = .ok (.goto (-27), 3) := by decide +kernel
theorem d_Ro_lines_34 : decode M_Ro_lines.2.1 34 = .ok (.iload_n 2, 1) := by decide +kernel
theorem d_Ro_lines_35 : decode M_Ro_lines.2.1 35 = .ok (.ireturn, 1) := by decide +kernel
theorem d_Ro_cells_0 : decode M_Ro_cells.2.1 0 = .ok (.iconst 0, 1) := by decide +kernel
theorem d_Ro_cells_1 : decode M_Ro_cells.2.1 1 = .ok (.istore 4, 2) := by decide +kernel
theorem d_Ro_cells_3 : decode M_Ro_cells.2.1 3 = .ok (.iload_n 2, 1) := by decide +kernel
theorem d_Ro_cells_4 : decode M_Ro_cells.2.1 4 = .ok (.istore 5, 2) := by decide +kernel
theorem d_Ro_cells_6 : decode M_Ro_cells.2.1 6 = .ok (.iload 5, 2) := by decide +kernel
theorem d_Ro_cells_8 : decode M_Ro_cells.2.1 8 = .ok (.iload_n 3, 1) := by decide +kernel
theorem d_Ro_cells_9 : decode M_Ro_cells.2.1 9 = .ok (.if_icmp .ge 24, 3) := by decide +kernel
theorem d_Ro_cells_12 : decode M_Ro_cells.2.1 12 = .ok (.iload 4, 2) := by decide +kernel
theorem d_Ro_cells_14 : decode M_Ro_cells.2.1 14 = .ok (.aload_n 0, 1) := by decide +kernel
theorem d_Ro_cells_15 : decode M_Ro_cells.2.1 15 = .ok (.iload_n 1, 1) := by decide +kernel
theorem d_Ro_cells_16 : decode M_Ro_cells.2.1 16 = .ok (.iload 5, 2) := by decide +kernel
theorem d_Ro_cells_18 : decode M_Ro_cells.2.1 18 = .ok (.invokevirtual 29, 3) := by decide +kernel
theorem d_Ro_cells_21 : decode M_Ro_cells.2.1 21 = .ok (.invokestatic 33, 3) := by decide +kernel
theorem d_Ro_cells_24 : decode M_Ro_cells.2.1 24 = .ok (.iadd, 1) := by decide +kernel
theorem d_Ro_cells_25 : decode M_Ro_cells.2.1 25 = .ok (.istore 4, 2) := by decide +kernel
theorem d_Ro_cells_27 : decode M_Ro_cells.2.1 27 = .ok (.iinc 5 1, 3) := by decide +kernel
theorem d_Ro_cells_30 : decode M_Ro_cells.2.1 30 = .ok (.goto (-24), 3) := by decide +kernel
theorem d_Ro_cells_33 : decode M_Ro_cells.2.1 33 = .ok (.iload 4, 2) := by decide +kernel
theorem d_Ro_cells_35 : decode M_Ro_cells.2.1 35 = .ok (.ireturn, 1) := by decide +kernel
theorem d_Mo_cells_0 : decode M_Mo_cells.2.1 0 = .ok (.iconst 0, 1) := by decide +kernel
theorem d_Mo_cells_1 : decode M_Mo_cells.2.1 1 = .ok (.istore 4, 2) := by decide +kernel
theorem d_Mo_cells_3 : decode M_Mo_cells.2.1 3 = .ok (.iload_n 2, 1) := by decide +kernel
theorem d_Mo_cells_4 : decode M_Mo_cells.2.1 4 = .ok (.istore 5, 2) := by decide +kernel
theorem d_Mo_cells_6 : decode M_Mo_cells.2.1 6 = .ok (.iload 5, 2) := by decide +kernel
theorem d_Mo_cells_8 : decode M_Mo_cells.2.1 8 = .ok (.iload_n 3, 1) := by decide +kernel
theorem d_Mo_cells_9 : decode M_Mo_cells.2.1 9 = .ok (.if_icmp .ge 29, 3) := by decide +kernel
theorem d_Mo_cells_12 : decode M_Mo_cells.2.1 12 = .ok (.iload 4, 2) := by decide +kernel
theorem d_Mo_cells_14 : decode M_Mo_cells.2.1 14 = .ok (.aload_n 0, 1) := by decide +kernel
theorem d_Mo_cells_15 : decode M_Mo_cells.2.1 15 = .ok (.getfield 30, 3) := by decide +kernel
theorem d_Mo_cells_18 : decode M_Mo_cells.2.1 18 = .ok (.bipush 64, 2) := by decide +kernel
theorem d_Mo_cells_20 : decode M_Mo_cells.2.1 20 = .ok (.iload_n 1, 1) := by decide +kernel
theorem d_Mo_cells_21 : decode M_Mo_cells.2.1 21 = .ok (.imul, 1) := by decide +kernel
theorem d_Mo_cells_22 : decode M_Mo_cells.2.1 22 = .ok (.iload 5, 2) := by decide +kernel
theorem d_Mo_cells_24 : decode M_Mo_cells.2.1 24 = .ok (.iadd, 1) := by decide +kernel
theorem d_Mo_cells_25 : decode M_Mo_cells.2.1 25 = .ok (.iaload, 1) := by decide +kernel
theorem d_Mo_cells_26 : decode M_Mo_cells.2.1 26 = .ok (.invokestatic 88, 3) := by decide +kernel
theorem d_Mo_cells_29 : decode M_Mo_cells.2.1 29 = .ok (.iadd, 1) := by decide +kernel
theorem d_Mo_cells_30 : decode M_Mo_cells.2.1 30 = .ok (.istore 4, 2) := by decide +kernel
theorem d_Mo_cells_32 : decode M_Mo_cells.2.1 32 = .ok (.iinc 5 1, 3) := by decide +kernel
theorem d_Mo_cells_35 : decode M_Mo_cells.2.1 35 = .ok (.goto (-29), 3) := by decide +kernel
theorem d_Mo_cells_38 : decode M_Mo_cells.2.1 38 = .ok (.iload 4, 2) := by decide +kernel
theorem d_Mo_cells_40 : decode M_Mo_cells.2.1 40 = .ok (.ireturn, 1) := by decide +kernel
theorem d_CB_cue_0 : decode M_CB_cue.2.1 0 = .ok (.aload_n 0, 1) := by decide +kernel
theorem d_CB_cue_1 : decode M_CB_cue.2.1 1 = .ok (.getfield 33, 3) := by decide +kernel
theorem d_CB_cue_4 : decode M_CB_cue.2.1 4 = .ok (.iload_n 1, 1) := by decide +kernel
theorem d_CB_cue_5 : decode M_CB_cue.2.1 5 = .ok (.invokevirtual 121, 3) := by decide +kernel
theorem d_CB_cue_8 : decode M_CB_cue.2.1 8 = .ok (.ifCond .ne 7, 3) := by decide +kernel
theorem d_CB_cue_11 : decode M_CB_cue.2.1 11 = .ok (.ldc2_w 124, 3) := by decide +kernel
theorem d_CB_cue_14 : decode M_CB_cue.2.1 14 = .ok (.lreturn, 1) := by decide +kernel
theorem d_CB_cue_15 : decode M_CB_cue.2.1 15 = .ok (.iload_n 2, 1) := by decide +kernel
theorem d_CB_cue_16 : decode M_CB_cue.2.1 16 = .ok (.tableswitch 97 0 4 #[36, 46, 56, 67, 77], 36) := by decide +kernel
theorem d_CB_cue_52 : decode M_CB_cue.2.1 52 = .ok (.aload_n 0, 1) := by decide +kernel
theorem d_CB_cue_53 : decode M_CB_cue.2.1 53 = .ok (.getfield 33, 3) := by decide +kernel
theorem d_CB_cue_56 : decode M_CB_cue.2.1 56 = .ok (.getfield 126, 3) := by decide +kernel
theorem d_CB_cue_59 : decode M_CB_cue.2.1 59 = .ok (.iload_n 1, 1) := by decide +kernel
theorem d_CB_cue_60 : decode M_CB_cue.2.1 60 = .ok (.laload, 1) := by decide +kernel
theorem d_CB_cue_61 : decode M_CB_cue.2.1 61 = .ok (.lreturn, 1) := by decide +kernel
theorem d_CB_cue_62 : decode M_CB_cue.2.1 62 = .ok (.aload_n 0, 1) := by decide +kernel
theorem d_CB_cue_63 : decode M_CB_cue.2.1 63 = .ok (.getfield 33, 3) := by decide +kernel
theorem d_CB_cue_66 : decode M_CB_cue.2.1 66 = .ok (.getfield 130, 3) := by decide +kernel
theorem d_CB_cue_69 : decode M_CB_cue.2.1 69 = .ok (.iload_n 1, 1) := by decide +kernel
theorem d_CB_cue_70 : decode M_CB_cue.2.1 70 = .ok (.laload, 1) := by decide +kernel
theorem d_CB_cue_71 : decode M_CB_cue.2.1 71 = .ok (.lreturn, 1) := by decide +kernel
theorem d_CB_cue_72 : decode M_CB_cue.2.1 72 = .ok (.aload_n 0, 1) := by decide +kernel
theorem d_CB_cue_73 : decode M_CB_cue.2.1 73 = .ok (.getfield 33, 3) := by decide +kernel
theorem d_CB_cue_76 : decode M_CB_cue.2.1 76 = .ok (.getfield 133, 3) := by decide +kernel
theorem d_CB_cue_79 : decode M_CB_cue.2.1 79 = .ok (.iload_n 1, 1) := by decide +kernel
theorem d_CB_cue_80 : decode M_CB_cue.2.1 80 = .ok (.iaload, 1) := by decide +kernel
theorem d_CB_cue_81 : decode M_CB_cue.2.1 81 = .ok (.i2l, 1) := by decide +kernel
theorem d_CB_cue_82 : decode M_CB_cue.2.1 82 = .ok (.lreturn, 1) := by decide +kernel
theorem d_CB_cue_83 : decode M_CB_cue.2.1 83 = .ok (.aload_n 0, 1) := by decide +kernel
theorem d_CB_cue_84 : decode M_CB_cue.2.1 84 = .ok (.getfield 33, 3) := by decide +kernel
theorem d_CB_cue_87 : decode M_CB_cue.2.1 87 = .ok (.iload_n 1, 1) := by decide +kernel
theorem d_CB_cue_88 : decode M_CB_cue.2.1 88 = .ok (.invokevirtual 137, 3) := by decide +kernel
theorem d_CB_cue_91 : decode M_CB_cue.2.1 91 = .ok (.i2l, 1) := by decide +kernel
theorem d_CB_cue_92 : decode M_CB_cue.2.1 92 = .ok (.lreturn, 1) := by decide +kernel
theorem d_CB_cue_93 : decode M_CB_cue.2.1 93 = .ok (.aload_n 0, 1) := by decide +kernel
theorem d_CB_cue_94 : decode M_CB_cue.2.1 94 = .ok (.getfield 33, 3) := by decide +kernel
theorem d_CB_cue_97 : decode M_CB_cue.2.1 97 = .ok (.iload_n 1, 1) := by decide +kernel
theorem d_CB_cue_98 : decode M_CB_cue.2.1 98 = .ok (.iconst 0, 1) := by decide +kernel
theorem d_CB_cue_99 : decode M_CB_cue.2.1 99 = .ok (.aload_n 0, 1) := by decide +kernel
theorem d_CB_cue_100 : decode M_CB_cue.2.1 100 = .ok (.getfield 33, 3) := by decide +kernel
theorem d_CB_cue_103 : decode M_CB_cue.2.1 103 = .ok (.getfield 133, 3) := by decide +kernel
theorem d_CB_cue_106 : decode M_CB_cue.2.1 106 = .ok (.iload_n 1, 1) := by decide +kernel
theorem d_CB_cue_107 : decode M_CB_cue.2.1 107 = .ok (.iaload, 1) := by decide +kernel
theorem d_CB_cue_108 : decode M_CB_cue.2.1 108 = .ok (.invokevirtual 140, 3) := by decide +kernel
theorem d_CB_cue_111 : decode M_CB_cue.2.1 111 = .ok (.i2l, 1) := by decide +kernel
theorem d_CB_cue_112 : decode M_CB_cue.2.1 112 = .ok (.lreturn, 1) := by decide +kernel
theorem d_CB_cue_113 : decode M_CB_cue.2.1 113 = .ok (.ldc2_w 124, 3) := by decide +kernel
theorem d_CB_cue_116 : decode M_CB_cue.2.1 116 = .ok (.lreturn, 1) := by decide +kernel
theorem d_CB_text_0 : decode M_CB_text.2.1 0 = .ok (.aload_n 0, 1) := by decide +kernel
theorem d_CB_text_1 : decode M_CB_text.2.1 1 = .ok (.getfield 33, 3) := by decide +kernel
theorem d_CB_text_4 : decode M_CB_text.2.1 4 = .ok (.iload_n 1, 1) := by decide +kernel
theorem d_CB_text_5 : decode M_CB_text.2.1 5 = .ok (.invokevirtual 121, 3) := by decide +kernel
theorem d_CB_text_8 : decode M_CB_text.2.1 8 = .ok (.ifCond .eq 20, 3) := by decide +kernel
theorem d_CB_text_11 : decode M_CB_text.2.1 11 = .ok (.iload_n 2, 1) := by decide +kernel
theorem d_CB_text_12 : decode M_CB_text.2.1 12 = .ok (.ifCond .lt 16, 3) := by decide +kernel
theorem d_CB_text_15 : decode M_CB_text.2.1 15 = .ok (.iload_n 2, 1) := by decide +kernel
theorem d_CB_text_16 : decode M_CB_text.2.1 16 = .ok (.aload_n 0, 1) := by decide +kernel
theorem d_CB_text_17 : decode M_CB_text.2.1 17 = .ok (.getfield 33, 3) := by decide +kernel
theorem d_CB_text_20 : decode M_CB_text.2.1 20 = .ok (.getfield 133, 3) := by decide +kernel
theorem d_CB_text_23 : decode M_CB_text.2.1 23 = .ok (.iload_n 1, 1) := by decide +kernel
theorem d_CB_text_24 : decode M_CB_text.2.1 24 = .ok (.iaload, 1) := by decide +kernel
theorem d_CB_text_25 : decode M_CB_text.2.1 25 = .ok (.if_icmp .lt 5, 3) := by decide +kernel
theorem d_CB_text_28 : decode M_CB_text.2.1 28 = .ok (.iconst (-1), 1) := by decide +kernel
theorem d_CB_text_29 : decode M_CB_text.2.1 29 = .ok (.ireturn, 1) := by decide +kernel
theorem d_CB_text_30 : decode M_CB_text.2.1 30 = .ok (.aload_n 0, 1) := by decide +kernel
theorem d_CB_text_31 : decode M_CB_text.2.1 31 = .ok (.getfield 33, 3) := by decide +kernel
theorem d_CB_text_34 : decode M_CB_text.2.1 34 = .ok (.iload_n 1, 1) := by decide +kernel
theorem d_CB_text_35 : decode M_CB_text.2.1 35 = .ok (.iload_n 2, 1) := by decide +kernel
theorem d_CB_text_36 : decode M_CB_text.2.1 36 = .ok (.invokevirtual 144, 3) := by decide +kernel
theorem d_CB_text_39 : decode M_CB_text.2.1 39 = .ok (.ireturn, 1) := by decide +kernel
theorem d_Mo_isCue_0 : decode M_Mo_isCue.2.1 0 = .ok (.iload_n 1, 1) := by decide +kernel
theorem d_Mo_isCue_1 : decode M_Mo_isCue.2.1 1 = .ok (.ifCond .lt 15, 3) := by decide +kernel
theorem d_Mo_isCue_4 : decode M_Mo_isCue.2.1 4 = .ok (.iload_n 1, 1) := by decide +kernel
theorem d_Mo_isCue_5 : decode M_Mo_isCue.2.1 5 = .ok (.aload_n 0, 1) := by decide +kernel
theorem d_Mo_isCue_6 : decode M_Mo_isCue.2.1 6 = .ok (.getfield 92, 3) := by decide +kernel
theorem d_Mo_isCue_9 : decode M_Mo_isCue.2.1 9 = .ok (.if_icmp .ge 7, 3) := by decide +kernel
theorem d_Mo_isCue_12 : decode M_Mo_isCue.2.1 12 = .ok (.iconst 1, 1) := by decide +kernel
theorem d_Mo_isCue_13 : decode M_Mo_isCue.2.1 13 = .ok (.goto 4, 3) := by decide +kernel
theorem d_Mo_isCue_16 : decode M_Mo_isCue.2.1 16 = .ok (.iconst 0, 1) := by decide +kernel
theorem d_Mo_isCue_17 : decode M_Mo_isCue.2.1 17 = .ok (.ireturn, 1) := by decide +kernel
theorem d_Mo_isTime_0 : decode M_Mo_isTime.2.1 0 = .ok (.lload_n 1, 1) := by decide +kernel
theorem d_Mo_isTime_1 : decode M_Mo_isTime.2.1 1 = .ok (.lconst 0, 1) := by decide +kernel
theorem d_Mo_isTime_2 : decode M_Mo_isTime.2.1 2 = .ok (.lcmp, 1) := by decide +kernel
theorem d_Mo_isTime_3 : decode M_Mo_isTime.2.1 3 = .ok (.ifCond .lt 15, 3) := by decide +kernel
theorem d_Mo_isTime_6 : decode M_Mo_isTime.2.1 6 = .ok (.lload_n 1, 1) := by decide +kernel
theorem d_Mo_isTime_7 : decode M_Mo_isTime.2.1 7 = .ok (.ldc2_w 171, 3) := by decide +kernel
theorem d_Mo_isTime_10 : decode M_Mo_isTime.2.1 10 = .ok (.lcmp, 1) := by decide +kernel
theorem d_Mo_isTime_11 : decode M_Mo_isTime.2.1 11 = .ok (.ifCond .gt 7, 3) := by decide +kernel
theorem d_Mo_isTime_14 : decode M_Mo_isTime.2.1 14 = .ok (.iconst 1, 1) := by decide +kernel
theorem d_Mo_isTime_15 : decode M_Mo_isTime.2.1 15 = .ok (.goto 4, 3) := by decide +kernel
theorem d_Mo_isTime_18 : decode M_Mo_isTime.2.1 18 = .ok (.iconst 0, 1) := by decide +kernel
theorem d_Mo_isTime_19 : decode M_Mo_isTime.2.1 19 = .ok (.ireturn, 1) := by decide +kernel
theorem d_Mo_frame_0 : decode M_Mo_frame.2.1 0 = .ok (.ldc2_w 86, 3) := by decide +kernel
theorem d_Mo_frame_3 : decode M_Mo_frame.2.1 3 = .ok (.aload_n 0, 1) := by decide +kernel
theorem d_Mo_frame_4 : decode M_Mo_frame.2.1 4 = .ok (.getfield 17, 3) := by decide +kernel
theorem d_Mo_frame_7 : decode M_Mo_frame.2.1 7 = .ok (.i2l, 1) := by decide +kernel
theorem d_Mo_frame_8 : decode M_Mo_frame.2.1 8 = .ok (.lmul, 1) := by decide +kernel
theorem d_Mo_frame_9 : decode M_Mo_frame.2.1 9 = .ok (.aload_n 0, 1) := by decide +kernel
theorem d_Mo_frame_10 : decode M_Mo_frame.2.1 10 = .ok (.getfield 13, 3) := by decide +kernel
theorem d_Mo_frame_13 : decode M_Mo_frame.2.1 13 = .ok (.i2l, 1) := by decide +kernel
theorem d_Mo_frame_14 : decode M_Mo_frame.2.1 14 = .ok (.ldiv, 1) := by decide +kernel
theorem d_Mo_frame_15 : decode M_Mo_frame.2.1 15 = .ok (.lreturn, 1) := by decide +kernel
theorem d_Mo_cue_0 : decode M_Mo_cue.2.1 0 = .ok (.aload_n 0, 1) := by decide +kernel
theorem d_Mo_cue_1 : decode M_Mo_cue.2.1 1 = .ok (.iload_n 1, 1) := by decide +kernel
theorem d_Mo_cue_2 : decode M_Mo_cue.2.1 2 = .ok (.invokevirtual 217, 3) := by decide +kernel
theorem d_Mo_cue_5 : decode M_Mo_cue.2.1 5 = .ok (.ifCond .eq 12, 3) := by decide +kernel
theorem d_Mo_cue_8 : decode M_Mo_cue.2.1 8 = .ok (.iload_n 2, 1) := by decide +kernel
theorem d_Mo_cue_9 : decode M_Mo_cue.2.1 9 = .ok (.ifCond .lt 8, 3) := by decide +kernel
theorem d_Mo_cue_12 : decode M_Mo_cue.2.1 12 = .ok (.iload_n 2, 1) := by decide +kernel
theorem d_Mo_cue_13 : decode M_Mo_cue.2.1 13 = .ok (.iconst 4, 1) := by decide +kernel
theorem d_Mo_cue_14 : decode M_Mo_cue.2.1 14 = .ok (.if_icmp .le 7, 3) := by decide +kernel
theorem d_Mo_cue_17 : decode M_Mo_cue.2.1 17 = .ok (.ldc2_w 220, 3) := by decide +kernel
theorem d_Mo_cue_20 : decode M_Mo_cue.2.1 20 = .ok (.lreturn, 1) := by decide +kernel
theorem d_Mo_cue_21 : decode M_Mo_cue.2.1 21 = .ok (.iconst 1, 1) := by decide +kernel
theorem d_Mo_cue_22 : decode M_Mo_cue.2.1 22 = .ok (.istore_n 3, 1) := by decide +kernel
theorem d_Mo_cue_23 : decode M_Mo_cue.2.1 23 = .ok (.iconst 0, 1) := by decide +kernel
theorem d_Mo_cue_24 : decode M_Mo_cue.2.1 24 = .ok (.istore 4, 2) := by decide +kernel
theorem d_Mo_cue_26 : decode M_Mo_cue.2.1 26 = .ok (.iload 4, 2) := by decide +kernel
theorem d_Mo_cue_28 : decode M_Mo_cue.2.1 28 = .ok (.aload_n 0, 1) := by decide +kernel
theorem d_Mo_cue_29 : decode M_Mo_cue.2.1 29 = .ok (.getfield 27, 3) := by decide +kernel
theorem d_Mo_cue_32 : decode M_Mo_cue.2.1 32 = .ok (.iload_n 1, 1) := by decide +kernel
theorem d_Mo_cue_33 : decode M_Mo_cue.2.1 33 = .ok (.iaload, 1) := by decide +kernel
theorem d_Mo_cue_34 : decode M_Mo_cue.2.1 34 = .ok (.if_icmp .ge 34, 3) := by decide +kernel
theorem d_Mo_cue_37 : decode M_Mo_cue.2.1 37 = .ok (.aload_n 0, 1) := by decide +kernel
theorem d_Mo_cue_38 : decode M_Mo_cue.2.1 38 = .ok (.getfield 30, 3) := by decide +kernel
theorem d_Mo_cue_41 : decode M_Mo_cue.2.1 41 = .ok (.bipush 64, 2) := by decide +kernel
theorem d_Mo_cue_43 : decode M_Mo_cue.2.1 43 = .ok (.iload_n 1, 1) := by decide +kernel
theorem d_Mo_cue_44 : decode M_Mo_cue.2.1 44 = .ok (.imul, 1) := by decide +kernel
theorem d_Mo_cue_45 : decode M_Mo_cue.2.1 45 = .ok (.iload 4, 2) := by decide +kernel
theorem d_Mo_cue_47 : decode M_Mo_cue.2.1 47 = .ok (.iadd, 1) := by decide +kernel
theorem d_Mo_cue_48 : decode M_Mo_cue.2.1 48 = .ok (.iaload, 1) := by decide +kernel
theorem d_Mo_cue_49 : decode M_Mo_cue.2.1 49 = .ok (.bipush 10, 2) := by decide +kernel
theorem d_Mo_cue_51 : decode M_Mo_cue.2.1 51 = .ok (.if_icmp .ne 9, 3) := by decide +kernel
theorem d_Mo_cue_54 : decode M_Mo_cue.2.1 54 = .ok (.iload_n 3, 1) := by decide +kernel
theorem d_Mo_cue_55 : decode M_Mo_cue.2.1 55 = .ok (.iconst 1, 1) := by decide +kernel
theorem d_Mo_cue_56 : decode M_Mo_cue.2.1 56 = .ok (.iadd, 1) := by decide +kernel
theorem d_Mo_cue_57 : decode M_Mo_cue.2.1 57 = .ok (.goto 4, 3) := by decide +kernel
theorem d_Mo_cue_60 : decode M_Mo_cue.2.1 60 = .ok (.iload_n 3, 1) := by decide +kernel
theorem d_Mo_cue_61 : decode M_Mo_cue.2.1 61 = .ok (.istore_n 3, 1) := by decide +kernel
theorem d_Mo_cue_62 : decode M_Mo_cue.2.1 62 = .ok (.iinc 4 1, 3) := by decide +kernel
theorem d_Mo_cue_65 : decode M_Mo_cue.2.1 65 = .ok (.goto (-39), 3) := by decide +kernel
theorem d_Mo_cue_68 : decode M_Mo_cue.2.1 68 = .ok (.iload_n 2, 1) := by decide +kernel
theorem d_Mo_cue_69 : decode M_Mo_cue.2.1 69 = .ok (.tableswitch 56 0 3 #[31, 38, 45, 53], 31) := by decide +kernel
theorem d_Mo_cue_100 : decode M_Mo_cue.2.1 100 = .ok (.aload_n 0, 1) := by decide +kernel
theorem d_Mo_cue_101 : decode M_Mo_cue.2.1 101 = .ok (.getfield 20, 3) := by decide +kernel
theorem d_Mo_cue_104 : decode M_Mo_cue.2.1 104 = .ok (.iload_n 1, 1) := by decide +kernel
theorem d_Mo_cue_105 : decode M_Mo_cue.2.1 105 = .ok (.laload, 1) := by decide +kernel
theorem d_Mo_cue_106 : decode M_Mo_cue.2.1 106 = .ok (.lreturn, 1) := by decide +kernel
theorem d_Mo_cue_107 : decode M_Mo_cue.2.1 107 = .ok (.aload_n 0, 1) := by decide +kernel
theorem d_Mo_cue_108 : decode M_Mo_cue.2.1 108 = .ok (.getfield 24, 3) := by decide +kernel
theorem d_Mo_cue_111 : decode M_Mo_cue.2.1 111 = .ok (.iload_n 1, 1) := by decide +kernel
theorem d_Mo_cue_112 : decode M_Mo_cue.2.1 112 = .ok (.laload, 1) := by decide +kernel
theorem d_Mo_cue_113 : decode M_Mo_cue.2.1 113 = .ok (.lreturn, 1) := by decide +kernel
theorem d_Mo_cue_114 : decode M_Mo_cue.2.1 114 = .ok (.aload_n 0, 1) := by decide +kernel
theorem d_Mo_cue_115 : decode M_Mo_cue.2.1 115 = .ok (.getfield 27, 3) := by decide +kernel
theorem d_Mo_cue_118 : decode M_Mo_cue.2.1 118 = .ok (.iload_n 1, 1) := by decide +kernel
theorem d_Mo_cue_119 : decode M_Mo_cue.2.1 119 = .ok (.iaload, 1) := by decide +kernel
theorem d_Mo_cue_120 : decode M_Mo_cue.2.1 120 = .ok (.i2l, 1) := by decide +kernel
theorem d_Mo_cue_121 : decode M_Mo_cue.2.1 121 = .ok (.lreturn, 1) := by decide +kernel
theorem d_Mo_cue_122 : decode M_Mo_cue.2.1 122 = .ok (.iload_n 3, 1) := by decide +kernel
theorem d_Mo_cue_123 : decode M_Mo_cue.2.1 123 = .ok (.i2l, 1) := by decide +kernel
theorem d_Mo_cue_124 : decode M_Mo_cue.2.1 124 = .ok (.lreturn, 1) := by decide +kernel
theorem d_Mo_cue_125 : decode M_Mo_cue.2.1 125 = .ok (.aload_n 0, 1) := by decide +kernel
theorem d_Mo_cue_126 : decode M_Mo_cue.2.1 126 = .ok (.iload_n 1, 1) := by decide +kernel
theorem d_Mo_cue_127 : decode M_Mo_cue.2.1 127 = .ok (.iconst 0, 1) := by decide +kernel
theorem d_Mo_cue_128 : decode M_Mo_cue.2.1 128 = .ok (.aload_n 0, 1) := by decide +kernel
theorem d_Mo_cue_129 : decode M_Mo_cue.2.1 129 = .ok (.getfield 27, 3) := by decide +kernel
theorem d_Mo_cue_132 : decode M_Mo_cue.2.1 132 = .ok (.iload_n 1, 1) := by decide +kernel
theorem d_Mo_cue_133 : decode M_Mo_cue.2.1 133 = .ok (.iaload, 1) := by decide +kernel
theorem d_Mo_cue_134 : decode M_Mo_cue.2.1 134 = .ok (.invokevirtual 222, 3) := by decide +kernel
theorem d_Mo_cue_137 : decode M_Mo_cue.2.1 137 = .ok (.i2l, 1) := by decide +kernel
theorem d_Mo_cue_138 : decode M_Mo_cue.2.1 138 = .ok (.lreturn, 1) := by decide +kernel
theorem d_Mo_text_0 : decode M_Mo_text.2.1 0 = .ok (.aload_n 0, 1) := by decide +kernel
theorem d_Mo_text_1 : decode M_Mo_text.2.1 1 = .ok (.iload_n 1, 1) := by decide +kernel
theorem d_Mo_text_2 : decode M_Mo_text.2.1 2 = .ok (.invokevirtual 217, 3) := by decide +kernel
theorem d_Mo_text_5 : decode M_Mo_text.2.1 5 = .ok (.ifCond .eq 31, 3) := by decide +kernel
theorem d_Mo_text_8 : decode M_Mo_text.2.1 8 = .ok (.iload_n 2, 1) := by decide +kernel
theorem d_Mo_text_9 : decode M_Mo_text.2.1 9 = .ok (.ifCond .lt 27, 3) := by decide +kernel
theorem d_Mo_text_12 : decode M_Mo_text.2.1 12 = .ok (.iload_n 2, 1) := by decide +kernel
theorem d_Mo_text_13 : decode M_Mo_text.2.1 13 = .ok (.aload_n 0, 1) := by decide +kernel
theorem d_Mo_text_14 : decode M_Mo_text.2.1 14 = .ok (.getfield 27, 3) := by decide +kernel
theorem d_Mo_text_17 : decode M_Mo_text.2.1 17 = .ok (.iload_n 1, 1) := by decide +kernel
theorem d_Mo_text_18 : decode M_Mo_text.2.1 18 = .ok (.iaload, 1) := by decide +kernel
theorem d_Mo_text_19 : decode M_Mo_text.2.1 19 = .ok (.if_icmp .ge 17, 3) := by decide +kernel
theorem d_Mo_text_22 : decode M_Mo_text.2.1 22 = .ok (.aload_n 0, 1) := by decide +kernel
theorem d_Mo_text_23 : decode M_Mo_text.2.1 23 = .ok (.getfield 30, 3) := by decide +kernel
theorem d_Mo_text_26 : decode M_Mo_text.2.1 26 = .ok (.bipush 64, 2) := by decide +kernel
theorem d_Mo_text_28 : decode M_Mo_text.2.1 28 = .ok (.iload_n 1, 1) := by decide +kernel
theorem d_Mo_text_29 : decode M_Mo_text.2.1 29 = .ok (.imul, 1) := by decide +kernel
theorem d_Mo_text_30 : decode M_Mo_text.2.1 30 = .ok (.iload_n 2, 1) := by decide +kernel
theorem d_Mo_text_31 : decode M_Mo_text.2.1 31 = .ok (.iadd, 1) := by decide +kernel
theorem d_Mo_text_32 : decode M_Mo_text.2.1 32 = .ok (.iaload, 1) := by decide +kernel
theorem d_Mo_text_33 : decode M_Mo_text.2.1 33 = .ok (.goto 4, 3) := by decide +kernel
theorem d_Mo_text_36 : decode M_Mo_text.2.1 36 = .ok (.iconst (-1), 1) := by decide +kernel
theorem d_Mo_text_37 : decode M_Mo_text.2.1 37 = .ok (.ireturn, 1) := by decide +kernel
theorem d_CB_clash_0 : decode M_CB_clash.2.1 0 = .ok (.iconst 0, 1) := by decide +kernel
theorem d_CB_clash_1 : decode M_CB_clash.2.1 1 = .ok (.istore_n 1, 1) := by decide +kernel
theorem d_CB_clash_2 : decode M_CB_clash.2.1 2 = .ok (.iload_n 1, 1) := by decide +kernel
theorem d_CB_clash_3 : decode M_CB_clash.2.1 3 = .ok (.iconst 1, 1) := by decide +kernel
theorem d_CB_clash_4 : decode M_CB_clash.2.1 4 = .ok (.iadd, 1) := by decide +kernel
theorem d_CB_clash_5 : decode M_CB_clash.2.1 5 = .ok (.aload_n 0, 1) := by decide +kernel
theorem d_CB_clash_6 : decode M_CB_clash.2.1 6 = .ok (.getfield 33, 3) := by decide +kernel
theorem d_CB_clash_9 : decode M_CB_clash.2.1 9 = .ok (.getfield 112, 3) := by decide +kernel
theorem d_CB_clash_12 : decode M_CB_clash.2.1 12 = .ok (.if_icmp .ge 35, 3) := by decide +kernel
theorem d_CB_clash_15 : decode M_CB_clash.2.1 15 = .ok (.aload_n 0, 1) := by decide +kernel
theorem d_CB_clash_16 : decode M_CB_clash.2.1 16 = .ok (.getfield 33, 3) := by decide +kernel
theorem d_CB_clash_19 : decode M_CB_clash.2.1 19 = .ok (.getfield 130, 3) := by decide +kernel
theorem d_CB_clash_22 : decode M_CB_clash.2.1 22 = .ok (.iload_n 1, 1) := by decide +kernel
theorem d_CB_clash_23 : decode M_CB_clash.2.1 23 = .ok (.laload, 1) := by decide +kernel
theorem d_CB_clash_24 : decode M_CB_clash.2.1 24 = .ok (.aload_n 0, 1) := by decide +kernel
theorem d_CB_clash_25 : decode M_CB_clash.2.1 25 = .ok (.getfield 33, 3) := by decide +kernel
theorem d_CB_clash_28 : decode M_CB_clash.2.1 28 = .ok (.getfield 126, 3) := by decide +kernel
theorem d_CB_clash_31 : decode M_CB_clash.2.1 31 = .ok (.iload_n 1, 1) := by decide +kernel
theorem d_CB_clash_32 : decode M_CB_clash.2.1 32 = .ok (.iconst 1, 1) := by decide +kernel
theorem d_CB_clash_33 : decode M_CB_clash.2.1 33 = .ok (.iadd, 1) := by decide +kernel
theorem d_CB_clash_34 : decode M_CB_clash.2.1 34 = .ok (.laload, 1) := by decide +kernel
theorem d_CB_clash_35 : decode M_CB_clash.2.1 35 = .ok (.lcmp, 1) := by decide +kernel
theorem d_CB_clash_36 : decode M_CB_clash.2.1 36 = .ok (.ifCond .le 5, 3) := by decide +kernel
theorem d_CB_clash_39 : decode M_CB_clash.2.1 39 = .ok (.iload_n 1, 1) := by decide +kernel
theorem d_CB_clash_40 : decode M_CB_clash.2.1 40 = .ok (.ireturn, 1) := by decide +kernel
theorem d_CB_clash_41 : decode M_CB_clash.2.1 41 = .ok (.iinc 1 1, 3) := by decide +kernel
theorem d_CB_clash_44 : decode M_CB_clash.2.1 44 = .ok (.goto (-42), 3) := by decide +kernel
theorem d_CB_clash_47 : decode M_CB_clash.2.1 47 = .ok (.iconst (-1), 1) := by decide +kernel
theorem d_CB_clash_48 : decode M_CB_clash.2.1 48 = .ok (.ireturn, 1) := by decide +kernel
theorem d_Mo_clash_0 : decode M_Mo_clash.2.1 0 = .ok (.iconst 0, 1) := by decide +kernel
theorem d_Mo_clash_1 : decode M_Mo_clash.2.1 1 = .ok (.istore_n 1, 1) := by decide +kernel
theorem d_Mo_clash_2 : decode M_Mo_clash.2.1 2 = .ok (.iload_n 1, 1) := by decide +kernel
theorem d_Mo_clash_3 : decode M_Mo_clash.2.1 3 = .ok (.iconst 1, 1) := by decide +kernel
theorem d_Mo_clash_4 : decode M_Mo_clash.2.1 4 = .ok (.iadd, 1) := by decide +kernel
theorem d_Mo_clash_5 : decode M_Mo_clash.2.1 5 = .ok (.aload_n 0, 1) := by decide +kernel
theorem d_Mo_clash_6 : decode M_Mo_clash.2.1 6 = .ok (.getfield 92, 3) := by decide +kernel
theorem d_Mo_clash_9 : decode M_Mo_clash.2.1 9 = .ok (.if_icmp .ge 29, 3) := by decide +kernel
theorem d_Mo_clash_12 : decode M_Mo_clash.2.1 12 = .ok (.aload_n 0, 1) := by decide +kernel
theorem d_Mo_clash_13 : decode M_Mo_clash.2.1 13 = .ok (.getfield 24, 3) := by decide +kernel
theorem d_Mo_clash_16 : decode M_Mo_clash.2.1 16 = .ok (.iload_n 1, 1) := by decide +kernel
theorem d_Mo_clash_17 : decode M_Mo_clash.2.1 17 = .ok (.laload, 1) := by decide +kernel
theorem d_Mo_clash_18 : decode M_Mo_clash.2.1 18 = .ok (.aload_n 0, 1) := by decide +kernel
theorem d_Mo_clash_19 : decode M_Mo_clash.2.1 19 = .ok (.getfield 20, 3) := by decide +kernel
theorem d_Mo_clash_22 : decode M_Mo_clash.2.1 22 = .ok (.iload_n 1, 1) := by decide +kernel
theorem d_Mo_clash_23 : decode M_Mo_clash.2.1 23 = .ok (.iconst 1, 1) := by decide +kernel
theorem d_Mo_clash_24 : decode M_Mo_clash.2.1 24 = .ok (.iadd, 1) := by decide +kernel
theorem d_Mo_clash_25 : decode M_Mo_clash.2.1 25 = .ok (.laload, 1) := by decide +kernel
theorem d_Mo_clash_26 : decode M_Mo_clash.2.1 26 = .ok (.lcmp, 1) := by decide +kernel
theorem d_Mo_clash_27 : decode M_Mo_clash.2.1 27 = .ok (.ifCond .le 5, 3) := by decide +kernel
theorem d_Mo_clash_30 : decode M_Mo_clash.2.1 30 = .ok (.iload_n 1, 1) := by decide +kernel
theorem d_Mo_clash_31 : decode M_Mo_clash.2.1 31 = .ok (.ireturn, 1) := by decide +kernel
theorem d_Mo_clash_32 : decode M_Mo_clash.2.1 32 = .ok (.iinc 1 1, 3) := by decide +kernel
theorem d_Mo_clash_35 : decode M_Mo_clash.2.1 35 = .ok (.goto (-33), 3) := by decide +kernel
theorem d_Mo_clash_38 : decode M_Mo_clash.2.1 38 = .ok (.iconst (-1), 1) := by decide +kernel
theorem d_Mo_clash_39 : decode M_Mo_clash.2.1 39 = .ok (.ireturn, 1) := by decide +kernel
def linesN (F : Nat → Int) (o : Nat) : Nat → Int
  | 0 => 1
  | k + 1 => linesN F o k + (if F (o + k) = 10 then 1 else 0)
def cellsN (F : Nat → Int) (o : Nat) : Nat → Int
  | 0 => 0
  | k + 1 => cellsN F o k + cellZ (F (o + k))
theorem cellZ_r (b : Int) : 0 ≤ cellZ b ∧ cellZ b ≤ 2 := by
  unfold cellZ
  (repeat' split) <;> omega
theorem linesN_r (F : Nat → Int) (o : Nat) : ∀ k : Nat, 1 ≤ linesN F o k ∧ linesN F o k ≤ k + 1
  | 0 => by simp [linesN]
  | k + 1 => by
    have := linesN_r F o k
    unfold linesN
    split <;> omega
theorem cellsN_r (F : Nat → Int) (o : Nat) : ∀ k : Nat, 0 ≤ cellsN F o k ∧ cellsN F o k ≤ 2 * k
  | 0 => by simp [cellsN]
  | k + 1 => by
    have := cellsN_r F o k
    have := cellZ_r (F (o + k))
    unfold cellsN
    omega
theorem linesN_10 {F : Nat → Int} {o k : Nat} (h : F (o + k) = 10) : linesN F o (k + 1) = linesN F o k + 1 := by
  show linesN F o k + (if F (o + k) = 10 then 1 else 0) = _
  rw [if_pos h]
theorem linesN_n {F : Nat → Int} {o k : Nat} (h : F (o + k) ≠ 10) : linesN F o (k + 1) = linesN F o k := by
  show linesN F o k + (if F (o + k) = 10 then 1 else 0) = _
  rw [if_neg h]
  omega
theorem linesN_e {F K : Nat → Int} {o p : Nat} : ∀ k : Nat, (∀ j, j < k → F (o + j) = K (p + j)) → linesN F o k = linesN K p k
  | 0, _ => rfl
  | k + 1, h => by
    unfold linesN
    rw [linesN_e k (fun j hj => h j (by omega)), h k (by omega)]
theorem cellsN_e {F K : Nat → Int} {o p : Nat} : ∀ k : Nat, (∀ j, j < k → F (o + j) = K (p + j)) → cellsN F o k = cellsN K p k
  | 0, _ => rfl
  | k + 1, h => by
    unfold cellsN
    rw [cellsN_e k (fun j hj => h j (by omega)), h k (by omega)]
theorem hasZ_1 {n i : Int} (h : hasZ n i ≠ 0) : 0 ≤ i ∧ i < n := by
  unfold hasZ at h
  split at h <;> omega
theorem hasZ_0 {n i : Int} (h : hasZ n i = 0) : i < 0 ∨ n ≤ i := by
  unfold hasZ at h
  split at h <;> omega
theorem hasZ_r (n i : Int) : hasZ n i = 0 ∨ hasZ n i = 1 := by
  unfold hasZ
  split <;> omega
def cueV (St En Sz By : Nat → Int) (n i w : Int) : Int := if 0 ≤ i ∧ i < n then (if w = 0 then St i.toNat else if w = 1 then En i.toNat else if w = 2 then Sz i.toNat else if w = 3 then linesN By (i.toNat * 64) (Sz i.toNat).toNat else if w = 4 then cellsN By (i.toNat * 64) (Sz i.toNat).toNat else -1) else -1
theorem cueV_n {St En Sz By : Nat → Int} {n i w : Int} (h : i < 0 ∨ n ≤ i) : cueV St En Sz By n i w = -1 := if_neg (by omega)
theorem cueV_k {St En Sz By : Nat → Int} {n w : Int} {k : Nat} (h : (k : Int) < n) : cueV St En Sz By n k w = (if w = 0 then St k else if w = 1 then En k else if w = 2 then Sz k else if w = 3 then linesN By (k * 64) (Sz k).toNat else if w = 4 then cellsN By (k * 64) (Sz k).toNat else -1) := (if_pos ⟨by omega, h⟩).trans (by simp)
def textV (Sz By : Nat → Int) (n i j : Int) : Int := if 0 ≤ i ∧ i < n ∧ 0 ≤ j ∧ j < Sz i.toNat then By (i.toNat * 64 + j.toNat) else -1
def clashP (St En : Nat → Int) (n : Nat) (v : Int) : Prop := (v = -1 ∧ ∀ i, i + 1 < n → En i ≤ St (i + 1)) ∨ ∃ k : Nat, v = k ∧ k + 1 < n ∧ St (k + 1) < En k ∧ ∀ i, i < k → En i ≤ St (i + 1)
set_option maxHeartbeats 4000000 in
set_option maxRecDepth 100000 in
theorem lp_Ro_lines (G : GT) (h : HM) (r r1 r2 r3 r4 : Nat) (n : Int) (F3 F4 : Nat → Int) (hr : h r = some (.inr (2, [.ref r1, .ref r2, .ref r3, .ref r4, .int (iZ n)]))) (hr3 : h r3 = some (.inl (G_i G, 16, .inl (iA F3)))) (hr4 : h r4 = some (.inl (G_i G, 1024, .inl (iA F4)))) (i : Nat) (hi : i < 16) (hz : 0 ≤ F3 i ∧ F3 i ≤ 64) (hB : ∀ k, 0 ≤ F4 k ∧ F4 k ≤ 255) : ∀ (d : Nat) (j : Nat) (acc : Int), j + d = (F3 i).toNat → acc = linesN F4 (i * 64) j → Ev G M_Ro_lines (rm 1 22) (Pu (.int (iZ (linesN F4 (i * 64) (F3 i).toNat))) h) 4 [(0, .ref r), (1, .int (iZ (i : Int))), (2, .int (iZ acc)), (3, .int (iZ (j : Int)))] [] h 0 0 := by
  intro d
  induction d using Nat.strongRecOn with
  | ind d ih =>
  intro j acc hd hacc
  have ra := linesN_r F4 (i * 64) j
  refine ev_iload_n d_Ro_lines_4 rfl rfl ?_
  refine ev_aload_n d_Ro_lines_5 rfl rfl ?_
  refine ev_get d_Ro_lines_6 fl_Ro_18 hr rfl ?_
  refine ev_iload_n d_Ro_lines_9 rfl rfl ?_
  refine ez_iaload i d_Ro_lines_10 hr3 (by omega) (by omega) (by decide) ?_
  refine ez_icmp_ge (tgt := 34) (by omega) (by omega) d_Ro_lines_11 rfl (fun c11 => ?_) (fun c11 => ?_)
  · refine ev_iload_n d_Ro_lines_34 rfl rfl ?_
    exact ev_ireturn d_Ro_lines_35 rfl (by decide) (by decide) (⟨by rw [hacc, show (F3 i).toNat = j by omega], rfl⟩)
  · refine ev_aload_n d_Ro_lines_14 rfl rfl ?_
    refine ev_iload_n d_Ro_lines_15 rfl rfl ?_
    refine ev_iload_n d_Ro_lines_16 rfl rfl ?_
    refine ev_pV M_Ro_byteAt 0 0 (As := [.int (iZ (i : Int)), .int (iZ (j : Int))]) (c_Ro_byteAt G h r r1 r2 r3 r4 n F4 i j hr hr4 (by omega)) d_Ro_lines_17 mk_Ro_byteAt ml_Ro_29 mv_Ro_byteAt hr rfl rfl rfl (Nat.le_of_ble_eq_true rfl) ⟨by decide, by decide⟩ ⟨by decide, by decide⟩ ?_
    have rb := hB (i * 64 + j)
    refine ev_bipush (v := iZ 10) d_Ro_lines_20 rfl ?_
    refine ez_icmp_ne (tgt := 28) (by omega) (by decide) d_Ro_lines_22 rfl (fun c22 => ?_) (fun c22 => ?_)
    · refine ez_iinc (L' := [(0, .ref r), (1, .int (iZ (i : Int))), (2, .int (iZ acc)), (3, .int (iZ ((j + 1 : Nat) : Int)))]) d_Ro_lines_28 rfl (by decide) rfl ?_
      refine ev_goto (tgt := 4) d_Ro_lines_31 rfl ?_
      exact ih (d - 1) (by omega) (j + 1) _ (by omega) (by rw [linesN_n c22, hacc])
    · refine ez_iinc (L' := [(0, .ref r), (1, .int (iZ (i : Int))), (2, .int (iZ (acc + 1))), (3, .int (iZ (j : Int)))]) d_Ro_lines_25 rfl (by decide) rfl ?_
      refine ez_iinc (L' := [(0, .ref r), (1, .int (iZ (i : Int))), (2, .int (iZ (acc + 1))), (3, .int (iZ ((j + 1 : Nat) : Int)))]) d_Ro_lines_28 rfl (by decide) rfl ?_
      refine ev_goto (tgt := 4) d_Ro_lines_31 rfl ?_
      exact ih (d - 1) (by omega) (j + 1) _ (by omega) (by rw [linesN_10 c22, hacc])
set_option maxHeartbeats 4000000 in
set_option maxRecDepth 100000 in
theorem c_Ro_lines (G : GT) (h : HM) (r r1 r2 r3 r4 : Nat) (n : Int) (F3 F4 : Nat → Int) (hr : h r = some (.inr (2, [.ref r1, .ref r2, .ref r3, .ref r4, .int (iZ n)]))) (hr3 : h r3 = some (.inl (G_i G, 16, .inl (iA F3)))) (hr4 : h r4 = some (.inl (G_i G, 1024, .inl (iA F4)))) (i : Nat) (hi : i < 16) (hz : 0 ≤ F3 i ∧ F3 i ≤ 64) (hB : ∀ k, 0 ≤ F4 k ∧ F4 k ≤ 255) : Rn G M_Ro_lines (rm 1 22) [.ref r, .int (iZ (i : Int))] h (Pu (.int (iZ (linesN F4 (i * 64) (F3 i).toNat))) h) := by
  refine rn_of (by decide) (Nat.le_of_ble_eq_true rfl) ?_
  show Ev G M_Ro_lines _ _ 0 [(0, .ref r), (1, .int (iZ (i : Int)))] [] _ 0 0
  refine ev_iconst (v := iZ 1) d_Ro_lines_0 rfl ?_
  refine ev_istore_n (L' := [(0, .ref r), (1, .int (iZ (i : Int))), (2, .int (iZ 1))]) d_Ro_lines_1 rfl (by decide) rfl ?_
  refine ev_iconst (v := iZ 0) d_Ro_lines_2 rfl ?_
  refine ev_istore_n (L' := [(0, .ref r), (1, .int (iZ (i : Int))), (2, .int (iZ 1)), (3, .int (iZ 0))]) d_Ro_lines_3 rfl (by decide) rfl ?_
  exact lp_Ro_lines G h r r1 r2 r3 r4 n F3 F4 hr hr3 hr4 i hi hz hB _ 0 1 (Nat.zero_add _) rfl
set_option maxHeartbeats 4000000 in
set_option maxRecDepth 100000 in
theorem lp_Ro_cells (G : GT) (h : HM) (r r1 r2 r3 r4 : Nat) (n : Int) (F4 : Nat → Int) (hr : h r = some (.inr (2, [.ref r1, .ref r2, .ref r3, .ref r4, .int (iZ n)]))) (hr4 : h r4 = some (.inl (G_i G, 1024, .inl (iA F4)))) (i a b : Nat) (hi : i < 16) (hab : a ≤ 64 ∧ b ≤ 64) (hB : ∀ k, 0 ≤ F4 k ∧ F4 k ≤ 255) : ∀ (d : Nat) (t : Nat) (acc : Int), t + d = b - a → acc = cellsN F4 (i * 64 + a) t → Ev G M_Ro_cells (rm 1 22) (Pu (.int (iZ (cellsN F4 (i * 64 + a) (b - a)))) h) 6 [(0, .ref r), (1, .int (iZ (i : Int))), (2, .int (iZ (a : Int))), (3, .int (iZ (b : Int))), (4, .int (iZ acc)), (5, .int (iZ ((a + t : Nat) : Int)))] [] h 0 0 := by
  intro d
  induction d using Nat.strongRecOn with
  | ind d ih =>
  intro t acc hd hacc
  have ra := cellsN_r F4 (i * 64 + a) t
  refine ev_iload d_Ro_cells_6 rfl ?_
  refine ev_iload_n d_Ro_cells_8 rfl rfl ?_
  refine ez_icmp_ge (tgt := 33) (by omega) (by omega) d_Ro_cells_9 rfl (fun c9 => ?_) (fun c9 => ?_)
  · refine ev_iload d_Ro_cells_33 rfl ?_
    exact ev_ireturn d_Ro_cells_35 rfl (by decide) (by decide) (⟨by rw [hacc, show b - a = t by omega], rfl⟩)
  · refine ev_iload d_Ro_cells_12 rfl ?_
    refine ev_aload_n d_Ro_cells_14 rfl rfl ?_
    refine ev_iload_n d_Ro_cells_15 rfl rfl ?_
    refine ev_iload d_Ro_cells_16 rfl ?_
    refine ev_pV M_Ro_byteAt 0 0 (As := [.int (iZ (i : Int)), .int (iZ ((a + t : Nat) : Int))]) (c_Ro_byteAt G h r r1 r2 r3 r4 n F4 i (a + t) hr hr4 (by omega)) d_Ro_cells_18 mk_Ro_byteAt ml_Ro_29 mv_Ro_byteAt hr rfl rfl rfl (Nat.le_of_ble_eq_true rfl) ⟨by decide, by decide⟩ ⟨by decide, by decide⟩ ?_
    have rb := hB (i * 64 + (a + t))
    refine ev_pS M_CB_cellsOf 0 0 (As := [.int (iZ (F4 (i * 64 + (a + t))))]) (c_CB_cellsOf G h (F4 (i * 64 + (a + t))) (by omega)) d_Ro_cells_21 mk_CB_cellsOf ml_Ro_33 ms_CB_cellsOf rfl rfl (Nat.le_of_ble_eq_true rfl) ⟨by decide, by decide⟩ ⟨by decide, by decide⟩ ?_
    have rz := cellZ_r (F4 (i * 64 + (a + t)))
    refine ez_iadd d_Ro_cells_24 ?_
    refine ev_istore (L' := [(0, .ref r), (1, .int (iZ (i : Int))), (2, .int (iZ (a : Int))), (3, .int (iZ (b : Int))), (4, .int (iZ (acc + (cellZ (F4 (i * 64 + (a + t))))))), (5, .int (iZ ((a + t : Nat) : Int)))]) d_Ro_cells_25 (by decide) rfl ?_
    refine ez_iinc (L' := [(0, .ref r), (1, .int (iZ (i : Int))), (2, .int (iZ (a : Int))), (3, .int (iZ (b : Int))), (4, .int (iZ (acc + (cellZ (F4 (i * 64 + (a + t))))))), (5, .int (iZ ((a + (t + 1) : Nat) : Int)))]) d_Ro_cells_27 rfl (by decide) rfl ?_
    refine ev_goto (tgt := 6) d_Ro_cells_30 rfl ?_
    exact ih (d - 1) (by omega) (t + 1) _ (by omega) (by show _ = cellsN F4 (i * 64 + a) t + cellZ (F4 (i * 64 + a + t)); rw [hacc, Nat.add_assoc])
set_option maxHeartbeats 4000000 in
set_option maxRecDepth 100000 in
theorem c_Ro_cells (G : GT) (h : HM) (r r1 r2 r3 r4 : Nat) (n : Int) (F4 : Nat → Int) (hr : h r = some (.inr (2, [.ref r1, .ref r2, .ref r3, .ref r4, .int (iZ n)]))) (hr4 : h r4 = some (.inl (G_i G, 1024, .inl (iA F4)))) (i a b : Nat) (hi : i < 16) (hab : a ≤ 64 ∧ b ≤ 64) (hB : ∀ k, 0 ≤ F4 k ∧ F4 k ≤ 255) : Rn G M_Ro_cells (rm 1 22) [.ref r, .int (iZ (i : Int)), .int (iZ (a : Int)), .int (iZ (b : Int))] h (Pu (.int (iZ (cellsN F4 (i * 64 + a) (b - a)))) h) := by
  refine rn_of (by decide) (Nat.le_of_ble_eq_true rfl) ?_
  show Ev G M_Ro_cells _ _ 0 [(0, .ref r), (1, .int (iZ (i : Int))), (2, .int (iZ (a : Int))), (3, .int (iZ (b : Int)))] [] _ 0 0
  refine ev_iconst (v := iZ 0) d_Ro_cells_0 rfl ?_
  refine ev_istore (L' := [(0, .ref r), (1, .int (iZ (i : Int))), (2, .int (iZ (a : Int))), (3, .int (iZ (b : Int))), (4, .int (iZ 0))]) d_Ro_cells_1 (by decide) rfl ?_
  refine ev_iload_n d_Ro_cells_3 rfl rfl ?_
  refine ev_istore (L' := [(0, .ref r), (1, .int (iZ (i : Int))), (2, .int (iZ (a : Int))), (3, .int (iZ (b : Int))), (4, .int (iZ 0)), (5, .int (iZ (a : Int)))]) d_Ro_cells_4 (by decide) rfl ?_
  exact lp_Ro_cells G h r r1 r2 r3 r4 n F4 hr hr4 i a b hi hab hB _ 0 0 (Nat.zero_add _) rfl
set_option maxHeartbeats 4000000 in
set_option maxRecDepth 100000 in
theorem lp_Mo_cells (G : GT) (h : HM) (σ : Nat → Value) (m s4 : Nat) (F4 : Nat → Int) (hm : h m = some (.inr (11, fsN 34 σ))) (f8 : σ 8 = .ref s4) (hs4 : h s4 = some (.inl (G_i G, 1024, .inl (iA F4)))) (i a b : Nat) (hi : i < 16) (hab : a ≤ 64 ∧ b ≤ 64) (hB : ∀ k, 0 ≤ F4 k ∧ F4 k ≤ 255) : ∀ (d : Nat) (t : Nat) (acc : Int), t + d = b - a → acc = cellsN F4 (i * 64 + a) t → Ev G M_Mo_cells (rm 1 22) (Pu (.int (iZ (cellsN F4 (i * 64 + a) (b - a)))) h) 6 [(0, .ref m), (1, .int (iZ (i : Int))), (2, .int (iZ (a : Int))), (3, .int (iZ (b : Int))), (4, .int (iZ acc)), (5, .int (iZ ((a + t : Nat) : Int)))] [] h 0 0 := by
  intro d
  induction d using Nat.strongRecOn with
  | ind d ih =>
  intro t acc hd hacc
  have ra := cellsN_r F4 (i * 64 + a) t
  refine ev_iload d_Mo_cells_6 rfl ?_
  refine ev_iload_n d_Mo_cells_8 rfl rfl ?_
  refine ez_icmp_ge (tgt := 38) (by omega) (by omega) d_Mo_cells_9 rfl (fun c9 => ?_) (fun c9 => ?_)
  · refine ev_iload d_Mo_cells_38 rfl ?_
    exact ev_ireturn d_Mo_cells_40 rfl (by decide) (by decide) (⟨by rw [hacc, show b - a = t by omega], rfl⟩)
  · refine ev_iload d_Mo_cells_12 rfl ?_
    refine ev_aload_n d_Mo_cells_14 rfl rfl ?_
    refine ev_getF d_Mo_cells_15 fl_Mo_30 hm (by decide) f8 ?_
    refine ev_bipush (v := iZ 64) d_Mo_cells_18 rfl ?_
    refine ev_iload_n d_Mo_cells_20 rfl rfl ?_
    refine ez_imul d_Mo_cells_21 ?_
    refine ev_iload d_Mo_cells_22 rfl ?_
    refine ez_iadd d_Mo_cells_24 ?_
    refine ez_iaload (i * 64 + (a + t)) d_Mo_cells_25 hs4 (by omega) (by omega) (by decide) ?_
    have rb := hB (i * 64 + (a + t))
    refine ev_pS M_Mo_cellsOf 0 0 (As := [.int (iZ (F4 (i * 64 + (a + t))))]) (c_Mo_cellsOf G h (F4 (i * 64 + (a + t))) (by omega)) d_Mo_cells_26 mk_Mo_cellsOf ml_Mo_88 ms_Mo_cellsOf rfl rfl (Nat.le_of_ble_eq_true rfl) ⟨by decide, by decide⟩ ⟨by decide, by decide⟩ ?_
    have rz := cellZ_r (F4 (i * 64 + (a + t)))
    refine ez_iadd d_Mo_cells_29 ?_
    refine ev_istore (L' := [(0, .ref m), (1, .int (iZ (i : Int))), (2, .int (iZ (a : Int))), (3, .int (iZ (b : Int))), (4, .int (iZ (acc + (cellZ (F4 (i * 64 + (a + t))))))), (5, .int (iZ ((a + t : Nat) : Int)))]) d_Mo_cells_30 (by decide) rfl ?_
    refine ez_iinc (L' := [(0, .ref m), (1, .int (iZ (i : Int))), (2, .int (iZ (a : Int))), (3, .int (iZ (b : Int))), (4, .int (iZ (acc + (cellZ (F4 (i * 64 + (a + t))))))), (5, .int (iZ ((a + (t + 1) : Nat) : Int)))]) d_Mo_cells_32 rfl (by decide) rfl ?_
    refine ev_goto (tgt := 6) d_Mo_cells_35 rfl ?_
    exact ih (d - 1) (by omega) (t + 1) _ (by omega) (by show _ = cellsN F4 (i * 64 + a) t + cellZ (F4 (i * 64 + a + t)); rw [hacc, Nat.add_assoc])
set_option maxHeartbeats 4000000 in
set_option maxRecDepth 100000 in
theorem c_Mo_cells (G : GT) (h : HM) (σ : Nat → Value) (m s4 : Nat) (F4 : Nat → Int) (hm : h m = some (.inr (11, fsN 34 σ))) (f8 : σ 8 = .ref s4) (hs4 : h s4 = some (.inl (G_i G, 1024, .inl (iA F4)))) (i a b : Nat) (hi : i < 16) (hab : a ≤ 64 ∧ b ≤ 64) (hB : ∀ k, 0 ≤ F4 k ∧ F4 k ≤ 255) : Rn G M_Mo_cells (rm 1 22) [.ref m, .int (iZ (i : Int)), .int (iZ (a : Int)), .int (iZ (b : Int))] h (Pu (.int (iZ (cellsN F4 (i * 64 + a) (b - a)))) h) := by
  refine rn_of (by decide) (Nat.le_of_ble_eq_true rfl) ?_
  show Ev G M_Mo_cells _ _ 0 [(0, .ref m), (1, .int (iZ (i : Int))), (2, .int (iZ (a : Int))), (3, .int (iZ (b : Int)))] [] _ 0 0
  refine ev_iconst (v := iZ 0) d_Mo_cells_0 rfl ?_
  refine ev_istore (L' := [(0, .ref m), (1, .int (iZ (i : Int))), (2, .int (iZ (a : Int))), (3, .int (iZ (b : Int))), (4, .int (iZ 0))]) d_Mo_cells_1 (by decide) rfl ?_
  refine ev_iload_n d_Mo_cells_3 rfl rfl ?_
  refine ev_istore (L' := [(0, .ref m), (1, .int (iZ (i : Int))), (2, .int (iZ (a : Int))), (3, .int (iZ (b : Int))), (4, .int (iZ 0)), (5, .int (iZ (a : Int)))]) d_Mo_cells_4 (by decide) rfl ?_
  exact lp_Mo_cells G h σ m s4 F4 hm f8 hs4 i a b hi hab hB _ 0 0 (Nat.zero_add _) rfl
set_option maxHeartbeats 4000000 in
set_option maxRecDepth 100000 in
theorem c_CB_cue (G : GT) (h : HM) (x b xf xu xo xp xe xw xl xr : Nat) (o1 o2 o3 o4 : Nat) (n i w : Int) (K1 K2 K3 K4 : Nat → Int) (hx : h x = some (.inr (0, [.ref b, .ref xf, .ref xu, .ref xo, .ref xp, .ref xe, .ref xw, .ref xl, .ref xr]))) (ho : h xo = some (.inr (2, [.ref o1, .ref o2, .ref o3, .ref o4, .int (iZ n)]))) (ho1 : h o1 = some (.inl (G_j G, 16, .inr (.inl (lA K1))))) (ho2 : h o2 = some (.inl (G_j G, 16, .inr (.inl (lA K2))))) (ho3 : h o3 = some (.inl (G_i G, 16, .inl (iA K3)))) (ho4 : h o4 = some (.inl (G_i G, 1024, .inl (iA K4)))) (hS : ∀ k : Nat, (k : Int) < n → 0 ≤ K3 k ∧ K3 k ≤ 64) (hB : ∀ k, 0 ≤ K4 k ∧ K4 k ≤ 255) (hn : 0 ≤ n ∧ n ≤ 16) (hi : iR i) (hw9 : iR w) : Rn G M_CB_cue (rm 2 50) [.ref x, .int (iZ i), .int (iZ w)] h (Pu (.long (lZ (cueV K1 K2 K3 K4 n i w))) h) := by
  refine rn_of (by decide) (Nat.le_of_ble_eq_true rfl) ?_
  show Ev G M_CB_cue _ _ 0 [(0, .ref x), (1, .int (iZ i)), (2, .int (iZ w))] [] _ 0 0
  refine ev_aload_n d_CB_cue_0 rfl rfl ?_
  refine ev_get d_CB_cue_1 fl_CB_33 hx rfl ?_
  refine ev_iload_n d_CB_cue_4 rfl rfl ?_
  have hr9 := hasZ_r n i
  refine ev_pV M_Ro_has 0 0 (As := [.int (iZ i)]) (c_Ro_has G h xo o1 o2 o3 o4 n i ho hn (by omega)) d_CB_cue_5 mk_Ro_has ml_CB_121 mv_Ro_has ho rfl rfl rfl (Nat.le_of_ble_eq_true rfl) ⟨by decide, by decide⟩ ⟨by decide, by decide⟩ ?_
  refine ez_if_ne (tgt := 15) (by omega) d_CB_cue_8 rfl (fun c8 => ?_) (fun c8 => ?_)
  · have z8 := hasZ_1 c8
    obtain ⟨k, rfl⟩ : ∃ k : Nat, i = (k : Int) := ⟨i.toNat, by omega⟩
    have hk := hS k (by omega)
    refine ev_iload_n d_CB_cue_15 rfl rfl ?_
    rcases (show w = 0 ∨ w = 1 ∨ w = 2 ∨ w = 3 ∨ w = 4 ∨ (w < 0 ∨ 4 < w) by omega) with rfl | rfl | rfl | rfl | rfl | hw
    · refine ez_tabIn (tgt := 52) d_CB_cue_16 (by decide) (by decide) (by decide) rfl rfl ?_
      refine ev_aload_n d_CB_cue_52 rfl rfl ?_
      refine ev_get d_CB_cue_53 fl_CB_33 hx rfl ?_
      refine ev_get d_CB_cue_56 fl_CB_126 ho rfl ?_
      refine ev_iload_n d_CB_cue_59 rfl rfl ?_
      refine ez_laload k d_CB_cue_60 ho1 (by omega) (by omega) (by decide) ?_
      exact ev_lreturn d_CB_cue_61 rfl (by decide) (by decide) (⟨by rw [cueV_k (by omega)]; simp, rfl⟩)
    · refine ez_tabIn (tgt := 62) d_CB_cue_16 (by decide) (by decide) (by decide) rfl rfl ?_
      refine ev_aload_n d_CB_cue_62 rfl rfl ?_
      refine ev_get d_CB_cue_63 fl_CB_33 hx rfl ?_
      refine ev_get d_CB_cue_66 fl_CB_130 ho rfl ?_
      refine ev_iload_n d_CB_cue_69 rfl rfl ?_
      refine ez_laload k d_CB_cue_70 ho2 (by omega) (by omega) (by decide) ?_
      exact ev_lreturn d_CB_cue_71 rfl (by decide) (by decide) (⟨by rw [cueV_k (by omega)]; simp, rfl⟩)
    · refine ez_tabIn (tgt := 72) d_CB_cue_16 (by decide) (by decide) (by decide) rfl rfl ?_
      refine ev_aload_n d_CB_cue_72 rfl rfl ?_
      refine ev_get d_CB_cue_73 fl_CB_33 hx rfl ?_
      refine ev_get d_CB_cue_76 fl_CB_133 ho rfl ?_
      refine ev_iload_n d_CB_cue_79 rfl rfl ?_
      refine ez_iaload k d_CB_cue_80 ho3 (by omega) (by omega) (by decide) ?_
      refine ez_i2l (by omega) d_CB_cue_81 ?_
      exact ev_lreturn d_CB_cue_82 rfl (by decide) (by decide) (⟨by rw [cueV_k (by omega)]; simp, rfl⟩)
    · refine ez_tabIn (tgt := 83) d_CB_cue_16 (by decide) (by decide) (by decide) rfl rfl ?_
      refine ev_aload_n d_CB_cue_83 rfl rfl ?_
      refine ev_get d_CB_cue_84 fl_CB_33 hx rfl ?_
      refine ev_iload_n d_CB_cue_87 rfl rfl ?_
      refine ev_pV M_Ro_lines 1 22 (As := [.int (iZ (k : Int))]) (c_Ro_lines G h xo o1 o2 o3 o4 n K3 K4 ho ho3 ho4 k (by omega) hk hB) d_CB_cue_88 mk_Ro_lines ml_CB_137 mv_Ro_lines ho rfl rfl rfl (Nat.le_of_ble_eq_true rfl) ⟨by decide, by decide⟩ ⟨by decide, by decide⟩ ?_
      have rl := linesN_r K4 (k * 64) (K3 k).toNat
      refine ez_i2l (by omega) d_CB_cue_91 ?_
      exact ev_lreturn d_CB_cue_92 rfl (by decide) (by decide) (⟨by rw [cueV_k (by omega)]; simp, rfl⟩)
    · refine ez_tabIn (tgt := 93) d_CB_cue_16 (by decide) (by decide) (by decide) rfl rfl ?_
      refine ev_aload_n d_CB_cue_93 rfl rfl ?_
      refine ev_get d_CB_cue_94 fl_CB_33 hx rfl ?_
      refine ev_iload_n d_CB_cue_97 rfl rfl ?_
      refine ev_iconst (v := iZ 0) d_CB_cue_98 rfl ?_
      refine ev_aload_n d_CB_cue_99 rfl rfl ?_
      refine ev_get d_CB_cue_100 fl_CB_33 hx rfl ?_
      refine ev_get d_CB_cue_103 fl_CB_133 ho rfl ?_
      refine ev_iload_n d_CB_cue_106 rfl rfl ?_
      refine ez_iaload k d_CB_cue_107 ho3 (by omega) (by omega) (by decide) ?_
      obtain ⟨z3, hz3⟩ : ∃ z : Nat, K3 k = (z : Int) := ⟨(K3 k).toNat, by omega⟩
      rw [hz3]
      refine ev_pV M_Ro_cells 1 22 (As := [.int (iZ (k : Int)), .int (iZ 0), .int (iZ (z3 : Int))]) (c_Ro_cells G h xo o1 o2 o3 o4 n K4 ho ho4 k 0 z3 (by omega) (by omega) hB) d_CB_cue_108 mk_Ro_cells ml_CB_140 mv_Ro_cells ho rfl rfl rfl (Nat.le_of_ble_eq_true rfl) ⟨by decide, by decide⟩ ⟨by decide, by decide⟩ ?_
      rw [show cellsN K4 (k * 64 + 0) (z3 - 0) = cellsN K4 (k * 64) (K3 k).toNat by rw [hz3]; rfl]
      have rl := cellsN_r K4 (k * 64) (K3 k).toNat
      refine ez_i2l (by omega) d_CB_cue_111 ?_
      exact ev_lreturn d_CB_cue_112 rfl (by decide) (by decide) (⟨by rw [cueV_k (by omega)]; simp, rfl⟩)
    · refine ez_tabOut (tgt := 113) d_CB_cue_16 (by omega) hw rfl ?_
      refine ev_ldc2 (v := lZ (-1)) d_CB_cue_113 kc_CB_124 ?_
      exact ev_lreturn d_CB_cue_116 rfl (by decide) (by decide) (⟨by rw [cueV_k (by omega), if_neg (by omega), if_neg (by omega), if_neg (by omega), if_neg (by omega), if_neg (by omega)], rfl⟩)
  · have z8 := hasZ_0 c8
    refine ev_ldc2 (v := lZ (-1)) d_CB_cue_11 kc_CB_124 ?_
    exact ev_lreturn d_CB_cue_14 rfl (by decide) (by decide) (⟨by rw [cueV_n z8], rfl⟩)
set_option maxHeartbeats 4000000 in
set_option maxRecDepth 100000 in
theorem c_CB_text (G : GT) (h : HM) (x b xf xu xo xp xe xw xl xr : Nat) (o1 o2 o3 o4 : Nat) (n i j : Int) (K1 K2 K3 K4 : Nat → Int) (hx : h x = some (.inr (0, [.ref b, .ref xf, .ref xu, .ref xo, .ref xp, .ref xe, .ref xw, .ref xl, .ref xr]))) (ho : h xo = some (.inr (2, [.ref o1, .ref o2, .ref o3, .ref o4, .int (iZ n)]))) (ho1 : h o1 = some (.inl (G_j G, 16, .inr (.inl (lA K1))))) (ho2 : h o2 = some (.inl (G_j G, 16, .inr (.inl (lA K2))))) (ho3 : h o3 = some (.inl (G_i G, 16, .inl (iA K3)))) (ho4 : h o4 = some (.inl (G_i G, 1024, .inl (iA K4)))) (hS : ∀ k : Nat, (k : Int) < n → 0 ≤ K3 k ∧ K3 k ≤ 64) (hB : ∀ k, 0 ≤ K4 k ∧ K4 k ≤ 255) (hn : 0 ≤ n ∧ n ≤ 16) (hi : iR i) (hj : iR j) : Rn G M_CB_text (rm 1 30) [.ref x, .int (iZ i), .int (iZ j)] h (Pu (.int (iZ (textV K3 K4 n i j))) h) := by
  refine rn_of (by decide) (Nat.le_of_ble_eq_true rfl) ?_
  show Ev G M_CB_text _ _ 0 [(0, .ref x), (1, .int (iZ i)), (2, .int (iZ j))] [] _ 0 0
  refine ev_aload_n d_CB_text_0 rfl rfl ?_
  refine ev_get d_CB_text_1 fl_CB_33 hx rfl ?_
  refine ev_iload_n d_CB_text_4 rfl rfl ?_
  have hr9 := hasZ_r n i
  refine ev_pV M_Ro_has 0 0 (As := [.int (iZ i)]) (c_Ro_has G h xo o1 o2 o3 o4 n i ho hn (by omega)) d_CB_text_5 mk_Ro_has ml_CB_121 mv_Ro_has ho rfl rfl rfl (Nat.le_of_ble_eq_true rfl) ⟨by decide, by decide⟩ ⟨by decide, by decide⟩ ?_
  refine ez_if_eq (tgt := 28) (by omega) d_CB_text_8 rfl (fun c8 => ?_) (fun c8 => ?_)
  · have z8 := hasZ_0 c8
    refine ev_iconst (v := iZ (-1)) d_CB_text_28 rfl ?_
    exact ev_ireturn d_CB_text_29 rfl (by decide) (by decide) (⟨by rw [show textV K3 K4 n i j = -1 from if_neg (by simp; omega)], rfl⟩)
  · have z8 := hasZ_1 c8
    obtain ⟨k, rfl⟩ : ∃ k : Nat, i = (k : Int) := ⟨i.toNat, by omega⟩
    have hk := hS k (by omega)
    refine ev_iload_n d_CB_text_11 rfl rfl ?_
    refine ez_if_lt (tgt := 28) (by omega) d_CB_text_12 rfl (fun c12 => ?_) (fun c12 => ?_)
    · refine ev_iconst (v := iZ (-1)) d_CB_text_28 rfl ?_
      exact ev_ireturn d_CB_text_29 rfl (by decide) (by decide) (⟨by rw [show textV K3 K4 n (k : Int) j = -1 from if_neg (by simp; omega)], rfl⟩)
    · refine ev_iload_n d_CB_text_15 rfl rfl ?_
      refine ev_aload_n d_CB_text_16 rfl rfl ?_
      refine ev_get d_CB_text_17 fl_CB_33 hx rfl ?_
      refine ev_get d_CB_text_20 fl_CB_133 ho rfl ?_
      refine ev_iload_n d_CB_text_23 rfl rfl ?_
      refine ez_iaload k d_CB_text_24 ho3 (by omega) (by omega) (by decide) ?_
      refine ez_icmp_lt (tgt := 30) (by omega) (by omega) d_CB_text_25 rfl (fun c25 => ?_) (fun c25 => ?_)
      · refine ev_aload_n d_CB_text_30 rfl rfl ?_
        refine ev_get d_CB_text_31 fl_CB_33 hx rfl ?_
        refine ev_iload_n d_CB_text_34 rfl rfl ?_
        refine ev_iload_n d_CB_text_35 rfl rfl ?_
        obtain ⟨q, rfl⟩ : ∃ q : Nat, j = (q : Int) := ⟨j.toNat, by omega⟩
        refine ev_pV M_Ro_byteAt 0 0 (As := [.int (iZ (k : Int)), .int (iZ (q : Int))]) (c_Ro_byteAt G h xo o1 o2 o3 o4 n K4 k q ho ho4 (by omega)) d_CB_text_36 mk_Ro_byteAt ml_CB_144 mv_Ro_byteAt ho rfl rfl rfl (Nat.le_of_ble_eq_true rfl) ⟨by decide, by decide⟩ ⟨by decide, by decide⟩ ?_
        exact ev_ireturn d_CB_text_39 rfl (by decide) (by decide) (⟨by rw [show textV K3 K4 n (k : Int) (q : Int) = K4 (k * 64 + q) from (if_pos (by simp; omega)).trans (by simp)], rfl⟩)
      · refine ev_iconst (v := iZ (-1)) d_CB_text_28 rfl ?_
        exact ev_ireturn d_CB_text_29 rfl (by decide) (by decide) (⟨by rw [show textV K3 K4 n (k : Int) j = -1 from if_neg (by simp; omega)], rfl⟩)
set_option maxHeartbeats 4000000 in
set_option maxRecDepth 100000 in
theorem c_Mo_isCue (G : GT) (h : HM) (σ : Nat → Value) (m : Nat) (n i : Int) (hm : h m = some (.inr (11, fsN 34 σ))) (f4 : σ 4 = .int (iZ n)) (hn : 0 ≤ n ∧ n ≤ 16) (hi : iR i) : Rn G M_Mo_isCue (rm 0 0) [.ref m, .int (iZ i)] h (Pu (.int (iZ (hasZ n i))) h) := by
  refine rn_of (by decide) (Nat.le_of_ble_eq_true rfl) ?_
  show Ev G M_Mo_isCue _ _ 0 [(0, .ref m), (1, .int (iZ i))] [] _ 0 0
  refine ev_iload_n d_Mo_isCue_0 rfl rfl ?_
  refine ez_if_lt (tgt := 16) (by omega) d_Mo_isCue_1 rfl (fun c1 => ?_) (fun c1 => ?_)
  · refine ev_iconst (v := iZ 0) d_Mo_isCue_16 rfl ?_
    exact ev_zreturn d_Mo_isCue_17 rfl (Or.inl rfl) (by decide) (by decide) (⟨by rw [show (hasZ n i : Int) = 0 from by unfold hasZ; (repeat' split) <;> omega], rfl⟩)
  · refine ev_iload_n d_Mo_isCue_4 rfl rfl ?_
    refine ev_aload_n d_Mo_isCue_5 rfl rfl ?_
    refine ev_getF d_Mo_isCue_6 fl_Mo_92 hm (by decide) f4 ?_
    refine ez_icmp_ge (tgt := 16) (by omega) (by omega) d_Mo_isCue_9 rfl (fun c9 => ?_) (fun c9 => ?_)
    · refine ev_iconst (v := iZ 0) d_Mo_isCue_16 rfl ?_
      exact ev_zreturn d_Mo_isCue_17 rfl (Or.inl rfl) (by decide) (by decide) (⟨by rw [show (hasZ n i : Int) = 0 from by unfold hasZ; (repeat' split) <;> omega], rfl⟩)
    · refine ev_iconst (v := iZ 1) d_Mo_isCue_12 rfl ?_
      refine ev_goto (tgt := 17) d_Mo_isCue_13 rfl ?_
      exact ev_zreturn d_Mo_isCue_17 rfl (Or.inr rfl) (by decide) (by decide) (⟨by rw [show (hasZ n i : Int) = 1 from by unfold hasZ; (repeat' split) <;> omega], rfl⟩)
def timeZ (t : Int) : Int := if 0 ≤ t ∧ t ≤ 2540160000000 then 1 else 0
set_option maxHeartbeats 4000000 in
set_option maxRecDepth 100000 in
theorem c_Mo_isTime (G : GT) (h : HM) (m : Nat) (t : Int) (ht : lR t) : Rn G M_Mo_isTime (rm 0 0) [.ref m, .long (lZ t)] h (Pu (.int (iZ (timeZ t))) h) := by
  refine rn_of (by decide) (Nat.le_of_ble_eq_true rfl) ?_
  show Ev G M_Mo_isTime _ _ 0 [(0, .ref m), (1, .long (lZ t))] [] _ 0 0
  refine ev_lload_n d_Mo_isTime_0 rfl rfl ?_
  refine ev_lconst (v := lZ 0) d_Mo_isTime_1 rfl ?_
  refine ev_lcmp d_Mo_isTime_2 ?_
  refine ez_lif_lt (tgt := 18) (by omega) (by decide) d_Mo_isTime_3 rfl (fun c3 => ?_) (fun c3 => ?_)
  · refine ev_iconst (v := iZ 0) d_Mo_isTime_18 rfl ?_
    exact ev_zreturn d_Mo_isTime_19 rfl (Or.inl rfl) (by decide) (by decide) (⟨by rw [show (timeZ t : Int) = 0 from by unfold timeZ; (repeat' split) <;> omega], rfl⟩)
  · refine ev_lload_n d_Mo_isTime_6 rfl rfl ?_
    refine ev_ldc2 (v := lZ 2540160000000) d_Mo_isTime_7 kc_Mo_171 ?_
    refine ev_lcmp d_Mo_isTime_10 ?_
    refine ez_lif_gt (tgt := 18) (by omega) (by decide) d_Mo_isTime_11 rfl (fun c11 => ?_) (fun c11 => ?_)
    · refine ev_iconst (v := iZ 0) d_Mo_isTime_18 rfl ?_
      exact ev_zreturn d_Mo_isTime_19 rfl (Or.inl rfl) (by decide) (by decide) (⟨by rw [show (timeZ t : Int) = 0 from by unfold timeZ; (repeat' split) <;> omega], rfl⟩)
    · refine ev_iconst (v := iZ 1) d_Mo_isTime_14 rfl ?_
      refine ev_goto (tgt := 19) d_Mo_isTime_15 rfl ?_
      exact ev_zreturn d_Mo_isTime_19 rfl (Or.inr rfl) (by decide) (by decide) (⟨by rw [show (timeZ t : Int) = 1 from by unfold timeZ; (repeat' split) <;> omega], rfl⟩)
set_option maxHeartbeats 4000000 in
set_option maxRecDepth 100000 in
theorem c_Mo_frame (G : GT) (h : HM) (σ : Nat → Value) (m : Nat) (num den : Int) (hm : h m = some (.inr (11, fsN 34 σ))) (f2 : σ 2 = .int (iZ num)) (f3 : σ 3 = .int (iZ den)) (hn : 1 ≤ num ∧ num ≤ 120000) (hd : 1 ≤ den ∧ den ≤ 1001) : Rn G M_Mo_frame (rm 0 0) [.ref m] h (Pu (.long (lZ (705600000 * den / num))) h) := by
  refine rn_of (by decide) (Nat.le_of_ble_eq_true rfl) ?_
  show Ev G M_Mo_frame _ _ 0 [(0, .ref m)] [] _ 0 0
  refine ev_ldc2 (v := lZ 705600000) d_Mo_frame_0 kc_Mo_86 ?_
  refine ev_aload_n d_Mo_frame_3 rfl rfl ?_
  refine ev_getF d_Mo_frame_4 fl_Mo_17 hm (by decide) f3 ?_
  refine ez_i2l (by omega) d_Mo_frame_7 ?_
  refine ez_lmul d_Mo_frame_8 ?_
  refine ev_aload_n d_Mo_frame_9 rfl rfl ?_
  refine ev_getF d_Mo_frame_10 fl_Mo_13 hm (by decide) f2 ?_
  refine ez_i2l (by omega) d_Mo_frame_13 ?_
  refine ez_ldiv (by omega) (by omega) (by omega) (by omega) d_Mo_frame_14 ?_
  exact ev_lreturn d_Mo_frame_15 rfl (by decide) (by decide) (⟨rfl, rfl⟩)
set_option maxHeartbeats 4000000 in
set_option maxRecDepth 100000 in
theorem lp_Mo_cue (G : GT) (h : HM) (σ : Nat → Value) (m s1 s2 s3 s4 : Nat) (n : Int) (K1 K2 K3 K4 : Nat → Int) (hm : h m = some (.inr (11, fsN 34 σ))) (f4 : σ 4 = .int (iZ n)) (f5 : σ 5 = .ref s1) (f6 : σ 6 = .ref s2) (f7 : σ 7 = .ref s3) (f8 : σ 8 = .ref s4) (hs1 : h s1 = some (.inl (G_j G, 16, .inr (.inl (lA K1))))) (hs2 : h s2 = some (.inl (G_j G, 16, .inr (.inl (lA K2))))) (hs3 : h s3 = some (.inl (G_i G, 16, .inl (iA K3)))) (hs4 : h s4 = some (.inl (G_i G, 1024, .inl (iA K4)))) (k : Nat) (w : Int) (hkn : (k : Int) < n) (hn : n ≤ 16) (hk : 0 ≤ K3 k ∧ K3 k ≤ 64) (hB : ∀ k, 0 ≤ K4 k ∧ K4 k ≤ 255) (hw : 0 ≤ w ∧ w ≤ 4) : ∀ (d : Nat) (j : Nat) (acc : Int), j + d = (K3 k).toNat → acc = linesN K4 (k * 64) j → Ev G M_Mo_cue (rm 2 50) (Pu (.long (lZ (cueV K1 K2 K3 K4 n k w))) h) 26 [(0, .ref m), (1, .int (iZ (k : Int))), (2, .int (iZ w)), (3, .int (iZ acc)), (4, .int (iZ (j : Int)))] [] h 0 0 := by
  intro d
  induction d using Nat.strongRecOn with
  | ind d ih =>
  intro j acc hd hacc
  have ra := linesN_r K4 (k * 64) j
  refine ev_iload d_Mo_cue_26 rfl ?_
  refine ev_aload_n d_Mo_cue_28 rfl rfl ?_
  refine ev_getF d_Mo_cue_29 fl_Mo_27 hm (by decide) f7 ?_
  refine ev_iload_n d_Mo_cue_32 rfl rfl ?_
  refine ez_iaload k d_Mo_cue_33 hs3 (by omega) (by omega) (by decide) ?_
  refine ez_icmp_ge (tgt := 68) (by omega) (by omega) d_Mo_cue_34 rfl (fun c34 => ?_) (fun c34 => ?_)
  · refine ev_iload_n d_Mo_cue_68 rfl rfl ?_
    rcases (show w = 0 ∨ w = 1 ∨ w = 2 ∨ w = 3 ∨ w = 4 by omega) with rfl | rfl | rfl | rfl | rfl
    · refine ez_tabIn (tgt := 100) d_Mo_cue_69 (by decide) (by decide) (by decide) rfl rfl ?_
      refine ev_aload_n d_Mo_cue_100 rfl rfl ?_
      refine ev_getF d_Mo_cue_101 fl_Mo_20 hm (by decide) f5 ?_
      refine ev_iload_n d_Mo_cue_104 rfl rfl ?_
      refine ez_laload k d_Mo_cue_105 hs1 (by omega) (by omega) (by decide) ?_
      exact ev_lreturn d_Mo_cue_106 rfl (by decide) (by decide) (⟨by rw [cueV_k (by omega)]; simp, rfl⟩)
    · refine ez_tabIn (tgt := 107) d_Mo_cue_69 (by decide) (by decide) (by decide) rfl rfl ?_
      refine ev_aload_n d_Mo_cue_107 rfl rfl ?_
      refine ev_getF d_Mo_cue_108 fl_Mo_24 hm (by decide) f6 ?_
      refine ev_iload_n d_Mo_cue_111 rfl rfl ?_
      refine ez_laload k d_Mo_cue_112 hs2 (by omega) (by omega) (by decide) ?_
      exact ev_lreturn d_Mo_cue_113 rfl (by decide) (by decide) (⟨by rw [cueV_k (by omega)]; simp, rfl⟩)
    · refine ez_tabIn (tgt := 114) d_Mo_cue_69 (by decide) (by decide) (by decide) rfl rfl ?_
      refine ev_aload_n d_Mo_cue_114 rfl rfl ?_
      refine ev_getF d_Mo_cue_115 fl_Mo_27 hm (by decide) f7 ?_
      refine ev_iload_n d_Mo_cue_118 rfl rfl ?_
      refine ez_iaload k d_Mo_cue_119 hs3 (by omega) (by omega) (by decide) ?_
      refine ez_i2l (by omega) d_Mo_cue_120 ?_
      exact ev_lreturn d_Mo_cue_121 rfl (by decide) (by decide) (⟨by rw [cueV_k (by omega)]; simp, rfl⟩)
    · refine ez_tabIn (tgt := 122) d_Mo_cue_69 (by decide) (by decide) (by decide) rfl rfl ?_
      refine ev_iload_n d_Mo_cue_122 rfl rfl ?_
      refine ez_i2l (by omega) d_Mo_cue_123 ?_
      exact ev_lreturn d_Mo_cue_124 rfl (by decide) (by decide) (⟨by rw [cueV_k (by omega)]; simp [hacc, show (K3 k).toNat = j by omega], rfl⟩)
    · refine ez_tabOut (tgt := 125) d_Mo_cue_69 (by decide) (Or.inr (by decide)) rfl ?_
      refine ev_aload_n d_Mo_cue_125 rfl rfl ?_
      refine ev_iload_n d_Mo_cue_126 rfl rfl ?_
      refine ev_iconst (v := iZ 0) d_Mo_cue_127 rfl ?_
      refine ev_aload_n d_Mo_cue_128 rfl rfl ?_
      refine ev_getF d_Mo_cue_129 fl_Mo_27 hm (by decide) f7 ?_
      refine ev_iload_n d_Mo_cue_132 rfl rfl ?_
      refine ez_iaload k d_Mo_cue_133 hs3 (by omega) (by omega) (by decide) ?_
      obtain ⟨z3, hz3⟩ : ∃ z : Nat, K3 k = (z : Int) := ⟨(K3 k).toNat, by omega⟩
      rw [hz3]
      refine ev_pV M_Mo_cells 1 22 (As := [.int (iZ (k : Int)), .int (iZ 0), .int (iZ (z3 : Int))]) (c_Mo_cells G h σ m s4 K4 hm f8 hs4 k 0 z3 (by omega) (by omega) hB) d_Mo_cue_134 mk_Mo_cells ml_Mo_222 mv_Mo_cells hm rfl rfl rfl (Nat.le_of_ble_eq_true rfl) ⟨by decide, by decide⟩ ⟨by decide, by decide⟩ ?_
      rw [show cellsN K4 (k * 64 + 0) (z3 - 0) = cellsN K4 (k * 64) (K3 k).toNat by rw [hz3]; rfl]
      have rl := cellsN_r K4 (k * 64) (K3 k).toNat
      refine ez_i2l (by omega) d_Mo_cue_137 ?_
      exact ev_lreturn d_Mo_cue_138 rfl (by decide) (by decide) (⟨by rw [cueV_k (by omega)]; simp, rfl⟩)
  · refine ev_aload_n d_Mo_cue_37 rfl rfl ?_
    refine ev_getF d_Mo_cue_38 fl_Mo_30 hm (by decide) f8 ?_
    refine ev_bipush (v := iZ 64) d_Mo_cue_41 rfl ?_
    refine ev_iload_n d_Mo_cue_43 rfl rfl ?_
    refine ez_imul d_Mo_cue_44 ?_
    refine ev_iload d_Mo_cue_45 rfl ?_
    refine ez_iadd d_Mo_cue_47 ?_
    refine ez_iaload (k * 64 + j) d_Mo_cue_48 hs4 (by omega) (by omega) (by decide) ?_
    have rb := hB (k * 64 + j)
    refine ev_bipush (v := iZ 10) d_Mo_cue_49 rfl ?_
    refine ez_icmp_ne (tgt := 60) (by omega) (by decide) d_Mo_cue_51 rfl (fun c51 => ?_) (fun c51 => ?_)
    · refine ev_iload_n d_Mo_cue_60 rfl rfl ?_
      refine ev_istore_n (L' := [(0, .ref m), (1, .int (iZ (k : Int))), (2, .int (iZ w)), (3, .int (iZ acc)), (4, .int (iZ (j : Int)))]) d_Mo_cue_61 rfl (by decide) rfl ?_
      refine ez_iinc (L' := [(0, .ref m), (1, .int (iZ (k : Int))), (2, .int (iZ w)), (3, .int (iZ acc)), (4, .int (iZ ((j + 1 : Nat) : Int)))]) d_Mo_cue_62 rfl (by decide) rfl ?_
      refine ev_goto (tgt := 26) d_Mo_cue_65 rfl ?_
      exact ih (d - 1) (by omega) (j + 1) _ (by omega) (by rw [linesN_n c51, hacc])
    · refine ev_iload_n d_Mo_cue_54 rfl rfl ?_
      refine ev_iconst (v := iZ 1) d_Mo_cue_55 rfl ?_
      refine ez_iadd d_Mo_cue_56 ?_
      refine ev_goto (tgt := 61) d_Mo_cue_57 rfl ?_
      refine ev_istore_n (L' := [(0, .ref m), (1, .int (iZ (k : Int))), (2, .int (iZ w)), (3, .int (iZ (acc + 1))), (4, .int (iZ (j : Int)))]) d_Mo_cue_61 rfl (by decide) rfl ?_
      refine ez_iinc (L' := [(0, .ref m), (1, .int (iZ (k : Int))), (2, .int (iZ w)), (3, .int (iZ (acc + 1))), (4, .int (iZ ((j + 1 : Nat) : Int)))]) d_Mo_cue_62 rfl (by decide) rfl ?_
      refine ev_goto (tgt := 26) d_Mo_cue_65 rfl ?_
      exact ih (d - 1) (by omega) (j + 1) _ (by omega) (by rw [linesN_10 c51, hacc])
set_option maxHeartbeats 4000000 in
set_option maxRecDepth 100000 in
theorem c_Mo_cue (G : GT) (h : HM) (σ : Nat → Value) (m s1 s2 s3 s4 : Nat) (n : Int) (K1 K2 K3 K4 : Nat → Int) (i w : Int) (hm : h m = some (.inr (11, fsN 34 σ))) (f4 : σ 4 = .int (iZ n)) (f5 : σ 5 = .ref s1) (f6 : σ 6 = .ref s2) (f7 : σ 7 = .ref s3) (f8 : σ 8 = .ref s4) (hs1 : h s1 = some (.inl (G_j G, 16, .inr (.inl (lA K1))))) (hs2 : h s2 = some (.inl (G_j G, 16, .inr (.inl (lA K2))))) (hs3 : h s3 = some (.inl (G_i G, 16, .inl (iA K3)))) (hs4 : h s4 = some (.inl (G_i G, 1024, .inl (iA K4)))) (hS : ∀ k : Nat, (k : Int) < n → 0 ≤ K3 k ∧ K3 k ≤ 64) (hB : ∀ k, 0 ≤ K4 k ∧ K4 k ≤ 255) (hn : 0 ≤ n ∧ n ≤ 16) (hi : iR i) (hw9 : iR w) : Rn G M_Mo_cue (rm 2 50) [.ref m, .int (iZ i), .int (iZ w)] h (Pu (.long (lZ (cueV K1 K2 K3 K4 n i w))) h) := by
  refine rn_of (by decide) (Nat.le_of_ble_eq_true rfl) ?_
  show Ev G M_Mo_cue _ _ 0 [(0, .ref m), (1, .int (iZ i)), (2, .int (iZ w))] [] _ 0 0
  refine ev_aload_n d_Mo_cue_0 rfl rfl ?_
  refine ev_iload_n d_Mo_cue_1 rfl rfl ?_
  have hr9 := hasZ_r n i
  refine ev_pV M_Mo_isCue 0 0 (As := [.int (iZ i)]) (c_Mo_isCue G h σ m n i hm f4 hn (by omega)) d_Mo_cue_2 mk_Mo_isCue ml_Mo_217 mv_Mo_isCue hm rfl rfl rfl (Nat.le_of_ble_eq_true rfl) ⟨by decide, by decide⟩ ⟨by decide, by decide⟩ ?_
  refine ez_if_eq (tgt := 17) (by omega) d_Mo_cue_5 rfl (fun c5 => ?_) (fun c5 => ?_)
  · have z5 := hasZ_0 c5
    refine ev_ldc2 (v := lZ (-1)) d_Mo_cue_17 kc_Mo_220 ?_
    exact ev_lreturn d_Mo_cue_20 rfl (by decide) (by decide) (⟨by rw [show cueV K1 K2 K3 K4 n i w = -1 from by by_cases q : 0 ≤ i ∧ i < n; obtain ⟨k, rfl⟩ : ∃ k : Nat, i = (k : Int) := ⟨i.toNat, by omega⟩; rw [cueV_k (by omega), if_neg (by omega), if_neg (by omega), if_neg (by omega), if_neg (by omega), if_neg (by omega)]; exact cueV_n (by omega)], rfl⟩)
  · have z5 := hasZ_1 c5
    refine ev_iload_n d_Mo_cue_8 rfl rfl ?_
    refine ez_if_lt (tgt := 17) (by omega) d_Mo_cue_9 rfl (fun c9 => ?_) (fun c9 => ?_)
    · refine ev_ldc2 (v := lZ (-1)) d_Mo_cue_17 kc_Mo_220 ?_
      exact ev_lreturn d_Mo_cue_20 rfl (by decide) (by decide) (⟨by rw [show cueV K1 K2 K3 K4 n i w = -1 from by by_cases q : 0 ≤ i ∧ i < n; obtain ⟨k, rfl⟩ : ∃ k : Nat, i = (k : Int) := ⟨i.toNat, by omega⟩; rw [cueV_k (by omega), if_neg (by omega), if_neg (by omega), if_neg (by omega), if_neg (by omega), if_neg (by omega)]; exact cueV_n (by omega)], rfl⟩)
    · refine ev_iload_n d_Mo_cue_12 rfl rfl ?_
      refine ev_iconst (v := iZ 4) d_Mo_cue_13 rfl ?_
      refine ez_icmp_le (tgt := 21) (by omega) (by decide) d_Mo_cue_14 rfl (fun c14 => ?_) (fun c14 => ?_)
      · refine ev_iconst (v := iZ 1) d_Mo_cue_21 rfl ?_
        refine ev_istore_n (L' := [(0, .ref m), (1, .int (iZ i)), (2, .int (iZ w)), (3, .int (iZ 1))]) d_Mo_cue_22 rfl (by decide) rfl ?_
        refine ev_iconst (v := iZ 0) d_Mo_cue_23 rfl ?_
        refine ev_istore (L' := [(0, .ref m), (1, .int (iZ i)), (2, .int (iZ w)), (3, .int (iZ 1)), (4, .int (iZ 0))]) d_Mo_cue_24 (by decide) rfl ?_
        obtain ⟨k, rfl⟩ : ∃ k : Nat, i = (k : Int) := ⟨i.toNat, by omega⟩
        exact lp_Mo_cue G h σ m s1 s2 s3 s4 n K1 K2 K3 K4 hm f4 f5 f6 f7 f8 hs1 hs2 hs3 hs4 k w (by omega) (by omega) (hS k (by omega)) hB (by omega) _ 0 1 (Nat.zero_add _) rfl
      · refine ev_ldc2 (v := lZ (-1)) d_Mo_cue_17 kc_Mo_220 ?_
        exact ev_lreturn d_Mo_cue_20 rfl (by decide) (by decide) (⟨by rw [show cueV K1 K2 K3 K4 n i w = -1 from by by_cases q : 0 ≤ i ∧ i < n; obtain ⟨k, rfl⟩ : ∃ k : Nat, i = (k : Int) := ⟨i.toNat, by omega⟩; rw [cueV_k (by omega), if_neg (by omega), if_neg (by omega), if_neg (by omega), if_neg (by omega), if_neg (by omega)]; exact cueV_n (by omega)], rfl⟩)
set_option maxHeartbeats 4000000 in
set_option maxRecDepth 100000 in
theorem c_Mo_text (G : GT) (h : HM) (σ : Nat → Value) (m s1 s2 s3 s4 : Nat) (n : Int) (K1 K2 K3 K4 : Nat → Int) (i j : Int) (hm : h m = some (.inr (11, fsN 34 σ))) (f4 : σ 4 = .int (iZ n)) (f5 : σ 5 = .ref s1) (f6 : σ 6 = .ref s2) (f7 : σ 7 = .ref s3) (f8 : σ 8 = .ref s4) (hs1 : h s1 = some (.inl (G_j G, 16, .inr (.inl (lA K1))))) (hs2 : h s2 = some (.inl (G_j G, 16, .inr (.inl (lA K2))))) (hs3 : h s3 = some (.inl (G_i G, 16, .inl (iA K3)))) (hs4 : h s4 = some (.inl (G_i G, 1024, .inl (iA K4)))) (hS : ∀ k : Nat, (k : Int) < n → 0 ≤ K3 k ∧ K3 k ≤ 64) (hB : ∀ k, 0 ≤ K4 k ∧ K4 k ≤ 255) (hn : 0 ≤ n ∧ n ≤ 16) (hi : iR i) (hj : iR j) : Rn G M_Mo_text (rm 1 30) [.ref m, .int (iZ i), .int (iZ j)] h (Pu (.int (iZ (textV K3 K4 n i j))) h) := by
  refine rn_of (by decide) (Nat.le_of_ble_eq_true rfl) ?_
  show Ev G M_Mo_text _ _ 0 [(0, .ref m), (1, .int (iZ i)), (2, .int (iZ j))] [] _ 0 0
  refine ev_aload_n d_Mo_text_0 rfl rfl ?_
  refine ev_iload_n d_Mo_text_1 rfl rfl ?_
  have hr9 := hasZ_r n i
  refine ev_pV M_Mo_isCue 0 0 (As := [.int (iZ i)]) (c_Mo_isCue G h σ m n i hm f4 hn (by omega)) d_Mo_text_2 mk_Mo_isCue ml_Mo_217 mv_Mo_isCue hm rfl rfl rfl (Nat.le_of_ble_eq_true rfl) ⟨by decide, by decide⟩ ⟨by decide, by decide⟩ ?_
  refine ez_if_eq (tgt := 36) (by omega) d_Mo_text_5 rfl (fun c5 => ?_) (fun c5 => ?_)
  · have z8 := hasZ_0 c5
    refine ev_iconst (v := iZ (-1)) d_Mo_text_36 rfl ?_
    exact ev_ireturn d_Mo_text_37 rfl (by decide) (by decide) (⟨by rw [show textV K3 K4 n i j = -1 from if_neg (by simp; omega)], rfl⟩)
  · have z8 := hasZ_1 c5
    obtain ⟨k, rfl⟩ : ∃ k : Nat, i = (k : Int) := ⟨i.toNat, by omega⟩
    have hk := hS k (by omega)
    refine ev_iload_n d_Mo_text_8 rfl rfl ?_
    refine ez_if_lt (tgt := 36) (by omega) d_Mo_text_9 rfl (fun c9 => ?_) (fun c9 => ?_)
    · refine ev_iconst (v := iZ (-1)) d_Mo_text_36 rfl ?_
      exact ev_ireturn d_Mo_text_37 rfl (by decide) (by decide) (⟨by rw [show textV K3 K4 n (k : Int) j = -1 from if_neg (by simp; omega)], rfl⟩)
    · refine ev_iload_n d_Mo_text_12 rfl rfl ?_
      refine ev_aload_n d_Mo_text_13 rfl rfl ?_
      refine ev_getF d_Mo_text_14 fl_Mo_27 hm (by decide) f7 ?_
      refine ev_iload_n d_Mo_text_17 rfl rfl ?_
      refine ez_iaload k d_Mo_text_18 hs3 (by omega) (by omega) (by decide) ?_
      refine ez_icmp_ge (tgt := 36) (by omega) (by omega) d_Mo_text_19 rfl (fun c19 => ?_) (fun c19 => ?_)
      · refine ev_iconst (v := iZ (-1)) d_Mo_text_36 rfl ?_
        exact ev_ireturn d_Mo_text_37 rfl (by decide) (by decide) (⟨by rw [show textV K3 K4 n (k : Int) j = -1 from if_neg (by simp; omega)], rfl⟩)
      · refine ev_aload_n d_Mo_text_22 rfl rfl ?_
        refine ev_getF d_Mo_text_23 fl_Mo_30 hm (by decide) f8 ?_
        refine ev_bipush (v := iZ 64) d_Mo_text_26 rfl ?_
        refine ev_iload_n d_Mo_text_28 rfl rfl ?_
        refine ez_imul d_Mo_text_29 ?_
        refine ev_iload_n d_Mo_text_30 rfl rfl ?_
        refine ez_iadd d_Mo_text_31 ?_
        refine ez_iaload (k * 64 + j.toNat) d_Mo_text_32 hs4 (by omega) (by omega) (by decide) ?_
        refine ev_goto (tgt := 37) d_Mo_text_33 rfl ?_
        exact ev_ireturn d_Mo_text_37 rfl (by decide) (by decide) (⟨by rw [show textV K3 K4 n (k : Int) j = K4 (k * 64 + j.toNat) from (if_pos (by simp; omega)).trans (by simp)], rfl⟩)
set_option maxHeartbeats 4000000 in
set_option maxRecDepth 100000 in
theorem lp_CB_clash (G : GT) (h : HM) (x b xf xu xo xp xe xw xl xr : Nat) (o1 o2 o3 o4 : Nat) (n : Nat) (K1 K2 : Nat → Int) (hx : h x = some (.inr (0, [.ref b, .ref xf, .ref xu, .ref xo, .ref xp, .ref xe, .ref xw, .ref xl, .ref xr]))) (ho : h xo = some (.inr (2, [.ref o1, .ref o2, .ref o3, .ref o4, .int (iZ (n : Int))]))) (ho1 : h o1 = some (.inl (G_j G, 16, .inr (.inl (lA K1))))) (ho2 : h o2 = some (.inl (G_j G, 16, .inr (.inl (lA K2))))) (hT : ∀ k, 0 ≤ K1 k ∧ K1 k ≤ 2540160000000) (hE : ∀ k, 0 ≤ K2 k ∧ K2 k ≤ 2540160000000) (hn : n ≤ 16) : ∀ (d : Nat) (i : Nat), i + d = 16 → (∀ j, j < i → K2 j ≤ K1 (j + 1)) → Ev G M_CB_clash (rm 0 0) (fun r h' => h' = h ∧ ∃ v, clashP K1 K2 n v ∧ r = some (.int (iZ v))) 2 [(0, .ref x), (1, .int (iZ (i : Int)))] [] h 0 0 := by
  intro d
  induction d using Nat.strongRecOn with
  | ind d ih =>
  intro i hd hno
  refine ev_iload_n d_CB_clash_2 rfl rfl ?_
  refine ev_iconst (v := iZ 1) d_CB_clash_3 rfl ?_
  refine ez_iadd d_CB_clash_4 ?_
  refine ev_aload_n d_CB_clash_5 rfl rfl ?_
  refine ev_get d_CB_clash_6 fl_CB_33 hx rfl ?_
  refine ev_get d_CB_clash_9 fl_CB_112 ho rfl ?_
  refine ez_icmp_ge (tgt := 47) (by omega) (by omega) d_CB_clash_12 rfl (fun c12 => ?_) (fun c12 => ?_)
  · refine ev_iconst (v := iZ (-1)) d_CB_clash_47 rfl ?_
    exact ev_ireturn d_CB_clash_48 rfl (by decide) (by decide) (⟨rfl, -1, Or.inl ⟨rfl, fun j hj => hno j (by omega)⟩, rfl⟩)
  · refine ev_aload_n d_CB_clash_15 rfl rfl ?_
    refine ev_get d_CB_clash_16 fl_CB_33 hx rfl ?_
    refine ev_get d_CB_clash_19 fl_CB_130 ho rfl ?_
    refine ev_iload_n d_CB_clash_22 rfl rfl ?_
    refine ez_laload i d_CB_clash_23 ho2 (by omega) (by omega) (by decide) ?_
    refine ev_aload_n d_CB_clash_24 rfl rfl ?_
    refine ev_get d_CB_clash_25 fl_CB_33 hx rfl ?_
    refine ev_get d_CB_clash_28 fl_CB_126 ho rfl ?_
    refine ev_iload_n d_CB_clash_31 rfl rfl ?_
    refine ev_iconst (v := iZ 1) d_CB_clash_32 rfl ?_
    refine ez_iadd d_CB_clash_33 ?_
    refine ez_laload (i + 1) d_CB_clash_34 ho1 (by omega) (by omega) (by decide) ?_
    have rt := hT (i + 1)
    have re := hE i
    refine ev_lcmp d_CB_clash_35 ?_
    refine ez_lif_le (tgt := 41) (by omega) (by omega) d_CB_clash_36 rfl (fun c36 => ?_) (fun c36 => ?_)
    · refine ez_iinc (L' := [(0, .ref x), (1, .int (iZ ((i + 1 : Nat) : Int)))]) d_CB_clash_41 rfl (by decide) rfl ?_
      refine ev_goto (tgt := 2) d_CB_clash_44 rfl ?_
      exact ih (d - 1) (by omega) (i + 1) (by omega) (fun j hj => by rcases Nat.lt_succ_iff_lt_or_eq.mp hj with q | rfl; exact hno j q; omega)
    · refine ev_iload_n d_CB_clash_39 rfl rfl ?_
      exact ev_ireturn d_CB_clash_40 rfl (by decide) (by decide) (⟨rfl, (i : Int), Or.inr ⟨i, rfl, by omega, by omega, hno⟩, rfl⟩)
set_option maxHeartbeats 4000000 in
set_option maxRecDepth 100000 in
theorem c_CB_clash (G : GT) (h : HM) (x b xf xu xo xp xe xw xl xr : Nat) (o1 o2 o3 o4 : Nat) (n : Nat) (K1 K2 : Nat → Int) (hx : h x = some (.inr (0, [.ref b, .ref xf, .ref xu, .ref xo, .ref xp, .ref xe, .ref xw, .ref xl, .ref xr]))) (ho : h xo = some (.inr (2, [.ref o1, .ref o2, .ref o3, .ref o4, .int (iZ (n : Int))]))) (ho1 : h o1 = some (.inl (G_j G, 16, .inr (.inl (lA K1))))) (ho2 : h o2 = some (.inl (G_j G, 16, .inr (.inl (lA K2))))) (hT : ∀ k, 0 ≤ K1 k ∧ K1 k ≤ 2540160000000) (hE : ∀ k, 0 ≤ K2 k ∧ K2 k ≤ 2540160000000) (hn : n ≤ 16) : Rn G M_CB_clash (rm 0 0) [.ref x] h (fun r h' => h' = h ∧ ∃ v, clashP K1 K2 n v ∧ r = some (.int (iZ v))) := by
  refine rn_of (by decide) (Nat.le_of_ble_eq_true rfl) ?_
  show Ev G M_CB_clash _ _ 0 [(0, .ref x)] [] _ 0 0
  refine ev_iconst (v := iZ 0) d_CB_clash_0 rfl ?_
  refine ev_istore_n (L' := [(0, .ref x), (1, .int (iZ 0))]) d_CB_clash_1 rfl (by decide) rfl ?_
  exact lp_CB_clash G h x b xf xu xo xp xe xw xl xr o1 o2 o3 o4 n K1 K2 hx ho ho1 ho2 hT hE hn 16 0 (by omega) (fun j hj => absurd hj (by omega))
set_option maxHeartbeats 4000000 in
set_option maxRecDepth 100000 in
theorem lp_Mo_clash (G : GT) (h : HM) (σ : Nat → Value) (m s1 s2 : Nat) (n : Nat) (K1 K2 : Nat → Int) (hm : h m = some (.inr (11, fsN 34 σ))) (f4 : σ 4 = .int (iZ (n : Int))) (f5 : σ 5 = .ref s1) (f6 : σ 6 = .ref s2) (hs1 : h s1 = some (.inl (G_j G, 16, .inr (.inl (lA K1))))) (hs2 : h s2 = some (.inl (G_j G, 16, .inr (.inl (lA K2))))) (hT : ∀ k, 0 ≤ K1 k ∧ K1 k ≤ 2540160000000) (hE : ∀ k, 0 ≤ K2 k ∧ K2 k ≤ 2540160000000) (hn : n ≤ 16) : ∀ (d : Nat) (i : Nat), i + d = 16 → (∀ j, j < i → K2 j ≤ K1 (j + 1)) → Ev G M_Mo_clash (rm 0 0) (fun r h' => h' = h ∧ ∃ v, clashP K1 K2 n v ∧ r = some (.int (iZ v))) 2 [(0, .ref m), (1, .int (iZ (i : Int)))] [] h 0 0 := by
  intro d
  induction d using Nat.strongRecOn with
  | ind d ih =>
  intro i hd hno
  refine ev_iload_n d_Mo_clash_2 rfl rfl ?_
  refine ev_iconst (v := iZ 1) d_Mo_clash_3 rfl ?_
  refine ez_iadd d_Mo_clash_4 ?_
  refine ev_aload_n d_Mo_clash_5 rfl rfl ?_
  refine ev_getF d_Mo_clash_6 fl_Mo_92 hm (by decide) f4 ?_
  refine ez_icmp_ge (tgt := 38) (by omega) (by omega) d_Mo_clash_9 rfl (fun c9 => ?_) (fun c9 => ?_)
  · refine ev_iconst (v := iZ (-1)) d_Mo_clash_38 rfl ?_
    exact ev_ireturn d_Mo_clash_39 rfl (by decide) (by decide) (⟨rfl, -1, Or.inl ⟨rfl, fun j hj => hno j (by omega)⟩, rfl⟩)
  · refine ev_aload_n d_Mo_clash_12 rfl rfl ?_
    refine ev_getF d_Mo_clash_13 fl_Mo_24 hm (by decide) f6 ?_
    refine ev_iload_n d_Mo_clash_16 rfl rfl ?_
    refine ez_laload i d_Mo_clash_17 hs2 (by omega) (by omega) (by decide) ?_
    refine ev_aload_n d_Mo_clash_18 rfl rfl ?_
    refine ev_getF d_Mo_clash_19 fl_Mo_20 hm (by decide) f5 ?_
    refine ev_iload_n d_Mo_clash_22 rfl rfl ?_
    refine ev_iconst (v := iZ 1) d_Mo_clash_23 rfl ?_
    refine ez_iadd d_Mo_clash_24 ?_
    refine ez_laload (i + 1) d_Mo_clash_25 hs1 (by omega) (by omega) (by decide) ?_
    have rt := hT (i + 1)
    have re := hE i
    refine ev_lcmp d_Mo_clash_26 ?_
    refine ez_lif_le (tgt := 32) (by omega) (by omega) d_Mo_clash_27 rfl (fun c27 => ?_) (fun c27 => ?_)
    · refine ez_iinc (L' := [(0, .ref m), (1, .int (iZ ((i + 1 : Nat) : Int)))]) d_Mo_clash_32 rfl (by decide) rfl ?_
      refine ev_goto (tgt := 2) d_Mo_clash_35 rfl ?_
      exact ih (d - 1) (by omega) (i + 1) (by omega) (fun j hj => by rcases Nat.lt_succ_iff_lt_or_eq.mp hj with q | rfl; exact hno j q; omega)
    · refine ev_iload_n d_Mo_clash_30 rfl rfl ?_
      exact ev_ireturn d_Mo_clash_31 rfl (by decide) (by decide) (⟨rfl, (i : Int), Or.inr ⟨i, rfl, by omega, by omega, hno⟩, rfl⟩)
set_option maxHeartbeats 4000000 in
set_option maxRecDepth 100000 in
theorem c_Mo_clash (G : GT) (h : HM) (σ : Nat → Value) (m s1 s2 : Nat) (n : Nat) (K1 K2 : Nat → Int) (hm : h m = some (.inr (11, fsN 34 σ))) (f4 : σ 4 = .int (iZ (n : Int))) (f5 : σ 5 = .ref s1) (f6 : σ 6 = .ref s2) (hs1 : h s1 = some (.inl (G_j G, 16, .inr (.inl (lA K1))))) (hs2 : h s2 = some (.inl (G_j G, 16, .inr (.inl (lA K2))))) (hT : ∀ k, 0 ≤ K1 k ∧ K1 k ≤ 2540160000000) (hE : ∀ k, 0 ≤ K2 k ∧ K2 k ≤ 2540160000000) (hn : n ≤ 16) : Rn G M_Mo_clash (rm 0 0) [.ref m] h (fun r h' => h' = h ∧ ∃ v, clashP K1 K2 n v ∧ r = some (.int (iZ v))) := by
  refine rn_of (by decide) (Nat.le_of_ble_eq_true rfl) ?_
  show Ev G M_Mo_clash _ _ 0 [(0, .ref m)] [] _ 0 0
  refine ev_iconst (v := iZ 0) d_Mo_clash_0 rfl ?_
  refine ev_istore_n (L' := [(0, .ref m), (1, .int (iZ 0))]) d_Mo_clash_1 rfl (by decide) rfl ?_
  exact lp_Mo_clash G h σ m s1 s2 n K1 K2 hm f4 f5 f6 hs1 hs2 hT hE hn 16 0 (by omega) (fun j hj => absurd hj (by omega))
