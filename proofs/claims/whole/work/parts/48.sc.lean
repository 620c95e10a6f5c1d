theorem d_Mo_isClear_0 : decode M_Mo_isClear.2.1 0 = .ok (.iconst 0, 1) := by decide +kernel
theorem d_Mo_isClear_1 : decode M_Mo_isClear.2.1 1 = .ok (.istore_n 3, 1) := by decide +kernel
theorem d_Mo_isClear_2 : decode M_Mo_isClear.2.1 2 = .ok (.iconst 0, 1) := by decide +kernel
theorem d_Mo_isClear_3 : decode M_Mo_isClear.2.1 3 = .ok (.istore 4, 2) := by decide +kernel
theorem d_Mo_isClear_5 : decode M_Mo_isClear.2.1 5 = .ok (.iconst 0, 1) := by decide +kernel
theorem d_Mo_isClear_6 : decode M_Mo_isClear.2.1 6 = .ok (.istore 5, 2) := by decide +kernel
theorem d_Mo_isClear_8 : decode M_Mo_isClear.2.1 8 = .ok (.iload 5, 2) := by decide +kernel
theorem d_Mo_isClear_10 : decode M_Mo_isClear.2.1 10 = .ok (.aload_n 0, 1) := by decide +kernel
theorem d_Mo_isClear_11 : decode M_Mo_isClear.2.1 11 = .ok (.getfield 227, 3) := by decide +kernel
theorem d_Mo_isClear_14 : decode M_Mo_isClear.2.1 14 = .ok (.if_icmp .ge 82, 3) := by decide +kernel
theorem d_Mo_isClear_17 : decode M_Mo_isClear.2.1 17 = .ok (.iload_n 3, 1) := by decide +kernel
theorem d_Mo_isClear_18 : decode M_Mo_isClear.2.1 18 = .ok (.ifCond .ne 37, 3) := by decide +kernel
theorem d_Mo_isClear_21 : decode M_Mo_isClear.2.1 21 = .ok (.lload_n 1, 1) := by decide +kernel
theorem d_Mo_isClear_22 : decode M_Mo_isClear.2.1 22 = .ok (.aload_n 0, 1) := by decide +kernel
theorem d_Mo_isClear_23 : decode M_Mo_isClear.2.1 23 = .ok (.getfield 60, 3) := by decide +kernel
theorem d_Mo_isClear_26 : decode M_Mo_isClear.2.1 26 = .ok (.iload 5, 2) := by decide +kernel
theorem d_Mo_isClear_28 : decode M_Mo_isClear.2.1 28 = .ok (.iaload, 1) := by decide +kernel
theorem d_Mo_isClear_29 : decode M_Mo_isClear.2.1 29 = .ok (.i2l, 1) := by decide +kernel
theorem d_Mo_isClear_30 : decode M_Mo_isClear.2.1 30 = .ok (.lsub, 1) := by decide +kernel
theorem d_Mo_isClear_31 : decode M_Mo_isClear.2.1 31 = .ok (.ldc2_w 230, 3) := by decide +kernel
theorem d_Mo_isClear_34 : decode M_Mo_isClear.2.1 34 = .ok (.lcmp, 1) := by decide +kernel
theorem d_Mo_isClear_35 : decode M_Mo_isClear.2.1 35 = .ok (.ifCond .gt 24, 3) := by decide +kernel
theorem d_Mo_isClear_38 : decode M_Mo_isClear.2.1 38 = .ok (.aload_n 0, 1) := by decide +kernel
theorem d_Mo_isClear_39 : decode M_Mo_isClear.2.1 39 = .ok (.getfield 60, 3) := by decide +kernel
theorem d_Mo_isClear_42 : decode M_Mo_isClear.2.1 42 = .ok (.iload 5, 2) := by decide +kernel
theorem d_Mo_isClear_44 : decode M_Mo_isClear.2.1 44 = .ok (.iaload, 1) := by decide +kernel
theorem d_Mo_isClear_45 : decode M_Mo_isClear.2.1 45 = .ok (.i2l, 1) := by decide +kernel
theorem d_Mo_isClear_46 : decode M_Mo_isClear.2.1 46 = .ok (.lload_n 1, 1) := by decide +kernel
theorem d_Mo_isClear_47 : decode M_Mo_isClear.2.1 47 = .ok (.lsub, 1) := by decide +kernel
theorem d_Mo_isClear_48 : decode M_Mo_isClear.2.1 48 = .ok (.ldc2_w 230, 3) := by decide +kernel
theorem d_Mo_isClear_51 : decode M_Mo_isClear.2.1 51 = .ok (.lcmp, 1) := by decide +kernel
theorem d_Mo_isClear_52 : decode M_Mo_isClear.2.1 52 = .ok (.ifCond .gt 7, 3) := by decide +kernel
theorem d_Mo_isClear_55 : decode M_Mo_isClear.2.1 55 = .ok (.iconst 1, 1) := by decide +kernel
theorem d_Mo_isClear_56 : decode M_Mo_isClear.2.1 56 = .ok (.goto 4, 3) := by decide +kernel
theorem d_Mo_isClear_59 : decode M_Mo_isClear.2.1 59 = .ok (.iconst 0, 1) := by decide +kernel
theorem d_Mo_isClear_60 : decode M_Mo_isClear.2.1 60 = .ok (.istore_n 3, 1) := by decide +kernel
theorem d_Mo_isClear_61 : decode M_Mo_isClear.2.1 61 = .ok (.iload 4, 2) := by decide +kernel
theorem d_Mo_isClear_63 : decode M_Mo_isClear.2.1 63 = .ok (.ifCond .ne 20, 3) := by decide +kernel
theorem d_Mo_isClear_66 : decode M_Mo_isClear.2.1 66 = .ok (.lload_n 1, 1) := by decide +kernel
theorem d_Mo_isClear_67 : decode M_Mo_isClear.2.1 67 = .ok (.ldc2_w 84, 3) := by decide +kernel
theorem d_Mo_isClear_70 : decode M_Mo_isClear.2.1 70 = .ok (.ladd, 1) := by decide +kernel
theorem d_Mo_isClear_71 : decode M_Mo_isClear.2.1 71 = .ok (.aload_n 0, 1) := by decide +kernel
theorem d_Mo_isClear_72 : decode M_Mo_isClear.2.1 72 = .ok (.getfield 60, 3) := by decide +kernel
theorem d_Mo_isClear_75 : decode M_Mo_isClear.2.1 75 = .ok (.iload 5, 2) := by decide +kernel
theorem d_Mo_isClear_77 : decode M_Mo_isClear.2.1 77 = .ok (.iaload, 1) := by decide +kernel
theorem d_Mo_isClear_78 : decode M_Mo_isClear.2.1 78 = .ok (.i2l, 1) := by decide +kernel
theorem d_Mo_isClear_79 : decode M_Mo_isClear.2.1 79 = .ok (.lcmp, 1) := by decide +kernel
theorem d_Mo_isClear_80 : decode M_Mo_isClear.2.1 80 = .ok (.ifCond .ne 7, 3) := by decide +kernel
theorem d_Mo_isClear_83 : decode M_Mo_isClear.2.1 83 = .ok (.iconst 1, 1) := by decide +kernel
theorem d_Mo_isClear_84 : decode M_Mo_isClear.2.1 84 = .ok (.goto 4, 3) := by decide +kernel
theorem d_Mo_isClear_87 : decode M_Mo_isClear.2.1 87 = .ok (.iconst 0, 1) := by decide +kernel
theorem d_Mo_isClear_88 : decode M_Mo_isClear.2.1 88 = .ok (.istore 4, 2) := by decide +kernel
theorem d_Mo_isClear_90 : decode M_Mo_isClear.2.1 90 = .ok (.iinc 5 1, 3) := by decide +kernel
theorem d_Mo_isClear_93 : decode M_Mo_isClear.2.1 93 = .ok (.goto (-85), 3) := by decide +kernel
theorem d_Mo_isClear_96 : decode M_Mo_isClear.2.1 96 = .ok (.iload_n 3, 1) := by decide +kernel
theorem d_Mo_isClear_97 : decode M_Mo_isClear.2.1 97 = .ok (.ifCond .eq 8, 3) := by decide +kernel
theorem d_Mo_isClear_100 : decode M_Mo_isClear.2.1 100 = .ok (.iload 4, 2) := by decide +kernel
theorem d_Mo_isClear_102 : decode M_Mo_isClear.2.1 102 = .ok (.ifCond .eq 7, 3) := by decide +kernel
theorem d_Mo_isClear_105 : decode M_Mo_isClear.2.1 105 = .ok (.iconst 1, 1) := by decide +kernel
theorem d_Mo_isClear_106 : decode M_Mo_isClear.2.1 106 = .ok (.goto 4, 3) := by decide +kernel
theorem d_Mo_isClear_109 : decode M_Mo_isClear.2.1 109 = .ok (.iconst 0, 1) := by decide +kernel
theorem d_Mo_isClear_110 : decode M_Mo_isClear.2.1 110 = .ok (.ireturn, 1) := by decide +kernel
theorem d_Mo_away_0 : decode M_Mo_away.2.1 0 = .ok (.lload_n 0, 1) := by decide +kernel
theorem d_Mo_away_1 : decode M_Mo_away.2.1 1 = .ok (.lload_n 2, 1) := by decide +kernel
theorem d_Mo_away_2 : decode M_Mo_away.2.1 2 = .ok (.lcmp, 1) := by decide +kernel
theorem d_Mo_away_3 : decode M_Mo_away.2.1 3 = .ok (.ifCond .ge 9, 3) := by decide +kernel
theorem d_Mo_away_6 : decode M_Mo_away.2.1 6 = .ok (.lload_n 2, 1) := by decide +kernel
theorem d_Mo_away_7 : decode M_Mo_away.2.1 7 = .ok (.lload_n 0, 1) := by decide +kernel
theorem d_Mo_away_8 : decode M_Mo_away.2.1 8 = .ok (.lsub, 1) := by decide +kernel
theorem d_Mo_away_9 : decode M_Mo_away.2.1 9 = .ok (.goto 6, 3) := by decide +kernel
theorem d_Mo_away_12 : decode M_Mo_away.2.1 12 = .ok (.lload_n 0, 1) := by decide +kernel
theorem d_Mo_away_13 : decode M_Mo_away.2.1 13 = .ok (.lload_n 2, 1) := by decide +kernel
theorem d_Mo_away_14 : decode M_Mo_away.2.1 14 = .ok (.lsub, 1) := by decide +kernel
theorem d_Mo_away_15 : decode M_Mo_away.2.1 15 = .ok (.lreturn, 1) := by decide +kernel
theorem d_Mo_lasts_0 : decode M_Mo_lasts.2.1 0 = .ok (.lload_n 2, 1) := by decide +kernel
theorem d_Mo_lasts_1 : decode M_Mo_lasts.2.1 1 = .ok (.lconst 0, 1) := by decide +kernel
theorem d_Mo_lasts_2 : decode M_Mo_lasts.2.1 2 = .ok (.lcmp, 1) := by decide +kernel
theorem d_Mo_lasts_3 : decode M_Mo_lasts.2.1 3 = .ok (.ifCond .lt 95, 3) := by decide +kernel
theorem d_Mo_lasts_6 : decode M_Mo_lasts.2.1 6 = .ok (.lload 4, 2) := by decide +kernel
theorem d_Mo_lasts_8 : decode M_Mo_lasts.2.1 8 = .ok (.aload_n 0, 1) := by decide +kernel
theorem d_Mo_lasts_9 : decode M_Mo_lasts.2.1 9 = .ok (.invokevirtual 134, 3) := by decide +kernel
theorem d_Mo_lasts_12 : decode M_Mo_lasts.2.1 12 = .ok (.lmul, 1) := by decide +kernel
theorem d_Mo_lasts_13 : decode M_Mo_lasts.2.1 13 = .ok (.ldc2_w 171, 3) := by decide +kernel
theorem d_Mo_lasts_16 : decode M_Mo_lasts.2.1 16 = .ok (.lcmp, 1) := by decide +kernel
theorem d_Mo_lasts_17 : decode M_Mo_lasts.2.1 17 = .ok (.ifCond .gt 81, 3) := by decide +kernel
theorem d_Mo_lasts_20 : decode M_Mo_lasts.2.1 20 = .ok (.lload 4, 2) := by decide +kernel
theorem d_Mo_lasts_22 : decode M_Mo_lasts.2.1 22 = .ok (.lload_n 2, 1) := by decide +kernel
theorem d_Mo_lasts_23 : decode M_Mo_lasts.2.1 23 = .ok (.lsub, 1) := by decide +kernel
theorem d_Mo_lasts_24 : decode M_Mo_lasts.2.1 24 = .ok (.aload_n 0, 1) := by decide +kernel
theorem d_Mo_lasts_25 : decode M_Mo_lasts.2.1 25 = .ok (.getfield 66, 3) := by decide +kernel
theorem d_Mo_lasts_28 : decode M_Mo_lasts.2.1 28 = .ok (.i2l, 1) := by decide +kernel
theorem d_Mo_lasts_29 : decode M_Mo_lasts.2.1 29 = .ok (.lcmp, 1) := by decide +kernel
theorem d_Mo_lasts_30 : decode M_Mo_lasts.2.1 30 = .ok (.ifCond .lt 68, 3) := by decide +kernel
theorem d_Mo_lasts_33 : decode M_Mo_lasts.2.1 33 = .ok (.lload 4, 2) := by decide +kernel
theorem d_Mo_lasts_35 : decode M_Mo_lasts.2.1 35 = .ok (.lload_n 2, 1) := by decide +kernel
theorem d_Mo_lasts_36 : decode M_Mo_lasts.2.1 36 = .ok (.lsub, 1) := by decide +kernel
theorem d_Mo_lasts_37 : decode M_Mo_lasts.2.1 37 = .ok (.aload_n 0, 1) := by decide +kernel
theorem d_Mo_lasts_38 : decode M_Mo_lasts.2.1 38 = .ok (.getfield 69, 3) := by decide +kernel
theorem d_Mo_lasts_41 : decode M_Mo_lasts.2.1 41 = .ok (.i2l, 1) := by decide +kernel
theorem d_Mo_lasts_42 : decode M_Mo_lasts.2.1 42 = .ok (.lcmp, 1) := by decide +kernel
theorem d_Mo_lasts_43 : decode M_Mo_lasts.2.1 43 = .ok (.ifCond .gt 55, 3) := by decide +kernel
theorem d_Mo_lasts_46 : decode M_Mo_lasts.2.1 46 = .ok (.aload_n 0, 1) := by decide +kernel
theorem d_Mo_lasts_47 : decode M_Mo_lasts.2.1 47 = .ok (.iload_n 1, 1) := by decide +kernel
theorem d_Mo_lasts_48 : decode M_Mo_lasts.2.1 48 = .ok (.iconst 0, 1) := by decide +kernel
theorem d_Mo_lasts_49 : decode M_Mo_lasts.2.1 49 = .ok (.aload_n 0, 1) := by decide +kernel
theorem d_Mo_lasts_50 : decode M_Mo_lasts.2.1 50 = .ok (.getfield 27, 3) := by decide +kernel
theorem d_Mo_lasts_53 : decode M_Mo_lasts.2.1 53 = .ok (.iload_n 1, 1) := by decide +kernel
theorem d_Mo_lasts_54 : decode M_Mo_lasts.2.1 54 = .ok (.iaload, 1) := by decide +kernel
theorem d_Mo_lasts_55 : decode M_Mo_lasts.2.1 55 = .ok (.invokevirtual 222, 3) := by decide +kernel
theorem d_Mo_lasts_58 : decode M_Mo_lasts.2.1 58 = .ok (.i2l, 1) := by decide +kernel
theorem d_Mo_lasts_59 : decode M_Mo_lasts.2.1 59 = .ok (.aload_n 0, 1) := by decide +kernel
theorem d_Mo_lasts_60 : decode M_Mo_lasts.2.1 60 = .ok (.getfield 13, 3) := by decide +kernel
theorem d_Mo_lasts_63 : decode M_Mo_lasts.2.1 63 = .ok (.i2l, 1) := by decide +kernel
theorem d_Mo_lasts_64 : decode M_Mo_lasts.2.1 64 = .ok (.lmul, 1) := by decide +kernel
theorem d_Mo_lasts_65 : decode M_Mo_lasts.2.1 65 = .ok (.aload_n 0, 1) := by decide +kernel
theorem d_Mo_lasts_66 : decode M_Mo_lasts.2.1 66 = .ok (.getfield 72, 3) := by decide +kernel
theorem d_Mo_lasts_69 : decode M_Mo_lasts.2.1 69 = .ok (.i2l, 1) := by decide +kernel
theorem d_Mo_lasts_70 : decode M_Mo_lasts.2.1 70 = .ok (.lload 4, 2) := by decide +kernel
theorem d_Mo_lasts_72 : decode M_Mo_lasts.2.1 72 = .ok (.lload_n 2, 1) := by decide +kernel
theorem d_Mo_lasts_73 : decode M_Mo_lasts.2.1 73 = .ok (.lsub, 1) := by decide +kernel
theorem d_Mo_lasts_74 : decode M_Mo_lasts.2.1 74 = .ok (.lmul, 1) := by decide +kernel
theorem d_Mo_lasts_75 : decode M_Mo_lasts.2.1 75 = .ok (.aload_n 0, 1) := by decide +kernel
theorem d_Mo_lasts_76 : decode M_Mo_lasts.2.1 76 = .ok (.getfield 17, 3) := by decide +kernel
theorem d_Mo_lasts_79 : decode M_Mo_lasts.2.1 79 = .ok (.i2l, 1) := by decide +kernel
theorem d_Mo_lasts_80 : decode M_Mo_lasts.2.1 80 = .ok (.lmul, 1) := by decide +kernel
theorem d_Mo_lasts_81 : decode M_Mo_lasts.2.1 81 = .ok (.lcmp, 1) := by decide +kernel
theorem d_Mo_lasts_82 : decode M_Mo_lasts.2.1 82 = .ok (.ifCond .gt 16, 3) := by decide +kernel
theorem d_Mo_lasts_85 : decode M_Mo_lasts.2.1 85 = .ok (.aload_n 0, 1) := by decide +kernel
theorem d_Mo_lasts_86 : decode M_Mo_lasts.2.1 86 = .ok (.lload 4, 2) := by decide +kernel
theorem d_Mo_lasts_88 : decode M_Mo_lasts.2.1 88 = .ok (.invokevirtual 232, 3) := by decide +kernel
theorem d_Mo_lasts_91 : decode M_Mo_lasts.2.1 91 = .ok (.ifCond .eq 7, 3) := by decide +kernel
theorem d_Mo_lasts_94 : decode M_Mo_lasts.2.1 94 = .ok (.iconst 1, 1) := by decide +kernel
theorem d_Mo_lasts_95 : decode M_Mo_lasts.2.1 95 = .ok (.goto 4, 3) := by decide +kernel
theorem d_Mo_lasts_98 : decode M_Mo_lasts.2.1 98 = .ok (.iconst 0, 1) := by decide +kernel
theorem d_Mo_lasts_99 : decode M_Mo_lasts.2.1 99 = .ok (.ireturn, 1) := by decide +kernel
theorem d_Mo_isBetter_0 : decode M_Mo_isBetter.2.1 0 = .ok (.iload_n 1, 1) := by decide +kernel
theorem d_Mo_isBetter_1 : decode M_Mo_isBetter.2.1 1 = .ok (.iconst 2, 1) := by decide +kernel
theorem d_Mo_isBetter_2 : decode M_Mo_isBetter.2.1 2 = .ok (.irem, 1) := by decide +kernel
theorem d_Mo_isBetter_3 : decode M_Mo_isBetter.2.1 3 = .ok (.bipush 97, 2) := by decide +kernel
theorem d_Mo_isBetter_5 : decode M_Mo_isBetter.2.1 5 = .ok (.imul, 1) := by decide +kernel
theorem d_Mo_isBetter_6 : decode M_Mo_isBetter.2.1 6 = .ok (.istore 4, 2) := by decide +kernel
theorem d_Mo_isBetter_8 : decode M_Mo_isBetter.2.1 8 = .ok (.aload_n 0, 1) := by decide +kernel
theorem d_Mo_isBetter_9 : decode M_Mo_isBetter.2.1 9 = .ok (.getfield 75, 3) := by decide +kernel
theorem d_Mo_isBetter_12 : decode M_Mo_isBetter.2.1 12 = .ok (.iload 4, 2) := by decide +kernel
theorem d_Mo_isBetter_14 : decode M_Mo_isBetter.2.1 14 = .ok (.iload_n 2, 1) := by decide +kernel
theorem d_Mo_isBetter_15 : decode M_Mo_isBetter.2.1 15 = .ok (.iadd, 1) := by decide +kernel
theorem d_Mo_isBetter_16 : decode M_Mo_isBetter.2.1 16 = .ok (.iaload, 1) := by decide +kernel
theorem d_Mo_isBetter_17 : decode M_Mo_isBetter.2.1 17 = .ok (.aload_n 0, 1) := by decide +kernel
theorem d_Mo_isBetter_18 : decode M_Mo_isBetter.2.1 18 = .ok (.getfield 75, 3) := by decide +kernel
theorem d_Mo_isBetter_21 : decode M_Mo_isBetter.2.1 21 = .ok (.iload 4, 2) := by decide +kernel
theorem d_Mo_isBetter_23 : decode M_Mo_isBetter.2.1 23 = .ok (.iload_n 3, 1) := by decide +kernel
theorem d_Mo_isBetter_24 : decode M_Mo_isBetter.2.1 24 = .ok (.iadd, 1) := by decide +kernel
theorem d_Mo_isBetter_25 : decode M_Mo_isBetter.2.1 25 = .ok (.iaload, 1) := by decide +kernel
theorem d_Mo_isBetter_26 : decode M_Mo_isBetter.2.1 26 = .ok (.if_icmp .eq 30, 3) := by decide +kernel
theorem d_Mo_isBetter_29 : decode M_Mo_isBetter.2.1 29 = .ok (.aload_n 0, 1) := by decide +kernel
theorem d_Mo_isBetter_30 : decode M_Mo_isBetter.2.1 30 = .ok (.getfield 75, 3) := by decide +kernel
theorem d_Mo_isBetter_33 : decode M_Mo_isBetter.2.1 33 = .ok (.iload 4, 2) := by decide +kernel
theorem d_Mo_isBetter_35 : decode M_Mo_isBetter.2.1 35 = .ok (.iload_n 2, 1) := by decide +kernel
theorem d_Mo_isBetter_36 : decode M_Mo_isBetter.2.1 36 = .ok (.iadd, 1) := by decide +kernel
theorem d_Mo_isBetter_37 : decode M_Mo_isBetter.2.1 37 = .ok (.iaload, 1) := by decide +kernel
theorem d_Mo_isBetter_38 : decode M_Mo_isBetter.2.1 38 = .ok (.aload_n 0, 1) := by decide +kernel
theorem d_Mo_isBetter_39 : decode M_Mo_isBetter.2.1 39 = .ok (.getfield 75, 3) := by decide +kernel
theorem d_Mo_isBetter_42 : decode M_Mo_isBetter.2.1 42 = .ok (.iload 4, 2) := by decide +kernel
theorem d_Mo_isBetter_44 : decode M_Mo_isBetter.2.1 44 = .ok (.iload_n 3, 1) := by decide +kernel
theorem d_Mo_isBetter_45 : decode M_Mo_isBetter.2.1 45 = .ok (.iadd, 1) := by decide +kernel
theorem d_Mo_isBetter_46 : decode M_Mo_isBetter.2.1 46 = .ok (.iaload, 1) := by decide +kernel
theorem d_Mo_isBetter_47 : decode M_Mo_isBetter.2.1 47 = .ok (.if_icmp .ge 7, 3) := by decide +kernel
theorem d_Mo_isBetter_50 : decode M_Mo_isBetter.2.1 50 = .ok (.iconst 1, 1) := by decide +kernel
theorem d_Mo_isBetter_51 : decode M_Mo_isBetter.2.1 51 = .ok (.goto 4, 3) := by decide +kernel
theorem d_Mo_isBetter_54 : decode M_Mo_isBetter.2.1 54 = .ok (.iconst 0, 1) := by decide +kernel
theorem d_Mo_isBetter_55 : decode M_Mo_isBetter.2.1 55 = .ok (.ireturn, 1) := by decide +kernel
theorem d_Mo_isBetter_56 : decode M_Mo_isBetter.2.1 56 = .ok (.iconst 0, 1) := by decide +kernel
theorem d_Mo_isBetter_57 : decode M_Mo_isBetter.2.1 57 = .ok (.istore 5, 2) := by decide +kernel
theorem d_Mo_isBetter_59 : decode M_Mo_isBetter.2.1 59 = .ok (.iload 5, 2) := by decide +kernel
theorem d_Mo_isBetter_61 : decode M_Mo_isBetter.2.1 61 = .ok (.iload_n 1, 1) := by decide +kernel
theorem d_Mo_isBetter_62 : decode M_Mo_isBetter.2.1 62 = .ok (.if_icmp .gt 63, 3) := by decide +kernel
theorem d_Mo_isBetter_65 : decode M_Mo_isBetter.2.1 65 = .ok (.aload_n 0, 1) := by decide +kernel
theorem d_Mo_isBetter_66 : decode M_Mo_isBetter.2.1 66 = .ok (.getfield 78, 3) := by decide +kernel
theorem d_Mo_isBetter_69 : decode M_Mo_isBetter.2.1 69 = .ok (.bipush 16, 2) := by decide +kernel
theorem d_Mo_isBetter_71 : decode M_Mo_isBetter.2.1 71 = .ok (.iload 4, 2) := by decide +kernel
theorem d_Mo_isBetter_73 : decode M_Mo_isBetter.2.1 73 = .ok (.iload_n 2, 1) := by decide +kernel
theorem d_Mo_isBetter_74 : decode M_Mo_isBetter.2.1 74 = .ok (.iadd, 1) := by decide +kernel
theorem d_Mo_isBetter_75 : decode M_Mo_isBetter.2.1 75 = .ok (.imul, 1) := by decide +kernel
theorem d_Mo_isBetter_76 : decode M_Mo_isBetter.2.1 76 = .ok (.iload 5, 2) := by decide +kernel
theorem d_Mo_isBetter_78 : decode M_Mo_isBetter.2.1 78 = .ok (.iadd, 1) := by decide +kernel
theorem d_Mo_isBetter_79 : decode M_Mo_isBetter.2.1 79 = .ok (.iaload, 1) := by decide +kernel
theorem d_Mo_isBetter_80 : decode M_Mo_isBetter.2.1 80 = .ok (.istore 6, 2) := by decide +kernel
theorem d_Mo_isBetter_82 : decode M_Mo_isBetter.2.1 82 = .ok (.aload_n 0, 1) := by decide +kernel
theorem d_Mo_isBetter_83 : decode M_Mo_isBetter.2.1 83 = .ok (.getfield 78, 3) := by decide +kernel
theorem d_Mo_isBetter_86 : decode M_Mo_isBetter.2.1 86 = .ok (.bipush 16, 2) := by decide +kernel
theorem d_Mo_isBetter_88 : decode M_Mo_isBetter.2.1 88 = .ok (.iload 4, 2) := by decide +kernel
theorem d_Mo_isBetter_90 : decode M_Mo_isBetter.2.1 90 = .ok (.iload_n 3, 1) := by decide +kernel
theorem d_Mo_isBetter_91 : decode M_Mo_isBetter.2.1 91 = .ok (.iadd, 1) := by decide +kernel
theorem d_Mo_isBetter_92 : decode M_Mo_isBetter.2.1 92 = .ok (.imul, 1) := by decide +kernel
theorem d_Mo_isBetter_93 : decode M_Mo_isBetter.2.1 93 = .ok (.iload 5, 2) := by decide +kernel
theorem d_Mo_isBetter_95 : decode M_Mo_isBetter.2.1 95 = .ok (.iadd, 1) := by decide +kernel
theorem d_Mo_isBetter_96 : decode M_Mo_isBetter.2.1 96 = .ok (.iaload, 1) := by decide +kernel
theorem d_Mo_isBetter_97 : decode M_Mo_isBetter.2.1 97 = .ok (.istore 7, 2) := by decide +kernel
theorem d_Mo_isBetter_99 : decode M_Mo_isBetter.2.1 99 = .ok (.iload 6, 2) := by decide +kernel
theorem d_Mo_isBetter_101 : decode M_Mo_isBetter.2.1 101 = .ok (.iload 7, 2) := by decide +kernel
theorem d_Mo_isBetter_103 : decode M_Mo_isBetter.2.1 103 = .ok (.if_icmp .eq 16, 3) := by decide +kernel
theorem d_Mo_isBetter_106 : decode M_Mo_isBetter.2.1 106 = .ok (.iload 6, 2) := by decide +kernel
theorem d_Mo_isBetter_108 : decode M_Mo_isBetter.2.1 108 = .ok (.iload 7, 2) := by decide +kernel
theorem d_Mo_isBetter_110 : decode M_Mo_isBetter.2.1 110 = .ok (.if_icmp .ge 7, 3) := by decide +kernel
theorem d_Mo_isBetter_113 : decode M_Mo_isBetter.2.1 113 = .ok (.iconst 1, 1) := by decide +kernel
theorem d_Mo_isBetter_114 : decode M_Mo_isBetter.2.1 114 = .ok (.goto 4, 3) := by decide +kernel
theorem d_Mo_isBetter_117 : decode M_Mo_isBetter.2.1 117 = .ok (.iconst 0, 1) := by decide +kernel
theorem d_Mo_isBetter_118 : decode M_Mo_isBetter.2.1 118 = .ok (.ireturn, 1) := by decide +kernel
theorem d_Mo_isBetter_119 : decode M_Mo_isBetter.2.1 119 = .ok (.iinc 5 1, 3) := by decide +kernel
theorem d_Mo_isBetter_122 : decode M_Mo_isBetter.2.1 122 = .ok (.goto (-63), 3) := by decide +kernel
theorem d_Mo_isBetter_125 : decode M_Mo_isBetter.2.1 125 = .ok (.iconst 0, 1) := by decide +kernel
theorem d_Mo_isBetter_126 : decode M_Mo_isBetter.2.1 126 = .ok (.ireturn, 1) := by decide +kernel
theorem d_Mo_bestBefore_0 : decode M_Mo_bestBefore.2.1 0 = .ok (.aload_n 0, 1) := by decide +kernel
theorem d_Mo_bestBefore_1 : decode M_Mo_bestBefore.2.1 1 = .ok (.getfield 24, 3) := by decide +kernel
theorem d_Mo_bestBefore_4 : decode M_Mo_bestBefore.2.1 4 = .ok (.iload_n 1, 1) := by decide +kernel
theorem d_Mo_bestBefore_5 : decode M_Mo_bestBefore.2.1 5 = .ok (.iconst 1, 1) := by decide +kernel
theorem d_Mo_bestBefore_6 : decode M_Mo_bestBefore.2.1 6 = .ok (.isub, 1) := by decide +kernel
theorem d_Mo_bestBefore_7 : decode M_Mo_bestBefore.2.1 7 = .ok (.laload, 1) := by decide +kernel
theorem d_Mo_bestBefore_8 : decode M_Mo_bestBefore.2.1 8 = .ok (.aload_n 0, 1) := by decide +kernel
theorem d_Mo_bestBefore_9 : decode M_Mo_bestBefore.2.1 9 = .ok (.invokevirtual 134, 3) := by decide +kernel
theorem d_Mo_bestBefore_12 : decode M_Mo_bestBefore.2.1 12 = .ok (.invokestatic 189, 3) := by decide +kernel
theorem d_Mo_bestBefore_15 : decode M_Mo_bestBefore.2.1 15 = .ok (.ldc2_w 236, 3) := by decide +kernel
theorem d_Mo_bestBefore_18 : decode M_Mo_bestBefore.2.1 18 = .ok (.lsub, 1) := by decide +kernel
theorem d_Mo_bestBefore_19 : decode M_Mo_bestBefore.2.1 19 = .ok (.lstore 4, 2) := by decide +kernel
theorem d_Mo_bestBefore_21 : decode M_Mo_bestBefore.2.1 21 = .ok (.iconst (-1), 1) := by decide +kernel
theorem d_Mo_bestBefore_22 : decode M_Mo_bestBefore.2.1 22 = .ok (.istore 6, 2) := by decide +kernel
theorem d_Mo_bestBefore_24 : decode M_Mo_bestBefore.2.1 24 = .ok (.iconst 0, 1) := by decide +kernel
theorem d_Mo_bestBefore_25 : decode M_Mo_bestBefore.2.1 25 = .ok (.istore 7, 2) := by decide +kernel
theorem d_Mo_bestBefore_27 : decode M_Mo_bestBefore.2.1 27 = .ok (.iload 7, 2) := by decide +kernel
theorem d_Mo_bestBefore_29 : decode M_Mo_bestBefore.2.1 29 = .ok (.bipush 97, 2) := by decide +kernel
theorem d_Mo_bestBefore_31 : decode M_Mo_bestBefore.2.1 31 = .ok (.if_icmp .ge 85, 3) := by decide +kernel
theorem d_Mo_bestBefore_34 : decode M_Mo_bestBefore.2.1 34 = .ok (.aload_n 0, 1) := by decide +kernel
theorem d_Mo_bestBefore_35 : decode M_Mo_bestBefore.2.1 35 = .ok (.getfield 75, 3) := by decide +kernel
theorem d_Mo_bestBefore_38 : decode M_Mo_bestBefore.2.1 38 = .ok (.iload_n 1, 1) := by decide +kernel
theorem d_Mo_bestBefore_39 : decode M_Mo_bestBefore.2.1 39 = .ok (.iconst 1, 1) := by decide +kernel
theorem d_Mo_bestBefore_40 : decode M_Mo_bestBefore.2.1 40 = .ok (.isub, 1) := by decide +kernel
theorem d_Mo_bestBefore_41 : decode M_Mo_bestBefore.2.1 41 = .ok (.iconst 2, 1) := by decide +kernel
theorem d_Mo_bestBefore_42 : decode M_Mo_bestBefore.2.1 42 = .ok (.irem, 1) := by decide +kernel
theorem d_Mo_bestBefore_43 : decode M_Mo_bestBefore.2.1 43 = .ok (.bipush 97, 2) := by decide +kernel
theorem d_Mo_bestBefore_45 : decode M_Mo_bestBefore.2.1 45 = .ok (.imul, 1) := by decide +kernel
theorem d_Mo_bestBefore_46 : decode M_Mo_bestBefore.2.1 46 = .ok (.iload 7, 2) := by decide +kernel
theorem d_Mo_bestBefore_48 : decode M_Mo_bestBefore.2.1 48 = .ok (.iadd, 1) := by decide +kernel
theorem d_Mo_bestBefore_49 : decode M_Mo_bestBefore.2.1 49 = .ok (.iaload, 1) := by decide +kernel
theorem d_Mo_bestBefore_50 : decode M_Mo_bestBefore.2.1 50 = .ok (.ifCond .lt 24, 3) := by decide +kernel
theorem d_Mo_bestBefore_53 : decode M_Mo_bestBefore.2.1 53 = .ok (.lload 4, 2) := by decide +kernel
theorem d_Mo_bestBefore_55 : decode M_Mo_bestBefore.2.1 55 = .ok (.iload 7, 2) := by decide +kernel
theorem d_Mo_bestBefore_57 : decode M_Mo_bestBefore.2.1 57 = .ok (.i2l, 1) := by decide +kernel
theorem d_Mo_bestBefore_58 : decode M_Mo_bestBefore.2.1 58 = .ok (.ladd, 1) := by decide +kernel
theorem d_Mo_bestBefore_59 : decode M_Mo_bestBefore.2.1 59 = .ok (.aload_n 0, 1) := by decide +kernel
theorem d_Mo_bestBefore_60 : decode M_Mo_bestBefore.2.1 60 = .ok (.getfield 63, 3) := by decide +kernel
theorem d_Mo_bestBefore_63 : decode M_Mo_bestBefore.2.1 63 = .ok (.i2l, 1) := by decide +kernel
theorem d_Mo_bestBefore_64 : decode M_Mo_bestBefore.2.1 64 = .ok (.ladd, 1) := by decide +kernel
theorem d_Mo_bestBefore_65 : decode M_Mo_bestBefore.2.1 65 = .ok (.lload_n 2, 1) := by decide +kernel
theorem d_Mo_bestBefore_66 : decode M_Mo_bestBefore.2.1 66 = .ok (.lcmp, 1) := by decide +kernel
theorem d_Mo_bestBefore_67 : decode M_Mo_bestBefore.2.1 67 = .ok (.ifCond .gt 7, 3) := by decide +kernel
theorem d_Mo_bestBefore_70 : decode M_Mo_bestBefore.2.1 70 = .ok (.iconst 1, 1) := by decide +kernel
theorem d_Mo_bestBefore_71 : decode M_Mo_bestBefore.2.1 71 = .ok (.goto 4, 3) := by decide +kernel
theorem d_Mo_bestBefore_74 : decode M_Mo_bestBefore.2.1 74 = .ok (.iconst 0, 1) := by decide +kernel
theorem d_Mo_bestBefore_75 : decode M_Mo_bestBefore.2.1 75 = .ok (.istore 8, 2) := by decide +kernel
theorem d_Mo_bestBefore_77 : decode M_Mo_bestBefore.2.1 77 = .ok (.iload 8, 2) := by decide +kernel
theorem d_Mo_bestBefore_79 : decode M_Mo_bestBefore.2.1 79 = .ok (.ifCond .eq 27, 3) := by decide +kernel
theorem d_Mo_bestBefore_82 : decode M_Mo_bestBefore.2.1 82 = .ok (.iload 6, 2) := by decide +kernel
theorem d_Mo_bestBefore_84 : decode M_Mo_bestBefore.2.1 84 = .ok (.ifCond .lt 17, 3) := by decide +kernel
theorem d_Mo_bestBefore_87 : decode M_Mo_bestBefore.2.1 87 = .ok (.aload_n 0, 1) := by decide +kernel
theorem d_Mo_bestBefore_88 : decode M_Mo_bestBefore.2.1 88 = .ok (.iload_n 1, 1) := by decide +kernel
theorem d_Mo_bestBefore_89 : decode M_Mo_bestBefore.2.1 89 = .ok (.iconst 1, 1) := by decide +kernel
theorem d_Mo_bestBefore_90 : decode M_Mo_bestBefore.2.1 90 = .ok (.isub, 1) := by decide +kernel
theorem d_Mo_bestBefore_91 : decode M_Mo_bestBefore.2.1 91 = .ok (.iload 7, 2) := by decide +kernel
theorem d_Mo_bestBefore_93 : decode M_Mo_bestBefore.2.1 93 = .ok (.iload 6, 2) := by decide +kernel
theorem d_Mo_bestBefore_95 : decode M_Mo_bestBefore.2.1 95 = .ok (.invokevirtual 238, 3) := by decide +kernel
theorem d_Mo_bestBefore_98 : decode M_Mo_bestBefore.2.1 98 = .ok (.ifCond .eq 8, 3) := by decide +kernel
theorem d_Mo_bestBefore_101 : decode M_Mo_bestBefore.2.1 101 = .ok (.iload 7, 2) := by decide +kernel
theorem d_Mo_bestBefore_103 : decode M_Mo_bestBefore.2.1 103 = .ok (.goto 5, 3) := by decide +kernel
theorem d_Mo_bestBefore_106 : decode M_Mo_bestBefore.2.1 106 = .ok (.iload 6, 2) := by decide +kernel
theorem d_Mo_bestBefore_108 : decode M_Mo_bestBefore.2.1 108 = .ok (.istore 6, 2) := by decide +kernel
theorem d_Mo_bestBefore_110 : decode M_Mo_bestBefore.2.1 110 = .ok (.iinc 7 1, 3) := by decide +kernel
theorem d_Mo_bestBefore_113 : decode M_Mo_bestBefore.2.1 113 = .ok (.goto (-86), 3) := by decide +kernel
theorem d_Mo_bestBefore_116 : decode M_Mo_bestBefore.2.1 116 = .ok (.iload 6, 2) := by decide +kernel
theorem d_Mo_bestBefore_118 : decode M_Mo_bestBefore.2.1 118 = .ok (.ireturn, 1) := by decide +kernel
theorem d_Mo_offer_0 : decode M_Mo_offer.2.1 0 = .ok (.iload_n 1, 1) := by decide +kernel
theorem d_Mo_offer_1 : decode M_Mo_offer.2.1 1 = .ok (.iconst 2, 1) := by decide +kernel
theorem d_Mo_offer_2 : decode M_Mo_offer.2.1 2 = .ok (.irem, 1) := by decide +kernel
theorem d_Mo_offer_3 : decode M_Mo_offer.2.1 3 = .ok (.bipush 97, 2) := by decide +kernel
theorem d_Mo_offer_5 : decode M_Mo_offer.2.1 5 = .ok (.imul, 1) := by decide +kernel
theorem d_Mo_offer_6 : decode M_Mo_offer.2.1 6 = .ok (.iload_n 2, 1) := by decide +kernel
theorem d_Mo_offer_7 : decode M_Mo_offer.2.1 7 = .ok (.iadd, 1) := by decide +kernel
theorem d_Mo_offer_8 : decode M_Mo_offer.2.1 8 = .ok (.istore 6, 2) := by decide +kernel
theorem d_Mo_offer_10 : decode M_Mo_offer.2.1 10 = .ok (.iload_n 1, 1) := by decide +kernel
theorem d_Mo_offer_11 : decode M_Mo_offer.2.1 11 = .ok (.iconst 1, 1) := by decide +kernel
theorem d_Mo_offer_12 : decode M_Mo_offer.2.1 12 = .ok (.iadd, 1) := by decide +kernel
theorem d_Mo_offer_13 : decode M_Mo_offer.2.1 13 = .ok (.iconst 2, 1) := by decide +kernel
theorem d_Mo_offer_14 : decode M_Mo_offer.2.1 14 = .ok (.irem, 1) := by decide +kernel
theorem d_Mo_offer_15 : decode M_Mo_offer.2.1 15 = .ok (.bipush 97, 2) := by decide +kernel
theorem d_Mo_offer_17 : decode M_Mo_offer.2.1 17 = .ok (.imul, 1) := by decide +kernel
theorem d_Mo_offer_18 : decode M_Mo_offer.2.1 18 = .ok (.iload 5, 2) := by decide +kernel
theorem d_Mo_offer_20 : decode M_Mo_offer.2.1 20 = .ok (.iadd, 1) := by decide +kernel
theorem d_Mo_offer_21 : decode M_Mo_offer.2.1 21 = .ok (.istore 7, 2) := by decide +kernel
theorem d_Mo_offer_23 : decode M_Mo_offer.2.1 23 = .ok (.sipush 128, 3) := by decide +kernel
theorem d_Mo_offer_26 : decode M_Mo_offer.2.1 26 = .ok (.iload_n 3, 1) := by decide +kernel
theorem d_Mo_offer_27 : decode M_Mo_offer.2.1 27 = .ok (.imul, 1) := by decide +kernel
theorem d_Mo_offer_28 : decode M_Mo_offer.2.1 28 = .ok (.iload_n 2, 1) := by decide +kernel
theorem d_Mo_offer_29 : decode M_Mo_offer.2.1 29 = .ok (.iadd, 1) := by decide +kernel
theorem d_Mo_offer_30 : decode M_Mo_offer.2.1 30 = .ok (.istore 8, 2) := by decide +kernel
theorem d_Mo_offer_32 : decode M_Mo_offer.2.1 32 = .ok (.aload_n 0, 1) := by decide +kernel
theorem d_Mo_offer_33 : decode M_Mo_offer.2.1 33 = .ok (.getfield 75, 3) := by decide +kernel
theorem d_Mo_offer_36 : decode M_Mo_offer.2.1 36 = .ok (.iload 6, 2) := by decide +kernel
theorem d_Mo_offer_38 : decode M_Mo_offer.2.1 38 = .ok (.iaload, 1) := by decide +kernel
theorem d_Mo_offer_39 : decode M_Mo_offer.2.1 39 = .ok (.ifCond .lt 15, 3) := by decide +kernel
theorem d_Mo_offer_42 : decode M_Mo_offer.2.1 42 = .ok (.iload 4, 2) := by decide +kernel
theorem d_Mo_offer_44 : decode M_Mo_offer.2.1 44 = .ok (.aload_n 0, 1) := by decide +kernel
theorem d_Mo_offer_45 : decode M_Mo_offer.2.1 45 = .ok (.getfield 75, 3) := by decide +kernel
theorem d_Mo_offer_48 : decode M_Mo_offer.2.1 48 = .ok (.iload 6, 2) := by decide +kernel
theorem d_Mo_offer_50 : decode M_Mo_offer.2.1 50 = .ok (.iaload, 1) := by decide +kernel
theorem d_Mo_offer_51 : decode M_Mo_offer.2.1 51 = .ok (.if_icmp .ge 7, 3) := by decide +kernel
theorem d_Mo_offer_54 : decode M_Mo_offer.2.1 54 = .ok (.iconst 1, 1) := by decide +kernel
theorem d_Mo_offer_55 : decode M_Mo_offer.2.1 55 = .ok (.goto 4, 3) := by decide +kernel
theorem d_Mo_offer_58 : decode M_Mo_offer.2.1 58 = .ok (.iconst 0, 1) := by decide +kernel
theorem d_Mo_offer_59 : decode M_Mo_offer.2.1 59 = .ok (.istore 9, 2) := by decide +kernel
theorem d_Mo_offer_61 : decode M_Mo_offer.2.1 61 = .ok (.iload 4, 2) := by decide +kernel
theorem d_Mo_offer_63 : decode M_Mo_offer.2.1 63 = .ok (.aload_n 0, 1) := by decide +kernel
theorem d_Mo_offer_64 : decode M_Mo_offer.2.1 64 = .ok (.getfield 75, 3) := by decide +kernel
theorem d_Mo_offer_67 : decode M_Mo_offer.2.1 67 = .ok (.iload 6, 2) := by decide +kernel
theorem d_Mo_offer_69 : decode M_Mo_offer.2.1 69 = .ok (.iaload, 1) := by decide +kernel
theorem d_Mo_offer_70 : decode M_Mo_offer.2.1 70 = .ok (.if_icmp .ne 7, 3) := by decide +kernel
theorem d_Mo_offer_73 : decode M_Mo_offer.2.1 73 = .ok (.iconst 1, 1) := by decide +kernel
theorem d_Mo_offer_74 : decode M_Mo_offer.2.1 74 = .ok (.goto 4, 3) := by decide +kernel
theorem d_Mo_offer_77 : decode M_Mo_offer.2.1 77 = .ok (.iconst 0, 1) := by decide +kernel
theorem d_Mo_offer_78 : decode M_Mo_offer.2.1 78 = .ok (.istore 10, 2) := by decide +kernel
theorem d_Mo_offer_80 : decode M_Mo_offer.2.1 80 = .ok (.iconst 0, 1) := by decide +kernel
theorem d_Mo_offer_81 : decode M_Mo_offer.2.1 81 = .ok (.istore 11, 2) := by decide +kernel
theorem d_Mo_offer_83 : decode M_Mo_offer.2.1 83 = .ok (.iload 11, 2) := by decide +kernel
theorem d_Mo_offer_85 : decode M_Mo_offer.2.1 85 = .ok (.iload_n 1, 1) := by decide +kernel
theorem d_Mo_offer_86 : decode M_Mo_offer.2.1 86 = .ok (.if_icmp .gt 95, 3) := by decide +kernel
theorem d_Mo_offer_89 : decode M_Mo_offer.2.1 89 = .ok (.iload 10, 2) := by decide +kernel
theorem d_Mo_offer_91 : decode M_Mo_offer.2.1 91 = .ok (.ifCond .eq 90, 3) := by decide +kernel
theorem d_Mo_offer_94 : decode M_Mo_offer.2.1 94 = .ok (.iload 11, 2) := by decide +kernel
theorem d_Mo_offer_96 : decode M_Mo_offer.2.1 96 = .ok (.iload_n 1, 1) := by decide +kernel
theorem d_Mo_offer_97 : decode M_Mo_offer.2.1 97 = .ok (.if_icmp .ge 19, 3) := by decide +kernel
theorem d_Mo_offer_100 : decode M_Mo_offer.2.1 100 = .ok (.aload_n 0, 1) := by decide +kernel
theorem d_Mo_offer_101 : decode M_Mo_offer.2.1 101 = .ok (.getfield 78, 3) := by decide +kernel
theorem d_Mo_offer_104 : decode M_Mo_offer.2.1 104 = .ok (.bipush 16, 2) := by decide +kernel
theorem d_Mo_offer_106 : decode M_Mo_offer.2.1 106 = .ok (.iload 7, 2) := by decide +kernel
theorem d_Mo_offer_108 : decode M_Mo_offer.2.1 108 = .ok (.imul, 1) := by decide +kernel
theorem d_Mo_offer_109 : decode M_Mo_offer.2.1 109 = .ok (.iload 11, 2) := by decide +kernel
theorem d_Mo_offer_111 : decode M_Mo_offer.2.1 111 = .ok (.iadd, 1) := by decide +kernel
theorem d_Mo_offer_112 : decode M_Mo_offer.2.1 112 = .ok (.iaload, 1) := by decide +kernel
theorem d_Mo_offer_113 : decode M_Mo_offer.2.1 113 = .ok (.goto 5, 3) := by decide +kernel
theorem d_Mo_offer_116 : decode M_Mo_offer.2.1 116 = .ok (.iload 8, 2) := by decide +kernel
theorem d_Mo_offer_118 : decode M_Mo_offer.2.1 118 = .ok (.istore 12, 2) := by decide +kernel
theorem d_Mo_offer_120 : decode M_Mo_offer.2.1 120 = .ok (.iload 12, 2) := by decide +kernel
theorem d_Mo_offer_122 : decode M_Mo_offer.2.1 122 = .ok (.aload_n 0, 1) := by decide +kernel
theorem d_Mo_offer_123 : decode M_Mo_offer.2.1 123 = .ok (.getfield 78, 3) := by decide +kernel
theorem d_Mo_offer_126 : decode M_Mo_offer.2.1 126 = .ok (.bipush 16, 2) := by decide +kernel
theorem d_Mo_offer_128 : decode M_Mo_offer.2.1 128 = .ok (.iload 6, 2) := by decide +kernel
theorem d_Mo_offer_130 : decode M_Mo_offer.2.1 130 = .ok (.imul, 1) := by decide +kernel
theorem d_Mo_offer_131 : decode M_Mo_offer.2.1 131 = .ok (.iload 11, 2) := by decide +kernel
theorem d_Mo_offer_133 : decode M_Mo_offer.2.1 133 = .ok (.iadd, 1) := by decide +kernel
theorem d_Mo_offer_134 : decode M_Mo_offer.2.1 134 = .ok (.iaload, 1) := by decide +kernel
theorem d_Mo_offer_135 : decode M_Mo_offer.2.1 135 = .ok (.if_icmp .ne 7, 3) := by decide +kernel
theorem d_Mo_offer_138 : decode M_Mo_offer.2.1 138 = .ok (.iconst 1, 1) := by decide +kernel
theorem d_Mo_offer_139 : decode M_Mo_offer.2.1 139 = .ok (.goto 4, 3) := by decide +kernel
theorem d_Mo_offer_142 : decode M_Mo_offer.2.1 142 = .ok (.iconst 0, 1) := by decide +kernel
theorem d_Mo_offer_143 : decode M_Mo_offer.2.1 143 = .ok (.istore 10, 2) := by decide +kernel
theorem d_Mo_offer_145 : decode M_Mo_offer.2.1 145 = .ok (.iload 9, 2) := by decide +kernel
theorem d_Mo_offer_147 : decode M_Mo_offer.2.1 147 = .ok (.ifCond .ne 21, 3) := by decide +kernel
theorem d_Mo_offer_150 : decode M_Mo_offer.2.1 150 = .ok (.iload 12, 2) := by decide +kernel
theorem d_Mo_offer_152 : decode M_Mo_offer.2.1 152 = .ok (.aload_n 0, 1) := by decide +kernel
theorem d_Mo_offer_153 : decode M_Mo_offer.2.1 153 = .ok (.getfield 78, 3) := by decide +kernel
theorem d_Mo_offer_156 : decode M_Mo_offer.2.1 156 = .ok (.bipush 16, 2) := by decide +kernel
theorem d_Mo_offer_158 : decode M_Mo_offer.2.1 158 = .ok (.iload 6, 2) := by decide +kernel
theorem d_Mo_offer_160 : decode M_Mo_offer.2.1 160 = .ok (.imul, 1) := by decide +kernel
theorem d_Mo_offer_161 : decode M_Mo_offer.2.1 161 = .ok (.iload 11, 2) := by decide +kernel
theorem d_Mo_offer_163 : decode M_Mo_offer.2.1 163 = .ok (.iadd, 1) := by decide +kernel
theorem d_Mo_offer_164 : decode M_Mo_offer.2.1 164 = .ok (.iaload, 1) := by decide +kernel
theorem d_Mo_offer_165 : decode M_Mo_offer.2.1 165 = .ok (.if_icmp .ge 7, 3) := by decide +kernel
theorem d_Mo_offer_168 : decode M_Mo_offer.2.1 168 = .ok (.iconst 1, 1) := by decide +kernel
theorem d_Mo_offer_169 : decode M_Mo_offer.2.1 169 = .ok (.goto 4, 3) := by decide +kernel
theorem d_Mo_offer_172 : decode M_Mo_offer.2.1 172 = .ok (.iconst 0, 1) := by decide +kernel
theorem d_Mo_offer_173 : decode M_Mo_offer.2.1 173 = .ok (.istore 9, 2) := by decide +kernel
theorem d_Mo_offer_175 : decode M_Mo_offer.2.1 175 = .ok (.iinc 11 1, 3) := by decide +kernel
theorem d_Mo_offer_178 : decode M_Mo_offer.2.1 178 = .ok (.goto (-95), 3) := by decide +kernel
theorem d_Mo_offer_181 : decode M_Mo_offer.2.1 181 = .ok (.iload 9, 2) := by decide +kernel
theorem d_Mo_offer_183 : decode M_Mo_offer.2.1 183 = .ok (.ifCond .ne 4, 3) := by decide +kernel
theorem d_Mo_offer_186 : decode M_Mo_offer.2.1 186 = .ok (.return_, 1) := by decide +kernel
theorem d_Mo_offer_187 : decode M_Mo_offer.2.1 187 = .ok (.aload_n 0, 1) := by decide +kernel
theorem d_Mo_offer_188 : decode M_Mo_offer.2.1 188 = .ok (.getfield 75, 3) := by decide +kernel
theorem d_Mo_offer_191 : decode M_Mo_offer.2.1 191 = .ok (.iload 6, 2) := by decide +kernel
theorem d_Mo_offer_193 : decode M_Mo_offer.2.1 193 = .ok (.iload 4, 2) := by decide +kernel
theorem d_Mo_offer_195 : decode M_Mo_offer.2.1 195 = .ok (.iastore, 1) := by decide +kernel
theorem d_Mo_offer_196 : decode M_Mo_offer.2.1 196 = .ok (.iconst 0, 1) := by decide +kernel
theorem d_Mo_offer_197 : decode M_Mo_offer.2.1 197 = .ok (.istore 11, 2) := by decide +kernel
theorem d_Mo_offer_199 : decode M_Mo_offer.2.1 199 = .ok (.iload 11, 2) := by decide +kernel
theorem d_Mo_offer_201 : decode M_Mo_offer.2.1 201 = .ok (.iload_n 1, 1) := by decide +kernel
theorem d_Mo_offer_202 : decode M_Mo_offer.2.1 202 = .ok (.if_icmp .ge 35, 3) := by decide +kernel
theorem d_Mo_offer_205 : decode M_Mo_offer.2.1 205 = .ok (.aload_n 0, 1) := by decide +kernel
theorem d_Mo_offer_206 : decode M_Mo_offer.2.1 206 = .ok (.getfield 78, 3) := by decide +kernel
theorem d_Mo_offer_209 : decode M_Mo_offer.2.1 209 = .ok (.bipush 16, 2) := by decide +kernel
theorem d_Mo_offer_211 : decode M_Mo_offer.2.1 211 = .ok (.iload 6, 2) := by decide +kernel
theorem d_Mo_offer_213 : decode M_Mo_offer.2.1 213 = .ok (.imul, 1) := by decide +kernel
theorem d_Mo_offer_214 : decode M_Mo_offer.2.1 214 = .ok (.iload 11, 2) := by decide +kernel
theorem d_Mo_offer_216 : decode M_Mo_offer.2.1 216 = .ok (.iadd, 1) := by decide +kernel
theorem d_Mo_offer_217 : decode M_Mo_offer.2.1 217 = .ok (.aload_n 0, 1) := by decide +kernel
theorem d_Mo_offer_218 : decode M_Mo_offer.2.1 218 = .ok (.getfield 78, 3) := by decide +kernel
theorem d_Mo_offer_221 : decode M_Mo_offer.2.1 221 = .ok (.bipush 16, 2) := by decide +kernel
theorem d_Mo_offer_223 : decode M_Mo_offer.2.1 223 = .ok (.iload 7, 2) := by decide +kernel
theorem d_Mo_offer_225 : decode M_Mo_offer.2.1 225 = .ok (.imul, 1) := by decide +kernel
theorem d_Mo_offer_226 : decode M_Mo_offer.2.1 226 = .ok (.iload 11, 2) := by decide +kernel
theorem d_Mo_offer_228 : decode M_Mo_offer.2.1 228 = .ok (.iadd, 1) := by decide +kernel
theorem d_Mo_offer_229 : decode M_Mo_offer.2.1 229 = .ok (.iaload, 1) := by decide +kernel
theorem d_Mo_offer_230 : decode M_Mo_offer.2.1 230 = .ok (.iastore, 1) := by decide +kernel
theorem d_Mo_offer_231 : decode M_Mo_offer.2.1 231 = .ok (.iinc 11 1, 3) := by decide +kernel
theorem d_Mo_offer_234 : decode M_Mo_offer.2.1 234 = .ok (.goto (-35), 3) := by decide +kernel
theorem d_Mo_offer_237 : decode M_Mo_offer.2.1 237 = .ok (.aload_n 0, 1) := by decide +kernel
theorem d_Mo_offer_238 : decode M_Mo_offer.2.1 238 = .ok (.getfield 78, 3) := by decide +kernel
theorem d_Mo_offer_241 : decode M_Mo_offer.2.1 241 = .ok (.bipush 16, 2) := by decide +kernel
theorem d_Mo_offer_243 : decode M_Mo_offer.2.1 243 = .ok (.iload 6, 2) := by decide +kernel
theorem d_Mo_offer_245 : decode M_Mo_offer.2.1 245 = .ok (.imul, 1) := by decide +kernel
theorem d_Mo_offer_246 : decode M_Mo_offer.2.1 246 = .ok (.iload_n 1, 1) := by decide +kernel
theorem d_Mo_offer_247 : decode M_Mo_offer.2.1 247 = .ok (.iadd, 1) := by decide +kernel
theorem d_Mo_offer_248 : decode M_Mo_offer.2.1 248 = .ok (.iload 8, 2) := by decide +kernel
theorem d_Mo_offer_250 : decode M_Mo_offer.2.1 250 = .ok (.iastore, 1) := by decide +kernel
theorem d_Mo_offer_251 : decode M_Mo_offer.2.1 251 = .ok (.return_, 1) := by decide +kernel
/-- the reference's way at an entry -/
def wX (W : Nat → Int) (r : Nat) : Nat → Nat := fun c => (W (16 * r + c)).toNat
def btP (S W : Nat → Int) (m a b : Nat) : Prop := S a < S b ∨ (S a = S b ∧ rLx m (wX W a) (wX W b))
noncomputable def btZ (S W : Nat → Int) (m a b : Nat) : Int := @ite _ (btP S W m a b) (Classical.propDecidable _) 1 0
theorem btZ_1 {S W : Nat → Int} {m a b : Nat} (h : btP S W m a b) : btZ S W m a b = 1 := if_pos h
theorem btZ_0 {S W : Nat → Int} {m a b : Nat} (h : ¬ btP S W m a b) : btZ S W m a b = 0 := if_neg h
theorem btZ_r (S W : Nat → Int) (m a b : Nat) : btZ S W m a b = 0 ∨ btZ S W m a b = 1 := by
  rcases Classical.em (btP S W m a b) with h | h
  · exact Or.inr (btZ_1 h)
  · exact Or.inl (btZ_0 h)
theorem btZ_i {S W : Nat → Int} {m a b : Nat} : btZ S W m a b ≠ 0 ↔ btP S W m a b := by
  rcases Classical.em (btP S W m a b) with h | h
  · rw [btZ_1 h]; exact ⟨fun _ => h, fun _ => by decide⟩
  · rw [btZ_0 h]; exact ⟨fun w => absurd rfl w, fun w => absurd w h⟩
theorem btP_tr {S W : Nat → Int} {m a b c : Nat} (h : btP S W m a b) (k : btP S W m b c) : btP S W m a c := by
  unfold btP at *
  rcases h with h | ⟨h, h2⟩
  · rcases k with k | ⟨k, _⟩
    · exact Or.inl (by omega)
    · exact Or.inl (by omega)
  · rcases k with k | ⟨k, k2⟩
    · exact Or.inl (by omega)
    · exact Or.inr ⟨by omega, rLx_tr h2 k2⟩
theorem btP_ir {S W : Nat → Int} {m a : Nat} : ¬ btP S W m a a := by
  rintro (h | ⟨_, h⟩)
  · omega
  · exact rLx_ir h
theorem btP_b {S W : Nat → Int} {m a b : Nat} (ha : rCs m (wX W a) = S a) (hb : rCs m (wX W b) = S b) : btP S W m a b ↔ rBt m (wX W a) (wX W b) := by
  unfold btP rBt
  rw [ha, hb]
/-- what is the best so far of the entries q .. that may be taken -/
def bbP (S W : Nat → Int) (m q : Nat) (ok : Nat → Prop) (k : Nat) (b : Int) : Prop := (b = -1 ∧ ∀ j, j < k → 0 ≤ S (q + j) → ¬ ok j) ∨ ∃ n : Nat, b = (n : Int) ∧ n < k ∧ 0 ≤ S (q + n) ∧ ok n ∧ ∀ j, j < k → 0 ≤ S (q + j) → ok j → ¬ btP S W m (q + j) (q + n)
theorem bbP_0 {S W : Nat → Int} {m q : Nat} {ok : Nat → Prop} : bbP S W m q ok 0 (-1) := Or.inl ⟨rfl, fun j hj => absurd hj (by omega)⟩
theorem bbP_no {S W : Nat → Int} {m q : Nat} {ok : Nat → Prop} {k : Nat} {b : Int} (h : bbP S W m q ok k b) (hn : ¬ (0 ≤ S (q + k) ∧ ok k)) : bbP S W m q ok (k + 1) b := by
  rcases h with ⟨h1, h2⟩ | ⟨n, h1, h2, h3, h4, h5⟩
  · refine Or.inl ⟨h1, fun j hj s o => ?_⟩
    rcases Nat.lt_succ_iff_lt_or_eq.mp hj with w | rfl
    · exact h2 j w s o
    · exact hn ⟨s, o⟩
  · refine Or.inr ⟨n, h1, by omega, h3, h4, fun j hj s o => ?_⟩
    rcases Nat.lt_succ_iff_lt_or_eq.mp hj with w | rfl
    · exact h5 j w s o
    · exact absurd ⟨s, o⟩ hn
theorem bbP_first {S W : Nat → Int} {m q : Nat} {ok : Nat → Prop} {k : Nat} {b : Int} (h : bbP S W m q ok k b) (hb : b < 0) (hs : 0 ≤ S (q + k)) (ho : ok k) : bbP S W m q ok (k + 1) (k : Int) := by
  rcases h with ⟨h1, h2⟩ | ⟨n, h1, _⟩
  · refine Or.inr ⟨k, rfl, by omega, hs, ho, fun j hj s o => ?_⟩
    rcases Nat.lt_succ_iff_lt_or_eq.mp hj with w | rfl
    · exact absurd o (h2 j w s)
    · exact btP_ir
  · omega
theorem bbP_t {S W : Nat → Int} {m q : Nat} {ok : Nat → Prop} {k n : Nat} (h : bbP S W m q ok k (n : Int)) (hs : 0 ≤ S (q + k)) (ho : ok k) (hb : btP S W m (q + k) (q + n)) : bbP S W m q ok (k + 1) (k : Int) := by
  rcases h with ⟨h1, h2⟩ | ⟨n', h1, h2, h3, h4, h5⟩
  · omega
  · obtain rfl : n = n' := by omega
    refine Or.inr ⟨k, rfl, by omega, hs, ho, fun j hj s o w => ?_⟩
    rcases Nat.lt_succ_iff_lt_or_eq.mp hj with w2 | rfl
    · exact h5 j w2 s o (btP_tr w hb)
    · exact btP_ir w
theorem bbP_f {S W : Nat → Int} {m q : Nat} {ok : Nat → Prop} {k n : Nat} (h : bbP S W m q ok k (n : Int)) (hb : ¬ btP S W m (q + k) (q + n)) : bbP S W m q ok (k + 1) (n : Int) := by
  rcases h with ⟨h1, h2⟩ | ⟨n', h1, h2, h3, h4, h5⟩
  · omega
  · obtain rfl : n = n' := by omega
    refine Or.inr ⟨n, rfl, by omega, h3, h4, fun j hj s o => ?_⟩
    rcases Nat.lt_succ_iff_lt_or_eq.mp hj with w2 | rfl
    · exact h5 j w2 s o
    · exact hb
theorem bbP_r {S W : Nat → Int} {m q : Nat} {ok : Nat → Prop} {k : Nat} {b : Int} (h : bbP S W m q ok k b) : -1 ≤ b ∧ b < k + 1 := by
  rcases h with ⟨h1, _⟩ | ⟨n, h1, h2, _⟩ <;> omega
noncomputable def lgZ (P : Rp) (i : Nat) (s e : Int) : Int := @ite _ (P.1 i s e) (Classical.propDecidable _) 1 0
theorem lgZ_1 {P : Rp} {i : Nat} {s e : Int} (h : P.1 i s e) : lgZ P i s e = 1 := if_pos h
theorem lgZ_0 {P : Rp} {i : Nat} {s e : Int} (h : ¬ P.1 i s e) : lgZ P i s e = 0 := if_neg h
theorem lgZ_r (P : Rp) (i : Nat) (s e : Int) : lgZ P i s e = 0 ∨ lgZ P i s e = 1 := by
  rcases Classical.em (P.1 i s e) with h | h
  · exact Or.inr (lgZ_1 h)
  · exact Or.inl (lgZ_0 h)
theorem lgZ_i {P : Rp} {i : Nat} {s e : Int} : lgZ P i s e ≠ 0 ↔ P.1 i s e := by
  rcases Classical.em (P.1 i s e) with h | h
  · rw [lgZ_1 h]; exact ⟨fun _ => h, fun _ => by decide⟩
  · rw [lgZ_0 h]; exact ⟨fun w => absurd rfl w, fun w => absurd w h⟩
/-- the new way, as the reference compares it -/
def nwY (W : Nat → Int) (fr i : Nat) (own : Int) : Nat → Int := fun c => if c < i then W (16 * fr + c) else own
def offB (S W : Nat → Int) (i to fr : Nat) (sum own : Int) : Prop := S to < 0 ∨ sum < S to ∨ (sum = S to ∧ ∃ c, c ≤ i ∧ (∀ b, b < c → nwY W fr i own b = W (16 * to + b)) ∧ nwY W fr i own c < W (16 * to + c))
/-- how far the comparing has come -/
def offI (S W : Nat → Int) (i to fr : Nat) (sum own : Int) (c : Nat) (bt sm : Int) : Prop := (bt = 0 ∨ bt = 1) ∧ ((sm = 1 ∧ sum = S to ∧ (∀ b, b < c → nwY W fr i own b = W (16 * to + b)) ∧ (bt = 1 ↔ S to < 0)) ∨ (sm = 0 ∧ (bt = 1 ↔ offB S W i to fr sum own)))
theorem offI_e {S W : Nat → Int} {i to fr : Nat} {sum own : Int} {c : Nat} {bt sm : Int} (h : offI S W i to fr sum own c bt sm) (hc : sm = 0 ∨ i < c) : (bt = 1 ↔ offB S W i to fr sum own) ∧ (bt = 0 ∨ bt = 1) := by
  obtain ⟨h0, h | h⟩ := h
  · obtain ⟨h1, h2, h3, h4⟩ := h
    refine ⟨⟨fun w => Or.inl (h4.mp w), fun w => ?_⟩, h0⟩
    rcases w with w | w | ⟨_, d, d1, _, d3⟩
    · exact h4.mpr w
    · omega
    · have := h3 d (by omega)
      omega
  · exact ⟨h.2, h0⟩
theorem offI_s {S W : Nat → Int} {i to fr : Nat} {sum own : Int} {c : Nat} {bt : Int} (h : offI S W i to fr sum own c bt 1) (hc : c ≤ i) (h0 : 0 ≤ S to) : (nwY W fr i own c = W (16 * to + c) → offI S W i to fr sum own (c + 1) bt 1) ∧ (nwY W fr i own c < W (16 * to + c) → offI S W i to fr sum own (c + 1) 1 0) ∧ (W (16 * to + c) < nwY W fr i own c → offI S W i to fr sum own (c + 1) bt 0) := by
  obtain ⟨b0, h | h⟩ := h
  · obtain ⟨h1, h2, h3, h4⟩ := h
    have bt0 : ¬ bt = 1 := fun w => absurd (h4.mp w) (by omega)
    refine ⟨fun e => ⟨b0, Or.inl ⟨rfl, h2, fun b hb => ?_, h4⟩⟩, fun e => ⟨Or.inr rfl, Or.inr ⟨rfl, fun _ => Or.inr (Or.inr ⟨h2, c, hc, h3, e⟩), fun _ => rfl⟩⟩, fun e => ⟨b0, Or.inr ⟨rfl, fun w => absurd w bt0, fun w => ?_⟩⟩⟩
    · rcases Nat.lt_succ_iff_lt_or_eq.mp hb with q | rfl
      · exact h3 b q
      · exact e
    · exfalso
      rcases w with w | w | ⟨_, d, d1, d2, d3⟩
      · omega
      · omega
      · rcases Nat.lt_trichotomy d c with q | q | q
        · have := h3 d q
          omega
        · subst q; omega
        · have := d2 c q
          omega
  · omega
theorem offI_0 {S W : Nat → Int} {i to fr : Nat} {sum own : Int} : ((S to < 0 ∨ sum < S to) → sum ≠ S to → offI S W i to fr sum own 0 1 0) ∧ (¬ (S to < 0 ∨ sum < S to) → sum ≠ S to → offI S W i to fr sum own 0 0 0) ∧ (¬ (S to < 0 ∨ sum < S to) → sum = S to → offI S W i to fr sum own 0 0 1) := by
  refine ⟨fun h n => ⟨Or.inr rfl, Or.inr ⟨rfl, fun _ => ?_, fun _ => rfl⟩⟩, fun h n => ⟨Or.inl rfl, Or.inr ⟨rfl, fun w => absurd w (by decide), fun w => ?_⟩⟩, fun h n => ⟨Or.inl rfl, Or.inl ⟨rfl, n, fun b hb => absurd hb (by omega), fun w => absurd w (by decide), fun w => absurd (Or.inl w) h⟩⟩⟩
  · rcases h with h | h
    · exact Or.inl h
    · exact Or.inr (Or.inl h)
  · exfalso
    rcases w with w | w | ⟨w, _⟩
    · exact h (Or.inl w)
    · exact h (Or.inr w)
    · exact n w
/-- the entries of cue i, with the starts below j weighed, and j itself for the ends below kk -/
def fwI (P : Rp) (S W : Nat → Int) (i j kk : Nat) : Prop := ∀ k, k < 97 → rE P i k (if k < kk then j + 1 else j) (S (i % 2 * 97 + k)) (wX W (i % 2 * 97 + k))
theorem fwI_n {P : Rp} {S W : Nat → Int} {i j : Nat} (h : fwI P S W i j 97) : fwI P S W i (j + 1) 0 := by
  intro k hk
  have := h k hk
  rw [if_pos hk] at this
  rw [if_neg (by omega)]
  exact this
theorem fwI_skip {P : Rp} {S W : Nat → Int} {i j kk : Nat} (h : fwI P S W i j kk) (hn : ∀ y, rVP P (i + 1) y → y i ≠ 128 * j + kk) : fwI P S W i j (kk + 1) := by
  intro k hk
  have := h k hk
  by_cases q : k = kk
  · subst q
    rw [if_neg (by omega)] at this
    rw [if_pos (by omega)]
    exact rE_skip this hn
  · by_cases w : k < kk
    · rw [if_pos w] at this
      rw [if_pos (by omega)]
      exact this
    · rw [if_neg w] at this
      rw [if_neg (by omega)]
      exact this
theorem fwI_all {P : Rp} {S W : Nat → Int} {i j : Nat} (h : fwI P S W i j 0) (hn : ∀ y k, k < 97 → rVP P (i + 1) y → y i ≠ 128 * j + k) : fwI P S W i (j + 1) 0 := by
  intro k hk
  have := h k hk
  rw [if_neg (by omega)] at this ⊢
  exact rE_skip this (fun y v => hn y k hk v)
theorem nwY_lx {W : Nat → Int} {fr to i j k : Nat} {x' : Nat → Nat} (hW : ∀ c, 0 ≤ W c) (h1 : ∀ c, c < i → x' c = wX W fr c) (h2 : x' i = 128 * j + k) : (∃ c, c ≤ i ∧ (∀ b, b < c → nwY W fr i ((128 * j + k : Nat) : Int) b = W (16 * to + b)) ∧ nwY W fr i ((128 * j + k : Nat) : Int) c < W (16 * to + c)) ↔ rLx (i + 1) x' (wX W to) := by
  have e : ∀ c, c ≤ i → nwY W fr i ((128 * j + k : Nat) : Int) c = ((x' c : Nat) : Int) := by
    intro c hc
    unfold nwY
    by_cases q : c < i
    · rw [if_pos q, h1 c q]
      have := hW (16 * fr + c)
      show W (16 * fr + c) = (((W (16 * fr + c)).toNat : Nat) : Int)
      omega
    · obtain rfl : c = i := by omega
      rw [if_neg q, h2]
  have f : ∀ c, W (16 * to + c) = ((wX W to c : Nat) : Int) := by
    intro c
    have := hW (16 * to + c)
    show W (16 * to + c) = (((W (16 * to + c)).toNat : Nat) : Int)
    omega
  constructor
  · rintro ⟨c, c1, c2, c3⟩
    refine ⟨c, by omega, fun b hb => ?_, ?_⟩
    · have := c2 b hb
      rw [e b (by omega), f b] at this
      omega
    · rw [e c c1, f c] at c3
      omega
  · rintro ⟨c, c1, c2, c3⟩
    refine ⟨c, by omega, fun b hb => ?_, ?_⟩
    · have := c2 b hb
      rw [e b (by omega), f b]
      omega
    · rw [e c (by omega), f c]
      omega
/-- the arrays behind an offer that was taken -/
def ofS (S : Nat → Int) (to : Nat) (sum : Int) : Nat → Int := zup S to sum
def ofW (W : Nat → Int) (fr to i : Nat) (own : Int) : Nat → Int := zup (va_cpy W W (16 * fr) (16 * to) i) (16 * to + i) own
theorem ofW_o {W : Nat → Int} {fr to i r c : Nat} {own : Int} (hi : i < 16) (hr : r ≠ to) (hc : c < 16) : ofW W fr to i own (16 * r + c) = W (16 * r + c) := by
  unfold ofW
  rw [zup_n (by omega)]
  show (if 16 * to ≤ 16 * r + c ∧ 16 * r + c < 16 * to + i then W (16 * fr + (16 * r + c - 16 * to)) else W (16 * r + c)) = _
  rw [if_neg (by omega)]
theorem fwI_offer {P : Rp} {S W : Nat → Int} {i j kk fr : Nat} {sum : Int} (h : fwI P S W i j kk) (hi : i < 16) (hj : j < 25) (hk : kk < 97) (hW : ∀ c, 0 ≤ W c) (hl : P.1 i (rSt P i (128 * j + kk)) (rEn P i (128 * j + kk))) (hz : rPre P i (rSt P i (128 * j + kk)) (wX W fr)) (hs : sum = rCs i (wX W fr) + rCo (128 * j + kk)) : (offB S W i (i % 2 * 97 + kk) fr sum ((128 * j + kk : Nat) : Int) → fwI P (ofS S (i % 2 * 97 + kk) sum) (ofW W fr (i % 2 * 97 + kk) i ((128 * j + kk : Nat) : Int)) i j (kk + 1)) ∧ (¬ offB S W i (i % 2 * 97 + kk) fr sum ((128 * j + kk : Nat) : Int) → fwI P S W i j (kk + 1) ∧ 0 ≤ S (i % 2 * 97 + kk)) ∧ ∃ x, rVP P (i + 1) x := by
  have e0 := h kk hk
  rw [if_neg (by omega)] at e0
  obtain ⟨x', hx'⟩ : ∃ x' : Nat → Nat, x' = fun c => if c = i then 128 * j + kk else wX W fr c := ⟨_, rfl⟩
  have h1 : ∀ c, c < i → x' c = wX W fr c := fun c hc => by rw [hx']; exact if_neg (by omega)
  have h2 : x' i = 128 * j + kk := by rw [hx']; exact if_pos rfl
  have off := rE_offer e0 hj hk hl hz h1 h2
  have cx : rCs (i + 1) x' = sum := by rw [rCs, h2, rCs_c h1, hs]
  have vx : rVP P (i + 1) x' := by
    intro c hc
    rcases Nat.lt_succ_iff_lt_or_eq.mp hc with w | rfl
    · have := hz.1 c w
      rw [h1 c w]
      refine ⟨this.1, fun b hb => ?_⟩
      rw [h1 b (by omega)]
      exact this.2 b hb
    · rw [h2]
      refine ⟨⟨by omega, by omega, hl⟩, fun b hb => ?_⟩
      rw [h1 b (by omega)]
      exact hz.2.1 b hb
  have lx := nwY_lx (to := i % 2 * 97 + kk) hW h1 h2
  have iff : offB S W i (i % 2 * 97 + kk) fr sum ((128 * j + kk : Nat) : Int) ↔ (S (i % 2 * 97 + kk) < 0 ∨ rBt (i + 1) x' (wX W (i % 2 * 97 + kk))) := by
    unfold offB
    rw [lx]
    rcases e0 with ⟨q1, _⟩ | ⟨q1, q2, q3, q4, _⟩
    · exact ⟨fun _ => Or.inl (by omega), fun _ => Or.inl (by omega)⟩
    · unfold rBt
      rw [cx, q4]
  refine ⟨fun hb => ?_, fun hb => ?_, ⟨x', vx⟩⟩
  · have n := off.1 (iff.mp hb)
    rw [← hs] at n
    intro k hk2
    by_cases q : k = kk
    · subst q
      rw [if_pos (by omega)]
      unfold ofS
      rw [zup_s]
      refine rE_c (fun c hc => ?_) n
      rcases Nat.lt_succ_iff_lt_or_eq.mp hc with w | rfl
      · rw [h1 c w]
        show (W (16 * fr + c)).toNat = (ofW W fr (i % 2 * 97 + k) i _ (16 * (i % 2 * 97 + k) + c)).toNat
        unfold ofW
        rw [zup_n (by omega)]
        show _ = (if 16 * (i % 2 * 97 + k) ≤ 16 * (i % 2 * 97 + k) + c ∧ 16 * (i % 2 * 97 + k) + c < 16 * (i % 2 * 97 + k) + i then W (16 * fr + (16 * (i % 2 * 97 + k) + c - 16 * (i % 2 * 97 + k))) else _).toNat
        rw [if_pos (by omega), show 16 * (i % 2 * 97 + k) + c - 16 * (i % 2 * 97 + k) = c from by omega]
      · rw [h2]
        show _ = (ofW W fr (c % 2 * 97 + k) c _ (16 * (c % 2 * 97 + k) + c)).toNat
        unfold ofW
        rw [zup_s, Int.toNat_natCast]
    · have e := h k hk2
      have s1 : ofS S (i % 2 * 97 + kk) sum (i % 2 * 97 + k) = S (i % 2 * 97 + k) := zup_n (by omega)
      rw [s1]
      have e2 : rE P i k (if k < kk + 1 then j + 1 else j) (S (i % 2 * 97 + k)) (wX W (i % 2 * 97 + k)) := by
        by_cases w : k < kk
        · rw [if_pos w] at e
          rw [if_pos (by omega)]
          exact e
        · rw [if_neg w] at e
          rw [if_neg (by omega)]
          exact e
      refine rE_c (fun c hc => ?_) e2
      show (W _).toNat = (ofW W fr _ i _ _).toNat
      rw [ofW_o hi (by omega) (by omega)]
  · have n := off.2 (fun w => hb (iff.mpr w))
    refine ⟨fun k hk2 => ?_, ?_⟩
    · by_cases q : k = kk
      · subst q
        rw [if_pos (by omega)]
        exact n
      · have e := h k hk2
        by_cases w : k < kk
        · rw [if_pos w] at e
          rw [if_pos (by omega)]
          exact e
        · rw [if_neg w] at e
          rw [if_neg (by omega)]
          exact e
    · rcases Int.lt_or_le (S (i % 2 * 97 + kk)) 0 with w | w
      · exact absurd (Or.inl w) hb
      · exact w
theorem fw_some {P : Rp} {S W : Nat → Int} {i : Nat} (h : fwI P S W i 25 0) (hs : ∀ k, k < 97 → S (i % 2 * 97 + k) = -1) : ¬ ∃ x, rVP P (i + 1) x := by
  rintro ⟨x, v⟩
  have o := (v i (by omega)).1
  have e := h _ o.2.1
  rw [if_neg (by omega)] at e
  rcases e with ⟨_, e⟩ | ⟨e, _⟩
  · have := e x v rfl
    have := o.1
    omega
  · have := hs _ o.2.1
    omega
theorem rPre_c {P : Rp} {i : Nat} {st : Int} {z z' : Nat → Nat} (h : ∀ c, c < i → z c = z' c) (r : rPre P i st z) : rPre P i st z' := by
  obtain ⟨r1, r2, r3⟩ := r
  exact ⟨rVP_c h r1, fun b hb => by rw [← h b (by omega)]; exact r2 b hb, fun y y1 y2 w => r3 y y1 y2 (rBt_c (fun _ _ => rfl) (fun c hc => (h c hc).symm) w)⟩
set_option maxHeartbeats 4000000 in
set_option maxRecDepth 100000 in
theorem lp_Mo_clear (G : GT) (h : HM) (σ : Nat → Value) (m us : Nat) (e : Int) (nu : Nat) (U : Nat → Int) (hm : h m = some (.inr (11, fsN 34 σ))) (f25 : σ 25 = .int (iZ (nu : Int))) (f26 : σ 26 = .ref us) (hus : h us = some (.inl (G_i G, 20, .inl (iA U)))) (hnu : nu ≤ 20) (hU : ∀ k, k < nu → 0 ≤ U k ∧ U k ≤ 216000) (he : -1000000 ≤ e ∧ e ≤ 1000000) : ∀ (d : Nat) (k : Nat) (nr bf : Int), k + d = nu → (((nr : Int) = 0 ∧ ∀ j, j < k → ¬ ((e - U j).natAbs : Int) ≤ 7) ∨ ((nr : Int) = 1 ∧ ∃ j, j < k ∧ ((e - U j).natAbs : Int) ≤ 7)) → (((bf : Int) = 0 ∧ ∀ j, j < k → ¬ U j - 2 = e) ∨ ((bf : Int) = 1 ∧ ∃ j, j < k ∧ U j - 2 = e)) → Ev G M_Mo_isClear (rm 0 0) (Pu (.int (iZ (clrZ U nu e))) h) 8 [(0, .ref m), (1, .long (lZ e)), (3, .int (iZ nr)), (4, .int (iZ bf)), (5, .int (iZ (k : Int)))] [] h 0 0 := by
  intro d
  induction d using Nat.strongRecOn with
  | ind d ih =>
  intro k nr bf hk hnr hbf
  have hn9 : nr = 0 ∨ nr = 1 := by rcases hnr with q | q; exact Or.inl q.1; exact Or.inr q.1
  have hb9 : bf = 0 ∨ bf = 1 := by rcases hbf with q | q; exact Or.inl q.1; exact Or.inr q.1
  refine ev_iload d_Mo_isClear_8 rfl ?_
  refine ev_aload_n d_Mo_isClear_10 rfl rfl ?_
  refine ev_getF d_Mo_isClear_11 fl_Mo_227 hm (by decide) f25 ?_
  refine ez_icmp_ge (tgt := 96) (by omega) (by omega) d_Mo_isClear_14 rfl (fun c14 => ?_) (fun c14 => ?_)
  · refine ev_iload_n d_Mo_isClear_96 rfl rfl ?_
    refine ez_if_eq (tgt := 105) (by omega) d_Mo_isClear_97 rfl (fun c97 => ?_) (fun c97 => ?_)
    · refine ev_iconst (v := iZ 1) d_Mo_isClear_105 rfl ?_
      refine ev_goto (tgt := 110) d_Mo_isClear_106 rfl ?_
      have hcl : clr U nu e := by
        rcases hbf with ⟨b1, b2⟩ | ⟨b1, j, b2, b3⟩
        · refine Or.inr ?_
          rintro ⟨j, j1, j2⟩
          rcases hnr with ⟨q1, q2⟩ | ⟨q1, _⟩
          · exact q2 j (by omega) j2
          · omega
        · exact Or.inl ⟨j, by omega, b3⟩
      exact ev_zreturn d_Mo_isClear_110 rfl (Or.inr rfl) (by decide) (by decide) (⟨by rw [clrZ_1 hcl], rfl⟩)
    · refine ev_iload d_Mo_isClear_100 rfl ?_
      refine ez_if_eq (tgt := 109) (by omega) d_Mo_isClear_102 rfl (fun c102 => ?_) (fun c102 => ?_)
      · refine ev_iconst (v := iZ 0) d_Mo_isClear_109 rfl ?_
        have hcl : ¬ clr U nu e := by
          rintro (⟨j, j1, j2⟩ | w)
          · rcases hbf with ⟨b1, b2⟩ | ⟨b1, _⟩
            · exact b2 j (by omega) j2
            · omega
          · rcases hnr with ⟨q1, _⟩ | ⟨_, j, j1, j2⟩
            · omega
            · exact w ⟨j, by omega, j2⟩
        exact ev_zreturn d_Mo_isClear_110 rfl (Or.inl rfl) (by decide) (by decide) (⟨by rw [clrZ_0 hcl], rfl⟩)
      · refine ev_iconst (v := iZ 1) d_Mo_isClear_105 rfl ?_
        refine ev_goto (tgt := 110) d_Mo_isClear_106 rfl ?_
        have hcl : clr U nu e := by
          rcases hbf with ⟨b1, b2⟩ | ⟨b1, j, b2, b3⟩
          · refine Or.inr ?_
            rintro ⟨j, j1, j2⟩
            rcases hnr with ⟨q1, q2⟩ | ⟨q1, _⟩
            · exact q2 j (by omega) j2
            · omega
          · exact Or.inl ⟨j, by omega, b3⟩
        exact ev_zreturn d_Mo_isClear_110 rfl (Or.inr rfl) (by decide) (by decide) (⟨by rw [clrZ_1 hcl], rfl⟩)
  · have ru := hU k (by omega)
    refine ev_iload_n d_Mo_isClear_17 rfl rfl ?_
    refine ez_if_ne (tgt := 55) (by omega) d_Mo_isClear_18 rfl (fun c18 => ?_) (fun c18 => ?_)
    · refine ev_iconst (v := iZ 1) d_Mo_isClear_55 rfl ?_
      refine ev_goto (tgt := 60) d_Mo_isClear_56 rfl ?_
      refine ev_istore_n (L' := [(0, .ref m), (1, .long (lZ e)), (3, .int (iZ 1)), (4, .int (iZ bf)), (5, .int (iZ (k : Int)))]) d_Mo_isClear_60 rfl (by decide) rfl ?_
      refine ev_iload d_Mo_isClear_61 rfl ?_
      refine ez_if_ne (tgt := 83) (by omega) d_Mo_isClear_63 rfl (fun c63 => ?_) (fun c63 => ?_)
      · refine ev_iconst (v := iZ 1) d_Mo_isClear_83 rfl ?_
        refine ev_goto (tgt := 88) d_Mo_isClear_84 rfl ?_
        refine ev_istore (L' := [(0, .ref m), (1, .long (lZ e)), (3, .int (iZ 1)), (4, .int (iZ 1)), (5, .int (iZ (k : Int)))]) d_Mo_isClear_88 (by decide) rfl ?_
        refine ez_iinc (L' := [(0, .ref m), (1, .long (lZ e)), (3, .int (iZ 1)), (4, .int (iZ 1)), (5, .int (iZ ((k + 1 : Nat) : Int)))]) d_Mo_isClear_90 rfl (by decide) rfl ?_
        refine ev_goto (tgt := 8) d_Mo_isClear_93 rfl ?_
        have h1 : ((1 : Int) = 0 ∧ ∀ j, j < k + 1 → ¬ ((e - U j).natAbs : Int) ≤ 7) ∨ ((1 : Int) = 1 ∧ ∃ j, j < k + 1 ∧ ((e - U j).natAbs : Int) ≤ 7) := Or.inr ⟨rfl, by rcases hnr with ⟨q1, q2⟩ | ⟨q1, j, q2, q3⟩; exact ⟨k, by omega, by omega⟩; exact ⟨j, by omega, q3⟩⟩
        have h2 : ((1 : Int) = 0 ∧ ∀ j, j < k + 1 → ¬ U j - 2 = e) ∨ ((1 : Int) = 1 ∧ ∃ j, j < k + 1 ∧ U j - 2 = e) := by clear h1 hnr; exact Or.inr ⟨rfl, by rcases hbf with ⟨q1, q2⟩ | ⟨q1, j, q2, q3⟩; exact ⟨k, by omega, by omega⟩; exact ⟨j, by omega, q3⟩⟩
        exact ih (d - 1) (by omega) (k + 1) 1 1 (by omega) h1 h2
      · refine ev_lload_n d_Mo_isClear_66 rfl rfl ?_
        refine ev_ldc2 (v := lZ 2) d_Mo_isClear_67 kc_Mo_84 ?_
        refine ez_ladd d_Mo_isClear_70 ?_
        refine ev_aload_n d_Mo_isClear_71 rfl rfl ?_
        refine ev_getF d_Mo_isClear_72 fl_Mo_60 hm (by decide) f26 ?_
        refine ev_iload d_Mo_isClear_75 rfl ?_
        refine ez_iaload k d_Mo_isClear_77 hus (by omega) (by omega) (by decide) ?_
        refine ez_i2l (by omega) d_Mo_isClear_78 ?_
        refine ev_lcmp d_Mo_isClear_79 ?_
        refine ez_lif_ne (tgt := 87) (by omega) (by omega) d_Mo_isClear_80 rfl (fun c80 => ?_) (fun c80 => ?_)
        · refine ev_iconst (v := iZ 0) d_Mo_isClear_87 rfl ?_
          refine ev_istore (L' := [(0, .ref m), (1, .long (lZ e)), (3, .int (iZ 1)), (4, .int (iZ 0)), (5, .int (iZ (k : Int)))]) d_Mo_isClear_88 (by decide) rfl ?_
          refine ez_iinc (L' := [(0, .ref m), (1, .long (lZ e)), (3, .int (iZ 1)), (4, .int (iZ 0)), (5, .int (iZ ((k + 1 : Nat) : Int)))]) d_Mo_isClear_90 rfl (by decide) rfl ?_
          refine ev_goto (tgt := 8) d_Mo_isClear_93 rfl ?_
          have h1 : ((1 : Int) = 0 ∧ ∀ j, j < k + 1 → ¬ ((e - U j).natAbs : Int) ≤ 7) ∨ ((1 : Int) = 1 ∧ ∃ j, j < k + 1 ∧ ((e - U j).natAbs : Int) ≤ 7) := Or.inr ⟨rfl, by rcases hnr with ⟨q1, q2⟩ | ⟨q1, j, q2, q3⟩; exact ⟨k, by omega, by omega⟩; exact ⟨j, by omega, q3⟩⟩
          have h2 : ((0 : Int) = 0 ∧ ∀ j, j < k + 1 → ¬ U j - 2 = e) ∨ ((0 : Int) = 1 ∧ ∃ j, j < k + 1 ∧ U j - 2 = e) := by clear h1 hnr; exact Or.inl ⟨rfl, fun j hj => by rcases hbf with ⟨q1, q2⟩ | ⟨q1, _⟩; rcases Nat.lt_succ_iff_lt_or_eq.mp hj with w | rfl; exact q2 j w; omega; omega⟩
          exact ih (d - 1) (by omega) (k + 1) 1 0 (by omega) h1 h2
        · refine ev_iconst (v := iZ 1) d_Mo_isClear_83 rfl ?_
          refine ev_goto (tgt := 88) d_Mo_isClear_84 rfl ?_
          refine ev_istore (L' := [(0, .ref m), (1, .long (lZ e)), (3, .int (iZ 1)), (4, .int (iZ 1)), (5, .int (iZ (k : Int)))]) d_Mo_isClear_88 (by decide) rfl ?_
          refine ez_iinc (L' := [(0, .ref m), (1, .long (lZ e)), (3, .int (iZ 1)), (4, .int (iZ 1)), (5, .int (iZ ((k + 1 : Nat) : Int)))]) d_Mo_isClear_90 rfl (by decide) rfl ?_
          refine ev_goto (tgt := 8) d_Mo_isClear_93 rfl ?_
          have h1 : ((1 : Int) = 0 ∧ ∀ j, j < k + 1 → ¬ ((e - U j).natAbs : Int) ≤ 7) ∨ ((1 : Int) = 1 ∧ ∃ j, j < k + 1 ∧ ((e - U j).natAbs : Int) ≤ 7) := Or.inr ⟨rfl, by rcases hnr with ⟨q1, q2⟩ | ⟨q1, j, q2, q3⟩; exact ⟨k, by omega, by omega⟩; exact ⟨j, by omega, q3⟩⟩
          have h2 : ((1 : Int) = 0 ∧ ∀ j, j < k + 1 → ¬ U j - 2 = e) ∨ ((1 : Int) = 1 ∧ ∃ j, j < k + 1 ∧ U j - 2 = e) := by clear h1 hnr; exact Or.inr ⟨rfl, by rcases hbf with ⟨q1, q2⟩ | ⟨q1, j, q2, q3⟩; exact ⟨k, by omega, by omega⟩; exact ⟨j, by omega, q3⟩⟩
          exact ih (d - 1) (by omega) (k + 1) 1 1 (by omega) h1 h2
    · refine ev_lload_n d_Mo_isClear_21 rfl rfl ?_
      refine ev_aload_n d_Mo_isClear_22 rfl rfl ?_
      refine ev_getF d_Mo_isClear_23 fl_Mo_60 hm (by decide) f26 ?_
      refine ev_iload d_Mo_isClear_26 rfl ?_
      refine ez_iaload k d_Mo_isClear_28 hus (by omega) (by omega) (by decide) ?_
      refine ez_i2l (by omega) d_Mo_isClear_29 ?_
      refine ez_lsub d_Mo_isClear_30 ?_
      refine ev_ldc2 (v := lZ 7) d_Mo_isClear_31 kc_Mo_230 ?_
      refine ev_lcmp d_Mo_isClear_34 ?_
      refine ez_lif_gt (tgt := 59) (by omega) (by decide) d_Mo_isClear_35 rfl (fun c35 => ?_) (fun c35 => ?_)
      · refine ev_iconst (v := iZ 0) d_Mo_isClear_59 rfl ?_
        refine ev_istore_n (L' := [(0, .ref m), (1, .long (lZ e)), (3, .int (iZ 0)), (4, .int (iZ bf)), (5, .int (iZ (k : Int)))]) d_Mo_isClear_60 rfl (by decide) rfl ?_
        refine ev_iload d_Mo_isClear_61 rfl ?_
        refine ez_if_ne (tgt := 83) (by omega) d_Mo_isClear_63 rfl (fun c63 => ?_) (fun c63 => ?_)
        · refine ev_iconst (v := iZ 1) d_Mo_isClear_83 rfl ?_
          refine ev_goto (tgt := 88) d_Mo_isClear_84 rfl ?_
          refine ev_istore (L' := [(0, .ref m), (1, .long (lZ e)), (3, .int (iZ 0)), (4, .int (iZ 1)), (5, .int (iZ (k : Int)))]) d_Mo_isClear_88 (by decide) rfl ?_
          refine ez_iinc (L' := [(0, .ref m), (1, .long (lZ e)), (3, .int (iZ 0)), (4, .int (iZ 1)), (5, .int (iZ ((k + 1 : Nat) : Int)))]) d_Mo_isClear_90 rfl (by decide) rfl ?_
          refine ev_goto (tgt := 8) d_Mo_isClear_93 rfl ?_
          have h1 : ((0 : Int) = 0 ∧ ∀ j, j < k + 1 → ¬ ((e - U j).natAbs : Int) ≤ 7) ∨ ((0 : Int) = 1 ∧ ∃ j, j < k + 1 ∧ ((e - U j).natAbs : Int) ≤ 7) := Or.inl ⟨rfl, fun j hj => by rcases hnr with ⟨q1, q2⟩ | ⟨q1, _⟩; rcases Nat.lt_succ_iff_lt_or_eq.mp hj with w | rfl; exact q2 j w; omega; omega⟩
          have h2 : ((1 : Int) = 0 ∧ ∀ j, j < k + 1 → ¬ U j - 2 = e) ∨ ((1 : Int) = 1 ∧ ∃ j, j < k + 1 ∧ U j - 2 = e) := by clear h1 hnr; exact Or.inr ⟨rfl, by rcases hbf with ⟨q1, q2⟩ | ⟨q1, j, q2, q3⟩; exact ⟨k, by omega, by omega⟩; exact ⟨j, by omega, q3⟩⟩
          exact ih (d - 1) (by omega) (k + 1) 0 1 (by omega) h1 h2
        · refine ev_lload_n d_Mo_isClear_66 rfl rfl ?_
          refine ev_ldc2 (v := lZ 2) d_Mo_isClear_67 kc_Mo_84 ?_
          refine ez_ladd d_Mo_isClear_70 ?_
          refine ev_aload_n d_Mo_isClear_71 rfl rfl ?_
          refine ev_getF d_Mo_isClear_72 fl_Mo_60 hm (by decide) f26 ?_
          refine ev_iload d_Mo_isClear_75 rfl ?_
          refine ez_iaload k d_Mo_isClear_77 hus (by omega) (by omega) (by decide) ?_
          refine ez_i2l (by omega) d_Mo_isClear_78 ?_
          refine ev_lcmp d_Mo_isClear_79 ?_
          refine ez_lif_ne (tgt := 87) (by omega) (by omega) d_Mo_isClear_80 rfl (fun c80 => ?_) (fun c80 => ?_)
          · refine ev_iconst (v := iZ 0) d_Mo_isClear_87 rfl ?_
            refine ev_istore (L' := [(0, .ref m), (1, .long (lZ e)), (3, .int (iZ 0)), (4, .int (iZ 0)), (5, .int (iZ (k : Int)))]) d_Mo_isClear_88 (by decide) rfl ?_
            refine ez_iinc (L' := [(0, .ref m), (1, .long (lZ e)), (3, .int (iZ 0)), (4, .int (iZ 0)), (5, .int (iZ ((k + 1 : Nat) : Int)))]) d_Mo_isClear_90 rfl (by decide) rfl ?_
            refine ev_goto (tgt := 8) d_Mo_isClear_93 rfl ?_
            have h1 : ((0 : Int) = 0 ∧ ∀ j, j < k + 1 → ¬ ((e - U j).natAbs : Int) ≤ 7) ∨ ((0 : Int) = 1 ∧ ∃ j, j < k + 1 ∧ ((e - U j).natAbs : Int) ≤ 7) := Or.inl ⟨rfl, fun j hj => by rcases hnr with ⟨q1, q2⟩ | ⟨q1, _⟩; rcases Nat.lt_succ_iff_lt_or_eq.mp hj with w | rfl; exact q2 j w; omega; omega⟩
            have h2 : ((0 : Int) = 0 ∧ ∀ j, j < k + 1 → ¬ U j - 2 = e) ∨ ((0 : Int) = 1 ∧ ∃ j, j < k + 1 ∧ U j - 2 = e) := by clear h1 hnr; exact Or.inl ⟨rfl, fun j hj => by rcases hbf with ⟨q1, q2⟩ | ⟨q1, _⟩; rcases Nat.lt_succ_iff_lt_or_eq.mp hj with w | rfl; exact q2 j w; omega; omega⟩
            exact ih (d - 1) (by omega) (k + 1) 0 0 (by omega) h1 h2
          · refine ev_iconst (v := iZ 1) d_Mo_isClear_83 rfl ?_
            refine ev_goto (tgt := 88) d_Mo_isClear_84 rfl ?_
            refine ev_istore (L' := [(0, .ref m), (1, .long (lZ e)), (3, .int (iZ 0)), (4, .int (iZ 1)), (5, .int (iZ (k : Int)))]) d_Mo_isClear_88 (by decide) rfl ?_
            refine ez_iinc (L' := [(0, .ref m), (1, .long (lZ e)), (3, .int (iZ 0)), (4, .int (iZ 1)), (5, .int (iZ ((k + 1 : Nat) : Int)))]) d_Mo_isClear_90 rfl (by decide) rfl ?_
            refine ev_goto (tgt := 8) d_Mo_isClear_93 rfl ?_
            have h1 : ((0 : Int) = 0 ∧ ∀ j, j < k + 1 → ¬ ((e - U j).natAbs : Int) ≤ 7) ∨ ((0 : Int) = 1 ∧ ∃ j, j < k + 1 ∧ ((e - U j).natAbs : Int) ≤ 7) := Or.inl ⟨rfl, fun j hj => by rcases hnr with ⟨q1, q2⟩ | ⟨q1, _⟩; rcases Nat.lt_succ_iff_lt_or_eq.mp hj with w | rfl; exact q2 j w; omega; omega⟩
            have h2 : ((1 : Int) = 0 ∧ ∀ j, j < k + 1 → ¬ U j - 2 = e) ∨ ((1 : Int) = 1 ∧ ∃ j, j < k + 1 ∧ U j - 2 = e) := by clear h1 hnr; exact Or.inr ⟨rfl, by rcases hbf with ⟨q1, q2⟩ | ⟨q1, j, q2, q3⟩; exact ⟨k, by omega, by omega⟩; exact ⟨j, by omega, q3⟩⟩
            exact ih (d - 1) (by omega) (k + 1) 0 1 (by omega) h1 h2
      · refine ev_aload_n d_Mo_isClear_38 rfl rfl ?_
        refine ev_getF d_Mo_isClear_39 fl_Mo_60 hm (by decide) f26 ?_
        refine ev_iload d_Mo_isClear_42 rfl ?_
        refine ez_iaload k d_Mo_isClear_44 hus (by omega) (by omega) (by decide) ?_
        refine ez_i2l (by omega) d_Mo_isClear_45 ?_
        refine ev_lload_n d_Mo_isClear_46 rfl rfl ?_
        refine ez_lsub d_Mo_isClear_47 ?_
        refine ev_ldc2 (v := lZ 7) d_Mo_isClear_48 kc_Mo_230 ?_
        refine ev_lcmp d_Mo_isClear_51 ?_
        refine ez_lif_gt (tgt := 59) (by omega) (by decide) d_Mo_isClear_52 rfl (fun c52 => ?_) (fun c52 => ?_)
        · refine ev_iconst (v := iZ 0) d_Mo_isClear_59 rfl ?_
          refine ev_istore_n (L' := [(0, .ref m), (1, .long (lZ e)), (3, .int (iZ 0)), (4, .int (iZ bf)), (5, .int (iZ (k : Int)))]) d_Mo_isClear_60 rfl (by decide) rfl ?_
          refine ev_iload d_Mo_isClear_61 rfl ?_
          refine ez_if_ne (tgt := 83) (by omega) d_Mo_isClear_63 rfl (fun c63 => ?_) (fun c63 => ?_)
          · refine ev_iconst (v := iZ 1) d_Mo_isClear_83 rfl ?_
            refine ev_goto (tgt := 88) d_Mo_isClear_84 rfl ?_
            refine ev_istore (L' := [(0, .ref m), (1, .long (lZ e)), (3, .int (iZ 0)), (4, .int (iZ 1)), (5, .int (iZ (k : Int)))]) d_Mo_isClear_88 (by decide) rfl ?_
            refine ez_iinc (L' := [(0, .ref m), (1, .long (lZ e)), (3, .int (iZ 0)), (4, .int (iZ 1)), (5, .int (iZ ((k + 1 : Nat) : Int)))]) d_Mo_isClear_90 rfl (by decide) rfl ?_
            refine ev_goto (tgt := 8) d_Mo_isClear_93 rfl ?_
            have h1 : ((0 : Int) = 0 ∧ ∀ j, j < k + 1 → ¬ ((e - U j).natAbs : Int) ≤ 7) ∨ ((0 : Int) = 1 ∧ ∃ j, j < k + 1 ∧ ((e - U j).natAbs : Int) ≤ 7) := Or.inl ⟨rfl, fun j hj => by rcases hnr with ⟨q1, q2⟩ | ⟨q1, _⟩; rcases Nat.lt_succ_iff_lt_or_eq.mp hj with w | rfl; exact q2 j w; omega; omega⟩
            have h2 : ((1 : Int) = 0 ∧ ∀ j, j < k + 1 → ¬ U j - 2 = e) ∨ ((1 : Int) = 1 ∧ ∃ j, j < k + 1 ∧ U j - 2 = e) := by clear h1 hnr; exact Or.inr ⟨rfl, by rcases hbf with ⟨q1, q2⟩ | ⟨q1, j, q2, q3⟩; exact ⟨k, by omega, by omega⟩; exact ⟨j, by omega, q3⟩⟩
            exact ih (d - 1) (by omega) (k + 1) 0 1 (by omega) h1 h2
          · refine ev_lload_n d_Mo_isClear_66 rfl rfl ?_
            refine ev_ldc2 (v := lZ 2) d_Mo_isClear_67 kc_Mo_84 ?_
            refine ez_ladd d_Mo_isClear_70 ?_
            refine ev_aload_n d_Mo_isClear_71 rfl rfl ?_
            refine ev_getF d_Mo_isClear_72 fl_Mo_60 hm (by decide) f26 ?_
            refine ev_iload d_Mo_isClear_75 rfl ?_
            refine ez_iaload k d_Mo_isClear_77 hus (by omega) (by omega) (by decide) ?_
            refine ez_i2l (by omega) d_Mo_isClear_78 ?_
            refine ev_lcmp d_Mo_isClear_79 ?_
            refine ez_lif_ne (tgt := 87) (by omega) (by omega) d_Mo_isClear_80 rfl (fun c80 => ?_) (fun c80 => ?_)
            · refine ev_iconst (v := iZ 0) d_Mo_isClear_87 rfl ?_
              refine ev_istore (L' := [(0, .ref m), (1, .long (lZ e)), (3, .int (iZ 0)), (4, .int (iZ 0)), (5, .int (iZ (k : Int)))]) d_Mo_isClear_88 (by decide) rfl ?_
              refine ez_iinc (L' := [(0, .ref m), (1, .long (lZ e)), (3, .int (iZ 0)), (4, .int (iZ 0)), (5, .int (iZ ((k + 1 : Nat) : Int)))]) d_Mo_isClear_90 rfl (by decide) rfl ?_
              refine ev_goto (tgt := 8) d_Mo_isClear_93 rfl ?_
              have h1 : ((0 : Int) = 0 ∧ ∀ j, j < k + 1 → ¬ ((e - U j).natAbs : Int) ≤ 7) ∨ ((0 : Int) = 1 ∧ ∃ j, j < k + 1 ∧ ((e - U j).natAbs : Int) ≤ 7) := Or.inl ⟨rfl, fun j hj => by rcases hnr with ⟨q1, q2⟩ | ⟨q1, _⟩; rcases Nat.lt_succ_iff_lt_or_eq.mp hj with w | rfl; exact q2 j w; omega; omega⟩
              have h2 : ((0 : Int) = 0 ∧ ∀ j, j < k + 1 → ¬ U j - 2 = e) ∨ ((0 : Int) = 1 ∧ ∃ j, j < k + 1 ∧ U j - 2 = e) := by clear h1 hnr; exact Or.inl ⟨rfl, fun j hj => by rcases hbf with ⟨q1, q2⟩ | ⟨q1, _⟩; rcases Nat.lt_succ_iff_lt_or_eq.mp hj with w | rfl; exact q2 j w; omega; omega⟩
              exact ih (d - 1) (by omega) (k + 1) 0 0 (by omega) h1 h2
            · refine ev_iconst (v := iZ 1) d_Mo_isClear_83 rfl ?_
              refine ev_goto (tgt := 88) d_Mo_isClear_84 rfl ?_
              refine ev_istore (L' := [(0, .ref m), (1, .long (lZ e)), (3, .int (iZ 0)), (4, .int (iZ 1)), (5, .int (iZ (k : Int)))]) d_Mo_isClear_88 (by decide) rfl ?_
              refine ez_iinc (L' := [(0, .ref m), (1, .long (lZ e)), (3, .int (iZ 0)), (4, .int (iZ 1)), (5, .int (iZ ((k + 1 : Nat) : Int)))]) d_Mo_isClear_90 rfl (by decide) rfl ?_
              refine ev_goto (tgt := 8) d_Mo_isClear_93 rfl ?_
              have h1 : ((0 : Int) = 0 ∧ ∀ j, j < k + 1 → ¬ ((e - U j).natAbs : Int) ≤ 7) ∨ ((0 : Int) = 1 ∧ ∃ j, j < k + 1 ∧ ((e - U j).natAbs : Int) ≤ 7) := Or.inl ⟨rfl, fun j hj => by rcases hnr with ⟨q1, q2⟩ | ⟨q1, _⟩; rcases Nat.lt_succ_iff_lt_or_eq.mp hj with w | rfl; exact q2 j w; omega; omega⟩
              have h2 : ((1 : Int) = 0 ∧ ∀ j, j < k + 1 → ¬ U j - 2 = e) ∨ ((1 : Int) = 1 ∧ ∃ j, j < k + 1 ∧ U j - 2 = e) := by clear h1 hnr; exact Or.inr ⟨rfl, by rcases hbf with ⟨q1, q2⟩ | ⟨q1, j, q2, q3⟩; exact ⟨k, by omega, by omega⟩; exact ⟨j, by omega, q3⟩⟩
              exact ih (d - 1) (by omega) (k + 1) 0 1 (by omega) h1 h2
        · refine ev_iconst (v := iZ 1) d_Mo_isClear_55 rfl ?_
          refine ev_goto (tgt := 60) d_Mo_isClear_56 rfl ?_
          refine ev_istore_n (L' := [(0, .ref m), (1, .long (lZ e)), (3, .int (iZ 1)), (4, .int (iZ bf)), (5, .int (iZ (k : Int)))]) d_Mo_isClear_60 rfl (by decide) rfl ?_
          refine ev_iload d_Mo_isClear_61 rfl ?_
          refine ez_if_ne (tgt := 83) (by omega) d_Mo_isClear_63 rfl (fun c63 => ?_) (fun c63 => ?_)
          · refine ev_iconst (v := iZ 1) d_Mo_isClear_83 rfl ?_
            refine ev_goto (tgt := 88) d_Mo_isClear_84 rfl ?_
            refine ev_istore (L' := [(0, .ref m), (1, .long (lZ e)), (3, .int (iZ 1)), (4, .int (iZ 1)), (5, .int (iZ (k : Int)))]) d_Mo_isClear_88 (by decide) rfl ?_
            refine ez_iinc (L' := [(0, .ref m), (1, .long (lZ e)), (3, .int (iZ 1)), (4, .int (iZ 1)), (5, .int (iZ ((k + 1 : Nat) : Int)))]) d_Mo_isClear_90 rfl (by decide) rfl ?_
            refine ev_goto (tgt := 8) d_Mo_isClear_93 rfl ?_
            have h1 : ((1 : Int) = 0 ∧ ∀ j, j < k + 1 → ¬ ((e - U j).natAbs : Int) ≤ 7) ∨ ((1 : Int) = 1 ∧ ∃ j, j < k + 1 ∧ ((e - U j).natAbs : Int) ≤ 7) := Or.inr ⟨rfl, by rcases hnr with ⟨q1, q2⟩ | ⟨q1, j, q2, q3⟩; exact ⟨k, by omega, by omega⟩; exact ⟨j, by omega, q3⟩⟩
            have h2 : ((1 : Int) = 0 ∧ ∀ j, j < k + 1 → ¬ U j - 2 = e) ∨ ((1 : Int) = 1 ∧ ∃ j, j < k + 1 ∧ U j - 2 = e) := by clear h1 hnr; exact Or.inr ⟨rfl, by rcases hbf with ⟨q1, q2⟩ | ⟨q1, j, q2, q3⟩; exact ⟨k, by omega, by omega⟩; exact ⟨j, by omega, q3⟩⟩
            exact ih (d - 1) (by omega) (k + 1) 1 1 (by omega) h1 h2
          · refine ev_lload_n d_Mo_isClear_66 rfl rfl ?_
            refine ev_ldc2 (v := lZ 2) d_Mo_isClear_67 kc_Mo_84 ?_
            refine ez_ladd d_Mo_isClear_70 ?_
            refine ev_aload_n d_Mo_isClear_71 rfl rfl ?_
            refine ev_getF d_Mo_isClear_72 fl_Mo_60 hm (by decide) f26 ?_
            refine ev_iload d_Mo_isClear_75 rfl ?_
            refine ez_iaload k d_Mo_isClear_77 hus (by omega) (by omega) (by decide) ?_
            refine ez_i2l (by omega) d_Mo_isClear_78 ?_
            refine ev_lcmp d_Mo_isClear_79 ?_
            refine ez_lif_ne (tgt := 87) (by omega) (by omega) d_Mo_isClear_80 rfl (fun c80 => ?_) (fun c80 => ?_)
            · refine ev_iconst (v := iZ 0) d_Mo_isClear_87 rfl ?_
              refine ev_istore (L' := [(0, .ref m), (1, .long (lZ e)), (3, .int (iZ 1)), (4, .int (iZ 0)), (5, .int (iZ (k : Int)))]) d_Mo_isClear_88 (by decide) rfl ?_
              refine ez_iinc (L' := [(0, .ref m), (1, .long (lZ e)), (3, .int (iZ 1)), (4, .int (iZ 0)), (5, .int (iZ ((k + 1 : Nat) : Int)))]) d_Mo_isClear_90 rfl (by decide) rfl ?_
              refine ev_goto (tgt := 8) d_Mo_isClear_93 rfl ?_
              have h1 : ((1 : Int) = 0 ∧ ∀ j, j < k + 1 → ¬ ((e - U j).natAbs : Int) ≤ 7) ∨ ((1 : Int) = 1 ∧ ∃ j, j < k + 1 ∧ ((e - U j).natAbs : Int) ≤ 7) := Or.inr ⟨rfl, by rcases hnr with ⟨q1, q2⟩ | ⟨q1, j, q2, q3⟩; exact ⟨k, by omega, by omega⟩; exact ⟨j, by omega, q3⟩⟩
              have h2 : ((0 : Int) = 0 ∧ ∀ j, j < k + 1 → ¬ U j - 2 = e) ∨ ((0 : Int) = 1 ∧ ∃ j, j < k + 1 ∧ U j - 2 = e) := by clear h1 hnr; exact Or.inl ⟨rfl, fun j hj => by rcases hbf with ⟨q1, q2⟩ | ⟨q1, _⟩; rcases Nat.lt_succ_iff_lt_or_eq.mp hj with w | rfl; exact q2 j w; omega; omega⟩
              exact ih (d - 1) (by omega) (k + 1) 1 0 (by omega) h1 h2
            · refine ev_iconst (v := iZ 1) d_Mo_isClear_83 rfl ?_
              refine ev_goto (tgt := 88) d_Mo_isClear_84 rfl ?_
              refine ev_istore (L' := [(0, .ref m), (1, .long (lZ e)), (3, .int (iZ 1)), (4, .int (iZ 1)), (5, .int (iZ (k : Int)))]) d_Mo_isClear_88 (by decide) rfl ?_
              refine ez_iinc (L' := [(0, .ref m), (1, .long (lZ e)), (3, .int (iZ 1)), (4, .int (iZ 1)), (5, .int (iZ ((k + 1 : Nat) : Int)))]) d_Mo_isClear_90 rfl (by decide) rfl ?_
              refine ev_goto (tgt := 8) d_Mo_isClear_93 rfl ?_
              have h1 : ((1 : Int) = 0 ∧ ∀ j, j < k + 1 → ¬ ((e - U j).natAbs : Int) ≤ 7) ∨ ((1 : Int) = 1 ∧ ∃ j, j < k + 1 ∧ ((e - U j).natAbs : Int) ≤ 7) := Or.inr ⟨rfl, by rcases hnr with ⟨q1, q2⟩ | ⟨q1, j, q2, q3⟩; exact ⟨k, by omega, by omega⟩; exact ⟨j, by omega, q3⟩⟩
              have h2 : ((1 : Int) = 0 ∧ ∀ j, j < k + 1 → ¬ U j - 2 = e) ∨ ((1 : Int) = 1 ∧ ∃ j, j < k + 1 ∧ U j - 2 = e) := by clear h1 hnr; exact Or.inr ⟨rfl, by rcases hbf with ⟨q1, q2⟩ | ⟨q1, j, q2, q3⟩; exact ⟨k, by omega, by omega⟩; exact ⟨j, by omega, q3⟩⟩
              exact ih (d - 1) (by omega) (k + 1) 1 1 (by omega) h1 h2
set_option maxHeartbeats 4000000 in
set_option maxRecDepth 100000 in
theorem c_Mo_isClear (G : GT) (h : HM) (σ : Nat → Value) (m us : Nat) (e : Int) (nu : Nat) (U : Nat → Int) (hm : h m = some (.inr (11, fsN 34 σ))) (f25 : σ 25 = .int (iZ (nu : Int))) (f26 : σ 26 = .ref us) (hus : h us = some (.inl (G_i G, 20, .inl (iA U)))) (hnu : nu ≤ 20) (hU : ∀ k, k < nu → 0 ≤ U k ∧ U k ≤ 216000) (he : -1000000 ≤ e ∧ e ≤ 1000000) : Rn G M_Mo_isClear (rm 0 0) [.ref m, .long (lZ e)] h (Pu (.int (iZ (clrZ U nu e))) h) := by
  refine rn_of (by decide) (Nat.le_of_ble_eq_true rfl) ?_
  show Ev G M_Mo_isClear _ _ 0 [(0, .ref m), (1, .long (lZ e))] [] _ 0 0
  refine ev_iconst (v := iZ 0) d_Mo_isClear_0 rfl ?_
  refine ev_istore_n (L' := [(0, .ref m), (1, .long (lZ e)), (3, .int (iZ 0))]) d_Mo_isClear_1 rfl (by decide) rfl ?_
  refine ev_iconst (v := iZ 0) d_Mo_isClear_2 rfl ?_
  refine ev_istore (L' := [(0, .ref m), (1, .long (lZ e)), (3, .int (iZ 0)), (4, .int (iZ 0))]) d_Mo_isClear_3 (by decide) rfl ?_
  refine ev_iconst (v := iZ 0) d_Mo_isClear_5 rfl ?_
  refine ev_istore (L' := [(0, .ref m), (1, .long (lZ e)), (3, .int (iZ 0)), (4, .int (iZ 0)), (5, .int (iZ 0))]) d_Mo_isClear_6 (by decide) rfl ?_
  exact lp_Mo_clear G h σ m us e nu U hm f25 f26 hus hnu hU he nu 0 0 0 (by omega) (Or.inl ⟨rfl, fun j hj => absurd hj (by omega)⟩) (Or.inl ⟨rfl, fun j hj => absurd hj (by omega)⟩)
set_option maxHeartbeats 4000000 in
set_option maxRecDepth 100000 in
theorem c_Mo_away (G : GT) (h : HM) (a b : Int) (ha : -1000000000 ≤ a ∧ a ≤ 1000000000) (hb : -1000000000 ≤ b ∧ b ≤ 1000000000) : Rn G M_Mo_away (rm 0 0) [.long (lZ a), .long (lZ b)] h (Pu (.long (lZ ((a - b).natAbs : Int))) h) := by
  refine rn_of (by decide) (Nat.le_of_ble_eq_true rfl) ?_
  show Ev G M_Mo_away _ _ 0 [(0, .long (lZ a)), (2, .long (lZ b))] [] _ 0 0
  refine ev_lload_n d_Mo_away_0 rfl rfl ?_
  refine ev_lload_n d_Mo_away_1 rfl rfl ?_
  refine ev_lcmp d_Mo_away_2 ?_
  refine ez_lif_ge (tgt := 12) (by omega) (by omega) d_Mo_away_3 rfl (fun c3 => ?_) (fun c3 => ?_)
  · refine ev_lload_n d_Mo_away_12 rfl rfl ?_
    refine ev_lload_n d_Mo_away_13 rfl rfl ?_
    refine ez_lsub d_Mo_away_14 ?_
    exact ev_lreturn d_Mo_away_15 rfl (by decide) (by decide) (⟨by rw [show ((a - b).natAbs : Int) = a - b from by omega], rfl⟩)
  · refine ev_lload_n d_Mo_away_6 rfl rfl ?_
    refine ev_lload_n d_Mo_away_7 rfl rfl ?_
    refine ez_lsub d_Mo_away_8 ?_
    refine ev_goto (tgt := 15) d_Mo_away_9 rfl ?_
    exact ev_lreturn d_Mo_away_15 rfl (by decide) (by decide) (⟨by rw [show ((a - b).natAbs : Int) = b - a from by omega], rfl⟩)
set_option maxHeartbeats 4000000 in
set_option maxRecDepth 100000 in
theorem c_Mo_lasts (G : GT) (h : HM) (σ : Nat → Value) (m s3 s4 us n i : Nat) (S1 S2 S3 S4 : Nat → Int) (num den tk g0 l0 m0 s0 : Int) (U : Nat → Int) (nu : Nat) (s e : Int) (hm : h m = some (.inr (11, fsN 34 σ))) (f2 : σ 2 = .int (iZ num)) (f3 : σ 3 = .int (iZ den)) (f7 : σ 7 = .ref s3) (f8 : σ 8 = .ref s4) (f25 : σ 25 = .int (iZ (nu : Int))) (f26 : σ 26 = .ref us) (f28 : σ 28 = .int (iZ l0)) (f29 : σ 29 = .int (iZ m0)) (f30 : σ 30 = .int (iZ s0)) (hs3 : h s3 = some (.inl (G_i G, 16, .inl (iA S3)))) (hs4 : h s4 = some (.inl (G_i G, 1024, .inl (iA S4)))) (hus : h us = some (.inl (G_i G, 20, .inl (iA U)))) (hi : i < n) (hn : n ≤ 16) (hZ : ∀ k, 0 ≤ S3 k ∧ S3 k ≤ 64) (hB : ∀ k, 0 ≤ S4 k ∧ S4 k ≤ 255) (hnu : nu ≤ 20) (hU : ∀ k, k < nu → 0 ≤ U k ∧ U k ≤ 216000) (hnum : 1 ≤ num ∧ num ≤ 120000) (hden : 1 ≤ den ∧ den ≤ 1001) (htk : tk = 705600000 * den / num) (htr : 11760000 ≤ tk ∧ tk ≤ 705600000) (hl : 1 ≤ l0 ∧ l0 ≤ 100) (hm0 : 0 ≤ m0 ∧ m0 ≤ 400) (hs : 1 ≤ s0 ∧ s0 ≤ 60) (hss : -1000000 ≤ s ∧ s ≤ 1000000) (he : -1000000 ≤ e ∧ e ≤ 1000000) : Rn G M_Mo_lasts (rm 2 60) [.ref m, .int (iZ (i : Int)), .long (lZ s), .long (lZ e)] h (Pu (.int (iZ (lgZ (rpP n S1 S2 S3 S4 num den tk g0 l0 m0 s0 U nu) i s e))) h) := by
  refine rn_of (by decide) (Nat.le_of_ble_eq_true rfl) ?_
  show Ev G M_Mo_lasts _ _ 0 [(0, .ref m), (1, .int (iZ (i : Int))), (2, .long (lZ s)), (4, .long (lZ e))] [] _ 0 0
  have z0 := hZ i
  have cr := cellsN_r S4 (i * 64) (S3 i).toNat
  have hcc : ccF S3 S4 n i = cellsN S4 (i * 64) (S3 i).toNat := if_pos hi
  have u1 := mulB (x := e) (y := tk) (L := 1000000) (M := 705600000) (by omega) (by omega) (by omega) (by omega)
  have u2 := mulB (x := cellsN S4 (i * 64) (S3 i).toNat) (y := num) (L := 128) (M := 120000) (by omega) (by omega) (by omega) (by omega)
  have u3 := mulB (x := e - s) (y := s0) (L := 2000000) (M := 60) (by omega) (by omega) (by omega) (by omega)
  rw [Int.mul_comm (e - s) s0] at u3
  have u4 := mulB (x := s0 * (e - s)) (y := den) (L := 120000000) (M := 1001) (by omega) (by omega) (by omega) (by omega)
  refine ev_lload_n d_Mo_lasts_0 rfl rfl ?_
  refine ev_lconst (v := lZ 0) d_Mo_lasts_1 rfl ?_
  refine ev_lcmp d_Mo_lasts_2 ?_
  refine ez_lif_lt (tgt := 98) (by omega) (by decide) d_Mo_lasts_3 rfl (fun c3 => ?_) (fun c3 => ?_)
  · refine ev_iconst (v := iZ 0) d_Mo_lasts_98 rfl ?_
    have nl : ¬ (rpP n S1 S2 S3 S4 num den tk g0 l0 m0 s0 U nu).1 i s e := by
      rintro ⟨w1, w2, w3, w4, w5, w6⟩
      rw [hcc] at w5
      omega
    exact ev_zreturn d_Mo_lasts_99 rfl (Or.inl rfl) (by decide) (by decide) (⟨by rw [lgZ_0 nl], rfl⟩)
  · refine ev_lload d_Mo_lasts_6 rfl ?_
    refine ev_aload_n d_Mo_lasts_8 rfl rfl ?_
    refine ev_pV M_Mo_frame 0 0 (As := []) (c_Mo_frame G h σ m num den hm f2 f3 hnum hden) d_Mo_lasts_9 mk_Mo_frame ml_Mo_134 mv_Mo_frame hm rfl rfl rfl (Nat.le_of_ble_eq_true rfl) ⟨by decide, by decide⟩ ⟨by decide, by decide⟩ ?_
    rw [← htk]
    refine ez_lmul d_Mo_lasts_12 ?_
    refine ev_ldc2 (v := lZ 2540160000000) d_Mo_lasts_13 kc_Mo_171 ?_
    refine ev_lcmp d_Mo_lasts_16 ?_
    refine ez_lif_gt (tgt := 98) (by omega) (by decide) d_Mo_lasts_17 rfl (fun c17 => ?_) (fun c17 => ?_)
    · refine ev_iconst (v := iZ 0) d_Mo_lasts_98 rfl ?_
      have nl : ¬ (rpP n S1 S2 S3 S4 num den tk g0 l0 m0 s0 U nu).1 i s e := by
        rintro ⟨w1, w2, w3, w4, w5, w6⟩
        rw [hcc] at w5
        omega
      exact ev_zreturn d_Mo_lasts_99 rfl (Or.inl rfl) (by decide) (by decide) (⟨by rw [lgZ_0 nl], rfl⟩)
    · refine ev_lload d_Mo_lasts_20 rfl ?_
      refine ev_lload_n d_Mo_lasts_22 rfl rfl ?_
      refine ez_lsub d_Mo_lasts_23 ?_
      refine ev_aload_n d_Mo_lasts_24 rfl rfl ?_
      refine ev_getF d_Mo_lasts_25 fl_Mo_66 hm (by decide) f28 ?_
      refine ez_i2l (by omega) d_Mo_lasts_28 ?_
      refine ev_lcmp d_Mo_lasts_29 ?_
      refine ez_lif_lt (tgt := 98) (by omega) (by omega) d_Mo_lasts_30 rfl (fun c30 => ?_) (fun c30 => ?_)
      · refine ev_iconst (v := iZ 0) d_Mo_lasts_98 rfl ?_
        have nl : ¬ (rpP n S1 S2 S3 S4 num den tk g0 l0 m0 s0 U nu).1 i s e := by
          rintro ⟨w1, w2, w3, w4, w5, w6⟩
          rw [hcc] at w5
          omega
        exact ev_zreturn d_Mo_lasts_99 rfl (Or.inl rfl) (by decide) (by decide) (⟨by rw [lgZ_0 nl], rfl⟩)
      · refine ev_lload d_Mo_lasts_33 rfl ?_
        refine ev_lload_n d_Mo_lasts_35 rfl rfl ?_
        refine ez_lsub d_Mo_lasts_36 ?_
        refine ev_aload_n d_Mo_lasts_37 rfl rfl ?_
        refine ev_getF d_Mo_lasts_38 fl_Mo_69 hm (by decide) f29 ?_
        refine ez_i2l (by omega) d_Mo_lasts_41 ?_
        refine ev_lcmp d_Mo_lasts_42 ?_
        refine ez_lif_gt (tgt := 98) (by omega) (by omega) d_Mo_lasts_43 rfl (fun c43 => ?_) (fun c43 => ?_)
        · refine ev_iconst (v := iZ 0) d_Mo_lasts_98 rfl ?_
          have nl : ¬ (rpP n S1 S2 S3 S4 num den tk g0 l0 m0 s0 U nu).1 i s e := by
            rintro ⟨w1, w2, w3, w4, w5, w6⟩
            rw [hcc] at w5
            omega
          exact ev_zreturn d_Mo_lasts_99 rfl (Or.inl rfl) (by decide) (by decide) (⟨by rw [lgZ_0 nl], rfl⟩)
        · refine ev_aload_n d_Mo_lasts_46 rfl rfl ?_
          refine ev_iload_n d_Mo_lasts_47 rfl rfl ?_
          refine ev_iconst (v := iZ 0) d_Mo_lasts_48 rfl ?_
          refine ev_aload_n d_Mo_lasts_49 rfl rfl ?_
          refine ev_getF d_Mo_lasts_50 fl_Mo_27 hm (by decide) f7 ?_
          refine ev_iload_n d_Mo_lasts_53 rfl rfl ?_
          refine ez_iaload i d_Mo_lasts_54 hs3 (by omega) (by omega) (by decide) ?_
          refine ev_top (((S3 i).toNat : Int)) (by omega) ?_
          refine ev_pV M_Mo_cells 1 22 (As := [.int (iZ (i : Int)), .int (iZ 0), .int (iZ ((S3 i).toNat : Int))]) (c_Mo_cells G h σ m s4 S4 hm f8 hs4 i 0 (S3 i).toNat (by omega) (by omega) hB) d_Mo_lasts_55 mk_Mo_cells ml_Mo_222 mv_Mo_cells hm rfl rfl rfl (Nat.le_of_ble_eq_true rfl) ⟨by decide, by decide⟩ ⟨by decide, by decide⟩ ?_
          refine ev_top (cellsN S4 (i * 64) (S3 i).toNat) (rfl) ?_
          refine ez_i2l (by omega) d_Mo_lasts_58 ?_
          refine ev_aload_n d_Mo_lasts_59 rfl rfl ?_
          refine ev_getF d_Mo_lasts_60 fl_Mo_13 hm (by decide) f2 ?_
          refine ez_i2l (by omega) d_Mo_lasts_63 ?_
          refine ez_lmul d_Mo_lasts_64 ?_
          refine ev_aload_n d_Mo_lasts_65 rfl rfl ?_
          refine ev_getF d_Mo_lasts_66 fl_Mo_72 hm (by decide) f30 ?_
          refine ez_i2l (by omega) d_Mo_lasts_69 ?_
          refine ev_lload d_Mo_lasts_70 rfl ?_
          refine ev_lload_n d_Mo_lasts_72 rfl rfl ?_
          refine ez_lsub d_Mo_lasts_73 ?_
          refine ez_lmul d_Mo_lasts_74 ?_
          refine ev_aload_n d_Mo_lasts_75 rfl rfl ?_
          refine ev_getF d_Mo_lasts_76 fl_Mo_17 hm (by decide) f3 ?_
          refine ez_i2l (by omega) d_Mo_lasts_79 ?_
          refine ez_lmul d_Mo_lasts_80 ?_
          refine ev_lcmp d_Mo_lasts_81 ?_
          refine ez_lif_gt (tgt := 98) (by omega) (by omega) d_Mo_lasts_82 rfl (fun c82 => ?_) (fun c82 => ?_)
          · refine ev_iconst (v := iZ 0) d_Mo_lasts_98 rfl ?_
            have nl : ¬ (rpP n S1 S2 S3 S4 num den tk g0 l0 m0 s0 U nu).1 i s e := by
              rintro ⟨w1, w2, w3, w4, w5, w6⟩
              rw [hcc] at w5
              omega
            exact ev_zreturn d_Mo_lasts_99 rfl (Or.inl rfl) (by decide) (by decide) (⟨by rw [lgZ_0 nl], rfl⟩)
          · refine ev_aload_n d_Mo_lasts_85 rfl rfl ?_
            refine ev_lload d_Mo_lasts_86 rfl ?_
            have cz := clrZ_r U nu e
            refine ev_pV M_Mo_isClear 0 0 (As := [.long (lZ e)]) (c_Mo_isClear G h σ m us e nu U hm f25 f26 hus hnu hU he) d_Mo_lasts_88 mk_Mo_isClear ml_Mo_232 mv_Mo_isClear hm rfl rfl rfl (Nat.le_of_ble_eq_true rfl) ⟨by decide, by decide⟩ ⟨by decide, by decide⟩ ?_
            refine ez_if_eq (tgt := 98) (by omega) d_Mo_lasts_91 rfl (fun c91 => ?_) (fun c91 => ?_)
            · refine ev_iconst (v := iZ 0) d_Mo_lasts_98 rfl ?_
              have nl : ¬ (rpP n S1 S2 S3 S4 num den tk g0 l0 m0 s0 U nu).1 i s e := by
                rintro ⟨w1, w2, w3, w4, w5, w6⟩
                rw [hcc] at w5
                exact absurd c91 (clrZ_i.mpr w6)
              exact ev_zreturn d_Mo_lasts_99 rfl (Or.inl rfl) (by decide) (by decide) (⟨by rw [lgZ_0 nl], rfl⟩)
            · refine ev_iconst (v := iZ 1) d_Mo_lasts_94 rfl ?_
              refine ev_goto (tgt := 99) d_Mo_lasts_95 rfl ?_
              exact ev_zreturn d_Mo_lasts_99 rfl (Or.inr rfl) (by decide) (by decide) (⟨by rw [lgZ_1 (show (rpP n S1 S2 S3 S4 num den tk g0 l0 m0 s0 U nu).1 i s e from ⟨by omega, by omega, by omega, by omega, by rw [hcc]; omega, clrZ_i.mp c91⟩)], rfl⟩)
set_option maxHeartbeats 4000000 in
set_option maxRecDepth 100000 in
theorem lp_Mo_better (G : GT) (h : HM) (σ : Nat → Value) (m v1 v2 i a b q : Nat) (S W : Nat → Int) (hm : h m = some (.inr (11, fsN 34 σ))) (f31 : σ 31 = .ref v1) (f32 : σ 32 = .ref v2) (hv1 : h v1 = some (.inl (G_i G, 194, .inl (iA S)))) (hv2 : h v2 = some (.inl (G_i G, 3104, .inl (iA W)))) (hi : i < 16) (hq : q = i % 2 * 97) (ha : a < 97) (hb : b < 97) (hS : ∀ k, -1 ≤ S k ∧ S k ≤ 100000) (hW : ∀ k, 0 ≤ W k ∧ W k ≤ 100000) (hse : S (q + a) = S (q + b)) : ∀ (d : Nat) (c : Nat), c + d = i + 1 → (∀ x, x < c → wX W (q + a) x = wX W (q + b) x) → Ev G M_Mo_isBetter (rm 0 0) (Pu (.int (iZ (btZ S W (i + 1) (q + a) (q + b)))) h) 59 [(0, .ref m), (1, .int (iZ (i : Int))), (2, .int (iZ (a : Int))), (3, .int (iZ (b : Int))), (4, .int (iZ (q : Int))), (5, .int (iZ (c : Int)))] [] h 0 0 := by
  intro d
  induction d using Nat.strongRecOn with
  | ind d ih =>
  intro c hd hq2
  have wa := hW (16 * (q + a) + c)
  have wb := hW (16 * (q + b) + c)
  refine ev_iload d_Mo_isBetter_59 rfl ?_
  refine ev_iload_n d_Mo_isBetter_61 rfl rfl ?_
  refine ez_icmp_gt (tgt := 125) (by omega) (by omega) d_Mo_isBetter_62 rfl (fun c62 => ?_) (fun c62 => ?_)
  · refine ev_iconst (v := iZ 0) d_Mo_isBetter_125 rfl ?_
    have nb : ¬ btP S W (i + 1) (q + a) (q + b) := by
      rintro (w | ⟨_, x, x1, x2, x3⟩)
      · omega
      · replace x3 : (W (16 * (q + a) + x)).toNat < (W (16 * (q + b) + x)).toNat := x3
        rcases Nat.lt_trichotomy x c with y | y | y
        · have := hq2 x y
          replace this : (W (16 * (q + a) + x)).toNat = (W (16 * (q + b) + x)).toNat := this
          omega
        · subst y
          omega
        · have := x2 c y
          replace this : (W (16 * (q + a) + c)).toNat = (W (16 * (q + b) + c)).toNat := this
          omega
    exact ev_zreturn d_Mo_isBetter_126 rfl (Or.inl rfl) (by decide) (by decide) (⟨by rw [btZ_0 nb], rfl⟩)
  · refine ev_aload_n d_Mo_isBetter_65 rfl rfl ?_
    refine ev_getF d_Mo_isBetter_66 fl_Mo_78 hm (by decide) f32 ?_
    refine ev_bipush (v := iZ 16) d_Mo_isBetter_69 rfl ?_
    refine ev_iload d_Mo_isBetter_71 rfl ?_
    refine ev_iload_n d_Mo_isBetter_73 rfl rfl ?_
    refine ez_iadd d_Mo_isBetter_74 ?_
    refine ez_imul d_Mo_isBetter_75 ?_
    refine ev_iload d_Mo_isBetter_76 rfl ?_
    refine ez_iadd d_Mo_isBetter_78 ?_
    refine ez_iaload (16 * (q + a) + c) d_Mo_isBetter_79 hv2 (by omega) (by omega) (by decide) ?_
    have rg79 := hW (16 * (q + a) + c)
    refine ev_istore (L' := [(0, .ref m), (1, .int (iZ (i : Int))), (2, .int (iZ (a : Int))), (3, .int (iZ (b : Int))), (4, .int (iZ (q : Int))), (5, .int (iZ (c : Int))), (6, .int (iZ (W (16 * (q + a) + c))))]) d_Mo_isBetter_80 (by decide) rfl ?_
    refine ev_aload_n d_Mo_isBetter_82 rfl rfl ?_
    refine ev_getF d_Mo_isBetter_83 fl_Mo_78 hm (by decide) f32 ?_
    refine ev_bipush (v := iZ 16) d_Mo_isBetter_86 rfl ?_
    refine ev_iload d_Mo_isBetter_88 rfl ?_
    refine ev_iload_n d_Mo_isBetter_90 rfl rfl ?_
    refine ez_iadd d_Mo_isBetter_91 ?_
    refine ez_imul d_Mo_isBetter_92 ?_
    refine ev_iload d_Mo_isBetter_93 rfl ?_
    refine ez_iadd d_Mo_isBetter_95 ?_
    refine ez_iaload (16 * (q + b) + c) d_Mo_isBetter_96 hv2 (by omega) (by omega) (by decide) ?_
    have rg96 := hW (16 * (q + b) + c)
    refine ev_istore (L' := [(0, .ref m), (1, .int (iZ (i : Int))), (2, .int (iZ (a : Int))), (3, .int (iZ (b : Int))), (4, .int (iZ (q : Int))), (5, .int (iZ (c : Int))), (6, .int (iZ (W (16 * (q + a) + c)))), (7, .int (iZ (W (16 * (q + b) + c))))]) d_Mo_isBetter_97 (by decide) rfl ?_
    refine ev_iload d_Mo_isBetter_99 rfl ?_
    refine ev_iload d_Mo_isBetter_101 rfl ?_
    refine ez_icmp_eq (tgt := 119) (by omega) (by omega) d_Mo_isBetter_103 rfl (fun c103 => ?_) (fun c103 => ?_)
    · refine ez_iinc (L' := [(0, .ref m), (1, .int (iZ (i : Int))), (2, .int (iZ (a : Int))), (3, .int (iZ (b : Int))), (4, .int (iZ (q : Int))), (5, .int (iZ ((c + 1 : Nat) : Int))), (6, .int (iZ (W (16 * (q + a) + c)))), (7, .int (iZ (W (16 * (q + b) + c))))]) d_Mo_isBetter_119 rfl (by decide) rfl ?_
      refine ev_goto (tgt := 59) d_Mo_isBetter_122 rfl ?_
      refine ev_loc [(0, .ref m), (1, .int (iZ (i : Int))), (2, .int (iZ (a : Int))), (3, .int (iZ (b : Int))), (4, .int (iZ (q : Int))), (5, .int (iZ ((c + 1 : Nat) : Int)))] (by simp) ?_
      exact ih (d - 1) (by omega) (c + 1) (by omega) (fun x hx => by rcases Nat.lt_succ_iff_lt_or_eq.mp hx with w | rfl; exact hq2 x w; show (W _).toNat = (W _).toNat; rw [c103])
    · refine ev_iload d_Mo_isBetter_106 rfl ?_
      refine ev_iload d_Mo_isBetter_108 rfl ?_
      refine ez_icmp_ge (tgt := 117) (by omega) (by omega) d_Mo_isBetter_110 rfl (fun c110 => ?_) (fun c110 => ?_)
      · refine ev_iconst (v := iZ 0) d_Mo_isBetter_117 rfl ?_
        have nb : ¬ btP S W (i + 1) (q + a) (q + b) := by
          rintro (w | ⟨_, x, x1, x2, x3⟩)
          · omega
          · replace x3 : (W (16 * (q + a) + x)).toNat < (W (16 * (q + b) + x)).toNat := x3
            rcases Nat.lt_trichotomy x c with y | y | y
            · have := hq2 x y
              replace this : (W (16 * (q + a) + x)).toNat = (W (16 * (q + b) + x)).toNat := this
              omega
            · subst y
              omega
            · have := x2 c y
              replace this : (W (16 * (q + a) + c)).toNat = (W (16 * (q + b) + c)).toNat := this
              omega
        exact ev_zreturn d_Mo_isBetter_118 rfl (Or.inl rfl) (by decide) (by decide) (⟨by rw [btZ_0 nb], rfl⟩)
      · refine ev_iconst (v := iZ 1) d_Mo_isBetter_113 rfl ?_
        refine ev_goto (tgt := 118) d_Mo_isBetter_114 rfl ?_
        exact ev_zreturn d_Mo_isBetter_118 rfl (Or.inr rfl) (by decide) (by decide) (⟨by rw [btZ_1 (Or.inr ⟨hse, c, by omega, hq2, by show (W _).toNat < (W _).toNat; omega⟩)], rfl⟩)
set_option maxHeartbeats 4000000 in
set_option maxRecDepth 100000 in
theorem c_Mo_isBetter (G : GT) (h : HM) (σ : Nat → Value) (m v1 v2 i a b q : Nat) (S W : Nat → Int) (hm : h m = some (.inr (11, fsN 34 σ))) (f31 : σ 31 = .ref v1) (f32 : σ 32 = .ref v2) (hv1 : h v1 = some (.inl (G_i G, 194, .inl (iA S)))) (hv2 : h v2 = some (.inl (G_i G, 3104, .inl (iA W)))) (hi : i < 16) (hq : q = i % 2 * 97) (ha : a < 97) (hb : b < 97) (hS : ∀ k, -1 ≤ S k ∧ S k ≤ 100000) (hW : ∀ k, 0 ≤ W k ∧ W k ≤ 100000) : Rn G M_Mo_isBetter (rm 0 0) [.ref m, .int (iZ (i : Int)), .int (iZ (a : Int)), .int (iZ (b : Int))] h (Pu (.int (iZ (btZ S W (i + 1) (q + a) (q + b)))) h) := by
  refine rn_of (by decide) (Nat.le_of_ble_eq_true rfl) ?_
  show Ev G M_Mo_isBetter _ _ 0 [(0, .ref m), (1, .int (iZ (i : Int))), (2, .int (iZ (a : Int))), (3, .int (iZ (b : Int)))] [] _ 0 0
  refine ev_iload_n d_Mo_isBetter_0 rfl rfl ?_
  refine ev_iconst (v := iZ 2) d_Mo_isBetter_1 rfl ?_
  refine ez_irem (by omega) (by omega) (by omega) (by omega) d_Mo_isBetter_2 ?_
  refine ev_bipush (v := iZ 97) d_Mo_isBetter_3 rfl ?_
  refine ez_imul d_Mo_isBetter_5 ?_
  rw [show (((i : Int) % 2) * 97 : Int) = (q : Int) from by omega]
  refine ev_istore (L' := [(0, .ref m), (1, .int (iZ (i : Int))), (2, .int (iZ (a : Int))), (3, .int (iZ (b : Int))), (4, .int (iZ (q : Int)))]) d_Mo_isBetter_6 (by decide) rfl ?_
  refine ev_aload_n d_Mo_isBetter_8 rfl rfl ?_
  refine ev_getF d_Mo_isBetter_9 fl_Mo_75 hm (by decide) f31 ?_
  refine ev_iload d_Mo_isBetter_12 rfl ?_
  refine ev_iload_n d_Mo_isBetter_14 rfl rfl ?_
  refine ez_iadd d_Mo_isBetter_15 ?_
  refine ez_iaload (q + a) d_Mo_isBetter_16 hv1 (by omega) (by omega) (by decide) ?_
  have rg16 := hS (q + a)
  refine ev_aload_n d_Mo_isBetter_17 rfl rfl ?_
  refine ev_getF d_Mo_isBetter_18 fl_Mo_75 hm (by decide) f31 ?_
  refine ev_iload d_Mo_isBetter_21 rfl ?_
  refine ev_iload_n d_Mo_isBetter_23 rfl rfl ?_
  refine ez_iadd d_Mo_isBetter_24 ?_
  refine ez_iaload (q + b) d_Mo_isBetter_25 hv1 (by omega) (by omega) (by decide) ?_
  have rg25 := hS (q + b)
  refine ez_icmp_eq (tgt := 56) (by omega) (by omega) d_Mo_isBetter_26 rfl (fun c26 => ?_) (fun c26 => ?_)
  · refine ev_iconst (v := iZ 0) d_Mo_isBetter_56 rfl ?_
    refine ev_istore (L' := [(0, .ref m), (1, .int (iZ (i : Int))), (2, .int (iZ (a : Int))), (3, .int (iZ (b : Int))), (4, .int (iZ (q : Int))), (5, .int (iZ 0))]) d_Mo_isBetter_57 (by decide) rfl ?_
    exact lp_Mo_better G h σ m v1 v2 i a b q S W hm f31 f32 hv1 hv2 hi hq ha hb hS hW c26 (i + 1) 0 (by omega) (fun x hx => absurd hx (by omega))
  · refine ev_aload_n d_Mo_isBetter_29 rfl rfl ?_
    refine ev_getF d_Mo_isBetter_30 fl_Mo_75 hm (by decide) f31 ?_
    refine ev_iload d_Mo_isBetter_33 rfl ?_
    refine ev_iload_n d_Mo_isBetter_35 rfl rfl ?_
    refine ez_iadd d_Mo_isBetter_36 ?_
    refine ez_iaload (q + a) d_Mo_isBetter_37 hv1 (by omega) (by omega) (by decide) ?_
    have rg37 := hS (q + a)
    refine ev_aload_n d_Mo_isBetter_38 rfl rfl ?_
    refine ev_getF d_Mo_isBetter_39 fl_Mo_75 hm (by decide) f31 ?_
    refine ev_iload d_Mo_isBetter_42 rfl ?_
    refine ev_iload_n d_Mo_isBetter_44 rfl rfl ?_
    refine ez_iadd d_Mo_isBetter_45 ?_
    refine ez_iaload (q + b) d_Mo_isBetter_46 hv1 (by omega) (by omega) (by decide) ?_
    have rg46 := hS (q + b)
    refine ez_icmp_ge (tgt := 54) (by omega) (by omega) d_Mo_isBetter_47 rfl (fun c47 => ?_) (fun c47 => ?_)
    · refine ev_iconst (v := iZ 0) d_Mo_isBetter_54 rfl ?_
      exact ev_zreturn d_Mo_isBetter_55 rfl (Or.inl rfl) (by decide) (by decide) (⟨by rw [btZ_0 (show ¬ btP S W (i + 1) (q + a) (q + b) from fun w => by rcases w with w | ⟨w, _⟩ <;> omega)], rfl⟩)
    · refine ev_iconst (v := iZ 1) d_Mo_isBetter_50 rfl ?_
      refine ev_goto (tgt := 55) d_Mo_isBetter_51 rfl ?_
      exact ev_zreturn d_Mo_isBetter_55 rfl (Or.inr rfl) (by decide) (by decide) (⟨by rw [btZ_1 (Or.inl (by omega))], rfl⟩)
set_option maxHeartbeats 4000000 in
set_option maxRecDepth 100000 in
theorem lp_Mo_before (G : GT) (h : HM) (σ : Nat → Value) (m s2 v1 v2 i q : Nat) (S2 S W : Nat → Int) (num den tk g0 st : Int) (hm : h m = some (.inr (11, fsN 34 σ))) (f2 : σ 2 = .int (iZ num)) (f3 : σ 3 = .int (iZ den)) (f6 : σ 6 = .ref s2) (f27 : σ 27 = .int (iZ g0)) (f31 : σ 31 = .ref v1) (f32 : σ 32 = .ref v2) (hs2 : h s2 = some (.inl (G_j G, 16, .inr (.inl (lA S2))))) (hv1 : h v1 = some (.inl (G_i G, 194, .inl (iA S)))) (hv2 : h v2 = some (.inl (G_i G, 3104, .inl (iA W)))) (hi : i + 1 < 16) (hq : q = i % 2 * 97) (hS : ∀ k, -1 ≤ S k ∧ S k ≤ 100000) (hW : ∀ k, 0 ≤ W k ∧ W k ≤ 100000) (hE : ∀ k, 0 ≤ S2 k ∧ S2 k ≤ 2540160000000) (hnum : 1 ≤ num ∧ num ≤ 120000) (hden : 1 ≤ den ∧ den ≤ 1001) (htk : tk = 705600000 * den / num) (htr : 11760000 ≤ tk ∧ tk ≤ 705600000) (hg : 0 ≤ g0 ∧ g0 ≤ 20) (hst : -1000000 ≤ st ∧ st ≤ 1000000) : ∀ (d : Nat) (k : Nat) (b : Int), k + d = 97 → bbP S W (i + 1) q (fun j : Nat => nearZ (S2 i) tk - 48 + (j : Int) + g0 ≤ st) k b → Ev G M_Mo_bestBefore (rm 1 40) (fun r h' => ∃ b : Int, r = some (.int (iZ b)) ∧ h' = h ∧ bbP S W (i + 1) q (fun j : Nat => nearZ (S2 i) tk - 48 + (j : Int) + g0 ≤ st) 97 b) 27 [(0, .ref m), (1, .int (iZ ((i + 1 : Nat) : Int))), (2, .long (lZ st)), (4, .long (lZ (nearZ (S2 i) tk - 48))), (6, .int (iZ b)), (7, .int (iZ (k : Int)))] [] h 0 0 := by
  intro d
  induction d using Nat.strongRecOn with
  | ind d ih =>
  intro k b hd hb
  have e0 := hE i
  have ne := fra_r htr e0
  have br := bbP_r hb
  refine ev_iload d_Mo_bestBefore_27 rfl ?_
  refine ev_bipush (v := iZ 97) d_Mo_bestBefore_29 rfl ?_
  refine ez_icmp_ge (tgt := 116) (by omega) (by decide) d_Mo_bestBefore_31 rfl (fun c31 => ?_) (fun c31 => ?_)
  · refine ev_iload d_Mo_bestBefore_116 rfl ?_
    exact ev_ireturn d_Mo_bestBefore_118 rfl (by decide) (by decide) (⟨b, rfl, rfl, by rw [show (97 : Nat) = k from by omega]; exact hb⟩)
  · refine ev_aload_n d_Mo_bestBefore_34 rfl rfl ?_
    refine ev_getF d_Mo_bestBefore_35 fl_Mo_75 hm (by decide) f31 ?_
    refine ev_iload_n d_Mo_bestBefore_38 rfl rfl ?_
    refine ev_iconst (v := iZ 1) d_Mo_bestBefore_39 rfl ?_
    refine ez_isub d_Mo_bestBefore_40 ?_
    refine ev_iconst (v := iZ 2) d_Mo_bestBefore_41 rfl ?_
    refine ez_irem (by omega) (by omega) (by omega) (by omega) d_Mo_bestBefore_42 ?_
    refine ev_bipush (v := iZ 97) d_Mo_bestBefore_43 rfl ?_
    refine ez_imul d_Mo_bestBefore_45 ?_
    rw [show (((((i + 1 : Nat) : Int) - 1) % 2) * 97 : Int) = (q : Int) from by omega]
    refine ev_iload d_Mo_bestBefore_46 rfl ?_
    refine ez_iadd d_Mo_bestBefore_48 ?_
    refine ez_iaload (q + k) d_Mo_bestBefore_49 hv1 (by omega) (by omega) (by decide) ?_
    have rg49 := hS (q + k)
    refine ez_if_lt (tgt := 74) (by omega) d_Mo_bestBefore_50 rfl (fun c50 => ?_) (fun c50 => ?_)
    · refine ev_iconst (v := iZ 0) d_Mo_bestBefore_74 rfl ?_
      refine ev_istore (L' := [(0, .ref m), (1, .int (iZ ((i + 1 : Nat) : Int))), (2, .long (lZ st)), (4, .long (lZ (nearZ (S2 i) tk - 48))), (6, .int (iZ b)), (7, .int (iZ (k : Int))), (8, .int (iZ 0))]) d_Mo_bestBefore_75 (by decide) rfl ?_
      refine ev_iload d_Mo_bestBefore_77 rfl ?_
      refine ez_if_eq (tgt := 106) (by decide) d_Mo_bestBefore_79 rfl (fun c79 => ?_) (fun c79 => absurd c79 (by omega))
      refine ev_iload d_Mo_bestBefore_106 rfl ?_
      refine ev_istore (L' := [(0, .ref m), (1, .int (iZ ((i + 1 : Nat) : Int))), (2, .long (lZ st)), (4, .long (lZ (nearZ (S2 i) tk - 48))), (6, .int (iZ b)), (7, .int (iZ (k : Int))), (8, .int (iZ 0))]) d_Mo_bestBefore_108 (by decide) rfl ?_
      refine ez_iinc (L' := [(0, .ref m), (1, .int (iZ ((i + 1 : Nat) : Int))), (2, .long (lZ st)), (4, .long (lZ (nearZ (S2 i) tk - 48))), (6, .int (iZ b)), (7, .int (iZ ((k + 1 : Nat) : Int))), (8, .int (iZ 0))]) d_Mo_bestBefore_110 rfl (by decide) rfl ?_
      refine ev_goto (tgt := 27) d_Mo_bestBefore_113 rfl ?_
      refine ev_loc [(0, .ref m), (1, .int (iZ ((i + 1 : Nat) : Int))), (2, .long (lZ st)), (4, .long (lZ (nearZ (S2 i) tk - 48))), (6, .int (iZ b)), (7, .int (iZ ((k + 1 : Nat) : Int)))] (by simp) ?_
      exact ih (d - 1) (by omega) (k + 1) b (by omega) (bbP_no hb (fun w => absurd w.1 (by omega)))
    · refine ev_lload d_Mo_bestBefore_53 rfl ?_
      refine ev_iload d_Mo_bestBefore_55 rfl ?_
      refine ez_i2l (by omega) d_Mo_bestBefore_57 ?_
      refine ez_ladd d_Mo_bestBefore_58 ?_
      refine ev_aload_n d_Mo_bestBefore_59 rfl rfl ?_
      refine ev_getF d_Mo_bestBefore_60 fl_Mo_63 hm (by decide) f27 ?_
      refine ez_i2l (by omega) d_Mo_bestBefore_63 ?_
      refine ez_ladd d_Mo_bestBefore_64 ?_
      refine ev_lload_n d_Mo_bestBefore_65 rfl rfl ?_
      refine ev_lcmp d_Mo_bestBefore_66 ?_
      refine ez_lif_gt (tgt := 74) (by omega) (by omega) d_Mo_bestBefore_67 rfl (fun c67 => ?_) (fun c67 => ?_)
      · refine ev_iconst (v := iZ 0) d_Mo_bestBefore_74 rfl ?_
        refine ev_istore (L' := [(0, .ref m), (1, .int (iZ ((i + 1 : Nat) : Int))), (2, .long (lZ st)), (4, .long (lZ (nearZ (S2 i) tk - 48))), (6, .int (iZ b)), (7, .int (iZ (k : Int))), (8, .int (iZ 0))]) d_Mo_bestBefore_75 (by decide) rfl ?_
        refine ev_iload d_Mo_bestBefore_77 rfl ?_
        refine ez_if_eq (tgt := 106) (by decide) d_Mo_bestBefore_79 rfl (fun c79 => ?_) (fun c79 => absurd c79 (by omega))
        refine ev_iload d_Mo_bestBefore_106 rfl ?_
        refine ev_istore (L' := [(0, .ref m), (1, .int (iZ ((i + 1 : Nat) : Int))), (2, .long (lZ st)), (4, .long (lZ (nearZ (S2 i) tk - 48))), (6, .int (iZ b)), (7, .int (iZ (k : Int))), (8, .int (iZ 0))]) d_Mo_bestBefore_108 (by decide) rfl ?_
        refine ez_iinc (L' := [(0, .ref m), (1, .int (iZ ((i + 1 : Nat) : Int))), (2, .long (lZ st)), (4, .long (lZ (nearZ (S2 i) tk - 48))), (6, .int (iZ b)), (7, .int (iZ ((k + 1 : Nat) : Int))), (8, .int (iZ 0))]) d_Mo_bestBefore_110 rfl (by decide) rfl ?_
        refine ev_goto (tgt := 27) d_Mo_bestBefore_113 rfl ?_
        refine ev_loc [(0, .ref m), (1, .int (iZ ((i + 1 : Nat) : Int))), (2, .long (lZ st)), (4, .long (lZ (nearZ (S2 i) tk - 48))), (6, .int (iZ b)), (7, .int (iZ ((k + 1 : Nat) : Int)))] (by simp) ?_
        exact ih (d - 1) (by omega) (k + 1) b (by omega) (bbP_no hb (fun w => absurd (show nearZ (S2 i) tk - 48 + (k : Int) + g0 ≤ st from w.2) (by omega)))
      · refine ev_iconst (v := iZ 1) d_Mo_bestBefore_70 rfl ?_
        refine ev_goto (tgt := 75) d_Mo_bestBefore_71 rfl ?_
        refine ev_istore (L' := [(0, .ref m), (1, .int (iZ ((i + 1 : Nat) : Int))), (2, .long (lZ st)), (4, .long (lZ (nearZ (S2 i) tk - 48))), (6, .int (iZ b)), (7, .int (iZ (k : Int))), (8, .int (iZ 1))]) d_Mo_bestBefore_75 (by decide) rfl ?_
        refine ev_iload d_Mo_bestBefore_77 rfl ?_
        refine ez_if_eq (tgt := 106) (by decide) d_Mo_bestBefore_79 rfl (fun c79 => absurd c79 (by omega)) (fun c79 => ?_)
        refine ev_iload d_Mo_bestBefore_82 rfl ?_
        refine ez_if_lt (tgt := 101) (by omega) d_Mo_bestBefore_84 rfl (fun c84 => ?_) (fun c84 => ?_)
        · refine ev_iload d_Mo_bestBefore_101 rfl ?_
          refine ev_goto (tgt := 108) d_Mo_bestBefore_103 rfl ?_
          refine ev_istore (L' := [(0, .ref m), (1, .int (iZ ((i + 1 : Nat) : Int))), (2, .long (lZ st)), (4, .long (lZ (nearZ (S2 i) tk - 48))), (6, .int (iZ (k : Int))), (7, .int (iZ (k : Int))), (8, .int (iZ 1))]) d_Mo_bestBefore_108 (by decide) rfl ?_
          refine ez_iinc (L' := [(0, .ref m), (1, .int (iZ ((i + 1 : Nat) : Int))), (2, .long (lZ st)), (4, .long (lZ (nearZ (S2 i) tk - 48))), (6, .int (iZ (k : Int))), (7, .int (iZ ((k + 1 : Nat) : Int))), (8, .int (iZ 1))]) d_Mo_bestBefore_110 rfl (by decide) rfl ?_
          refine ev_goto (tgt := 27) d_Mo_bestBefore_113 rfl ?_
          refine ev_loc [(0, .ref m), (1, .int (iZ ((i + 1 : Nat) : Int))), (2, .long (lZ st)), (4, .long (lZ (nearZ (S2 i) tk - 48))), (6, .int (iZ (k : Int))), (7, .int (iZ ((k + 1 : Nat) : Int)))] (by simp) ?_
          exact ih (d - 1) (by omega) (k + 1) (k : Int) (by omega) (bbP_first hb (by omega) (by omega) (show nearZ (S2 i) tk - 48 + (k : Int) + g0 ≤ st by omega))
        · refine ev_aload_n d_Mo_bestBefore_87 rfl rfl ?_
          refine ev_iload_n d_Mo_bestBefore_88 rfl rfl ?_
          refine ev_iconst (v := iZ 1) d_Mo_bestBefore_89 rfl ?_
          refine ez_isub d_Mo_bestBefore_90 ?_
          rw [show (((i + 1 : Nat) : Int) - 1 : Int) = (i : Int) from by omega]
          refine ev_iload d_Mo_bestBefore_91 rfl ?_
          refine ev_iload d_Mo_bestBefore_93 rfl ?_
          obtain ⟨bn, rfl⟩ : ∃ z : Nat, b = (z : Int) := ⟨b.toNat, by omega⟩
          have bz9 := btZ_r S W (i + 1) (q + k) (q + bn)
          refine ev_pV M_Mo_isBetter 0 0 (As := [.int (iZ (i : Int)), .int (iZ (k : Int)), .int (iZ (bn : Int))]) (c_Mo_isBetter G h σ m v1 v2 i k bn q S W hm f31 f32 hv1 hv2 (by omega) hq (by omega) (by omega) hS hW) d_Mo_bestBefore_95 mk_Mo_isBetter ml_Mo_238 mv_Mo_isBetter hm rfl rfl rfl (Nat.le_of_ble_eq_true rfl) ⟨by decide, by decide⟩ ⟨by decide, by decide⟩ ?_
          refine ez_if_eq (tgt := 106) (by omega) d_Mo_bestBefore_98 rfl (fun c98 => ?_) (fun c98 => ?_)
          · refine ev_iload d_Mo_bestBefore_106 rfl ?_
            refine ev_istore (L' := [(0, .ref m), (1, .int (iZ ((i + 1 : Nat) : Int))), (2, .long (lZ st)), (4, .long (lZ (nearZ (S2 i) tk - 48))), (6, .int (iZ (bn : Int))), (7, .int (iZ (k : Int))), (8, .int (iZ 1))]) d_Mo_bestBefore_108 (by decide) rfl ?_
            refine ez_iinc (L' := [(0, .ref m), (1, .int (iZ ((i + 1 : Nat) : Int))), (2, .long (lZ st)), (4, .long (lZ (nearZ (S2 i) tk - 48))), (6, .int (iZ (bn : Int))), (7, .int (iZ ((k + 1 : Nat) : Int))), (8, .int (iZ 1))]) d_Mo_bestBefore_110 rfl (by decide) rfl ?_
            refine ev_goto (tgt := 27) d_Mo_bestBefore_113 rfl ?_
            refine ev_loc [(0, .ref m), (1, .int (iZ ((i + 1 : Nat) : Int))), (2, .long (lZ st)), (4, .long (lZ (nearZ (S2 i) tk - 48))), (6, .int (iZ (bn : Int))), (7, .int (iZ ((k + 1 : Nat) : Int)))] (by simp) ?_
            exact ih (d - 1) (by omega) (k + 1) (bn : Int) (by omega) (bbP_f hb (fun w => btZ_i.mpr w c98))
          · refine ev_iload d_Mo_bestBefore_101 rfl ?_
            refine ev_goto (tgt := 108) d_Mo_bestBefore_103 rfl ?_
            refine ev_istore (L' := [(0, .ref m), (1, .int (iZ ((i + 1 : Nat) : Int))), (2, .long (lZ st)), (4, .long (lZ (nearZ (S2 i) tk - 48))), (6, .int (iZ (k : Int))), (7, .int (iZ (k : Int))), (8, .int (iZ 1))]) d_Mo_bestBefore_108 (by decide) rfl ?_
            refine ez_iinc (L' := [(0, .ref m), (1, .int (iZ ((i + 1 : Nat) : Int))), (2, .long (lZ st)), (4, .long (lZ (nearZ (S2 i) tk - 48))), (6, .int (iZ (k : Int))), (7, .int (iZ ((k + 1 : Nat) : Int))), (8, .int (iZ 1))]) d_Mo_bestBefore_110 rfl (by decide) rfl ?_
            refine ev_goto (tgt := 27) d_Mo_bestBefore_113 rfl ?_
            refine ev_loc [(0, .ref m), (1, .int (iZ ((i + 1 : Nat) : Int))), (2, .long (lZ st)), (4, .long (lZ (nearZ (S2 i) tk - 48))), (6, .int (iZ (k : Int))), (7, .int (iZ ((k + 1 : Nat) : Int)))] (by simp) ?_
            exact ih (d - 1) (by omega) (k + 1) (k : Int) (by omega) (bbP_t hb (by omega) (show nearZ (S2 i) tk - 48 + (k : Int) + g0 ≤ st by omega) (btZ_i.mp c98))
set_option maxHeartbeats 4000000 in
set_option maxRecDepth 100000 in
theorem c_Mo_bestBefore (G : GT) (h : HM) (σ : Nat → Value) (m s2 v1 v2 i q : Nat) (S2 S W : Nat → Int) (num den tk g0 st : Int) (hm : h m = some (.inr (11, fsN 34 σ))) (f2 : σ 2 = .int (iZ num)) (f3 : σ 3 = .int (iZ den)) (f6 : σ 6 = .ref s2) (f27 : σ 27 = .int (iZ g0)) (f31 : σ 31 = .ref v1) (f32 : σ 32 = .ref v2) (hs2 : h s2 = some (.inl (G_j G, 16, .inr (.inl (lA S2))))) (hv1 : h v1 = some (.inl (G_i G, 194, .inl (iA S)))) (hv2 : h v2 = some (.inl (G_i G, 3104, .inl (iA W)))) (hi : i + 1 < 16) (hq : q = i % 2 * 97) (hS : ∀ k, -1 ≤ S k ∧ S k ≤ 100000) (hW : ∀ k, 0 ≤ W k ∧ W k ≤ 100000) (hE : ∀ k, 0 ≤ S2 k ∧ S2 k ≤ 2540160000000) (hnum : 1 ≤ num ∧ num ≤ 120000) (hden : 1 ≤ den ∧ den ≤ 1001) (htk : tk = 705600000 * den / num) (htr : 11760000 ≤ tk ∧ tk ≤ 705600000) (hg : 0 ≤ g0 ∧ g0 ≤ 20) (hst : -1000000 ≤ st ∧ st ≤ 1000000) : Rn G M_Mo_bestBefore (rm 1 40) [.ref m, .int (iZ ((i + 1 : Nat) : Int)), .long (lZ st)] h (fun r h' => ∃ b : Int, r = some (.int (iZ b)) ∧ h' = h ∧ bbP S W (i + 1) q (fun j : Nat => nearZ (S2 i) tk - 48 + (j : Int) + g0 ≤ st) 97 b) := by
  refine rn_of (by decide) (Nat.le_of_ble_eq_true rfl) ?_
  show Ev G M_Mo_bestBefore _ _ 0 [(0, .ref m), (1, .int (iZ ((i + 1 : Nat) : Int))), (2, .long (lZ st))] [] _ 0 0
  have e0 := hE i
  have ne := fra_r htr e0
  refine ev_aload_n d_Mo_bestBefore_0 rfl rfl ?_
  refine ev_getF d_Mo_bestBefore_1 fl_Mo_24 hm (by decide) f6 ?_
  refine ev_iload_n d_Mo_bestBefore_4 rfl rfl ?_
  refine ev_iconst (v := iZ 1) d_Mo_bestBefore_5 rfl ?_
  refine ez_isub d_Mo_bestBefore_6 ?_
  refine ez_laload i d_Mo_bestBefore_7 hs2 (by omega) (by omega) (by decide) ?_
  refine ev_aload_n d_Mo_bestBefore_8 rfl rfl ?_
  refine ev_pV M_Mo_frame 0 0 (As := []) (c_Mo_frame G h σ m num den hm f2 f3 hnum hden) d_Mo_bestBefore_9 mk_Mo_frame ml_Mo_134 mv_Mo_frame hm rfl rfl rfl (Nat.le_of_ble_eq_true rfl) ⟨by decide, by decide⟩ ⟨by decide, by decide⟩ ?_
  rw [← htk]
  refine ev_pS M_Mo_nearest 0 0 (As := [.long (lZ (S2 i)), .long (lZ tk)]) (c_Mo_nearest G h (S2 i) tk (by omega) (by omega)) d_Mo_bestBefore_12 mk_Mo_nearest ml_Mo_189 ms_Mo_nearest rfl rfl (Nat.le_of_ble_eq_true rfl) ⟨by decide, by decide⟩ ⟨by decide, by decide⟩ ?_
  refine ev_ldc2 (v := lZ 48) d_Mo_bestBefore_15 kc_Mo_236 ?_
  refine ez_lsub d_Mo_bestBefore_18 ?_
  refine ev_lstore (L' := [(0, .ref m), (1, .int (iZ ((i + 1 : Nat) : Int))), (2, .long (lZ st)), (4, .long (lZ ((nearZ (S2 i) tk) - 48)))]) d_Mo_bestBefore_19 (by decide) rfl ?_
  refine ev_iconst (v := iZ (-1)) d_Mo_bestBefore_21 rfl ?_
  refine ev_istore (L' := [(0, .ref m), (1, .int (iZ ((i + 1 : Nat) : Int))), (2, .long (lZ st)), (4, .long (lZ ((nearZ (S2 i) tk) - 48))), (6, .int (iZ (-1)))]) d_Mo_bestBefore_22 (by decide) rfl ?_
  refine ev_iconst (v := iZ 0) d_Mo_bestBefore_24 rfl ?_
  refine ev_istore (L' := [(0, .ref m), (1, .int (iZ ((i + 1 : Nat) : Int))), (2, .long (lZ st)), (4, .long (lZ ((nearZ (S2 i) tk) - 48))), (6, .int (iZ (-1))), (7, .int (iZ 0))]) d_Mo_bestBefore_25 (by decide) rfl ?_
  exact lp_Mo_before G h σ m s2 v1 v2 i q S2 S W num den tk g0 st hm f2 f3 f6 f27 f31 f32 hs2 hv1 hv2 hi hq hS hW hE hnum hden htk htr hg hst 97 0 (-1) (by omega) bbP_0
set_option maxHeartbeats 4000000 in
set_option maxRecDepth 100000 in
theorem lp_Mo_off1 (G : GT) (Q : Option Value → HM → Prop) (h : HM) (σ : Nat → Value) (m v1 v2 i k j to fr : Nat) (sum b : Int) (S W : Nat → Int) (hm : h m = some (.inr (11, fsN 34 σ))) (f31 : σ 31 = .ref v1) (f32 : σ 32 = .ref v2) (hv1 : h v1 = some (.inl (G_i G, 194, .inl (iA S)))) (hv2 : h v2 = some (.inl (G_i G, 3104, .inl (iA W)))) (hi : i < 16) (hk : k < 97) (hj : j < 25) (hto : to < 194) (hfr : fr < 194) (hsum : 0 ≤ sum ∧ sum ≤ 100000) (hS : ∀ k, -1 ≤ S k ∧ S k ≤ 100000) (hW : ∀ k, 0 ≤ W k ∧ W k ≤ 100000) (kk : ∀ (c : Nat) (bt sm : Int), ((bt = 1 ↔ offB S W i to fr sum ((128 * j + k : Nat) : Int)) ∧ (bt = 0 ∨ bt = 1)) → Ev G M_Mo_offer (rm 0 0) Q 181 [(0, .ref m), (1, .int (iZ (i : Int))), (2, .int (iZ (k : Int))), (3, .int (iZ (j : Int))), (4, .int (iZ sum)), (5, .int (iZ b)), (6, .int (iZ (to : Int))), (7, .int (iZ (fr : Int))), (8, .int (iZ ((128 * j + k : Nat) : Int))), (9, .int (iZ bt)), (10, .int (iZ sm)), (11, .int (iZ (c : Int)))] [] h 0 0) : ∀ (d : Nat) (c : Nat) (bt sm : Int), c + d = i + 1 → offI S W i to fr sum ((128 * j + k : Nat) : Int) c bt sm → Ev G M_Mo_offer (rm 0 0) (Q) 83 [(0, .ref m), (1, .int (iZ (i : Int))), (2, .int (iZ (k : Int))), (3, .int (iZ (j : Int))), (4, .int (iZ sum)), (5, .int (iZ b)), (6, .int (iZ (to : Int))), (7, .int (iZ (fr : Int))), (8, .int (iZ ((128 * j + k : Nat) : Int))), (9, .int (iZ bt)), (10, .int (iZ sm)), (11, .int (iZ (c : Int)))] [] h 0 0 := by
  intro d
  induction d using Nat.strongRecOn with
  | ind d ih =>
  intro c bt sm hd hI
  have hb9 := hI.1
  have hs9 : sm = 0 ∨ sm = 1 := by rcases hI.2 with q | q; exact Or.inr q.1; exact Or.inl q.1
  have rw1 := hW (16 * to + c)
  refine ev_iload d_Mo_offer_83 rfl ?_
  refine ev_iload_n d_Mo_offer_85 rfl rfl ?_
  refine ez_icmp_gt (tgt := 181) (by omega) (by omega) d_Mo_offer_86 rfl (fun c86 => ?_) (fun c86 => ?_)
  · exact kk c bt sm (offI_e hI (Or.inr (by omega)))
  · refine ev_iload d_Mo_offer_89 rfl ?_
    refine ez_if_eq (tgt := 181) (by omega) d_Mo_offer_91 rfl (fun c91 => ?_) (fun c91 => ?_)
    · exact kk c bt sm (offI_e hI (Or.inl (by omega)))
    · obtain rfl : sm = 1 := by rcases hI.2 with q | q; exact q.1; exact absurd q.1 c91
      have hs0 : 0 ≤ S to := by rcases hI.2 with q | q; (have := q.2.1; omega); exact absurd q.1 (by decide)
      obtain rfl : bt = 0 := by
        rcases hI.2 with q | q
        · rcases hI.1 with w | w
          · exact w
          · have := q.2.2.2.mp w
            omega
        · exact absurd q.1 (by decide)
      have oI := offI_s hI (by omega) hs0
      refine ev_iload d_Mo_offer_94 rfl ?_
      refine ev_iload_n d_Mo_offer_96 rfl rfl ?_
      refine ez_icmp_ge (tgt := 116) (by omega) (by omega) d_Mo_offer_97 rfl (fun c97 => ?_) (fun c97 => ?_)
      · refine ev_iload d_Mo_offer_116 rfl ?_
        refine ev_istore (L' := [(0, .ref m), (1, .int (iZ (i : Int))), (2, .int (iZ (k : Int))), (3, .int (iZ (j : Int))), (4, .int (iZ sum)), (5, .int (iZ b)), (6, .int (iZ (to : Int))), (7, .int (iZ (fr : Int))), (8, .int (iZ ((128 * j + k : Nat) : Int))), (9, .int (iZ 0)), (10, .int (iZ 1)), (11, .int (iZ (c : Int))), (12, .int (iZ ((128 * j + k : Nat) : Int)))]) d_Mo_offer_118 (by decide) rfl ?_
        have hy : nwY W fr i ((128 * j + k : Nat) : Int) c = ((128 * j + k : Nat) : Int) := if_neg (by omega)
        refine ev_iload d_Mo_offer_120 rfl ?_
        refine ev_aload_n d_Mo_offer_122 rfl rfl ?_
        refine ev_getF d_Mo_offer_123 fl_Mo_78 hm (by decide) f32 ?_
        refine ev_bipush (v := iZ 16) d_Mo_offer_126 rfl ?_
        refine ev_iload d_Mo_offer_128 rfl ?_
        refine ez_imul d_Mo_offer_130 ?_
        refine ev_iload d_Mo_offer_131 rfl ?_
        refine ez_iadd d_Mo_offer_133 ?_
        refine ez_iaload (16 * to + c) d_Mo_offer_134 hv2 (by omega) (by omega) (by decide) ?_
        have rg134 := hW (16 * to + c)
        refine ez_icmp_ne (tgt := 142) (by omega) (by omega) d_Mo_offer_135 rfl (fun c135 => ?_) (fun c135 => ?_)
        · refine ev_iconst (v := iZ 0) d_Mo_offer_142 rfl ?_
          refine ev_istore (L' := [(0, .ref m), (1, .int (iZ (i : Int))), (2, .int (iZ (k : Int))), (3, .int (iZ (j : Int))), (4, .int (iZ sum)), (5, .int (iZ b)), (6, .int (iZ (to : Int))), (7, .int (iZ (fr : Int))), (8, .int (iZ ((128 * j + k : Nat) : Int))), (9, .int (iZ 0)), (10, .int (iZ 0)), (11, .int (iZ (c : Int))), (12, .int (iZ ((128 * j + k : Nat) : Int)))]) d_Mo_offer_143 (by decide) rfl ?_
          refine ev_iload d_Mo_offer_145 rfl ?_
          refine ez_if_ne (tgt := 168) (by decide) d_Mo_offer_147 rfl (fun c147 => absurd c147 (by omega)) (fun c147 => ?_)
          refine ev_iload d_Mo_offer_150 rfl ?_
          refine ev_aload_n d_Mo_offer_152 rfl rfl ?_
          refine ev_getF d_Mo_offer_153 fl_Mo_78 hm (by decide) f32 ?_
          refine ev_bipush (v := iZ 16) d_Mo_offer_156 rfl ?_
          refine ev_iload d_Mo_offer_158 rfl ?_
          refine ez_imul d_Mo_offer_160 ?_
          refine ev_iload d_Mo_offer_161 rfl ?_
          refine ez_iadd d_Mo_offer_163 ?_
          refine ez_iaload (16 * to + c) d_Mo_offer_164 hv2 (by omega) (by omega) (by decide) ?_
          have rg164 := hW (16 * to + c)
          refine ez_icmp_ge (tgt := 172) (by omega) (by omega) d_Mo_offer_165 rfl (fun c165 => ?_) (fun c165 => ?_)
          · refine ev_iconst (v := iZ 0) d_Mo_offer_172 rfl ?_
            refine ev_istore (L' := [(0, .ref m), (1, .int (iZ (i : Int))), (2, .int (iZ (k : Int))), (3, .int (iZ (j : Int))), (4, .int (iZ sum)), (5, .int (iZ b)), (6, .int (iZ (to : Int))), (7, .int (iZ (fr : Int))), (8, .int (iZ ((128 * j + k : Nat) : Int))), (9, .int (iZ 0)), (10, .int (iZ 0)), (11, .int (iZ (c : Int))), (12, .int (iZ ((128 * j + k : Nat) : Int)))]) d_Mo_offer_173 (by decide) rfl ?_
            refine ez_iinc (L' := [(0, .ref m), (1, .int (iZ (i : Int))), (2, .int (iZ (k : Int))), (3, .int (iZ (j : Int))), (4, .int (iZ sum)), (5, .int (iZ b)), (6, .int (iZ (to : Int))), (7, .int (iZ (fr : Int))), (8, .int (iZ ((128 * j + k : Nat) : Int))), (9, .int (iZ 0)), (10, .int (iZ 0)), (11, .int (iZ ((c + 1 : Nat) : Int))), (12, .int (iZ ((128 * j + k : Nat) : Int)))]) d_Mo_offer_175 rfl (by decide) rfl ?_
            refine ev_goto (tgt := 83) d_Mo_offer_178 rfl ?_
            refine ev_loc [(0, .ref m), (1, .int (iZ (i : Int))), (2, .int (iZ (k : Int))), (3, .int (iZ (j : Int))), (4, .int (iZ sum)), (5, .int (iZ b)), (6, .int (iZ (to : Int))), (7, .int (iZ (fr : Int))), (8, .int (iZ ((128 * j + k : Nat) : Int))), (9, .int (iZ 0)), (10, .int (iZ 0)), (11, .int (iZ ((c + 1 : Nat) : Int)))] (by simp) ?_
            exact ih (d - 1) (by omega) (c + 1) 0 0 (by omega) (oI.2.2 (by omega))
          · refine ev_iconst (v := iZ 1) d_Mo_offer_168 rfl ?_
            refine ev_goto (tgt := 173) d_Mo_offer_169 rfl ?_
            refine ev_istore (L' := [(0, .ref m), (1, .int (iZ (i : Int))), (2, .int (iZ (k : Int))), (3, .int (iZ (j : Int))), (4, .int (iZ sum)), (5, .int (iZ b)), (6, .int (iZ (to : Int))), (7, .int (iZ (fr : Int))), (8, .int (iZ ((128 * j + k : Nat) : Int))), (9, .int (iZ 1)), (10, .int (iZ 0)), (11, .int (iZ (c : Int))), (12, .int (iZ ((128 * j + k : Nat) : Int)))]) d_Mo_offer_173 (by decide) rfl ?_
            refine ez_iinc (L' := [(0, .ref m), (1, .int (iZ (i : Int))), (2, .int (iZ (k : Int))), (3, .int (iZ (j : Int))), (4, .int (iZ sum)), (5, .int (iZ b)), (6, .int (iZ (to : Int))), (7, .int (iZ (fr : Int))), (8, .int (iZ ((128 * j + k : Nat) : Int))), (9, .int (iZ 1)), (10, .int (iZ 0)), (11, .int (iZ ((c + 1 : Nat) : Int))), (12, .int (iZ ((128 * j + k : Nat) : Int)))]) d_Mo_offer_175 rfl (by decide) rfl ?_
            refine ev_goto (tgt := 83) d_Mo_offer_178 rfl ?_
            refine ev_loc [(0, .ref m), (1, .int (iZ (i : Int))), (2, .int (iZ (k : Int))), (3, .int (iZ (j : Int))), (4, .int (iZ sum)), (5, .int (iZ b)), (6, .int (iZ (to : Int))), (7, .int (iZ (fr : Int))), (8, .int (iZ ((128 * j + k : Nat) : Int))), (9, .int (iZ 1)), (10, .int (iZ 0)), (11, .int (iZ ((c + 1 : Nat) : Int)))] (by simp) ?_
            exact ih (d - 1) (by omega) (c + 1) 1 0 (by omega) (oI.2.1 (by omega))
        · refine ev_iconst (v := iZ 1) d_Mo_offer_138 rfl ?_
          refine ev_goto (tgt := 143) d_Mo_offer_139 rfl ?_
          refine ev_istore (L' := [(0, .ref m), (1, .int (iZ (i : Int))), (2, .int (iZ (k : Int))), (3, .int (iZ (j : Int))), (4, .int (iZ sum)), (5, .int (iZ b)), (6, .int (iZ (to : Int))), (7, .int (iZ (fr : Int))), (8, .int (iZ ((128 * j + k : Nat) : Int))), (9, .int (iZ 0)), (10, .int (iZ 1)), (11, .int (iZ (c : Int))), (12, .int (iZ ((128 * j + k : Nat) : Int)))]) d_Mo_offer_143 (by decide) rfl ?_
          refine ev_iload d_Mo_offer_145 rfl ?_
          refine ez_if_ne (tgt := 168) (by decide) d_Mo_offer_147 rfl (fun c147 => absurd c147 (by omega)) (fun c147 => ?_)
          refine ev_iload d_Mo_offer_150 rfl ?_
          refine ev_aload_n d_Mo_offer_152 rfl rfl ?_
          refine ev_getF d_Mo_offer_153 fl_Mo_78 hm (by decide) f32 ?_
          refine ev_bipush (v := iZ 16) d_Mo_offer_156 rfl ?_
          refine ev_iload d_Mo_offer_158 rfl ?_
          refine ez_imul d_Mo_offer_160 ?_
          refine ev_iload d_Mo_offer_161 rfl ?_
          refine ez_iadd d_Mo_offer_163 ?_
          refine ez_iaload (16 * to + c) d_Mo_offer_164 hv2 (by omega) (by omega) (by decide) ?_
          have rg164 := hW (16 * to + c)
          refine ez_icmp_ge (tgt := 172) (by omega) (by omega) d_Mo_offer_165 rfl (fun c165 => ?_) (fun c165 => absurd c165 (by omega))
          refine ev_iconst (v := iZ 0) d_Mo_offer_172 rfl ?_
          refine ev_istore (L' := [(0, .ref m), (1, .int (iZ (i : Int))), (2, .int (iZ (k : Int))), (3, .int (iZ (j : Int))), (4, .int (iZ sum)), (5, .int (iZ b)), (6, .int (iZ (to : Int))), (7, .int (iZ (fr : Int))), (8, .int (iZ ((128 * j + k : Nat) : Int))), (9, .int (iZ 0)), (10, .int (iZ 1)), (11, .int (iZ (c : Int))), (12, .int (iZ ((128 * j + k : Nat) : Int)))]) d_Mo_offer_173 (by decide) rfl ?_
          refine ez_iinc (L' := [(0, .ref m), (1, .int (iZ (i : Int))), (2, .int (iZ (k : Int))), (3, .int (iZ (j : Int))), (4, .int (iZ sum)), (5, .int (iZ b)), (6, .int (iZ (to : Int))), (7, .int (iZ (fr : Int))), (8, .int (iZ ((128 * j + k : Nat) : Int))), (9, .int (iZ 0)), (10, .int (iZ 1)), (11, .int (iZ ((c + 1 : Nat) : Int))), (12, .int (iZ ((128 * j + k : Nat) : Int)))]) d_Mo_offer_175 rfl (by decide) rfl ?_
          refine ev_goto (tgt := 83) d_Mo_offer_178 rfl ?_
          refine ev_loc [(0, .ref m), (1, .int (iZ (i : Int))), (2, .int (iZ (k : Int))), (3, .int (iZ (j : Int))), (4, .int (iZ sum)), (5, .int (iZ b)), (6, .int (iZ (to : Int))), (7, .int (iZ (fr : Int))), (8, .int (iZ ((128 * j + k : Nat) : Int))), (9, .int (iZ 0)), (10, .int (iZ 1)), (11, .int (iZ ((c + 1 : Nat) : Int)))] (by simp) ?_
          exact ih (d - 1) (by omega) (c + 1) 0 1 (by omega) (oI.1 (by omega))
      · refine ev_aload_n d_Mo_offer_100 rfl rfl ?_
        refine ev_getF d_Mo_offer_101 fl_Mo_78 hm (by decide) f32 ?_
        refine ev_bipush (v := iZ 16) d_Mo_offer_104 rfl ?_
        refine ev_iload d_Mo_offer_106 rfl ?_
        refine ez_imul d_Mo_offer_108 ?_
        refine ev_iload d_Mo_offer_109 rfl ?_
        refine ez_iadd d_Mo_offer_111 ?_
        refine ez_iaload (16 * fr + c) d_Mo_offer_112 hv2 (by omega) (by omega) (by decide) ?_
        have rg112 := hW (16 * fr + c)
        refine ev_goto (tgt := 118) d_Mo_offer_113 rfl ?_
        refine ev_istore (L' := [(0, .ref m), (1, .int (iZ (i : Int))), (2, .int (iZ (k : Int))), (3, .int (iZ (j : Int))), (4, .int (iZ sum)), (5, .int (iZ b)), (6, .int (iZ (to : Int))), (7, .int (iZ (fr : Int))), (8, .int (iZ ((128 * j + k : Nat) : Int))), (9, .int (iZ 0)), (10, .int (iZ 1)), (11, .int (iZ (c : Int))), (12, .int (iZ (W (16 * fr + c))))]) d_Mo_offer_118 (by decide) rfl ?_
        have hy : nwY W fr i ((128 * j + k : Nat) : Int) c = W (16 * fr + c) := if_pos (by omega)
        refine ev_iload d_Mo_offer_120 rfl ?_
        refine ev_aload_n d_Mo_offer_122 rfl rfl ?_
        refine ev_getF d_Mo_offer_123 fl_Mo_78 hm (by decide) f32 ?_
        refine ev_bipush (v := iZ 16) d_Mo_offer_126 rfl ?_
        refine ev_iload d_Mo_offer_128 rfl ?_
        refine ez_imul d_Mo_offer_130 ?_
        refine ev_iload d_Mo_offer_131 rfl ?_
        refine ez_iadd d_Mo_offer_133 ?_
        refine ez_iaload (16 * to + c) d_Mo_offer_134 hv2 (by omega) (by omega) (by decide) ?_
        have rg134 := hW (16 * to + c)
        refine ez_icmp_ne (tgt := 142) (by omega) (by omega) d_Mo_offer_135 rfl (fun c135 => ?_) (fun c135 => ?_)
        · refine ev_iconst (v := iZ 0) d_Mo_offer_142 rfl ?_
          refine ev_istore (L' := [(0, .ref m), (1, .int (iZ (i : Int))), (2, .int (iZ (k : Int))), (3, .int (iZ (j : Int))), (4, .int (iZ sum)), (5, .int (iZ b)), (6, .int (iZ (to : Int))), (7, .int (iZ (fr : Int))), (8, .int (iZ ((128 * j + k : Nat) : Int))), (9, .int (iZ 0)), (10, .int (iZ 0)), (11, .int (iZ (c : Int))), (12, .int (iZ (W (16 * fr + c))))]) d_Mo_offer_143 (by decide) rfl ?_
          refine ev_iload d_Mo_offer_145 rfl ?_
          refine ez_if_ne (tgt := 168) (by decide) d_Mo_offer_147 rfl (fun c147 => absurd c147 (by omega)) (fun c147 => ?_)
          refine ev_iload d_Mo_offer_150 rfl ?_
          refine ev_aload_n d_Mo_offer_152 rfl rfl ?_
          refine ev_getF d_Mo_offer_153 fl_Mo_78 hm (by decide) f32 ?_
          refine ev_bipush (v := iZ 16) d_Mo_offer_156 rfl ?_
          refine ev_iload d_Mo_offer_158 rfl ?_
          refine ez_imul d_Mo_offer_160 ?_
          refine ev_iload d_Mo_offer_161 rfl ?_
          refine ez_iadd d_Mo_offer_163 ?_
          refine ez_iaload (16 * to + c) d_Mo_offer_164 hv2 (by omega) (by omega) (by decide) ?_
          have rg164 := hW (16 * to + c)
          refine ez_icmp_ge (tgt := 172) (by omega) (by omega) d_Mo_offer_165 rfl (fun c165 => ?_) (fun c165 => ?_)
          · refine ev_iconst (v := iZ 0) d_Mo_offer_172 rfl ?_
            refine ev_istore (L' := [(0, .ref m), (1, .int (iZ (i : Int))), (2, .int (iZ (k : Int))), (3, .int (iZ (j : Int))), (4, .int (iZ sum)), (5, .int (iZ b)), (6, .int (iZ (to : Int))), (7, .int (iZ (fr : Int))), (8, .int (iZ ((128 * j + k : Nat) : Int))), (9, .int (iZ 0)), (10, .int (iZ 0)), (11, .int (iZ (c : Int))), (12, .int (iZ (W (16 * fr + c))))]) d_Mo_offer_173 (by decide) rfl ?_
            refine ez_iinc (L' := [(0, .ref m), (1, .int (iZ (i : Int))), (2, .int (iZ (k : Int))), (3, .int (iZ (j : Int))), (4, .int (iZ sum)), (5, .int (iZ b)), (6, .int (iZ (to : Int))), (7, .int (iZ (fr : Int))), (8, .int (iZ ((128 * j + k : Nat) : Int))), (9, .int (iZ 0)), (10, .int (iZ 0)), (11, .int (iZ ((c + 1 : Nat) : Int))), (12, .int (iZ (W (16 * fr + c))))]) d_Mo_offer_175 rfl (by decide) rfl ?_
            refine ev_goto (tgt := 83) d_Mo_offer_178 rfl ?_
            refine ev_loc [(0, .ref m), (1, .int (iZ (i : Int))), (2, .int (iZ (k : Int))), (3, .int (iZ (j : Int))), (4, .int (iZ sum)), (5, .int (iZ b)), (6, .int (iZ (to : Int))), (7, .int (iZ (fr : Int))), (8, .int (iZ ((128 * j + k : Nat) : Int))), (9, .int (iZ 0)), (10, .int (iZ 0)), (11, .int (iZ ((c + 1 : Nat) : Int)))] (by simp) ?_
            exact ih (d - 1) (by omega) (c + 1) 0 0 (by omega) (oI.2.2 (by omega))
          · refine ev_iconst (v := iZ 1) d_Mo_offer_168 rfl ?_
            refine ev_goto (tgt := 173) d_Mo_offer_169 rfl ?_
            refine ev_istore (L' := [(0, .ref m), (1, .int (iZ (i : Int))), (2, .int (iZ (k : Int))), (3, .int (iZ (j : Int))), (4, .int (iZ sum)), (5, .int (iZ b)), (6, .int (iZ (to : Int))), (7, .int (iZ (fr : Int))), (8, .int (iZ ((128 * j + k : Nat) : Int))), (9, .int (iZ 1)), (10, .int (iZ 0)), (11, .int (iZ (c : Int))), (12, .int (iZ (W (16 * fr + c))))]) d_Mo_offer_173 (by decide) rfl ?_
            refine ez_iinc (L' := [(0, .ref m), (1, .int (iZ (i : Int))), (2, .int (iZ (k : Int))), (3, .int (iZ (j : Int))), (4, .int (iZ sum)), (5, .int (iZ b)), (6, .int (iZ (to : Int))), (7, .int (iZ (fr : Int))), (8, .int (iZ ((128 * j + k : Nat) : Int))), (9, .int (iZ 1)), (10, .int (iZ 0)), (11, .int (iZ ((c + 1 : Nat) : Int))), (12, .int (iZ (W (16 * fr + c))))]) d_Mo_offer_175 rfl (by decide) rfl ?_
            refine ev_goto (tgt := 83) d_Mo_offer_178 rfl ?_
            refine ev_loc [(0, .ref m), (1, .int (iZ (i : Int))), (2, .int (iZ (k : Int))), (3, .int (iZ (j : Int))), (4, .int (iZ sum)), (5, .int (iZ b)), (6, .int (iZ (to : Int))), (7, .int (iZ (fr : Int))), (8, .int (iZ ((128 * j + k : Nat) : Int))), (9, .int (iZ 1)), (10, .int (iZ 0)), (11, .int (iZ ((c + 1 : Nat) : Int)))] (by simp) ?_
            exact ih (d - 1) (by omega) (c + 1) 1 0 (by omega) (oI.2.1 (by omega))
        · refine ev_iconst (v := iZ 1) d_Mo_offer_138 rfl ?_
          refine ev_goto (tgt := 143) d_Mo_offer_139 rfl ?_
          refine ev_istore (L' := [(0, .ref m), (1, .int (iZ (i : Int))), (2, .int (iZ (k : Int))), (3, .int (iZ (j : Int))), (4, .int (iZ sum)), (5, .int (iZ b)), (6, .int (iZ (to : Int))), (7, .int (iZ (fr : Int))), (8, .int (iZ ((128 * j + k : Nat) : Int))), (9, .int (iZ 0)), (10, .int (iZ 1)), (11, .int (iZ (c : Int))), (12, .int (iZ (W (16 * fr + c))))]) d_Mo_offer_143 (by decide) rfl ?_
          refine ev_iload d_Mo_offer_145 rfl ?_
          refine ez_if_ne (tgt := 168) (by decide) d_Mo_offer_147 rfl (fun c147 => absurd c147 (by omega)) (fun c147 => ?_)
          refine ev_iload d_Mo_offer_150 rfl ?_
          refine ev_aload_n d_Mo_offer_152 rfl rfl ?_
          refine ev_getF d_Mo_offer_153 fl_Mo_78 hm (by decide) f32 ?_
          refine ev_bipush (v := iZ 16) d_Mo_offer_156 rfl ?_
          refine ev_iload d_Mo_offer_158 rfl ?_
          refine ez_imul d_Mo_offer_160 ?_
          refine ev_iload d_Mo_offer_161 rfl ?_
          refine ez_iadd d_Mo_offer_163 ?_
          refine ez_iaload (16 * to + c) d_Mo_offer_164 hv2 (by omega) (by omega) (by decide) ?_
          have rg164 := hW (16 * to + c)
          refine ez_icmp_ge (tgt := 172) (by omega) (by omega) d_Mo_offer_165 rfl (fun c165 => ?_) (fun c165 => absurd c165 (by omega))
          refine ev_iconst (v := iZ 0) d_Mo_offer_172 rfl ?_
          refine ev_istore (L' := [(0, .ref m), (1, .int (iZ (i : Int))), (2, .int (iZ (k : Int))), (3, .int (iZ (j : Int))), (4, .int (iZ sum)), (5, .int (iZ b)), (6, .int (iZ (to : Int))), (7, .int (iZ (fr : Int))), (8, .int (iZ ((128 * j + k : Nat) : Int))), (9, .int (iZ 0)), (10, .int (iZ 1)), (11, .int (iZ (c : Int))), (12, .int (iZ (W (16 * fr + c))))]) d_Mo_offer_173 (by decide) rfl ?_
          refine ez_iinc (L' := [(0, .ref m), (1, .int (iZ (i : Int))), (2, .int (iZ (k : Int))), (3, .int (iZ (j : Int))), (4, .int (iZ sum)), (5, .int (iZ b)), (6, .int (iZ (to : Int))), (7, .int (iZ (fr : Int))), (8, .int (iZ ((128 * j + k : Nat) : Int))), (9, .int (iZ 0)), (10, .int (iZ 1)), (11, .int (iZ ((c + 1 : Nat) : Int))), (12, .int (iZ (W (16 * fr + c))))]) d_Mo_offer_175 rfl (by decide) rfl ?_
          refine ev_goto (tgt := 83) d_Mo_offer_178 rfl ?_
          refine ev_loc [(0, .ref m), (1, .int (iZ (i : Int))), (2, .int (iZ (k : Int))), (3, .int (iZ (j : Int))), (4, .int (iZ sum)), (5, .int (iZ b)), (6, .int (iZ (to : Int))), (7, .int (iZ (fr : Int))), (8, .int (iZ ((128 * j + k : Nat) : Int))), (9, .int (iZ 0)), (10, .int (iZ 1)), (11, .int (iZ ((c + 1 : Nat) : Int)))] (by simp) ?_
          exact ih (d - 1) (by omega) (c + 1) 0 1 (by omega) (oI.1 (by omega))
set_option maxHeartbeats 4000000 in
set_option maxRecDepth 100000 in
theorem lp_Mo_off2 (G : GT) (Q : Option Value → HM → Prop) (h0 : HM) (σ : Nat → Value) (m v2 i k j to fr : Nat) (sum b : Int) (W : Nat → Int) (bt sm : Int) (f32 : σ 32 = .ref v2) (hi : i < 16) (hto : to < 194) (hfr : fr < 194) (hne : 1 ≤ i → fr ≠ to) (kk : ∀ h (c : Nat), c = i → h m = some (.inr (11, fsN 34 σ)) → h v2 = some (.inl (G_i G, 3104, .inl (iA (va_cpy W W (16 * fr) (16 * to) c)))) → Fm [v2] h0 h → Ev G M_Mo_offer (rm 0 0) Q 237 [(0, .ref m), (1, .int (iZ (i : Int))), (2, .int (iZ (k : Int))), (3, .int (iZ (j : Int))), (4, .int (iZ sum)), (5, .int (iZ b)), (6, .int (iZ (to : Int))), (7, .int (iZ (fr : Int))), (8, .int (iZ ((128 * j + k : Nat) : Int))), (9, .int (iZ bt)), (10, .int (iZ sm)), (11, .int (iZ (c : Int)))] [] h 0 0) : ∀ (d : Nat) (c : Nat) (h : HM), c + d = i → h m = some (.inr (11, fsN 34 σ)) → h v2 = some (.inl (G_i G, 3104, .inl (iA (va_cpy W W (16 * fr) (16 * to) c)))) → Fm [v2] h0 h → Ev G M_Mo_offer (rm 0 0) (Q) 199 [(0, .ref m), (1, .int (iZ (i : Int))), (2, .int (iZ (k : Int))), (3, .int (iZ (j : Int))), (4, .int (iZ sum)), (5, .int (iZ b)), (6, .int (iZ (to : Int))), (7, .int (iZ (fr : Int))), (8, .int (iZ ((128 * j + k : Nat) : Int))), (9, .int (iZ bt)), (10, .int (iZ sm)), (11, .int (iZ (c : Int)))] [] h 0 0 := by
  intro d
  induction d using Nat.strongRecOn with
  | ind d ih =>
  intro c h hd hm hv2 fm
  refine ev_iload d_Mo_offer_199 rfl ?_
  refine ev_iload_n d_Mo_offer_201 rfl rfl ?_
  refine ez_icmp_ge (tgt := 237) (by omega) (by omega) d_Mo_offer_202 rfl (fun c202 => ?_) (fun c202 => ?_)
  · exact kk h c (by omega) hm hv2 fm
  · refine ev_aload_n d_Mo_offer_205 rfl rfl ?_
    refine ev_getF d_Mo_offer_206 fl_Mo_78 hm (by decide) f32 ?_
    refine ev_bipush (v := iZ 16) d_Mo_offer_209 rfl ?_
    refine ev_iload d_Mo_offer_211 rfl ?_
    refine ez_imul d_Mo_offer_213 ?_
    refine ev_iload d_Mo_offer_214 rfl ?_
    refine ez_iadd d_Mo_offer_216 ?_
    refine ev_aload_n d_Mo_offer_217 rfl rfl ?_
    refine ev_getF d_Mo_offer_218 fl_Mo_78 hm (by decide) f32 ?_
    refine ev_bipush (v := iZ 16) d_Mo_offer_221 rfl ?_
    refine ev_iload d_Mo_offer_223 rfl ?_
    refine ez_imul d_Mo_offer_225 ?_
    refine ev_iload d_Mo_offer_226 rfl ?_
    refine ez_iadd d_Mo_offer_228 ?_
    refine ez_iaload (16 * fr + c) d_Mo_offer_229 hv2 (by omega) (by omega) (by decide) ?_
    refine ez_iastore (F' := zup (va_cpy W W (16 * fr) (16 * to) c) (16 * to + c) ((va_cpy W W (16 * fr) (16 * to) c) (16 * fr + c))) (16 * to + c) d_Mo_offer_230 hv2 (by omega) (by omega) (by decide) rfl (fun h1 h1a h1o => ?_)
    have hm := (h1o _ (cne hm hv2 (by simp))).trans hm
    have hv2 := h1a
    have fm := fm.step (by simp) h1o
    refine ez_iinc (L' := [(0, .ref m), (1, .int (iZ (i : Int))), (2, .int (iZ (k : Int))), (3, .int (iZ (j : Int))), (4, .int (iZ sum)), (5, .int (iZ b)), (6, .int (iZ (to : Int))), (7, .int (iZ (fr : Int))), (8, .int (iZ ((128 * j + k : Nat) : Int))), (9, .int (iZ bt)), (10, .int (iZ sm)), (11, .int (iZ ((c + 1 : Nat) : Int)))]) d_Mo_offer_231 rfl (by decide) rfl ?_
    refine ev_goto (tgt := 199) d_Mo_offer_234 rfl ?_
    exact ih (d - 1) (by omega) (c + 1) h1 (by omega) hm (by rw [← cpy_ss (p := 16 * fr + c) (q := 16 * to + c) rfl rfl (by omega)]; exact hv2) fm
set_option maxHeartbeats 4000000 in
set_option maxRecDepth 100000 in
theorem c_Mo_offer (G : GT) (h : HM) (σ : Nat → Value) (m v1 v2 i k j to fr : Nat) (sum b : Int) (S W : Nat → Int) (hm : h m = some (.inr (11, fsN 34 σ))) (f31 : σ 31 = .ref v1) (f32 : σ 32 = .ref v2) (hv1 : h v1 = some (.inl (G_i G, 194, .inl (iA S)))) (hv2 : h v2 = some (.inl (G_i G, 3104, .inl (iA W)))) (hi : i < 16) (hk : k < 97) (hj : j < 25) (hfr : fr < 194) (hsum : 0 ≤ sum ∧ sum ≤ 100000) (hS : ∀ k, -1 ≤ S k ∧ S k ≤ 100000) (hW : ∀ k, 0 ≤ W k ∧ W k ≤ 100000) (hto : to = i % 2 * 97 + k) (hfrb : (((i + 1) % 2 * 97 : Nat) : Int) + b = (fr : Int)) (hbr : -1 ≤ b ∧ b < 97) (hne : 1 ≤ i → fr ≠ to) : Rn G M_Mo_offer (rm 0 0) [.ref m, .int (iZ (i : Int)), .int (iZ (k : Int)), .int (iZ (j : Int)), .int (iZ sum), .int (iZ b)] h (fun r h' => r = none ∧ (offB S W i to fr sum ((128 * j + k : Nat) : Int) → h' v1 = some (.inl (G_i G, 194, .inl (iA (ofS S to sum)))) ∧ h' v2 = some (.inl (G_i G, 3104, .inl (iA (ofW W fr to i ((128 * j + k : Nat) : Int)))))) ∧ (¬ offB S W i to fr sum ((128 * j + k : Nat) : Int) → h' = h) ∧ Fm [v1, v2] h h') := by
  refine rn_of (by decide) (Nat.le_of_ble_eq_true rfl) ?_
  show Ev G M_Mo_offer _ _ 0 [(0, .ref m), (1, .int (iZ (i : Int))), (2, .int (iZ (k : Int))), (3, .int (iZ (j : Int))), (4, .int (iZ sum)), (5, .int (iZ b))] [] _ 0 0
  have fm : Fm [v1, v2] h h := Fm.rf
  refine ev_iload_n d_Mo_offer_0 rfl rfl ?_
  refine ev_iconst (v := iZ 2) d_Mo_offer_1 rfl ?_
  refine ez_irem (by omega) (by omega) (by omega) (by omega) d_Mo_offer_2 ?_
  refine ev_bipush (v := iZ 97) d_Mo_offer_3 rfl ?_
  refine ez_imul d_Mo_offer_5 ?_
  refine ev_iload_n d_Mo_offer_6 rfl rfl ?_
  refine ez_iadd d_Mo_offer_7 ?_
  rw [show ((((i : Int) % 2) * 97) + (k : Int) : Int) = (to : Int) from by omega]
  refine ev_istore (L' := [(0, .ref m), (1, .int (iZ (i : Int))), (2, .int (iZ (k : Int))), (3, .int (iZ (j : Int))), (4, .int (iZ sum)), (5, .int (iZ b)), (6, .int (iZ (to : Int)))]) d_Mo_offer_8 (by decide) rfl ?_
  refine ev_iload_n d_Mo_offer_10 rfl rfl ?_
  refine ev_iconst (v := iZ 1) d_Mo_offer_11 rfl ?_
  refine ez_iadd d_Mo_offer_12 ?_
  refine ev_iconst (v := iZ 2) d_Mo_offer_13 rfl ?_
  refine ez_irem (by omega) (by omega) (by omega) (by omega) d_Mo_offer_14 ?_
  refine ev_bipush (v := iZ 97) d_Mo_offer_15 rfl ?_
  refine ez_imul d_Mo_offer_17 ?_
  refine ev_iload d_Mo_offer_18 rfl ?_
  refine ez_iadd d_Mo_offer_20 ?_
  rw [show (((((i : Int) + 1) % 2) * 97) + b : Int) = (fr : Int) from by omega]
  refine ev_istore (L' := [(0, .ref m), (1, .int (iZ (i : Int))), (2, .int (iZ (k : Int))), (3, .int (iZ (j : Int))), (4, .int (iZ sum)), (5, .int (iZ b)), (6, .int (iZ (to : Int))), (7, .int (iZ (fr : Int)))]) d_Mo_offer_21 (by decide) rfl ?_
  refine ev_sipush (v := iZ 128) d_Mo_offer_23 rfl ?_
  refine ev_iload_n d_Mo_offer_26 rfl rfl ?_
  refine ez_imul d_Mo_offer_27 ?_
  refine ev_iload_n d_Mo_offer_28 rfl rfl ?_
  refine ez_iadd d_Mo_offer_29 ?_
  rw [show ((128 * (j : Int)) + (k : Int) : Int) = ((128 * j + k : Nat) : Int) from by omega]
  refine ev_istore (L' := [(0, .ref m), (1, .int (iZ (i : Int))), (2, .int (iZ (k : Int))), (3, .int (iZ (j : Int))), (4, .int (iZ sum)), (5, .int (iZ b)), (6, .int (iZ (to : Int))), (7, .int (iZ (fr : Int))), (8, .int (iZ ((128 * j + k : Nat) : Int)))]) d_Mo_offer_30 (by decide) rfl ?_
  refine ev_aload_n d_Mo_offer_32 rfl rfl ?_
  refine ev_getF d_Mo_offer_33 fl_Mo_75 hm (by decide) f31 ?_
  refine ev_iload d_Mo_offer_36 rfl ?_
  refine ez_iaload to d_Mo_offer_38 hv1 (by omega) (by omega) (by decide) ?_
  have rg38 := hS to
  refine ez_if_lt (tgt := 54) (by omega) d_Mo_offer_39 rfl (fun c39 => ?_) (fun c39 => ?_)
  · refine ev_iconst (v := iZ 1) d_Mo_offer_54 rfl ?_
    refine ev_goto (tgt := 59) d_Mo_offer_55 rfl ?_
    refine ev_istore (L' := [(0, .ref m), (1, .int (iZ (i : Int))), (2, .int (iZ (k : Int))), (3, .int (iZ (j : Int))), (4, .int (iZ sum)), (5, .int (iZ b)), (6, .int (iZ (to : Int))), (7, .int (iZ (fr : Int))), (8, .int (iZ ((128 * j + k : Nat) : Int))), (9, .int (iZ 1))]) d_Mo_offer_59 (by decide) rfl ?_
    refine ev_iload d_Mo_offer_61 rfl ?_
    refine ev_aload_n d_Mo_offer_63 rfl rfl ?_
    refine ev_getF d_Mo_offer_64 fl_Mo_75 hm (by decide) f31 ?_
    refine ev_iload d_Mo_offer_67 rfl ?_
    refine ez_iaload to d_Mo_offer_69 hv1 (by omega) (by omega) (by decide) ?_
    have rg69 := hS to
    refine ez_icmp_ne (tgt := 77) (by omega) (by omega) d_Mo_offer_70 rfl (fun c70 => ?_) (fun c70 => absurd c70 (by omega))
    refine ev_iconst (v := iZ 0) d_Mo_offer_77 rfl ?_
    refine ev_istore (L' := [(0, .ref m), (1, .int (iZ (i : Int))), (2, .int (iZ (k : Int))), (3, .int (iZ (j : Int))), (4, .int (iZ sum)), (5, .int (iZ b)), (6, .int (iZ (to : Int))), (7, .int (iZ (fr : Int))), (8, .int (iZ ((128 * j + k : Nat) : Int))), (9, .int (iZ 1)), (10, .int (iZ 0))]) d_Mo_offer_78 (by decide) rfl ?_
    refine ev_iconst (v := iZ 0) d_Mo_offer_80 rfl ?_
    refine ev_istore (L' := [(0, .ref m), (1, .int (iZ (i : Int))), (2, .int (iZ (k : Int))), (3, .int (iZ (j : Int))), (4, .int (iZ sum)), (5, .int (iZ b)), (6, .int (iZ (to : Int))), (7, .int (iZ (fr : Int))), (8, .int (iZ ((128 * j + k : Nat) : Int))), (9, .int (iZ 1)), (10, .int (iZ 0)), (11, .int (iZ 0))]) d_Mo_offer_81 (by decide) rfl ?_
    refine lp_Mo_off1 G _ h σ m v1 v2 i k j to fr sum b S W hm f31 f32 hv1 hv2 hi hk hj (by omega) hfr hsum hS hW ?_ (i + 1) 0 1 0 (by omega) (offI_0.1 (by omega) (by omega))
    rintro c bt sm ⟨hbo, hbt⟩
    refine ev_iload d_Mo_offer_181 rfl ?_
    refine ez_if_ne (tgt := 187) (by omega) d_Mo_offer_183 rfl (fun c183 => ?_) (fun c183 => ?_)
    · have hob : offB S W i to fr sum ((128 * j + k : Nat) : Int) := hbo.mp (by omega)
      refine ev_aload_n d_Mo_offer_187 rfl rfl ?_
      refine ev_getF d_Mo_offer_188 fl_Mo_75 hm (by decide) f31 ?_
      refine ev_iload d_Mo_offer_191 rfl ?_
      refine ev_iload d_Mo_offer_193 rfl ?_
      refine ez_iastore (F' := zup S to sum) to d_Mo_offer_195 hv1 (by omega) (by omega) (by decide) rfl (fun h1 h1a h1o => ?_)
      have hm := (h1o _ (cne hm hv1 (by simp))).trans hm
      have hv2 := (h1o _ (cne hv2 hv1 (by simp))).trans hv2
      have hv1 := h1a
      have fm := fm.step (by simp) h1o
      refine ev_iconst (v := iZ 0) d_Mo_offer_196 rfl ?_
      refine ev_istore (L' := [(0, .ref m), (1, .int (iZ (i : Int))), (2, .int (iZ (k : Int))), (3, .int (iZ (j : Int))), (4, .int (iZ sum)), (5, .int (iZ b)), (6, .int (iZ (to : Int))), (7, .int (iZ (fr : Int))), (8, .int (iZ ((128 * j + k : Nat) : Int))), (9, .int (iZ bt)), (10, .int (iZ sm)), (11, .int (iZ 0))]) d_Mo_offer_197 (by decide) rfl ?_
      skip
      refine lp_Mo_off2 G _ h1 σ m v2 i k j to fr sum b W bt sm f32 hi (by omega) hfr hne ?_ i 0 h1 (by omega) hm (by rw [cpy_z]; exact hv2) Fm.rf
      rintro h9 z rfl hm gv2 fm2
      have hv1 := (fm2 _ (ninc (cne hv1 hv2 (by simp)) nin0)).trans hv1
      have hv2 := gv2
      have fm := fm.call (by simp) fm2
      refine ev_aload_n d_Mo_offer_237 rfl rfl ?_
      refine ev_getF d_Mo_offer_238 fl_Mo_78 hm (by decide) f32 ?_
      refine ev_bipush (v := iZ 16) d_Mo_offer_241 rfl ?_
      refine ev_iload d_Mo_offer_243 rfl ?_
      refine ez_imul d_Mo_offer_245 ?_
      refine ev_iload_n d_Mo_offer_246 rfl rfl ?_
      refine ez_iadd d_Mo_offer_247 ?_
      refine ev_iload d_Mo_offer_248 rfl ?_
      refine ez_iastore (F' := zup (va_cpy W W (16 * fr) (16 * to) z) (16 * to + z) ((128 * j + k : Nat) : Int)) (16 * to + z) d_Mo_offer_250 hv2 (by omega) (by omega) (by decide) rfl (fun h2 h2a h2o => ?_)
      have hm := (h2o _ (cne hm hv2 (by simp))).trans hm
      have hv1 := (h2o _ (cne hv1 hv2 (by simp))).trans hv1
      have hv2 := h2a
      have fm := fm.step (by simp) h2o
      exact ev_return d_Mo_offer_251 rfl (by decide) (by decide) (⟨rfl, fun _ => ⟨hv1, hv2⟩, fun q => absurd hob q, fm⟩)
    · exact ev_return d_Mo_offer_186 rfl (by decide) (by decide) (⟨rfl, fun q => absurd (hbo.mpr q) (by omega), fun _ => rfl, fm⟩)
  · refine ev_iload d_Mo_offer_42 rfl ?_
    refine ev_aload_n d_Mo_offer_44 rfl rfl ?_
    refine ev_getF d_Mo_offer_45 fl_Mo_75 hm (by decide) f31 ?_
    refine ev_iload d_Mo_offer_48 rfl ?_
    refine ez_iaload to d_Mo_offer_50 hv1 (by omega) (by omega) (by decide) ?_
    have rg50 := hS to
    refine ez_icmp_ge (tgt := 58) (by omega) (by omega) d_Mo_offer_51 rfl (fun c51 => ?_) (fun c51 => ?_)
    · refine ev_iconst (v := iZ 0) d_Mo_offer_58 rfl ?_
      refine ev_istore (L' := [(0, .ref m), (1, .int (iZ (i : Int))), (2, .int (iZ (k : Int))), (3, .int (iZ (j : Int))), (4, .int (iZ sum)), (5, .int (iZ b)), (6, .int (iZ (to : Int))), (7, .int (iZ (fr : Int))), (8, .int (iZ ((128 * j + k : Nat) : Int))), (9, .int (iZ 0))]) d_Mo_offer_59 (by decide) rfl ?_
      refine ev_iload d_Mo_offer_61 rfl ?_
      refine ev_aload_n d_Mo_offer_63 rfl rfl ?_
      refine ev_getF d_Mo_offer_64 fl_Mo_75 hm (by decide) f31 ?_
      refine ev_iload d_Mo_offer_67 rfl ?_
      refine ez_iaload to d_Mo_offer_69 hv1 (by omega) (by omega) (by decide) ?_
      have rg69 := hS to
      refine ez_icmp_ne (tgt := 77) (by omega) (by omega) d_Mo_offer_70 rfl (fun c70 => ?_) (fun c70 => ?_)
      · refine ev_iconst (v := iZ 0) d_Mo_offer_77 rfl ?_
        refine ev_istore (L' := [(0, .ref m), (1, .int (iZ (i : Int))), (2, .int (iZ (k : Int))), (3, .int (iZ (j : Int))), (4, .int (iZ sum)), (5, .int (iZ b)), (6, .int (iZ (to : Int))), (7, .int (iZ (fr : Int))), (8, .int (iZ ((128 * j + k : Nat) : Int))), (9, .int (iZ 0)), (10, .int (iZ 0))]) d_Mo_offer_78 (by decide) rfl ?_
        refine ev_iconst (v := iZ 0) d_Mo_offer_80 rfl ?_
        refine ev_istore (L' := [(0, .ref m), (1, .int (iZ (i : Int))), (2, .int (iZ (k : Int))), (3, .int (iZ (j : Int))), (4, .int (iZ sum)), (5, .int (iZ b)), (6, .int (iZ (to : Int))), (7, .int (iZ (fr : Int))), (8, .int (iZ ((128 * j + k : Nat) : Int))), (9, .int (iZ 0)), (10, .int (iZ 0)), (11, .int (iZ 0))]) d_Mo_offer_81 (by decide) rfl ?_
        refine lp_Mo_off1 G _ h σ m v1 v2 i k j to fr sum b S W hm f31 f32 hv1 hv2 hi hk hj (by omega) hfr hsum hS hW ?_ (i + 1) 0 0 0 (by omega) (offI_0.2.1 (by omega) (by omega))
        rintro c bt sm ⟨hbo, hbt⟩
        refine ev_iload d_Mo_offer_181 rfl ?_
        refine ez_if_ne (tgt := 187) (by omega) d_Mo_offer_183 rfl (fun c183 => ?_) (fun c183 => ?_)
        · have hob : offB S W i to fr sum ((128 * j + k : Nat) : Int) := hbo.mp (by omega)
          refine ev_aload_n d_Mo_offer_187 rfl rfl ?_
          refine ev_getF d_Mo_offer_188 fl_Mo_75 hm (by decide) f31 ?_
          refine ev_iload d_Mo_offer_191 rfl ?_
          refine ev_iload d_Mo_offer_193 rfl ?_
          refine ez_iastore (F' := zup S to sum) to d_Mo_offer_195 hv1 (by omega) (by omega) (by decide) rfl (fun h3 h3a h3o => ?_)
          have hm := (h3o _ (cne hm hv1 (by simp))).trans hm
          have hv2 := (h3o _ (cne hv2 hv1 (by simp))).trans hv2
          have hv1 := h3a
          have fm := fm.step (by simp) h3o
          refine ev_iconst (v := iZ 0) d_Mo_offer_196 rfl ?_
          refine ev_istore (L' := [(0, .ref m), (1, .int (iZ (i : Int))), (2, .int (iZ (k : Int))), (3, .int (iZ (j : Int))), (4, .int (iZ sum)), (5, .int (iZ b)), (6, .int (iZ (to : Int))), (7, .int (iZ (fr : Int))), (8, .int (iZ ((128 * j + k : Nat) : Int))), (9, .int (iZ bt)), (10, .int (iZ sm)), (11, .int (iZ 0))]) d_Mo_offer_197 (by decide) rfl ?_
          skip
          refine lp_Mo_off2 G _ h3 σ m v2 i k j to fr sum b W bt sm f32 hi (by omega) hfr hne ?_ i 0 h3 (by omega) hm (by rw [cpy_z]; exact hv2) Fm.rf
          rintro h9 z rfl hm gv2 fm2
          have hv1 := (fm2 _ (ninc (cne hv1 hv2 (by simp)) nin0)).trans hv1
          have hv2 := gv2
          have fm := fm.call (by simp) fm2
          refine ev_aload_n d_Mo_offer_237 rfl rfl ?_
          refine ev_getF d_Mo_offer_238 fl_Mo_78 hm (by decide) f32 ?_
          refine ev_bipush (v := iZ 16) d_Mo_offer_241 rfl ?_
          refine ev_iload d_Mo_offer_243 rfl ?_
          refine ez_imul d_Mo_offer_245 ?_
          refine ev_iload_n d_Mo_offer_246 rfl rfl ?_
          refine ez_iadd d_Mo_offer_247 ?_
          refine ev_iload d_Mo_offer_248 rfl ?_
          refine ez_iastore (F' := zup (va_cpy W W (16 * fr) (16 * to) z) (16 * to + z) ((128 * j + k : Nat) : Int)) (16 * to + z) d_Mo_offer_250 hv2 (by omega) (by omega) (by decide) rfl (fun h4 h4a h4o => ?_)
          have hm := (h4o _ (cne hm hv2 (by simp))).trans hm
          have hv1 := (h4o _ (cne hv1 hv2 (by simp))).trans hv1
          have hv2 := h4a
          have fm := fm.step (by simp) h4o
          exact ev_return d_Mo_offer_251 rfl (by decide) (by decide) (⟨rfl, fun _ => ⟨hv1, hv2⟩, fun q => absurd hob q, fm⟩)
        · exact ev_return d_Mo_offer_186 rfl (by decide) (by decide) (⟨rfl, fun q => absurd (hbo.mpr q) (by omega), fun _ => rfl, fm⟩)
      · refine ev_iconst (v := iZ 1) d_Mo_offer_73 rfl ?_
        refine ev_goto (tgt := 78) d_Mo_offer_74 rfl ?_
        refine ev_istore (L' := [(0, .ref m), (1, .int (iZ (i : Int))), (2, .int (iZ (k : Int))), (3, .int (iZ (j : Int))), (4, .int (iZ sum)), (5, .int (iZ b)), (6, .int (iZ (to : Int))), (7, .int (iZ (fr : Int))), (8, .int (iZ ((128 * j + k : Nat) : Int))), (9, .int (iZ 0)), (10, .int (iZ 1))]) d_Mo_offer_78 (by decide) rfl ?_
        refine ev_iconst (v := iZ 0) d_Mo_offer_80 rfl ?_
        refine ev_istore (L' := [(0, .ref m), (1, .int (iZ (i : Int))), (2, .int (iZ (k : Int))), (3, .int (iZ (j : Int))), (4, .int (iZ sum)), (5, .int (iZ b)), (6, .int (iZ (to : Int))), (7, .int (iZ (fr : Int))), (8, .int (iZ ((128 * j + k : Nat) : Int))), (9, .int (iZ 0)), (10, .int (iZ 1)), (11, .int (iZ 0))]) d_Mo_offer_81 (by decide) rfl ?_
        refine lp_Mo_off1 G _ h σ m v1 v2 i k j to fr sum b S W hm f31 f32 hv1 hv2 hi hk hj (by omega) hfr hsum hS hW ?_ (i + 1) 0 0 1 (by omega) (offI_0.2.2 (by omega) (by omega))
        rintro c bt sm ⟨hbo, hbt⟩
        refine ev_iload d_Mo_offer_181 rfl ?_
        refine ez_if_ne (tgt := 187) (by omega) d_Mo_offer_183 rfl (fun c183 => ?_) (fun c183 => ?_)
        · have hob : offB S W i to fr sum ((128 * j + k : Nat) : Int) := hbo.mp (by omega)
          refine ev_aload_n d_Mo_offer_187 rfl rfl ?_
          refine ev_getF d_Mo_offer_188 fl_Mo_75 hm (by decide) f31 ?_
          refine ev_iload d_Mo_offer_191 rfl ?_
          refine ev_iload d_Mo_offer_193 rfl ?_
          refine ez_iastore (F' := zup S to sum) to d_Mo_offer_195 hv1 (by omega) (by omega) (by decide) rfl (fun h5 h5a h5o => ?_)
          have hm := (h5o _ (cne hm hv1 (by simp))).trans hm
          have hv2 := (h5o _ (cne hv2 hv1 (by simp))).trans hv2
          have hv1 := h5a
          have fm := fm.step (by simp) h5o
          refine ev_iconst (v := iZ 0) d_Mo_offer_196 rfl ?_
          refine ev_istore (L' := [(0, .ref m), (1, .int (iZ (i : Int))), (2, .int (iZ (k : Int))), (3, .int (iZ (j : Int))), (4, .int (iZ sum)), (5, .int (iZ b)), (6, .int (iZ (to : Int))), (7, .int (iZ (fr : Int))), (8, .int (iZ ((128 * j + k : Nat) : Int))), (9, .int (iZ bt)), (10, .int (iZ sm)), (11, .int (iZ 0))]) d_Mo_offer_197 (by decide) rfl ?_
          skip
          refine lp_Mo_off2 G _ h5 σ m v2 i k j to fr sum b W bt sm f32 hi (by omega) hfr hne ?_ i 0 h5 (by omega) hm (by rw [cpy_z]; exact hv2) Fm.rf
          rintro h9 z rfl hm gv2 fm2
          have hv1 := (fm2 _ (ninc (cne hv1 hv2 (by simp)) nin0)).trans hv1
          have hv2 := gv2
          have fm := fm.call (by simp) fm2
          refine ev_aload_n d_Mo_offer_237 rfl rfl ?_
          refine ev_getF d_Mo_offer_238 fl_Mo_78 hm (by decide) f32 ?_
          refine ev_bipush (v := iZ 16) d_Mo_offer_241 rfl ?_
          refine ev_iload d_Mo_offer_243 rfl ?_
          refine ez_imul d_Mo_offer_245 ?_
          refine ev_iload_n d_Mo_offer_246 rfl rfl ?_
          refine ez_iadd d_Mo_offer_247 ?_
          refine ev_iload d_Mo_offer_248 rfl ?_
          refine ez_iastore (F' := zup (va_cpy W W (16 * fr) (16 * to) z) (16 * to + z) ((128 * j + k : Nat) : Int)) (16 * to + z) d_Mo_offer_250 hv2 (by omega) (by omega) (by decide) rfl (fun h6 h6a h6o => ?_)
          have hm := (h6o _ (cne hm hv2 (by simp))).trans hm
          have hv1 := (h6o _ (cne hv1 hv2 (by simp))).trans hv1
          have hv2 := h6a
          have fm := fm.step (by simp) h6o
          exact ev_return d_Mo_offer_251 rfl (by decide) (by decide) (⟨rfl, fun _ => ⟨hv1, hv2⟩, fun q => absurd hob q, fm⟩)
        · exact ev_return d_Mo_offer_186 rfl (by decide) (by decide) (⟨rfl, fun q => absurd (hbo.mpr q) (by omega), fun _ => rfl, fm⟩)
    · refine ev_iconst (v := iZ 1) d_Mo_offer_54 rfl ?_
      refine ev_goto (tgt := 59) d_Mo_offer_55 rfl ?_
      refine ev_istore (L' := [(0, .ref m), (1, .int (iZ (i : Int))), (2, .int (iZ (k : Int))), (3, .int (iZ (j : Int))), (4, .int (iZ sum)), (5, .int (iZ b)), (6, .int (iZ (to : Int))), (7, .int (iZ (fr : Int))), (8, .int (iZ ((128 * j + k : Nat) : Int))), (9, .int (iZ 1))]) d_Mo_offer_59 (by decide) rfl ?_
      refine ev_iload d_Mo_offer_61 rfl ?_
      refine ev_aload_n d_Mo_offer_63 rfl rfl ?_
      refine ev_getF d_Mo_offer_64 fl_Mo_75 hm (by decide) f31 ?_
      refine ev_iload d_Mo_offer_67 rfl ?_
      refine ez_iaload to d_Mo_offer_69 hv1 (by omega) (by omega) (by decide) ?_
      have rg69 := hS to
      refine ez_icmp_ne (tgt := 77) (by omega) (by omega) d_Mo_offer_70 rfl (fun c70 => ?_) (fun c70 => absurd c70 (by omega))
      refine ev_iconst (v := iZ 0) d_Mo_offer_77 rfl ?_
      refine ev_istore (L' := [(0, .ref m), (1, .int (iZ (i : Int))), (2, .int (iZ (k : Int))), (3, .int (iZ (j : Int))), (4, .int (iZ sum)), (5, .int (iZ b)), (6, .int (iZ (to : Int))), (7, .int (iZ (fr : Int))), (8, .int (iZ ((128 * j + k : Nat) : Int))), (9, .int (iZ 1)), (10, .int (iZ 0))]) d_Mo_offer_78 (by decide) rfl ?_
      refine ev_iconst (v := iZ 0) d_Mo_offer_80 rfl ?_
      refine ev_istore (L' := [(0, .ref m), (1, .int (iZ (i : Int))), (2, .int (iZ (k : Int))), (3, .int (iZ (j : Int))), (4, .int (iZ sum)), (5, .int (iZ b)), (6, .int (iZ (to : Int))), (7, .int (iZ (fr : Int))), (8, .int (iZ ((128 * j + k : Nat) : Int))), (9, .int (iZ 1)), (10, .int (iZ 0)), (11, .int (iZ 0))]) d_Mo_offer_81 (by decide) rfl ?_
      refine lp_Mo_off1 G _ h σ m v1 v2 i k j to fr sum b S W hm f31 f32 hv1 hv2 hi hk hj (by omega) hfr hsum hS hW ?_ (i + 1) 0 1 0 (by omega) (offI_0.1 (by omega) (by omega))
      rintro c bt sm ⟨hbo, hbt⟩
      refine ev_iload d_Mo_offer_181 rfl ?_
      refine ez_if_ne (tgt := 187) (by omega) d_Mo_offer_183 rfl (fun c183 => ?_) (fun c183 => ?_)
      · have hob : offB S W i to fr sum ((128 * j + k : Nat) : Int) := hbo.mp (by omega)
        refine ev_aload_n d_Mo_offer_187 rfl rfl ?_
        refine ev_getF d_Mo_offer_188 fl_Mo_75 hm (by decide) f31 ?_
        refine ev_iload d_Mo_offer_191 rfl ?_
        refine ev_iload d_Mo_offer_193 rfl ?_
        refine ez_iastore (F' := zup S to sum) to d_Mo_offer_195 hv1 (by omega) (by omega) (by decide) rfl (fun h7 h7a h7o => ?_)
        have hm := (h7o _ (cne hm hv1 (by simp))).trans hm
        have hv2 := (h7o _ (cne hv2 hv1 (by simp))).trans hv2
        have hv1 := h7a
        have fm := fm.step (by simp) h7o
        refine ev_iconst (v := iZ 0) d_Mo_offer_196 rfl ?_
        refine ev_istore (L' := [(0, .ref m), (1, .int (iZ (i : Int))), (2, .int (iZ (k : Int))), (3, .int (iZ (j : Int))), (4, .int (iZ sum)), (5, .int (iZ b)), (6, .int (iZ (to : Int))), (7, .int (iZ (fr : Int))), (8, .int (iZ ((128 * j + k : Nat) : Int))), (9, .int (iZ bt)), (10, .int (iZ sm)), (11, .int (iZ 0))]) d_Mo_offer_197 (by decide) rfl ?_
        skip
        refine lp_Mo_off2 G _ h7 σ m v2 i k j to fr sum b W bt sm f32 hi (by omega) hfr hne ?_ i 0 h7 (by omega) hm (by rw [cpy_z]; exact hv2) Fm.rf
        rintro h9 z rfl hm gv2 fm2
        have hv1 := (fm2 _ (ninc (cne hv1 hv2 (by simp)) nin0)).trans hv1
        have hv2 := gv2
        have fm := fm.call (by simp) fm2
        refine ev_aload_n d_Mo_offer_237 rfl rfl ?_
        refine ev_getF d_Mo_offer_238 fl_Mo_78 hm (by decide) f32 ?_
        refine ev_bipush (v := iZ 16) d_Mo_offer_241 rfl ?_
        refine ev_iload d_Mo_offer_243 rfl ?_
        refine ez_imul d_Mo_offer_245 ?_
        refine ev_iload_n d_Mo_offer_246 rfl rfl ?_
        refine ez_iadd d_Mo_offer_247 ?_
        refine ev_iload d_Mo_offer_248 rfl ?_
        refine ez_iastore (F' := zup (va_cpy W W (16 * fr) (16 * to) z) (16 * to + z) ((128 * j + k : Nat) : Int)) (16 * to + z) d_Mo_offer_250 hv2 (by omega) (by omega) (by decide) rfl (fun h8 h8a h8o => ?_)
        have hm := (h8o _ (cne hm hv2 (by simp))).trans hm
        have hv1 := (h8o _ (cne hv1 hv2 (by simp))).trans hv1
        have hv2 := h8a
        have fm := fm.step (by simp) h8o
        exact ev_return d_Mo_offer_251 rfl (by decide) (by decide) (⟨rfl, fun _ => ⟨hv1, hv2⟩, fun q => absurd hob q, fm⟩)
      · exact ev_return d_Mo_offer_186 rfl (by decide) (by decide) (⟨rfl, fun q => absurd (hbo.mpr q) (by omega), fun _ => rfl, fm⟩)
