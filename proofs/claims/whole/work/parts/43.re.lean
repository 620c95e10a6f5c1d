theorem d_Mo_addByte_0 : decode M_Mo_addByte.2.1 0 = .ok (.aload_n 0, 1) := by decide +kernel
theorem d_Mo_addByte_1 : decode M_Mo_addByte.2.1 1 = .ok (.getfield 57, 3) := by decide +kernel
theorem d_Mo_addByte_4 : decode M_Mo_addByte.2.1 4 = .ok (.bipush 64, 2) := by decide +kernel
theorem d_Mo_addByte_6 : decode M_Mo_addByte.2.1 6 = .ok (.aload_n 0, 1) := by decide +kernel
theorem d_Mo_addByte_7 : decode M_Mo_addByte.2.1 7 = .ok (.getfield 140, 3) := by decide +kernel
theorem d_Mo_addByte_10 : decode M_Mo_addByte.2.1 10 = .ok (.imul, 1) := by decide +kernel
theorem d_Mo_addByte_11 : decode M_Mo_addByte.2.1 11 = .ok (.aload_n 0, 1) := by decide +kernel
theorem d_Mo_addByte_12 : decode M_Mo_addByte.2.1 12 = .ok (.getfield 54, 3) := by decide +kernel
theorem d_Mo_addByte_15 : decode M_Mo_addByte.2.1 15 = .ok (.aload_n 0, 1) := by decide +kernel
theorem d_Mo_addByte_16 : decode M_Mo_addByte.2.1 16 = .ok (.getfield 140, 3) := by decide +kernel
theorem d_Mo_addByte_19 : decode M_Mo_addByte.2.1 19 = .ok (.iaload, 1) := by decide +kernel
theorem d_Mo_addByte_20 : decode M_Mo_addByte.2.1 20 = .ok (.iadd, 1) := by decide +kernel
theorem d_Mo_addByte_21 : decode M_Mo_addByte.2.1 21 = .ok (.iload_n 1, 1) := by decide +kernel
theorem d_Mo_addByte_22 : decode M_Mo_addByte.2.1 22 = .ok (.iastore, 1) := by decide +kernel
theorem d_Mo_addByte_23 : decode M_Mo_addByte.2.1 23 = .ok (.aload_n 0, 1) := by decide +kernel
theorem d_Mo_addByte_24 : decode M_Mo_addByte.2.1 24 = .ok (.getfield 54, 3) := by decide +kernel
theorem d_Mo_addByte_27 : decode M_Mo_addByte.2.1 27 = .ok (.aload_n 0, 1) := by decide +kernel
theorem d_Mo_addByte_28 : decode M_Mo_addByte.2.1 28 = .ok (.getfield 140, 3) := by decide +kernel
theorem d_Mo_addByte_31 : decode M_Mo_addByte.2.1 31 = .ok (.dup2, 1) := by decide +kernel
theorem d_Mo_addByte_32 : decode M_Mo_addByte.2.1 32 = .ok (.iaload, 1) := by decide +kernel
theorem d_Mo_addByte_33 : decode M_Mo_addByte.2.1 33 = .ok (.iconst 1, 1) := by decide +kernel
theorem d_Mo_addByte_34 : decode M_Mo_addByte.2.1 34 = .ok (.iadd, 1) := by decide +kernel
theorem d_Mo_addByte_35 : decode M_Mo_addByte.2.1 35 = .ok (.iastore, 1) := by decide +kernel
theorem d_Mo_addByte_36 : decode M_Mo_addByte.2.1 36 = .ok (.return_, 1) := by decide +kernel
theorem d_Mo_latest_0 : decode M_Mo_latest.2.1 0 = .ok (.aload_n 0, 1) := by decide +kernel
theorem d_Mo_latest_1 : decode M_Mo_latest.2.1 1 = .ok (.getfield 54, 3) := by decide +kernel
theorem d_Mo_latest_4 : decode M_Mo_latest.2.1 4 = .ok (.aload_n 0, 1) := by decide +kernel
theorem d_Mo_latest_5 : decode M_Mo_latest.2.1 5 = .ok (.getfield 140, 3) := by decide +kernel
theorem d_Mo_latest_8 : decode M_Mo_latest.2.1 8 = .ok (.iaload, 1) := by decide +kernel
theorem d_Mo_latest_9 : decode M_Mo_latest.2.1 9 = .ok (.ifCond .ne 7, 3) := by decide +kernel
theorem d_Mo_latest_12 : decode M_Mo_latest.2.1 12 = .ok (.iconst (-1), 1) := by decide +kernel
theorem d_Mo_latest_13 : decode M_Mo_latest.2.1 13 = .ok (.goto 27, 3) := by decide +kernel
theorem d_Mo_latest_16 : decode M_Mo_latest.2.1 16 = .ok (.aload_n 0, 1) := by decide +kernel
theorem d_Mo_latest_17 : decode M_Mo_latest.2.1 17 = .ok (.getfield 57, 3) := by decide +kernel
theorem d_Mo_latest_20 : decode M_Mo_latest.2.1 20 = .ok (.bipush 64, 2) := by decide +kernel
theorem d_Mo_latest_22 : decode M_Mo_latest.2.1 22 = .ok (.aload_n 0, 1) := by decide +kernel
theorem d_Mo_latest_23 : decode M_Mo_latest.2.1 23 = .ok (.getfield 140, 3) := by decide +kernel
theorem d_Mo_latest_26 : decode M_Mo_latest.2.1 26 = .ok (.imul, 1) := by decide +kernel
theorem d_Mo_latest_27 : decode M_Mo_latest.2.1 27 = .ok (.aload_n 0, 1) := by decide +kernel
theorem d_Mo_latest_28 : decode M_Mo_latest.2.1 28 = .ok (.getfield 54, 3) := by decide +kernel
theorem d_Mo_latest_31 : decode M_Mo_latest.2.1 31 = .ok (.aload_n 0, 1) := by decide +kernel
theorem d_Mo_latest_32 : decode M_Mo_latest.2.1 32 = .ok (.getfield 140, 3) := by decide +kernel
theorem d_Mo_latest_35 : decode M_Mo_latest.2.1 35 = .ok (.iaload, 1) := by decide +kernel
theorem d_Mo_latest_36 : decode M_Mo_latest.2.1 36 = .ok (.iadd, 1) := by decide +kernel
theorem d_Mo_latest_37 : decode M_Mo_latest.2.1 37 = .ok (.iconst 1, 1) := by decide +kernel
theorem d_Mo_latest_38 : decode M_Mo_latest.2.1 38 = .ok (.isub, 1) := by decide +kernel
theorem d_Mo_latest_39 : decode M_Mo_latest.2.1 39 = .ok (.iaload, 1) := by decide +kernel
theorem d_Mo_latest_40 : decode M_Mo_latest.2.1 40 = .ok (.ireturn, 1) := by decide +kernel
theorem d_Mo_takeLines_0 : decode M_Mo_takeLines.2.1 0 = .ok (.iconst 1, 1) := by decide +kernel
theorem d_Mo_takeLines_1 : decode M_Mo_takeLines.2.1 1 = .ok (.istore_n 1, 1) := by decide +kernel
theorem d_Mo_takeLines_2 : decode M_Mo_takeLines.2.1 2 = .ok (.iconst 0, 1) := by decide +kernel
theorem d_Mo_takeLines_3 : decode M_Mo_takeLines.2.1 3 = .ok (.istore_n 2, 1) := by decide +kernel
theorem d_Mo_takeLines_4 : decode M_Mo_takeLines.2.1 4 = .ok (.iload_n 2, 1) := by decide +kernel
theorem d_Mo_takeLines_5 : decode M_Mo_takeLines.2.1 5 = .ok (.ifCond .ne 148, 3) := by decide +kernel
theorem d_Mo_takeLines_8 : decode M_Mo_takeLines.2.1 8 = .ok (.aload_n 0, 1) := by decide +kernel
theorem d_Mo_takeLines_9 : decode M_Mo_takeLines.2.1 9 = .ok (.getfield 107, 3) := by decide +kernel
theorem d_Mo_takeLines_12 : decode M_Mo_takeLines.2.1 12 = .ok (.ifCond .ge 141, 3) := by decide +kernel
theorem d_Mo_takeLines_15 : decode M_Mo_takeLines.2.1 15 = .ok (.aload_n 0, 1) := by decide +kernel
theorem d_Mo_takeLines_16 : decode M_Mo_takeLines.2.1 16 = .ok (.invokevirtual 113, 3) := by decide +kernel
theorem d_Mo_takeLines_19 : decode M_Mo_takeLines.2.1 19 = .ok (.istore_n 3, 1) := by decide +kernel
theorem d_Mo_takeLines_20 : decode M_Mo_takeLines.2.1 20 = .ok (.aload_n 0, 1) := by decide +kernel
theorem d_Mo_takeLines_21 : decode M_Mo_takeLines.2.1 21 = .ok (.getfield 54, 3) := by decide +kernel
theorem d_Mo_takeLines_24 : decode M_Mo_takeLines.2.1 24 = .ok (.aload_n 0, 1) := by decide +kernel
theorem d_Mo_takeLines_25 : decode M_Mo_takeLines.2.1 25 = .ok (.getfield 140, 3) := by decide +kernel
theorem d_Mo_takeLines_28 : decode M_Mo_takeLines.2.1 28 = .ok (.iaload, 1) := by decide +kernel
theorem d_Mo_takeLines_29 : decode M_Mo_takeLines.2.1 29 = .ok (.istore 4, 2) := by decide +kernel
theorem d_Mo_takeLines_31 : decode M_Mo_takeLines.2.1 31 = .ok (.iload_n 3, 1) := by decide +kernel
theorem d_Mo_takeLines_32 : decode M_Mo_takeLines.2.1 32 = .ok (.bipush 10, 2) := by decide +kernel
theorem d_Mo_takeLines_34 : decode M_Mo_takeLines.2.1 34 = .ok (.if_icmp .ne 41, 3) := by decide +kernel
theorem d_Mo_takeLines_37 : decode M_Mo_takeLines.2.1 37 = .ok (.iload_n 1, 1) := by decide +kernel
theorem d_Mo_takeLines_38 : decode M_Mo_takeLines.2.1 38 = .ok (.ifCond .eq 12, 3) := by decide +kernel
theorem d_Mo_takeLines_41 : decode M_Mo_takeLines.2.1 41 = .ok (.iload 4, 2) := by decide +kernel
theorem d_Mo_takeLines_43 : decode M_Mo_takeLines.2.1 43 = .ok (.ifCond .le 7, 3) := by decide +kernel
theorem d_Mo_takeLines_46 : decode M_Mo_takeLines.2.1 46 = .ok (.iconst 1, 1) := by decide +kernel
theorem d_Mo_takeLines_47 : decode M_Mo_takeLines.2.1 47 = .ok (.goto 4, 3) := by decide +kernel
theorem d_Mo_takeLines_50 : decode M_Mo_takeLines.2.1 50 = .ok (.iconst 0, 1) := by decide +kernel
theorem d_Mo_takeLines_51 : decode M_Mo_takeLines.2.1 51 = .ok (.istore_n 2, 1) := by decide +kernel
theorem d_Mo_takeLines_52 : decode M_Mo_takeLines.2.1 52 = .ok (.aload_n 0, 1) := by decide +kernel
theorem d_Mo_takeLines_53 : decode M_Mo_takeLines.2.1 53 = .ok (.iload_n 1, 1) := by decide +kernel
theorem d_Mo_takeLines_54 : decode M_Mo_takeLines.2.1 54 = .ok (.ifCond .eq 8, 3) := by decide +kernel
theorem d_Mo_takeLines_57 : decode M_Mo_takeLines.2.1 57 = .ok (.iload 4, 2) := by decide +kernel
theorem d_Mo_takeLines_59 : decode M_Mo_takeLines.2.1 59 = .ok (.ifCond .le 7, 3) := by decide +kernel
theorem d_Mo_takeLines_62 : decode M_Mo_takeLines.2.1 62 = .ok (.iconst 1, 1) := by decide +kernel
theorem d_Mo_takeLines_63 : decode M_Mo_takeLines.2.1 63 = .ok (.goto 4, 3) := by decide +kernel
theorem d_Mo_takeLines_66 : decode M_Mo_takeLines.2.1 66 = .ok (.iconst 0, 1) := by decide +kernel
theorem d_Mo_takeLines_67 : decode M_Mo_takeLines.2.1 67 = .ok (.invokevirtual 117, 3) := by decide +kernel
theorem d_Mo_takeLines_70 : decode M_Mo_takeLines.2.1 70 = .ok (.iconst 1, 1) := by decide +kernel
theorem d_Mo_takeLines_71 : decode M_Mo_takeLines.2.1 71 = .ok (.istore_n 1, 1) := by decide +kernel
theorem d_Mo_takeLines_72 : decode M_Mo_takeLines.2.1 72 = .ok (.goto 78, 3) := by decide +kernel
theorem d_Mo_takeLines_75 : decode M_Mo_takeLines.2.1 75 = .ok (.iload_n 1, 1) := by decide +kernel
theorem d_Mo_takeLines_76 : decode M_Mo_takeLines.2.1 76 = .ok (.ifCond .eq 12, 3) := by decide +kernel
theorem d_Mo_takeLines_79 : decode M_Mo_takeLines.2.1 79 = .ok (.iload 4, 2) := by decide +kernel
theorem d_Mo_takeLines_81 : decode M_Mo_takeLines.2.1 81 = .ok (.ifCond .le 7, 3) := by decide +kernel
theorem d_Mo_takeLines_84 : decode M_Mo_takeLines.2.1 84 = .ok (.iconst 2, 1) := by decide +kernel
theorem d_Mo_takeLines_85 : decode M_Mo_takeLines.2.1 85 = .ok (.goto 4, 3) := by decide +kernel
theorem d_Mo_takeLines_88 : decode M_Mo_takeLines.2.1 88 = .ok (.iconst 1, 1) := by decide +kernel
theorem d_Mo_takeLines_89 : decode M_Mo_takeLines.2.1 89 = .ok (.istore 5, 2) := by decide +kernel
theorem d_Mo_takeLines_91 : decode M_Mo_takeLines.2.1 91 = .ok (.aload_n 0, 1) := by decide +kernel
theorem d_Mo_takeLines_92 : decode M_Mo_takeLines.2.1 92 = .ok (.iload_n 3, 1) := by decide +kernel
theorem d_Mo_takeLines_93 : decode M_Mo_takeLines.2.1 93 = .ok (.invokestatic 143, 3) := by decide +kernel
theorem d_Mo_takeLines_96 : decode M_Mo_takeLines.2.1 96 = .ok (.ifCond .eq 17, 3) := by decide +kernel
theorem d_Mo_takeLines_99 : decode M_Mo_takeLines.2.1 99 = .ok (.iload 4, 2) := by decide +kernel
theorem d_Mo_takeLines_101 : decode M_Mo_takeLines.2.1 101 = .ok (.iload 5, 2) := by decide +kernel
theorem d_Mo_takeLines_103 : decode M_Mo_takeLines.2.1 103 = .ok (.iadd, 1) := by decide +kernel
theorem d_Mo_takeLines_104 : decode M_Mo_takeLines.2.1 104 = .ok (.bipush 64, 2) := by decide +kernel
theorem d_Mo_takeLines_106 : decode M_Mo_takeLines.2.1 106 = .ok (.if_icmp .gt 7, 3) := by decide +kernel
theorem d_Mo_takeLines_109 : decode M_Mo_takeLines.2.1 109 = .ok (.iconst 1, 1) := by decide +kernel
theorem d_Mo_takeLines_110 : decode M_Mo_takeLines.2.1 110 = .ok (.goto 4, 3) := by decide +kernel
theorem d_Mo_takeLines_113 : decode M_Mo_takeLines.2.1 113 = .ok (.iconst 0, 1) := by decide +kernel
theorem d_Mo_takeLines_114 : decode M_Mo_takeLines.2.1 114 = .ok (.invokevirtual 117, 3) := by decide +kernel
theorem d_Mo_takeLines_117 : decode M_Mo_takeLines.2.1 117 = .ok (.aload_n 0, 1) := by decide +kernel
theorem d_Mo_takeLines_118 : decode M_Mo_takeLines.2.1 118 = .ok (.getfield 107, 3) := by decide +kernel
theorem d_Mo_takeLines_121 : decode M_Mo_takeLines.2.1 121 = .ok (.ifCond .ge 15, 3) := by decide +kernel
theorem d_Mo_takeLines_124 : decode M_Mo_takeLines.2.1 124 = .ok (.iload 5, 2) := by decide +kernel
theorem d_Mo_takeLines_126 : decode M_Mo_takeLines.2.1 126 = .ok (.iconst 2, 1) := by decide +kernel
theorem d_Mo_takeLines_127 : decode M_Mo_takeLines.2.1 127 = .ok (.if_icmp .ne 9, 3) := by decide +kernel
theorem d_Mo_takeLines_130 : decode M_Mo_takeLines.2.1 130 = .ok (.aload_n 0, 1) := by decide +kernel
theorem d_Mo_takeLines_131 : decode M_Mo_takeLines.2.1 131 = .ok (.bipush 10, 2) := by decide +kernel
theorem d_Mo_takeLines_133 : decode M_Mo_takeLines.2.1 133 = .ok (.invokevirtual 147, 3) := by decide +kernel
theorem d_Mo_takeLines_136 : decode M_Mo_takeLines.2.1 136 = .ok (.aload_n 0, 1) := by decide +kernel
theorem d_Mo_takeLines_137 : decode M_Mo_takeLines.2.1 137 = .ok (.getfield 107, 3) := by decide +kernel
theorem d_Mo_takeLines_140 : decode M_Mo_takeLines.2.1 140 = .ok (.ifCond .ge 8, 3) := by decide +kernel
theorem d_Mo_takeLines_143 : decode M_Mo_takeLines.2.1 143 = .ok (.aload_n 0, 1) := by decide +kernel
theorem d_Mo_takeLines_144 : decode M_Mo_takeLines.2.1 144 = .ok (.iload_n 3, 1) := by decide +kernel
theorem d_Mo_takeLines_145 : decode M_Mo_takeLines.2.1 145 = .ok (.invokevirtual 147, 3) := by decide +kernel
theorem d_Mo_takeLines_148 : decode M_Mo_takeLines.2.1 148 = .ok (.iconst 0, 1) := by decide +kernel
theorem d_Mo_takeLines_149 : decode M_Mo_takeLines.2.1 149 = .ok (.istore_n 1, 1) := by decide +kernel
theorem d_Mo_takeLines_150 : decode M_Mo_takeLines.2.1 150 = .ok (.goto (-146), 3) := by decide +kernel
theorem d_Mo_takeLines_153 : decode M_Mo_takeLines.2.1 153 = .ok (.return_, 1) := by decide +kernel
theorem d_Mo_takeBars_0 : decode M_Mo_takeBars.2.1 0 = .ok (.iconst 0, 1) := by decide +kernel
theorem d_Mo_takeBars_1 : decode M_Mo_takeBars.2.1 1 = .ok (.istore_n 1, 1) := by decide +kernel
theorem d_Mo_takeBars_2 : decode M_Mo_takeBars.2.1 2 = .ok (.iload_n 1, 1) := by decide +kernel
theorem d_Mo_takeBars_3 : decode M_Mo_takeBars.2.1 3 = .ok (.ifCond .ne 141, 3) := by decide +kernel
theorem d_Mo_takeBars_6 : decode M_Mo_takeBars.2.1 6 = .ok (.aload_n 0, 1) := by decide +kernel
theorem d_Mo_takeBars_7 : decode M_Mo_takeBars.2.1 7 = .ok (.getfield 107, 3) := by decide +kernel
theorem d_Mo_takeBars_10 : decode M_Mo_takeBars.2.1 10 = .ok (.ifCond .ge 134, 3) := by decide +kernel
theorem d_Mo_takeBars_13 : decode M_Mo_takeBars.2.1 13 = .ok (.aload_n 0, 1) := by decide +kernel
theorem d_Mo_takeBars_14 : decode M_Mo_takeBars.2.1 14 = .ok (.invokevirtual 113, 3) := by decide +kernel
theorem d_Mo_takeBars_17 : decode M_Mo_takeBars.2.1 17 = .ok (.istore_n 2, 1) := by decide +kernel
theorem d_Mo_takeBars_18 : decode M_Mo_takeBars.2.1 18 = .ok (.aload_n 0, 1) := by decide +kernel
theorem d_Mo_takeBars_19 : decode M_Mo_takeBars.2.1 19 = .ok (.getfield 54, 3) := by decide +kernel
theorem d_Mo_takeBars_22 : decode M_Mo_takeBars.2.1 22 = .ok (.aload_n 0, 1) := by decide +kernel
theorem d_Mo_takeBars_23 : decode M_Mo_takeBars.2.1 23 = .ok (.getfield 140, 3) := by decide +kernel
theorem d_Mo_takeBars_26 : decode M_Mo_takeBars.2.1 26 = .ok (.iaload, 1) := by decide +kernel
theorem d_Mo_takeBars_27 : decode M_Mo_takeBars.2.1 27 = .ok (.istore_n 3, 1) := by decide +kernel
theorem d_Mo_takeBars_28 : decode M_Mo_takeBars.2.1 28 = .ok (.iload_n 3, 1) := by decide +kernel
theorem d_Mo_takeBars_29 : decode M_Mo_takeBars.2.1 29 = .ok (.ifCond .le 16, 3) := by decide +kernel
theorem d_Mo_takeBars_32 : decode M_Mo_takeBars.2.1 32 = .ok (.aload_n 0, 1) := by decide +kernel
theorem d_Mo_takeBars_33 : decode M_Mo_takeBars.2.1 33 = .ok (.invokevirtual 150, 3) := by decide +kernel
theorem d_Mo_takeBars_36 : decode M_Mo_takeBars.2.1 36 = .ok (.bipush 10, 2) := by decide +kernel
theorem d_Mo_takeBars_38 : decode M_Mo_takeBars.2.1 38 = .ok (.if_icmp .eq 7, 3) := by decide +kernel
theorem d_Mo_takeBars_41 : decode M_Mo_takeBars.2.1 41 = .ok (.iconst 1, 1) := by decide +kernel
theorem d_Mo_takeBars_42 : decode M_Mo_takeBars.2.1 42 = .ok (.goto 4, 3) := by decide +kernel
theorem d_Mo_takeBars_45 : decode M_Mo_takeBars.2.1 45 = .ok (.iconst 0, 1) := by decide +kernel
theorem d_Mo_takeBars_46 : decode M_Mo_takeBars.2.1 46 = .ok (.istore 4, 2) := by decide +kernel
theorem d_Mo_takeBars_48 : decode M_Mo_takeBars.2.1 48 = .ok (.iload_n 2, 1) := by decide +kernel
theorem d_Mo_takeBars_49 : decode M_Mo_takeBars.2.1 49 = .ok (.bipush 10, 2) := by decide +kernel
theorem d_Mo_takeBars_51 : decode M_Mo_takeBars.2.1 51 = .ok (.if_icmp .ne 14, 3) := by decide +kernel
theorem d_Mo_takeBars_54 : decode M_Mo_takeBars.2.1 54 = .ok (.aload_n 0, 1) := by decide +kernel
theorem d_Mo_takeBars_55 : decode M_Mo_takeBars.2.1 55 = .ok (.iload 4, 2) := by decide +kernel
theorem d_Mo_takeBars_57 : decode M_Mo_takeBars.2.1 57 = .ok (.invokevirtual 117, 3) := by decide +kernel
theorem d_Mo_takeBars_60 : decode M_Mo_takeBars.2.1 60 = .ok (.iconst 1, 1) := by decide +kernel
theorem d_Mo_takeBars_61 : decode M_Mo_takeBars.2.1 61 = .ok (.istore_n 1, 1) := by decide +kernel
theorem d_Mo_takeBars_62 : decode M_Mo_takeBars.2.1 62 = .ok (.goto 79, 3) := by decide +kernel
theorem d_Mo_takeBars_65 : decode M_Mo_takeBars.2.1 65 = .ok (.iload_n 2, 1) := by decide +kernel
theorem d_Mo_takeBars_66 : decode M_Mo_takeBars.2.1 66 = .ok (.bipush 124, 2) := by decide +kernel
theorem d_Mo_takeBars_68 : decode M_Mo_takeBars.2.1 68 = .ok (.if_icmp .ne 39, 3) := by decide +kernel
theorem d_Mo_takeBars_71 : decode M_Mo_takeBars.2.1 71 = .ok (.aload_n 0, 1) := by decide +kernel
theorem d_Mo_takeBars_72 : decode M_Mo_takeBars.2.1 72 = .ok (.iload 4, 2) := by decide +kernel
theorem d_Mo_takeBars_74 : decode M_Mo_takeBars.2.1 74 = .ok (.ifCond .eq 13, 3) := by decide +kernel
theorem d_Mo_takeBars_77 : decode M_Mo_takeBars.2.1 77 = .ok (.iload_n 3, 1) := by decide +kernel
theorem d_Mo_takeBars_78 : decode M_Mo_takeBars.2.1 78 = .ok (.bipush 63, 2) := by decide +kernel
theorem d_Mo_takeBars_80 : decode M_Mo_takeBars.2.1 80 = .ok (.if_icmp .ge 7, 3) := by decide +kernel
theorem d_Mo_takeBars_83 : decode M_Mo_takeBars.2.1 83 = .ok (.iconst 1, 1) := by decide +kernel
theorem d_Mo_takeBars_84 : decode M_Mo_takeBars.2.1 84 = .ok (.goto 4, 3) := by decide +kernel
theorem d_Mo_takeBars_87 : decode M_Mo_takeBars.2.1 87 = .ok (.iconst 0, 1) := by decide +kernel
theorem d_Mo_takeBars_88 : decode M_Mo_takeBars.2.1 88 = .ok (.invokevirtual 117, 3) := by decide +kernel
theorem d_Mo_takeBars_91 : decode M_Mo_takeBars.2.1 91 = .ok (.aload_n 0, 1) := by decide +kernel
theorem d_Mo_takeBars_92 : decode M_Mo_takeBars.2.1 92 = .ok (.getfield 107, 3) := by decide +kernel
theorem d_Mo_takeBars_95 : decode M_Mo_takeBars.2.1 95 = .ok (.ifCond .ge 46, 3) := by decide +kernel
theorem d_Mo_takeBars_98 : decode M_Mo_takeBars.2.1 98 = .ok (.aload_n 0, 1) := by decide +kernel
theorem d_Mo_takeBars_99 : decode M_Mo_takeBars.2.1 99 = .ok (.bipush 10, 2) := by decide +kernel
theorem d_Mo_takeBars_101 : decode M_Mo_takeBars.2.1 101 = .ok (.invokevirtual 147, 3) := by decide +kernel
theorem d_Mo_takeBars_104 : decode M_Mo_takeBars.2.1 104 = .ok (.goto 37, 3) := by decide +kernel
theorem d_Mo_takeBars_107 : decode M_Mo_takeBars.2.1 107 = .ok (.aload_n 0, 1) := by decide +kernel
theorem d_Mo_takeBars_108 : decode M_Mo_takeBars.2.1 108 = .ok (.iload_n 2, 1) := by decide +kernel
theorem d_Mo_takeBars_109 : decode M_Mo_takeBars.2.1 109 = .ok (.invokestatic 143, 3) := by decide +kernel
theorem d_Mo_takeBars_112 : decode M_Mo_takeBars.2.1 112 = .ok (.ifCond .eq 13, 3) := by decide +kernel
theorem d_Mo_takeBars_115 : decode M_Mo_takeBars.2.1 115 = .ok (.iload_n 3, 1) := by decide +kernel
theorem d_Mo_takeBars_116 : decode M_Mo_takeBars.2.1 116 = .ok (.bipush 64, 2) := by decide +kernel
theorem d_Mo_takeBars_118 : decode M_Mo_takeBars.2.1 118 = .ok (.if_icmp .ge 7, 3) := by decide +kernel
theorem d_Mo_takeBars_121 : decode M_Mo_takeBars.2.1 121 = .ok (.iconst 1, 1) := by decide +kernel
theorem d_Mo_takeBars_122 : decode M_Mo_takeBars.2.1 122 = .ok (.goto 4, 3) := by decide +kernel
theorem d_Mo_takeBars_125 : decode M_Mo_takeBars.2.1 125 = .ok (.iconst 0, 1) := by decide +kernel
theorem d_Mo_takeBars_126 : decode M_Mo_takeBars.2.1 126 = .ok (.invokevirtual 117, 3) := by decide +kernel
theorem d_Mo_takeBars_129 : decode M_Mo_takeBars.2.1 129 = .ok (.aload_n 0, 1) := by decide +kernel
theorem d_Mo_takeBars_130 : decode M_Mo_takeBars.2.1 130 = .ok (.getfield 107, 3) := by decide +kernel
theorem d_Mo_takeBars_133 : decode M_Mo_takeBars.2.1 133 = .ok (.ifCond .ge 8, 3) := by decide +kernel
theorem d_Mo_takeBars_136 : decode M_Mo_takeBars.2.1 136 = .ok (.aload_n 0, 1) := by decide +kernel
theorem d_Mo_takeBars_137 : decode M_Mo_takeBars.2.1 137 = .ok (.iload_n 2, 1) := by decide +kernel
theorem d_Mo_takeBars_138 : decode M_Mo_takeBars.2.1 138 = .ok (.invokevirtual 147, 3) := by decide +kernel
theorem d_Mo_takeBars_141 : decode M_Mo_takeBars.2.1 141 = .ok (.goto (-139), 3) := by decide +kernel
theorem d_Mo_takeBars_144 : decode M_Mo_takeBars.2.1 144 = .ok (.return_, 1) := by decide +kernel
theorem d_Mo_takeCounted_0 : decode M_Mo_takeCounted.2.1 0 = .ok (.aload_n 0, 1) := by decide +kernel
theorem d_Mo_takeCounted_1 : decode M_Mo_takeCounted.2.1 1 = .ok (.invokevirtual 113, 3) := by decide +kernel
theorem d_Mo_takeCounted_4 : decode M_Mo_takeCounted.2.1 4 = .ok (.istore_n 1, 1) := by decide +kernel
theorem d_Mo_takeCounted_5 : decode M_Mo_takeCounted.2.1 5 = .ok (.aload_n 0, 1) := by decide +kernel
theorem d_Mo_takeCounted_6 : decode M_Mo_takeCounted.2.1 6 = .ok (.iload_n 1, 1) := by decide +kernel
theorem d_Mo_takeCounted_7 : decode M_Mo_takeCounted.2.1 7 = .ok (.iconst 1, 1) := by decide +kernel
theorem d_Mo_takeCounted_8 : decode M_Mo_takeCounted.2.1 8 = .ok (.if_icmp .lt 13, 3) := by decide +kernel
theorem d_Mo_takeCounted_11 : decode M_Mo_takeCounted.2.1 11 = .ok (.iload_n 1, 1) := by decide +kernel
theorem d_Mo_takeCounted_12 : decode M_Mo_takeCounted.2.1 12 = .ok (.bipush 64, 2) := by decide +kernel
theorem d_Mo_takeCounted_14 : decode M_Mo_takeCounted.2.1 14 = .ok (.if_icmp .gt 7, 3) := by decide +kernel
theorem d_Mo_takeCounted_17 : decode M_Mo_takeCounted.2.1 17 = .ok (.iconst 1, 1) := by decide +kernel
theorem d_Mo_takeCounted_18 : decode M_Mo_takeCounted.2.1 18 = .ok (.goto 4, 3) := by decide +kernel
theorem d_Mo_takeCounted_21 : decode M_Mo_takeCounted.2.1 21 = .ok (.iconst 0, 1) := by decide +kernel
theorem d_Mo_takeCounted_22 : decode M_Mo_takeCounted.2.1 22 = .ok (.invokevirtual 117, 3) := by decide +kernel
theorem d_Mo_takeCounted_25 : decode M_Mo_takeCounted.2.1 25 = .ok (.iconst 0, 1) := by decide +kernel
theorem d_Mo_takeCounted_26 : decode M_Mo_takeCounted.2.1 26 = .ok (.istore_n 2, 1) := by decide +kernel
theorem d_Mo_takeCounted_27 : decode M_Mo_takeCounted.2.1 27 = .ok (.iload_n 2, 1) := by decide +kernel
theorem d_Mo_takeCounted_28 : decode M_Mo_takeCounted.2.1 28 = .ok (.iload_n 1, 1) := by decide +kernel
theorem d_Mo_takeCounted_29 : decode M_Mo_takeCounted.2.1 29 = .ok (.if_icmp .ge 75, 3) := by decide +kernel
theorem d_Mo_takeCounted_32 : decode M_Mo_takeCounted.2.1 32 = .ok (.aload_n 0, 1) := by decide +kernel
theorem d_Mo_takeCounted_33 : decode M_Mo_takeCounted.2.1 33 = .ok (.getfield 107, 3) := by decide +kernel
theorem d_Mo_takeCounted_36 : decode M_Mo_takeCounted.2.1 36 = .ok (.ifCond .ge 68, 3) := by decide +kernel
theorem d_Mo_takeCounted_39 : decode M_Mo_takeCounted.2.1 39 = .ok (.aload_n 0, 1) := by decide +kernel
theorem d_Mo_takeCounted_40 : decode M_Mo_takeCounted.2.1 40 = .ok (.invokevirtual 113, 3) := by decide +kernel
theorem d_Mo_takeCounted_43 : decode M_Mo_takeCounted.2.1 43 = .ok (.istore_n 3, 1) := by decide +kernel
theorem d_Mo_takeCounted_44 : decode M_Mo_takeCounted.2.1 44 = .ok (.aload_n 0, 1) := by decide +kernel
theorem d_Mo_takeCounted_45 : decode M_Mo_takeCounted.2.1 45 = .ok (.iload_n 3, 1) := by decide +kernel
theorem d_Mo_takeCounted_46 : decode M_Mo_takeCounted.2.1 46 = .ok (.bipush 10, 2) := by decide +kernel
theorem d_Mo_takeCounted_48 : decode M_Mo_takeCounted.2.1 48 = .ok (.if_icmp .ne 31, 3) := by decide +kernel
theorem d_Mo_takeCounted_51 : decode M_Mo_takeCounted.2.1 51 = .ok (.iload_n 2, 1) := by decide +kernel
theorem d_Mo_takeCounted_52 : decode M_Mo_takeCounted.2.1 52 = .ok (.ifCond .le 23, 3) := by decide +kernel
theorem d_Mo_takeCounted_55 : decode M_Mo_takeCounted.2.1 55 = .ok (.iload_n 2, 1) := by decide +kernel
theorem d_Mo_takeCounted_56 : decode M_Mo_takeCounted.2.1 56 = .ok (.iload_n 1, 1) := by decide +kernel
theorem d_Mo_takeCounted_57 : decode M_Mo_takeCounted.2.1 57 = .ok (.iconst 1, 1) := by decide +kernel
theorem d_Mo_takeCounted_58 : decode M_Mo_takeCounted.2.1 58 = .ok (.isub, 1) := by decide +kernel
theorem d_Mo_takeCounted_59 : decode M_Mo_takeCounted.2.1 59 = .ok (.if_icmp .ge 16, 3) := by decide +kernel
theorem d_Mo_takeCounted_62 : decode M_Mo_takeCounted.2.1 62 = .ok (.aload_n 0, 1) := by decide +kernel
theorem d_Mo_takeCounted_63 : decode M_Mo_takeCounted.2.1 63 = .ok (.invokevirtual 150, 3) := by decide +kernel
theorem d_Mo_takeCounted_66 : decode M_Mo_takeCounted.2.1 66 = .ok (.bipush 10, 2) := by decide +kernel
theorem d_Mo_takeCounted_68 : decode M_Mo_takeCounted.2.1 68 = .ok (.if_icmp .eq 7, 3) := by decide +kernel
theorem d_Mo_takeCounted_71 : decode M_Mo_takeCounted.2.1 71 = .ok (.iconst 1, 1) := by decide +kernel
theorem d_Mo_takeCounted_72 : decode M_Mo_takeCounted.2.1 72 = .ok (.goto 11, 3) := by decide +kernel
theorem d_Mo_takeCounted_75 : decode M_Mo_takeCounted.2.1 75 = .ok (.iconst 0, 1) := by decide +kernel
theorem d_Mo_takeCounted_76 : decode M_Mo_takeCounted.2.1 76 = .ok (.goto 7, 3) := by decide +kernel
theorem d_Mo_takeCounted_79 : decode M_Mo_takeCounted.2.1 79 = .ok (.iload_n 3, 1) := by decide +kernel
theorem d_Mo_takeCounted_80 : decode M_Mo_takeCounted.2.1 80 = .ok (.invokestatic 143, 3) := by decide +kernel
theorem d_Mo_takeCounted_83 : decode M_Mo_takeCounted.2.1 83 = .ok (.invokevirtual 117, 3) := by decide +kernel
theorem d_Mo_takeCounted_86 : decode M_Mo_takeCounted.2.1 86 = .ok (.aload_n 0, 1) := by decide +kernel
theorem d_Mo_takeCounted_87 : decode M_Mo_takeCounted.2.1 87 = .ok (.getfield 107, 3) := by decide +kernel
theorem d_Mo_takeCounted_90 : decode M_Mo_takeCounted.2.1 90 = .ok (.ifCond .ge 8, 3) := by decide +kernel
theorem d_Mo_takeCounted_93 : decode M_Mo_takeCounted.2.1 93 = .ok (.aload_n 0, 1) := by decide +kernel
theorem d_Mo_takeCounted_94 : decode M_Mo_takeCounted.2.1 94 = .ok (.iload_n 3, 1) := by decide +kernel
theorem d_Mo_takeCounted_95 : decode M_Mo_takeCounted.2.1 95 = .ok (.invokevirtual 147, 3) := by decide +kernel
theorem d_Mo_takeCounted_98 : decode M_Mo_takeCounted.2.1 98 = .ok (.iinc 2 1, 3) := by decide +kernel
theorem d_Mo_takeCounted_101 : decode M_Mo_takeCounted.2.1 101 = .ok (.goto (-74), 3) := by decide +kernel
theorem d_Mo_takeCounted_104 : decode M_Mo_takeCounted.2.1 104 = .ok (.return_, 1) := by decide +kernel
theorem zup_zz {F : Nat → Int} {k : Nat} {a b : Int} : zup (zup F k a) k b = zup F k b := by
  funext j
  show (if j = k then b else if j = k then a else F j) = if j = k then b else F j
  split <;> rfl
theorem lastZ_0 {T : List Int} (h : T.length = 0) : lastZ T = -1 := by
  have : T = [] := List.length_eq_zero_iff.mp h
  subst this
  rfl
theorem frZ_r (T : List Int) (br : Bool) : frZ T br = 0 ∨ frZ T br = 1 := by
  unfold frZ
  split <;> omega
theorem frZ_0 {T : List Int} {br : Bool} (h : frZ T br = 0) : T.length ≠ 0 ∧ br = false := by
  unfold frZ at h
  split at h
  · omega
  · rename_i q
    exact ⟨fun w => q (Or.inl w), Bool.eq_false_iff.mpr (fun w => q (Or.inr w))⟩
theorem frZ_1 {T : List Int} {br : Bool} (h : frZ T br ≠ 0) : T.length = 0 ∨ br = true := by
  unfold frZ at h
  split at h
  · assumption
  · omega
theorem frZ_t {T : List Int} : frZ T true = 1 := if_pos (Or.inr rfl)
theorem frZ_l {T : List Int} {br : Bool} {b : Int} : frZ (lad T br b) false = 0 := by
  have := lad_l (T := T) (br := br) (b := b)
  have := bz_r br
  refine if_neg ?_
  rintro (w | w)
  · omega
  · cases w
/-- the fault that a text leaves -/
def ftO (o : Nat × Option (List Int)) : Int := match o.2 with
  | some _ => -1
  | none => (o.1 : Int)
theorem lad_last {T : List Int} {br : Bool} {b : Int} : lastZ (lad T br b) = b := by
  rw [← tR_s, lastZ_s]
theorem tR_t {T : List Int} {br : Bool} (hl : T.length ≠ 0 → lastZ T ≠ 10) (h0 : (tR T br).length ≠ 0) (h : lastZ (tR T br) = 10) : br = true := by
  cases br
  · rw [tR_f] at h h0
    exact absurd h (hl h0)
  · rfl
theorem tR_n {T : List Int} {br : Bool} (h : lastZ (tR T br) ≠ 10) : br = false := by
  cases br
  · rfl
  · exact absurd lastZ_s h
set_option maxHeartbeats 4000000 in
set_option maxRecDepth 100000 in
theorem c_Mo_addByte (G : GT) (h : HM) (σ : Nat → Value) (m e3 e4 c : Nat) (Z E : Nat → Int) (T : List Int) (x : Int) (hm : h m = some (.inr (11, fsN 34 σ))) (f18 : σ 18 = .int (iZ (c : Int))) (f21 : σ 21 = .ref e3) (f22 : σ 22 = .ref e4) (he3 : h e3 = some (.inl (G_i G, 16, .inl (iA (zup Z c (T.length : Int)))))) (he4 : h e4 = some (.inl (G_i G, 1024, .inl (iA (tW E (64 * c) T))))) (hc : c < 16) (hT : T.length < 64) : Rn G M_Mo_addByte (rm 0 0) [.ref m, .int (iZ x)] h (fun r h' => r = none ∧ h' e3 = some (.inl (G_i G, 16, .inl (iA (zup Z c ((T ++ [x]).length : Int))))) ∧ h' e4 = some (.inl (G_i G, 1024, .inl (iA (tW E (64 * c) (T ++ [x]))))) ∧ Fm [e3, e4] h h') := by
  refine rn_of (by decide) (Nat.le_of_ble_eq_true rfl) ?_
  show Ev G M_Mo_addByte _ _ 0 [(0, .ref m), (1, .int (iZ x))] [] _ 0 0
  have fm : Fm [e3, e4] h h := Fm.rf
  refine ev_aload_n d_Mo_addByte_0 rfl rfl ?_
  refine ev_getF d_Mo_addByte_1 fl_Mo_57 hm (by decide) f22 ?_
  refine ev_bipush (v := iZ 64) d_Mo_addByte_4 rfl ?_
  refine ev_aload_n d_Mo_addByte_6 rfl rfl ?_
  refine ev_getF d_Mo_addByte_7 fl_Mo_140 hm (by decide) f18 ?_
  refine ez_imul d_Mo_addByte_10 ?_
  refine ev_aload_n d_Mo_addByte_11 rfl rfl ?_
  refine ev_getF d_Mo_addByte_12 fl_Mo_54 hm (by decide) f21 ?_
  refine ev_aload_n d_Mo_addByte_15 rfl rfl ?_
  refine ev_getF d_Mo_addByte_16 fl_Mo_140 hm (by decide) f18 ?_
  refine ez_iaload c d_Mo_addByte_19 he3 (by omega) (by omega) (by decide) ?_
  refine ev_top ((T.length : Int)) (zup_s) ?_
  skip
  refine ez_iadd d_Mo_addByte_20 ?_
  refine ev_iload_n d_Mo_addByte_21 rfl rfl ?_
  refine ez_iastore (F' := zup (tW E (64 * c) T) (64 * c + T.length) x) (64 * c + T.length) d_Mo_addByte_22 he4 (by omega) (by omega) (by decide) rfl (fun h1 h1a h1o => ?_)
  have hm := (h1o _ (cne hm he4 (by simp))).trans hm
  have he3 := (h1o _ (cne he3 he4 (by simp))).trans he3
  have he4 := h1a
  have fm := fm.step (by simp) h1o
  refine ev_aload_n d_Mo_addByte_23 rfl rfl ?_
  refine ev_getF d_Mo_addByte_24 fl_Mo_54 hm (by decide) f21 ?_
  refine ev_aload_n d_Mo_addByte_27 rfl rfl ?_
  refine ev_getF d_Mo_addByte_28 fl_Mo_140 hm (by decide) f18 ?_
  refine ev_dup2_11 d_Mo_addByte_31 rfl rfl ?_
  refine ez_iaload c d_Mo_addByte_32 he3 (by omega) (by omega) (by decide) ?_
  refine ev_top ((T.length : Int)) (zup_s) ?_
  skip
  refine ev_iconst (v := iZ 1) d_Mo_addByte_33 rfl ?_
  refine ez_iadd d_Mo_addByte_34 ?_
  refine ez_iastore (F' := zup (zup Z c (T.length : Int)) c ((T.length : Int) + 1)) c d_Mo_addByte_35 he3 (by omega) (by omega) (by decide) rfl (fun h2 h2a h2o => ?_)
  have hm := (h2o _ (cne hm he3 (by simp))).trans hm
  have he4 := (h2o _ (cne he4 he3 (by simp))).trans he4
  have he3 := h2a
  have fm := fm.step (by simp) h2o
  exact ev_return d_Mo_addByte_36 rfl (by decide) (by decide) (⟨rfl, by rw [show zup Z c ((T ++ [x]).length : Int) = zup (zup Z c (T.length : Int)) c ((T.length : Int) + 1) from by rw [zup_zz]; simp]; exact he3, by rw [← tW_s]; exact he4, fm⟩)
set_option maxHeartbeats 4000000 in
set_option maxRecDepth 100000 in
theorem c_Mo_latest (G : GT) (h : HM) (σ : Nat → Value) (m e3 e4 c : Nat) (Z E : Nat → Int) (T : List Int) (hm : h m = some (.inr (11, fsN 34 σ))) (f18 : σ 18 = .int (iZ (c : Int))) (f21 : σ 21 = .ref e3) (f22 : σ 22 = .ref e4) (he3 : h e3 = some (.inl (G_i G, 16, .inl (iA (zup Z c (T.length : Int)))))) (he4 : h e4 = some (.inl (G_i G, 1024, .inl (iA (tW E (64 * c) T))))) (hc : c < 16) (hT : T.length ≤ 64) : Rn G M_Mo_latest (rm 0 0) [.ref m] h (Pu (.int (iZ (lastZ T))) h) := by
  refine rn_of (by decide) (Nat.le_of_ble_eq_true rfl) ?_
  show Ev G M_Mo_latest _ _ 0 [(0, .ref m)] [] _ 0 0
  refine ev_aload_n d_Mo_latest_0 rfl rfl ?_
  refine ev_getF d_Mo_latest_1 fl_Mo_54 hm (by decide) f21 ?_
  refine ev_aload_n d_Mo_latest_4 rfl rfl ?_
  refine ev_getF d_Mo_latest_5 fl_Mo_140 hm (by decide) f18 ?_
  refine ez_iaload c d_Mo_latest_8 he3 (by omega) (by omega) (by decide) ?_
  refine ev_top ((T.length : Int)) (zup_s) ?_
  skip
  refine ez_if_ne (tgt := 16) (by omega) d_Mo_latest_9 rfl (fun c9 => ?_) (fun c9 => ?_)
  · refine ev_aload_n d_Mo_latest_16 rfl rfl ?_
    refine ev_getF d_Mo_latest_17 fl_Mo_57 hm (by decide) f22 ?_
    refine ev_bipush (v := iZ 64) d_Mo_latest_20 rfl ?_
    refine ev_aload_n d_Mo_latest_22 rfl rfl ?_
    refine ev_getF d_Mo_latest_23 fl_Mo_140 hm (by decide) f18 ?_
    refine ez_imul d_Mo_latest_26 ?_
    refine ev_aload_n d_Mo_latest_27 rfl rfl ?_
    refine ev_getF d_Mo_latest_28 fl_Mo_54 hm (by decide) f21 ?_
    refine ev_aload_n d_Mo_latest_31 rfl rfl ?_
    refine ev_getF d_Mo_latest_32 fl_Mo_140 hm (by decide) f18 ?_
    refine ez_iaload c d_Mo_latest_35 he3 (by omega) (by omega) (by decide) ?_
    refine ev_top ((T.length : Int)) (zup_s) ?_
    skip
    refine ez_iadd d_Mo_latest_36 ?_
    refine ev_iconst (v := iZ 1) d_Mo_latest_37 rfl ?_
    refine ez_isub d_Mo_latest_38 ?_
    refine ez_iaload (64 * c + T.length - 1) d_Mo_latest_39 he4 (by omega) (by omega) (by decide) ?_
    exact ev_ireturn d_Mo_latest_40 rfl (by decide) (by decide) (⟨by rw [show lastZ T = (tW E (64 * c) T) (64 * c + T.length - 1) from (lastZ_k (by omega)).symm], rfl⟩)
  · refine ev_iconst (v := iZ (-1)) d_Mo_latest_12 rfl ?_
    refine ev_goto (tgt := 40) d_Mo_latest_13 rfl ?_
    exact ev_ireturn d_Mo_latest_40 rfl (by decide) (by decide) (⟨by rw [show lastZ T = (-1) from lastZ_0 (by omega)], rfl⟩)
set_option maxHeartbeats 4000000 in
set_option maxRecDepth 100000 in
theorem lp_Mo_lines (G : GT) (h0 : HM) (σ0 : Nat → Value) (m bu e3 e4 n c : Nat) (F Z E : Nat → Int) (hn : n ≤ 1000) (hF : ∀ k, 0 ≤ F k ∧ F k ≤ 255) (hc : c < 16) : ∀ (d : Nat) (p : Nat) (T : List Int) (br : Bool) (h : HM) (σ : Nat → Value), n < d + p → p ≤ n → T.length ≤ 64 → (br = true → T.length ≠ 0) → h m = some (.inr (11, fsN 34 σ)) → σ 0 = .int (iZ (n : Int)) → σ 1 = .ref bu → σ 16 = .int (iZ (p : Int)) → σ 17 = .int (iZ (-1)) → σ 18 = .int (iZ (c : Int)) → σ 21 = .ref e3 → σ 22 = .ref e4 → h bu = some (.inl (G_i G, 1000, .inl (iA F))) → h e3 = some (.inl (G_i G, 16, .inl (iA (zup Z c (T.length : Int))))) → h e4 = some (.inl (G_i G, 1024, .inl (iA (tW E (64 * c) T)))) → Fm [m, e3, e4] h0 h → Fs [16, 17] σ0 σ → Ev G M_Mo_takeLines (rm 1 40) (fun r h' => r = none ∧ (∃ σ', h' m = some (.inr (11, fsN 34 σ')) ∧ σ' 16 = .int (iZ (((tx0 F n d p T br).1 : Nat) : Int)) ∧ σ' 17 = .int (iZ (ftO (tx0 F n d p T br))) ∧ Fs [16, 17] σ0 σ') ∧ (∀ T', (tx0 F n d p T br).2 = some T' → h' e3 = some (.inl (G_i G, 16, .inl (iA (zup Z c (T'.length : Int))))) ∧ h' e4 = some (.inl (G_i G, 1024, .inl (iA (tW E (64 * c) T'))))) ∧ (∃ Z' E' : Nat → Int, h' e3 = some (.inl (G_i G, 16, .inl (iA Z'))) ∧ h' e4 = some (.inl (G_i G, 1024, .inl (iA E')))) ∧ Fm [m, e3, e4] h0 h') 4 [(0, .ref m), (1, .int (iZ (frZ T br))), (2, .int (iZ 0))] [] h 0 0 := by
  intro d
  induction d using Nat.strongRecOn with
  | ind d ih =>
  intro p T br h σ hd hp hT hbr hm f0 f1 f16 f17 f18 f21 f22 hbu he3 he4 fm fs
  obtain ⟨g, rfl⟩ : ∃ g, d = g + 1 := ⟨d - 1, by omega⟩
  have hfz := frZ_r T br
  refine ev_iload_n d_Mo_takeLines_4 rfl rfl ?_
  refine ez_if_ne (tgt := 153) (by decide) d_Mo_takeLines_5 rfl (fun c5 => absurd c5 (by omega)) (fun c5 => ?_)
  refine ev_aload_n d_Mo_takeLines_8 rfl rfl ?_
  refine ev_getF d_Mo_takeLines_9 fl_Mo_107 hm (by decide) f17 ?_
  refine ez_if_ge (tgt := 153) (by decide) d_Mo_takeLines_12 rfl (fun c12 => absurd c12 (by omega)) (fun c12 => ?_)
  refine ev_aload_n d_Mo_takeLines_15 rfl rfl ?_
  refine ev_callV M_Mo_here (rm 0 0) _ (As := []) (c_Mo_here G h σ m bu n p F (-1) hm f0 f1 f16 f17 hbu hn hp hF (by omega)) d_Mo_takeLines_16 mk_Mo_here ml_Mo_113 mv_Mo_here hm rfl rfl rfl (Nat.le_of_ble_eq_true rfl) ⟨by decide, by decide⟩ ⟨by decide, by decide⟩ (fun r h1 hq => ?_)
  obtain ⟨rfl, ⟨σ2, gm, g17, gs⟩, fmc⟩ := hq
  have hbu := (fmc _ (ninc (cne hbu hm (by simp)) nin0)).trans hbu
  have he3 := (fmc _ (ninc (cne he3 hm (by simp)) nin0)).trans he3
  have he4 := (fmc _ (ninc (cne he4 hm (by simp)) nin0)).trans he4
  have f0 := (gs 0 (by decide)).trans f0
  have f1 := (gs 1 (by decide)).trans f1
  have f16 := (gs 16 (by decide)).trans f16
  have f18 := (gs 18 (by decide)).trans f18
  have f21 := (gs 21 (by decide)).trans f21
  have f22 := (gs 22 (by decide)).trans f22
  have f17 := g17
  have hm := gm
  have fm := fm.call (by simp) fmc
  have fs := fs.call (by simp) gs
  by_cases hpn : p = n
  ·
    have hlk : lk F n p = -1 := lk_out (by omega)
    rw [show hf n p (-1) = (p : Int) from (if_pos ⟨by decide, hpn⟩).trans (by rw [hpn])] at f17
    refine ev_top ((-1)) ((if_pos (by decide)).trans hlk) ?_
    refine ev_istore_n (L' := [(0, .ref m), (1, .int (iZ (frZ T br))), (2, .int (iZ 0)), (3, .int (iZ (-1)))]) d_Mo_takeLines_19 rfl (by decide) rfl ?_
    refine ev_aload_n d_Mo_takeLines_20 rfl rfl ?_
    refine ev_getF d_Mo_takeLines_21 fl_Mo_54 hm (by decide) f21 ?_
    refine ev_aload_n d_Mo_takeLines_24 rfl rfl ?_
    refine ev_getF d_Mo_takeLines_25 fl_Mo_140 hm (by decide) f18 ?_
    refine ez_iaload c d_Mo_takeLines_28 he3 (by omega) (by omega) (by decide) ?_
    refine ev_top ((T.length : Int)) (zup_s) ?_
    skip
    refine ev_istore (L' := [(0, .ref m), (1, .int (iZ (frZ T br))), (2, .int (iZ 0)), (3, .int (iZ (-1))), (4, .int (iZ (T.length : Int)))]) d_Mo_takeLines_29 (by decide) rfl ?_
    refine ev_iload_n d_Mo_takeLines_31 rfl rfl ?_
    refine ev_bipush (v := iZ 10) d_Mo_takeLines_32 rfl ?_
    refine ez_icmp_ne (tgt := 75) (by decide) (by decide) d_Mo_takeLines_34 rfl (fun c34 => ?_) (fun c34 => absurd c34 (by omega))
    refine ev_iload_n d_Mo_takeLines_75 rfl rfl ?_
    refine ez_if_eq (tgt := 88) (by omega) d_Mo_takeLines_76 rfl (fun c76 => ?_) (fun c76 => ?_)
    · have z := frZ_0 c76
      refine ev_iconst (v := iZ 1) d_Mo_takeLines_88 rfl ?_
      refine ev_istore (L' := [(0, .ref m), (1, .int (iZ (frZ T br))), (2, .int (iZ 0)), (3, .int (iZ (-1))), (4, .int (iZ (T.length : Int))), (5, .int (iZ 1))]) d_Mo_takeLines_89 (by decide) rfl ?_
      refine ev_aload_n d_Mo_takeLines_91 rfl rfl ?_
      refine ev_iload_n d_Mo_takeLines_92 rfl rfl ?_
      have it := isT_r (-1)
      refine ev_pS M_Mo_isText 0 0 (As := [.int (iZ (-1))]) (c_Mo_isText G h1 (-1) (by omega)) d_Mo_takeLines_93 mk_Mo_isText ml_Mo_143 ms_Mo_isText rfl rfl (Nat.le_of_ble_eq_true rfl) ⟨by decide, by decide⟩ ⟨by decide, by decide⟩ ?_
      refine ev_top (0) (by decide) ?_
      refine ez_if_eq (tgt := 113) (by decide) d_Mo_takeLines_96 rfl (fun c96 => ?_) (fun c96 => absurd c96 (by omega))
      refine ev_iconst (v := iZ 0) d_Mo_takeLines_113 rfl ?_
      refine ev_callV M_Mo_take (rm 0 0) _ (As := [.int (iZ 0)]) (c_Mo_take G h1 σ2 m (p) ((p : Int)) 0 hm f16 f17 (by omega) (by omega) (by decide)) d_Mo_takeLines_114 mk_Mo_take ml_Mo_117 mv_Mo_take hm rfl rfl rfl (Nat.le_of_ble_eq_true rfl) ⟨by decide, by decide⟩ ⟨by decide, by decide⟩ (fun r h3 hq => ?_)
      obtain ⟨rfl, ⟨σ4, gm, g16, g17, gs⟩, fmc⟩ := hq
      rw [show tkP p ((p : Int)) 0 = p from if_neg (by omega)] at g16
      rw [show tkF p ((p : Int)) 0 = (p : Int) from if_neg (by omega)] at g17
      have hbu := (fmc _ (ninc (cne hbu hm (by simp)) nin0)).trans hbu
      have he3 := (fmc _ (ninc (cne he3 hm (by simp)) nin0)).trans he3
      have he4 := (fmc _ (ninc (cne he4 hm (by simp)) nin0)).trans he4
      have f0 := (gs 0 (by decide)).trans f0
      have f1 := (gs 1 (by decide)).trans f1
      have f18 := (gs 18 (by decide)).trans f18
      have f21 := (gs 21 (by decide)).trans f21
      have f22 := (gs 22 (by decide)).trans f22
      have f16 := g16
      have f17 := g17
      have hm := gm
      have fm := fm.call (by simp) fmc
      have fs := fs.call (by simp) gs
      refine ev_aload_n d_Mo_takeLines_117 rfl rfl ?_
      refine ev_getF d_Mo_takeLines_118 fl_Mo_107 hm (by decide) f17 ?_
      refine ez_if_ge (tgt := 136) (by omega) d_Mo_takeLines_121 rfl (fun c121 => ?_) (fun c121 => absurd c121 (by omega))
      refine ev_aload_n d_Mo_takeLines_136 rfl rfl ?_
      refine ev_getF d_Mo_takeLines_137 fl_Mo_107 hm (by decide) f17 ?_
      refine ez_if_ge (tgt := 148) (by omega) d_Mo_takeLines_140 rfl (fun c140 => ?_) (fun c140 => absurd c140 (by omega))
      refine ev_iconst (v := iZ 0) d_Mo_takeLines_148 rfl ?_
      refine ev_istore_n (L' := [(0, .ref m), (1, .int (iZ 0)), (2, .int (iZ 0)), (3, .int (iZ (-1))), (4, .int (iZ (T.length : Int))), (5, .int (iZ 1))]) d_Mo_takeLines_149 rfl (by decide) rfl ?_
      refine ev_goto (tgt := 4) d_Mo_takeLines_150 rfl ?_
      refine ev_iload_n d_Mo_takeLines_4 rfl rfl ?_
      refine ez_if_ne (tgt := 153) (by decide) d_Mo_takeLines_5 rfl (fun c5 => absurd c5 (by omega)) (fun c5 => ?_)
      refine ev_aload_n d_Mo_takeLines_8 rfl rfl ?_
      refine ev_getF d_Mo_takeLines_9 fl_Mo_107 hm (by decide) f17 ?_
      refine ez_if_ge (tgt := 153) (by omega) d_Mo_takeLines_12 rfl (fun c12 => ?_) (fun c12 => absurd c12 (by omega))
      have e9 : tx0 F n (g + 1) p T br = (p, none) := by rw [tx0, if_neg (by omega), if_neg (by rintro ⟨⟨w, _, _⟩, _⟩; omega)]
      rw [e9]
      exact ev_return d_Mo_takeLines_153 rfl (by decide) (by decide) (⟨rfl, ⟨σ4, hm, f16, f17, fs⟩, fun T' q => (by cases q), ⟨_, _, he3, he4⟩, fm⟩)
    · have z := frZ_1 c76
      refine ev_iload d_Mo_takeLines_79 rfl ?_
      refine ez_if_le (tgt := 88) (by omega) d_Mo_takeLines_81 rfl (fun c81 => ?_) (fun c81 => ?_)
      · have bf : br = false := by cases br; rfl; exact absurd (by omega) (hbr rfl)
        refine ev_iconst (v := iZ 1) d_Mo_takeLines_88 rfl ?_
        refine ev_istore (L' := [(0, .ref m), (1, .int (iZ (frZ T br))), (2, .int (iZ 0)), (3, .int (iZ (-1))), (4, .int (iZ (T.length : Int))), (5, .int (iZ 1))]) d_Mo_takeLines_89 (by decide) rfl ?_
        refine ev_aload_n d_Mo_takeLines_91 rfl rfl ?_
        refine ev_iload_n d_Mo_takeLines_92 rfl rfl ?_
        have it := isT_r (-1)
        refine ev_pS M_Mo_isText 0 0 (As := [.int (iZ (-1))]) (c_Mo_isText G h1 (-1) (by omega)) d_Mo_takeLines_93 mk_Mo_isText ml_Mo_143 ms_Mo_isText rfl rfl (Nat.le_of_ble_eq_true rfl) ⟨by decide, by decide⟩ ⟨by decide, by decide⟩ ?_
        refine ev_top (0) (by decide) ?_
        refine ez_if_eq (tgt := 113) (by decide) d_Mo_takeLines_96 rfl (fun c96 => ?_) (fun c96 => absurd c96 (by omega))
        refine ev_iconst (v := iZ 0) d_Mo_takeLines_113 rfl ?_
        refine ev_callV M_Mo_take (rm 0 0) _ (As := [.int (iZ 0)]) (c_Mo_take G h1 σ2 m (p) ((p : Int)) 0 hm f16 f17 (by omega) (by omega) (by decide)) d_Mo_takeLines_114 mk_Mo_take ml_Mo_117 mv_Mo_take hm rfl rfl rfl (Nat.le_of_ble_eq_true rfl) ⟨by decide, by decide⟩ ⟨by decide, by decide⟩ (fun r h5 hq => ?_)
        obtain ⟨rfl, ⟨σ6, gm, g16, g17, gs⟩, fmc⟩ := hq
        rw [show tkP p ((p : Int)) 0 = p from if_neg (by omega)] at g16
        rw [show tkF p ((p : Int)) 0 = (p : Int) from if_neg (by omega)] at g17
        have hbu := (fmc _ (ninc (cne hbu hm (by simp)) nin0)).trans hbu
        have he3 := (fmc _ (ninc (cne he3 hm (by simp)) nin0)).trans he3
        have he4 := (fmc _ (ninc (cne he4 hm (by simp)) nin0)).trans he4
        have f0 := (gs 0 (by decide)).trans f0
        have f1 := (gs 1 (by decide)).trans f1
        have f18 := (gs 18 (by decide)).trans f18
        have f21 := (gs 21 (by decide)).trans f21
        have f22 := (gs 22 (by decide)).trans f22
        have f16 := g16
        have f17 := g17
        have hm := gm
        have fm := fm.call (by simp) fmc
        have fs := fs.call (by simp) gs
        refine ev_aload_n d_Mo_takeLines_117 rfl rfl ?_
        refine ev_getF d_Mo_takeLines_118 fl_Mo_107 hm (by decide) f17 ?_
        refine ez_if_ge (tgt := 136) (by omega) d_Mo_takeLines_121 rfl (fun c121 => ?_) (fun c121 => absurd c121 (by omega))
        refine ev_aload_n d_Mo_takeLines_136 rfl rfl ?_
        refine ev_getF d_Mo_takeLines_137 fl_Mo_107 hm (by decide) f17 ?_
        refine ez_if_ge (tgt := 148) (by omega) d_Mo_takeLines_140 rfl (fun c140 => ?_) (fun c140 => absurd c140 (by omega))
        refine ev_iconst (v := iZ 0) d_Mo_takeLines_148 rfl ?_
        refine ev_istore_n (L' := [(0, .ref m), (1, .int (iZ 0)), (2, .int (iZ 0)), (3, .int (iZ (-1))), (4, .int (iZ (T.length : Int))), (5, .int (iZ 1))]) d_Mo_takeLines_149 rfl (by decide) rfl ?_
        refine ev_goto (tgt := 4) d_Mo_takeLines_150 rfl ?_
        refine ev_iload_n d_Mo_takeLines_4 rfl rfl ?_
        refine ez_if_ne (tgt := 153) (by decide) d_Mo_takeLines_5 rfl (fun c5 => absurd c5 (by omega)) (fun c5 => ?_)
        refine ev_aload_n d_Mo_takeLines_8 rfl rfl ?_
        refine ev_getF d_Mo_takeLines_9 fl_Mo_107 hm (by decide) f17 ?_
        refine ez_if_ge (tgt := 153) (by omega) d_Mo_takeLines_12 rfl (fun c12 => ?_) (fun c12 => absurd c12 (by omega))
        have e9 : tx0 F n (g + 1) p T br = (p, none) := by rw [tx0, if_neg (by omega), if_neg (by rintro ⟨⟨w, _, _⟩, _⟩; omega)]
        rw [e9]
        exact ev_return d_Mo_takeLines_153 rfl (by decide) (by decide) (⟨rfl, ⟨σ6, hm, f16, f17, fs⟩, fun T' q => (by cases q), ⟨_, _, he3, he4⟩, fm⟩)
      · have bt : br = true := by rcases z with z | z; omega; exact z
        refine ev_iconst (v := iZ 2) d_Mo_takeLines_84 rfl ?_
        refine ev_goto (tgt := 89) d_Mo_takeLines_85 rfl ?_
        refine ev_istore (L' := [(0, .ref m), (1, .int (iZ (frZ T br))), (2, .int (iZ 0)), (3, .int (iZ (-1))), (4, .int (iZ (T.length : Int))), (5, .int (iZ 2))]) d_Mo_takeLines_89 (by decide) rfl ?_
        refine ev_aload_n d_Mo_takeLines_91 rfl rfl ?_
        refine ev_iload_n d_Mo_takeLines_92 rfl rfl ?_
        have it := isT_r (-1)
        refine ev_pS M_Mo_isText 0 0 (As := [.int (iZ (-1))]) (c_Mo_isText G h1 (-1) (by omega)) d_Mo_takeLines_93 mk_Mo_isText ml_Mo_143 ms_Mo_isText rfl rfl (Nat.le_of_ble_eq_true rfl) ⟨by decide, by decide⟩ ⟨by decide, by decide⟩ ?_
        refine ev_top (0) (by decide) ?_
        refine ez_if_eq (tgt := 113) (by decide) d_Mo_takeLines_96 rfl (fun c96 => ?_) (fun c96 => absurd c96 (by omega))
        refine ev_iconst (v := iZ 0) d_Mo_takeLines_113 rfl ?_
        refine ev_callV M_Mo_take (rm 0 0) _ (As := [.int (iZ 0)]) (c_Mo_take G h1 σ2 m (p) ((p : Int)) 0 hm f16 f17 (by omega) (by omega) (by decide)) d_Mo_takeLines_114 mk_Mo_take ml_Mo_117 mv_Mo_take hm rfl rfl rfl (Nat.le_of_ble_eq_true rfl) ⟨by decide, by decide⟩ ⟨by decide, by decide⟩ (fun r h7 hq => ?_)
        obtain ⟨rfl, ⟨σ8, gm, g16, g17, gs⟩, fmc⟩ := hq
        rw [show tkP p ((p : Int)) 0 = p from if_neg (by omega)] at g16
        rw [show tkF p ((p : Int)) 0 = (p : Int) from if_neg (by omega)] at g17
        have hbu := (fmc _ (ninc (cne hbu hm (by simp)) nin0)).trans hbu
        have he3 := (fmc _ (ninc (cne he3 hm (by simp)) nin0)).trans he3
        have he4 := (fmc _ (ninc (cne he4 hm (by simp)) nin0)).trans he4
        have f0 := (gs 0 (by decide)).trans f0
        have f1 := (gs 1 (by decide)).trans f1
        have f18 := (gs 18 (by decide)).trans f18
        have f21 := (gs 21 (by decide)).trans f21
        have f22 := (gs 22 (by decide)).trans f22
        have f16 := g16
        have f17 := g17
        have hm := gm
        have fm := fm.call (by simp) fmc
        have fs := fs.call (by simp) gs
        refine ev_aload_n d_Mo_takeLines_117 rfl rfl ?_
        refine ev_getF d_Mo_takeLines_118 fl_Mo_107 hm (by decide) f17 ?_
        refine ez_if_ge (tgt := 136) (by omega) d_Mo_takeLines_121 rfl (fun c121 => ?_) (fun c121 => absurd c121 (by omega))
        refine ev_aload_n d_Mo_takeLines_136 rfl rfl ?_
        refine ev_getF d_Mo_takeLines_137 fl_Mo_107 hm (by decide) f17 ?_
        refine ez_if_ge (tgt := 148) (by omega) d_Mo_takeLines_140 rfl (fun c140 => ?_) (fun c140 => absurd c140 (by omega))
        refine ev_iconst (v := iZ 0) d_Mo_takeLines_148 rfl ?_
        refine ev_istore_n (L' := [(0, .ref m), (1, .int (iZ 0)), (2, .int (iZ 0)), (3, .int (iZ (-1))), (4, .int (iZ (T.length : Int))), (5, .int (iZ 2))]) d_Mo_takeLines_149 rfl (by decide) rfl ?_
        refine ev_goto (tgt := 4) d_Mo_takeLines_150 rfl ?_
        refine ev_iload_n d_Mo_takeLines_4 rfl rfl ?_
        refine ez_if_ne (tgt := 153) (by decide) d_Mo_takeLines_5 rfl (fun c5 => absurd c5 (by omega)) (fun c5 => ?_)
        refine ev_aload_n d_Mo_takeLines_8 rfl rfl ?_
        refine ev_getF d_Mo_takeLines_9 fl_Mo_107 hm (by decide) f17 ?_
        refine ez_if_ge (tgt := 153) (by omega) d_Mo_takeLines_12 rfl (fun c12 => ?_) (fun c12 => absurd c12 (by omega))
        have e9 : tx0 F n (g + 1) p T br = (p, none) := by rw [tx0, if_neg (by omega), if_neg (by rintro ⟨⟨w, _, _⟩, _⟩; omega)]
        rw [e9]
        exact ev_return d_Mo_takeLines_153 rfl (by decide) (by decide) (⟨rfl, ⟨σ8, hm, f16, f17, fs⟩, fun T' q => (by cases q), ⟨_, _, he3, he4⟩, fm⟩)
  ·
    rw [hf_p (show p < n by omega)] at f17
    have rl := lk_r (n := n) hF p
    have rl0 : 0 ≤ lk F n p := by rw [lk_in (by omega)]; exact (hF p).1
    refine ev_top (lk F n p) (if_pos (by decide)) ?_
    refine ev_istore_n (L' := [(0, .ref m), (1, .int (iZ (frZ T br))), (2, .int (iZ 0)), (3, .int (iZ (lk F n p)))]) d_Mo_takeLines_19 rfl (by decide) rfl ?_
    refine ev_aload_n d_Mo_takeLines_20 rfl rfl ?_
    refine ev_getF d_Mo_takeLines_21 fl_Mo_54 hm (by decide) f21 ?_
    refine ev_aload_n d_Mo_takeLines_24 rfl rfl ?_
    refine ev_getF d_Mo_takeLines_25 fl_Mo_140 hm (by decide) f18 ?_
    refine ez_iaload c d_Mo_takeLines_28 he3 (by omega) (by omega) (by decide) ?_
    refine ev_top ((T.length : Int)) (zup_s) ?_
    skip
    refine ev_istore (L' := [(0, .ref m), (1, .int (iZ (frZ T br))), (2, .int (iZ 0)), (3, .int (iZ (lk F n p))), (4, .int (iZ (T.length : Int)))]) d_Mo_takeLines_29 (by decide) rfl ?_
    refine ev_iload_n d_Mo_takeLines_31 rfl rfl ?_
    refine ev_bipush (v := iZ 10) d_Mo_takeLines_32 rfl ?_
    refine ez_icmp_ne (tgt := 75) (by omega) (by decide) d_Mo_takeLines_34 rfl (fun c34 => ?_) (fun c34 => ?_)
    · refine ev_iload_n d_Mo_takeLines_75 rfl rfl ?_
      refine ez_if_eq (tgt := 88) (by omega) d_Mo_takeLines_76 rfl (fun c76 => ?_) (fun c76 => ?_)
      · have z := frZ_0 c76
        refine ev_iconst (v := iZ 1) d_Mo_takeLines_88 rfl ?_
        refine ev_istore (L' := [(0, .ref m), (1, .int (iZ (frZ T br))), (2, .int (iZ 0)), (3, .int (iZ (lk F n p))), (4, .int (iZ (T.length : Int))), (5, .int (iZ 1))]) d_Mo_takeLines_89 (by decide) rfl ?_
        refine ev_aload_n d_Mo_takeLines_91 rfl rfl ?_
        refine ev_iload_n d_Mo_takeLines_92 rfl rfl ?_
        have it := isT_r (lk F n p)
        refine ev_pS M_Mo_isText 0 0 (As := [.int (iZ (lk F n p))]) (c_Mo_isText G h1 (lk F n p) (by omega)) d_Mo_takeLines_93 mk_Mo_isText ml_Mo_143 ms_Mo_isText rfl rfl (Nat.le_of_ble_eq_true rfl) ⟨by decide, by decide⟩ ⟨by decide, by decide⟩ ?_
        refine ez_if_eq (tgt := 113) (by omega) d_Mo_takeLines_96 rfl (fun c96 => ?_) (fun c96 => ?_)
        · have zt := isT_0 c96 (by omega)
          refine ev_iconst (v := iZ 0) d_Mo_takeLines_113 rfl ?_
          refine ev_callV M_Mo_take (rm 0 0) _ (As := [.int (iZ 0)]) (c_Mo_take G h1 σ2 m (p) ((-1)) 0 hm f16 f17 (by omega) (by omega) (by decide)) d_Mo_takeLines_114 mk_Mo_take ml_Mo_117 mv_Mo_take hm rfl rfl rfl (Nat.le_of_ble_eq_true rfl) ⟨by decide, by decide⟩ ⟨by decide, by decide⟩ (fun r h9 hq => ?_)
          obtain ⟨rfl, ⟨σ10, gm, g16, g17, gs⟩, fmc⟩ := hq
          rw [show tkP p ((-1)) 0 = p from if_neg (by decide)] at g16
          rw [show tkF p ((-1)) 0 = (p : Int) from if_pos ⟨by decide, rfl⟩] at g17
          have hbu := (fmc _ (ninc (cne hbu hm (by simp)) nin0)).trans hbu
          have he3 := (fmc _ (ninc (cne he3 hm (by simp)) nin0)).trans he3
          have he4 := (fmc _ (ninc (cne he4 hm (by simp)) nin0)).trans he4
          have f0 := (gs 0 (by decide)).trans f0
          have f1 := (gs 1 (by decide)).trans f1
          have f18 := (gs 18 (by decide)).trans f18
          have f21 := (gs 21 (by decide)).trans f21
          have f22 := (gs 22 (by decide)).trans f22
          have f16 := g16
          have f17 := g17
          have hm := gm
          have fm := fm.call (by simp) fmc
          have fs := fs.call (by simp) gs
          refine ev_aload_n d_Mo_takeLines_117 rfl rfl ?_
          refine ev_getF d_Mo_takeLines_118 fl_Mo_107 hm (by decide) f17 ?_
          refine ez_if_ge (tgt := 136) (by omega) d_Mo_takeLines_121 rfl (fun c121 => ?_) (fun c121 => absurd c121 (by omega))
          refine ev_aload_n d_Mo_takeLines_136 rfl rfl ?_
          refine ev_getF d_Mo_takeLines_137 fl_Mo_107 hm (by decide) f17 ?_
          refine ez_if_ge (tgt := 148) (by omega) d_Mo_takeLines_140 rfl (fun c140 => ?_) (fun c140 => absurd c140 (by omega))
          refine ev_iconst (v := iZ 0) d_Mo_takeLines_148 rfl ?_
          refine ev_istore_n (L' := [(0, .ref m), (1, .int (iZ 0)), (2, .int (iZ 0)), (3, .int (iZ (lk F n p))), (4, .int (iZ (T.length : Int))), (5, .int (iZ 1))]) d_Mo_takeLines_149 rfl (by decide) rfl ?_
          refine ev_goto (tgt := 4) d_Mo_takeLines_150 rfl ?_
          refine ev_iload_n d_Mo_takeLines_4 rfl rfl ?_
          refine ez_if_ne (tgt := 153) (by decide) d_Mo_takeLines_5 rfl (fun c5 => absurd c5 (by omega)) (fun c5 => ?_)
          refine ev_aload_n d_Mo_takeLines_8 rfl rfl ?_
          refine ev_getF d_Mo_takeLines_9 fl_Mo_107 hm (by decide) f17 ?_
          refine ez_if_ge (tgt := 153) (by omega) d_Mo_takeLines_12 rfl (fun c12 => ?_) (fun c12 => absurd c12 (by omega))
          have e9 : tx0 F n (g + 1) p T br = (p, none) := by rw [tx0, if_neg (by omega), if_neg (fun w => zt w.1)]
          rw [e9]
          exact ev_return d_Mo_takeLines_153 rfl (by decide) (by decide) (⟨rfl, ⟨σ10, hm, f16, f17, fs⟩, fun T' q => (by cases q), ⟨_, _, he3, he4⟩, fm⟩)
        · have zt := isT_1 c96
          refine ev_iload d_Mo_takeLines_99 rfl ?_
          refine ev_iload d_Mo_takeLines_101 rfl ?_
          refine ez_iadd d_Mo_takeLines_103 ?_
          refine ev_bipush (v := iZ 64) d_Mo_takeLines_104 rfl ?_
          refine ez_icmp_gt (tgt := 113) (by omega) (by decide) d_Mo_takeLines_106 rfl (fun c106 => ?_) (fun c106 => ?_)
          · refine ev_iconst (v := iZ 0) d_Mo_takeLines_113 rfl ?_
            refine ev_callV M_Mo_take (rm 0 0) _ (As := [.int (iZ 0)]) (c_Mo_take G h1 σ2 m (p) ((-1)) 0 hm f16 f17 (by omega) (by omega) (by decide)) d_Mo_takeLines_114 mk_Mo_take ml_Mo_117 mv_Mo_take hm rfl rfl rfl (Nat.le_of_ble_eq_true rfl) ⟨by decide, by decide⟩ ⟨by decide, by decide⟩ (fun r h11 hq => ?_)
            obtain ⟨rfl, ⟨σ12, gm, g16, g17, gs⟩, fmc⟩ := hq
            rw [show tkP p ((-1)) 0 = p from if_neg (by decide)] at g16
            rw [show tkF p ((-1)) 0 = (p : Int) from if_pos ⟨by decide, rfl⟩] at g17
            have hbu := (fmc _ (ninc (cne hbu hm (by simp)) nin0)).trans hbu
            have he3 := (fmc _ (ninc (cne he3 hm (by simp)) nin0)).trans he3
            have he4 := (fmc _ (ninc (cne he4 hm (by simp)) nin0)).trans he4
            have f0 := (gs 0 (by decide)).trans f0
            have f1 := (gs 1 (by decide)).trans f1
            have f18 := (gs 18 (by decide)).trans f18
            have f21 := (gs 21 (by decide)).trans f21
            have f22 := (gs 22 (by decide)).trans f22
            have f16 := g16
            have f17 := g17
            have hm := gm
            have fm := fm.call (by simp) fmc
            have fs := fs.call (by simp) gs
            refine ev_aload_n d_Mo_takeLines_117 rfl rfl ?_
            refine ev_getF d_Mo_takeLines_118 fl_Mo_107 hm (by decide) f17 ?_
            refine ez_if_ge (tgt := 136) (by omega) d_Mo_takeLines_121 rfl (fun c121 => ?_) (fun c121 => absurd c121 (by omega))
            refine ev_aload_n d_Mo_takeLines_136 rfl rfl ?_
            refine ev_getF d_Mo_takeLines_137 fl_Mo_107 hm (by decide) f17 ?_
            refine ez_if_ge (tgt := 148) (by omega) d_Mo_takeLines_140 rfl (fun c140 => ?_) (fun c140 => absurd c140 (by omega))
            refine ev_iconst (v := iZ 0) d_Mo_takeLines_148 rfl ?_
            refine ev_istore_n (L' := [(0, .ref m), (1, .int (iZ 0)), (2, .int (iZ 0)), (3, .int (iZ (lk F n p))), (4, .int (iZ (T.length : Int))), (5, .int (iZ 1))]) d_Mo_takeLines_149 rfl (by decide) rfl ?_
            refine ev_goto (tgt := 4) d_Mo_takeLines_150 rfl ?_
            refine ev_iload_n d_Mo_takeLines_4 rfl rfl ?_
            refine ez_if_ne (tgt := 153) (by decide) d_Mo_takeLines_5 rfl (fun c5 => absurd c5 (by omega)) (fun c5 => ?_)
            refine ev_aload_n d_Mo_takeLines_8 rfl rfl ?_
            refine ev_getF d_Mo_takeLines_9 fl_Mo_107 hm (by decide) f17 ?_
            refine ez_if_ge (tgt := 153) (by omega) d_Mo_takeLines_12 rfl (fun c12 => ?_) (fun c12 => absurd c12 (by omega))
            have e9 : tx0 F n (g + 1) p T br = (p, none) := by rw [tx0, if_neg (by omega), if_neg (by rintro ⟨_, w2⟩; rw [z.2] at w2; simp at w2; omega)]
            rw [e9]
            exact ev_return d_Mo_takeLines_153 rfl (by decide) (by decide) (⟨rfl, ⟨σ12, hm, f16, f17, fs⟩, fun T' q => (by cases q), ⟨_, _, he3, he4⟩, fm⟩)
          · refine ev_iconst (v := iZ 1) d_Mo_takeLines_109 rfl ?_
            refine ev_goto (tgt := 114) d_Mo_takeLines_110 rfl ?_
            refine ev_callV M_Mo_take (rm 0 0) _ (As := [.int (iZ 1)]) (c_Mo_take G h1 σ2 m (p) ((-1)) 1 hm f16 f17 (by omega) (by omega) (by decide)) d_Mo_takeLines_114 mk_Mo_take ml_Mo_117 mv_Mo_take hm rfl rfl rfl (Nat.le_of_ble_eq_true rfl) ⟨by decide, by decide⟩ ⟨by decide, by decide⟩ (fun r h13 hq => ?_)
            obtain ⟨rfl, ⟨σ14, gm, g16, g17, gs⟩, fmc⟩ := hq
            rw [show tkP p ((-1)) 1 = p + 1 from if_pos ⟨by decide, by decide⟩] at g16
            rw [show tkF p ((-1)) 1 = (-1) from if_neg (by decide)] at g17
            have hbu := (fmc _ (ninc (cne hbu hm (by simp)) nin0)).trans hbu
            have he3 := (fmc _ (ninc (cne he3 hm (by simp)) nin0)).trans he3
            have he4 := (fmc _ (ninc (cne he4 hm (by simp)) nin0)).trans he4
            have f0 := (gs 0 (by decide)).trans f0
            have f1 := (gs 1 (by decide)).trans f1
            have f18 := (gs 18 (by decide)).trans f18
            have f21 := (gs 21 (by decide)).trans f21
            have f22 := (gs 22 (by decide)).trans f22
            have f16 := g16
            have f17 := g17
            have hm := gm
            have fm := fm.call (by simp) fmc
            have fs := fs.call (by simp) gs
            refine ev_aload_n d_Mo_takeLines_117 rfl rfl ?_
            refine ev_getF d_Mo_takeLines_118 fl_Mo_107 hm (by decide) f17 ?_
            refine ez_if_ge (tgt := 136) (by decide) d_Mo_takeLines_121 rfl (fun c121 => absurd c121 (by omega)) (fun c121 => ?_)
            refine ev_iload d_Mo_takeLines_124 rfl ?_
            refine ev_iconst (v := iZ 2) d_Mo_takeLines_126 rfl ?_
            refine ez_icmp_ne (tgt := 136) (by decide) (by decide) d_Mo_takeLines_127 rfl (fun c127 => ?_) (fun c127 => absurd c127 (by omega))
            refine ev_aload_n d_Mo_takeLines_136 rfl rfl ?_
            refine ev_getF d_Mo_takeLines_137 fl_Mo_107 hm (by decide) f17 ?_
            refine ez_if_ge (tgt := 148) (by decide) d_Mo_takeLines_140 rfl (fun c140 => absurd c140 (by omega)) (fun c140 => ?_)
            refine ev_aload_n d_Mo_takeLines_143 rfl rfl ?_
            refine ev_iload_n d_Mo_takeLines_144 rfl rfl ?_
            refine ev_callV M_Mo_addByte (rm 0 0) _ (As := [.int (iZ (lk F n p))]) (c_Mo_addByte G h13 σ14 m e3 e4 c Z E (T) (lk F n p) hm f18 f21 f22 he3 he4 hc (by first | omega | (simp only [List.length_append, List.length_cons, List.length_nil] at *; omega))) d_Mo_takeLines_145 mk_Mo_addByte ml_Mo_147 mv_Mo_addByte hm rfl rfl rfl (Nat.le_of_ble_eq_true rfl) ⟨by decide, by decide⟩ ⟨by decide, by decide⟩ (fun r h15 hq => ?_)
            obtain ⟨rfl, ge3, ge4, fmc⟩ := hq
            have hm := (fmc _ (ninc (cne hm he3 (by simp)) (ninc (cne hm he4 (by simp)) nin0))).trans hm
            have hbu := (fmc _ (ninc (cne hbu he3 (by simp)) (ninc (cne hbu he4 (by simp)) nin0))).trans hbu
            have he3 := ge3
            have he4 := ge4
            have fm := fm.call (by simp) fmc
            refine ev_iconst (v := iZ 0) d_Mo_takeLines_148 rfl ?_
            refine ev_istore_n (L' := [(0, .ref m), (1, .int (iZ 0)), (2, .int (iZ 0)), (3, .int (iZ (lk F n p))), (4, .int (iZ (T.length : Int))), (5, .int (iZ 1))]) d_Mo_takeLines_149 rfl (by decide) rfl ?_
            refine ev_goto (tgt := 4) d_Mo_takeLines_150 rfl ?_
            have lo : lok (lk F n p) T br := ⟨zt, by rw [z.2]; simp; omega⟩
            have e9 : tx0 F n (g + 1) p T br = tx0 F n g (p + 1) (lad T br (lk F n p)) false := by rw [tx0, if_neg (by omega), if_pos lo]
            rw [e9]
            have el : lad T br (lk F n p) = T ++ [lk F n p] := by rw [z.2]; simp [lad]
            rw [← el] at he3 he4
            refine ev_loc [(0, .ref m), (1, .int (iZ 0)), (2, .int (iZ 0))] (by simp) ?_
            have k9 := ih g (by omega) (p + 1) (lad T br (lk F n p)) false h15 σ14 (by omega) (by omega) (lok_l lo) (fun w => by cases w) hm f0 f1 f16 f17 f18 f21 f22 hbu he3 he4 fm fs
            rw [frZ_l] at k9
            exact k9
      · have z := frZ_1 c76
        refine ev_iload d_Mo_takeLines_79 rfl ?_
        refine ez_if_le (tgt := 88) (by omega) d_Mo_takeLines_81 rfl (fun c81 => ?_) (fun c81 => ?_)
        · have bf : br = false := by cases br; rfl; exact absurd (by omega) (hbr rfl)
          refine ev_iconst (v := iZ 1) d_Mo_takeLines_88 rfl ?_
          refine ev_istore (L' := [(0, .ref m), (1, .int (iZ (frZ T br))), (2, .int (iZ 0)), (3, .int (iZ (lk F n p))), (4, .int (iZ (T.length : Int))), (5, .int (iZ 1))]) d_Mo_takeLines_89 (by decide) rfl ?_
          refine ev_aload_n d_Mo_takeLines_91 rfl rfl ?_
          refine ev_iload_n d_Mo_takeLines_92 rfl rfl ?_
          have it := isT_r (lk F n p)
          refine ev_pS M_Mo_isText 0 0 (As := [.int (iZ (lk F n p))]) (c_Mo_isText G h1 (lk F n p) (by omega)) d_Mo_takeLines_93 mk_Mo_isText ml_Mo_143 ms_Mo_isText rfl rfl (Nat.le_of_ble_eq_true rfl) ⟨by decide, by decide⟩ ⟨by decide, by decide⟩ ?_
          refine ez_if_eq (tgt := 113) (by omega) d_Mo_takeLines_96 rfl (fun c96 => ?_) (fun c96 => ?_)
          · have zt := isT_0 c96 (by omega)
            refine ev_iconst (v := iZ 0) d_Mo_takeLines_113 rfl ?_
            refine ev_callV M_Mo_take (rm 0 0) _ (As := [.int (iZ 0)]) (c_Mo_take G h1 σ2 m (p) ((-1)) 0 hm f16 f17 (by omega) (by omega) (by decide)) d_Mo_takeLines_114 mk_Mo_take ml_Mo_117 mv_Mo_take hm rfl rfl rfl (Nat.le_of_ble_eq_true rfl) ⟨by decide, by decide⟩ ⟨by decide, by decide⟩ (fun r h16 hq => ?_)
            obtain ⟨rfl, ⟨σ17, gm, g16, g17, gs⟩, fmc⟩ := hq
            rw [show tkP p ((-1)) 0 = p from if_neg (by decide)] at g16
            rw [show tkF p ((-1)) 0 = (p : Int) from if_pos ⟨by decide, rfl⟩] at g17
            have hbu := (fmc _ (ninc (cne hbu hm (by simp)) nin0)).trans hbu
            have he3 := (fmc _ (ninc (cne he3 hm (by simp)) nin0)).trans he3
            have he4 := (fmc _ (ninc (cne he4 hm (by simp)) nin0)).trans he4
            have f0 := (gs 0 (by decide)).trans f0
            have f1 := (gs 1 (by decide)).trans f1
            have f18 := (gs 18 (by decide)).trans f18
            have f21 := (gs 21 (by decide)).trans f21
            have f22 := (gs 22 (by decide)).trans f22
            have f16 := g16
            have f17 := g17
            have hm := gm
            have fm := fm.call (by simp) fmc
            have fs := fs.call (by simp) gs
            refine ev_aload_n d_Mo_takeLines_117 rfl rfl ?_
            refine ev_getF d_Mo_takeLines_118 fl_Mo_107 hm (by decide) f17 ?_
            refine ez_if_ge (tgt := 136) (by omega) d_Mo_takeLines_121 rfl (fun c121 => ?_) (fun c121 => absurd c121 (by omega))
            refine ev_aload_n d_Mo_takeLines_136 rfl rfl ?_
            refine ev_getF d_Mo_takeLines_137 fl_Mo_107 hm (by decide) f17 ?_
            refine ez_if_ge (tgt := 148) (by omega) d_Mo_takeLines_140 rfl (fun c140 => ?_) (fun c140 => absurd c140 (by omega))
            refine ev_iconst (v := iZ 0) d_Mo_takeLines_148 rfl ?_
            refine ev_istore_n (L' := [(0, .ref m), (1, .int (iZ 0)), (2, .int (iZ 0)), (3, .int (iZ (lk F n p))), (4, .int (iZ (T.length : Int))), (5, .int (iZ 1))]) d_Mo_takeLines_149 rfl (by decide) rfl ?_
            refine ev_goto (tgt := 4) d_Mo_takeLines_150 rfl ?_
            refine ev_iload_n d_Mo_takeLines_4 rfl rfl ?_
            refine ez_if_ne (tgt := 153) (by decide) d_Mo_takeLines_5 rfl (fun c5 => absurd c5 (by omega)) (fun c5 => ?_)
            refine ev_aload_n d_Mo_takeLines_8 rfl rfl ?_
            refine ev_getF d_Mo_takeLines_9 fl_Mo_107 hm (by decide) f17 ?_
            refine ez_if_ge (tgt := 153) (by omega) d_Mo_takeLines_12 rfl (fun c12 => ?_) (fun c12 => absurd c12 (by omega))
            have e9 : tx0 F n (g + 1) p T br = (p, none) := by rw [tx0, if_neg (by omega), if_neg (fun w => zt w.1)]
            rw [e9]
            exact ev_return d_Mo_takeLines_153 rfl (by decide) (by decide) (⟨rfl, ⟨σ17, hm, f16, f17, fs⟩, fun T' q => (by cases q), ⟨_, _, he3, he4⟩, fm⟩)
          · have zt := isT_1 c96
            refine ev_iload d_Mo_takeLines_99 rfl ?_
            refine ev_iload d_Mo_takeLines_101 rfl ?_
            refine ez_iadd d_Mo_takeLines_103 ?_
            refine ev_bipush (v := iZ 64) d_Mo_takeLines_104 rfl ?_
            refine ez_icmp_gt (tgt := 113) (by omega) (by decide) d_Mo_takeLines_106 rfl (fun c106 => ?_) (fun c106 => ?_)
            · refine ev_iconst (v := iZ 0) d_Mo_takeLines_113 rfl ?_
              refine ev_callV M_Mo_take (rm 0 0) _ (As := [.int (iZ 0)]) (c_Mo_take G h1 σ2 m (p) ((-1)) 0 hm f16 f17 (by omega) (by omega) (by decide)) d_Mo_takeLines_114 mk_Mo_take ml_Mo_117 mv_Mo_take hm rfl rfl rfl (Nat.le_of_ble_eq_true rfl) ⟨by decide, by decide⟩ ⟨by decide, by decide⟩ (fun r h18 hq => ?_)
              obtain ⟨rfl, ⟨σ19, gm, g16, g17, gs⟩, fmc⟩ := hq
              rw [show tkP p ((-1)) 0 = p from if_neg (by decide)] at g16
              rw [show tkF p ((-1)) 0 = (p : Int) from if_pos ⟨by decide, rfl⟩] at g17
              have hbu := (fmc _ (ninc (cne hbu hm (by simp)) nin0)).trans hbu
              have he3 := (fmc _ (ninc (cne he3 hm (by simp)) nin0)).trans he3
              have he4 := (fmc _ (ninc (cne he4 hm (by simp)) nin0)).trans he4
              have f0 := (gs 0 (by decide)).trans f0
              have f1 := (gs 1 (by decide)).trans f1
              have f18 := (gs 18 (by decide)).trans f18
              have f21 := (gs 21 (by decide)).trans f21
              have f22 := (gs 22 (by decide)).trans f22
              have f16 := g16
              have f17 := g17
              have hm := gm
              have fm := fm.call (by simp) fmc
              have fs := fs.call (by simp) gs
              refine ev_aload_n d_Mo_takeLines_117 rfl rfl ?_
              refine ev_getF d_Mo_takeLines_118 fl_Mo_107 hm (by decide) f17 ?_
              refine ez_if_ge (tgt := 136) (by omega) d_Mo_takeLines_121 rfl (fun c121 => ?_) (fun c121 => absurd c121 (by omega))
              refine ev_aload_n d_Mo_takeLines_136 rfl rfl ?_
              refine ev_getF d_Mo_takeLines_137 fl_Mo_107 hm (by decide) f17 ?_
              refine ez_if_ge (tgt := 148) (by omega) d_Mo_takeLines_140 rfl (fun c140 => ?_) (fun c140 => absurd c140 (by omega))
              refine ev_iconst (v := iZ 0) d_Mo_takeLines_148 rfl ?_
              refine ev_istore_n (L' := [(0, .ref m), (1, .int (iZ 0)), (2, .int (iZ 0)), (3, .int (iZ (lk F n p))), (4, .int (iZ (T.length : Int))), (5, .int (iZ 1))]) d_Mo_takeLines_149 rfl (by decide) rfl ?_
              refine ev_goto (tgt := 4) d_Mo_takeLines_150 rfl ?_
              refine ev_iload_n d_Mo_takeLines_4 rfl rfl ?_
              refine ez_if_ne (tgt := 153) (by decide) d_Mo_takeLines_5 rfl (fun c5 => absurd c5 (by omega)) (fun c5 => ?_)
              refine ev_aload_n d_Mo_takeLines_8 rfl rfl ?_
              refine ev_getF d_Mo_takeLines_9 fl_Mo_107 hm (by decide) f17 ?_
              refine ez_if_ge (tgt := 153) (by omega) d_Mo_takeLines_12 rfl (fun c12 => ?_) (fun c12 => absurd c12 (by omega))
              have e9 : tx0 F n (g + 1) p T br = (p, none) := by rw [tx0, if_neg (by omega), if_neg (by rintro ⟨_, w2⟩; rw [bf] at w2; simp at w2; omega)]
              rw [e9]
              exact ev_return d_Mo_takeLines_153 rfl (by decide) (by decide) (⟨rfl, ⟨σ19, hm, f16, f17, fs⟩, fun T' q => (by cases q), ⟨_, _, he3, he4⟩, fm⟩)
            · refine ev_iconst (v := iZ 1) d_Mo_takeLines_109 rfl ?_
              refine ev_goto (tgt := 114) d_Mo_takeLines_110 rfl ?_
              refine ev_callV M_Mo_take (rm 0 0) _ (As := [.int (iZ 1)]) (c_Mo_take G h1 σ2 m (p) ((-1)) 1 hm f16 f17 (by omega) (by omega) (by decide)) d_Mo_takeLines_114 mk_Mo_take ml_Mo_117 mv_Mo_take hm rfl rfl rfl (Nat.le_of_ble_eq_true rfl) ⟨by decide, by decide⟩ ⟨by decide, by decide⟩ (fun r h20 hq => ?_)
              obtain ⟨rfl, ⟨σ21, gm, g16, g17, gs⟩, fmc⟩ := hq
              rw [show tkP p ((-1)) 1 = p + 1 from if_pos ⟨by decide, by decide⟩] at g16
              rw [show tkF p ((-1)) 1 = (-1) from if_neg (by decide)] at g17
              have hbu := (fmc _ (ninc (cne hbu hm (by simp)) nin0)).trans hbu
              have he3 := (fmc _ (ninc (cne he3 hm (by simp)) nin0)).trans he3
              have he4 := (fmc _ (ninc (cne he4 hm (by simp)) nin0)).trans he4
              have f0 := (gs 0 (by decide)).trans f0
              have f1 := (gs 1 (by decide)).trans f1
              have f18 := (gs 18 (by decide)).trans f18
              have f21 := (gs 21 (by decide)).trans f21
              have f22 := (gs 22 (by decide)).trans f22
              have f16 := g16
              have f17 := g17
              have hm := gm
              have fm := fm.call (by simp) fmc
              have fs := fs.call (by simp) gs
              refine ev_aload_n d_Mo_takeLines_117 rfl rfl ?_
              refine ev_getF d_Mo_takeLines_118 fl_Mo_107 hm (by decide) f17 ?_
              refine ez_if_ge (tgt := 136) (by decide) d_Mo_takeLines_121 rfl (fun c121 => absurd c121 (by omega)) (fun c121 => ?_)
              refine ev_iload d_Mo_takeLines_124 rfl ?_
              refine ev_iconst (v := iZ 2) d_Mo_takeLines_126 rfl ?_
              refine ez_icmp_ne (tgt := 136) (by decide) (by decide) d_Mo_takeLines_127 rfl (fun c127 => ?_) (fun c127 => absurd c127 (by omega))
              refine ev_aload_n d_Mo_takeLines_136 rfl rfl ?_
              refine ev_getF d_Mo_takeLines_137 fl_Mo_107 hm (by decide) f17 ?_
              refine ez_if_ge (tgt := 148) (by decide) d_Mo_takeLines_140 rfl (fun c140 => absurd c140 (by omega)) (fun c140 => ?_)
              refine ev_aload_n d_Mo_takeLines_143 rfl rfl ?_
              refine ev_iload_n d_Mo_takeLines_144 rfl rfl ?_
              refine ev_callV M_Mo_addByte (rm 0 0) _ (As := [.int (iZ (lk F n p))]) (c_Mo_addByte G h20 σ21 m e3 e4 c Z E (T) (lk F n p) hm f18 f21 f22 he3 he4 hc (by first | omega | (simp only [List.length_append, List.length_cons, List.length_nil] at *; omega))) d_Mo_takeLines_145 mk_Mo_addByte ml_Mo_147 mv_Mo_addByte hm rfl rfl rfl (Nat.le_of_ble_eq_true rfl) ⟨by decide, by decide⟩ ⟨by decide, by decide⟩ (fun r h22 hq => ?_)
              obtain ⟨rfl, ge3, ge4, fmc⟩ := hq
              have hm := (fmc _ (ninc (cne hm he3 (by simp)) (ninc (cne hm he4 (by simp)) nin0))).trans hm
              have hbu := (fmc _ (ninc (cne hbu he3 (by simp)) (ninc (cne hbu he4 (by simp)) nin0))).trans hbu
              have he3 := ge3
              have he4 := ge4
              have fm := fm.call (by simp) fmc
              refine ev_iconst (v := iZ 0) d_Mo_takeLines_148 rfl ?_
              refine ev_istore_n (L' := [(0, .ref m), (1, .int (iZ 0)), (2, .int (iZ 0)), (3, .int (iZ (lk F n p))), (4, .int (iZ (T.length : Int))), (5, .int (iZ 1))]) d_Mo_takeLines_149 rfl (by decide) rfl ?_
              refine ev_goto (tgt := 4) d_Mo_takeLines_150 rfl ?_
              have lo : lok (lk F n p) T br := ⟨zt, by rw [bf]; simp; omega⟩
              have e9 : tx0 F n (g + 1) p T br = tx0 F n g (p + 1) (lad T br (lk F n p)) false := by rw [tx0, if_neg (by omega), if_pos lo]
              rw [e9]
              have el : lad T br (lk F n p) = T ++ [lk F n p] := by rw [bf]; simp [lad]
              rw [← el] at he3 he4
              refine ev_loc [(0, .ref m), (1, .int (iZ 0)), (2, .int (iZ 0))] (by simp) ?_
              have k9 := ih g (by omega) (p + 1) (lad T br (lk F n p)) false h22 σ21 (by omega) (by omega) (lok_l lo) (fun w => by cases w) hm f0 f1 f16 f17 f18 f21 f22 hbu he3 he4 fm fs
              rw [frZ_l] at k9
              exact k9
        · have bt : br = true := by rcases z with z | z; omega; exact z
          refine ev_iconst (v := iZ 2) d_Mo_takeLines_84 rfl ?_
          refine ev_goto (tgt := 89) d_Mo_takeLines_85 rfl ?_
          refine ev_istore (L' := [(0, .ref m), (1, .int (iZ (frZ T br))), (2, .int (iZ 0)), (3, .int (iZ (lk F n p))), (4, .int (iZ (T.length : Int))), (5, .int (iZ 2))]) d_Mo_takeLines_89 (by decide) rfl ?_
          refine ev_aload_n d_Mo_takeLines_91 rfl rfl ?_
          refine ev_iload_n d_Mo_takeLines_92 rfl rfl ?_
          have it := isT_r (lk F n p)
          refine ev_pS M_Mo_isText 0 0 (As := [.int (iZ (lk F n p))]) (c_Mo_isText G h1 (lk F n p) (by omega)) d_Mo_takeLines_93 mk_Mo_isText ml_Mo_143 ms_Mo_isText rfl rfl (Nat.le_of_ble_eq_true rfl) ⟨by decide, by decide⟩ ⟨by decide, by decide⟩ ?_
          refine ez_if_eq (tgt := 113) (by omega) d_Mo_takeLines_96 rfl (fun c96 => ?_) (fun c96 => ?_)
          · have zt := isT_0 c96 (by omega)
            refine ev_iconst (v := iZ 0) d_Mo_takeLines_113 rfl ?_
            refine ev_callV M_Mo_take (rm 0 0) _ (As := [.int (iZ 0)]) (c_Mo_take G h1 σ2 m (p) ((-1)) 0 hm f16 f17 (by omega) (by omega) (by decide)) d_Mo_takeLines_114 mk_Mo_take ml_Mo_117 mv_Mo_take hm rfl rfl rfl (Nat.le_of_ble_eq_true rfl) ⟨by decide, by decide⟩ ⟨by decide, by decide⟩ (fun r h23 hq => ?_)
            obtain ⟨rfl, ⟨σ24, gm, g16, g17, gs⟩, fmc⟩ := hq
            rw [show tkP p ((-1)) 0 = p from if_neg (by decide)] at g16
            rw [show tkF p ((-1)) 0 = (p : Int) from if_pos ⟨by decide, rfl⟩] at g17
            have hbu := (fmc _ (ninc (cne hbu hm (by simp)) nin0)).trans hbu
            have he3 := (fmc _ (ninc (cne he3 hm (by simp)) nin0)).trans he3
            have he4 := (fmc _ (ninc (cne he4 hm (by simp)) nin0)).trans he4
            have f0 := (gs 0 (by decide)).trans f0
            have f1 := (gs 1 (by decide)).trans f1
            have f18 := (gs 18 (by decide)).trans f18
            have f21 := (gs 21 (by decide)).trans f21
            have f22 := (gs 22 (by decide)).trans f22
            have f16 := g16
            have f17 := g17
            have hm := gm
            have fm := fm.call (by simp) fmc
            have fs := fs.call (by simp) gs
            refine ev_aload_n d_Mo_takeLines_117 rfl rfl ?_
            refine ev_getF d_Mo_takeLines_118 fl_Mo_107 hm (by decide) f17 ?_
            refine ez_if_ge (tgt := 136) (by omega) d_Mo_takeLines_121 rfl (fun c121 => ?_) (fun c121 => absurd c121 (by omega))
            refine ev_aload_n d_Mo_takeLines_136 rfl rfl ?_
            refine ev_getF d_Mo_takeLines_137 fl_Mo_107 hm (by decide) f17 ?_
            refine ez_if_ge (tgt := 148) (by omega) d_Mo_takeLines_140 rfl (fun c140 => ?_) (fun c140 => absurd c140 (by omega))
            refine ev_iconst (v := iZ 0) d_Mo_takeLines_148 rfl ?_
            refine ev_istore_n (L' := [(0, .ref m), (1, .int (iZ 0)), (2, .int (iZ 0)), (3, .int (iZ (lk F n p))), (4, .int (iZ (T.length : Int))), (5, .int (iZ 2))]) d_Mo_takeLines_149 rfl (by decide) rfl ?_
            refine ev_goto (tgt := 4) d_Mo_takeLines_150 rfl ?_
            refine ev_iload_n d_Mo_takeLines_4 rfl rfl ?_
            refine ez_if_ne (tgt := 153) (by decide) d_Mo_takeLines_5 rfl (fun c5 => absurd c5 (by omega)) (fun c5 => ?_)
            refine ev_aload_n d_Mo_takeLines_8 rfl rfl ?_
            refine ev_getF d_Mo_takeLines_9 fl_Mo_107 hm (by decide) f17 ?_
            refine ez_if_ge (tgt := 153) (by omega) d_Mo_takeLines_12 rfl (fun c12 => ?_) (fun c12 => absurd c12 (by omega))
            have e9 : tx0 F n (g + 1) p T br = (p, none) := by rw [tx0, if_neg (by omega), if_neg (fun w => zt w.1)]
            rw [e9]
            exact ev_return d_Mo_takeLines_153 rfl (by decide) (by decide) (⟨rfl, ⟨σ24, hm, f16, f17, fs⟩, fun T' q => (by cases q), ⟨_, _, he3, he4⟩, fm⟩)
          · have zt := isT_1 c96
            refine ev_iload d_Mo_takeLines_99 rfl ?_
            refine ev_iload d_Mo_takeLines_101 rfl ?_
            refine ez_iadd d_Mo_takeLines_103 ?_
            refine ev_bipush (v := iZ 64) d_Mo_takeLines_104 rfl ?_
            refine ez_icmp_gt (tgt := 113) (by omega) (by decide) d_Mo_takeLines_106 rfl (fun c106 => ?_) (fun c106 => ?_)
            · refine ev_iconst (v := iZ 0) d_Mo_takeLines_113 rfl ?_
              refine ev_callV M_Mo_take (rm 0 0) _ (As := [.int (iZ 0)]) (c_Mo_take G h1 σ2 m (p) ((-1)) 0 hm f16 f17 (by omega) (by omega) (by decide)) d_Mo_takeLines_114 mk_Mo_take ml_Mo_117 mv_Mo_take hm rfl rfl rfl (Nat.le_of_ble_eq_true rfl) ⟨by decide, by decide⟩ ⟨by decide, by decide⟩ (fun r h25 hq => ?_)
              obtain ⟨rfl, ⟨σ26, gm, g16, g17, gs⟩, fmc⟩ := hq
              rw [show tkP p ((-1)) 0 = p from if_neg (by decide)] at g16
              rw [show tkF p ((-1)) 0 = (p : Int) from if_pos ⟨by decide, rfl⟩] at g17
              have hbu := (fmc _ (ninc (cne hbu hm (by simp)) nin0)).trans hbu
              have he3 := (fmc _ (ninc (cne he3 hm (by simp)) nin0)).trans he3
              have he4 := (fmc _ (ninc (cne he4 hm (by simp)) nin0)).trans he4
              have f0 := (gs 0 (by decide)).trans f0
              have f1 := (gs 1 (by decide)).trans f1
              have f18 := (gs 18 (by decide)).trans f18
              have f21 := (gs 21 (by decide)).trans f21
              have f22 := (gs 22 (by decide)).trans f22
              have f16 := g16
              have f17 := g17
              have hm := gm
              have fm := fm.call (by simp) fmc
              have fs := fs.call (by simp) gs
              refine ev_aload_n d_Mo_takeLines_117 rfl rfl ?_
              refine ev_getF d_Mo_takeLines_118 fl_Mo_107 hm (by decide) f17 ?_
              refine ez_if_ge (tgt := 136) (by omega) d_Mo_takeLines_121 rfl (fun c121 => ?_) (fun c121 => absurd c121 (by omega))
              refine ev_aload_n d_Mo_takeLines_136 rfl rfl ?_
              refine ev_getF d_Mo_takeLines_137 fl_Mo_107 hm (by decide) f17 ?_
              refine ez_if_ge (tgt := 148) (by omega) d_Mo_takeLines_140 rfl (fun c140 => ?_) (fun c140 => absurd c140 (by omega))
              refine ev_iconst (v := iZ 0) d_Mo_takeLines_148 rfl ?_
              refine ev_istore_n (L' := [(0, .ref m), (1, .int (iZ 0)), (2, .int (iZ 0)), (3, .int (iZ (lk F n p))), (4, .int (iZ (T.length : Int))), (5, .int (iZ 2))]) d_Mo_takeLines_149 rfl (by decide) rfl ?_
              refine ev_goto (tgt := 4) d_Mo_takeLines_150 rfl ?_
              refine ev_iload_n d_Mo_takeLines_4 rfl rfl ?_
              refine ez_if_ne (tgt := 153) (by decide) d_Mo_takeLines_5 rfl (fun c5 => absurd c5 (by omega)) (fun c5 => ?_)
              refine ev_aload_n d_Mo_takeLines_8 rfl rfl ?_
              refine ev_getF d_Mo_takeLines_9 fl_Mo_107 hm (by decide) f17 ?_
              refine ez_if_ge (tgt := 153) (by omega) d_Mo_takeLines_12 rfl (fun c12 => ?_) (fun c12 => absurd c12 (by omega))
              have e9 : tx0 F n (g + 1) p T br = (p, none) := by rw [tx0, if_neg (by omega), if_neg (by rintro ⟨_, w2⟩; rw [bt] at w2; simp at w2; omega)]
              rw [e9]
              exact ev_return d_Mo_takeLines_153 rfl (by decide) (by decide) (⟨rfl, ⟨σ26, hm, f16, f17, fs⟩, fun T' q => (by cases q), ⟨_, _, he3, he4⟩, fm⟩)
            · refine ev_iconst (v := iZ 1) d_Mo_takeLines_109 rfl ?_
              refine ev_goto (tgt := 114) d_Mo_takeLines_110 rfl ?_
              refine ev_callV M_Mo_take (rm 0 0) _ (As := [.int (iZ 1)]) (c_Mo_take G h1 σ2 m (p) ((-1)) 1 hm f16 f17 (by omega) (by omega) (by decide)) d_Mo_takeLines_114 mk_Mo_take ml_Mo_117 mv_Mo_take hm rfl rfl rfl (Nat.le_of_ble_eq_true rfl) ⟨by decide, by decide⟩ ⟨by decide, by decide⟩ (fun r h27 hq => ?_)
              obtain ⟨rfl, ⟨σ28, gm, g16, g17, gs⟩, fmc⟩ := hq
              rw [show tkP p ((-1)) 1 = p + 1 from if_pos ⟨by decide, by decide⟩] at g16
              rw [show tkF p ((-1)) 1 = (-1) from if_neg (by decide)] at g17
              have hbu := (fmc _ (ninc (cne hbu hm (by simp)) nin0)).trans hbu
              have he3 := (fmc _ (ninc (cne he3 hm (by simp)) nin0)).trans he3
              have he4 := (fmc _ (ninc (cne he4 hm (by simp)) nin0)).trans he4
              have f0 := (gs 0 (by decide)).trans f0
              have f1 := (gs 1 (by decide)).trans f1
              have f18 := (gs 18 (by decide)).trans f18
              have f21 := (gs 21 (by decide)).trans f21
              have f22 := (gs 22 (by decide)).trans f22
              have f16 := g16
              have f17 := g17
              have hm := gm
              have fm := fm.call (by simp) fmc
              have fs := fs.call (by simp) gs
              refine ev_aload_n d_Mo_takeLines_117 rfl rfl ?_
              refine ev_getF d_Mo_takeLines_118 fl_Mo_107 hm (by decide) f17 ?_
              refine ez_if_ge (tgt := 136) (by decide) d_Mo_takeLines_121 rfl (fun c121 => absurd c121 (by omega)) (fun c121 => ?_)
              refine ev_iload d_Mo_takeLines_124 rfl ?_
              refine ev_iconst (v := iZ 2) d_Mo_takeLines_126 rfl ?_
              refine ez_icmp_ne (tgt := 136) (by decide) (by decide) d_Mo_takeLines_127 rfl (fun c127 => absurd c127 (by omega)) (fun c127 => ?_)
              refine ev_aload_n d_Mo_takeLines_130 rfl rfl ?_
              refine ev_bipush (v := iZ 10) d_Mo_takeLines_131 rfl ?_
              refine ev_callV M_Mo_addByte (rm 0 0) _ (As := [.int (iZ 10)]) (c_Mo_addByte G h27 σ28 m e3 e4 c Z E (T) (10) hm f18 f21 f22 he3 he4 hc (by first | omega | (simp only [List.length_append, List.length_cons, List.length_nil] at *; omega))) d_Mo_takeLines_133 mk_Mo_addByte ml_Mo_147 mv_Mo_addByte hm rfl rfl rfl (Nat.le_of_ble_eq_true rfl) ⟨by decide, by decide⟩ ⟨by decide, by decide⟩ (fun r h29 hq => ?_)
              obtain ⟨rfl, ge3, ge4, fmc⟩ := hq
              have hm := (fmc _ (ninc (cne hm he3 (by simp)) (ninc (cne hm he4 (by simp)) nin0))).trans hm
              have hbu := (fmc _ (ninc (cne hbu he3 (by simp)) (ninc (cne hbu he4 (by simp)) nin0))).trans hbu
              have he3 := ge3
              have he4 := ge4
              have fm := fm.call (by simp) fmc
              refine ev_aload_n d_Mo_takeLines_136 rfl rfl ?_
              refine ev_getF d_Mo_takeLines_137 fl_Mo_107 hm (by decide) f17 ?_
              refine ez_if_ge (tgt := 148) (by decide) d_Mo_takeLines_140 rfl (fun c140 => absurd c140 (by omega)) (fun c140 => ?_)
              refine ev_aload_n d_Mo_takeLines_143 rfl rfl ?_
              refine ev_iload_n d_Mo_takeLines_144 rfl rfl ?_
              refine ev_callV M_Mo_addByte (rm 0 0) _ (As := [.int (iZ (lk F n p))]) (c_Mo_addByte G h29 σ28 m e3 e4 c Z E (T ++ [10]) (lk F n p) hm f18 f21 f22 he3 he4 hc (by first | omega | (simp only [List.length_append, List.length_cons, List.length_nil] at *; omega))) d_Mo_takeLines_145 mk_Mo_addByte ml_Mo_147 mv_Mo_addByte hm rfl rfl rfl (Nat.le_of_ble_eq_true rfl) ⟨by decide, by decide⟩ ⟨by decide, by decide⟩ (fun r h30 hq => ?_)
              obtain ⟨rfl, ge3, ge4, fmc⟩ := hq
              have hm := (fmc _ (ninc (cne hm he3 (by simp)) (ninc (cne hm he4 (by simp)) nin0))).trans hm
              have hbu := (fmc _ (ninc (cne hbu he3 (by simp)) (ninc (cne hbu he4 (by simp)) nin0))).trans hbu
              have he3 := ge3
              have he4 := ge4
              have fm := fm.call (by simp) fmc
              refine ev_iconst (v := iZ 0) d_Mo_takeLines_148 rfl ?_
              refine ev_istore_n (L' := [(0, .ref m), (1, .int (iZ 0)), (2, .int (iZ 0)), (3, .int (iZ (lk F n p))), (4, .int (iZ (T.length : Int))), (5, .int (iZ 2))]) d_Mo_takeLines_149 rfl (by decide) rfl ?_
              refine ev_goto (tgt := 4) d_Mo_takeLines_150 rfl ?_
              have lo : lok (lk F n p) T br := ⟨zt, by rw [bt]; simp; omega⟩
              have e9 : tx0 F n (g + 1) p T br = tx0 F n g (p + 1) (lad T br (lk F n p)) false := by rw [tx0, if_neg (by omega), if_pos lo]
              rw [e9]
              have el : lad T br (lk F n p) = T ++ [10] ++ [lk F n p] := by rw [bt]; simp [lad]
              rw [← el] at he3 he4
              refine ev_loc [(0, .ref m), (1, .int (iZ 0)), (2, .int (iZ 0))] (by simp) ?_
              have k9 := ih g (by omega) (p + 1) (lad T br (lk F n p)) false h30 σ28 (by omega) (by omega) (lok_l lo) (fun w => by cases w) hm f0 f1 f16 f17 f18 f21 f22 hbu he3 he4 fm fs
              rw [frZ_l] at k9
              exact k9
    · refine ev_iload_n d_Mo_takeLines_37 rfl rfl ?_
      refine ez_if_eq (tgt := 50) (by omega) d_Mo_takeLines_38 rfl (fun c38 => ?_) (fun c38 => ?_)
      · have z := frZ_0 c38
        refine ev_iconst (v := iZ 0) d_Mo_takeLines_50 rfl ?_
        refine ev_istore_n (L' := [(0, .ref m), (1, .int (iZ (frZ T br))), (2, .int (iZ 0)), (3, .int (iZ (lk F n p))), (4, .int (iZ (T.length : Int)))]) d_Mo_takeLines_51 rfl (by decide) rfl ?_
        refine ev_aload_n d_Mo_takeLines_52 rfl rfl ?_
        refine ev_iload_n d_Mo_takeLines_53 rfl rfl ?_
        refine ez_if_eq (tgt := 62) (by omega) d_Mo_takeLines_54 rfl (fun c54 => ?_) (fun c54 => absurd c54 (by omega))
        refine ev_iconst (v := iZ 1) d_Mo_takeLines_62 rfl ?_
        refine ev_goto (tgt := 67) d_Mo_takeLines_63 rfl ?_
        refine ev_callV M_Mo_take (rm 0 0) _ (As := [.int (iZ 1)]) (c_Mo_take G h1 σ2 m (p) ((-1)) 1 hm f16 f17 (by omega) (by omega) (by decide)) d_Mo_takeLines_67 mk_Mo_take ml_Mo_117 mv_Mo_take hm rfl rfl rfl (Nat.le_of_ble_eq_true rfl) ⟨by decide, by decide⟩ ⟨by decide, by decide⟩ (fun r h31 hq => ?_)
        obtain ⟨rfl, ⟨σ32, gm, g16, g17, gs⟩, fmc⟩ := hq
        rw [show tkP p ((-1)) 1 = p + 1 from if_pos ⟨by decide, by decide⟩] at g16
        rw [show tkF p ((-1)) 1 = (-1) from if_neg (by decide)] at g17
        have hbu := (fmc _ (ninc (cne hbu hm (by simp)) nin0)).trans hbu
        have he3 := (fmc _ (ninc (cne he3 hm (by simp)) nin0)).trans he3
        have he4 := (fmc _ (ninc (cne he4 hm (by simp)) nin0)).trans he4
        have f0 := (gs 0 (by decide)).trans f0
        have f1 := (gs 1 (by decide)).trans f1
        have f18 := (gs 18 (by decide)).trans f18
        have f21 := (gs 21 (by decide)).trans f21
        have f22 := (gs 22 (by decide)).trans f22
        have f16 := g16
        have f17 := g17
        have hm := gm
        have fm := fm.call (by simp) fmc
        have fs := fs.call (by simp) gs
        refine ev_iconst (v := iZ 1) d_Mo_takeLines_70 rfl ?_
        refine ev_istore_n (L' := [(0, .ref m), (1, .int (iZ 1)), (2, .int (iZ 0)), (3, .int (iZ (lk F n p))), (4, .int (iZ (T.length : Int)))]) d_Mo_takeLines_71 rfl (by decide) rfl ?_
        refine ev_goto (tgt := 150) d_Mo_takeLines_72 rfl ?_
        refine ev_goto (tgt := 4) d_Mo_takeLines_150 rfl ?_
        have e9 : tx0 F n (g + 1) p T br = tx0 F n g (p + 1) (T) true := by rw [tx0, if_pos (by omega), if_neg z.1, if_neg (by rw [z.2]; decide)]
        rw [e9]
        refine ev_loc [(0, .ref m), (1, .int (iZ 1)), (2, .int (iZ 0))] (by simp) ?_
        have k9 := ih g (by omega) (p + 1) (T) true h31 σ32 (by omega) (by omega) hT (fun _ => z.1) hm f0 f1 f16 f17 f18 f21 f22 hbu he3 he4 fm fs
        rw [frZ_t] at k9
        exact k9
      · have z := frZ_1 c38
        refine ev_iload d_Mo_takeLines_41 rfl ?_
        refine ez_if_le (tgt := 50) (by omega) d_Mo_takeLines_43 rfl (fun c43 => ?_) (fun c43 => ?_)
        · have bf : br = false := by cases br; rfl; exact absurd (by omega) (hbr rfl)
          refine ev_iconst (v := iZ 0) d_Mo_takeLines_50 rfl ?_
          refine ev_istore_n (L' := [(0, .ref m), (1, .int (iZ (frZ T br))), (2, .int (iZ 0)), (3, .int (iZ (lk F n p))), (4, .int (iZ (T.length : Int)))]) d_Mo_takeLines_51 rfl (by decide) rfl ?_
          refine ev_aload_n d_Mo_takeLines_52 rfl rfl ?_
          refine ev_iload_n d_Mo_takeLines_53 rfl rfl ?_
          refine ez_if_eq (tgt := 62) (by omega) d_Mo_takeLines_54 rfl (fun c54 => absurd c54 (by omega)) (fun c54 => ?_)
          refine ev_iload d_Mo_takeLines_57 rfl ?_
          refine ez_if_le (tgt := 66) (by omega) d_Mo_takeLines_59 rfl (fun c59 => ?_) (fun c59 => absurd c59 (by omega))
          refine ev_iconst (v := iZ 0) d_Mo_takeLines_66 rfl ?_
          refine ev_callV M_Mo_take (rm 0 0) _ (As := [.int (iZ 0)]) (c_Mo_take G h1 σ2 m (p) ((-1)) 0 hm f16 f17 (by omega) (by omega) (by decide)) d_Mo_takeLines_67 mk_Mo_take ml_Mo_117 mv_Mo_take hm rfl rfl rfl (Nat.le_of_ble_eq_true rfl) ⟨by decide, by decide⟩ ⟨by decide, by decide⟩ (fun r h33 hq => ?_)
          obtain ⟨rfl, ⟨σ34, gm, g16, g17, gs⟩, fmc⟩ := hq
          rw [show tkP p ((-1)) 0 = p from if_neg (by decide)] at g16
          rw [show tkF p ((-1)) 0 = (p : Int) from if_pos ⟨by decide, rfl⟩] at g17
          have hbu := (fmc _ (ninc (cne hbu hm (by simp)) nin0)).trans hbu
          have he3 := (fmc _ (ninc (cne he3 hm (by simp)) nin0)).trans he3
          have he4 := (fmc _ (ninc (cne he4 hm (by simp)) nin0)).trans he4
          have f0 := (gs 0 (by decide)).trans f0
          have f1 := (gs 1 (by decide)).trans f1
          have f18 := (gs 18 (by decide)).trans f18
          have f21 := (gs 21 (by decide)).trans f21
          have f22 := (gs 22 (by decide)).trans f22
          have f16 := g16
          have f17 := g17
          have hm := gm
          have fm := fm.call (by simp) fmc
          have fs := fs.call (by simp) gs
          refine ev_iconst (v := iZ 1) d_Mo_takeLines_70 rfl ?_
          refine ev_istore_n (L' := [(0, .ref m), (1, .int (iZ 1)), (2, .int (iZ 0)), (3, .int (iZ (lk F n p))), (4, .int (iZ (T.length : Int)))]) d_Mo_takeLines_71 rfl (by decide) rfl ?_
          refine ev_goto (tgt := 150) d_Mo_takeLines_72 rfl ?_
          refine ev_goto (tgt := 4) d_Mo_takeLines_150 rfl ?_
          refine ev_iload_n d_Mo_takeLines_4 rfl rfl ?_
          refine ez_if_ne (tgt := 153) (by decide) d_Mo_takeLines_5 rfl (fun c5 => absurd c5 (by omega)) (fun c5 => ?_)
          refine ev_aload_n d_Mo_takeLines_8 rfl rfl ?_
          refine ev_getF d_Mo_takeLines_9 fl_Mo_107 hm (by decide) f17 ?_
          refine ez_if_ge (tgt := 153) (by omega) d_Mo_takeLines_12 rfl (fun c12 => ?_) (fun c12 => absurd c12 (by omega))
          have e9 : tx0 F n (g + 1) p T br = (p, none) := by rw [tx0, if_pos (by omega), if_pos (by omega)]
          rw [e9]
          exact ev_return d_Mo_takeLines_153 rfl (by decide) (by decide) (⟨rfl, ⟨σ34, hm, f16, f17, fs⟩, fun T' q => (by cases q), ⟨_, _, he3, he4⟩, fm⟩)
        · have bt : br = true := by rcases z with z | z; omega; exact z
          refine ev_iconst (v := iZ 1) d_Mo_takeLines_46 rfl ?_
          refine ev_goto (tgt := 51) d_Mo_takeLines_47 rfl ?_
          refine ev_istore_n (L' := [(0, .ref m), (1, .int (iZ (frZ T br))), (2, .int (iZ 1)), (3, .int (iZ (lk F n p))), (4, .int (iZ (T.length : Int)))]) d_Mo_takeLines_51 rfl (by decide) rfl ?_
          refine ev_aload_n d_Mo_takeLines_52 rfl rfl ?_
          refine ev_iload_n d_Mo_takeLines_53 rfl rfl ?_
          refine ez_if_eq (tgt := 62) (by omega) d_Mo_takeLines_54 rfl (fun c54 => absurd c54 (by omega)) (fun c54 => ?_)
          refine ev_iload d_Mo_takeLines_57 rfl ?_
          refine ez_if_le (tgt := 66) (by omega) d_Mo_takeLines_59 rfl (fun c59 => absurd c59 (by omega)) (fun c59 => ?_)
          refine ev_iconst (v := iZ 1) d_Mo_takeLines_62 rfl ?_
          refine ev_goto (tgt := 67) d_Mo_takeLines_63 rfl ?_
          refine ev_callV M_Mo_take (rm 0 0) _ (As := [.int (iZ 1)]) (c_Mo_take G h1 σ2 m (p) ((-1)) 1 hm f16 f17 (by omega) (by omega) (by decide)) d_Mo_takeLines_67 mk_Mo_take ml_Mo_117 mv_Mo_take hm rfl rfl rfl (Nat.le_of_ble_eq_true rfl) ⟨by decide, by decide⟩ ⟨by decide, by decide⟩ (fun r h35 hq => ?_)
          obtain ⟨rfl, ⟨σ36, gm, g16, g17, gs⟩, fmc⟩ := hq
          rw [show tkP p ((-1)) 1 = p + 1 from if_pos ⟨by decide, by decide⟩] at g16
          rw [show tkF p ((-1)) 1 = (-1) from if_neg (by decide)] at g17
          have hbu := (fmc _ (ninc (cne hbu hm (by simp)) nin0)).trans hbu
          have he3 := (fmc _ (ninc (cne he3 hm (by simp)) nin0)).trans he3
          have he4 := (fmc _ (ninc (cne he4 hm (by simp)) nin0)).trans he4
          have f0 := (gs 0 (by decide)).trans f0
          have f1 := (gs 1 (by decide)).trans f1
          have f18 := (gs 18 (by decide)).trans f18
          have f21 := (gs 21 (by decide)).trans f21
          have f22 := (gs 22 (by decide)).trans f22
          have f16 := g16
          have f17 := g17
          have hm := gm
          have fm := fm.call (by simp) fmc
          have fs := fs.call (by simp) gs
          refine ev_iconst (v := iZ 1) d_Mo_takeLines_70 rfl ?_
          refine ev_istore_n (L' := [(0, .ref m), (1, .int (iZ 1)), (2, .int (iZ 1)), (3, .int (iZ (lk F n p))), (4, .int (iZ (T.length : Int)))]) d_Mo_takeLines_71 rfl (by decide) rfl ?_
          refine ev_goto (tgt := 150) d_Mo_takeLines_72 rfl ?_
          refine ev_goto (tgt := 4) d_Mo_takeLines_150 rfl ?_
          refine ev_iload_n d_Mo_takeLines_4 rfl rfl ?_
          refine ez_if_ne (tgt := 153) (by decide) d_Mo_takeLines_5 rfl (fun c5 => ?_) (fun c5 => absurd c5 (by omega))
          have e9 : tx0 F n (g + 1) p T br = (p + 1, some T) := by rw [tx0, if_pos (by omega), if_neg (by omega), if_pos bt]
          rw [e9]
          exact ev_return d_Mo_takeLines_153 rfl (by decide) (by decide) (⟨rfl, ⟨σ36, hm, f16, f17, fs⟩, fun T' q => (by cases q; exact ⟨he3, he4⟩), ⟨_, _, he3, he4⟩, fm⟩)
set_option maxHeartbeats 4000000 in
set_option maxRecDepth 100000 in
theorem c_Mo_takeLines (G : GT) (h : HM) (σ : Nat → Value) (m bu e3 e4 n p c : Nat) (F Z E : Nat → Int) (hm : h m = some (.inr (11, fsN 34 σ))) (f0 : σ 0 = .int (iZ (n : Int))) (f1 : σ 1 = .ref bu) (f16 : σ 16 = .int (iZ (p : Int))) (f17 : σ 17 = .int (iZ (-1))) (f18 : σ 18 = .int (iZ (c : Int))) (f21 : σ 21 = .ref e3) (f22 : σ 22 = .ref e4) (hbu : h bu = some (.inl (G_i G, 1000, .inl (iA F)))) (he3 : h e3 = some (.inl (G_i G, 16, .inl (iA (zup Z c 0))))) (he4 : h e4 = some (.inl (G_i G, 1024, .inl (iA E)))) (hn : n ≤ 1000) (hp : p ≤ n) (hF : ∀ k, 0 ≤ F k ∧ F k ≤ 255) (hc : c < 16) : Rn G M_Mo_takeLines (rm 1 40) [.ref m] h (fun r h' => r = none ∧ (∃ σ', h' m = some (.inr (11, fsN 34 σ')) ∧ σ' 16 = .int (iZ (((tx0 F n (n + 1 - p) p [] false).1 : Nat) : Int)) ∧ σ' 17 = .int (iZ (ftO (tx0 F n (n + 1 - p) p [] false))) ∧ Fs [16, 17] σ σ') ∧ (∀ T', (tx0 F n (n + 1 - p) p [] false).2 = some T' → h' e3 = some (.inl (G_i G, 16, .inl (iA (zup Z c (T'.length : Int))))) ∧ h' e4 = some (.inl (G_i G, 1024, .inl (iA (tW E (64 * c) T'))))) ∧ (∃ Z' E' : Nat → Int, h' e3 = some (.inl (G_i G, 16, .inl (iA Z'))) ∧ h' e4 = some (.inl (G_i G, 1024, .inl (iA E')))) ∧ Fm [m, e3, e4] h h') := by
  refine rn_of (by decide) (Nat.le_of_ble_eq_true rfl) ?_
  show Ev G M_Mo_takeLines _ _ 0 [(0, .ref m)] [] _ 0 0
  refine ev_iconst (v := iZ 1) d_Mo_takeLines_0 rfl ?_
  refine ev_istore_n (L' := [(0, .ref m), (1, .int (iZ 1))]) d_Mo_takeLines_1 rfl (by decide) rfl ?_
  refine ev_iconst (v := iZ 0) d_Mo_takeLines_2 rfl ?_
  refine ev_istore_n (L' := [(0, .ref m), (1, .int (iZ 1)), (2, .int (iZ 0))]) d_Mo_takeLines_3 rfl (by decide) rfl ?_
  have k9 := lp_Mo_lines G h σ m bu e3 e4 n c F Z E hn hF hc (n + 1 - p) p [] false h σ (by omega) hp (by decide) (fun w => by cases w) hm f0 f1 f16 f17 f18 f21 f22 hbu he3 (by rw [tW_nil]; exact he4) Fm.rf Fs.rf
  rw [show frZ [] false = 1 from rfl] at k9
  exact k9
set_option maxHeartbeats 4000000 in
set_option maxRecDepth 100000 in
theorem c_Mo_takeLinesB (G : GT) (h : HM) (σ : Nat → Value) (m : Nat) (ft : Int) (hm : h m = some (.inr (11, fsN 34 σ))) (f17 : σ 17 = .int (iZ ft)) (hft : 0 ≤ ft ∧ ft ≤ 1000) : Rn G M_Mo_takeLines (rm 1 40) [.ref m] h (fun r h' => r = none ∧ (∃ σ', h' m = some (.inr (11, fsN 34 σ')) ∧ Fs [] σ σ') ∧ Fm [m] h h') := by
  refine rn_of (by decide) (Nat.le_of_ble_eq_true rfl) ?_
  show Ev G M_Mo_takeLines _ _ 0 [(0, .ref m)] [] _ 0 0
  refine ev_iconst (v := iZ 1) d_Mo_takeLines_0 rfl ?_
  refine ev_istore_n (L' := [(0, .ref m), (1, .int (iZ 1))]) d_Mo_takeLines_1 rfl (by decide) rfl ?_
  refine ev_iconst (v := iZ 0) d_Mo_takeLines_2 rfl ?_
  refine ev_istore_n (L' := [(0, .ref m), (1, .int (iZ 1)), (2, .int (iZ 0))]) d_Mo_takeLines_3 rfl (by decide) rfl ?_
  refine ev_iload_n d_Mo_takeLines_4 rfl rfl ?_
  refine ez_if_ne (tgt := 153) (by decide) d_Mo_takeLines_5 rfl (fun c5 => absurd c5 (by omega)) (fun c5 => ?_)
  refine ev_aload_n d_Mo_takeLines_8 rfl rfl ?_
  refine ev_getF d_Mo_takeLines_9 fl_Mo_107 hm (by decide) f17 ?_
  refine ez_if_ge (tgt := 153) (by omega) d_Mo_takeLines_12 rfl (fun c12 => ?_) (fun c12 => absurd c12 (by omega))
  exact ev_return d_Mo_takeLines_153 rfl (by decide) (by decide) (⟨rfl, ⟨σ, hm, Fs.rf⟩, Fm.rf⟩)
set_option maxHeartbeats 4000000 in
set_option maxRecDepth 100000 in
theorem c_Mo_takeBarsB (G : GT) (h : HM) (σ : Nat → Value) (m : Nat) (ft : Int) (hm : h m = some (.inr (11, fsN 34 σ))) (f17 : σ 17 = .int (iZ ft)) (hft : 0 ≤ ft ∧ ft ≤ 1000) : Rn G M_Mo_takeBars (rm 1 40) [.ref m] h (fun r h' => r = none ∧ (∃ σ', h' m = some (.inr (11, fsN 34 σ')) ∧ Fs [] σ σ') ∧ Fm [m] h h') := by
  refine rn_of (by decide) (Nat.le_of_ble_eq_true rfl) ?_
  show Ev G M_Mo_takeBars _ _ 0 [(0, .ref m)] [] _ 0 0
  refine ev_iconst (v := iZ 0) d_Mo_takeBars_0 rfl ?_
  refine ev_istore_n (L' := [(0, .ref m), (1, .int (iZ 0))]) d_Mo_takeBars_1 rfl (by decide) rfl ?_
  refine ev_iload_n d_Mo_takeBars_2 rfl rfl ?_
  refine ez_if_ne (tgt := 144) (by decide) d_Mo_takeBars_3 rfl (fun c3 => absurd c3 (by omega)) (fun c3 => ?_)
  refine ev_aload_n d_Mo_takeBars_6 rfl rfl ?_
  refine ev_getF d_Mo_takeBars_7 fl_Mo_107 hm (by decide) f17 ?_
  refine ez_if_ge (tgt := 144) (by omega) d_Mo_takeBars_10 rfl (fun c10 => ?_) (fun c10 => absurd c10 (by omega))
  exact ev_return d_Mo_takeBars_144 rfl (by decide) (by decide) (⟨rfl, ⟨σ, hm, Fs.rf⟩, Fm.rf⟩)
theorem lastZ_r {T : List Int} (h : ∀ x ∈ T, 0 ≤ x ∧ x ≤ 255) : -1 ≤ lastZ T ∧ lastZ T ≤ 255 := by
  unfold lastZ
  cases q : T.getLast? with
  | none => show (-1 : Int) ≤ -1 ∧ (-1 : Int) ≤ 255; omega
  | some x =>
    have := h x (List.mem_of_getLast? q)
    show -1 ≤ x ∧ x ≤ 255
    omega
set_option maxHeartbeats 4000000 in
set_option maxRecDepth 100000 in
theorem lp_Mo_bars (G : GT) (h0 : HM) (σ0 : Nat → Value) (m bu e3 e4 n c : Nat) (F Z E : Nat → Int) (hn : n ≤ 1000) (hF : ∀ k, 0 ≤ F k ∧ F k ≤ 255) (hc : c < 16) : ∀ (d : Nat) (p : Nat) (T : List Int) (br : Bool) (h : HM) (σ : Nat → Value), n < d + p → p ≤ n → (tR T br).length ≤ 64 → (T.length ≠ 0 → lastZ T ≠ 10) → (∀ x ∈ tR T br, 0 ≤ x ∧ x ≤ 255) → h m = some (.inr (11, fsN 34 σ)) → σ 0 = .int (iZ (n : Int)) → σ 1 = .ref bu → σ 16 = .int (iZ (p : Int)) → σ 17 = .int (iZ (-1)) → σ 18 = .int (iZ (c : Int)) → σ 21 = .ref e3 → σ 22 = .ref e4 → h bu = some (.inl (G_i G, 1000, .inl (iA F))) → h e3 = some (.inl (G_i G, 16, .inl (iA (zup Z c ((tR T br).length : Int))))) → h e4 = some (.inl (G_i G, 1024, .inl (iA (tW E (64 * c) (tR T br))))) → Fm [m, e3, e4] h0 h → Fs [16, 17] σ0 σ → Ev G M_Mo_takeBars (rm 1 40) (fun r h' => r = none ∧ (∃ σ', h' m = some (.inr (11, fsN 34 σ')) ∧ σ' 16 = .int (iZ (((tx1 F n d p T br).1 : Nat) : Int)) ∧ σ' 17 = .int (iZ (ftO (tx1 F n d p T br))) ∧ Fs [16, 17] σ0 σ') ∧ (∀ T', (tx1 F n d p T br).2 = some T' → h' e3 = some (.inl (G_i G, 16, .inl (iA (zup Z c (T'.length : Int))))) ∧ h' e4 = some (.inl (G_i G, 1024, .inl (iA (tW E (64 * c) T'))))) ∧ (∃ Z' E' : Nat → Int, h' e3 = some (.inl (G_i G, 16, .inl (iA Z'))) ∧ h' e4 = some (.inl (G_i G, 1024, .inl (iA E')))) ∧ Fm [m, e3, e4] h0 h') 2 [(0, .ref m), (1, .int (iZ 0))] [] h 0 0 := by
  intro d
  induction d using Nat.strongRecOn with
  | ind d ih =>
  intro p T br h σ hd hp hT hlast hby hm f0 f1 f16 f17 f18 f21 f22 hbu he3 he4 fm fs
  obtain ⟨g, rfl⟩ : ∃ g, d = g + 1 := ⟨d - 1, by omega⟩
  have tl_ := tR_l (T := T) (br := br)
  have hbz := bz_r br
  refine ev_iload_n d_Mo_takeBars_2 rfl rfl ?_
  refine ez_if_ne (tgt := 144) (by decide) d_Mo_takeBars_3 rfl (fun c3 => absurd c3 (by omega)) (fun c3 => ?_)
  refine ev_aload_n d_Mo_takeBars_6 rfl rfl ?_
  refine ev_getF d_Mo_takeBars_7 fl_Mo_107 hm (by decide) f17 ?_
  refine ez_if_ge (tgt := 144) (by decide) d_Mo_takeBars_10 rfl (fun c10 => absurd c10 (by omega)) (fun c10 => ?_)
  refine ev_aload_n d_Mo_takeBars_13 rfl rfl ?_
  refine ev_callV M_Mo_here (rm 0 0) _ (As := []) (c_Mo_here G h σ m bu n p F (-1) hm f0 f1 f16 f17 hbu hn hp hF (by omega)) d_Mo_takeBars_14 mk_Mo_here ml_Mo_113 mv_Mo_here hm rfl rfl rfl (Nat.le_of_ble_eq_true rfl) ⟨by decide, by decide⟩ ⟨by decide, by decide⟩ (fun r h1 hq => ?_)
  obtain ⟨rfl, ⟨σ2, gm, g17, gs⟩, fmc⟩ := hq
  have hbu := (fmc _ (ninc (cne hbu hm (by simp)) nin0)).trans hbu
  have he3 := (fmc _ (ninc (cne he3 hm (by simp)) nin0)).trans he3
  have he4 := (fmc _ (ninc (cne he4 hm (by simp)) nin0)).trans he4
  have f0 := (gs 0 (by decide)).trans f0
  have f1 := (gs 1 (by decide)).trans f1
  have f16 := (gs 16 (by decide)).trans f16
  have f18 := (gs 18 (by decide)).trans f18
  have f21 := (gs 21 (by decide)).trans f21
  have f22 := (gs 22 (by decide)).trans f22
  have f17 := g17
  have hm := gm
  have fm := fm.call (by simp) fmc
  have fs := fs.call (by simp) gs
  by_cases hpn : p = n
  ·
    have hlk : lk F n p = -1 := lk_out (by omega)
    rw [show hf n p (-1) = (p : Int) from (if_pos ⟨by decide, hpn⟩).trans (by rw [hpn])] at f17
    refine ev_top ((-1)) ((if_pos (by decide)).trans hlk) ?_
    refine ev_istore_n (L' := [(0, .ref m), (1, .int (iZ 0)), (2, .int (iZ (-1)))]) d_Mo_takeBars_17 rfl (by decide) rfl ?_
    refine ev_aload_n d_Mo_takeBars_18 rfl rfl ?_
    refine ev_getF d_Mo_takeBars_19 fl_Mo_54 hm (by decide) f21 ?_
    refine ev_aload_n d_Mo_takeBars_22 rfl rfl ?_
    refine ev_getF d_Mo_takeBars_23 fl_Mo_140 hm (by decide) f18 ?_
    refine ez_iaload c d_Mo_takeBars_26 he3 (by omega) (by omega) (by decide) ?_
    refine ev_top (((tR T br).length : Int)) (zup_s) ?_
    skip
    refine ev_istore_n (L' := [(0, .ref m), (1, .int (iZ 0)), (2, .int (iZ (-1))), (3, .int (iZ ((tR T br).length : Int)))]) d_Mo_takeBars_27 rfl (by decide) rfl ?_
    refine ev_iload_n d_Mo_takeBars_28 rfl rfl ?_
    refine ez_if_le (tgt := 45) (by omega) d_Mo_takeBars_29 rfl (fun c29 => ?_) (fun c29 => ?_)
    · have t0 : T.length = 0 := by omega
      refine ev_iconst (v := iZ 0) d_Mo_takeBars_45 rfl ?_
      refine ev_istore (L' := [(0, .ref m), (1, .int (iZ 0)), (2, .int (iZ (-1))), (3, .int (iZ ((tR T br).length : Int))), (4, .int (iZ 0))]) d_Mo_takeBars_46 (by decide) rfl ?_
      refine ev_iload_n d_Mo_takeBars_48 rfl rfl ?_
      refine ev_bipush (v := iZ 10) d_Mo_takeBars_49 rfl ?_
      refine ez_icmp_ne (tgt := 65) (by decide) (by decide) d_Mo_takeBars_51 rfl (fun c51 => ?_) (fun c51 => absurd c51 (by omega))
      refine ev_iload_n d_Mo_takeBars_65 rfl rfl ?_
      refine ev_bipush (v := iZ 124) d_Mo_takeBars_66 rfl ?_
      refine ez_icmp_ne (tgt := 107) (by decide) (by decide) d_Mo_takeBars_68 rfl (fun c68 => ?_) (fun c68 => absurd c68 (by omega))
      refine ev_aload_n d_Mo_takeBars_107 rfl rfl ?_
      refine ev_iload_n d_Mo_takeBars_108 rfl rfl ?_
      have it := isT_r (-1)
      refine ev_pS M_Mo_isText 0 0 (As := [.int (iZ (-1))]) (c_Mo_isText G h1 (-1) (by omega)) d_Mo_takeBars_109 mk_Mo_isText ml_Mo_143 ms_Mo_isText rfl rfl (Nat.le_of_ble_eq_true rfl) ⟨by decide, by decide⟩ ⟨by decide, by decide⟩ ?_
      refine ev_top (0) (by decide) ?_
      refine ez_if_eq (tgt := 125) (by decide) d_Mo_takeBars_112 rfl (fun c112 => ?_) (fun c112 => absurd c112 (by omega))
      refine ev_iconst (v := iZ 0) d_Mo_takeBars_125 rfl ?_
      refine ev_callV M_Mo_take (rm 0 0) _ (As := [.int (iZ 0)]) (c_Mo_take G h1 σ2 m (p) ((p : Int)) 0 hm f16 f17 (by omega) (by omega) (by decide)) d_Mo_takeBars_126 mk_Mo_take ml_Mo_117 mv_Mo_take hm rfl rfl rfl (Nat.le_of_ble_eq_true rfl) ⟨by decide, by decide⟩ ⟨by decide, by decide⟩ (fun r h3 hq => ?_)
      obtain ⟨rfl, ⟨σ4, gm, g16, g17, gs⟩, fmc⟩ := hq
      rw [show tkP p ((p : Int)) 0 = p from if_neg (by omega)] at g16
      rw [show tkF p ((p : Int)) 0 = (p : Int) from if_neg (by omega)] at g17
      have hbu := (fmc _ (ninc (cne hbu hm (by simp)) nin0)).trans hbu
      have he3 := (fmc _ (ninc (cne he3 hm (by simp)) nin0)).trans he3
      have he4 := (fmc _ (ninc (cne he4 hm (by simp)) nin0)).trans he4
      have f0 := (gs 0 (by decide)).trans f0
      have f1 := (gs 1 (by decide)).trans f1
      have f18 := (gs 18 (by decide)).trans f18
      have f21 := (gs 21 (by decide)).trans f21
      have f22 := (gs 22 (by decide)).trans f22
      have f16 := g16
      have f17 := g17
      have hm := gm
      have fm := fm.call (by simp) fmc
      have fs := fs.call (by simp) gs
      refine ev_aload_n d_Mo_takeBars_129 rfl rfl ?_
      refine ev_getF d_Mo_takeBars_130 fl_Mo_107 hm (by decide) f17 ?_
      refine ez_if_ge (tgt := 141) (by omega) d_Mo_takeBars_133 rfl (fun c133 => ?_) (fun c133 => absurd c133 (by omega))
      refine ev_goto (tgt := 2) d_Mo_takeBars_141 rfl ?_
      refine ev_iload_n d_Mo_takeBars_2 rfl rfl ?_
      refine ez_if_ne (tgt := 144) (by decide) d_Mo_takeBars_3 rfl (fun c3 => absurd c3 (by omega)) (fun c3 => ?_)
      refine ev_aload_n d_Mo_takeBars_6 rfl rfl ?_
      refine ev_getF d_Mo_takeBars_7 fl_Mo_107 hm (by decide) f17 ?_
      refine ez_if_ge (tgt := 144) (by omega) d_Mo_takeBars_10 rfl (fun c10 => ?_) (fun c10 => absurd c10 (by omega))
      have e9 : tx1 F n (g + 1) p T br = (p, none) := by rw [tx1, if_neg (by omega), if_neg (by omega), if_neg (by rintro ⟨⟨w, _, _⟩, _⟩; omega)]
      rw [e9]
      exact ev_return d_Mo_takeBars_144 rfl (by decide) (by decide) (⟨rfl, ⟨σ4, hm, f16, f17, fs⟩, fun T' q => (by cases q), ⟨_, _, he3, he4⟩, fm⟩)
    · refine ev_aload_n d_Mo_takeBars_32 rfl rfl ?_
      refine ev_pV M_Mo_latest 0 0 (As := []) (c_Mo_latest G h1 σ2 m e3 e4 c Z E (tR T br) hm f18 f21 f22 he3 he4 hc (by omega)) d_Mo_takeBars_33 mk_Mo_latest ml_Mo_150 mv_Mo_latest hm rfl rfl rfl (Nat.le_of_ble_eq_true rfl) ⟨by decide, by decide⟩ ⟨by decide, by decide⟩ ?_
      have hla := lastZ_r (T := tR T br) hby
      refine ev_bipush (v := iZ 10) d_Mo_takeBars_36 rfl ?_
      refine ez_icmp_eq (tgt := 45) (by omega) (by decide) d_Mo_takeBars_38 rfl (fun c38 => ?_) (fun c38 => ?_)
      · have bt := tR_t hlast (by omega) c38
        refine ev_iconst (v := iZ 0) d_Mo_takeBars_45 rfl ?_
        refine ev_istore (L' := [(0, .ref m), (1, .int (iZ 0)), (2, .int (iZ (-1))), (3, .int (iZ ((tR T br).length : Int))), (4, .int (iZ 0))]) d_Mo_takeBars_46 (by decide) rfl ?_
        refine ev_iload_n d_Mo_takeBars_48 rfl rfl ?_
        refine ev_bipush (v := iZ 10) d_Mo_takeBars_49 rfl ?_
        refine ez_icmp_ne (tgt := 65) (by decide) (by decide) d_Mo_takeBars_51 rfl (fun c51 => ?_) (fun c51 => absurd c51 (by omega))
        refine ev_iload_n d_Mo_takeBars_65 rfl rfl ?_
        refine ev_bipush (v := iZ 124) d_Mo_takeBars_66 rfl ?_
        refine ez_icmp_ne (tgt := 107) (by decide) (by decide) d_Mo_takeBars_68 rfl (fun c68 => ?_) (fun c68 => absurd c68 (by omega))
        refine ev_aload_n d_Mo_takeBars_107 rfl rfl ?_
        refine ev_iload_n d_Mo_takeBars_108 rfl rfl ?_
        have it := isT_r (-1)
        refine ev_pS M_Mo_isText 0 0 (As := [.int (iZ (-1))]) (c_Mo_isText G h1 (-1) (by omega)) d_Mo_takeBars_109 mk_Mo_isText ml_Mo_143 ms_Mo_isText rfl rfl (Nat.le_of_ble_eq_true rfl) ⟨by decide, by decide⟩ ⟨by decide, by decide⟩ ?_
        refine ev_top (0) (by decide) ?_
        refine ez_if_eq (tgt := 125) (by decide) d_Mo_takeBars_112 rfl (fun c112 => ?_) (fun c112 => absurd c112 (by omega))
        refine ev_iconst (v := iZ 0) d_Mo_takeBars_125 rfl ?_
        refine ev_callV M_Mo_take (rm 0 0) _ (As := [.int (iZ 0)]) (c_Mo_take G h1 σ2 m (p) ((p : Int)) 0 hm f16 f17 (by omega) (by omega) (by decide)) d_Mo_takeBars_126 mk_Mo_take ml_Mo_117 mv_Mo_take hm rfl rfl rfl (Nat.le_of_ble_eq_true rfl) ⟨by decide, by decide⟩ ⟨by decide, by decide⟩ (fun r h5 hq => ?_)
        obtain ⟨rfl, ⟨σ6, gm, g16, g17, gs⟩, fmc⟩ := hq
        rw [show tkP p ((p : Int)) 0 = p from if_neg (by omega)] at g16
        rw [show tkF p ((p : Int)) 0 = (p : Int) from if_neg (by omega)] at g17
        have hbu := (fmc _ (ninc (cne hbu hm (by simp)) nin0)).trans hbu
        have he3 := (fmc _ (ninc (cne he3 hm (by simp)) nin0)).trans he3
        have he4 := (fmc _ (ninc (cne he4 hm (by simp)) nin0)).trans he4
        have f0 := (gs 0 (by decide)).trans f0
        have f1 := (gs 1 (by decide)).trans f1
        have f18 := (gs 18 (by decide)).trans f18
        have f21 := (gs 21 (by decide)).trans f21
        have f22 := (gs 22 (by decide)).trans f22
        have f16 := g16
        have f17 := g17
        have hm := gm
        have fm := fm.call (by simp) fmc
        have fs := fs.call (by simp) gs
        refine ev_aload_n d_Mo_takeBars_129 rfl rfl ?_
        refine ev_getF d_Mo_takeBars_130 fl_Mo_107 hm (by decide) f17 ?_
        refine ez_if_ge (tgt := 141) (by omega) d_Mo_takeBars_133 rfl (fun c133 => ?_) (fun c133 => absurd c133 (by omega))
        refine ev_goto (tgt := 2) d_Mo_takeBars_141 rfl ?_
        refine ev_iload_n d_Mo_takeBars_2 rfl rfl ?_
        refine ez_if_ne (tgt := 144) (by decide) d_Mo_takeBars_3 rfl (fun c3 => absurd c3 (by omega)) (fun c3 => ?_)
        refine ev_aload_n d_Mo_takeBars_6 rfl rfl ?_
        refine ev_getF d_Mo_takeBars_7 fl_Mo_107 hm (by decide) f17 ?_
        refine ez_if_ge (tgt := 144) (by omega) d_Mo_takeBars_10 rfl (fun c10 => ?_) (fun c10 => absurd c10 (by omega))
        have e9 : tx1 F n (g + 1) p T br = (p, none) := by rw [tx1, if_neg (by omega), if_neg (by omega), if_neg (by rintro ⟨⟨w, _, _⟩, _⟩; omega)]
        rw [e9]
        exact ev_return d_Mo_takeBars_144 rfl (by decide) (by decide) (⟨rfl, ⟨σ6, hm, f16, f17, fs⟩, fun T' q => (by cases q), ⟨_, _, he3, he4⟩, fm⟩)
      · have bf := tR_n c38
        have tr0 : (tR T br).length = T.length := by rw [bf, tR_f]
        refine ev_iconst (v := iZ 1) d_Mo_takeBars_41 rfl ?_
        refine ev_goto (tgt := 46) d_Mo_takeBars_42 rfl ?_
        refine ev_istore (L' := [(0, .ref m), (1, .int (iZ 0)), (2, .int (iZ (-1))), (3, .int (iZ ((tR T br).length : Int))), (4, .int (iZ 1))]) d_Mo_takeBars_46 (by decide) rfl ?_
        refine ev_iload_n d_Mo_takeBars_48 rfl rfl ?_
        refine ev_bipush (v := iZ 10) d_Mo_takeBars_49 rfl ?_
        refine ez_icmp_ne (tgt := 65) (by decide) (by decide) d_Mo_takeBars_51 rfl (fun c51 => ?_) (fun c51 => absurd c51 (by omega))
        refine ev_iload_n d_Mo_takeBars_65 rfl rfl ?_
        refine ev_bipush (v := iZ 124) d_Mo_takeBars_66 rfl ?_
        refine ez_icmp_ne (tgt := 107) (by decide) (by decide) d_Mo_takeBars_68 rfl (fun c68 => ?_) (fun c68 => absurd c68 (by omega))
        refine ev_aload_n d_Mo_takeBars_107 rfl rfl ?_
        refine ev_iload_n d_Mo_takeBars_108 rfl rfl ?_
        have it := isT_r (-1)
        refine ev_pS M_Mo_isText 0 0 (As := [.int (iZ (-1))]) (c_Mo_isText G h1 (-1) (by omega)) d_Mo_takeBars_109 mk_Mo_isText ml_Mo_143 ms_Mo_isText rfl rfl (Nat.le_of_ble_eq_true rfl) ⟨by decide, by decide⟩ ⟨by decide, by decide⟩ ?_
        refine ev_top (0) (by decide) ?_
        refine ez_if_eq (tgt := 125) (by decide) d_Mo_takeBars_112 rfl (fun c112 => ?_) (fun c112 => absurd c112 (by omega))
        refine ev_iconst (v := iZ 0) d_Mo_takeBars_125 rfl ?_
        refine ev_callV M_Mo_take (rm 0 0) _ (As := [.int (iZ 0)]) (c_Mo_take G h1 σ2 m (p) ((p : Int)) 0 hm f16 f17 (by omega) (by omega) (by decide)) d_Mo_takeBars_126 mk_Mo_take ml_Mo_117 mv_Mo_take hm rfl rfl rfl (Nat.le_of_ble_eq_true rfl) ⟨by decide, by decide⟩ ⟨by decide, by decide⟩ (fun r h7 hq => ?_)
        obtain ⟨rfl, ⟨σ8, gm, g16, g17, gs⟩, fmc⟩ := hq
        rw [show tkP p ((p : Int)) 0 = p from if_neg (by omega)] at g16
        rw [show tkF p ((p : Int)) 0 = (p : Int) from if_neg (by omega)] at g17
        have hbu := (fmc _ (ninc (cne hbu hm (by simp)) nin0)).trans hbu
        have he3 := (fmc _ (ninc (cne he3 hm (by simp)) nin0)).trans he3
        have he4 := (fmc _ (ninc (cne he4 hm (by simp)) nin0)).trans he4
        have f0 := (gs 0 (by decide)).trans f0
        have f1 := (gs 1 (by decide)).trans f1
        have f18 := (gs 18 (by decide)).trans f18
        have f21 := (gs 21 (by decide)).trans f21
        have f22 := (gs 22 (by decide)).trans f22
        have f16 := g16
        have f17 := g17
        have hm := gm
        have fm := fm.call (by simp) fmc
        have fs := fs.call (by simp) gs
        refine ev_aload_n d_Mo_takeBars_129 rfl rfl ?_
        refine ev_getF d_Mo_takeBars_130 fl_Mo_107 hm (by decide) f17 ?_
        refine ez_if_ge (tgt := 141) (by omega) d_Mo_takeBars_133 rfl (fun c133 => ?_) (fun c133 => absurd c133 (by omega))
        refine ev_goto (tgt := 2) d_Mo_takeBars_141 rfl ?_
        refine ev_iload_n d_Mo_takeBars_2 rfl rfl ?_
        refine ez_if_ne (tgt := 144) (by decide) d_Mo_takeBars_3 rfl (fun c3 => absurd c3 (by omega)) (fun c3 => ?_)
        refine ev_aload_n d_Mo_takeBars_6 rfl rfl ?_
        refine ev_getF d_Mo_takeBars_7 fl_Mo_107 hm (by decide) f17 ?_
        refine ez_if_ge (tgt := 144) (by omega) d_Mo_takeBars_10 rfl (fun c10 => ?_) (fun c10 => absurd c10 (by omega))
        have e9 : tx1 F n (g + 1) p T br = (p, none) := by rw [tx1, if_neg (by omega), if_neg (by omega), if_neg (by rintro ⟨⟨w, _, _⟩, _⟩; omega)]
        rw [e9]
        exact ev_return d_Mo_takeBars_144 rfl (by decide) (by decide) (⟨rfl, ⟨σ8, hm, f16, f17, fs⟩, fun T' q => (by cases q), ⟨_, _, he3, he4⟩, fm⟩)
  ·
    rw [hf_p (show p < n by omega)] at f17
    have rl := lk_r (n := n) hF p
    have rl0 : 0 ≤ lk F n p := by rw [lk_in (by omega)]; exact (hF p).1
    refine ev_top (lk F n p) (if_pos (by decide)) ?_
    refine ev_istore_n (L' := [(0, .ref m), (1, .int (iZ 0)), (2, .int (iZ (lk F n p)))]) d_Mo_takeBars_17 rfl (by decide) rfl ?_
    refine ev_aload_n d_Mo_takeBars_18 rfl rfl ?_
    refine ev_getF d_Mo_takeBars_19 fl_Mo_54 hm (by decide) f21 ?_
    refine ev_aload_n d_Mo_takeBars_22 rfl rfl ?_
    refine ev_getF d_Mo_takeBars_23 fl_Mo_140 hm (by decide) f18 ?_
    refine ez_iaload c d_Mo_takeBars_26 he3 (by omega) (by omega) (by decide) ?_
    refine ev_top (((tR T br).length : Int)) (zup_s) ?_
    skip
    refine ev_istore_n (L' := [(0, .ref m), (1, .int (iZ 0)), (2, .int (iZ (lk F n p))), (3, .int (iZ ((tR T br).length : Int)))]) d_Mo_takeBars_27 rfl (by decide) rfl ?_
    refine ev_iload_n d_Mo_takeBars_28 rfl rfl ?_
    refine ez_if_le (tgt := 45) (by omega) d_Mo_takeBars_29 rfl (fun c29 => ?_) (fun c29 => ?_)
    · have t0 : T.length = 0 := by omega
      refine ev_iconst (v := iZ 0) d_Mo_takeBars_45 rfl ?_
      refine ev_istore (L' := [(0, .ref m), (1, .int (iZ 0)), (2, .int (iZ (lk F n p))), (3, .int (iZ ((tR T br).length : Int))), (4, .int (iZ 0))]) d_Mo_takeBars_46 (by decide) rfl ?_
      refine ev_iload_n d_Mo_takeBars_48 rfl rfl ?_
      refine ev_bipush (v := iZ 10) d_Mo_takeBars_49 rfl ?_
      refine ez_icmp_ne (tgt := 65) (by omega) (by decide) d_Mo_takeBars_51 rfl (fun c51 => ?_) (fun c51 => ?_)
      · refine ev_iload_n d_Mo_takeBars_65 rfl rfl ?_
        refine ev_bipush (v := iZ 124) d_Mo_takeBars_66 rfl ?_
        refine ez_icmp_ne (tgt := 107) (by omega) (by decide) d_Mo_takeBars_68 rfl (fun c68 => ?_) (fun c68 => ?_)
        · refine ev_aload_n d_Mo_takeBars_107 rfl rfl ?_
          refine ev_iload_n d_Mo_takeBars_108 rfl rfl ?_
          have it := isT_r (lk F n p)
          refine ev_pS M_Mo_isText 0 0 (As := [.int (iZ (lk F n p))]) (c_Mo_isText G h1 (lk F n p) (by omega)) d_Mo_takeBars_109 mk_Mo_isText ml_Mo_143 ms_Mo_isText rfl rfl (Nat.le_of_ble_eq_true rfl) ⟨by decide, by decide⟩ ⟨by decide, by decide⟩ ?_
          refine ez_if_eq (tgt := 125) (by omega) d_Mo_takeBars_112 rfl (fun c112 => ?_) (fun c112 => ?_)
          · have zt := isT_0 c112 (by omega)
            refine ev_iconst (v := iZ 0) d_Mo_takeBars_125 rfl ?_
            refine ev_callV M_Mo_take (rm 0 0) _ (As := [.int (iZ 0)]) (c_Mo_take G h1 σ2 m (p) ((-1)) 0 hm f16 f17 (by omega) (by omega) (by decide)) d_Mo_takeBars_126 mk_Mo_take ml_Mo_117 mv_Mo_take hm rfl rfl rfl (Nat.le_of_ble_eq_true rfl) ⟨by decide, by decide⟩ ⟨by decide, by decide⟩ (fun r h9 hq => ?_)
            obtain ⟨rfl, ⟨σ10, gm, g16, g17, gs⟩, fmc⟩ := hq
            rw [show tkP p ((-1)) 0 = p from if_neg (by decide)] at g16
            rw [show tkF p ((-1)) 0 = (p : Int) from if_pos ⟨by decide, rfl⟩] at g17
            have hbu := (fmc _ (ninc (cne hbu hm (by simp)) nin0)).trans hbu
            have he3 := (fmc _ (ninc (cne he3 hm (by simp)) nin0)).trans he3
            have he4 := (fmc _ (ninc (cne he4 hm (by simp)) nin0)).trans he4
            have f0 := (gs 0 (by decide)).trans f0
            have f1 := (gs 1 (by decide)).trans f1
            have f18 := (gs 18 (by decide)).trans f18
            have f21 := (gs 21 (by decide)).trans f21
            have f22 := (gs 22 (by decide)).trans f22
            have f16 := g16
            have f17 := g17
            have hm := gm
            have fm := fm.call (by simp) fmc
            have fs := fs.call (by simp) gs
            refine ev_aload_n d_Mo_takeBars_129 rfl rfl ?_
            refine ev_getF d_Mo_takeBars_130 fl_Mo_107 hm (by decide) f17 ?_
            refine ez_if_ge (tgt := 141) (by omega) d_Mo_takeBars_133 rfl (fun c133 => ?_) (fun c133 => absurd c133 (by omega))
            refine ev_goto (tgt := 2) d_Mo_takeBars_141 rfl ?_
            refine ev_iload_n d_Mo_takeBars_2 rfl rfl ?_
            refine ez_if_ne (tgt := 144) (by decide) d_Mo_takeBars_3 rfl (fun c3 => absurd c3 (by omega)) (fun c3 => ?_)
            refine ev_aload_n d_Mo_takeBars_6 rfl rfl ?_
            refine ev_getF d_Mo_takeBars_7 fl_Mo_107 hm (by decide) f17 ?_
            refine ez_if_ge (tgt := 144) (by omega) d_Mo_takeBars_10 rfl (fun c10 => ?_) (fun c10 => absurd c10 (by omega))
            have e9 : tx1 F n (g + 1) p T br = (p, none) := by rw [tx1, if_neg (by omega), if_neg (by omega), if_neg (fun w => zt w.1)]
            rw [e9]
            exact ev_return d_Mo_takeBars_144 rfl (by decide) (by decide) (⟨rfl, ⟨σ10, hm, f16, f17, fs⟩, fun T' q => (by cases q), ⟨_, _, he3, he4⟩, fm⟩)
          · have zt := isT_1 c112
            refine ev_iload_n d_Mo_takeBars_115 rfl rfl ?_
            refine ev_bipush (v := iZ 64) d_Mo_takeBars_116 rfl ?_
            refine ez_icmp_ge (tgt := 125) (by omega) (by decide) d_Mo_takeBars_118 rfl (fun c118 => ?_) (fun c118 => ?_)
            · refine ev_iconst (v := iZ 0) d_Mo_takeBars_125 rfl ?_
              refine ev_callV M_Mo_take (rm 0 0) _ (As := [.int (iZ 0)]) (c_Mo_take G h1 σ2 m (p) ((-1)) 0 hm f16 f17 (by omega) (by omega) (by decide)) d_Mo_takeBars_126 mk_Mo_take ml_Mo_117 mv_Mo_take hm rfl rfl rfl (Nat.le_of_ble_eq_true rfl) ⟨by decide, by decide⟩ ⟨by decide, by decide⟩ (fun r h11 hq => ?_)
              obtain ⟨rfl, ⟨σ12, gm, g16, g17, gs⟩, fmc⟩ := hq
              rw [show tkP p ((-1)) 0 = p from if_neg (by decide)] at g16
              rw [show tkF p ((-1)) 0 = (p : Int) from if_pos ⟨by decide, rfl⟩] at g17
              have hbu := (fmc _ (ninc (cne hbu hm (by simp)) nin0)).trans hbu
              have he3 := (fmc _ (ninc (cne he3 hm (by simp)) nin0)).trans he3
              have he4 := (fmc _ (ninc (cne he4 hm (by simp)) nin0)).trans he4
              have f0 := (gs 0 (by decide)).trans f0
              have f1 := (gs 1 (by decide)).trans f1
              have f18 := (gs 18 (by decide)).trans f18
              have f21 := (gs 21 (by decide)).trans f21
              have f22 := (gs 22 (by decide)).trans f22
              have f16 := g16
              have f17 := g17
              have hm := gm
              have fm := fm.call (by simp) fmc
              have fs := fs.call (by simp) gs
              refine ev_aload_n d_Mo_takeBars_129 rfl rfl ?_
              refine ev_getF d_Mo_takeBars_130 fl_Mo_107 hm (by decide) f17 ?_
              refine ez_if_ge (tgt := 141) (by omega) d_Mo_takeBars_133 rfl (fun c133 => ?_) (fun c133 => absurd c133 (by omega))
              refine ev_goto (tgt := 2) d_Mo_takeBars_141 rfl ?_
              refine ev_iload_n d_Mo_takeBars_2 rfl rfl ?_
              refine ez_if_ne (tgt := 144) (by decide) d_Mo_takeBars_3 rfl (fun c3 => absurd c3 (by omega)) (fun c3 => ?_)
              refine ev_aload_n d_Mo_takeBars_6 rfl rfl ?_
              refine ev_getF d_Mo_takeBars_7 fl_Mo_107 hm (by decide) f17 ?_
              refine ez_if_ge (tgt := 144) (by omega) d_Mo_takeBars_10 rfl (fun c10 => ?_) (fun c10 => absurd c10 (by omega))
              have e9 : tx1 F n (g + 1) p T br = (p, none) := by rw [tx1, if_neg (by omega), if_neg (by omega), if_neg (by rintro ⟨_, w2⟩; have := tR_l (T := T) (br := br); rcases br with _ | _ <;> simp [bz] at this w2 <;> omega)]
              rw [e9]
              exact ev_return d_Mo_takeBars_144 rfl (by decide) (by decide) (⟨rfl, ⟨σ12, hm, f16, f17, fs⟩, fun T' q => (by cases q), ⟨_, _, he3, he4⟩, fm⟩)
            · refine ev_iconst (v := iZ 1) d_Mo_takeBars_121 rfl ?_
              refine ev_goto (tgt := 126) d_Mo_takeBars_122 rfl ?_
              refine ev_callV M_Mo_take (rm 0 0) _ (As := [.int (iZ 1)]) (c_Mo_take G h1 σ2 m (p) ((-1)) 1 hm f16 f17 (by omega) (by omega) (by decide)) d_Mo_takeBars_126 mk_Mo_take ml_Mo_117 mv_Mo_take hm rfl rfl rfl (Nat.le_of_ble_eq_true rfl) ⟨by decide, by decide⟩ ⟨by decide, by decide⟩ (fun r h13 hq => ?_)
              obtain ⟨rfl, ⟨σ14, gm, g16, g17, gs⟩, fmc⟩ := hq
              rw [show tkP p ((-1)) 1 = p + 1 from if_pos ⟨by decide, by decide⟩] at g16
              rw [show tkF p ((-1)) 1 = (-1) from if_neg (by decide)] at g17
              have hbu := (fmc _ (ninc (cne hbu hm (by simp)) nin0)).trans hbu
              have he3 := (fmc _ (ninc (cne he3 hm (by simp)) nin0)).trans he3
              have he4 := (fmc _ (ninc (cne he4 hm (by simp)) nin0)).trans he4
              have f0 := (gs 0 (by decide)).trans f0
              have f1 := (gs 1 (by decide)).trans f1
              have f18 := (gs 18 (by decide)).trans f18
              have f21 := (gs 21 (by decide)).trans f21
              have f22 := (gs 22 (by decide)).trans f22
              have f16 := g16
              have f17 := g17
              have hm := gm
              have fm := fm.call (by simp) fmc
              have fs := fs.call (by simp) gs
              refine ev_aload_n d_Mo_takeBars_129 rfl rfl ?_
              refine ev_getF d_Mo_takeBars_130 fl_Mo_107 hm (by decide) f17 ?_
              refine ez_if_ge (tgt := 141) (by decide) d_Mo_takeBars_133 rfl (fun c133 => absurd c133 (by omega)) (fun c133 => ?_)
              refine ev_aload_n d_Mo_takeBars_136 rfl rfl ?_
              refine ev_iload_n d_Mo_takeBars_137 rfl rfl ?_
              refine ev_callV M_Mo_addByte (rm 0 0) _ (As := [.int (iZ (lk F n p))]) (c_Mo_addByte G h13 σ14 m e3 e4 c Z E (tR T br) (lk F n p) hm f18 f21 f22 he3 he4 hc (by first | omega | (simp only [List.length_append, List.length_cons, List.length_nil] at *; omega))) d_Mo_takeBars_138 mk_Mo_addByte ml_Mo_147 mv_Mo_addByte hm rfl rfl rfl (Nat.le_of_ble_eq_true rfl) ⟨by decide, by decide⟩ ⟨by decide, by decide⟩ (fun r h15 hq => ?_)
              obtain ⟨rfl, ge3, ge4, fmc⟩ := hq
              have hm := (fmc _ (ninc (cne hm he3 (by simp)) (ninc (cne hm he4 (by simp)) nin0))).trans hm
              have hbu := (fmc _ (ninc (cne hbu he3 (by simp)) (ninc (cne hbu he4 (by simp)) nin0))).trans hbu
              have he3 := ge3
              have he4 := ge4
              have fm := fm.call (by simp) fmc
              refine ev_goto (tgt := 2) d_Mo_takeBars_141 rfl ?_
              have lo : lok (lk F n p) T br := ⟨zt, by have := tR_l (T := T) (br := br); rcases br with _ | _ <;> simp [bz] at this ⊢ <;> omega⟩
              have e9 : tx1 F n (g + 1) p T br = tx1 F n g (p + 1) (lad T br (lk F n p)) false := by rw [tx1, if_neg (by omega), if_neg (by omega), if_pos lo]
              rw [e9]
              have el : tR (lad T br (lk F n p)) false = tR T br ++ [lk F n p] := by rw [tR_f, ← tR_s]
              rw [← el] at he3 he4
              refine ev_loc [(0, .ref m), (1, .int (iZ 0))] (by simp) ?_
              exact ih g (by omega) (p + 1) (lad T br (lk F n p)) false h15 σ14 (by omega) (by omega) (by rw [tR_f]; exact lok_l lo) (fun _ => by rw [lad_last]; omega) (by rw [tR_f]; exact (tok_lad lo rl.2 ⟨by omega, fun x hx => hby x (List.mem_append_left _ hx)⟩).1.2) hm f0 f1 f16 f17 f18 f21 f22 hbu he3 he4 fm fs
        · refine ev_aload_n d_Mo_takeBars_71 rfl rfl ?_
          refine ev_iload d_Mo_takeBars_72 rfl ?_
          refine ez_if_eq (tgt := 87) (by decide) d_Mo_takeBars_74 rfl (fun c74 => ?_) (fun c74 => absurd c74 (by omega))
          refine ev_iconst (v := iZ 0) d_Mo_takeBars_87 rfl ?_
          refine ev_callV M_Mo_take (rm 0 0) _ (As := [.int (iZ 0)]) (c_Mo_take G h1 σ2 m (p) ((-1)) 0 hm f16 f17 (by omega) (by omega) (by decide)) d_Mo_takeBars_88 mk_Mo_take ml_Mo_117 mv_Mo_take hm rfl rfl rfl (Nat.le_of_ble_eq_true rfl) ⟨by decide, by decide⟩ ⟨by decide, by decide⟩ (fun r h16 hq => ?_)
          obtain ⟨rfl, ⟨σ17, gm, g16, g17, gs⟩, fmc⟩ := hq
          rw [show tkP p ((-1)) 0 = p from if_neg (by decide)] at g16
          rw [show tkF p ((-1)) 0 = (p : Int) from if_pos ⟨by decide, rfl⟩] at g17
          have hbu := (fmc _ (ninc (cne hbu hm (by simp)) nin0)).trans hbu
          have he3 := (fmc _ (ninc (cne he3 hm (by simp)) nin0)).trans he3
          have he4 := (fmc _ (ninc (cne he4 hm (by simp)) nin0)).trans he4
          have f0 := (gs 0 (by decide)).trans f0
          have f1 := (gs 1 (by decide)).trans f1
          have f18 := (gs 18 (by decide)).trans f18
          have f21 := (gs 21 (by decide)).trans f21
          have f22 := (gs 22 (by decide)).trans f22
          have f16 := g16
          have f17 := g17
          have hm := gm
          have fm := fm.call (by simp) fmc
          have fs := fs.call (by simp) gs
          refine ev_aload_n d_Mo_takeBars_91 rfl rfl ?_
          refine ev_getF d_Mo_takeBars_92 fl_Mo_107 hm (by decide) f17 ?_
          refine ez_if_ge (tgt := 141) (by omega) d_Mo_takeBars_95 rfl (fun c95 => ?_) (fun c95 => absurd c95 (by omega))
          refine ev_goto (tgt := 2) d_Mo_takeBars_141 rfl ?_
          refine ev_iload_n d_Mo_takeBars_2 rfl rfl ?_
          refine ez_if_ne (tgt := 144) (by decide) d_Mo_takeBars_3 rfl (fun c3 => absurd c3 (by omega)) (fun c3 => ?_)
          refine ev_aload_n d_Mo_takeBars_6 rfl rfl ?_
          refine ev_getF d_Mo_takeBars_7 fl_Mo_107 hm (by decide) f17 ?_
          refine ez_if_ge (tgt := 144) (by omega) d_Mo_takeBars_10 rfl (fun c10 => ?_) (fun c10 => absurd c10 (by omega))
          have e9 : tx1 F n (g + 1) p T br = (p, none) := by rw [tx1, if_neg (by omega), if_pos (by omega), if_neg (by rintro ⟨w1, w2, w3⟩; omega)]
          rw [e9]
          exact ev_return d_Mo_takeBars_144 rfl (by decide) (by decide) (⟨rfl, ⟨σ17, hm, f16, f17, fs⟩, fun T' q => (by cases q), ⟨_, _, he3, he4⟩, fm⟩)
      · refine ev_aload_n d_Mo_takeBars_54 rfl rfl ?_
        refine ev_iload d_Mo_takeBars_55 rfl ?_
        refine ev_callV M_Mo_take (rm 0 0) _ (As := [.int (iZ 0)]) (c_Mo_take G h1 σ2 m (p) ((-1)) 0 hm f16 f17 (by omega) (by omega) (by decide)) d_Mo_takeBars_57 mk_Mo_take ml_Mo_117 mv_Mo_take hm rfl rfl rfl (Nat.le_of_ble_eq_true rfl) ⟨by decide, by decide⟩ ⟨by decide, by decide⟩ (fun r h18 hq => ?_)
        obtain ⟨rfl, ⟨σ19, gm, g16, g17, gs⟩, fmc⟩ := hq
        rw [show tkP p ((-1)) 0 = p from if_neg (by decide)] at g16
        rw [show tkF p ((-1)) 0 = (p : Int) from if_pos ⟨by decide, rfl⟩] at g17
        have hbu := (fmc _ (ninc (cne hbu hm (by simp)) nin0)).trans hbu
        have he3 := (fmc _ (ninc (cne he3 hm (by simp)) nin0)).trans he3
        have he4 := (fmc _ (ninc (cne he4 hm (by simp)) nin0)).trans he4
        have f0 := (gs 0 (by decide)).trans f0
        have f1 := (gs 1 (by decide)).trans f1
        have f18 := (gs 18 (by decide)).trans f18
        have f21 := (gs 21 (by decide)).trans f21
        have f22 := (gs 22 (by decide)).trans f22
        have f16 := g16
        have f17 := g17
        have hm := gm
        have fm := fm.call (by simp) fmc
        have fs := fs.call (by simp) gs
        refine ev_iconst (v := iZ 1) d_Mo_takeBars_60 rfl ?_
        refine ev_istore_n (L' := [(0, .ref m), (1, .int (iZ 1)), (2, .int (iZ (lk F n p))), (3, .int (iZ ((tR T br).length : Int))), (4, .int (iZ 0))]) d_Mo_takeBars_61 rfl (by decide) rfl ?_
        refine ev_goto (tgt := 141) d_Mo_takeBars_62 rfl ?_
        refine ev_goto (tgt := 2) d_Mo_takeBars_141 rfl ?_
        refine ev_iload_n d_Mo_takeBars_2 rfl rfl ?_
        refine ez_if_ne (tgt := 144) (by decide) d_Mo_takeBars_3 rfl (fun c3 => ?_) (fun c3 => absurd c3 (by omega))
        have e9 : tx1 F n (g + 1) p T br = (p, none) := by rw [tx1, if_pos (by omega), if_pos (Or.inl t0)]
        rw [e9]
        exact ev_return d_Mo_takeBars_144 rfl (by decide) (by decide) (⟨rfl, ⟨σ19, hm, f16, f17, fs⟩, fun T' q => (by cases q), ⟨_, _, he3, he4⟩, fm⟩)
    · refine ev_aload_n d_Mo_takeBars_32 rfl rfl ?_
      refine ev_pV M_Mo_latest 0 0 (As := []) (c_Mo_latest G h1 σ2 m e3 e4 c Z E (tR T br) hm f18 f21 f22 he3 he4 hc (by omega)) d_Mo_takeBars_33 mk_Mo_latest ml_Mo_150 mv_Mo_latest hm rfl rfl rfl (Nat.le_of_ble_eq_true rfl) ⟨by decide, by decide⟩ ⟨by decide, by decide⟩ ?_
      have hla := lastZ_r (T := tR T br) hby
      refine ev_bipush (v := iZ 10) d_Mo_takeBars_36 rfl ?_
      refine ez_icmp_eq (tgt := 45) (by omega) (by decide) d_Mo_takeBars_38 rfl (fun c38 => ?_) (fun c38 => ?_)
      · have bt := tR_t hlast (by omega) c38
        refine ev_iconst (v := iZ 0) d_Mo_takeBars_45 rfl ?_
        refine ev_istore (L' := [(0, .ref m), (1, .int (iZ 0)), (2, .int (iZ (lk F n p))), (3, .int (iZ ((tR T br).length : Int))), (4, .int (iZ 0))]) d_Mo_takeBars_46 (by decide) rfl ?_
        refine ev_iload_n d_Mo_takeBars_48 rfl rfl ?_
        refine ev_bipush (v := iZ 10) d_Mo_takeBars_49 rfl ?_
        refine ez_icmp_ne (tgt := 65) (by omega) (by decide) d_Mo_takeBars_51 rfl (fun c51 => ?_) (fun c51 => ?_)
        · refine ev_iload_n d_Mo_takeBars_65 rfl rfl ?_
          refine ev_bipush (v := iZ 124) d_Mo_takeBars_66 rfl ?_
          refine ez_icmp_ne (tgt := 107) (by omega) (by decide) d_Mo_takeBars_68 rfl (fun c68 => ?_) (fun c68 => ?_)
          · refine ev_aload_n d_Mo_takeBars_107 rfl rfl ?_
            refine ev_iload_n d_Mo_takeBars_108 rfl rfl ?_
            have it := isT_r (lk F n p)
            refine ev_pS M_Mo_isText 0 0 (As := [.int (iZ (lk F n p))]) (c_Mo_isText G h1 (lk F n p) (by omega)) d_Mo_takeBars_109 mk_Mo_isText ml_Mo_143 ms_Mo_isText rfl rfl (Nat.le_of_ble_eq_true rfl) ⟨by decide, by decide⟩ ⟨by decide, by decide⟩ ?_
            refine ez_if_eq (tgt := 125) (by omega) d_Mo_takeBars_112 rfl (fun c112 => ?_) (fun c112 => ?_)
            · have zt := isT_0 c112 (by omega)
              refine ev_iconst (v := iZ 0) d_Mo_takeBars_125 rfl ?_
              refine ev_callV M_Mo_take (rm 0 0) _ (As := [.int (iZ 0)]) (c_Mo_take G h1 σ2 m (p) ((-1)) 0 hm f16 f17 (by omega) (by omega) (by decide)) d_Mo_takeBars_126 mk_Mo_take ml_Mo_117 mv_Mo_take hm rfl rfl rfl (Nat.le_of_ble_eq_true rfl) ⟨by decide, by decide⟩ ⟨by decide, by decide⟩ (fun r h20 hq => ?_)
              obtain ⟨rfl, ⟨σ21, gm, g16, g17, gs⟩, fmc⟩ := hq
              rw [show tkP p ((-1)) 0 = p from if_neg (by decide)] at g16
              rw [show tkF p ((-1)) 0 = (p : Int) from if_pos ⟨by decide, rfl⟩] at g17
              have hbu := (fmc _ (ninc (cne hbu hm (by simp)) nin0)).trans hbu
              have he3 := (fmc _ (ninc (cne he3 hm (by simp)) nin0)).trans he3
              have he4 := (fmc _ (ninc (cne he4 hm (by simp)) nin0)).trans he4
              have f0 := (gs 0 (by decide)).trans f0
              have f1 := (gs 1 (by decide)).trans f1
              have f18 := (gs 18 (by decide)).trans f18
              have f21 := (gs 21 (by decide)).trans f21
              have f22 := (gs 22 (by decide)).trans f22
              have f16 := g16
              have f17 := g17
              have hm := gm
              have fm := fm.call (by simp) fmc
              have fs := fs.call (by simp) gs
              refine ev_aload_n d_Mo_takeBars_129 rfl rfl ?_
              refine ev_getF d_Mo_takeBars_130 fl_Mo_107 hm (by decide) f17 ?_
              refine ez_if_ge (tgt := 141) (by omega) d_Mo_takeBars_133 rfl (fun c133 => ?_) (fun c133 => absurd c133 (by omega))
              refine ev_goto (tgt := 2) d_Mo_takeBars_141 rfl ?_
              refine ev_iload_n d_Mo_takeBars_2 rfl rfl ?_
              refine ez_if_ne (tgt := 144) (by decide) d_Mo_takeBars_3 rfl (fun c3 => absurd c3 (by omega)) (fun c3 => ?_)
              refine ev_aload_n d_Mo_takeBars_6 rfl rfl ?_
              refine ev_getF d_Mo_takeBars_7 fl_Mo_107 hm (by decide) f17 ?_
              refine ez_if_ge (tgt := 144) (by omega) d_Mo_takeBars_10 rfl (fun c10 => ?_) (fun c10 => absurd c10 (by omega))
              have e9 : tx1 F n (g + 1) p T br = (p, none) := by rw [tx1, if_neg (by omega), if_neg (by omega), if_neg (fun w => zt w.1)]
              rw [e9]
              exact ev_return d_Mo_takeBars_144 rfl (by decide) (by decide) (⟨rfl, ⟨σ21, hm, f16, f17, fs⟩, fun T' q => (by cases q), ⟨_, _, he3, he4⟩, fm⟩)
            · have zt := isT_1 c112
              refine ev_iload_n d_Mo_takeBars_115 rfl rfl ?_
              refine ev_bipush (v := iZ 64) d_Mo_takeBars_116 rfl ?_
              refine ez_icmp_ge (tgt := 125) (by omega) (by decide) d_Mo_takeBars_118 rfl (fun c118 => ?_) (fun c118 => ?_)
              · refine ev_iconst (v := iZ 0) d_Mo_takeBars_125 rfl ?_
                refine ev_callV M_Mo_take (rm 0 0) _ (As := [.int (iZ 0)]) (c_Mo_take G h1 σ2 m (p) ((-1)) 0 hm f16 f17 (by omega) (by omega) (by decide)) d_Mo_takeBars_126 mk_Mo_take ml_Mo_117 mv_Mo_take hm rfl rfl rfl (Nat.le_of_ble_eq_true rfl) ⟨by decide, by decide⟩ ⟨by decide, by decide⟩ (fun r h22 hq => ?_)
                obtain ⟨rfl, ⟨σ23, gm, g16, g17, gs⟩, fmc⟩ := hq
                rw [show tkP p ((-1)) 0 = p from if_neg (by decide)] at g16
                rw [show tkF p ((-1)) 0 = (p : Int) from if_pos ⟨by decide, rfl⟩] at g17
                have hbu := (fmc _ (ninc (cne hbu hm (by simp)) nin0)).trans hbu
                have he3 := (fmc _ (ninc (cne he3 hm (by simp)) nin0)).trans he3
                have he4 := (fmc _ (ninc (cne he4 hm (by simp)) nin0)).trans he4
                have f0 := (gs 0 (by decide)).trans f0
                have f1 := (gs 1 (by decide)).trans f1
                have f18 := (gs 18 (by decide)).trans f18
                have f21 := (gs 21 (by decide)).trans f21
                have f22 := (gs 22 (by decide)).trans f22
                have f16 := g16
                have f17 := g17
                have hm := gm
                have fm := fm.call (by simp) fmc
                have fs := fs.call (by simp) gs
                refine ev_aload_n d_Mo_takeBars_129 rfl rfl ?_
                refine ev_getF d_Mo_takeBars_130 fl_Mo_107 hm (by decide) f17 ?_
                refine ez_if_ge (tgt := 141) (by omega) d_Mo_takeBars_133 rfl (fun c133 => ?_) (fun c133 => absurd c133 (by omega))
                refine ev_goto (tgt := 2) d_Mo_takeBars_141 rfl ?_
                refine ev_iload_n d_Mo_takeBars_2 rfl rfl ?_
                refine ez_if_ne (tgt := 144) (by decide) d_Mo_takeBars_3 rfl (fun c3 => absurd c3 (by omega)) (fun c3 => ?_)
                refine ev_aload_n d_Mo_takeBars_6 rfl rfl ?_
                refine ev_getF d_Mo_takeBars_7 fl_Mo_107 hm (by decide) f17 ?_
                refine ez_if_ge (tgt := 144) (by omega) d_Mo_takeBars_10 rfl (fun c10 => ?_) (fun c10 => absurd c10 (by omega))
                have e9 : tx1 F n (g + 1) p T br = (p, none) := by rw [tx1, if_neg (by omega), if_neg (by omega), if_neg (by rintro ⟨_, w2⟩; have := tR_l (T := T) (br := br); rcases br with _ | _ <;> simp [bz] at this w2 <;> omega)]
                rw [e9]
                exact ev_return d_Mo_takeBars_144 rfl (by decide) (by decide) (⟨rfl, ⟨σ23, hm, f16, f17, fs⟩, fun T' q => (by cases q), ⟨_, _, he3, he4⟩, fm⟩)
              · refine ev_iconst (v := iZ 1) d_Mo_takeBars_121 rfl ?_
                refine ev_goto (tgt := 126) d_Mo_takeBars_122 rfl ?_
                refine ev_callV M_Mo_take (rm 0 0) _ (As := [.int (iZ 1)]) (c_Mo_take G h1 σ2 m (p) ((-1)) 1 hm f16 f17 (by omega) (by omega) (by decide)) d_Mo_takeBars_126 mk_Mo_take ml_Mo_117 mv_Mo_take hm rfl rfl rfl (Nat.le_of_ble_eq_true rfl) ⟨by decide, by decide⟩ ⟨by decide, by decide⟩ (fun r h24 hq => ?_)
                obtain ⟨rfl, ⟨σ25, gm, g16, g17, gs⟩, fmc⟩ := hq
                rw [show tkP p ((-1)) 1 = p + 1 from if_pos ⟨by decide, by decide⟩] at g16
                rw [show tkF p ((-1)) 1 = (-1) from if_neg (by decide)] at g17
                have hbu := (fmc _ (ninc (cne hbu hm (by simp)) nin0)).trans hbu
                have he3 := (fmc _ (ninc (cne he3 hm (by simp)) nin0)).trans he3
                have he4 := (fmc _ (ninc (cne he4 hm (by simp)) nin0)).trans he4
                have f0 := (gs 0 (by decide)).trans f0
                have f1 := (gs 1 (by decide)).trans f1
                have f18 := (gs 18 (by decide)).trans f18
                have f21 := (gs 21 (by decide)).trans f21
                have f22 := (gs 22 (by decide)).trans f22
                have f16 := g16
                have f17 := g17
                have hm := gm
                have fm := fm.call (by simp) fmc
                have fs := fs.call (by simp) gs
                refine ev_aload_n d_Mo_takeBars_129 rfl rfl ?_
                refine ev_getF d_Mo_takeBars_130 fl_Mo_107 hm (by decide) f17 ?_
                refine ez_if_ge (tgt := 141) (by decide) d_Mo_takeBars_133 rfl (fun c133 => absurd c133 (by omega)) (fun c133 => ?_)
                refine ev_aload_n d_Mo_takeBars_136 rfl rfl ?_
                refine ev_iload_n d_Mo_takeBars_137 rfl rfl ?_
                refine ev_callV M_Mo_addByte (rm 0 0) _ (As := [.int (iZ (lk F n p))]) (c_Mo_addByte G h24 σ25 m e3 e4 c Z E (tR T br) (lk F n p) hm f18 f21 f22 he3 he4 hc (by first | omega | (simp only [List.length_append, List.length_cons, List.length_nil] at *; omega))) d_Mo_takeBars_138 mk_Mo_addByte ml_Mo_147 mv_Mo_addByte hm rfl rfl rfl (Nat.le_of_ble_eq_true rfl) ⟨by decide, by decide⟩ ⟨by decide, by decide⟩ (fun r h26 hq => ?_)
                obtain ⟨rfl, ge3, ge4, fmc⟩ := hq
                have hm := (fmc _ (ninc (cne hm he3 (by simp)) (ninc (cne hm he4 (by simp)) nin0))).trans hm
                have hbu := (fmc _ (ninc (cne hbu he3 (by simp)) (ninc (cne hbu he4 (by simp)) nin0))).trans hbu
                have he3 := ge3
                have he4 := ge4
                have fm := fm.call (by simp) fmc
                refine ev_goto (tgt := 2) d_Mo_takeBars_141 rfl ?_
                have lo : lok (lk F n p) T br := ⟨zt, by have := tR_l (T := T) (br := br); rcases br with _ | _ <;> simp [bz] at this ⊢ <;> omega⟩
                have e9 : tx1 F n (g + 1) p T br = tx1 F n g (p + 1) (lad T br (lk F n p)) false := by rw [tx1, if_neg (by omega), if_neg (by omega), if_pos lo]
                rw [e9]
                have el : tR (lad T br (lk F n p)) false = tR T br ++ [lk F n p] := by rw [tR_f, ← tR_s]
                rw [← el] at he3 he4
                refine ev_loc [(0, .ref m), (1, .int (iZ 0))] (by simp) ?_
                exact ih g (by omega) (p + 1) (lad T br (lk F n p)) false h26 σ25 (by omega) (by omega) (by rw [tR_f]; exact lok_l lo) (fun _ => by rw [lad_last]; omega) (by rw [tR_f]; exact (tok_lad lo rl.2 ⟨by omega, fun x hx => hby x (List.mem_append_left _ hx)⟩).1.2) hm f0 f1 f16 f17 f18 f21 f22 hbu he3 he4 fm fs
          · refine ev_aload_n d_Mo_takeBars_71 rfl rfl ?_
            refine ev_iload d_Mo_takeBars_72 rfl ?_
            refine ez_if_eq (tgt := 87) (by decide) d_Mo_takeBars_74 rfl (fun c74 => ?_) (fun c74 => absurd c74 (by omega))
            refine ev_iconst (v := iZ 0) d_Mo_takeBars_87 rfl ?_
            refine ev_callV M_Mo_take (rm 0 0) _ (As := [.int (iZ 0)]) (c_Mo_take G h1 σ2 m (p) ((-1)) 0 hm f16 f17 (by omega) (by omega) (by decide)) d_Mo_takeBars_88 mk_Mo_take ml_Mo_117 mv_Mo_take hm rfl rfl rfl (Nat.le_of_ble_eq_true rfl) ⟨by decide, by decide⟩ ⟨by decide, by decide⟩ (fun r h27 hq => ?_)
            obtain ⟨rfl, ⟨σ28, gm, g16, g17, gs⟩, fmc⟩ := hq
            rw [show tkP p ((-1)) 0 = p from if_neg (by decide)] at g16
            rw [show tkF p ((-1)) 0 = (p : Int) from if_pos ⟨by decide, rfl⟩] at g17
            have hbu := (fmc _ (ninc (cne hbu hm (by simp)) nin0)).trans hbu
            have he3 := (fmc _ (ninc (cne he3 hm (by simp)) nin0)).trans he3
            have he4 := (fmc _ (ninc (cne he4 hm (by simp)) nin0)).trans he4
            have f0 := (gs 0 (by decide)).trans f0
            have f1 := (gs 1 (by decide)).trans f1
            have f18 := (gs 18 (by decide)).trans f18
            have f21 := (gs 21 (by decide)).trans f21
            have f22 := (gs 22 (by decide)).trans f22
            have f16 := g16
            have f17 := g17
            have hm := gm
            have fm := fm.call (by simp) fmc
            have fs := fs.call (by simp) gs
            refine ev_aload_n d_Mo_takeBars_91 rfl rfl ?_
            refine ev_getF d_Mo_takeBars_92 fl_Mo_107 hm (by decide) f17 ?_
            refine ez_if_ge (tgt := 141) (by omega) d_Mo_takeBars_95 rfl (fun c95 => ?_) (fun c95 => absurd c95 (by omega))
            refine ev_goto (tgt := 2) d_Mo_takeBars_141 rfl ?_
            refine ev_iload_n d_Mo_takeBars_2 rfl rfl ?_
            refine ez_if_ne (tgt := 144) (by decide) d_Mo_takeBars_3 rfl (fun c3 => absurd c3 (by omega)) (fun c3 => ?_)
            refine ev_aload_n d_Mo_takeBars_6 rfl rfl ?_
            refine ev_getF d_Mo_takeBars_7 fl_Mo_107 hm (by decide) f17 ?_
            refine ez_if_ge (tgt := 144) (by omega) d_Mo_takeBars_10 rfl (fun c10 => ?_) (fun c10 => absurd c10 (by omega))
            have e9 : tx1 F n (g + 1) p T br = (p, none) := by rw [tx1, if_neg (by omega), if_pos (by omega), if_neg (by rintro ⟨w1, w2, w3⟩; rw [bt] at w2; cases w2)]
            rw [e9]
            exact ev_return d_Mo_takeBars_144 rfl (by decide) (by decide) (⟨rfl, ⟨σ28, hm, f16, f17, fs⟩, fun T' q => (by cases q), ⟨_, _, he3, he4⟩, fm⟩)
        · refine ev_aload_n d_Mo_takeBars_54 rfl rfl ?_
          refine ev_iload d_Mo_takeBars_55 rfl ?_
          refine ev_callV M_Mo_take (rm 0 0) _ (As := [.int (iZ 0)]) (c_Mo_take G h1 σ2 m (p) ((-1)) 0 hm f16 f17 (by omega) (by omega) (by decide)) d_Mo_takeBars_57 mk_Mo_take ml_Mo_117 mv_Mo_take hm rfl rfl rfl (Nat.le_of_ble_eq_true rfl) ⟨by decide, by decide⟩ ⟨by decide, by decide⟩ (fun r h29 hq => ?_)
          obtain ⟨rfl, ⟨σ30, gm, g16, g17, gs⟩, fmc⟩ := hq
          rw [show tkP p ((-1)) 0 = p from if_neg (by decide)] at g16
          rw [show tkF p ((-1)) 0 = (p : Int) from if_pos ⟨by decide, rfl⟩] at g17
          have hbu := (fmc _ (ninc (cne hbu hm (by simp)) nin0)).trans hbu
          have he3 := (fmc _ (ninc (cne he3 hm (by simp)) nin0)).trans he3
          have he4 := (fmc _ (ninc (cne he4 hm (by simp)) nin0)).trans he4
          have f0 := (gs 0 (by decide)).trans f0
          have f1 := (gs 1 (by decide)).trans f1
          have f18 := (gs 18 (by decide)).trans f18
          have f21 := (gs 21 (by decide)).trans f21
          have f22 := (gs 22 (by decide)).trans f22
          have f16 := g16
          have f17 := g17
          have hm := gm
          have fm := fm.call (by simp) fmc
          have fs := fs.call (by simp) gs
          refine ev_iconst (v := iZ 1) d_Mo_takeBars_60 rfl ?_
          refine ev_istore_n (L' := [(0, .ref m), (1, .int (iZ 1)), (2, .int (iZ (lk F n p))), (3, .int (iZ ((tR T br).length : Int))), (4, .int (iZ 0))]) d_Mo_takeBars_61 rfl (by decide) rfl ?_
          refine ev_goto (tgt := 141) d_Mo_takeBars_62 rfl ?_
          refine ev_goto (tgt := 2) d_Mo_takeBars_141 rfl ?_
          refine ev_iload_n d_Mo_takeBars_2 rfl rfl ?_
          refine ez_if_ne (tgt := 144) (by decide) d_Mo_takeBars_3 rfl (fun c3 => ?_) (fun c3 => absurd c3 (by omega))
          have e9 : tx1 F n (g + 1) p T br = (p, none) := by rw [tx1, if_pos (by omega), if_pos (Or.inr bt)]
          rw [e9]
          exact ev_return d_Mo_takeBars_144 rfl (by decide) (by decide) (⟨rfl, ⟨σ30, hm, f16, f17, fs⟩, fun T' q => (by cases q), ⟨_, _, he3, he4⟩, fm⟩)
      · have bf := tR_n c38
        have tr0 : (tR T br).length = T.length := by rw [bf, tR_f]
        refine ev_iconst (v := iZ 1) d_Mo_takeBars_41 rfl ?_
        refine ev_goto (tgt := 46) d_Mo_takeBars_42 rfl ?_
        refine ev_istore (L' := [(0, .ref m), (1, .int (iZ 0)), (2, .int (iZ (lk F n p))), (3, .int (iZ ((tR T br).length : Int))), (4, .int (iZ 1))]) d_Mo_takeBars_46 (by decide) rfl ?_
        refine ev_iload_n d_Mo_takeBars_48 rfl rfl ?_
        refine ev_bipush (v := iZ 10) d_Mo_takeBars_49 rfl ?_
        refine ez_icmp_ne (tgt := 65) (by omega) (by decide) d_Mo_takeBars_51 rfl (fun c51 => ?_) (fun c51 => ?_)
        · refine ev_iload_n d_Mo_takeBars_65 rfl rfl ?_
          refine ev_bipush (v := iZ 124) d_Mo_takeBars_66 rfl ?_
          refine ez_icmp_ne (tgt := 107) (by omega) (by decide) d_Mo_takeBars_68 rfl (fun c68 => ?_) (fun c68 => ?_)
          · refine ev_aload_n d_Mo_takeBars_107 rfl rfl ?_
            refine ev_iload_n d_Mo_takeBars_108 rfl rfl ?_
            have it := isT_r (lk F n p)
            refine ev_pS M_Mo_isText 0 0 (As := [.int (iZ (lk F n p))]) (c_Mo_isText G h1 (lk F n p) (by omega)) d_Mo_takeBars_109 mk_Mo_isText ml_Mo_143 ms_Mo_isText rfl rfl (Nat.le_of_ble_eq_true rfl) ⟨by decide, by decide⟩ ⟨by decide, by decide⟩ ?_
            refine ez_if_eq (tgt := 125) (by omega) d_Mo_takeBars_112 rfl (fun c112 => ?_) (fun c112 => ?_)
            · have zt := isT_0 c112 (by omega)
              refine ev_iconst (v := iZ 0) d_Mo_takeBars_125 rfl ?_
              refine ev_callV M_Mo_take (rm 0 0) _ (As := [.int (iZ 0)]) (c_Mo_take G h1 σ2 m (p) ((-1)) 0 hm f16 f17 (by omega) (by omega) (by decide)) d_Mo_takeBars_126 mk_Mo_take ml_Mo_117 mv_Mo_take hm rfl rfl rfl (Nat.le_of_ble_eq_true rfl) ⟨by decide, by decide⟩ ⟨by decide, by decide⟩ (fun r h31 hq => ?_)
              obtain ⟨rfl, ⟨σ32, gm, g16, g17, gs⟩, fmc⟩ := hq
              rw [show tkP p ((-1)) 0 = p from if_neg (by decide)] at g16
              rw [show tkF p ((-1)) 0 = (p : Int) from if_pos ⟨by decide, rfl⟩] at g17
              have hbu := (fmc _ (ninc (cne hbu hm (by simp)) nin0)).trans hbu
              have he3 := (fmc _ (ninc (cne he3 hm (by simp)) nin0)).trans he3
              have he4 := (fmc _ (ninc (cne he4 hm (by simp)) nin0)).trans he4
              have f0 := (gs 0 (by decide)).trans f0
              have f1 := (gs 1 (by decide)).trans f1
              have f18 := (gs 18 (by decide)).trans f18
              have f21 := (gs 21 (by decide)).trans f21
              have f22 := (gs 22 (by decide)).trans f22
              have f16 := g16
              have f17 := g17
              have hm := gm
              have fm := fm.call (by simp) fmc
              have fs := fs.call (by simp) gs
              refine ev_aload_n d_Mo_takeBars_129 rfl rfl ?_
              refine ev_getF d_Mo_takeBars_130 fl_Mo_107 hm (by decide) f17 ?_
              refine ez_if_ge (tgt := 141) (by omega) d_Mo_takeBars_133 rfl (fun c133 => ?_) (fun c133 => absurd c133 (by omega))
              refine ev_goto (tgt := 2) d_Mo_takeBars_141 rfl ?_
              refine ev_iload_n d_Mo_takeBars_2 rfl rfl ?_
              refine ez_if_ne (tgt := 144) (by decide) d_Mo_takeBars_3 rfl (fun c3 => absurd c3 (by omega)) (fun c3 => ?_)
              refine ev_aload_n d_Mo_takeBars_6 rfl rfl ?_
              refine ev_getF d_Mo_takeBars_7 fl_Mo_107 hm (by decide) f17 ?_
              refine ez_if_ge (tgt := 144) (by omega) d_Mo_takeBars_10 rfl (fun c10 => ?_) (fun c10 => absurd c10 (by omega))
              have e9 : tx1 F n (g + 1) p T br = (p, none) := by rw [tx1, if_neg (by omega), if_neg (by omega), if_neg (fun w => zt w.1)]
              rw [e9]
              exact ev_return d_Mo_takeBars_144 rfl (by decide) (by decide) (⟨rfl, ⟨σ32, hm, f16, f17, fs⟩, fun T' q => (by cases q), ⟨_, _, he3, he4⟩, fm⟩)
            · have zt := isT_1 c112
              refine ev_iload_n d_Mo_takeBars_115 rfl rfl ?_
              refine ev_bipush (v := iZ 64) d_Mo_takeBars_116 rfl ?_
              refine ez_icmp_ge (tgt := 125) (by omega) (by decide) d_Mo_takeBars_118 rfl (fun c118 => ?_) (fun c118 => ?_)
              · refine ev_iconst (v := iZ 0) d_Mo_takeBars_125 rfl ?_
                refine ev_callV M_Mo_take (rm 0 0) _ (As := [.int (iZ 0)]) (c_Mo_take G h1 σ2 m (p) ((-1)) 0 hm f16 f17 (by omega) (by omega) (by decide)) d_Mo_takeBars_126 mk_Mo_take ml_Mo_117 mv_Mo_take hm rfl rfl rfl (Nat.le_of_ble_eq_true rfl) ⟨by decide, by decide⟩ ⟨by decide, by decide⟩ (fun r h33 hq => ?_)
                obtain ⟨rfl, ⟨σ34, gm, g16, g17, gs⟩, fmc⟩ := hq
                rw [show tkP p ((-1)) 0 = p from if_neg (by decide)] at g16
                rw [show tkF p ((-1)) 0 = (p : Int) from if_pos ⟨by decide, rfl⟩] at g17
                have hbu := (fmc _ (ninc (cne hbu hm (by simp)) nin0)).trans hbu
                have he3 := (fmc _ (ninc (cne he3 hm (by simp)) nin0)).trans he3
                have he4 := (fmc _ (ninc (cne he4 hm (by simp)) nin0)).trans he4
                have f0 := (gs 0 (by decide)).trans f0
                have f1 := (gs 1 (by decide)).trans f1
                have f18 := (gs 18 (by decide)).trans f18
                have f21 := (gs 21 (by decide)).trans f21
                have f22 := (gs 22 (by decide)).trans f22
                have f16 := g16
                have f17 := g17
                have hm := gm
                have fm := fm.call (by simp) fmc
                have fs := fs.call (by simp) gs
                refine ev_aload_n d_Mo_takeBars_129 rfl rfl ?_
                refine ev_getF d_Mo_takeBars_130 fl_Mo_107 hm (by decide) f17 ?_
                refine ez_if_ge (tgt := 141) (by omega) d_Mo_takeBars_133 rfl (fun c133 => ?_) (fun c133 => absurd c133 (by omega))
                refine ev_goto (tgt := 2) d_Mo_takeBars_141 rfl ?_
                refine ev_iload_n d_Mo_takeBars_2 rfl rfl ?_
                refine ez_if_ne (tgt := 144) (by decide) d_Mo_takeBars_3 rfl (fun c3 => absurd c3 (by omega)) (fun c3 => ?_)
                refine ev_aload_n d_Mo_takeBars_6 rfl rfl ?_
                refine ev_getF d_Mo_takeBars_7 fl_Mo_107 hm (by decide) f17 ?_
                refine ez_if_ge (tgt := 144) (by omega) d_Mo_takeBars_10 rfl (fun c10 => ?_) (fun c10 => absurd c10 (by omega))
                have e9 : tx1 F n (g + 1) p T br = (p, none) := by rw [tx1, if_neg (by omega), if_neg (by omega), if_neg (by rintro ⟨_, w2⟩; have := tR_l (T := T) (br := br); rcases br with _ | _ <;> simp [bz] at this w2 <;> omega)]
                rw [e9]
                exact ev_return d_Mo_takeBars_144 rfl (by decide) (by decide) (⟨rfl, ⟨σ34, hm, f16, f17, fs⟩, fun T' q => (by cases q), ⟨_, _, he3, he4⟩, fm⟩)
              · refine ev_iconst (v := iZ 1) d_Mo_takeBars_121 rfl ?_
                refine ev_goto (tgt := 126) d_Mo_takeBars_122 rfl ?_
                refine ev_callV M_Mo_take (rm 0 0) _ (As := [.int (iZ 1)]) (c_Mo_take G h1 σ2 m (p) ((-1)) 1 hm f16 f17 (by omega) (by omega) (by decide)) d_Mo_takeBars_126 mk_Mo_take ml_Mo_117 mv_Mo_take hm rfl rfl rfl (Nat.le_of_ble_eq_true rfl) ⟨by decide, by decide⟩ ⟨by decide, by decide⟩ (fun r h35 hq => ?_)
                obtain ⟨rfl, ⟨σ36, gm, g16, g17, gs⟩, fmc⟩ := hq
                rw [show tkP p ((-1)) 1 = p + 1 from if_pos ⟨by decide, by decide⟩] at g16
                rw [show tkF p ((-1)) 1 = (-1) from if_neg (by decide)] at g17
                have hbu := (fmc _ (ninc (cne hbu hm (by simp)) nin0)).trans hbu
                have he3 := (fmc _ (ninc (cne he3 hm (by simp)) nin0)).trans he3
                have he4 := (fmc _ (ninc (cne he4 hm (by simp)) nin0)).trans he4
                have f0 := (gs 0 (by decide)).trans f0
                have f1 := (gs 1 (by decide)).trans f1
                have f18 := (gs 18 (by decide)).trans f18
                have f21 := (gs 21 (by decide)).trans f21
                have f22 := (gs 22 (by decide)).trans f22
                have f16 := g16
                have f17 := g17
                have hm := gm
                have fm := fm.call (by simp) fmc
                have fs := fs.call (by simp) gs
                refine ev_aload_n d_Mo_takeBars_129 rfl rfl ?_
                refine ev_getF d_Mo_takeBars_130 fl_Mo_107 hm (by decide) f17 ?_
                refine ez_if_ge (tgt := 141) (by decide) d_Mo_takeBars_133 rfl (fun c133 => absurd c133 (by omega)) (fun c133 => ?_)
                refine ev_aload_n d_Mo_takeBars_136 rfl rfl ?_
                refine ev_iload_n d_Mo_takeBars_137 rfl rfl ?_
                refine ev_callV M_Mo_addByte (rm 0 0) _ (As := [.int (iZ (lk F n p))]) (c_Mo_addByte G h35 σ36 m e3 e4 c Z E (tR T br) (lk F n p) hm f18 f21 f22 he3 he4 hc (by first | omega | (simp only [List.length_append, List.length_cons, List.length_nil] at *; omega))) d_Mo_takeBars_138 mk_Mo_addByte ml_Mo_147 mv_Mo_addByte hm rfl rfl rfl (Nat.le_of_ble_eq_true rfl) ⟨by decide, by decide⟩ ⟨by decide, by decide⟩ (fun r h37 hq => ?_)
                obtain ⟨rfl, ge3, ge4, fmc⟩ := hq
                have hm := (fmc _ (ninc (cne hm he3 (by simp)) (ninc (cne hm he4 (by simp)) nin0))).trans hm
                have hbu := (fmc _ (ninc (cne hbu he3 (by simp)) (ninc (cne hbu he4 (by simp)) nin0))).trans hbu
                have he3 := ge3
                have he4 := ge4
                have fm := fm.call (by simp) fmc
                refine ev_goto (tgt := 2) d_Mo_takeBars_141 rfl ?_
                have lo : lok (lk F n p) T br := ⟨zt, by have := tR_l (T := T) (br := br); rcases br with _ | _ <;> simp [bz] at this ⊢ <;> omega⟩
                have e9 : tx1 F n (g + 1) p T br = tx1 F n g (p + 1) (lad T br (lk F n p)) false := by rw [tx1, if_neg (by omega), if_neg (by omega), if_pos lo]
                rw [e9]
                have el : tR (lad T br (lk F n p)) false = tR T br ++ [lk F n p] := by rw [tR_f, ← tR_s]
                rw [← el] at he3 he4
                refine ev_loc [(0, .ref m), (1, .int (iZ 0))] (by simp) ?_
                exact ih g (by omega) (p + 1) (lad T br (lk F n p)) false h37 σ36 (by omega) (by omega) (by rw [tR_f]; exact lok_l lo) (fun _ => by rw [lad_last]; omega) (by rw [tR_f]; exact (tok_lad lo rl.2 ⟨by omega, fun x hx => hby x (List.mem_append_left _ hx)⟩).1.2) hm f0 f1 f16 f17 f18 f21 f22 hbu he3 he4 fm fs
          · refine ev_aload_n d_Mo_takeBars_71 rfl rfl ?_
            refine ev_iload d_Mo_takeBars_72 rfl ?_
            refine ez_if_eq (tgt := 87) (by decide) d_Mo_takeBars_74 rfl (fun c74 => absurd c74 (by omega)) (fun c74 => ?_)
            refine ev_iload_n d_Mo_takeBars_77 rfl rfl ?_
            refine ev_bipush (v := iZ 63) d_Mo_takeBars_78 rfl ?_
            refine ez_icmp_ge (tgt := 87) (by omega) (by decide) d_Mo_takeBars_80 rfl (fun c80 => ?_) (fun c80 => ?_)
            · refine ev_iconst (v := iZ 0) d_Mo_takeBars_87 rfl ?_
              refine ev_callV M_Mo_take (rm 0 0) _ (As := [.int (iZ 0)]) (c_Mo_take G h1 σ2 m (p) ((-1)) 0 hm f16 f17 (by omega) (by omega) (by decide)) d_Mo_takeBars_88 mk_Mo_take ml_Mo_117 mv_Mo_take hm rfl rfl rfl (Nat.le_of_ble_eq_true rfl) ⟨by decide, by decide⟩ ⟨by decide, by decide⟩ (fun r h38 hq => ?_)
              obtain ⟨rfl, ⟨σ39, gm, g16, g17, gs⟩, fmc⟩ := hq
              rw [show tkP p ((-1)) 0 = p from if_neg (by decide)] at g16
              rw [show tkF p ((-1)) 0 = (p : Int) from if_pos ⟨by decide, rfl⟩] at g17
              have hbu := (fmc _ (ninc (cne hbu hm (by simp)) nin0)).trans hbu
              have he3 := (fmc _ (ninc (cne he3 hm (by simp)) nin0)).trans he3
              have he4 := (fmc _ (ninc (cne he4 hm (by simp)) nin0)).trans he4
              have f0 := (gs 0 (by decide)).trans f0
              have f1 := (gs 1 (by decide)).trans f1
              have f18 := (gs 18 (by decide)).trans f18
              have f21 := (gs 21 (by decide)).trans f21
              have f22 := (gs 22 (by decide)).trans f22
              have f16 := g16
              have f17 := g17
              have hm := gm
              have fm := fm.call (by simp) fmc
              have fs := fs.call (by simp) gs
              refine ev_aload_n d_Mo_takeBars_91 rfl rfl ?_
              refine ev_getF d_Mo_takeBars_92 fl_Mo_107 hm (by decide) f17 ?_
              refine ez_if_ge (tgt := 141) (by omega) d_Mo_takeBars_95 rfl (fun c95 => ?_) (fun c95 => absurd c95 (by omega))
              refine ev_goto (tgt := 2) d_Mo_takeBars_141 rfl ?_
              refine ev_iload_n d_Mo_takeBars_2 rfl rfl ?_
              refine ez_if_ne (tgt := 144) (by decide) d_Mo_takeBars_3 rfl (fun c3 => absurd c3 (by omega)) (fun c3 => ?_)
              refine ev_aload_n d_Mo_takeBars_6 rfl rfl ?_
              refine ev_getF d_Mo_takeBars_7 fl_Mo_107 hm (by decide) f17 ?_
              refine ez_if_ge (tgt := 144) (by omega) d_Mo_takeBars_10 rfl (fun c10 => ?_) (fun c10 => absurd c10 (by omega))
              have e9 : tx1 F n (g + 1) p T br = (p, none) := by rw [tx1, if_neg (by omega), if_pos (by omega), if_neg (by rintro ⟨w1, w2, w3⟩; omega)]
              rw [e9]
              exact ev_return d_Mo_takeBars_144 rfl (by decide) (by decide) (⟨rfl, ⟨σ39, hm, f16, f17, fs⟩, fun T' q => (by cases q), ⟨_, _, he3, he4⟩, fm⟩)
            · refine ev_iconst (v := iZ 1) d_Mo_takeBars_83 rfl ?_
              refine ev_goto (tgt := 88) d_Mo_takeBars_84 rfl ?_
              refine ev_callV M_Mo_take (rm 0 0) _ (As := [.int (iZ 1)]) (c_Mo_take G h1 σ2 m (p) ((-1)) 1 hm f16 f17 (by omega) (by omega) (by decide)) d_Mo_takeBars_88 mk_Mo_take ml_Mo_117 mv_Mo_take hm rfl rfl rfl (Nat.le_of_ble_eq_true rfl) ⟨by decide, by decide⟩ ⟨by decide, by decide⟩ (fun r h40 hq => ?_)
              obtain ⟨rfl, ⟨σ41, gm, g16, g17, gs⟩, fmc⟩ := hq
              rw [show tkP p ((-1)) 1 = p + 1 from if_pos ⟨by decide, by decide⟩] at g16
              rw [show tkF p ((-1)) 1 = (-1) from if_neg (by decide)] at g17
              have hbu := (fmc _ (ninc (cne hbu hm (by simp)) nin0)).trans hbu
              have he3 := (fmc _ (ninc (cne he3 hm (by simp)) nin0)).trans he3
              have he4 := (fmc _ (ninc (cne he4 hm (by simp)) nin0)).trans he4
              have f0 := (gs 0 (by decide)).trans f0
              have f1 := (gs 1 (by decide)).trans f1
              have f18 := (gs 18 (by decide)).trans f18
              have f21 := (gs 21 (by decide)).trans f21
              have f22 := (gs 22 (by decide)).trans f22
              have f16 := g16
              have f17 := g17
              have hm := gm
              have fm := fm.call (by simp) fmc
              have fs := fs.call (by simp) gs
              refine ev_aload_n d_Mo_takeBars_91 rfl rfl ?_
              refine ev_getF d_Mo_takeBars_92 fl_Mo_107 hm (by decide) f17 ?_
              refine ez_if_ge (tgt := 141) (by decide) d_Mo_takeBars_95 rfl (fun c95 => absurd c95 (by omega)) (fun c95 => ?_)
              refine ev_aload_n d_Mo_takeBars_98 rfl rfl ?_
              refine ev_bipush (v := iZ 10) d_Mo_takeBars_99 rfl ?_
              refine ev_callV M_Mo_addByte (rm 0 0) _ (As := [.int (iZ 10)]) (c_Mo_addByte G h40 σ41 m e3 e4 c Z E (tR T br) (10) hm f18 f21 f22 he3 he4 hc (by first | omega | (simp only [List.length_append, List.length_cons, List.length_nil] at *; omega))) d_Mo_takeBars_101 mk_Mo_addByte ml_Mo_147 mv_Mo_addByte hm rfl rfl rfl (Nat.le_of_ble_eq_true rfl) ⟨by decide, by decide⟩ ⟨by decide, by decide⟩ (fun r h42 hq => ?_)
              obtain ⟨rfl, ge3, ge4, fmc⟩ := hq
              have hm := (fmc _ (ninc (cne hm he3 (by simp)) (ninc (cne hm he4 (by simp)) nin0))).trans hm
              have hbu := (fmc _ (ninc (cne hbu he3 (by simp)) (ninc (cne hbu he4 (by simp)) nin0))).trans hbu
              have he3 := ge3
              have he4 := ge4
              have fm := fm.call (by simp) fmc
              refine ev_goto (tgt := 141) d_Mo_takeBars_104 rfl ?_
              refine ev_goto (tgt := 2) d_Mo_takeBars_141 rfl ?_
              have lo : ibk T br := ⟨by omega, bf, by omega⟩
              have e9 : tx1 F n (g + 1) p T br = tx1 F n g (p + 1) (T) true := by rw [tx1, if_neg (by omega), if_pos (by omega), if_pos lo]
              rw [e9]
              have el : tR T true = tR T br ++ [10] := by rw [bf, tR_f]; rfl
              rw [← el] at he3 he4
              refine ev_loc [(0, .ref m), (1, .int (iZ 0))] (by simp) ?_
              exact ih g (by omega) (p + 1) (T) true h42 σ41 (by omega) (by omega) (by have := tR_l (T := T) (br := true); simp [bz] at this; omega) hlast (by intro x hx; rcases List.mem_append.mp hx with w | w; exact hby x (List.mem_append_left _ w); simp at w; omega) hm f0 f1 f16 f17 f18 f21 f22 hbu he3 he4 fm fs
        · refine ev_aload_n d_Mo_takeBars_54 rfl rfl ?_
          refine ev_iload d_Mo_takeBars_55 rfl ?_
          refine ev_callV M_Mo_take (rm 0 0) _ (As := [.int (iZ 1)]) (c_Mo_take G h1 σ2 m (p) ((-1)) 1 hm f16 f17 (by omega) (by omega) (by decide)) d_Mo_takeBars_57 mk_Mo_take ml_Mo_117 mv_Mo_take hm rfl rfl rfl (Nat.le_of_ble_eq_true rfl) ⟨by decide, by decide⟩ ⟨by decide, by decide⟩ (fun r h43 hq => ?_)
          obtain ⟨rfl, ⟨σ44, gm, g16, g17, gs⟩, fmc⟩ := hq
          rw [show tkP p ((-1)) 1 = p + 1 from if_pos ⟨by decide, by decide⟩] at g16
          rw [show tkF p ((-1)) 1 = (-1) from if_neg (by decide)] at g17
          have hbu := (fmc _ (ninc (cne hbu hm (by simp)) nin0)).trans hbu
          have he3 := (fmc _ (ninc (cne he3 hm (by simp)) nin0)).trans he3
          have he4 := (fmc _ (ninc (cne he4 hm (by simp)) nin0)).trans he4
          have f0 := (gs 0 (by decide)).trans f0
          have f1 := (gs 1 (by decide)).trans f1
          have f18 := (gs 18 (by decide)).trans f18
          have f21 := (gs 21 (by decide)).trans f21
          have f22 := (gs 22 (by decide)).trans f22
          have f16 := g16
          have f17 := g17
          have hm := gm
          have fm := fm.call (by simp) fmc
          have fs := fs.call (by simp) gs
          refine ev_iconst (v := iZ 1) d_Mo_takeBars_60 rfl ?_
          refine ev_istore_n (L' := [(0, .ref m), (1, .int (iZ 1)), (2, .int (iZ (lk F n p))), (3, .int (iZ ((tR T br).length : Int))), (4, .int (iZ 1))]) d_Mo_takeBars_61 rfl (by decide) rfl ?_
          refine ev_goto (tgt := 141) d_Mo_takeBars_62 rfl ?_
          refine ev_goto (tgt := 2) d_Mo_takeBars_141 rfl ?_
          refine ev_iload_n d_Mo_takeBars_2 rfl rfl ?_
          refine ez_if_ne (tgt := 144) (by decide) d_Mo_takeBars_3 rfl (fun c3 => ?_) (fun c3 => absurd c3 (by omega))
          have e9 : tx1 F n (g + 1) p T br = (p + 1, some T) := by rw [tx1, if_pos (by omega), if_neg (by rw [bf]; rintro (w | w); omega; cases w)]
          rw [e9]
          exact ev_return d_Mo_takeBars_144 rfl (by decide) (by decide) (⟨rfl, ⟨σ44, hm, f16, f17, fs⟩, fun T' q => (by cases q; exact ⟨by rw [bf, tR_f] at he3; exact he3, by rw [bf, tR_f] at he4; exact he4⟩), ⟨_, _, he3, he4⟩, fm⟩)
set_option maxHeartbeats 4000000 in
set_option maxRecDepth 100000 in
theorem c_Mo_takeBars (G : GT) (h : HM) (σ : Nat → Value) (m bu e3 e4 n p c : Nat) (F Z E : Nat → Int) (hm : h m = some (.inr (11, fsN 34 σ))) (f0 : σ 0 = .int (iZ (n : Int))) (f1 : σ 1 = .ref bu) (f16 : σ 16 = .int (iZ (p : Int))) (f17 : σ 17 = .int (iZ (-1))) (f18 : σ 18 = .int (iZ (c : Int))) (f21 : σ 21 = .ref e3) (f22 : σ 22 = .ref e4) (hbu : h bu = some (.inl (G_i G, 1000, .inl (iA F)))) (he3 : h e3 = some (.inl (G_i G, 16, .inl (iA (zup Z c 0))))) (he4 : h e4 = some (.inl (G_i G, 1024, .inl (iA E)))) (hn : n ≤ 1000) (hp : p ≤ n) (hF : ∀ k, 0 ≤ F k ∧ F k ≤ 255) (hc : c < 16) : Rn G M_Mo_takeBars (rm 1 40) [.ref m] h (fun r h' => r = none ∧ (∃ σ', h' m = some (.inr (11, fsN 34 σ')) ∧ σ' 16 = .int (iZ (((tx1 F n (n + 1 - p) p [] false).1 : Nat) : Int)) ∧ σ' 17 = .int (iZ (ftO (tx1 F n (n + 1 - p) p [] false))) ∧ Fs [16, 17] σ σ') ∧ (∀ T', (tx1 F n (n + 1 - p) p [] false).2 = some T' → h' e3 = some (.inl (G_i G, 16, .inl (iA (zup Z c (T'.length : Int))))) ∧ h' e4 = some (.inl (G_i G, 1024, .inl (iA (tW E (64 * c) T'))))) ∧ (∃ Z' E' : Nat → Int, h' e3 = some (.inl (G_i G, 16, .inl (iA Z'))) ∧ h' e4 = some (.inl (G_i G, 1024, .inl (iA E')))) ∧ Fm [m, e3, e4] h h') := by
  refine rn_of (by decide) (Nat.le_of_ble_eq_true rfl) ?_
  show Ev G M_Mo_takeBars _ _ 0 [(0, .ref m)] [] _ 0 0
  refine ev_iconst (v := iZ 0) d_Mo_takeBars_0 rfl ?_
  refine ev_istore_n (L' := [(0, .ref m), (1, .int (iZ 0))]) d_Mo_takeBars_1 rfl (by decide) rfl ?_
  exact lp_Mo_bars G h σ m bu e3 e4 n c F Z E hn hF hc (n + 1 - p) p [] false h σ (by omega) hp (by decide) (fun w => absurd rfl w) (fun x hx => absurd hx List.not_mem_nil) hm f0 f1 f16 f17 f18 f21 f22 hbu he3 (by rw [tR_f, tW_nil]; exact he4) Fm.rf Fs.rf
set_option maxHeartbeats 4000000 in
set_option maxRecDepth 100000 in
theorem lp_Mo_counted (G : GT) (h0 : HM) (σ0 : Nat → Value) (m bu e3 e4 n c : Nat) (F Z E : Nat → Int) (hn : n ≤ 1000) (hF : ∀ k, 0 ≤ F k ∧ F k ≤ 255) (hc : c < 16) (z : Int) (hz : 1 ≤ z ∧ z ≤ 64) : ∀ (d : Nat) (i p : Nat) (T : List Int) (br : Bool) (h : HM) (σ : Nat → Value), (i : Int) + d = z → p ≤ n → (tR T br).length = i → (T.length ≠ 0 → lastZ T ≠ 10) → (br = true → 1 ≤ d) → (∀ x ∈ tR T br, 0 ≤ x ∧ x ≤ 255) → h m = some (.inr (11, fsN 34 σ)) → σ 0 = .int (iZ (n : Int)) → σ 1 = .ref bu → σ 16 = .int (iZ (p : Int)) → σ 17 = .int (iZ (-1)) → σ 18 = .int (iZ (c : Int)) → σ 21 = .ref e3 → σ 22 = .ref e4 → h bu = some (.inl (G_i G, 1000, .inl (iA F))) → h e3 = some (.inl (G_i G, 16, .inl (iA (zup Z c ((tR T br).length : Int))))) → h e4 = some (.inl (G_i G, 1024, .inl (iA (tW E (64 * c) (tR T br))))) → Fm [m, e3, e4] h0 h → Fs [16, 17] σ0 σ → Ev G M_Mo_takeCounted (rm 1 40) (fun r h' => r = none ∧ (∃ σ', h' m = some (.inr (11, fsN 34 σ')) ∧ σ' 16 = .int (iZ (((tx2 F n z d (i : Int) p T br).1 : Nat) : Int)) ∧ σ' 17 = .int (iZ (ftO (tx2 F n z d (i : Int) p T br))) ∧ Fs [16, 17] σ0 σ') ∧ (∀ T', (tx2 F n z d (i : Int) p T br).2 = some T' → h' e3 = some (.inl (G_i G, 16, .inl (iA (zup Z c (T'.length : Int))))) ∧ h' e4 = some (.inl (G_i G, 1024, .inl (iA (tW E (64 * c) T'))))) ∧ (∃ Z' E' : Nat → Int, h' e3 = some (.inl (G_i G, 16, .inl (iA Z'))) ∧ h' e4 = some (.inl (G_i G, 1024, .inl (iA E')))) ∧ Fm [m, e3, e4] h0 h') 27 [(0, .ref m), (1, .int (iZ z)), (2, .int (iZ (i : Int)))] [] h 0 0 := by
  intro d
  induction d using Nat.strongRecOn with
  | ind d ih =>
  intro i p T br h σ hd hp hT hlast hbz2 hby hm f0 f1 f16 f17 f18 f21 f22 hbu he3 he4 fm fs
  have tl_ := tR_l (T := T) (br := br)
  have hbz := bz_r br
  refine ev_iload_n d_Mo_takeCounted_27 rfl rfl ?_
  refine ev_iload_n d_Mo_takeCounted_28 rfl rfl ?_
  refine ez_icmp_ge (tgt := 104) (by omega) (by omega) d_Mo_takeCounted_29 rfl (fun c29 => ?_) (fun c29 => ?_)
  · obtain rfl : d = 0 := by omega
    have bf : br = false := by
      cases br
      · rfl
      · have := hbz2 rfl
        omega
    have e9 : tx2 F n z 0 (i : Int) p T br = (p, some T) := rfl
    rw [e9]
    exact ev_return d_Mo_takeCounted_104 rfl (by decide) (by decide) (⟨rfl, ⟨σ, hm, f16, f17, fs⟩, fun T' q => (by cases q; exact ⟨by rw [bf, tR_f] at he3; exact he3, by rw [bf, tR_f] at he4; exact he4⟩), ⟨_, _, he3, he4⟩, fm⟩)
  · obtain ⟨g, rfl⟩ : ∃ g, d = g + 1 := ⟨d - 1, by omega⟩
    refine ev_aload_n d_Mo_takeCounted_32 rfl rfl ?_
    refine ev_getF d_Mo_takeCounted_33 fl_Mo_107 hm (by decide) f17 ?_
    refine ez_if_ge (tgt := 104) (by decide) d_Mo_takeCounted_36 rfl (fun c36 => absurd c36 (by omega)) (fun c36 => ?_)
    refine ev_aload_n d_Mo_takeCounted_39 rfl rfl ?_
    refine ev_callV M_Mo_here (rm 0 0) _ (As := []) (c_Mo_here G h σ m bu n p F (-1) hm f0 f1 f16 f17 hbu hn hp hF (by omega)) d_Mo_takeCounted_40 mk_Mo_here ml_Mo_113 mv_Mo_here hm rfl rfl rfl (Nat.le_of_ble_eq_true rfl) ⟨by decide, by decide⟩ ⟨by decide, by decide⟩ (fun r h1 hq => ?_)
    obtain ⟨rfl, ⟨σ2, gm, g17, gs⟩, fmc⟩ := hq
    have hbu := (fmc _ (ninc (cne hbu hm (by simp)) nin0)).trans hbu
    have he3 := (fmc _ (ninc (cne he3 hm (by simp)) nin0)).trans he3
    have he4 := (fmc _ (ninc (cne he4 hm (by simp)) nin0)).trans he4
    have f0 := (gs 0 (by decide)).trans f0
    have f1 := (gs 1 (by decide)).trans f1
    have f16 := (gs 16 (by decide)).trans f16
    have f18 := (gs 18 (by decide)).trans f18
    have f21 := (gs 21 (by decide)).trans f21
    have f22 := (gs 22 (by decide)).trans f22
    have f17 := g17
    have hm := gm
    have fm := fm.call (by simp) fmc
    have fs := fs.call (by simp) gs
    by_cases hpn : p = n
    ·
      have hlk : lk F n p = -1 := lk_out (by omega)
      rw [show hf n p (-1) = (p : Int) from (if_pos ⟨by decide, hpn⟩).trans (by rw [hpn])] at f17
      refine ev_top ((-1)) ((if_pos (by decide)).trans hlk) ?_
      refine ev_istore_n (L' := [(0, .ref m), (1, .int (iZ z)), (2, .int (iZ (i : Int))), (3, .int (iZ (-1)))]) d_Mo_takeCounted_43 rfl (by decide) rfl ?_
      refine ev_aload_n d_Mo_takeCounted_44 rfl rfl ?_
      refine ev_iload_n d_Mo_takeCounted_45 rfl rfl ?_
      refine ev_bipush (v := iZ 10) d_Mo_takeCounted_46 rfl ?_
      refine ez_icmp_ne (tgt := 79) (by decide) (by decide) d_Mo_takeCounted_48 rfl (fun c48 => ?_) (fun c48 => absurd c48 (by omega))
      refine ev_iload_n d_Mo_takeCounted_79 rfl rfl ?_
      have it := isT_r (-1)
      refine ev_pS M_Mo_isText 0 0 (As := [.int (iZ (-1))]) (c_Mo_isText G h1 (-1) (by omega)) d_Mo_takeCounted_80 mk_Mo_isText ml_Mo_143 ms_Mo_isText rfl rfl (Nat.le_of_ble_eq_true rfl) ⟨by decide, by decide⟩ ⟨by decide, by decide⟩ ?_
      refine ev_top (0) (by decide) ?_
      refine ev_callV M_Mo_take (rm 0 0) _ (As := [.int (iZ 0)]) (c_Mo_take G h1 σ2 m (p) ((p : Int)) 0 hm f16 f17 (by omega) (by omega) (by decide)) d_Mo_takeCounted_83 mk_Mo_take ml_Mo_117 mv_Mo_take hm rfl rfl rfl (Nat.le_of_ble_eq_true rfl) ⟨by decide, by decide⟩ ⟨by decide, by decide⟩ (fun r h3 hq => ?_)
      obtain ⟨rfl, ⟨σ4, gm, g16, g17, gs⟩, fmc⟩ := hq
      rw [show tkP p ((p : Int)) 0 = p from if_neg (by omega)] at g16
      rw [show tkF p ((p : Int)) 0 = (p : Int) from if_neg (by omega)] at g17
      have hbu := (fmc _ (ninc (cne hbu hm (by simp)) nin0)).trans hbu
      have he3 := (fmc _ (ninc (cne he3 hm (by simp)) nin0)).trans he3
      have he4 := (fmc _ (ninc (cne he4 hm (by simp)) nin0)).trans he4
      have f0 := (gs 0 (by decide)).trans f0
      have f1 := (gs 1 (by decide)).trans f1
      have f18 := (gs 18 (by decide)).trans f18
      have f21 := (gs 21 (by decide)).trans f21
      have f22 := (gs 22 (by decide)).trans f22
      have f16 := g16
      have f17 := g17
      have hm := gm
      have fm := fm.call (by simp) fmc
      have fs := fs.call (by simp) gs
      refine ev_aload_n d_Mo_takeCounted_86 rfl rfl ?_
      refine ev_getF d_Mo_takeCounted_87 fl_Mo_107 hm (by decide) f17 ?_
      refine ez_if_ge (tgt := 98) (by omega) d_Mo_takeCounted_90 rfl (fun c90 => ?_) (fun c90 => absurd c90 (by omega))
      refine ez_iinc (L' := [(0, .ref m), (1, .int (iZ z)), (2, .int (iZ ((i + 1 : Nat) : Int))), (3, .int (iZ (-1)))]) d_Mo_takeCounted_98 rfl (by decide) rfl ?_
      refine ev_goto (tgt := 27) d_Mo_takeCounted_101 rfl ?_
      refine ev_iload_n d_Mo_takeCounted_27 rfl rfl ?_
      refine ev_iload_n d_Mo_takeCounted_28 rfl rfl ?_
      refine ez_icmp_ge (tgt := 104) (by omega) (by omega) d_Mo_takeCounted_29 rfl (fun c29 => ?_) (fun c29 => ?_)
      · have e9 : tx2 F n z (g + 1) (i : Int) p T br = (p, none) := by rw [tx2, if_neg (by omega), if_neg (by rintro ⟨⟨w, _, _⟩, _⟩; omega)]
        rw [e9]
        exact ev_return d_Mo_takeCounted_104 rfl (by decide) (by decide) (⟨rfl, ⟨σ4, hm, f16, f17, fs⟩, fun T' q => (by cases q), ⟨_, _, he3, he4⟩, fm⟩)
      · refine ev_aload_n d_Mo_takeCounted_32 rfl rfl ?_
        refine ev_getF d_Mo_takeCounted_33 fl_Mo_107 hm (by decide) f17 ?_
        refine ez_if_ge (tgt := 104) (by omega) d_Mo_takeCounted_36 rfl (fun c36 => ?_) (fun c36 => absurd c36 (by omega))
        have e9 : tx2 F n z (g + 1) (i : Int) p T br = (p, none) := by rw [tx2, if_neg (by omega), if_neg (by rintro ⟨⟨w, _, _⟩, _⟩; omega)]
        rw [e9]
        exact ev_return d_Mo_takeCounted_104 rfl (by decide) (by decide) (⟨rfl, ⟨σ4, hm, f16, f17, fs⟩, fun T' q => (by cases q), ⟨_, _, he3, he4⟩, fm⟩)
    ·
      rw [hf_p (show p < n by omega)] at f17
      have rl := lk_r (n := n) hF p
      have rl0 : 0 ≤ lk F n p := by rw [lk_in (by omega)]; exact (hF p).1
      refine ev_top (lk F n p) (if_pos (by decide)) ?_
      refine ev_istore_n (L' := [(0, .ref m), (1, .int (iZ z)), (2, .int (iZ (i : Int))), (3, .int (iZ (lk F n p)))]) d_Mo_takeCounted_43 rfl (by decide) rfl ?_
      refine ev_aload_n d_Mo_takeCounted_44 rfl rfl ?_
      refine ev_iload_n d_Mo_takeCounted_45 rfl rfl ?_
      refine ev_bipush (v := iZ 10) d_Mo_takeCounted_46 rfl ?_
      refine ez_icmp_ne (tgt := 79) (by omega) (by decide) d_Mo_takeCounted_48 rfl (fun c48 => ?_) (fun c48 => ?_)
      · refine ev_iload_n d_Mo_takeCounted_79 rfl rfl ?_
        have it := isT_r (lk F n p)
        refine ev_pS M_Mo_isText 0 0 (As := [.int (iZ (lk F n p))]) (c_Mo_isText G h1 (lk F n p) (by omega)) d_Mo_takeCounted_80 mk_Mo_isText ml_Mo_143 ms_Mo_isText rfl rfl (Nat.le_of_ble_eq_true rfl) ⟨by decide, by decide⟩ ⟨by decide, by decide⟩ ?_
        rcases it with z80 | z80
        ·
          have zt := isT_0 z80 (by omega)
          refine ev_top (0) (z80) ?_
          refine ev_callV M_Mo_take (rm 0 0) _ (As := [.int (iZ 0)]) (c_Mo_take G h1 σ2 m (p) ((-1)) 0 hm f16 f17 (by omega) (by omega) (by decide)) d_Mo_takeCounted_83 mk_Mo_take ml_Mo_117 mv_Mo_take hm rfl rfl rfl (Nat.le_of_ble_eq_true rfl) ⟨by decide, by decide⟩ ⟨by decide, by decide⟩ (fun r h5 hq => ?_)
          obtain ⟨rfl, ⟨σ6, gm, g16, g17, gs⟩, fmc⟩ := hq
          rw [show tkP p ((-1)) 0 = p from if_neg (by decide)] at g16
          rw [show tkF p ((-1)) 0 = (p : Int) from if_pos ⟨by decide, rfl⟩] at g17
          have hbu := (fmc _ (ninc (cne hbu hm (by simp)) nin0)).trans hbu
          have he3 := (fmc _ (ninc (cne he3 hm (by simp)) nin0)).trans he3
          have he4 := (fmc _ (ninc (cne he4 hm (by simp)) nin0)).trans he4
          have f0 := (gs 0 (by decide)).trans f0
          have f1 := (gs 1 (by decide)).trans f1
          have f18 := (gs 18 (by decide)).trans f18
          have f21 := (gs 21 (by decide)).trans f21
          have f22 := (gs 22 (by decide)).trans f22
          have f16 := g16
          have f17 := g17
          have hm := gm
          have fm := fm.call (by simp) fmc
          have fs := fs.call (by simp) gs
          refine ev_aload_n d_Mo_takeCounted_86 rfl rfl ?_
          refine ev_getF d_Mo_takeCounted_87 fl_Mo_107 hm (by decide) f17 ?_
          refine ez_if_ge (tgt := 98) (by omega) d_Mo_takeCounted_90 rfl (fun c90 => ?_) (fun c90 => absurd c90 (by omega))
          refine ez_iinc (L' := [(0, .ref m), (1, .int (iZ z)), (2, .int (iZ ((i + 1 : Nat) : Int))), (3, .int (iZ (lk F n p)))]) d_Mo_takeCounted_98 rfl (by decide) rfl ?_
          refine ev_goto (tgt := 27) d_Mo_takeCounted_101 rfl ?_
          refine ev_iload_n d_Mo_takeCounted_27 rfl rfl ?_
          refine ev_iload_n d_Mo_takeCounted_28 rfl rfl ?_
          refine ez_icmp_ge (tgt := 104) (by omega) (by omega) d_Mo_takeCounted_29 rfl (fun c29 => ?_) (fun c29 => ?_)
          · have e9 : tx2 F n z (g + 1) (i : Int) p T br = (p, none) := by rw [tx2, if_neg (by omega), if_neg (fun w => zt w.1)]
            rw [e9]
            exact ev_return d_Mo_takeCounted_104 rfl (by decide) (by decide) (⟨rfl, ⟨σ6, hm, f16, f17, fs⟩, fun T' q => (by cases q), ⟨_, _, he3, he4⟩, fm⟩)
          · refine ev_aload_n d_Mo_takeCounted_32 rfl rfl ?_
            refine ev_getF d_Mo_takeCounted_33 fl_Mo_107 hm (by decide) f17 ?_
            refine ez_if_ge (tgt := 104) (by omega) d_Mo_takeCounted_36 rfl (fun c36 => ?_) (fun c36 => absurd c36 (by omega))
            have e9 : tx2 F n z (g + 1) (i : Int) p T br = (p, none) := by rw [tx2, if_neg (by omega), if_neg (fun w => zt w.1)]
            rw [e9]
            exact ev_return d_Mo_takeCounted_104 rfl (by decide) (by decide) (⟨rfl, ⟨σ6, hm, f16, f17, fs⟩, fun T' q => (by cases q), ⟨_, _, he3, he4⟩, fm⟩)
        ·
          have zt := isT_1 (b := lk F n p) (by omega)
          refine ev_top (1) (z80) ?_
          refine ev_callV M_Mo_take (rm 0 0) _ (As := [.int (iZ 1)]) (c_Mo_take G h1 σ2 m (p) ((-1)) 1 hm f16 f17 (by omega) (by omega) (by decide)) d_Mo_takeCounted_83 mk_Mo_take ml_Mo_117 mv_Mo_take hm rfl rfl rfl (Nat.le_of_ble_eq_true rfl) ⟨by decide, by decide⟩ ⟨by decide, by decide⟩ (fun r h7 hq => ?_)
          obtain ⟨rfl, ⟨σ8, gm, g16, g17, gs⟩, fmc⟩ := hq
          rw [show tkP p ((-1)) 1 = p + 1 from if_pos ⟨by decide, by decide⟩] at g16
          rw [show tkF p ((-1)) 1 = (-1) from if_neg (by decide)] at g17
          have hbu := (fmc _ (ninc (cne hbu hm (by simp)) nin0)).trans hbu
          have he3 := (fmc _ (ninc (cne he3 hm (by simp)) nin0)).trans he3
          have he4 := (fmc _ (ninc (cne he4 hm (by simp)) nin0)).trans he4
          have f0 := (gs 0 (by decide)).trans f0
          have f1 := (gs 1 (by decide)).trans f1
          have f18 := (gs 18 (by decide)).trans f18
          have f21 := (gs 21 (by decide)).trans f21
          have f22 := (gs 22 (by decide)).trans f22
          have f16 := g16
          have f17 := g17
          have hm := gm
          have fm := fm.call (by simp) fmc
          have fs := fs.call (by simp) gs
          refine ev_aload_n d_Mo_takeCounted_86 rfl rfl ?_
          refine ev_getF d_Mo_takeCounted_87 fl_Mo_107 hm (by decide) f17 ?_
          refine ez_if_ge (tgt := 98) (by decide) d_Mo_takeCounted_90 rfl (fun c90 => absurd c90 (by omega)) (fun c90 => ?_)
          refine ev_aload_n d_Mo_takeCounted_93 rfl rfl ?_
          refine ev_iload_n d_Mo_takeCounted_94 rfl rfl ?_
          refine ev_callV M_Mo_addByte (rm 0 0) _ (As := [.int (iZ (lk F n p))]) (c_Mo_addByte G h7 σ8 m e3 e4 c Z E (tR T br) (lk F n p) hm f18 f21 f22 he3 he4 hc (by first | omega | (simp only [List.length_append, List.length_cons, List.length_nil] at *; omega))) d_Mo_takeCounted_95 mk_Mo_addByte ml_Mo_147 mv_Mo_addByte hm rfl rfl rfl (Nat.le_of_ble_eq_true rfl) ⟨by decide, by decide⟩ ⟨by decide, by decide⟩ (fun r h9 hq => ?_)
          obtain ⟨rfl, ge3, ge4, fmc⟩ := hq
          have hm := (fmc _ (ninc (cne hm he3 (by simp)) (ninc (cne hm he4 (by simp)) nin0))).trans hm
          have hbu := (fmc _ (ninc (cne hbu he3 (by simp)) (ninc (cne hbu he4 (by simp)) nin0))).trans hbu
          have he3 := ge3
          have he4 := ge4
          have fm := fm.call (by simp) fmc
          refine ez_iinc (L' := [(0, .ref m), (1, .int (iZ z)), (2, .int (iZ ((i + 1 : Nat) : Int))), (3, .int (iZ (lk F n p)))]) d_Mo_takeCounted_98 rfl (by decide) rfl ?_
          refine ev_goto (tgt := 27) d_Mo_takeCounted_101 rfl ?_
          have lo : lok (lk F n p) T br := ⟨zt, by have := tR_l (T := T) (br := br); rcases br with _ | _ <;> simp [bz] at this ⊢ <;> omega⟩
          have e9 : tx2 F n z (g + 1) (i : Int) p T br = tx2 F n z g ((i + 1 : Nat) : Int) (p + 1) (lad T br (lk F n p)) false := by rw [tx2, if_neg (by omega), if_pos lo]; rfl
          rw [e9]
          have el : tR (lad T br (lk F n p)) false = tR T br ++ [lk F n p] := by rw [tR_f, ← tR_s]
          rw [← el] at he3 he4
          refine ev_loc [(0, .ref m), (1, .int (iZ z)), (2, .int (iZ ((i + 1 : Nat) : Int)))] (by simp) ?_
          exact ih g (by omega) (i + 1) (p + 1) (lad T br (lk F n p)) false h9 σ8 (by omega) (by omega) (by have := lad_l (T := T) (br := br) (b := lk F n p); rw [tR_f]; omega) (fun _ => by rw [lad_last]; omega) (fun w => by cases w) (by rw [tR_f]; exact (tok_lad lo rl.2 ⟨by omega, fun x hx => hby x (List.mem_append_left _ hx)⟩).1.2) hm f0 f1 f16 f17 f18 f21 f22 hbu he3 he4 fm fs
      · refine ev_iload_n d_Mo_takeCounted_51 rfl rfl ?_
        refine ez_if_le (tgt := 75) (by omega) d_Mo_takeCounted_52 rfl (fun c52 => ?_) (fun c52 => ?_)
        · have t0 : T.length = 0 := by omega
          refine ev_iconst (v := iZ 0) d_Mo_takeCounted_75 rfl ?_
          refine ev_goto (tgt := 83) d_Mo_takeCounted_76 rfl ?_
          refine ev_callV M_Mo_take (rm 0 0) _ (As := [.int (iZ 0)]) (c_Mo_take G h1 σ2 m (p) ((-1)) 0 hm f16 f17 (by omega) (by omega) (by decide)) d_Mo_takeCounted_83 mk_Mo_take ml_Mo_117 mv_Mo_take hm rfl rfl rfl (Nat.le_of_ble_eq_true rfl) ⟨by decide, by decide⟩ ⟨by decide, by decide⟩ (fun r h10 hq => ?_)
          obtain ⟨rfl, ⟨σ11, gm, g16, g17, gs⟩, fmc⟩ := hq
          rw [show tkP p ((-1)) 0 = p from if_neg (by decide)] at g16
          rw [show tkF p ((-1)) 0 = (p : Int) from if_pos ⟨by decide, rfl⟩] at g17
          have hbu := (fmc _ (ninc (cne hbu hm (by simp)) nin0)).trans hbu
          have he3 := (fmc _ (ninc (cne he3 hm (by simp)) nin0)).trans he3
          have he4 := (fmc _ (ninc (cne he4 hm (by simp)) nin0)).trans he4
          have f0 := (gs 0 (by decide)).trans f0
          have f1 := (gs 1 (by decide)).trans f1
          have f18 := (gs 18 (by decide)).trans f18
          have f21 := (gs 21 (by decide)).trans f21
          have f22 := (gs 22 (by decide)).trans f22
          have f16 := g16
          have f17 := g17
          have hm := gm
          have fm := fm.call (by simp) fmc
          have fs := fs.call (by simp) gs
          refine ev_aload_n d_Mo_takeCounted_86 rfl rfl ?_
          refine ev_getF d_Mo_takeCounted_87 fl_Mo_107 hm (by decide) f17 ?_
          refine ez_if_ge (tgt := 98) (by omega) d_Mo_takeCounted_90 rfl (fun c90 => ?_) (fun c90 => absurd c90 (by omega))
          refine ez_iinc (L' := [(0, .ref m), (1, .int (iZ z)), (2, .int (iZ ((i + 1 : Nat) : Int))), (3, .int (iZ (lk F n p)))]) d_Mo_takeCounted_98 rfl (by decide) rfl ?_
          refine ev_goto (tgt := 27) d_Mo_takeCounted_101 rfl ?_
          refine ev_iload_n d_Mo_takeCounted_27 rfl rfl ?_
          refine ev_iload_n d_Mo_takeCounted_28 rfl rfl ?_
          refine ez_icmp_ge (tgt := 104) (by omega) (by omega) d_Mo_takeCounted_29 rfl (fun c29 => ?_) (fun c29 => ?_)
          · have e9 : tx2 F n z (g + 1) (i : Int) p T br = (p, none) := by rw [tx2, if_pos (by omega), if_neg (by rintro ⟨w0, w1, w2, w3⟩; omega)]
            rw [e9]
            exact ev_return d_Mo_takeCounted_104 rfl (by decide) (by decide) (⟨rfl, ⟨σ11, hm, f16, f17, fs⟩, fun T' q => (by cases q), ⟨_, _, he3, he4⟩, fm⟩)
          · refine ev_aload_n d_Mo_takeCounted_32 rfl rfl ?_
            refine ev_getF d_Mo_takeCounted_33 fl_Mo_107 hm (by decide) f17 ?_
            refine ez_if_ge (tgt := 104) (by omega) d_Mo_takeCounted_36 rfl (fun c36 => ?_) (fun c36 => absurd c36 (by omega))
            have e9 : tx2 F n z (g + 1) (i : Int) p T br = (p, none) := by rw [tx2, if_pos (by omega), if_neg (by rintro ⟨w0, w1, w2, w3⟩; omega)]
            rw [e9]
            exact ev_return d_Mo_takeCounted_104 rfl (by decide) (by decide) (⟨rfl, ⟨σ11, hm, f16, f17, fs⟩, fun T' q => (by cases q), ⟨_, _, he3, he4⟩, fm⟩)
        · refine ev_iload_n d_Mo_takeCounted_55 rfl rfl ?_
          refine ev_iload_n d_Mo_takeCounted_56 rfl rfl ?_
          refine ev_iconst (v := iZ 1) d_Mo_takeCounted_57 rfl ?_
          refine ez_isub d_Mo_takeCounted_58 ?_
          refine ez_icmp_ge (tgt := 75) (by omega) (by omega) d_Mo_takeCounted_59 rfl (fun c59 => ?_) (fun c59 => ?_)
          · refine ev_iconst (v := iZ 0) d_Mo_takeCounted_75 rfl ?_
            refine ev_goto (tgt := 83) d_Mo_takeCounted_76 rfl ?_
            refine ev_callV M_Mo_take (rm 0 0) _ (As := [.int (iZ 0)]) (c_Mo_take G h1 σ2 m (p) ((-1)) 0 hm f16 f17 (by omega) (by omega) (by decide)) d_Mo_takeCounted_83 mk_Mo_take ml_Mo_117 mv_Mo_take hm rfl rfl rfl (Nat.le_of_ble_eq_true rfl) ⟨by decide, by decide⟩ ⟨by decide, by decide⟩ (fun r h12 hq => ?_)
            obtain ⟨rfl, ⟨σ13, gm, g16, g17, gs⟩, fmc⟩ := hq
            rw [show tkP p ((-1)) 0 = p from if_neg (by decide)] at g16
            rw [show tkF p ((-1)) 0 = (p : Int) from if_pos ⟨by decide, rfl⟩] at g17
            have hbu := (fmc _ (ninc (cne hbu hm (by simp)) nin0)).trans hbu
            have he3 := (fmc _ (ninc (cne he3 hm (by simp)) nin0)).trans he3
            have he4 := (fmc _ (ninc (cne he4 hm (by simp)) nin0)).trans he4
            have f0 := (gs 0 (by decide)).trans f0
            have f1 := (gs 1 (by decide)).trans f1
            have f18 := (gs 18 (by decide)).trans f18
            have f21 := (gs 21 (by decide)).trans f21
            have f22 := (gs 22 (by decide)).trans f22
            have f16 := g16
            have f17 := g17
            have hm := gm
            have fm := fm.call (by simp) fmc
            have fs := fs.call (by simp) gs
            refine ev_aload_n d_Mo_takeCounted_86 rfl rfl ?_
            refine ev_getF d_Mo_takeCounted_87 fl_Mo_107 hm (by decide) f17 ?_
            refine ez_if_ge (tgt := 98) (by omega) d_Mo_takeCounted_90 rfl (fun c90 => ?_) (fun c90 => absurd c90 (by omega))
            refine ez_iinc (L' := [(0, .ref m), (1, .int (iZ z)), (2, .int (iZ ((i + 1 : Nat) : Int))), (3, .int (iZ (lk F n p)))]) d_Mo_takeCounted_98 rfl (by decide) rfl ?_
            refine ev_goto (tgt := 27) d_Mo_takeCounted_101 rfl ?_
            refine ev_iload_n d_Mo_takeCounted_27 rfl rfl ?_
            refine ev_iload_n d_Mo_takeCounted_28 rfl rfl ?_
            refine ez_icmp_ge (tgt := 104) (by omega) (by omega) d_Mo_takeCounted_29 rfl (fun c29 => ?_) (fun c29 => ?_)
            · have e9 : tx2 F n z (g + 1) (i : Int) p T br = (p, none) := by rw [tx2, if_pos (by omega), if_neg (by rintro ⟨w0, w1, w2, w3⟩; omega)]
              rw [e9]
              exact ev_return d_Mo_takeCounted_104 rfl (by decide) (by decide) (⟨rfl, ⟨σ13, hm, f16, f17, fs⟩, fun T' q => (by cases q), ⟨_, _, he3, he4⟩, fm⟩)
            · refine ev_aload_n d_Mo_takeCounted_32 rfl rfl ?_
              refine ev_getF d_Mo_takeCounted_33 fl_Mo_107 hm (by decide) f17 ?_
              refine ez_if_ge (tgt := 104) (by omega) d_Mo_takeCounted_36 rfl (fun c36 => ?_) (fun c36 => absurd c36 (by omega))
              have e9 : tx2 F n z (g + 1) (i : Int) p T br = (p, none) := by rw [tx2, if_pos (by omega), if_neg (by rintro ⟨w0, w1, w2, w3⟩; omega)]
              rw [e9]
              exact ev_return d_Mo_takeCounted_104 rfl (by decide) (by decide) (⟨rfl, ⟨σ13, hm, f16, f17, fs⟩, fun T' q => (by cases q), ⟨_, _, he3, he4⟩, fm⟩)
          · refine ev_aload_n d_Mo_takeCounted_62 rfl rfl ?_
            refine ev_pV M_Mo_latest 0 0 (As := []) (c_Mo_latest G h1 σ2 m e3 e4 c Z E (tR T br) hm f18 f21 f22 he3 he4 hc (by omega)) d_Mo_takeCounted_63 mk_Mo_latest ml_Mo_150 mv_Mo_latest hm rfl rfl rfl (Nat.le_of_ble_eq_true rfl) ⟨by decide, by decide⟩ ⟨by decide, by decide⟩ ?_
            have hla := lastZ_r (T := tR T br) hby
            refine ev_bipush (v := iZ 10) d_Mo_takeCounted_66 rfl ?_
            refine ez_icmp_eq (tgt := 75) (by omega) (by decide) d_Mo_takeCounted_68 rfl (fun c68 => ?_) (fun c68 => ?_)
            · have bt := tR_t hlast (by omega) c68
              refine ev_iconst (v := iZ 0) d_Mo_takeCounted_75 rfl ?_
              refine ev_goto (tgt := 83) d_Mo_takeCounted_76 rfl ?_
              refine ev_callV M_Mo_take (rm 0 0) _ (As := [.int (iZ 0)]) (c_Mo_take G h1 σ2 m (p) ((-1)) 0 hm f16 f17 (by omega) (by omega) (by decide)) d_Mo_takeCounted_83 mk_Mo_take ml_Mo_117 mv_Mo_take hm rfl rfl rfl (Nat.le_of_ble_eq_true rfl) ⟨by decide, by decide⟩ ⟨by decide, by decide⟩ (fun r h14 hq => ?_)
              obtain ⟨rfl, ⟨σ15, gm, g16, g17, gs⟩, fmc⟩ := hq
              rw [show tkP p ((-1)) 0 = p from if_neg (by decide)] at g16
              rw [show tkF p ((-1)) 0 = (p : Int) from if_pos ⟨by decide, rfl⟩] at g17
              have hbu := (fmc _ (ninc (cne hbu hm (by simp)) nin0)).trans hbu
              have he3 := (fmc _ (ninc (cne he3 hm (by simp)) nin0)).trans he3
              have he4 := (fmc _ (ninc (cne he4 hm (by simp)) nin0)).trans he4
              have f0 := (gs 0 (by decide)).trans f0
              have f1 := (gs 1 (by decide)).trans f1
              have f18 := (gs 18 (by decide)).trans f18
              have f21 := (gs 21 (by decide)).trans f21
              have f22 := (gs 22 (by decide)).trans f22
              have f16 := g16
              have f17 := g17
              have hm := gm
              have fm := fm.call (by simp) fmc
              have fs := fs.call (by simp) gs
              refine ev_aload_n d_Mo_takeCounted_86 rfl rfl ?_
              refine ev_getF d_Mo_takeCounted_87 fl_Mo_107 hm (by decide) f17 ?_
              refine ez_if_ge (tgt := 98) (by omega) d_Mo_takeCounted_90 rfl (fun c90 => ?_) (fun c90 => absurd c90 (by omega))
              refine ez_iinc (L' := [(0, .ref m), (1, .int (iZ z)), (2, .int (iZ ((i + 1 : Nat) : Int))), (3, .int (iZ (lk F n p)))]) d_Mo_takeCounted_98 rfl (by decide) rfl ?_
              refine ev_goto (tgt := 27) d_Mo_takeCounted_101 rfl ?_
              refine ev_iload_n d_Mo_takeCounted_27 rfl rfl ?_
              refine ev_iload_n d_Mo_takeCounted_28 rfl rfl ?_
              refine ez_icmp_ge (tgt := 104) (by omega) (by omega) d_Mo_takeCounted_29 rfl (fun c29 => ?_) (fun c29 => ?_)
              · have e9 : tx2 F n z (g + 1) (i : Int) p T br = (p, none) := by rw [tx2, if_pos (by omega), if_neg (by rintro ⟨w0, w1, w2, w3⟩; rw [bt] at w2; cases w2)]
                rw [e9]
                exact ev_return d_Mo_takeCounted_104 rfl (by decide) (by decide) (⟨rfl, ⟨σ15, hm, f16, f17, fs⟩, fun T' q => (by cases q), ⟨_, _, he3, he4⟩, fm⟩)
              · refine ev_aload_n d_Mo_takeCounted_32 rfl rfl ?_
                refine ev_getF d_Mo_takeCounted_33 fl_Mo_107 hm (by decide) f17 ?_
                refine ez_if_ge (tgt := 104) (by omega) d_Mo_takeCounted_36 rfl (fun c36 => ?_) (fun c36 => absurd c36 (by omega))
                have e9 : tx2 F n z (g + 1) (i : Int) p T br = (p, none) := by rw [tx2, if_pos (by omega), if_neg (by rintro ⟨w0, w1, w2, w3⟩; rw [bt] at w2; cases w2)]
                rw [e9]
                exact ev_return d_Mo_takeCounted_104 rfl (by decide) (by decide) (⟨rfl, ⟨σ15, hm, f16, f17, fs⟩, fun T' q => (by cases q), ⟨_, _, he3, he4⟩, fm⟩)
            · have bf := tR_n c68
              have tr0 : (tR T br).length = T.length := by rw [bf, tR_f]
              refine ev_iconst (v := iZ 1) d_Mo_takeCounted_71 rfl ?_
              refine ev_goto (tgt := 83) d_Mo_takeCounted_72 rfl ?_
              refine ev_callV M_Mo_take (rm 0 0) _ (As := [.int (iZ 1)]) (c_Mo_take G h1 σ2 m (p) ((-1)) 1 hm f16 f17 (by omega) (by omega) (by decide)) d_Mo_takeCounted_83 mk_Mo_take ml_Mo_117 mv_Mo_take hm rfl rfl rfl (Nat.le_of_ble_eq_true rfl) ⟨by decide, by decide⟩ ⟨by decide, by decide⟩ (fun r h16 hq => ?_)
              obtain ⟨rfl, ⟨σ17, gm, g16, g17, gs⟩, fmc⟩ := hq
              rw [show tkP p ((-1)) 1 = p + 1 from if_pos ⟨by decide, by decide⟩] at g16
              rw [show tkF p ((-1)) 1 = (-1) from if_neg (by decide)] at g17
              have hbu := (fmc _ (ninc (cne hbu hm (by simp)) nin0)).trans hbu
              have he3 := (fmc _ (ninc (cne he3 hm (by simp)) nin0)).trans he3
              have he4 := (fmc _ (ninc (cne he4 hm (by simp)) nin0)).trans he4
              have f0 := (gs 0 (by decide)).trans f0
              have f1 := (gs 1 (by decide)).trans f1
              have f18 := (gs 18 (by decide)).trans f18
              have f21 := (gs 21 (by decide)).trans f21
              have f22 := (gs 22 (by decide)).trans f22
              have f16 := g16
              have f17 := g17
              have hm := gm
              have fm := fm.call (by simp) fmc
              have fs := fs.call (by simp) gs
              refine ev_aload_n d_Mo_takeCounted_86 rfl rfl ?_
              refine ev_getF d_Mo_takeCounted_87 fl_Mo_107 hm (by decide) f17 ?_
              refine ez_if_ge (tgt := 98) (by decide) d_Mo_takeCounted_90 rfl (fun c90 => absurd c90 (by omega)) (fun c90 => ?_)
              refine ev_aload_n d_Mo_takeCounted_93 rfl rfl ?_
              refine ev_iload_n d_Mo_takeCounted_94 rfl rfl ?_
              refine ev_callV M_Mo_addByte (rm 0 0) _ (As := [.int (iZ (lk F n p))]) (c_Mo_addByte G h16 σ17 m e3 e4 c Z E (tR T br) (lk F n p) hm f18 f21 f22 he3 he4 hc (by first | omega | (simp only [List.length_append, List.length_cons, List.length_nil] at *; omega))) d_Mo_takeCounted_95 mk_Mo_addByte ml_Mo_147 mv_Mo_addByte hm rfl rfl rfl (Nat.le_of_ble_eq_true rfl) ⟨by decide, by decide⟩ ⟨by decide, by decide⟩ (fun r h18 hq => ?_)
              obtain ⟨rfl, ge3, ge4, fmc⟩ := hq
              have hm := (fmc _ (ninc (cne hm he3 (by simp)) (ninc (cne hm he4 (by simp)) nin0))).trans hm
              have hbu := (fmc _ (ninc (cne hbu he3 (by simp)) (ninc (cne hbu he4 (by simp)) nin0))).trans hbu
              have he3 := ge3
              have he4 := ge4
              have fm := fm.call (by simp) fmc
              refine ez_iinc (L' := [(0, .ref m), (1, .int (iZ z)), (2, .int (iZ ((i + 1 : Nat) : Int))), (3, .int (iZ (lk F n p)))]) d_Mo_takeCounted_98 rfl (by decide) rfl ?_
              refine ev_goto (tgt := 27) d_Mo_takeCounted_101 rfl ?_
              have lo : ibk T br := ⟨by omega, bf, by omega⟩
              have e9 : tx2 F n z (g + 1) (i : Int) p T br = tx2 F n z g ((i + 1 : Nat) : Int) (p + 1) (T) true := by rw [tx2, if_pos (by omega), if_pos ⟨by omega, lo⟩]; rfl
              rw [e9]
              have el : tR T true = tR T br ++ [lk F n p] := by rw [bf, tR_f, show lk F n p = 10 from by omega]; rfl
              rw [← el] at he3 he4
              refine ev_loc [(0, .ref m), (1, .int (iZ z)), (2, .int (iZ ((i + 1 : Nat) : Int)))] (by simp) ?_
              exact ih g (by omega) (i + 1) (p + 1) (T) true h18 σ17 (by omega) (by omega) (by have := tR_l (T := T) (br := true); simp [bz] at this; omega) hlast (fun _ => by omega) (by intro x hx; rcases List.mem_append.mp hx with w | w; exact hby x (List.mem_append_left _ w); simp at w; omega) hm f0 f1 f16 f17 f18 f21 f22 hbu he3 he4 fm fs
set_option maxHeartbeats 4000000 in
set_option maxRecDepth 100000 in
theorem c_Mo_takeCounted (G : GT) (h : HM) (σ : Nat → Value) (m bu e3 e4 n p c : Nat) (F Z E : Nat → Int) (hm : h m = some (.inr (11, fsN 34 σ))) (f0 : σ 0 = .int (iZ (n : Int))) (f1 : σ 1 = .ref bu) (f16 : σ 16 = .int (iZ (p : Int))) (f17 : σ 17 = .int (iZ (-1))) (f18 : σ 18 = .int (iZ (c : Int))) (f21 : σ 21 = .ref e3) (f22 : σ 22 = .ref e4) (hbu : h bu = some (.inl (G_i G, 1000, .inl (iA F)))) (he3 : h e3 = some (.inl (G_i G, 16, .inl (iA (zup Z c 0))))) (he4 : h e4 = some (.inl (G_i G, 1024, .inl (iA E)))) (hn : n ≤ 1000) (hp : p ≤ n) (hF : ∀ k, 0 ≤ F k ∧ F k ≤ 255) (hc : c < 16) : Rn G M_Mo_takeCounted (rm 1 40) [.ref m] h (fun r h' => r = none ∧ (∃ σ', h' m = some (.inr (11, fsN 34 σ')) ∧ σ' 16 = .int (iZ (((tx2s F n p).1 : Nat) : Int)) ∧ σ' 17 = .int (iZ (ftO (tx2s F n p))) ∧ Fs [16, 17] σ σ') ∧ (∀ T', (tx2s F n p).2 = some T' → h' e3 = some (.inl (G_i G, 16, .inl (iA (zup Z c (T'.length : Int))))) ∧ h' e4 = some (.inl (G_i G, 1024, .inl (iA (tW E (64 * c) T'))))) ∧ (∃ Z' E' : Nat → Int, h' e3 = some (.inl (G_i G, 16, .inl (iA Z'))) ∧ h' e4 = some (.inl (G_i G, 1024, .inl (iA E')))) ∧ Fm [m, e3, e4] h h') := by
  refine rn_of (by decide) (Nat.le_of_ble_eq_true rfl) ?_
  show Ev G M_Mo_takeCounted _ _ 0 [(0, .ref m)] [] _ 0 0
  have fm : Fm [m, e3, e4] h h := Fm.rf
  have fs : Fs [16, 17] σ σ := Fs.rf
  refine ev_aload_n d_Mo_takeCounted_0 rfl rfl ?_
  refine ev_callV M_Mo_here (rm 0 0) _ (As := []) (c_Mo_here G h σ m bu n p F (-1) hm f0 f1 f16 f17 hbu hn hp hF (by omega)) d_Mo_takeCounted_1 mk_Mo_here ml_Mo_113 mv_Mo_here hm rfl rfl rfl (Nat.le_of_ble_eq_true rfl) ⟨by decide, by decide⟩ ⟨by decide, by decide⟩ (fun r h1 hq => ?_)
  obtain ⟨rfl, ⟨σ2, gm, g17, gs⟩, fmc⟩ := hq
  have hbu := (fmc _ (ninc (cne hbu hm (by simp)) nin0)).trans hbu
  have he3 := (fmc _ (ninc (cne he3 hm (by simp)) nin0)).trans he3
  have he4 := (fmc _ (ninc (cne he4 hm (by simp)) nin0)).trans he4
  have f0 := (gs 0 (by decide)).trans f0
  have f1 := (gs 1 (by decide)).trans f1
  have f16 := (gs 16 (by decide)).trans f16
  have f18 := (gs 18 (by decide)).trans f18
  have f21 := (gs 21 (by decide)).trans f21
  have f22 := (gs 22 (by decide)).trans f22
  have f17 := g17
  have hm := gm
  have fm := fm.call (by simp) fmc
  have fs := fs.call (by simp) gs
  by_cases hpn : p = n
  ·
    have hlk : lk F n p = -1 := lk_out (by omega)
    rw [show hf n p (-1) = (p : Int) from (if_pos ⟨by decide, hpn⟩).trans (by rw [hpn])] at f17
    refine ev_top ((-1)) ((if_pos (by decide)).trans hlk) ?_
    refine ev_istore_n (L' := [(0, .ref m), (1, .int (iZ (-1)))]) d_Mo_takeCounted_4 rfl (by decide) rfl ?_
    refine ev_aload_n d_Mo_takeCounted_5 rfl rfl ?_
    refine ev_iload_n d_Mo_takeCounted_6 rfl rfl ?_
    refine ev_iconst (v := iZ 1) d_Mo_takeCounted_7 rfl ?_
    refine ez_icmp_lt (tgt := 21) (by decide) (by decide) d_Mo_takeCounted_8 rfl (fun c8 => ?_) (fun c8 => absurd c8 (by omega))
    refine ev_iconst (v := iZ 0) d_Mo_takeCounted_21 rfl ?_
    refine ev_callV M_Mo_take (rm 0 0) _ (As := [.int (iZ 0)]) (c_Mo_take G h1 σ2 m (p) ((p : Int)) 0 hm f16 f17 (by omega) (by omega) (by decide)) d_Mo_takeCounted_22 mk_Mo_take ml_Mo_117 mv_Mo_take hm rfl rfl rfl (Nat.le_of_ble_eq_true rfl) ⟨by decide, by decide⟩ ⟨by decide, by decide⟩ (fun r h3 hq => ?_)
    obtain ⟨rfl, ⟨σ4, gm, g16, g17, gs⟩, fmc⟩ := hq
    rw [show tkP p ((p : Int)) 0 = p from if_neg (by omega)] at g16
    rw [show tkF p ((p : Int)) 0 = (p : Int) from if_neg (by omega)] at g17
    have hbu := (fmc _ (ninc (cne hbu hm (by simp)) nin0)).trans hbu
    have he3 := (fmc _ (ninc (cne he3 hm (by simp)) nin0)).trans he3
    have he4 := (fmc _ (ninc (cne he4 hm (by simp)) nin0)).trans he4
    have f0 := (gs 0 (by decide)).trans f0
    have f1 := (gs 1 (by decide)).trans f1
    have f18 := (gs 18 (by decide)).trans f18
    have f21 := (gs 21 (by decide)).trans f21
    have f22 := (gs 22 (by decide)).trans f22
    have f16 := g16
    have f17 := g17
    have hm := gm
    have fm := fm.call (by simp) fmc
    have fs := fs.call (by simp) gs
    refine ev_iconst (v := iZ 0) d_Mo_takeCounted_25 rfl ?_
    refine ev_istore_n (L' := [(0, .ref m), (1, .int (iZ (-1))), (2, .int (iZ 0))]) d_Mo_takeCounted_26 rfl (by decide) rfl ?_
    refine ev_iload_n d_Mo_takeCounted_27 rfl rfl ?_
    refine ev_iload_n d_Mo_takeCounted_28 rfl rfl ?_
    refine ez_icmp_ge (tgt := 104) (by decide) (by decide) d_Mo_takeCounted_29 rfl (fun c29 => ?_) (fun c29 => absurd c29 (by omega))
    have e9 : tx2s F n p = (p, none) := by rw [tx2s, if_neg (by omega)]
    rw [e9]
    exact ev_return d_Mo_takeCounted_104 rfl (by decide) (by decide) (⟨rfl, ⟨σ4, hm, f16, f17, fs⟩, fun T' q => (by cases q), ⟨_, _, he3, he4⟩, fm⟩)
  ·
    rw [hf_p (show p < n by omega)] at f17
    have rl := lk_r (n := n) hF p
    have rl0 : 0 ≤ lk F n p := by rw [lk_in (by omega)]; exact (hF p).1
    refine ev_top (lk F n p) (if_pos (by decide)) ?_
    refine ev_istore_n (L' := [(0, .ref m), (1, .int (iZ (lk F n p)))]) d_Mo_takeCounted_4 rfl (by decide) rfl ?_
    refine ev_aload_n d_Mo_takeCounted_5 rfl rfl ?_
    refine ev_iload_n d_Mo_takeCounted_6 rfl rfl ?_
    refine ev_iconst (v := iZ 1) d_Mo_takeCounted_7 rfl ?_
    refine ez_icmp_lt (tgt := 21) (by omega) (by decide) d_Mo_takeCounted_8 rfl (fun c8 => ?_) (fun c8 => ?_)
    · refine ev_iconst (v := iZ 0) d_Mo_takeCounted_21 rfl ?_
      refine ev_callV M_Mo_take (rm 0 0) _ (As := [.int (iZ 0)]) (c_Mo_take G h1 σ2 m (p) ((-1)) 0 hm f16 f17 (by omega) (by omega) (by decide)) d_Mo_takeCounted_22 mk_Mo_take ml_Mo_117 mv_Mo_take hm rfl rfl rfl (Nat.le_of_ble_eq_true rfl) ⟨by decide, by decide⟩ ⟨by decide, by decide⟩ (fun r h5 hq => ?_)
      obtain ⟨rfl, ⟨σ6, gm, g16, g17, gs⟩, fmc⟩ := hq
      rw [show tkP p ((-1)) 0 = p from if_neg (by decide)] at g16
      rw [show tkF p ((-1)) 0 = (p : Int) from if_pos ⟨by decide, rfl⟩] at g17
      have hbu := (fmc _ (ninc (cne hbu hm (by simp)) nin0)).trans hbu
      have he3 := (fmc _ (ninc (cne he3 hm (by simp)) nin0)).trans he3
      have he4 := (fmc _ (ninc (cne he4 hm (by simp)) nin0)).trans he4
      have f0 := (gs 0 (by decide)).trans f0
      have f1 := (gs 1 (by decide)).trans f1
      have f18 := (gs 18 (by decide)).trans f18
      have f21 := (gs 21 (by decide)).trans f21
      have f22 := (gs 22 (by decide)).trans f22
      have f16 := g16
      have f17 := g17
      have hm := gm
      have fm := fm.call (by simp) fmc
      have fs := fs.call (by simp) gs
      refine ev_iconst (v := iZ 0) d_Mo_takeCounted_25 rfl ?_
      refine ev_istore_n (L' := [(0, .ref m), (1, .int (iZ (lk F n p))), (2, .int (iZ 0))]) d_Mo_takeCounted_26 rfl (by decide) rfl ?_
      refine ev_iload_n d_Mo_takeCounted_27 rfl rfl ?_
      refine ev_iload_n d_Mo_takeCounted_28 rfl rfl ?_
      refine ez_icmp_ge (tgt := 104) (by decide) (by omega) d_Mo_takeCounted_29 rfl (fun c29 => ?_) (fun c29 => absurd c29 (by omega))
      have e9 : tx2s F n p = (p, none) := by rw [tx2s, if_neg (by omega)]
      rw [e9]
      exact ev_return d_Mo_takeCounted_104 rfl (by decide) (by decide) (⟨rfl, ⟨σ6, hm, f16, f17, fs⟩, fun T' q => (by cases q), ⟨_, _, he3, he4⟩, fm⟩)
    · refine ev_iload_n d_Mo_takeCounted_11 rfl rfl ?_
      refine ev_bipush (v := iZ 64) d_Mo_takeCounted_12 rfl ?_
      refine ez_icmp_gt (tgt := 21) (by omega) (by decide) d_Mo_takeCounted_14 rfl (fun c14 => ?_) (fun c14 => ?_)
      · refine ev_iconst (v := iZ 0) d_Mo_takeCounted_21 rfl ?_
        refine ev_callV M_Mo_take (rm 0 0) _ (As := [.int (iZ 0)]) (c_Mo_take G h1 σ2 m (p) ((-1)) 0 hm f16 f17 (by omega) (by omega) (by decide)) d_Mo_takeCounted_22 mk_Mo_take ml_Mo_117 mv_Mo_take hm rfl rfl rfl (Nat.le_of_ble_eq_true rfl) ⟨by decide, by decide⟩ ⟨by decide, by decide⟩ (fun r h7 hq => ?_)
        obtain ⟨rfl, ⟨σ8, gm, g16, g17, gs⟩, fmc⟩ := hq
        rw [show tkP p ((-1)) 0 = p from if_neg (by decide)] at g16
        rw [show tkF p ((-1)) 0 = (p : Int) from if_pos ⟨by decide, rfl⟩] at g17
        have hbu := (fmc _ (ninc (cne hbu hm (by simp)) nin0)).trans hbu
        have he3 := (fmc _ (ninc (cne he3 hm (by simp)) nin0)).trans he3
        have he4 := (fmc _ (ninc (cne he4 hm (by simp)) nin0)).trans he4
        have f0 := (gs 0 (by decide)).trans f0
        have f1 := (gs 1 (by decide)).trans f1
        have f18 := (gs 18 (by decide)).trans f18
        have f21 := (gs 21 (by decide)).trans f21
        have f22 := (gs 22 (by decide)).trans f22
        have f16 := g16
        have f17 := g17
        have hm := gm
        have fm := fm.call (by simp) fmc
        have fs := fs.call (by simp) gs
        refine ev_iconst (v := iZ 0) d_Mo_takeCounted_25 rfl ?_
        refine ev_istore_n (L' := [(0, .ref m), (1, .int (iZ (lk F n p))), (2, .int (iZ 0))]) d_Mo_takeCounted_26 rfl (by decide) rfl ?_
        refine ev_iload_n d_Mo_takeCounted_27 rfl rfl ?_
        refine ev_iload_n d_Mo_takeCounted_28 rfl rfl ?_
        refine ez_icmp_ge (tgt := 104) (by decide) (by omega) d_Mo_takeCounted_29 rfl (fun c29 => absurd c29 (by omega)) (fun c29 => ?_)
        refine ev_aload_n d_Mo_takeCounted_32 rfl rfl ?_
        refine ev_getF d_Mo_takeCounted_33 fl_Mo_107 hm (by decide) f17 ?_
        refine ez_if_ge (tgt := 104) (by omega) d_Mo_takeCounted_36 rfl (fun c36 => ?_) (fun c36 => absurd c36 (by omega))
        have e9 : tx2s F n p = (p, none) := by rw [tx2s, if_neg (by omega)]
        rw [e9]
        exact ev_return d_Mo_takeCounted_104 rfl (by decide) (by decide) (⟨rfl, ⟨σ8, hm, f16, f17, fs⟩, fun T' q => (by cases q), ⟨_, _, he3, he4⟩, fm⟩)
      · refine ev_iconst (v := iZ 1) d_Mo_takeCounted_17 rfl ?_
        refine ev_goto (tgt := 22) d_Mo_takeCounted_18 rfl ?_
        refine ev_callV M_Mo_take (rm 0 0) _ (As := [.int (iZ 1)]) (c_Mo_take G h1 σ2 m (p) ((-1)) 1 hm f16 f17 (by omega) (by omega) (by decide)) d_Mo_takeCounted_22 mk_Mo_take ml_Mo_117 mv_Mo_take hm rfl rfl rfl (Nat.le_of_ble_eq_true rfl) ⟨by decide, by decide⟩ ⟨by decide, by decide⟩ (fun r h9 hq => ?_)
        obtain ⟨rfl, ⟨σ10, gm, g16, g17, gs⟩, fmc⟩ := hq
        rw [show tkP p ((-1)) 1 = p + 1 from if_pos ⟨by decide, by decide⟩] at g16
        rw [show tkF p ((-1)) 1 = (-1) from if_neg (by decide)] at g17
        have hbu := (fmc _ (ninc (cne hbu hm (by simp)) nin0)).trans hbu
        have he3 := (fmc _ (ninc (cne he3 hm (by simp)) nin0)).trans he3
        have he4 := (fmc _ (ninc (cne he4 hm (by simp)) nin0)).trans he4
        have f0 := (gs 0 (by decide)).trans f0
        have f1 := (gs 1 (by decide)).trans f1
        have f18 := (gs 18 (by decide)).trans f18
        have f21 := (gs 21 (by decide)).trans f21
        have f22 := (gs 22 (by decide)).trans f22
        have f16 := g16
        have f17 := g17
        have hm := gm
        have fm := fm.call (by simp) fmc
        have fs := fs.call (by simp) gs
        refine ev_iconst (v := iZ 0) d_Mo_takeCounted_25 rfl ?_
        refine ev_istore_n (L' := [(0, .ref m), (1, .int (iZ (lk F n p))), (2, .int (iZ 0))]) d_Mo_takeCounted_26 rfl (by decide) rfl ?_
        have e9 : tx2s F n p = tx2 F n (lk F n p) (lk F n p).toNat ((0 : Nat) : Int) (p + 1) [] false := by rw [tx2s, if_pos (by omega)]; rfl
        rw [e9]
        refine ev_mono ?_ (lp_Mo_counted G h9 σ10 m bu e3 e4 n c F Z E hn hF hc (lk F n p) (by omega) (lk F n p).toNat 0 (p + 1) [] false h9 σ10 (by omega) (by omega) (by decide) (fun w => absurd rfl w) (fun w => by cases w) (fun x hx => absurd hx List.not_mem_nil) hm f0 f1 f16 f17 f18 f21 f22 hbu he3 (by rw [tR_f, tW_nil]; exact he4) Fm.rf Fs.rf)
        rintro r h' ⟨q1, ⟨σ', q2, q3, q4, q5⟩, q6, q7, q8⟩
        exact ⟨q1, ⟨σ', q2, q3, q4, fs.call (fun _ w => w) q5⟩, q6, q7, fm.call (fun _ w => w) q8⟩
set_option maxHeartbeats 4000000 in
set_option maxRecDepth 100000 in
theorem c_Mo_takeCountedB (G : GT) (h : HM) (σ : Nat → Value) (m bu n p : Nat) (F : Nat → Int) (ft : Int) (hm : h m = some (.inr (11, fsN 34 σ))) (f0 : σ 0 = .int (iZ (n : Int))) (f1 : σ 1 = .ref bu) (f16 : σ 16 = .int (iZ (p : Int))) (f17 : σ 17 = .int (iZ ft)) (hbu : h bu = some (.inl (G_i G, 1000, .inl (iA F)))) (hn : n ≤ 1000) (hp : p ≤ n) (hF : ∀ k, 0 ≤ F k ∧ F k ≤ 255) (hft : -1 ≤ ft ∧ ft ≤ n) (hf0 : 0 ≤ ft) : Rn G M_Mo_takeCounted (rm 1 40) [.ref m] h (fun r h' => r = none ∧ (∃ σ', h' m = some (.inr (11, fsN 34 σ')) ∧ σ' 16 = .int (iZ (p : Int)) ∧ σ' 17 = .int (iZ ft) ∧ Fs [16, 17] σ σ') ∧ Fm [m] h h') := by
  refine rn_of (by decide) (Nat.le_of_ble_eq_true rfl) ?_
  show Ev G M_Mo_takeCounted _ _ 0 [(0, .ref m)] [] _ 0 0
  have fm : Fm [m] h h := Fm.rf
  have fs : Fs [16, 17] σ σ := Fs.rf
  refine ev_aload_n d_Mo_takeCounted_0 rfl rfl ?_
  refine ev_callV M_Mo_here (rm 0 0) _ (As := []) (c_Mo_here G h σ m bu n p F ft hm f0 f1 f16 f17 hbu hn hp hF (by omega)) d_Mo_takeCounted_1 mk_Mo_here ml_Mo_113 mv_Mo_here hm rfl rfl rfl (Nat.le_of_ble_eq_true rfl) ⟨by decide, by decide⟩ ⟨by decide, by decide⟩ (fun r h2 hq => ?_)
  obtain ⟨rfl, ⟨σ2, gm, g17, gs⟩, fmc⟩ := hq
  rw [show hf n p ft = ft from if_neg (by omega)] at g17
  have hbu := (fmc _ (ninc (cne hbu hm (by simp)) nin0)).trans hbu
  have f0 := (gs 0 (by decide)).trans f0
  have f1 := (gs 1 (by decide)).trans f1
  have f16 := (gs 16 (by decide)).trans f16
  have f17 := g17
  have hm := gm
  have fm := fm.call (by simp) fmc
  have fs := fs.call (by simp) gs
  refine ev_top ((-1)) (if_neg (by omega)) ?_
  refine ev_istore_n (L' := [(0, .ref m), (1, .int (iZ (-1)))]) d_Mo_takeCounted_4 rfl (by decide) rfl ?_
  refine ev_aload_n d_Mo_takeCounted_5 rfl rfl ?_
  refine ev_iload_n d_Mo_takeCounted_6 rfl rfl ?_
  refine ev_iconst (v := iZ 1) d_Mo_takeCounted_7 rfl ?_
  refine ez_icmp_lt (tgt := 21) (by decide) (by decide) d_Mo_takeCounted_8 rfl (fun c8 => ?_) (fun c8 => absurd c8 (by omega))
  refine ev_iconst (v := iZ 0) d_Mo_takeCounted_21 rfl ?_
  refine ev_callV M_Mo_take (rm 0 0) _ (As := [.int (iZ 0)]) (c_Mo_take G h2 σ2 m p ft 0 hm f16 f17 (by omega) (by omega) (by decide)) d_Mo_takeCounted_22 mk_Mo_take ml_Mo_117 mv_Mo_take hm rfl rfl rfl (Nat.le_of_ble_eq_true rfl) ⟨by decide, by decide⟩ ⟨by decide, by decide⟩ (fun r h3 hq => ?_)
  obtain ⟨rfl, ⟨σ3, gm, g16, g17, gs⟩, fmc⟩ := hq
  rw [show tkP p ft 0 = p from if_neg (by omega)] at g16
  rw [show tkF p ft 0 = ft from if_neg (by omega)] at g17
  have hbu := (fmc _ (ninc (cne hbu hm (by simp)) nin0)).trans hbu
  have f0 := (gs 0 (by decide)).trans f0
  have f1 := (gs 1 (by decide)).trans f1
  have f16 := g16
  have f17 := g17
  have hm := gm
  have fm := fm.call (by simp) fmc
  have fs := fs.call (by simp) gs
  refine ev_iconst (v := iZ 0) d_Mo_takeCounted_25 rfl ?_
  refine ev_istore_n (L' := [(0, .ref m), (1, .int (iZ (-1))), (2, .int (iZ 0))]) d_Mo_takeCounted_26 rfl (by decide) rfl ?_
  refine ev_iload_n d_Mo_takeCounted_27 rfl rfl ?_
  refine ev_iload_n d_Mo_takeCounted_28 rfl rfl ?_
  refine ez_icmp_ge (tgt := 104) (by decide) (by decide) d_Mo_takeCounted_29 rfl (fun c29 => ?_) (fun c29 => absurd c29 (by omega))
  exact ev_return d_Mo_takeCounted_104 rfl (by decide) (by decide) (⟨rfl, ⟨σ3, hm, f16, f17, fs⟩, fm⟩)
