theorem d_Rp_leastSum_0 : decode M_Rp_leastSum.2.1 0 = .ok (.aload_n 0, 1) := by decide +kernel
theorem d_Rp_leastSum_1 : decode M_Rp_leastSum.2.1 1 = .ok (.getfield 33, 3) := by decide +kernel
theorem d_Rp_leastSum_4 : decode M_Rp_leastSum.2.1 4 = .ok (.getfield 45, 3) := by decide +kernel
theorem d_Rp_leastSum_7 : decode M_Rp_leastSum.2.1 7 = .ok (.iconst 1, 1) := by decide +kernel
theorem d_Rp_leastSum_8 : decode M_Rp_leastSum.2.1 8 = .ok (.isub, 1) := by decide +kernel
theorem d_Rp_leastSum_9 : decode M_Rp_leastSum.2.1 9 = .ok (.istore_n 1, 1) := by decide +kernel
theorem d_Rp_leastSum_10 : decode M_Rp_leastSum.2.1 10 = .ok (.iload_n 1, 1) := by decide +kernel
theorem d_Rp_leastSum_11 : decode M_Rp_leastSum.2.1 11 = .ok (.ifCond .lt 104, 3) := by decide +kernel
theorem d_Rp_leastSum_14 : decode M_Rp_leastSum.2.1 14 = .ok (.aload_n 0, 1) := by decide +kernel
theorem d_Rp_leastSum_15 : decode M_Rp_leastSum.2.1 15 = .ok (.getfield 9, 3) := by decide +kernel
theorem d_Rp_leastSum_18 : decode M_Rp_leastSum.2.1 18 = .ok (.iload_n 1, 1) := by decide +kernel
theorem d_Rp_leastSum_19 : decode M_Rp_leastSum.2.1 19 = .ok (.aload_n 0, 1) := by decide +kernel
theorem d_Rp_leastSum_20 : decode M_Rp_leastSum.2.1 20 = .ok (.getfield 37, 3) := by decide +kernel
theorem d_Rp_leastSum_23 : decode M_Rp_leastSum.2.1 23 = .ok (.aload_n 0, 1) := by decide +kernel
theorem d_Rp_leastSum_24 : decode M_Rp_leastSum.2.1 24 = .ok (.getfield 33, 3) := by decide +kernel
theorem d_Rp_leastSum_27 : decode M_Rp_leastSum.2.1 27 = .ok (.getfield 51, 3) := by decide +kernel
theorem d_Rp_leastSum_30 : decode M_Rp_leastSum.2.1 30 = .ok (.iload_n 1, 1) := by decide +kernel
theorem d_Rp_leastSum_31 : decode M_Rp_leastSum.2.1 31 = .ok (.laload, 1) := by decide +kernel
theorem d_Rp_leastSum_32 : decode M_Rp_leastSum.2.1 32 = .ok (.invokevirtual 55, 3) := by decide +kernel
theorem d_Rp_leastSum_35 : decode M_Rp_leastSum.2.1 35 = .ok (.bipush 12, 2) := by decide +kernel
theorem d_Rp_leastSum_37 : decode M_Rp_leastSum.2.1 37 = .ok (.isub, 1) := by decide +kernel
theorem d_Rp_leastSum_38 : decode M_Rp_leastSum.2.1 38 = .ok (.iastore, 1) := by decide +kernel
theorem d_Rp_leastSum_39 : decode M_Rp_leastSum.2.1 39 = .ok (.aload_n 0, 1) := by decide +kernel
theorem d_Rp_leastSum_40 : decode M_Rp_leastSum.2.1 40 = .ok (.getfield 15, 3) := by decide +kernel
theorem d_Rp_leastSum_43 : decode M_Rp_leastSum.2.1 43 = .ok (.iload_n 1, 1) := by decide +kernel
theorem d_Rp_leastSum_44 : decode M_Rp_leastSum.2.1 44 = .ok (.aload_n 0, 1) := by decide +kernel
theorem d_Rp_leastSum_45 : decode M_Rp_leastSum.2.1 45 = .ok (.getfield 37, 3) := by decide +kernel
theorem d_Rp_leastSum_48 : decode M_Rp_leastSum.2.1 48 = .ok (.aload_n 0, 1) := by decide +kernel
theorem d_Rp_leastSum_49 : decode M_Rp_leastSum.2.1 49 = .ok (.getfield 33, 3) := by decide +kernel
theorem d_Rp_leastSum_52 : decode M_Rp_leastSum.2.1 52 = .ok (.getfield 61, 3) := by decide +kernel
theorem d_Rp_leastSum_55 : decode M_Rp_leastSum.2.1 55 = .ok (.iload_n 1, 1) := by decide +kernel
theorem d_Rp_leastSum_56 : decode M_Rp_leastSum.2.1 56 = .ok (.laload, 1) := by decide +kernel
theorem d_Rp_leastSum_57 : decode M_Rp_leastSum.2.1 57 = .ok (.invokevirtual 55, 3) := by decide +kernel
theorem d_Rp_leastSum_60 : decode M_Rp_leastSum.2.1 60 = .ok (.bipush 48, 2) := by decide +kernel
theorem d_Rp_leastSum_62 : decode M_Rp_leastSum.2.1 62 = .ok (.isub, 1) := by decide +kernel
theorem d_Rp_leastSum_63 : decode M_Rp_leastSum.2.1 63 = .ok (.iastore, 1) := by decide +kernel
theorem d_Rp_leastSum_64 : decode M_Rp_leastSum.2.1 64 = .ok (.aload_n 0, 1) := by decide +kernel
theorem d_Rp_leastSum_65 : decode M_Rp_leastSum.2.1 65 = .ok (.getfield 18, 3) := by decide +kernel
theorem d_Rp_leastSum_68 : decode M_Rp_leastSum.2.1 68 = .ok (.iload_n 1, 1) := by decide +kernel
theorem d_Rp_leastSum_69 : decode M_Rp_leastSum.2.1 69 = .ok (.aload_n 0, 1) := by decide +kernel
theorem d_Rp_leastSum_70 : decode M_Rp_leastSum.2.1 70 = .ok (.getfield 41, 3) := by decide +kernel
theorem d_Rp_leastSum_73 : decode M_Rp_leastSum.2.1 73 = .ok (.aload_n 0, 1) := by decide +kernel
theorem d_Rp_leastSum_74 : decode M_Rp_leastSum.2.1 74 = .ok (.getfield 33, 3) := by decide +kernel
theorem d_Rp_leastSum_77 : decode M_Rp_leastSum.2.1 77 = .ok (.iload_n 1, 1) := by decide +kernel
theorem d_Rp_leastSum_78 : decode M_Rp_leastSum.2.1 78 = .ok (.iconst 0, 1) := by decide +kernel
theorem d_Rp_leastSum_79 : decode M_Rp_leastSum.2.1 79 = .ok (.aload_n 0, 1) := by decide +kernel
theorem d_Rp_leastSum_80 : decode M_Rp_leastSum.2.1 80 = .ok (.getfield 33, 3) := by decide +kernel
theorem d_Rp_leastSum_83 : decode M_Rp_leastSum.2.1 83 = .ok (.getfield 64, 3) := by decide +kernel
theorem d_Rp_leastSum_86 : decode M_Rp_leastSum.2.1 86 = .ok (.iload_n 1, 1) := by decide +kernel
theorem d_Rp_leastSum_87 : decode M_Rp_leastSum.2.1 87 = .ok (.iaload, 1) := by decide +kernel
theorem d_Rp_leastSum_88 : decode M_Rp_leastSum.2.1 88 = .ok (.invokevirtual 67, 3) := by decide +kernel
theorem d_Rp_leastSum_91 : decode M_Rp_leastSum.2.1 91 = .ok (.aload_n 0, 1) := by decide +kernel
theorem d_Rp_leastSum_92 : decode M_Rp_leastSum.2.1 92 = .ok (.getfield 37, 3) := by decide +kernel
theorem d_Rp_leastSum_95 : decode M_Rp_leastSum.2.1 95 = .ok (.invokevirtual 71, 3) := by decide +kernel
theorem d_Rp_leastSum_98 : decode M_Rp_leastSum.2.1 98 = .ok (.iastore, 1) := by decide +kernel
theorem d_Rp_leastSum_99 : decode M_Rp_leastSum.2.1 99 = .ok (.aload_n 0, 1) := by decide +kernel
theorem d_Rp_leastSum_100 : decode M_Rp_leastSum.2.1 100 = .ok (.iload_n 1, 1) := by decide +kernel
theorem d_Rp_leastSum_101 : decode M_Rp_leastSum.2.1 101 = .ok (.invokevirtual 76, 3) := by decide +kernel
theorem d_Rp_leastSum_104 : decode M_Rp_leastSum.2.1 104 = .ok (.aload_n 0, 1) := by decide +kernel
theorem d_Rp_leastSum_105 : decode M_Rp_leastSum.2.1 105 = .ok (.iload_n 1, 1) := by decide +kernel
theorem d_Rp_leastSum_106 : decode M_Rp_leastSum.2.1 106 = .ok (.invokevirtual 80, 3) := by decide +kernel
theorem d_Rp_leastSum_109 : decode M_Rp_leastSum.2.1 109 = .ok (.iinc 1 (-1), 3) := by decide +kernel
theorem d_Rp_leastSum_112 : decode M_Rp_leastSum.2.1 112 = .ok (.goto (-102), 3) := by decide +kernel
theorem d_Rp_leastSum_115 : decode M_Rp_leastSum.2.1 115 = .ok (.aload_n 0, 1) := by decide +kernel
theorem d_Rp_leastSum_116 : decode M_Rp_leastSum.2.1 116 = .ok (.iconst 0, 1) := by decide +kernel
theorem d_Rp_leastSum_117 : decode M_Rp_leastSum.2.1 117 = .ok (.iconst 0, 1) := by decide +kernel
theorem d_Rp_leastSum_118 : decode M_Rp_leastSum.2.1 118 = .ok (.invokevirtual 83, 3) := by decide +kernel
theorem d_Rp_leastSum_121 : decode M_Rp_leastSum.2.1 121 = .ok (.ireturn, 1) := by decide +kernel
theorem d_Rp_earliestEnd_0 : decode M_Rp_earliestEnd.2.1 0 = .ok (.aload_n 0, 1) := by decide +kernel
theorem d_Rp_earliestEnd_1 : decode M_Rp_earliestEnd.2.1 1 = .ok (.getfield 9, 3) := by decide +kernel
theorem d_Rp_earliestEnd_4 : decode M_Rp_earliestEnd.2.1 4 = .ok (.iload_n 1, 1) := by decide +kernel
theorem d_Rp_earliestEnd_5 : decode M_Rp_earliestEnd.2.1 5 = .ok (.iaload, 1) := by decide +kernel
theorem d_Rp_earliestEnd_6 : decode M_Rp_earliestEnd.2.1 6 = .ok (.iload_n 2, 1) := by decide +kernel
theorem d_Rp_earliestEnd_7 : decode M_Rp_earliestEnd.2.1 7 = .ok (.invokestatic 113, 3) := by decide +kernel
theorem d_Rp_earliestEnd_10 : decode M_Rp_earliestEnd.2.1 10 = .ok (.istore_n 3, 1) := by decide +kernel
theorem d_Rp_earliestEnd_11 : decode M_Rp_earliestEnd.2.1 11 = .ok (.aload_n 0, 1) := by decide +kernel
theorem d_Rp_earliestEnd_12 : decode M_Rp_earliestEnd.2.1 12 = .ok (.getfield 9, 3) := by decide +kernel
theorem d_Rp_earliestEnd_15 : decode M_Rp_earliestEnd.2.1 15 = .ok (.iload_n 1, 1) := by decide +kernel
theorem d_Rp_earliestEnd_16 : decode M_Rp_earliestEnd.2.1 16 = .ok (.iaload, 1) := by decide +kernel
theorem d_Rp_earliestEnd_17 : decode M_Rp_earliestEnd.2.1 17 = .ok (.bipush 25, 2) := by decide +kernel
theorem d_Rp_earliestEnd_19 : decode M_Rp_earliestEnd.2.1 19 = .ok (.iadd, 1) := by decide +kernel
theorem d_Rp_earliestEnd_20 : decode M_Rp_earliestEnd.2.1 20 = .ok (.iconst 1, 1) := by decide +kernel
theorem d_Rp_earliestEnd_21 : decode M_Rp_earliestEnd.2.1 21 = .ok (.isub, 1) := by decide +kernel
theorem d_Rp_earliestEnd_22 : decode M_Rp_earliestEnd.2.1 22 = .ok (.istore 4, 2) := by decide +kernel
theorem d_Rp_earliestEnd_24 : decode M_Rp_earliestEnd.2.1 24 = .ok (.iconst 0, 1) := by decide +kernel
theorem d_Rp_earliestEnd_25 : decode M_Rp_earliestEnd.2.1 25 = .ok (.istore 5, 2) := by decide +kernel
theorem d_Rp_earliestEnd_27 : decode M_Rp_earliestEnd.2.1 27 = .ok (.iload 5, 2) := by decide +kernel
theorem d_Rp_earliestEnd_29 : decode M_Rp_earliestEnd.2.1 29 = .ok (.bipush 97, 2) := by decide +kernel
theorem d_Rp_earliestEnd_31 : decode M_Rp_earliestEnd.2.1 31 = .ok (.if_icmp .ge 71, 3) := by decide +kernel
theorem d_Rp_earliestEnd_34 : decode M_Rp_earliestEnd.2.1 34 = .ok (.aload_n 0, 1) := by decide +kernel
theorem d_Rp_earliestEnd_35 : decode M_Rp_earliestEnd.2.1 35 = .ok (.getfield 15, 3) := by decide +kernel
theorem d_Rp_earliestEnd_38 : decode M_Rp_earliestEnd.2.1 38 = .ok (.iload_n 1, 1) := by decide +kernel
theorem d_Rp_earliestEnd_39 : decode M_Rp_earliestEnd.2.1 39 = .ok (.iaload, 1) := by decide +kernel
theorem d_Rp_earliestEnd_40 : decode M_Rp_earliestEnd.2.1 40 = .ok (.iload 5, 2) := by decide +kernel
theorem d_Rp_earliestEnd_42 : decode M_Rp_earliestEnd.2.1 42 = .ok (.iadd, 1) := by decide +kernel
theorem d_Rp_earliestEnd_43 : decode M_Rp_earliestEnd.2.1 43 = .ok (.istore 6, 2) := by decide +kernel
theorem d_Rp_earliestEnd_45 : decode M_Rp_earliestEnd.2.1 45 = .ok (.iload_n 3, 1) := by decide +kernel
theorem d_Rp_earliestEnd_46 : decode M_Rp_earliestEnd.2.1 46 = .ok (.iload 6, 2) := by decide +kernel
theorem d_Rp_earliestEnd_48 : decode M_Rp_earliestEnd.2.1 48 = .ok (.aload_n 0, 1) := by decide +kernel
theorem d_Rp_earliestEnd_49 : decode M_Rp_earliestEnd.2.1 49 = .ok (.getfield 41, 3) := by decide +kernel
theorem d_Rp_earliestEnd_52 : decode M_Rp_earliestEnd.2.1 52 = .ok (.getfield 116, 3) := by decide +kernel
theorem d_Rp_earliestEnd_55 : decode M_Rp_earliestEnd.2.1 55 = .ok (.isub, 1) := by decide +kernel
theorem d_Rp_earliestEnd_56 : decode M_Rp_earliestEnd.2.1 56 = .ok (.invokestatic 113, 3) := by decide +kernel
theorem d_Rp_earliestEnd_59 : decode M_Rp_earliestEnd.2.1 59 = .ok (.istore 7, 2) := by decide +kernel
theorem d_Rp_earliestEnd_61 : decode M_Rp_earliestEnd.2.1 61 = .ok (.iload 4, 2) := by decide +kernel
theorem d_Rp_earliestEnd_63 : decode M_Rp_earliestEnd.2.1 63 = .ok (.iload 6, 2) := by decide +kernel
theorem d_Rp_earliestEnd_65 : decode M_Rp_earliestEnd.2.1 65 = .ok (.aload_n 0, 1) := by decide +kernel
theorem d_Rp_earliestEnd_66 : decode M_Rp_earliestEnd.2.1 66 = .ok (.getfield 18, 3) := by decide +kernel
theorem d_Rp_earliestEnd_69 : decode M_Rp_earliestEnd.2.1 69 = .ok (.iload_n 1, 1) := by decide +kernel
theorem d_Rp_earliestEnd_70 : decode M_Rp_earliestEnd.2.1 70 = .ok (.iaload, 1) := by decide +kernel
theorem d_Rp_earliestEnd_71 : decode M_Rp_earliestEnd.2.1 71 = .ok (.isub, 1) := by decide +kernel
theorem d_Rp_earliestEnd_72 : decode M_Rp_earliestEnd.2.1 72 = .ok (.invokestatic 110, 3) := by decide +kernel
theorem d_Rp_earliestEnd_75 : decode M_Rp_earliestEnd.2.1 75 = .ok (.istore 8, 2) := by decide +kernel
theorem d_Rp_earliestEnd_77 : decode M_Rp_earliestEnd.2.1 77 = .ok (.iload 7, 2) := by decide +kernel
theorem d_Rp_earliestEnd_79 : decode M_Rp_earliestEnd.2.1 79 = .ok (.iload 8, 2) := by decide +kernel
theorem d_Rp_earliestEnd_81 : decode M_Rp_earliestEnd.2.1 81 = .ok (.if_icmp .gt 15, 3) := by decide +kernel
theorem d_Rp_earliestEnd_84 : decode M_Rp_earliestEnd.2.1 84 = .ok (.aload_n 0, 1) := by decide +kernel
theorem d_Rp_earliestEnd_85 : decode M_Rp_earliestEnd.2.1 85 = .ok (.iload 6, 2) := by decide +kernel
theorem d_Rp_earliestEnd_87 : decode M_Rp_earliestEnd.2.1 87 = .ok (.invokevirtual 87, 3) := by decide +kernel
theorem d_Rp_earliestEnd_90 : decode M_Rp_earliestEnd.2.1 90 = .ok (.ifCond .eq 6, 3) := by decide +kernel
theorem d_Rp_earliestEnd_93 : decode M_Rp_earliestEnd.2.1 93 = .ok (.iload 6, 2) := by decide +kernel
theorem d_Rp_earliestEnd_95 : decode M_Rp_earliestEnd.2.1 95 = .ok (.ireturn, 1) := by decide +kernel
theorem d_Rp_earliestEnd_96 : decode M_Rp_earliestEnd.2.1 96 = .ok (.iinc 5 1, 3) := by decide +kernel
theorem d_Rp_earliestEnd_99 : decode M_Rp_earliestEnd.2.1 99 = .ok (.goto (-72), 3) := by decide +kernel
theorem d_Rp_earliestEnd_102 : decode M_Rp_earliestEnd.2.1 102 = .ok (.iconst (-1), 1) := by decide +kernel
theorem d_Rp_earliestEnd_103 : decode M_Rp_earliestEnd.2.1 103 = .ok (.ireturn, 1) := by decide +kernel
theorem d_Rp_firstStuck_0 : decode M_Rp_firstStuck.2.1 0 = .ok (.iconst 0, 1) := by decide +kernel
theorem d_Rp_firstStuck_1 : decode M_Rp_firstStuck.2.1 1 = .ok (.istore_n 1, 1) := by decide +kernel
theorem d_Rp_firstStuck_2 : decode M_Rp_firstStuck.2.1 2 = .ok (.iconst 0, 1) := by decide +kernel
theorem d_Rp_firstStuck_3 : decode M_Rp_firstStuck.2.1 3 = .ok (.istore_n 2, 1) := by decide +kernel
theorem d_Rp_firstStuck_4 : decode M_Rp_firstStuck.2.1 4 = .ok (.iload_n 2, 1) := by decide +kernel
theorem d_Rp_firstStuck_5 : decode M_Rp_firstStuck.2.1 5 = .ok (.aload_n 0, 1) := by decide +kernel
theorem d_Rp_firstStuck_6 : decode M_Rp_firstStuck.2.1 6 = .ok (.getfield 33, 3) := by decide +kernel
theorem d_Rp_firstStuck_9 : decode M_Rp_firstStuck.2.1 9 = .ok (.getfield 45, 3) := by decide +kernel
theorem d_Rp_firstStuck_12 : decode M_Rp_firstStuck.2.1 12 = .ok (.if_icmp .ge 33, 3) := by decide +kernel
theorem d_Rp_firstStuck_15 : decode M_Rp_firstStuck.2.1 15 = .ok (.aload_n 0, 1) := by decide +kernel
theorem d_Rp_firstStuck_16 : decode M_Rp_firstStuck.2.1 16 = .ok (.iload_n 2, 1) := by decide +kernel
theorem d_Rp_firstStuck_17 : decode M_Rp_firstStuck.2.1 17 = .ok (.iload_n 1, 1) := by decide +kernel
theorem d_Rp_firstStuck_18 : decode M_Rp_firstStuck.2.1 18 = .ok (.invokevirtual 122, 3) := by decide +kernel
theorem d_Rp_firstStuck_21 : decode M_Rp_firstStuck.2.1 21 = .ok (.istore_n 3, 1) := by decide +kernel
theorem d_Rp_firstStuck_22 : decode M_Rp_firstStuck.2.1 22 = .ok (.iload_n 3, 1) := by decide +kernel
theorem d_Rp_firstStuck_23 : decode M_Rp_firstStuck.2.1 23 = .ok (.iconst (-1), 1) := by decide +kernel
theorem d_Rp_firstStuck_24 : decode M_Rp_firstStuck.2.1 24 = .ok (.if_icmp .ne 5, 3) := by decide +kernel
theorem d_Rp_firstStuck_27 : decode M_Rp_firstStuck.2.1 27 = .ok (.iload_n 2, 1) := by decide +kernel
theorem d_Rp_firstStuck_28 : decode M_Rp_firstStuck.2.1 28 = .ok (.ireturn, 1) := by decide +kernel
theorem d_Rp_firstStuck_29 : decode M_Rp_firstStuck.2.1 29 = .ok (.iload_n 3, 1) := by decide +kernel
theorem d_Rp_firstStuck_30 : decode M_Rp_firstStuck.2.1 30 = .ok (.aload_n 0, 1) := by decide +kernel
theorem d_Rp_firstStuck_31 : decode M_Rp_firstStuck.2.1 31 = .ok (.getfield 41, 3) := by decide +kernel
theorem d_Rp_firstStuck_34 : decode M_Rp_firstStuck.2.1 34 = .ok (.getfield 97, 3) := by decide +kernel
theorem d_Rp_firstStuck_37 : decode M_Rp_firstStuck.2.1 37 = .ok (.iadd, 1) := by decide +kernel
theorem d_Rp_firstStuck_38 : decode M_Rp_firstStuck.2.1 38 = .ok (.istore_n 1, 1) := by decide +kernel
theorem d_Rp_firstStuck_39 : decode M_Rp_firstStuck.2.1 39 = .ok (.iinc 2 1, 3) := by decide +kernel
theorem d_Rp_firstStuck_42 : decode M_Rp_firstStuck.2.1 42 = .ok (.goto (-38), 3) := by decide +kernel
theorem d_Rp_firstStuck_45 : decode M_Rp_firstStuck.2.1 45 = .ok (.aload_n 0, 1) := by decide +kernel
theorem d_Rp_firstStuck_46 : decode M_Rp_firstStuck.2.1 46 = .ok (.getfield 33, 3) := by decide +kernel
theorem d_Rp_firstStuck_49 : decode M_Rp_firstStuck.2.1 49 = .ok (.getfield 45, 3) := by decide +kernel
theorem d_Rp_firstStuck_52 : decode M_Rp_firstStuck.2.1 52 = .ok (.ireturn, 1) := by decide +kernel
theorem d_Rp_firstBestStart_0 : decode M_Rp_firstBestStart.2.1 0 = .ok (.aload_n 0, 1) := by decide +kernel
theorem d_Rp_firstBestStart_1 : decode M_Rp_firstBestStart.2.1 1 = .ok (.iload_n 1, 1) := by decide +kernel
theorem d_Rp_firstBestStart_2 : decode M_Rp_firstBestStart.2.1 2 = .ok (.iload_n 2, 1) := by decide +kernel
theorem d_Rp_firstBestStart_3 : decode M_Rp_firstBestStart.2.1 3 = .ok (.invokevirtual 83, 3) := by decide +kernel
theorem d_Rp_firstBestStart_6 : decode M_Rp_firstBestStart.2.1 6 = .ok (.istore_n 3, 1) := by decide +kernel
theorem d_Rp_firstBestStart_7 : decode M_Rp_firstBestStart.2.1 7 = .ok (.aload_n 0, 1) := by decide +kernel
theorem d_Rp_firstBestStart_8 : decode M_Rp_firstBestStart.2.1 8 = .ok (.iload_n 1, 1) := by decide +kernel
theorem d_Rp_firstBestStart_9 : decode M_Rp_firstBestStart.2.1 9 = .ok (.iload_n 2, 1) := by decide +kernel
theorem d_Rp_firstBestStart_10 : decode M_Rp_firstBestStart.2.1 10 = .ok (.invokevirtual 119, 3) := by decide +kernel
theorem d_Rp_firstBestStart_13 : decode M_Rp_firstBestStart.2.1 13 = .ok (.istore 4, 2) := by decide +kernel
theorem d_Rp_firstBestStart_15 : decode M_Rp_firstBestStart.2.1 15 = .ok (.iload 4, 2) := by decide +kernel
theorem d_Rp_firstBestStart_17 : decode M_Rp_firstBestStart.2.1 17 = .ok (.bipush 25, 2) := by decide +kernel
theorem d_Rp_firstBestStart_19 : decode M_Rp_firstBestStart.2.1 19 = .ok (.if_icmp .ge 28, 3) := by decide +kernel
theorem d_Rp_firstBestStart_22 : decode M_Rp_firstBestStart.2.1 22 = .ok (.aload_n 0, 1) := by decide +kernel
theorem d_Rp_firstBestStart_23 : decode M_Rp_firstBestStart.2.1 23 = .ok (.getfield 27, 3) := by decide +kernel
theorem d_Rp_firstBestStart_26 : decode M_Rp_firstBestStart.2.1 26 = .ok (.iload_n 1, 1) := by decide +kernel
theorem d_Rp_firstBestStart_27 : decode M_Rp_firstBestStart.2.1 27 = .ok (.bipush 25, 2) := by decide +kernel
theorem d_Rp_firstBestStart_29 : decode M_Rp_firstBestStart.2.1 29 = .ok (.imul, 1) := by decide +kernel
theorem d_Rp_firstBestStart_30 : decode M_Rp_firstBestStart.2.1 30 = .ok (.iload 4, 2) := by decide +kernel
theorem d_Rp_firstBestStart_32 : decode M_Rp_firstBestStart.2.1 32 = .ok (.iadd, 1) := by decide +kernel
theorem d_Rp_firstBestStart_33 : decode M_Rp_firstBestStart.2.1 33 = .ok (.iaload, 1) := by decide +kernel
theorem d_Rp_firstBestStart_34 : decode M_Rp_firstBestStart.2.1 34 = .ok (.iload_n 3, 1) := by decide +kernel
theorem d_Rp_firstBestStart_35 : decode M_Rp_firstBestStart.2.1 35 = .ok (.if_icmp .ne 6, 3) := by decide +kernel
theorem d_Rp_firstBestStart_38 : decode M_Rp_firstBestStart.2.1 38 = .ok (.iload 4, 2) := by decide +kernel
theorem d_Rp_firstBestStart_40 : decode M_Rp_firstBestStart.2.1 40 = .ok (.ireturn, 1) := by decide +kernel
theorem d_Rp_firstBestStart_41 : decode M_Rp_firstBestStart.2.1 41 = .ok (.iinc 4 1, 3) := by decide +kernel
theorem d_Rp_firstBestStart_44 : decode M_Rp_firstBestStart.2.1 44 = .ok (.goto (-29), 3) := by decide +kernel
theorem d_Rp_take_0 : decode M_Rp_take.2.1 0 = .ok (.iconst 0, 1) := by decide +kernel
theorem d_Rp_take_1 : decode M_Rp_take.2.1 1 = .ok (.istore_n 1, 1) := by decide +kernel
theorem d_Rp_take_2 : decode M_Rp_take.2.1 2 = .ok (.iconst 0, 1) := by decide +kernel
theorem d_Rp_take_3 : decode M_Rp_take.2.1 3 = .ok (.istore_n 2, 1) := by decide +kernel
theorem d_Rp_take_4 : decode M_Rp_take.2.1 4 = .ok (.iload_n 2, 1) := by decide +kernel
theorem d_Rp_take_5 : decode M_Rp_take.2.1 5 = .ok (.aload_n 0, 1) := by decide +kernel
theorem d_Rp_take_6 : decode M_Rp_take.2.1 6 = .ok (.getfield 33, 3) := by decide +kernel
theorem d_Rp_take_9 : decode M_Rp_take.2.1 9 = .ok (.getfield 45, 3) := by decide +kernel
theorem d_Rp_take_12 : decode M_Rp_take.2.1 12 = .ok (.if_icmp .ge 86, 3) := by decide +kernel
theorem d_Rp_take_15 : decode M_Rp_take.2.1 15 = .ok (.aload_n 0, 1) := by decide +kernel
theorem d_Rp_take_16 : decode M_Rp_take.2.1 16 = .ok (.iload_n 2, 1) := by decide +kernel
theorem d_Rp_take_17 : decode M_Rp_take.2.1 17 = .ok (.iload_n 1, 1) := by decide +kernel
theorem d_Rp_take_18 : decode M_Rp_take.2.1 18 = .ok (.invokevirtual 125, 3) := by decide +kernel
theorem d_Rp_take_21 : decode M_Rp_take.2.1 21 = .ok (.istore_n 3, 1) := by decide +kernel
theorem d_Rp_take_22 : decode M_Rp_take.2.1 22 = .ok (.aload_n 0, 1) := by decide +kernel
theorem d_Rp_take_23 : decode M_Rp_take.2.1 23 = .ok (.getfield 24, 3) := by decide +kernel
theorem d_Rp_take_26 : decode M_Rp_take.2.1 26 = .ok (.iload_n 2, 1) := by decide +kernel
theorem d_Rp_take_27 : decode M_Rp_take.2.1 27 = .ok (.bipush 25, 2) := by decide +kernel
theorem d_Rp_take_29 : decode M_Rp_take.2.1 29 = .ok (.imul, 1) := by decide +kernel
theorem d_Rp_take_30 : decode M_Rp_take.2.1 30 = .ok (.iload_n 3, 1) := by decide +kernel
theorem d_Rp_take_31 : decode M_Rp_take.2.1 31 = .ok (.iadd, 1) := by decide +kernel
theorem d_Rp_take_32 : decode M_Rp_take.2.1 32 = .ok (.iaload, 1) := by decide +kernel
theorem d_Rp_take_33 : decode M_Rp_take.2.1 33 = .ok (.istore 4, 2) := by decide +kernel
theorem d_Rp_take_35 : decode M_Rp_take.2.1 35 = .ok (.aload_n 0, 1) := by decide +kernel
theorem d_Rp_take_36 : decode M_Rp_take.2.1 36 = .ok (.getfield 33, 3) := by decide +kernel
theorem d_Rp_take_39 : decode M_Rp_take.2.1 39 = .ok (.getfield 51, 3) := by decide +kernel
theorem d_Rp_take_42 : decode M_Rp_take.2.1 42 = .ok (.iload_n 2, 1) := by decide +kernel
theorem d_Rp_take_43 : decode M_Rp_take.2.1 43 = .ok (.aload_n 0, 1) := by decide +kernel
theorem d_Rp_take_44 : decode M_Rp_take.2.1 44 = .ok (.getfield 9, 3) := by decide +kernel
theorem d_Rp_take_47 : decode M_Rp_take.2.1 47 = .ok (.iload_n 2, 1) := by decide +kernel
theorem d_Rp_take_48 : decode M_Rp_take.2.1 48 = .ok (.iaload, 1) := by decide +kernel
theorem d_Rp_take_49 : decode M_Rp_take.2.1 49 = .ok (.iload_n 3, 1) := by decide +kernel
theorem d_Rp_take_50 : decode M_Rp_take.2.1 50 = .ok (.iadd, 1) := by decide +kernel
theorem d_Rp_take_51 : decode M_Rp_take.2.1 51 = .ok (.i2l, 1) := by decide +kernel
theorem d_Rp_take_52 : decode M_Rp_take.2.1 52 = .ok (.aload_n 0, 1) := by decide +kernel
theorem d_Rp_take_53 : decode M_Rp_take.2.1 53 = .ok (.getfield 37, 3) := by decide +kernel
theorem d_Rp_take_56 : decode M_Rp_take.2.1 56 = .ok (.getfield 128, 3) := by decide +kernel
theorem d_Rp_take_59 : decode M_Rp_take.2.1 59 = .ok (.lmul, 1) := by decide +kernel
theorem d_Rp_take_60 : decode M_Rp_take.2.1 60 = .ok (.lastore, 1) := by decide +kernel
theorem d_Rp_take_61 : decode M_Rp_take.2.1 61 = .ok (.aload_n 0, 1) := by decide +kernel
theorem d_Rp_take_62 : decode M_Rp_take.2.1 62 = .ok (.getfield 33, 3) := by decide +kernel
theorem d_Rp_take_65 : decode M_Rp_take.2.1 65 = .ok (.getfield 61, 3) := by decide +kernel
theorem d_Rp_take_68 : decode M_Rp_take.2.1 68 = .ok (.iload_n 2, 1) := by decide +kernel
theorem d_Rp_take_69 : decode M_Rp_take.2.1 69 = .ok (.iload 4, 2) := by decide +kernel
theorem d_Rp_take_71 : decode M_Rp_take.2.1 71 = .ok (.i2l, 1) := by decide +kernel
theorem d_Rp_take_72 : decode M_Rp_take.2.1 72 = .ok (.aload_n 0, 1) := by decide +kernel
theorem d_Rp_take_73 : decode M_Rp_take.2.1 73 = .ok (.getfield 37, 3) := by decide +kernel
theorem d_Rp_take_76 : decode M_Rp_take.2.1 76 = .ok (.getfield 128, 3) := by decide +kernel
theorem d_Rp_take_79 : decode M_Rp_take.2.1 79 = .ok (.lmul, 1) := by decide +kernel
theorem d_Rp_take_80 : decode M_Rp_take.2.1 80 = .ok (.lastore, 1) := by decide +kernel
theorem d_Rp_take_81 : decode M_Rp_take.2.1 81 = .ok (.iload 4, 2) := by decide +kernel
theorem d_Rp_take_83 : decode M_Rp_take.2.1 83 = .ok (.aload_n 0, 1) := by decide +kernel
theorem d_Rp_take_84 : decode M_Rp_take.2.1 84 = .ok (.getfield 41, 3) := by decide +kernel
theorem d_Rp_take_87 : decode M_Rp_take.2.1 87 = .ok (.getfield 97, 3) := by decide +kernel
theorem d_Rp_take_90 : decode M_Rp_take.2.1 90 = .ok (.iadd, 1) := by decide +kernel
theorem d_Rp_take_91 : decode M_Rp_take.2.1 91 = .ok (.istore_n 1, 1) := by decide +kernel
theorem d_Rp_take_92 : decode M_Rp_take.2.1 92 = .ok (.iinc 2 1, 3) := by decide +kernel
theorem d_Rp_take_95 : decode M_Rp_take.2.1 95 = .ok (.goto (-91), 3) := by decide +kernel
theorem d_Rp_take_98 : decode M_Rp_take.2.1 98 = .ok (.return_, 1) := by decide +kernel
theorem d_CB_repair_0 : decode M_CB_repair.2.1 0 = .ok (.aload_n 0, 1) := by decide +kernel
theorem d_CB_repair_1 : decode M_CB_repair.2.1 1 = .ok (.getfield 76, 3) := by decide +kernel
theorem d_CB_repair_4 : decode M_CB_repair.2.1 4 = .ok (.invokevirtual 154, 3) := by decide +kernel
theorem d_CB_repair_7 : decode M_CB_repair.2.1 7 = .ok (.istore_n 1, 1) := by decide +kernel
theorem d_CB_repair_8 : decode M_CB_repair.2.1 8 = .ok (.iload_n 1, 1) := by decide +kernel
theorem d_CB_repair_9 : decode M_CB_repair.2.1 9 = .ok (.ldc 158, 2) := by decide +kernel
theorem d_CB_repair_11 : decode M_CB_repair.2.1 11 = .ok (.if_icmp .lt 14, 3) := by decide +kernel
theorem d_CB_repair_14 : decode M_CB_repair.2.1 14 = .ok (.bipush (-10), 2) := by decide +kernel
theorem d_CB_repair_16 : decode M_CB_repair.2.1 16 = .ok (.aload_n 0, 1) := by decide +kernel
theorem d_CB_repair_17 : decode M_CB_repair.2.1 17 = .ok (.getfield 76, 3) := by decide +kernel
theorem d_CB_repair_20 : decode M_CB_repair.2.1 20 = .ok (.invokevirtual 159, 3) := by decide +kernel
theorem d_CB_repair_23 : decode M_CB_repair.2.1 23 = .ok (.isub, 1) := by decide +kernel
theorem d_CB_repair_24 : decode M_CB_repair.2.1 24 = .ok (.ireturn, 1) := by decide +kernel
theorem d_CB_repair_25 : decode M_CB_repair.2.1 25 = .ok (.aload_n 0, 1) := by decide +kernel
theorem d_CB_repair_26 : decode M_CB_repair.2.1 26 = .ok (.getfield 40, 3) := by decide +kernel
theorem d_CB_repair_29 : decode M_CB_repair.2.1 29 = .ok (.aload_n 0, 1) := by decide +kernel
theorem d_CB_repair_30 : decode M_CB_repair.2.1 30 = .ok (.getfield 33, 3) := by decide +kernel
theorem d_CB_repair_33 : decode M_CB_repair.2.1 33 = .ok (.invokevirtual 103, 3) := by decide +kernel
theorem d_CB_repair_36 : decode M_CB_repair.2.1 36 = .ok (.aload_n 0, 1) := by decide +kernel
theorem d_CB_repair_37 : decode M_CB_repair.2.1 37 = .ok (.getfield 76, 3) := by decide +kernel
theorem d_CB_repair_40 : decode M_CB_repair.2.1 40 = .ok (.invokevirtual 162, 3) := by decide +kernel
theorem d_CB_repair_43 : decode M_CB_repair.2.1 43 = .ok (.iload_n 1, 1) := by decide +kernel
theorem d_CB_repair_44 : decode M_CB_repair.2.1 44 = .ok (.ireturn, 1) := by decide +kernel
def nrF (K : Nat → Int) (tk d : Int) (n : Nat) : Nat → Int := fun c => if c < n then nearZ (K c) tk - d else 0
def shF (l num den sp : Int) (K3 K4 : Nat → Int) (n : Nat) : Nat → Int := fun c => if c < n then shZ l num den sp (cellsN K4 (c * 64) (K3 c).toNat) else 0
def ccF (K3 K4 : Nat → Int) (n : Nat) : Nat → Int := fun c => if c < n then cellsN K4 (c * 64) (K3 c).toNat else 0
noncomputable def rpT (n : Nat) (K1 K2 K3 K4 : Nat → Int) (num den tk g0 l0 m0 s0 : Int) (U : Nat → Int) (nu : Nat) : CT := (n, nrF K1 tk 12 n, nrF K2 tk 48 n, shF l0 num den s0 K3 K4 n, m0, g0, ekZ tk U nu)
def rpP (n : Nat) (K1 K2 K3 K4 : Nat → Int) (num den tk g0 l0 m0 s0 : Int) (U : Nat → Int) (nu : Nat) : Rp := (fun i s e => 0 ≤ s ∧ e * tk ≤ 2540160000000 ∧ l0 ≤ e - s ∧ e - s ≤ m0 ∧ ccF K3 K4 n i * num ≤ s0 * (e - s) * den ∧ clr U nu e, nrF K1 tk 0 n, nrF K2 tk 0 n, g0)
theorem ceil_le {x q d : Int} (hq : 0 < q) : (x + q - 1) / q ≤ d ↔ x ≤ d * q := by
  constructor
  · intro h
    have a := Int.lt_ediv_add_one_mul_self (x + q - 1) hq
    have b := Int.mul_le_mul_of_nonneg_right h (Int.le_of_lt hq)
    rw [Int.add_mul, Int.one_mul] at a
    omega
  · intro h
    have := Int.ediv_lt_of_lt_mul (a := x + q - 1) (b := d + 1) (c := q) hq (by rw [Int.add_mul, Int.one_mul]; omega)
    omega
theorem rp_tie {n : Nat} {K1 K2 K3 K4 : Nat → Int} {num den tk g0 l0 m0 s0 : Int} {U : Nat → Int} {nu : Nat} (hg : 0 ≤ g0) (hl : 1 ≤ l0) (hs : 1 ≤ s0) (hd : 1 ≤ den) : cTie (rpP n K1 K2 K3 K4 num den tk g0 l0 m0 s0 U nu) (rpT n K1 K2 K3 K4 num den tk g0 l0 m0 s0 U nu) := by
  have hq : 0 < s0 * den := Int.mul_pos (by omega) (by omega)
  refine ⟨fun i hi => ?_, rfl, hg, fun e he => ?_, fun i s e h => h.1, fun i s e hi hs0 => ?_⟩
  · replace hi : i < n := hi
    show nrF K1 tk 12 n i = nrF K1 tk 0 n i - 12 ∧ nrF K2 tk 48 n i = nrF K2 tk 0 n i - 48
    unfold nrF
    rw [if_pos hi, if_pos hi, if_pos hi, if_pos hi]
    omega
  · replace he : ekZ tk U nu e ≠ 0 := he
    unfold ekZ at he
    split at he
    · rename_i q
      exact (holdZ_1 q).1
    · exact absurd rfl he
  · replace hi : i < n := hi
    show (0 ≤ s ∧ e * tk ≤ 2540160000000 ∧ l0 ≤ e - s ∧ e - s ≤ m0 ∧ ccF K3 K4 n i * num ≤ s0 * (e - s) * den ∧ clr U nu e) ↔ ekZ tk U nu e ≠ 0 ∧ s + shF l0 num den s0 K3 K4 n i ≤ e ∧ e ≤ s + m0
    have ec : ccF K3 K4 n i = cellsN K4 (i * 64) (K3 i).toNat := if_pos hi
    have es : shF l0 num den s0 K3 K4 n i = max l0 ((cellsN K4 (i * 64) (K3 i).toNat * num + s0 * den - 1) / (s0 * den)) := if_pos hi
    have em : s0 * (e - s) * den = (e - s) * (s0 * den) := by grind
    rw [ec, es, em]
    have ce := ceil_le (x := cellsN K4 (i * 64) (K3 i).toNat * num) (d := e - s) hq
    constructor
    · rintro ⟨_, h2, h3, h4, h5, h6⟩
      have hh : holdZ tk e = 1 := if_pos ⟨by omega, h2⟩
      refine ⟨?_, ?_, by omega⟩
      · unfold ekZ
        rw [if_pos (by rw [hh]; decide)]
        exact clrZ_i.mpr h6
      · have := ce.mpr h5
        omega
    · rintro ⟨h1, h2, h3⟩
      unfold ekZ at h1
      split at h1
      · rename_i q
        have hh := holdZ_1 q
        refine ⟨hs0, hh.2, by omega, by omega, ce.mp (by omega), clrZ_i.mp h1⟩
      · exact absurd rfl h1
theorem cLF_c {N : Nat} {fs fs' A A' : Nat → Int} {i : Nat} {fl : Int} (h : i < N → fs i = fs' i) (hA : ∀ j, i * 25 ≤ j → A j = A' j) : cLF N fs A i fl = cLF N fs' A' i fl := by
  unfold cLF
  split
  · rfl
  · rename_i q
    have e : cPl fs i fl = cPl fs' i fl := by unfold cPl; rw [h (by omega)]
    rw [e, hA _ (by omega)]
theorem cES_c {ek : Int → Int} {fe fe' : Nat → Int} {gap : Int} {L L' : Int → Int} {i k : Nat} (h : fe i = fe' i) (hL : ∀ f, L f = L' f) : cES ek fe gap L i k = cES ek fe' gap L' i k := by
  unfold cES
  rw [h, hL]
theorem cBest_c {E E' : Nat → Int} {fr to b : Int} (ht : to ≤ 96) (h : ∀ k, k < 97 → E k = E' k) (c : cBest E fr to b) : cBest E' fr to b := by
  rcases c with ⟨c1, c2⟩ | ⟨c1, c2, c3, c4, c5, c6⟩
  · exact Or.inl ⟨c1, fun k a b => by rw [← h k (by omega)]; exact c2 k a b⟩
  · refine Or.inr ⟨c1, c2, c3, by rw [← h _ (by omega)]; exact c4, fun k a b => ?_, fun k a b => ?_⟩
    · rw [← h _ (by omega), ← h k (by omega)]; exact c5 k a b
    · rw [← h _ (by omega), ← h k (by omega)]; exact c6 k a b
theorem cSt_c {fs fe sh fs' fe' sh' : Nat → Int} {most : Int} {E E' SS BE SS' BE' : Nat → Int} {i k : Nat} (h1 : fs i = fs' i) (h2 : fe i = fe' i) (h3 : sh i = sh' i) (hE : ∀ k, k < 97 → E k = E' k) (hS : SS (i * 25 + k) = SS' (i * 25 + k)) (hB : BE (i * 25 + k) = BE' (i * 25 + k)) (c : cSt fs fe sh most E SS BE i k) : cSt fs' fe' sh' most E' SS' BE' i k := by
  obtain ⟨b, c1, c2, c3⟩ := c
  have e1 : cFr fs fe sh i k = cFr fs' fe' sh' i k := by unfold cFr; rw [h1, h2, h3]
  have e2 : cTo fs fe most i k = cTo fs' fe' most i k := by unfold cTo; rw [h1, h2]
  rw [e1, e2] at c1
  have ht : cTo fs' fe' most i k ≤ 96 := by unfold cTo; omega
  have hb := cBest_r c1 ht
  refine ⟨b, cBest_c ht hE c1, by rw [← hB, ← h2]; exact c2, ?_⟩
  rw [← hS, c3]
  split
  · rfl
  · rw [hE _ (by omega)]
theorem cLs_c {A SS A' SS' : Nat → Int} {i k : Nat} (hk : k < 25) (hA : A (i * 25 + k) = A' (i * 25 + k)) (hS : ∀ j, i * 25 ≤ j → j < i * 25 + 25 → SS j = SS' j) (c : cLs A SS i k) : cLs A' SS' i k := by
  obtain ⟨c1, c2, c3⟩ := c
  unfold cLs
  rw [← hA]
  refine ⟨c1, fun k' a b => by rw [← hS _ (by omega) (by omega)]; exact c2 k' a b, ?_⟩
  rcases c3 with c3 | ⟨k', a, b, c⟩
  · exact Or.inl c3
  · exact Or.inr ⟨k', a, b, by rw [← hS _ (by omega) (by omega)]; exact c⟩
theorem cRow_c {T : CT} {A SS BE A' SS' BE' : Nat → Int} {i : Nat} (h : ∀ j, i * 25 ≤ j → BE' j = BE j ∧ SS' j = SS j ∧ A' j = A j) (c : cRow T A SS BE i) : cRow T A' SS' BE' i := by
  intro k hk
  obtain ⟨c1, c2⟩ := c k hk
  refine ⟨cSt_c rfl rfl rfl (fun j _ => cES_c rfl (fun f => cLF_c (fun _ => rfl) (fun j hj => (h j (by omega)).2.2.symm))) (h _ (by omega)).2.1.symm (h _ (by omega)).1.symm c1, cLs_c hk (h _ (by omega)).2.2.symm (fun j a _ => (h j a).2.1.symm) c2⟩
theorem cEa_c {T T' : CT} {i : Nat} {fl : Int} {k : Nat} (h1 : T.2.1 i = T'.2.1 i) (h2 : T.2.2.1 i = T'.2.2.1 i) (h3 : T.2.2.2.1 i = T'.2.2.2.1 i) (h4 : T.2.2.2.2 = T'.2.2.2.2) : cEa T i fl k ↔ cEa T' i fl k := by
  unfold cEa
  rw [h1, h2, h3, h4]
/-- the row with the times of a way -/
def wyS (P : Rp) (g : Nat → Nat) (tk : Int) (K : Nat → Int) (m : Nat) : Nat → Int := fun c => if c < m then rSt P c (g c) * tk else K c
def wyE (P : Rp) (g : Nat → Nat) (tk : Int) (K : Nat → Int) (m : Nat) : Nat → Int := fun c => if c < m then rEn P c (g c) * tk else K c
theorem wy_s {K V W : Nat → Int} {m : Nat} {x : Int} (h : ∀ c, c < m → V c = W c) (hx : x = W m) : zup (fun c => if c < m then V c else K c) m x = fun c => if c < m + 1 then W c else K c := by
  funext c
  show (if c = m then x else if c < m then V c else K c) = if c < m + 1 then W c else K c
  by_cases q : c = m
  · subst q; rw [if_pos rfl, if_pos (by omega)]; exact hx
  · rw [if_neg q]
    by_cases w : c < m
    · rw [if_pos w, if_pos (by omega)]; exact h c w
    · rw [if_neg w, if_neg (by omega)]
theorem wy_0 {K V : Nat → Int} : (fun c => if c < 0 then V c else K c) = K := by
  funext c
  exact if_neg (by omega)
theorem shZ_r {l num den sp c : Int} (hc : 0 ≤ c ∧ c ≤ 128) (hl : 1 ≤ l ∧ l ≤ 100) (hs : 1 ≤ sp ∧ sp ≤ 60) (hnum : 1 ≤ num ∧ num ≤ 120000) (hden : 1 ≤ den ∧ den ≤ 1001) : 0 ≤ shZ l num den sp c ∧ shZ l num den sp c ≤ 20000000 := by
  have b1 := mulB (x := c) (y := num) (L := 128) (M := 120000) (by omega) (by omega) (by omega) (by omega)
  have b2 := mulB (x := sp) (y := den) (L := 60) (M := 1001) (by omega) (by omega) (by omega) (by omega)
  have b3 := Int.mul_nonneg hc.1 (show 0 ≤ num by omega)
  have b4 : 1 ≤ sp * den := Int.mul_pos (show 0 < sp by omega) (show 0 < den by omega)
  have b5 := Int.ediv_nonneg (show 0 ≤ c * num + sp * den - 1 by omega) (show 0 ≤ sp * den by omega)
  have b6 := Int.ediv_le_self (sp * den) (show 0 ≤ c * num + sp * den - 1 by omega)
  unfold shZ
  omega
set_option maxHeartbeats 4000000 in
set_option maxRecDepth 100000 in
theorem lp_Rp_least (G : GT) (h0 : HM) (xr xo xf xu a0 a1 a2 a3 a4 a5 a6 : Nat) (o1 o2 o3 o4 n : Nat) (K1 K2 K3 K4 : Nat → Int) (us nu : Nat) (U : Nat → Int) (g0 l0 m0 s0 num den tk : Int) (hn : n ≤ 16) (hT : ∀ k, 0 ≤ K1 k ∧ K1 k ≤ 2540160000000) (hE : ∀ k, 0 ≤ K2 k ∧ K2 k ≤ 2540160000000) (hZ : ∀ k, 0 ≤ K3 k ∧ K3 k ≤ 64) (hB : ∀ k, 0 ≤ K4 k ∧ K4 k ≤ 255) (hnu : nu ≤ 20) (hU : ∀ k, k < nu → 0 ≤ U k ∧ U k ≤ 216000) (htk : 11760000 ≤ tk ∧ tk ≤ 705600000) (hg : 0 ≤ g0 ∧ g0 ≤ 20) (hl : 1 ≤ l0 ∧ l0 ≤ 100) (hm0 : 0 ≤ m0 ∧ m0 ≤ 400) (hs : 1 ≤ s0 ∧ s0 ≤ 60) (hnum : 1 ≤ num ∧ num ≤ 120000) (hden : 1 ≤ den ∧ den ≤ 1001) (n_01 : a0 ≠ a1) (n_02 : a0 ≠ a2) (n_12 : a1 ≠ a2) (n_45 : a4 ≠ a5) (n_46 : a4 ≠ a6) (n_56 : a5 ≠ a6) (n_03 : a0 ≠ o3) (n_13 : a1 ≠ o3) (n_23 : a2 ≠ o3) (n_o : o1 ≠ o2) : ∀ (d : Nat) (i : Nat) (h : HM) (fs fe sh ES BE SS A : Nat → Int), i = d → i ≤ n → h xr = some (.inr (9, [.ref xo, .ref xf, .ref xu, .ref a0, .ref a1, .ref a2, .ref a3, .ref a4, .ref a5, .ref a6])) → h xo = some (.inr (2, [.ref o1, .ref o2, .ref o3, .ref o4, .int (iZ (n : Int))])) → h o1 = some (.inl (G_j G, 16, .inr (.inl (lA K1)))) → h o2 = some (.inl (G_j G, 16, .inr (.inl (lA K2)))) → h o3 = some (.inl (G_i G, 16, .inl (iA K3))) → h o4 = some (.inl (G_i G, 1024, .inl (iA K4))) → h xf = some (.inr (5, [.int (iZ num), .int (iZ den), .long (lZ tk)])) → h xu = some (.inr (10, [.int (iZ g0), .int (iZ l0), .int (iZ m0), .int (iZ s0), .ref us, .int (iZ (nu : Int))])) → h us = some (.inl (G_i G, 20, .inl (iA U))) → h a0 = some (.inl (G_i G, 16, .inl (iA fs))) → h a1 = some (.inl (G_i G, 16, .inl (iA fe))) → h a2 = some (.inl (G_i G, 16, .inl (iA sh))) → h a3 = some (.inl (G_i G, 97, .inl (iA ES))) → h a4 = some (.inl (G_i G, 400, .inl (iA BE))) → h a5 = some (.inl (G_i G, 400, .inl (iA SS))) → h a6 = some (.inl (G_i G, 400, .inl (iA A))) → (∀ c, i ≤ c → c < n → fs c = nrF K1 tk 12 n c ∧ fe c = nrF K2 tk 48 n c ∧ sh c = shF l0 num den s0 K3 K4 n c) → (∀ c, i ≤ c → c < n → cRow (rpT n K1 K2 K3 K4 num den tk g0 l0 m0 s0 U nu) A SS BE c) → (∀ k, -100 ≤ fs k ∧ fs k ≤ 300000) → (∀ k, -100 ≤ fe k ∧ fe k ≤ 300000) → (∀ k, 0 ≤ sh k ∧ sh k ≤ 20000000) → (∀ k, 0 ≤ ES k ∧ ES k ≤ 2000000) → (∀ k, -300 ≤ BE k ∧ BE k ≤ 400000) → (∀ k, 0 ≤ SS k ∧ SS k ≤ 2100000) → (∀ k, 0 ≤ A k ∧ A k ≤ 1000000) → Fm [a0, a1, a2, a3, a4, a5, a6] h0 h → Ev G M_Rp_leastSum (rm 4 130) (fun r h' => (∃ fs fe sh ES BE SS A : Nat → Int, r = some (.int (iZ (cLF n (nrF K1 tk 12 n) A 0 0))) ∧ h' a0 = some (.inl (G_i G, 16, .inl (iA fs))) ∧ h' a1 = some (.inl (G_i G, 16, .inl (iA fe))) ∧ h' a2 = some (.inl (G_i G, 16, .inl (iA sh))) ∧ h' a3 = some (.inl (G_i G, 97, .inl (iA ES))) ∧ h' a4 = some (.inl (G_i G, 400, .inl (iA BE))) ∧ h' a5 = some (.inl (G_i G, 400, .inl (iA SS))) ∧ h' a6 = some (.inl (G_i G, 400, .inl (iA A))) ∧ (∀ c, c < n → fs c = nrF K1 tk 12 n c ∧ fe c = nrF K2 tk 48 n c ∧ sh c = shF l0 num den s0 K3 K4 n c) ∧ (∀ c, c < n → cRow (rpT n K1 K2 K3 K4 num den tk g0 l0 m0 s0 U nu) A SS BE c) ∧ (∀ k, -100 ≤ fs k ∧ fs k ≤ 300000) ∧ (∀ k, -100 ≤ fe k ∧ fe k ≤ 300000) ∧ (∀ k, 0 ≤ sh k ∧ sh k ≤ 20000000) ∧ (∀ k, 0 ≤ ES k ∧ ES k ≤ 2000000) ∧ (∀ k, -300 ≤ BE k ∧ BE k ≤ 400000) ∧ (∀ k, 0 ≤ SS k ∧ SS k ≤ 2100000) ∧ (∀ k, 0 ≤ A k ∧ A k ≤ 1000000)) ∧ Fm [a0, a1, a2, a3, a4, a5, a6] h0 h') 10 [(0, .ref xr), (1, .int (iZ ((i : Int) - 1)))] [] h 0 0 := by
  intro d
  induction d using Nat.strongRecOn with
  | ind d ih =>
  intro i h fs fe sh ES BE SS A hd hin hrp ho ho1 ho2 ho3 ho4 hf hu hus ha0 ha1 ha2 ha3 ha4 ha5 ha6 hag hrw hfs hfe hsh hES hBE hSS hA fm
  refine ev_iload_n d_Rp_leastSum_10 rfl rfl ?_
  refine ez_if_lt (tgt := 115) (by omega) d_Rp_leastSum_11 rfl (fun c11 => ?_) (fun c11 => ?_)
  · refine ev_aload_n d_Rp_leastSum_115 rfl rfl ?_
    refine ev_iconst (v := iZ 0) d_Rp_leastSum_116 rfl ?_
    refine ev_iconst (v := iZ 0) d_Rp_leastSum_117 rfl ?_
    refine ev_pV M_Rp_leastFrom 2 60 (As := [.int (iZ 0), .int (iZ 0)]) (c_Rp_leastFrom G h xr xo xf xu a0 a1 a2 a3 a4 a5 a6 o1 o2 o3 o4 n 0 0 fs A hrp ho ha0 ha6 hn (by omega) hfs hA (by omega)) d_Rp_leastSum_118 mk_Rp_leastFrom ml_Rp_83 mv_Rp_leastFrom hrp rfl rfl rfl (Nat.le_of_ble_eq_true rfl) ⟨by decide, by decide⟩ ⟨by decide, by decide⟩ ?_
    exact ev_ireturn d_Rp_leastSum_121 rfl (by decide) (by decide) (⟨⟨fs, fe, sh, ES, BE, SS, A, by rw [cLF_c (fs := nrF K1 tk 12 n) (fs' := fs) (A' := A) (fun h9 => (hag 0 (by omega) h9).1.symm) (fun _ _ => rfl)], ha0, ha1, ha2, ha3, ha4, ha5, ha6, fun c hc => hag c (by omega) hc, fun c hc => hrw c (by omega) hc, hfs, hfe, hsh, hES, hBE, hSS, hA⟩, fm⟩)
  · obtain ⟨i, rfl⟩ : ∃ q : Nat, i = q + 1 := ⟨i - 1, by omega⟩
    rw [show ((i + 1 : Nat) : Int) - 1 = (i : Int) from by omega]
    have t0 := hT i
    have e0 := hE i
    have z0 := hZ i
    have nt := fra_r htk t0
    have ne := fra_r htk e0
    have cr := cellsN_r K4 (i * 64) (K3 i).toNat
    refine ev_aload_n d_Rp_leastSum_14 rfl rfl ?_
    refine ev_get d_Rp_leastSum_15 fl_Rp_9 hrp rfl ?_
    refine ev_iload_n d_Rp_leastSum_18 rfl rfl ?_
    refine ev_aload_n d_Rp_leastSum_19 rfl rfl ?_
    refine ev_get d_Rp_leastSum_20 fl_Rp_37 hrp rfl ?_
    refine ev_aload_n d_Rp_leastSum_23 rfl rfl ?_
    refine ev_get d_Rp_leastSum_24 fl_Rp_33 hrp rfl ?_
    refine ev_get d_Rp_leastSum_27 fl_Rp_51 ho rfl ?_
    refine ev_iload_n d_Rp_leastSum_30 rfl rfl ?_
    refine ez_laload i d_Rp_leastSum_31 ho1 (by omega) (by omega) (by decide) ?_
    refine ev_pV M_Fr_nearestFrame 2 60 (As := [.long (lZ (K1 i))]) (c_Fr_nearestFrame G h xf num den tk (K1 i) hf (by omega) (by omega)) d_Rp_leastSum_32 mk_Fr_nearestFrame ml_Rp_55 mv_Fr_nearestFrame hf rfl rfl rfl (Nat.le_of_ble_eq_true rfl) ⟨by decide, by decide⟩ ⟨by decide, by decide⟩ ?_
    refine ev_bipush (v := iZ 12) d_Rp_leastSum_35 rfl ?_
    refine ez_isub d_Rp_leastSum_37 ?_
    refine ez_iastore (F' := zup fs i ((nearZ (K1 i) tk) - 12)) i d_Rp_leastSum_38 ha0 (by omega) (by omega) (by decide) rfl (fun h1 h1a h1o => ?_)
    have hrp := (h1o _ (cne hrp ha0 (by simp))).trans hrp
    have ho := (h1o _ (cne ho ha0 (by simp))).trans ho
    have ho1 := (h1o _ (cne ho1 ha0 (by simp))).trans ho1
    have ho2 := (h1o _ (cne ho2 ha0 (by simp))).trans ho2
    have ho3 := (h1o _ (Ne.symm n_03)).trans ho3
    have ho4 := (h1o _ (cne ho4 ha0 (by simp))).trans ho4
    have hf := (h1o _ (cne hf ha0 (by simp))).trans hf
    have hu := (h1o _ (cne hu ha0 (by simp))).trans hu
    have hus := (h1o _ (cne hus ha0 (by simp))).trans hus
    have ha1 := (h1o _ (Ne.symm n_01)).trans ha1
    have ha2 := (h1o _ (Ne.symm n_02)).trans ha2
    have ha3 := (h1o _ (cne ha3 ha0 (by simp))).trans ha3
    have ha4 := (h1o _ (cne ha4 ha0 (by simp))).trans ha4
    have ha5 := (h1o _ (cne ha5 ha0 (by simp))).trans ha5
    have ha6 := (h1o _ (cne ha6 ha0 (by simp))).trans ha6
    have ha0 := h1a
    have fm := fm.step (by simp) h1o
    refine ev_aload_n d_Rp_leastSum_39 rfl rfl ?_
    refine ev_get d_Rp_leastSum_40 fl_Rp_15 hrp rfl ?_
    refine ev_iload_n d_Rp_leastSum_43 rfl rfl ?_
    refine ev_aload_n d_Rp_leastSum_44 rfl rfl ?_
    refine ev_get d_Rp_leastSum_45 fl_Rp_37 hrp rfl ?_
    refine ev_aload_n d_Rp_leastSum_48 rfl rfl ?_
    refine ev_get d_Rp_leastSum_49 fl_Rp_33 hrp rfl ?_
    refine ev_get d_Rp_leastSum_52 fl_Rp_61 ho rfl ?_
    refine ev_iload_n d_Rp_leastSum_55 rfl rfl ?_
    refine ez_laload i d_Rp_leastSum_56 ho2 (by omega) (by omega) (by decide) ?_
    refine ev_pV M_Fr_nearestFrame 2 60 (As := [.long (lZ (K2 i))]) (c_Fr_nearestFrame G h1 xf num den tk (K2 i) hf (by omega) (by omega)) d_Rp_leastSum_57 mk_Fr_nearestFrame ml_Rp_55 mv_Fr_nearestFrame hf rfl rfl rfl (Nat.le_of_ble_eq_true rfl) ⟨by decide, by decide⟩ ⟨by decide, by decide⟩ ?_
    refine ev_bipush (v := iZ 48) d_Rp_leastSum_60 rfl ?_
    refine ez_isub d_Rp_leastSum_62 ?_
    refine ez_iastore (F' := zup fe i ((nearZ (K2 i) tk) - 48)) i d_Rp_leastSum_63 ha1 (by omega) (by omega) (by decide) rfl (fun h2 h2a h2o => ?_)
    have hrp := (h2o _ (cne hrp ha1 (by simp))).trans hrp
    have ho := (h2o _ (cne ho ha1 (by simp))).trans ho
    have ho1 := (h2o _ (cne ho1 ha1 (by simp))).trans ho1
    have ho2 := (h2o _ (cne ho2 ha1 (by simp))).trans ho2
    have ho3 := (h2o _ (Ne.symm n_13)).trans ho3
    have ho4 := (h2o _ (cne ho4 ha1 (by simp))).trans ho4
    have hf := (h2o _ (cne hf ha1 (by simp))).trans hf
    have hu := (h2o _ (cne hu ha1 (by simp))).trans hu
    have hus := (h2o _ (cne hus ha1 (by simp))).trans hus
    have ha0 := (h2o _ n_01).trans ha0
    have ha2 := (h2o _ (Ne.symm n_12)).trans ha2
    have ha3 := (h2o _ (cne ha3 ha1 (by simp))).trans ha3
    have ha4 := (h2o _ (cne ha4 ha1 (by simp))).trans ha4
    have ha5 := (h2o _ (cne ha5 ha1 (by simp))).trans ha5
    have ha6 := (h2o _ (cne ha6 ha1 (by simp))).trans ha6
    have ha1 := h2a
    have fm := fm.step (by simp) h2o
    refine ev_aload_n d_Rp_leastSum_64 rfl rfl ?_
    refine ev_get d_Rp_leastSum_65 fl_Rp_18 hrp rfl ?_
    refine ev_iload_n d_Rp_leastSum_68 rfl rfl ?_
    refine ev_aload_n d_Rp_leastSum_69 rfl rfl ?_
    refine ev_get d_Rp_leastSum_70 fl_Rp_41 hrp rfl ?_
    refine ev_aload_n d_Rp_leastSum_73 rfl rfl ?_
    refine ev_get d_Rp_leastSum_74 fl_Rp_33 hrp rfl ?_
    refine ev_iload_n d_Rp_leastSum_77 rfl rfl ?_
    refine ev_iconst (v := iZ 0) d_Rp_leastSum_78 rfl ?_
    refine ev_aload_n d_Rp_leastSum_79 rfl rfl ?_
    refine ev_get d_Rp_leastSum_80 fl_Rp_33 hrp rfl ?_
    refine ev_get d_Rp_leastSum_83 fl_Rp_64 ho rfl ?_
    refine ev_iload_n d_Rp_leastSum_86 rfl rfl ?_
    refine ez_iaload i d_Rp_leastSum_87 ho3 (by omega) (by omega) (by decide) ?_
    refine ev_top (((K3 i).toNat : Int)) (by omega) ?_
    refine ev_pV M_Ro_cells 1 22 (As := [.int (iZ (i : Int)), .int (iZ 0), .int (iZ ((K3 i).toNat : Int))]) (c_Ro_cells G h2 xo o1 o2 o3 o4 n K4 ho ho4 i 0 (K3 i).toNat (by omega) (by omega) hB) d_Rp_leastSum_88 mk_Ro_cells ml_Rp_67 mv_Ro_cells ho rfl rfl rfl (Nat.le_of_ble_eq_true rfl) ⟨by decide, by decide⟩ ⟨by decide, by decide⟩ ?_
    refine ev_top (cellsN K4 (i * 64) (K3 i).toNat) (rfl) ?_
    refine ev_aload_n d_Rp_leastSum_91 rfl rfl ?_
    refine ev_get d_Rp_leastSum_92 fl_Rp_37 hrp rfl ?_
    have sr := shZ_r (c := cellsN K4 (i * 64) (K3 i).toNat) (by omega) hl hs hnum hden
    refine ev_pV M_Ru_shortest 1 30 (As := [.int (iZ (cellsN K4 (i * 64) (K3 i).toNat)), .ref xf]) (c_Ru_shortest G h2 xu us xf nu g0 l0 m0 s0 num den tk (cellsN K4 (i * 64) (K3 i).toNat) hu hf (by omega) hl hs hnum hden) d_Rp_leastSum_95 mk_Ru_shortest ml_Rp_71 mv_Ru_shortest hu rfl rfl rfl (Nat.le_of_ble_eq_true rfl) ⟨by decide, by decide⟩ ⟨by decide, by decide⟩ ?_
    refine ez_iastore (F' := zup sh i (shZ l0 num den s0 (cellsN K4 (i * 64) (K3 i).toNat))) i d_Rp_leastSum_98 ha2 (by omega) (by omega) (by decide) rfl (fun h3 h3a h3o => ?_)
    have hrp := (h3o _ (cne hrp ha2 (by simp))).trans hrp
    have ho := (h3o _ (cne ho ha2 (by simp))).trans ho
    have ho1 := (h3o _ (cne ho1 ha2 (by simp))).trans ho1
    have ho2 := (h3o _ (cne ho2 ha2 (by simp))).trans ho2
    have ho3 := (h3o _ (Ne.symm n_23)).trans ho3
    have ho4 := (h3o _ (cne ho4 ha2 (by simp))).trans ho4
    have hf := (h3o _ (cne hf ha2 (by simp))).trans hf
    have hu := (h3o _ (cne hu ha2 (by simp))).trans hu
    have hus := (h3o _ (cne hus ha2 (by simp))).trans hus
    have ha0 := (h3o _ n_02).trans ha0
    have ha1 := (h3o _ n_12).trans ha1
    have ha3 := (h3o _ (cne ha3 ha2 (by simp))).trans ha3
    have ha4 := (h3o _ (cne ha4 ha2 (by simp))).trans ha4
    have ha5 := (h3o _ (cne ha5 ha2 (by simp))).trans ha5
    have ha6 := (h3o _ (cne ha6 ha2 (by simp))).trans ha6
    have ha2 := h3a
    have fm := fm.step (by simp) h3o
    refine ev_aload_n d_Rp_leastSum_99 rfl rfl ?_
    refine ev_iload_n d_Rp_leastSum_100 rfl rfl ?_
    have hfs := zup_r (k := i) (x := nearZ (K1 i) tk - 12) hfs (by omega)
    have hfe := zup_r (k := i) (x := nearZ (K2 i) tk - 48) hfe (by omega)
    have hsh := zup_r (k := i) (x := shZ l0 num den s0 (cellsN K4 (i * 64) (K3 i).toNat)) hsh (by omega)
    refine ev_callV M_Rp_weighEnds (rm 3 90) _ (As := [.int (iZ (i : Int))]) (c_Rp_weighEnds G h3 xr xo xf xu a0 a1 a2 a3 a4 a5 a6 o1 o2 o3 o4 n i us nu U g0 l0 m0 s0 num den tk (zup fs i ((nearZ (K1 i) tk) - 12)) (zup fe i ((nearZ (K2 i) tk) - 48)) ES A hrp ho hf hu hus ha0 ha1 ha3 ha6 hn (by omega) hnu hU htk hg hfs hfe hA hES) d_Rp_leastSum_101 mk_Rp_weighEnds ml_Rp_76 mv_Rp_weighEnds hrp rfl rfl rfl (Nat.le_of_ble_eq_true rfl) ⟨by decide, by decide⟩ ⟨by decide, by decide⟩ (fun r h5 hq => ?_)
    obtain ⟨rfl, ga3, fmc⟩ := hq
    have hrp := (fmc _ (ninc (cne hrp ha3 (by simp)) nin0)).trans hrp
    have ho := (fmc _ (ninc (cne ho ha3 (by simp)) nin0)).trans ho
    have ho1 := (fmc _ (ninc (cne ho1 ha3 (by simp)) nin0)).trans ho1
    have ho2 := (fmc _ (ninc (cne ho2 ha3 (by simp)) nin0)).trans ho2
    have ho3 := (fmc _ (ninc (cne ho3 ha3 (by simp)) nin0)).trans ho3
    have ho4 := (fmc _ (ninc (cne ho4 ha3 (by simp)) nin0)).trans ho4
    have hf := (fmc _ (ninc (cne hf ha3 (by simp)) nin0)).trans hf
    have hu := (fmc _ (ninc (cne hu ha3 (by simp)) nin0)).trans hu
    have hus := (fmc _ (ninc (cne hus ha3 (by simp)) nin0)).trans hus
    have ha0 := (fmc _ (ninc (cne ha0 ha3 (by simp)) nin0)).trans ha0
    have ha1 := (fmc _ (ninc (cne ha1 ha3 (by simp)) nin0)).trans ha1
    have ha2 := (fmc _ (ninc (cne ha2 ha3 (by simp)) nin0)).trans ha2
    have ha4 := (fmc _ (ninc (cne ha4 ha3 (by simp)) nin0)).trans ha4
    have ha5 := (fmc _ (ninc (cne ha5 ha3 (by simp)) nin0)).trans ha5
    have ha6 := (fmc _ (ninc (cne ha6 ha3 (by simp)) nin0)).trans ha6
    have ha3 := ga3
    have fm := fm.call (by simp) fmc
    obtain ⟨EV, hEV⟩ : ∃ E : Nat → Int, E = upto (cES (ekZ tk U nu) (zup fe i ((nearZ (K2 i) tk) - 48)) g0 (cLF n (zup fs i ((nearZ (K1 i) tk) - 12)) A (i + 1)) i) ES 97 := ⟨_, rfl⟩
    rw [← hEV] at ha3
    have hES2 : ∀ k, 0 ≤ EV k ∧ EV k ≤ 2000000 := by
      rw [hEV]
      exact upto_r (fun j hj => by have := cES_r (ek := ekZ tk U nu) (fe := zup fe i ((nearZ (K2 i) tk) - 48)) (gap := g0) (L := cLF n (zup fs i ((nearZ (K1 i) tk) - 12)) A (i + 1)) (i := i) hj (fun f => cLF_r hA); omega) hES
    refine ev_aload_n d_Rp_leastSum_104 rfl rfl ?_
    refine ev_iload_n d_Rp_leastSum_105 rfl rfl ?_
    refine ev_callV M_Rp_weighStarts (rm 2 70) _ (As := [.int (iZ (i : Int))]) (c_Rp_weighStarts G h5 xr xo xf xu a0 a1 a2 a3 a4 a5 a6 us nu i g0 l0 m0 s0 (zup fs i ((nearZ (K1 i) tk) - 12)) (zup fe i ((nearZ (K2 i) tk) - 48)) (zup sh i (shZ l0 num den s0 (cellsN K4 (i * 64) (K3 i).toNat))) EV BE SS A hrp hu ha0 ha1 ha2 ha3 ha4 ha5 ha6 (by omega) hm0 hfs hfe hsh hES2 n_45 n_46 n_56 n_01 n_02 n_12 hBE hSS hA) d_Rp_leastSum_106 mk_Rp_weighStarts ml_Rp_80 mv_Rp_weighStarts hrp rfl rfl rfl (Nat.le_of_ble_eq_true rfl) ⟨by decide, by decide⟩ ⟨by decide, by decide⟩ (fun r h6 hq => ?_)
    obtain ⟨rfl, ⟨BE', SS', A', ga4, ga5, ga6, hst, hfo, hBE', hSS', hA'⟩, fmc⟩ := hq
    have hrp := (fmc _ (ninc (cne hrp ha4 (by simp)) (ninc (cne hrp ha5 (by simp)) (ninc (cne hrp ha6 (by simp)) nin0)))).trans hrp
    have ho := (fmc _ (ninc (cne ho ha4 (by simp)) (ninc (cne ho ha5 (by simp)) (ninc (cne ho ha6 (by simp)) nin0)))).trans ho
    have ho1 := (fmc _ (ninc (cne ho1 ha4 (by simp)) (ninc (cne ho1 ha5 (by simp)) (ninc (cne ho1 ha6 (by simp)) nin0)))).trans ho1
    have ho2 := (fmc _ (ninc (cne ho2 ha4 (by simp)) (ninc (cne ho2 ha5 (by simp)) (ninc (cne ho2 ha6 (by simp)) nin0)))).trans ho2
    have ho3 := (fmc _ (ninc (cne ho3 ha4 (by simp)) (ninc (cne ho3 ha5 (by simp)) (ninc (cne ho3 ha6 (by simp)) nin0)))).trans ho3
    have ho4 := (fmc _ (ninc (cne ho4 ha4 (by simp)) (ninc (cne ho4 ha5 (by simp)) (ninc (cne ho4 ha6 (by simp)) nin0)))).trans ho4
    have hf := (fmc _ (ninc (cne hf ha4 (by simp)) (ninc (cne hf ha5 (by simp)) (ninc (cne hf ha6 (by simp)) nin0)))).trans hf
    have hu := (fmc _ (ninc (cne hu ha4 (by simp)) (ninc (cne hu ha5 (by simp)) (ninc (cne hu ha6 (by simp)) nin0)))).trans hu
    have hus := (fmc _ (ninc (cne hus ha4 (by simp)) (ninc (cne hus ha5 (by simp)) (ninc (cne hus ha6 (by simp)) nin0)))).trans hus
    have ha0 := (fmc _ (ninc (cne ha0 ha4 (by simp)) (ninc (cne ha0 ha5 (by simp)) (ninc (cne ha0 ha6 (by simp)) nin0)))).trans ha0
    have ha1 := (fmc _ (ninc (cne ha1 ha4 (by simp)) (ninc (cne ha1 ha5 (by simp)) (ninc (cne ha1 ha6 (by simp)) nin0)))).trans ha1
    have ha2 := (fmc _ (ninc (cne ha2 ha4 (by simp)) (ninc (cne ha2 ha5 (by simp)) (ninc (cne ha2 ha6 (by simp)) nin0)))).trans ha2
    have ha3 := (fmc _ (ninc (cne ha3 ha4 (by simp)) (ninc (cne ha3 ha5 (by simp)) (ninc (cne ha3 ha6 (by simp)) nin0)))).trans ha3
    have ha4 := ga4
    have ha5 := ga5
    have ha6 := ga6
    have fm := fm.call (by simp) fmc
    refine ez_iinc (L' := [(0, .ref xr), (1, .int (iZ ((i : Int) - 1)))]) d_Rp_leastSum_109 rfl (by decide) rfl ?_
    refine ev_goto (tgt := 10) d_Rp_leastSum_112 rfl ?_
    have hag2 : ∀ c, i ≤ c → c < n → (zup fs i (nearZ (K1 i) tk - 12)) c = nrF K1 tk 12 n c ∧ (zup fe i (nearZ (K2 i) tk - 48)) c = nrF K2 tk 48 n c ∧ (zup sh i (shZ l0 num den s0 (cellsN K4 (i * 64) (K3 i).toNat))) c = shF l0 num den s0 K3 K4 n c := by
      intro c h1 h2
      by_cases q : c = i
      · subst q
        rw [zup_s, zup_s, zup_s]
        exact ⟨(if_pos h2).symm, (if_pos h2).symm, (if_pos h2).symm⟩
      · rw [zup_n q, zup_n q, zup_n q]
        exact hag c (by omega) h2
    have hr2 : ∀ c, i ≤ c → c < n → cRow (rpT n K1 K2 K3 K4 num den tk g0 l0 m0 s0 U nu) A' SS' BE' c := by
      intro c h1 h2
      by_cases q : c = i
      · subst q
        intro k hk
        obtain ⟨a1_, a2_, a3_⟩ := hag2 c (by omega) h2
        refine ⟨cSt_c a1_ a2_ a3_ (fun j hj => ?_) rfl rfl (hst k hk).1, (hst k hk).2⟩
        rw [hEV, upto_i hj]
        exact cES_c a2_ (fun f => cLF_c (fun h9 => (hag2 (c + 1) (by omega) h9).1) (fun j hj => (hfo j (by omega)).2.2.symm))
      · exact cRow_c (fun j hj => hfo j (by omega)) (hrw c (by omega) h2)
    exact ih (d - 1) (by omega) i h6 _ _ _ _ _ _ _ (by omega) (by omega) hrp ho ho1 ho2 ho3 ho4 hf hu hus ha0 ha1 ha2 ha3 ha4 ha5 ha6 hag2 hr2 hfs hfe hsh hES2 hBE' hSS' hA' fm
set_option maxHeartbeats 4000000 in
set_option maxRecDepth 100000 in
theorem c_Rp_leastSum (G : GT) (h : HM) (xr xo xf xu a0 a1 a2 a3 a4 a5 a6 : Nat) (o1 o2 o3 o4 n : Nat) (K1 K2 K3 K4 : Nat → Int) (us nu : Nat) (U : Nat → Int) (g0 l0 m0 s0 num den tk : Int) (fs fe sh ES BE SS A : Nat → Int) (hrp : h xr = some (.inr (9, [.ref xo, .ref xf, .ref xu, .ref a0, .ref a1, .ref a2, .ref a3, .ref a4, .ref a5, .ref a6]))) (ho : h xo = some (.inr (2, [.ref o1, .ref o2, .ref o3, .ref o4, .int (iZ (n : Int))]))) (ho1 : h o1 = some (.inl (G_j G, 16, .inr (.inl (lA K1))))) (ho2 : h o2 = some (.inl (G_j G, 16, .inr (.inl (lA K2))))) (ho3 : h o3 = some (.inl (G_i G, 16, .inl (iA K3)))) (ho4 : h o4 = some (.inl (G_i G, 1024, .inl (iA K4)))) (hf : h xf = some (.inr (5, [.int (iZ num), .int (iZ den), .long (lZ tk)]))) (hu : h xu = some (.inr (10, [.int (iZ g0), .int (iZ l0), .int (iZ m0), .int (iZ s0), .ref us, .int (iZ (nu : Int))]))) (hus : h us = some (.inl (G_i G, 20, .inl (iA U)))) (ha0 : h a0 = some (.inl (G_i G, 16, .inl (iA fs)))) (ha1 : h a1 = some (.inl (G_i G, 16, .inl (iA fe)))) (ha2 : h a2 = some (.inl (G_i G, 16, .inl (iA sh)))) (ha3 : h a3 = some (.inl (G_i G, 97, .inl (iA ES)))) (ha4 : h a4 = some (.inl (G_i G, 400, .inl (iA BE)))) (ha5 : h a5 = some (.inl (G_i G, 400, .inl (iA SS)))) (ha6 : h a6 = some (.inl (G_i G, 400, .inl (iA A)))) (hn : n ≤ 16) (hT : ∀ k, 0 ≤ K1 k ∧ K1 k ≤ 2540160000000) (hE : ∀ k, 0 ≤ K2 k ∧ K2 k ≤ 2540160000000) (hZ : ∀ k, 0 ≤ K3 k ∧ K3 k ≤ 64) (hB : ∀ k, 0 ≤ K4 k ∧ K4 k ≤ 255) (hnu : nu ≤ 20) (hU : ∀ k, k < nu → 0 ≤ U k ∧ U k ≤ 216000) (htk : 11760000 ≤ tk ∧ tk ≤ 705600000) (hg : 0 ≤ g0 ∧ g0 ≤ 20) (hl : 1 ≤ l0 ∧ l0 ≤ 100) (hm0 : 0 ≤ m0 ∧ m0 ≤ 400) (hs : 1 ≤ s0 ∧ s0 ≤ 60) (hnum : 1 ≤ num ∧ num ≤ 120000) (hden : 1 ≤ den ∧ den ≤ 1001) (n_01 : a0 ≠ a1) (n_02 : a0 ≠ a2) (n_12 : a1 ≠ a2) (n_45 : a4 ≠ a5) (n_46 : a4 ≠ a6) (n_56 : a5 ≠ a6) (n_03 : a0 ≠ o3) (n_13 : a1 ≠ o3) (n_23 : a2 ≠ o3) (n_o : o1 ≠ o2) (hfs : ∀ k, -100 ≤ fs k ∧ fs k ≤ 300000) (hfe : ∀ k, -100 ≤ fe k ∧ fe k ≤ 300000) (hsh : ∀ k, 0 ≤ sh k ∧ sh k ≤ 20000000) (hES : ∀ k, 0 ≤ ES k ∧ ES k ≤ 2000000) (hBE : ∀ k, -300 ≤ BE k ∧ BE k ≤ 400000) (hSS : ∀ k, 0 ≤ SS k ∧ SS k ≤ 2100000) (hA : ∀ k, 0 ≤ A k ∧ A k ≤ 1000000) : Rn G M_Rp_leastSum (rm 4 130) [.ref xr] h (fun r h' => (∃ fs fe sh ES BE SS A : Nat → Int, r = some (.int (iZ (cLF n (nrF K1 tk 12 n) A 0 0))) ∧ h' a0 = some (.inl (G_i G, 16, .inl (iA fs))) ∧ h' a1 = some (.inl (G_i G, 16, .inl (iA fe))) ∧ h' a2 = some (.inl (G_i G, 16, .inl (iA sh))) ∧ h' a3 = some (.inl (G_i G, 97, .inl (iA ES))) ∧ h' a4 = some (.inl (G_i G, 400, .inl (iA BE))) ∧ h' a5 = some (.inl (G_i G, 400, .inl (iA SS))) ∧ h' a6 = some (.inl (G_i G, 400, .inl (iA A))) ∧ (∀ c, c < n → fs c = nrF K1 tk 12 n c ∧ fe c = nrF K2 tk 48 n c ∧ sh c = shF l0 num den s0 K3 K4 n c) ∧ (∀ c, c < n → cRow (rpT n K1 K2 K3 K4 num den tk g0 l0 m0 s0 U nu) A SS BE c) ∧ (∀ k, -100 ≤ fs k ∧ fs k ≤ 300000) ∧ (∀ k, -100 ≤ fe k ∧ fe k ≤ 300000) ∧ (∀ k, 0 ≤ sh k ∧ sh k ≤ 20000000) ∧ (∀ k, 0 ≤ ES k ∧ ES k ≤ 2000000) ∧ (∀ k, -300 ≤ BE k ∧ BE k ≤ 400000) ∧ (∀ k, 0 ≤ SS k ∧ SS k ≤ 2100000) ∧ (∀ k, 0 ≤ A k ∧ A k ≤ 1000000)) ∧ Fm [a0, a1, a2, a3, a4, a5, a6] h h') := by
  refine rn_of (by decide) (Nat.le_of_ble_eq_true rfl) ?_
  show Ev G M_Rp_leastSum _ _ 0 [(0, .ref xr)] [] _ 0 0
  refine ev_aload_n d_Rp_leastSum_0 rfl rfl ?_
  refine ev_get d_Rp_leastSum_1 fl_Rp_33 hrp rfl ?_
  refine ev_get d_Rp_leastSum_4 fl_Rp_45 ho rfl ?_
  refine ev_iconst (v := iZ 1) d_Rp_leastSum_7 rfl ?_
  refine ez_isub d_Rp_leastSum_8 ?_
  refine ev_istore_n (L' := [(0, .ref xr), (1, .int (iZ ((n : Int) - 1)))]) d_Rp_leastSum_9 rfl (by decide) rfl ?_
  exact lp_Rp_least G h xr xo xf xu a0 a1 a2 a3 a4 a5 a6 o1 o2 o3 o4 n K1 K2 K3 K4 us nu U g0 l0 m0 s0 num den tk hn hT hE hZ hB hnu hU htk hg hl hm0 hs hnum hden n_01 n_02 n_12 n_45 n_46 n_56 n_03 n_13 n_23 n_o n n h fs fe sh ES BE SS A rfl (by omega) hrp ho ho1 ho2 ho3 ho4 hf hu hus ha0 ha1 ha2 ha3 ha4 ha5 ha6 (fun c h1 h2 => absurd h2 (by omega)) (fun c h1 h2 => absurd h2 (by omega)) hfs hfe hsh hES hBE hSS hA Fm.rf
set_option maxHeartbeats 4000000 in
set_option maxRecDepth 100000 in
theorem lp_Rp_early (G : GT) (h : HM) (xr xo xf xu a0 a1 a2 a3 a4 a5 a6 : Nat) (n i : Nat) (us nu : Nat) (U : Nat → Int) (g0 l0 m0 s0 num den tk : Int) (fl : Int) (fs fe sh : Nat → Int) (hrp : h xr = some (.inr (9, [.ref xo, .ref xf, .ref xu, .ref a0, .ref a1, .ref a2, .ref a3, .ref a4, .ref a5, .ref a6]))) (hf : h xf = some (.inr (5, [.int (iZ num), .int (iZ den), .long (lZ tk)]))) (hu : h xu = some (.inr (10, [.int (iZ g0), .int (iZ l0), .int (iZ m0), .int (iZ s0), .ref us, .int (iZ (nu : Int))]))) (hus : h us = some (.inl (G_i G, 20, .inl (iA U)))) (ha0 : h a0 = some (.inl (G_i G, 16, .inl (iA fs)))) (ha1 : h a1 = some (.inl (G_i G, 16, .inl (iA fe)))) (ha2 : h a2 = some (.inl (G_i G, 16, .inl (iA sh)))) (hnu : nu ≤ 20) (hU : ∀ k, k < nu → 0 ≤ U k ∧ U k ≤ 216000) (htk : 11760000 ≤ tk ∧ tk ≤ 705600000) (hi : i < 16) (hm0 : 0 ≤ m0 ∧ m0 ≤ 400) (hfs : ∀ k, -100 ≤ fs k ∧ fs k ≤ 300000) (hfe : ∀ k, -100 ≤ fe k ∧ fe k ≤ 300000) (hsh : ∀ k, 0 ≤ sh k ∧ sh k ≤ 20000000) (hfl : 0 ≤ fl ∧ fl ≤ 500000) (n_01 : a0 ≠ a1) (n_02 : a0 ≠ a2) (n_12 : a1 ≠ a2) : ∀ (d : Nat) (k : Nat), k + d = 97 → (∀ j, j < k → ¬ cEa (n, fs, fe, sh, m0, g0, ekZ tk U nu) i fl j) → Ev G M_Rp_earliestEnd (rm 3 90) (fun r h' => ∃ z : Int, r = some (.int (iZ z)) ∧ h' = h ∧ ((z = -1 ∧ ∀ k, k < 97 → ¬ cEa (n, fs, fe, sh, m0, g0, ekZ tk U nu) i fl k) ∨ (∃ k : Nat, k < 97 ∧ z = fe i + (k : Int) ∧ cEa (n, fs, fe, sh, m0, g0, ekZ tk U nu) i fl k ∧ ∀ k' : Nat, k' < k → ¬ cEa (n, fs, fe, sh, m0, g0, ekZ tk U nu) i fl k'))) 27 [(0, .ref xr), (1, .int (iZ (i : Int))), (2, .int (iZ fl)), (3, .int (iZ (max (fs i) fl))), (4, .int (iZ (fs i + 24))), (5, .int (iZ (k : Int)))] [] h 0 0 := by
  intro d
  induction d using Nat.strongRecOn with
  | ind d ih =>
  intro k hd hno
  have r0 := hfs i
  have r1 := hfe i
  have r2 := hsh i
  refine ev_iload d_Rp_earliestEnd_27 rfl ?_
  refine ev_bipush (v := iZ 97) d_Rp_earliestEnd_29 rfl ?_
  refine ez_icmp_ge (tgt := 102) (by omega) (by decide) d_Rp_earliestEnd_31 rfl (fun c31 => ?_) (fun c31 => ?_)
  · refine ev_iconst (v := iZ (-1)) d_Rp_earliestEnd_102 rfl ?_
    exact ev_ireturn d_Rp_earliestEnd_103 rfl (by decide) (by decide) (⟨-1, rfl, rfl, Or.inl ⟨rfl, fun j hj => hno j (by omega)⟩⟩)
  · refine ev_aload_n d_Rp_earliestEnd_34 rfl rfl ?_
    refine ev_get d_Rp_earliestEnd_35 fl_Rp_15 hrp rfl ?_
    refine ev_iload_n d_Rp_earliestEnd_38 rfl rfl ?_
    refine ez_iaload i d_Rp_earliestEnd_39 ha1 (by omega) (by omega) (by decide) ?_
    refine ev_iload d_Rp_earliestEnd_40 rfl ?_
    refine ez_iadd d_Rp_earliestEnd_42 ?_
    refine ev_istore (L' := [(0, .ref xr), (1, .int (iZ (i : Int))), (2, .int (iZ fl)), (3, .int (iZ (max (fs i) fl))), (4, .int (iZ (fs i + 24))), (5, .int (iZ (k : Int))), (6, .int (iZ ((fe i) + (k : Int))))]) d_Rp_earliestEnd_43 (by decide) rfl ?_
    refine ev_iload_n d_Rp_earliestEnd_45 rfl rfl ?_
    refine ev_iload d_Rp_earliestEnd_46 rfl ?_
    refine ev_aload_n d_Rp_earliestEnd_48 rfl rfl ?_
    refine ev_get d_Rp_earliestEnd_49 fl_Rp_41 hrp rfl ?_
    refine ev_get d_Rp_earliestEnd_52 fl_Rp_116 hu rfl ?_
    refine ez_isub d_Rp_earliestEnd_55 ?_
    refine ez_max (by omega) (by omega) d_Rp_earliestEnd_56 ml_Rp_113 ms_Math_max in_Math co_Math_max (by decide) (by decide) (by decide) (by decide) ?_
    refine ev_istore (L' := [(0, .ref xr), (1, .int (iZ (i : Int))), (2, .int (iZ fl)), (3, .int (iZ (max (fs i) fl))), (4, .int (iZ (fs i + 24))), (5, .int (iZ (k : Int))), (6, .int (iZ ((fe i) + (k : Int)))), (7, .int (iZ (max (max (fs i) fl) (((fe i) + (k : Int)) - m0))))]) d_Rp_earliestEnd_59 (by decide) rfl ?_
    refine ev_iload d_Rp_earliestEnd_61 rfl ?_
    refine ev_iload d_Rp_earliestEnd_63 rfl ?_
    refine ev_aload_n d_Rp_earliestEnd_65 rfl rfl ?_
    refine ev_get d_Rp_earliestEnd_66 fl_Rp_18 hrp rfl ?_
    refine ev_iload_n d_Rp_earliestEnd_69 rfl rfl ?_
    refine ez_iaload i d_Rp_earliestEnd_70 ha2 (by omega) (by omega) (by decide) ?_
    refine ez_isub d_Rp_earliestEnd_71 ?_
    refine ez_min (by omega) (by omega) d_Rp_earliestEnd_72 ml_Rp_110 ms_Math_min in_Math co_Math_min (by decide) (by decide) (by decide) (by decide) ?_
    refine ev_istore (L' := [(0, .ref xr), (1, .int (iZ (i : Int))), (2, .int (iZ fl)), (3, .int (iZ (max (fs i) fl))), (4, .int (iZ (fs i + 24))), (5, .int (iZ (k : Int))), (6, .int (iZ ((fe i) + (k : Int)))), (7, .int (iZ (max (max (fs i) fl) (((fe i) + (k : Int)) - m0)))), (8, .int (iZ (min (fs i + 24) (((fe i) + (k : Int)) - (sh i)))))]) d_Rp_earliestEnd_75 (by decide) rfl ?_
    refine ev_iload d_Rp_earliestEnd_77 rfl ?_
    refine ev_iload d_Rp_earliestEnd_79 rfl ?_
    refine ez_icmp_gt (tgt := 96) (by omega) (by omega) d_Rp_earliestEnd_81 rfl (fun c81 => ?_) (fun c81 => ?_)
    · refine ez_iinc (L' := [(0, .ref xr), (1, .int (iZ (i : Int))), (2, .int (iZ fl)), (3, .int (iZ (max (fs i) fl))), (4, .int (iZ (fs i + 24))), (5, .int (iZ ((k + 1 : Nat) : Int))), (6, .int (iZ ((fe i) + (k : Int)))), (7, .int (iZ (max (max (fs i) fl) (((fe i) + (k : Int)) - m0)))), (8, .int (iZ (min (fs i + 24) (((fe i) + (k : Int)) - (sh i)))))]) d_Rp_earliestEnd_96 rfl (by decide) rfl ?_
      refine ev_goto (tgt := 27) d_Rp_earliestEnd_99 rfl ?_
      have nk : ¬ cEa (n, fs, fe, sh, m0, g0, ekZ tk U nu) i fl k := by
        intro w9
        obtain ⟨w1, w2⟩ := w9
        replace w1 : max (max (fs i) fl) (fe i + (k : Int) - m0) ≤ min (fs i + 24) (fe i + (k : Int) - sh i) := w1
        omega
      refine ev_loc [(0, .ref xr), (1, .int (iZ (i : Int))), (2, .int (iZ fl)), (3, .int (iZ (max (fs i) fl))), (4, .int (iZ (fs i + 24))), (5, .int (iZ ((k + 1 : Nat) : Int)))] (by simp) ?_
      exact ih (d - 1) (by omega) (k + 1) (by omega) (fun j hj => by rcases Nat.lt_succ_iff_lt_or_eq.mp hj with w | rfl; exact hno j w; exact nk)
    · refine ev_aload_n d_Rp_earliestEnd_84 rfl rfl ?_
      refine ev_iload d_Rp_earliestEnd_85 rfl ?_
      have he9 := ekZ_r tk U nu ((fe i) + (k : Int))
      refine ev_pV M_Rp_endAllowed 2 60 (As := [.int (iZ ((fe i) + (k : Int)))]) (c_Rp_endAllowed G h xr xo xf xu a0 a1 a2 a3 a4 a5 a6 us nu U g0 l0 m0 s0 num den tk ((fe i) + (k : Int)) hrp hf hu hus hnu hU htk (by omega)) d_Rp_earliestEnd_87 mk_Rp_endAllowed ml_Rp_87 mv_Rp_endAllowed hrp rfl rfl rfl (Nat.le_of_ble_eq_true rfl) ⟨by decide, by decide⟩ ⟨by decide, by decide⟩ ?_
      refine ez_if_eq (tgt := 96) (by omega) d_Rp_earliestEnd_90 rfl (fun c90 => ?_) (fun c90 => ?_)
      · refine ez_iinc (L' := [(0, .ref xr), (1, .int (iZ (i : Int))), (2, .int (iZ fl)), (3, .int (iZ (max (fs i) fl))), (4, .int (iZ (fs i + 24))), (5, .int (iZ ((k + 1 : Nat) : Int))), (6, .int (iZ ((fe i) + (k : Int)))), (7, .int (iZ (max (max (fs i) fl) (((fe i) + (k : Int)) - m0)))), (8, .int (iZ (min (fs i + 24) (((fe i) + (k : Int)) - (sh i)))))]) d_Rp_earliestEnd_96 rfl (by decide) rfl ?_
        refine ev_goto (tgt := 27) d_Rp_earliestEnd_99 rfl ?_
        have nk : ¬ cEa (n, fs, fe, sh, m0, g0, ekZ tk U nu) i fl k := by
          intro w9
          obtain ⟨w1, w2⟩ := w9
          exact w2 c90
        refine ev_loc [(0, .ref xr), (1, .int (iZ (i : Int))), (2, .int (iZ fl)), (3, .int (iZ (max (fs i) fl))), (4, .int (iZ (fs i + 24))), (5, .int (iZ ((k + 1 : Nat) : Int)))] (by simp) ?_
        exact ih (d - 1) (by omega) (k + 1) (by omega) (fun j hj => by rcases Nat.lt_succ_iff_lt_or_eq.mp hj with w | rfl; exact hno j w; exact nk)
      · refine ev_iload d_Rp_earliestEnd_93 rfl ?_
        exact ev_ireturn d_Rp_earliestEnd_95 rfl (by decide) (by decide) (⟨_, rfl, rfl, Or.inr ⟨k, by omega, rfl, ⟨show max (max (fs i) fl) (fe i + (k : Int) - m0) ≤ min (fs i + 24) (fe i + (k : Int) - sh i) by omega, c90⟩, hno⟩⟩)
set_option maxHeartbeats 4000000 in
set_option maxRecDepth 100000 in
theorem c_Rp_earliestEnd (G : GT) (h : HM) (xr xo xf xu a0 a1 a2 a3 a4 a5 a6 : Nat) (n i : Nat) (us nu : Nat) (U : Nat → Int) (g0 l0 m0 s0 num den tk : Int) (fl : Int) (fs fe sh : Nat → Int) (hrp : h xr = some (.inr (9, [.ref xo, .ref xf, .ref xu, .ref a0, .ref a1, .ref a2, .ref a3, .ref a4, .ref a5, .ref a6]))) (hf : h xf = some (.inr (5, [.int (iZ num), .int (iZ den), .long (lZ tk)]))) (hu : h xu = some (.inr (10, [.int (iZ g0), .int (iZ l0), .int (iZ m0), .int (iZ s0), .ref us, .int (iZ (nu : Int))]))) (hus : h us = some (.inl (G_i G, 20, .inl (iA U)))) (ha0 : h a0 = some (.inl (G_i G, 16, .inl (iA fs)))) (ha1 : h a1 = some (.inl (G_i G, 16, .inl (iA fe)))) (ha2 : h a2 = some (.inl (G_i G, 16, .inl (iA sh)))) (hnu : nu ≤ 20) (hU : ∀ k, k < nu → 0 ≤ U k ∧ U k ≤ 216000) (htk : 11760000 ≤ tk ∧ tk ≤ 705600000) (hi : i < 16) (hm0 : 0 ≤ m0 ∧ m0 ≤ 400) (hfs : ∀ k, -100 ≤ fs k ∧ fs k ≤ 300000) (hfe : ∀ k, -100 ≤ fe k ∧ fe k ≤ 300000) (hsh : ∀ k, 0 ≤ sh k ∧ sh k ≤ 20000000) (hfl : 0 ≤ fl ∧ fl ≤ 500000) (n_01 : a0 ≠ a1) (n_02 : a0 ≠ a2) (n_12 : a1 ≠ a2) : Rn G M_Rp_earliestEnd (rm 3 90) [.ref xr, .int (iZ (i : Int)), .int (iZ fl)] h (fun r h' => ∃ z : Int, r = some (.int (iZ z)) ∧ h' = h ∧ ((z = -1 ∧ ∀ k, k < 97 → ¬ cEa (n, fs, fe, sh, m0, g0, ekZ tk U nu) i fl k) ∨ (∃ k : Nat, k < 97 ∧ z = fe i + (k : Int) ∧ cEa (n, fs, fe, sh, m0, g0, ekZ tk U nu) i fl k ∧ ∀ k' : Nat, k' < k → ¬ cEa (n, fs, fe, sh, m0, g0, ekZ tk U nu) i fl k'))) := by
  refine rn_of (by decide) (Nat.le_of_ble_eq_true rfl) ?_
  show Ev G M_Rp_earliestEnd _ _ 0 [(0, .ref xr), (1, .int (iZ (i : Int))), (2, .int (iZ fl))] [] _ 0 0
  have r0 := hfs i
  have r1 := hfe i
  have r2 := hsh i
  refine ev_aload_n d_Rp_earliestEnd_0 rfl rfl ?_
  refine ev_get d_Rp_earliestEnd_1 fl_Rp_9 hrp rfl ?_
  refine ev_iload_n d_Rp_earliestEnd_4 rfl rfl ?_
  refine ez_iaload i d_Rp_earliestEnd_5 ha0 (by omega) (by omega) (by decide) ?_
  refine ev_iload_n d_Rp_earliestEnd_6 rfl rfl ?_
  refine ez_max (by omega) (by omega) d_Rp_earliestEnd_7 ml_Rp_113 ms_Math_max in_Math co_Math_max (by decide) (by decide) (by decide) (by decide) ?_
  refine ev_istore_n (L' := [(0, .ref xr), (1, .int (iZ (i : Int))), (2, .int (iZ fl)), (3, .int (iZ (max (fs i) fl)))]) d_Rp_earliestEnd_10 rfl (by decide) rfl ?_
  refine ev_aload_n d_Rp_earliestEnd_11 rfl rfl ?_
  refine ev_get d_Rp_earliestEnd_12 fl_Rp_9 hrp rfl ?_
  refine ev_iload_n d_Rp_earliestEnd_15 rfl rfl ?_
  refine ez_iaload i d_Rp_earliestEnd_16 ha0 (by omega) (by omega) (by decide) ?_
  refine ev_bipush (v := iZ 25) d_Rp_earliestEnd_17 rfl ?_
  refine ez_iadd d_Rp_earliestEnd_19 ?_
  refine ev_iconst (v := iZ 1) d_Rp_earliestEnd_20 rfl ?_
  refine ez_isub d_Rp_earliestEnd_21 ?_
  rw [show (((fs i) + 25) - 1 : Int) = fs i + 24 from by omega]
  refine ev_istore (L' := [(0, .ref xr), (1, .int (iZ (i : Int))), (2, .int (iZ fl)), (3, .int (iZ (max (fs i) fl))), (4, .int (iZ (fs i + 24)))]) d_Rp_earliestEnd_22 (by decide) rfl ?_
  refine ev_iconst (v := iZ 0) d_Rp_earliestEnd_24 rfl ?_
  refine ev_istore (L' := [(0, .ref xr), (1, .int (iZ (i : Int))), (2, .int (iZ fl)), (3, .int (iZ (max (fs i) fl))), (4, .int (iZ (fs i + 24))), (5, .int (iZ 0))]) d_Rp_earliestEnd_25 (by decide) rfl ?_
  exact lp_Rp_early G h xr xo xf xu a0 a1 a2 a3 a4 a5 a6 n i us nu U g0 l0 m0 s0 num den tk fl fs fe sh hrp hf hu hus ha0 ha1 ha2 hnu hU htk hi hm0 hfs hfe hsh hfl n_01 n_02 n_12 97 0 (by omega) (fun j hj => absurd hj (by omega))
set_option maxHeartbeats 4000000 in
set_option maxRecDepth 100000 in
theorem lp_Rp_stuck (G : GT) (h : HM) (xr xo xf xu a0 a1 a2 a3 a4 a5 a6 : Nat) (o1 o2 o3 o4 n : Nat) (us nu : Nat) (U : Nat → Int) (g0 l0 m0 s0 num den tk : Int) (fs fe sh f1 f2 f3 : Nat → Int) (P : Rp) (hrp : h xr = some (.inr (9, [.ref xo, .ref xf, .ref xu, .ref a0, .ref a1, .ref a2, .ref a3, .ref a4, .ref a5, .ref a6]))) (ho : h xo = some (.inr (2, [.ref o1, .ref o2, .ref o3, .ref o4, .int (iZ (n : Int))]))) (hf : h xf = some (.inr (5, [.int (iZ num), .int (iZ den), .long (lZ tk)]))) (hu : h xu = some (.inr (10, [.int (iZ g0), .int (iZ l0), .int (iZ m0), .int (iZ s0), .ref us, .int (iZ (nu : Int))]))) (hus : h us = some (.inl (G_i G, 20, .inl (iA U)))) (ha0 : h a0 = some (.inl (G_i G, 16, .inl (iA fs)))) (ha1 : h a1 = some (.inl (G_i G, 16, .inl (iA fe)))) (ha2 : h a2 = some (.inl (G_i G, 16, .inl (iA sh)))) (hnu : nu ≤ 20) (hU : ∀ k, k < nu → 0 ≤ U k ∧ U k ≤ 216000) (htk : 11760000 ≤ tk ∧ tk ≤ 705600000) (hn : n ≤ 16) (hg : 0 ≤ g0 ∧ g0 ≤ 20) (hm0 : 0 ≤ m0 ∧ m0 ≤ 400) (hfs : ∀ k, -100 ≤ fs k ∧ fs k ≤ 300000) (hfe : ∀ k, -100 ≤ fe k ∧ fe k ≤ 300000) (hsh : ∀ k, 0 ≤ sh k ∧ sh k ≤ 20000000) (n_01 : a0 ≠ a1) (n_02 : a0 ≠ a2) (n_12 : a1 ≠ a2) (hti : cTie P (n, f1, f2, f3, m0, g0, ekZ tk U nu)) (hag : ∀ c, c < n → fs c = f1 c ∧ fe c = f2 c ∧ sh c = f3 c) : ∀ (d : Nat) (i : Nat) (fl : Int), i + d = n → (0 ≤ fl ∧ fl ≤ 500000) → cMi P i fl → Ev G M_Rp_firstStuck (rm 4 130) (fun r h' => ∃ z : Nat, r = some (.int (iZ (z : Int))) ∧ h' = h ∧ z ≤ n ∧ (∃ x, rVP P z x) ∧ (z < n → ¬ ∃ x, rVP P (z + 1) x)) 4 [(0, .ref xr), (1, .int (iZ fl)), (2, .int (iZ (i : Int)))] [] h 0 0 := by
  intro d
  induction d using Nat.strongRecOn with
  | ind d ih =>
  intro i fl hd hfl hmi
  refine ev_iload_n d_Rp_firstStuck_4 rfl rfl ?_
  refine ev_aload_n d_Rp_firstStuck_5 rfl rfl ?_
  refine ev_get d_Rp_firstStuck_6 fl_Rp_33 hrp rfl ?_
  refine ev_get d_Rp_firstStuck_9 fl_Rp_45 ho rfl ?_
  refine ez_icmp_ge (tgt := 45) (by omega) (by omega) d_Rp_firstStuck_12 rfl (fun c12 => ?_) (fun c12 => ?_)
  · refine ev_aload_n d_Rp_firstStuck_45 rfl rfl ?_
    refine ev_get d_Rp_firstStuck_46 fl_Rp_33 hrp rfl ?_
    refine ev_get d_Rp_firstStuck_49 fl_Rp_45 ho rfl ?_
    exact ev_ireturn d_Rp_firstStuck_52 rfl (by decide) (by decide) (⟨n, rfl, rfl, by omega, by rw [show n = i from by omega]; exact hmi.2.2.1.imp (fun x hx => hx.1), fun w => absurd w (by omega)⟩)
  · refine ev_aload_n d_Rp_firstStuck_15 rfl rfl ?_
    refine ev_iload_n d_Rp_firstStuck_16 rfl rfl ?_
    refine ev_iload_n d_Rp_firstStuck_17 rfl rfl ?_
    refine ev_callV M_Rp_earliestEnd (rm 3 90) _ (As := [.int (iZ (i : Int)), .int (iZ fl)]) (c_Rp_earliestEnd G h xr xo xf xu a0 a1 a2 a3 a4 a5 a6 n i us nu U g0 l0 m0 s0 num den tk fl fs fe sh hrp hf hu hus ha0 ha1 ha2 hnu hU htk (by omega) hm0 hfs hfe hsh hfl n_01 n_02 n_12) d_Rp_firstStuck_18 mk_Rp_earliestEnd ml_Rp_122 mv_Rp_earliestEnd hrp rfl rfl rfl (Nat.le_of_ble_eq_true rfl) ⟨by decide, by decide⟩ ⟨by decide, by decide⟩ (fun r h9 hq => ?_)
    obtain ⟨z, rfl, rfl, hz⟩ := hq
    obtain ⟨g1, g2, g3⟩ := hag i (by omega)
    have ec : ∀ k, cEa (n, fs, fe, sh, m0, g0, ekZ tk U nu) i fl k ↔ cEa (n, f1, f2, f3, m0, g0, ekZ tk U nu) i fl k := fun k => cEa_c g1 g2 g3 rfl
    have r1 := hfe i
    have hz2 : (z = -1 ∧ ∀ k, k < 97 → ¬ cEa (n, f1, f2, f3, m0, g0, ekZ tk U nu) i fl k) ∨ (∃ k : Nat, k < 97 ∧ z = f2 i + (k : Int) ∧ cEa (n, f1, f2, f3, m0, g0, ekZ tk U nu) i fl k ∧ ∀ k' : Nat, k' < k → ¬ cEa (n, f1, f2, f3, m0, g0, ekZ tk U nu) i fl k') := by
      rcases hz with ⟨q1, q2⟩ | ⟨k, q1, q2, q3, q4⟩
      · exact Or.inl ⟨q1, fun k hk w => q2 k hk ((ec k).mpr w)⟩
      · exact Or.inr ⟨k, q1, by rw [← g2]; exact q2, (ec k).mp q3, fun k' hk w => q4 k' hk ((ec k').mpr w)⟩
    have hzr : -1 ≤ z ∧ z ≤ 300096 := by
      rcases hz2 with ⟨q1, _⟩ | ⟨k, q1, q2, q3, _⟩
      · omega
      · have := hti.2.2.2.1 _ q3.2
        replace this : 0 ≤ f2 i + (k : Int) := this
        omega
    refine ev_istore_n (L' := [(0, .ref xr), (1, .int (iZ fl)), (2, .int (iZ (i : Int))), (3, .int (iZ z))]) d_Rp_firstStuck_21 rfl (by decide) rfl ?_
    refine ev_iload_n d_Rp_firstStuck_22 rfl rfl ?_
    refine ev_iconst (v := iZ (-1)) d_Rp_firstStuck_23 rfl ?_
    refine ez_icmp_ne (tgt := 29) (by omega) (by decide) d_Rp_firstStuck_24 rfl (fun c24 => ?_) (fun c24 => ?_)
    · refine ev_iload_n d_Rp_firstStuck_29 rfl rfl ?_
      refine ev_aload_n d_Rp_firstStuck_30 rfl rfl ?_
      refine ev_get d_Rp_firstStuck_31 fl_Rp_41 hrp rfl ?_
      refine ev_get d_Rp_firstStuck_34 fl_Rp_97 hu rfl ?_
      refine ez_iadd d_Rp_firstStuck_37 ?_
      refine ev_istore_n (L' := [(0, .ref xr), (1, .int (iZ (z + g0))), (2, .int (iZ (i : Int))), (3, .int (iZ z))]) d_Rp_firstStuck_38 rfl (by decide) rfl ?_
      refine ez_iinc (L' := [(0, .ref xr), (1, .int (iZ (z + g0))), (2, .int (iZ ((i + 1 : Nat) : Int))), (3, .int (iZ z))]) d_Rp_firstStuck_39 rfl (by decide) rfl ?_
      refine ev_goto (tgt := 4) d_Rp_firstStuck_42 rfl ?_
      have hmi2 : cMi P (i + 1) (z + g0) := by
        rcases hz2 with ⟨q1, q2⟩ | ⟨k, q1, q2, q3, q4⟩
        · omega
        · rw [q2]
          exact cMi_s hti (show i < n by omega) hmi q1 q3 q4
      refine ev_loc [(0, .ref xr), (1, .int (iZ (z + g0))), (2, .int (iZ ((i + 1 : Nat) : Int)))] (by simp) ?_
      exact ih (d - 1) (by omega) (i + 1) (z + g0) (by omega) (by omega) hmi2
    · refine ev_iload_n d_Rp_firstStuck_27 rfl rfl ?_
      have nv : ¬ ∃ x, rVP P (i + 1) x := by
        rcases hz2 with ⟨q1, q2⟩ | ⟨k, q1, q2, q3, _⟩
        · exact cMi_no hti (show i < n by omega) hmi q2
        · have := hti.2.2.2.1 _ q3.2
          replace this : 0 ≤ f2 i + (k : Int) := this
          omega
      exact ev_ireturn d_Rp_firstStuck_28 rfl (by decide) (by decide) (⟨i, rfl, rfl, by omega, hmi.2.2.1.imp (fun x hx => hx.1), fun _ => nv⟩)
set_option maxHeartbeats 4000000 in
set_option maxRecDepth 100000 in
theorem c_Rp_firstStuck (G : GT) (h : HM) (xr xo xf xu a0 a1 a2 a3 a4 a5 a6 : Nat) (o1 o2 o3 o4 n : Nat) (us nu : Nat) (U : Nat → Int) (g0 l0 m0 s0 num den tk : Int) (fs fe sh f1 f2 f3 : Nat → Int) (P : Rp) (hrp : h xr = some (.inr (9, [.ref xo, .ref xf, .ref xu, .ref a0, .ref a1, .ref a2, .ref a3, .ref a4, .ref a5, .ref a6]))) (ho : h xo = some (.inr (2, [.ref o1, .ref o2, .ref o3, .ref o4, .int (iZ (n : Int))]))) (hf : h xf = some (.inr (5, [.int (iZ num), .int (iZ den), .long (lZ tk)]))) (hu : h xu = some (.inr (10, [.int (iZ g0), .int (iZ l0), .int (iZ m0), .int (iZ s0), .ref us, .int (iZ (nu : Int))]))) (hus : h us = some (.inl (G_i G, 20, .inl (iA U)))) (ha0 : h a0 = some (.inl (G_i G, 16, .inl (iA fs)))) (ha1 : h a1 = some (.inl (G_i G, 16, .inl (iA fe)))) (ha2 : h a2 = some (.inl (G_i G, 16, .inl (iA sh)))) (hnu : nu ≤ 20) (hU : ∀ k, k < nu → 0 ≤ U k ∧ U k ≤ 216000) (htk : 11760000 ≤ tk ∧ tk ≤ 705600000) (hn : n ≤ 16) (hg : 0 ≤ g0 ∧ g0 ≤ 20) (hm0 : 0 ≤ m0 ∧ m0 ≤ 400) (hfs : ∀ k, -100 ≤ fs k ∧ fs k ≤ 300000) (hfe : ∀ k, -100 ≤ fe k ∧ fe k ≤ 300000) (hsh : ∀ k, 0 ≤ sh k ∧ sh k ≤ 20000000) (n_01 : a0 ≠ a1) (n_02 : a0 ≠ a2) (n_12 : a1 ≠ a2) (hti : cTie P (n, f1, f2, f3, m0, g0, ekZ tk U nu)) (hag : ∀ c, c < n → fs c = f1 c ∧ fe c = f2 c ∧ sh c = f3 c) : Rn G M_Rp_firstStuck (rm 4 130) [.ref xr] h (fun r h' => ∃ z : Nat, r = some (.int (iZ (z : Int))) ∧ h' = h ∧ z ≤ n ∧ (∃ x, rVP P z x) ∧ (z < n → ¬ ∃ x, rVP P (z + 1) x)) := by
  refine rn_of (by decide) (Nat.le_of_ble_eq_true rfl) ?_
  show Ev G M_Rp_firstStuck _ _ 0 [(0, .ref xr)] [] _ 0 0
  refine ev_iconst (v := iZ 0) d_Rp_firstStuck_0 rfl ?_
  refine ev_istore_n (L' := [(0, .ref xr), (1, .int (iZ 0))]) d_Rp_firstStuck_1 rfl (by decide) rfl ?_
  refine ev_iconst (v := iZ 0) d_Rp_firstStuck_2 rfl ?_
  refine ev_istore_n (L' := [(0, .ref xr), (1, .int (iZ 0)), (2, .int (iZ 0))]) d_Rp_firstStuck_3 rfl (by decide) rfl ?_
  exact lp_Rp_stuck G h xr xo xf xu a0 a1 a2 a3 a4 a5 a6 o1 o2 o3 o4 n us nu U g0 l0 m0 s0 num den tk fs fe sh f1 f2 f3 P hrp ho hf hu hus ha0 ha1 ha2 hnu hU htk hn hg hm0 hfs hfe hsh n_01 n_02 n_12 hti hag n 0 0 (by omega) (by decide) cMi_0
set_option maxHeartbeats 4000000 in
set_option maxRecDepth 100000 in
theorem lp_Rp_first (G : GT) (h : HM) (xr xo xf xu a0 a1 a2 a3 a4 a5 a6 : Nat) (o1 o2 o3 o4 n i : Nat) (fl : Int) (fs SS A : Nat → Int) (hrp : h xr = some (.inr (9, [.ref xo, .ref xf, .ref xu, .ref a0, .ref a1, .ref a2, .ref a3, .ref a4, .ref a5, .ref a6]))) (ho : h xo = some (.inr (2, [.ref o1, .ref o2, .ref o3, .ref o4, .int (iZ (n : Int))]))) (ha0 : h a0 = some (.inl (G_i G, 16, .inl (iA fs)))) (ha5 : h a5 = some (.inl (G_i G, 400, .inl (iA SS)))) (ha6 : h a6 = some (.inl (G_i G, 400, .inl (iA A)))) (hn : n ≤ 16) (hi : i < n) (hfl : 0 ≤ fl ∧ fl ≤ 500000) (hfs : ∀ k, -100 ≤ fs k ∧ fs k ≤ 300000) (hSS : ∀ k, 0 ≤ SS k ∧ SS k ≤ 2100000) (hA : ∀ k, 0 ≤ A k ∧ A k ≤ 1000000) (n_56 : a5 ≠ a6) (hex : ∃ k : Nat, cPl fs i fl ≤ (k : Int) ∧ k < 25 ∧ SS (i * 25 + k) = cLF n fs A i fl) : ∀ (d : Nat) (k : Nat), k + d = 25 → cPl fs i fl ≤ (k : Int) → (∀ k' : Nat, cPl fs i fl ≤ (k' : Int) → k' < k → SS (i * 25 + k') ≠ cLF n fs A i fl) → Ev G M_Rp_firstBestStart (rm 3 90) (fun r h' => ∃ k : Nat, r = some (.int (iZ (k : Int))) ∧ h' = h ∧ cPl fs i fl ≤ (k : Int) ∧ k < 25 ∧ SS (i * 25 + k) = cLF n fs A i fl ∧ ∀ k' : Nat, cPl fs i fl ≤ (k' : Int) → k' < k → SS (i * 25 + k') ≠ cLF n fs A i fl) 15 [(0, .ref xr), (1, .int (iZ (i : Int))), (2, .int (iZ fl)), (3, .int (iZ (cLF n fs A (i) (fl)))), (4, .int (iZ (k : Int)))] [] h 0 0 := by
  intro d
  induction d using Nat.strongRecOn with
  | ind d ih =>
  intro k hd hpk hno
  have lr := cLF_r (N := n) (fs := fs) (i := i) (fl := fl) hA
  obtain ⟨kx, kx1, kx2, kx3⟩ := id hex
  have hkx : k ≤ kx := by rcases Nat.lt_or_ge kx k with w | w; exact absurd kx3 (hno kx kx1 w); exact w
  refine ev_iload d_Rp_firstBestStart_15 rfl ?_
  refine ev_bipush (v := iZ 25) d_Rp_firstBestStart_17 rfl ?_
  refine ez_icmp_ge (tgt := 47) (by omega) (by decide) d_Rp_firstBestStart_19 rfl (fun c19 => ?_) (fun c19 => ?_)
  · obtain ⟨k', x1, x2, x3⟩ := hex
    exact absurd x3 (hno k' x1 (by omega))
  · refine ev_aload_n d_Rp_firstBestStart_22 rfl rfl ?_
    refine ev_get d_Rp_firstBestStart_23 fl_Rp_27 hrp rfl ?_
    refine ev_iload_n d_Rp_firstBestStart_26 rfl rfl ?_
    refine ev_bipush (v := iZ 25) d_Rp_firstBestStart_27 rfl ?_
    refine ez_imul d_Rp_firstBestStart_29 ?_
    refine ev_iload d_Rp_firstBestStart_30 rfl ?_
    refine ez_iadd d_Rp_firstBestStart_32 ?_
    refine ez_iaload (i * 25 + k) d_Rp_firstBestStart_33 ha5 (by omega) (by omega) (by decide) ?_
    have rg33 := hSS (i * 25 + k)
    refine ev_iload_n d_Rp_firstBestStart_34 rfl rfl ?_
    refine ez_icmp_ne (tgt := 41) (by omega) (by omega) d_Rp_firstBestStart_35 rfl (fun c35 => ?_) (fun c35 => ?_)
    · refine ez_iinc (L' := [(0, .ref xr), (1, .int (iZ (i : Int))), (2, .int (iZ fl)), (3, .int (iZ (cLF n fs A (i) (fl)))), (4, .int (iZ ((k + 1 : Nat) : Int)))]) d_Rp_firstBestStart_41 rfl (by decide) rfl ?_
      refine ev_goto (tgt := 15) d_Rp_firstBestStart_44 rfl ?_
      exact ih (d - 1) (by omega) (k + 1) (by omega) (by omega) (fun k' a b => by rcases Nat.lt_succ_iff_lt_or_eq.mp b with w | rfl; exact hno k' a w; exact c35)
    · refine ev_iload d_Rp_firstBestStart_38 rfl ?_
      exact ev_ireturn d_Rp_firstBestStart_40 rfl (by decide) (by decide) (⟨k, rfl, rfl, hpk, by omega, c35, hno⟩)
set_option maxHeartbeats 4000000 in
set_option maxRecDepth 100000 in
theorem c_Rp_firstBest (G : GT) (h : HM) (xr xo xf xu a0 a1 a2 a3 a4 a5 a6 : Nat) (o1 o2 o3 o4 n i : Nat) (fl : Int) (fs SS A : Nat → Int) (hrp : h xr = some (.inr (9, [.ref xo, .ref xf, .ref xu, .ref a0, .ref a1, .ref a2, .ref a3, .ref a4, .ref a5, .ref a6]))) (ho : h xo = some (.inr (2, [.ref o1, .ref o2, .ref o3, .ref o4, .int (iZ (n : Int))]))) (ha0 : h a0 = some (.inl (G_i G, 16, .inl (iA fs)))) (ha5 : h a5 = some (.inl (G_i G, 400, .inl (iA SS)))) (ha6 : h a6 = some (.inl (G_i G, 400, .inl (iA A)))) (hn : n ≤ 16) (hi : i < n) (hfl : 0 ≤ fl ∧ fl ≤ 500000) (hfs : ∀ k, -100 ≤ fs k ∧ fs k ≤ 300000) (hSS : ∀ k, 0 ≤ SS k ∧ SS k ≤ 2100000) (hA : ∀ k, 0 ≤ A k ∧ A k ≤ 1000000) (n_56 : a5 ≠ a6) (hex : ∃ k : Nat, cPl fs i fl ≤ (k : Int) ∧ k < 25 ∧ SS (i * 25 + k) = cLF n fs A i fl) : Rn G M_Rp_firstBestStart (rm 3 90) [.ref xr, .int (iZ (i : Int)), .int (iZ fl)] h (fun r h' => ∃ k : Nat, r = some (.int (iZ (k : Int))) ∧ h' = h ∧ cPl fs i fl ≤ (k : Int) ∧ k < 25 ∧ SS (i * 25 + k) = cLF n fs A i fl ∧ ∀ k' : Nat, cPl fs i fl ≤ (k' : Int) → k' < k → SS (i * 25 + k') ≠ cLF n fs A i fl) := by
  refine rn_of (by decide) (Nat.le_of_ble_eq_true rfl) ?_
  show Ev G M_Rp_firstBestStart _ _ 0 [(0, .ref xr), (1, .int (iZ (i : Int))), (2, .int (iZ fl))] [] _ 0 0
  refine ev_aload_n d_Rp_firstBestStart_0 rfl rfl ?_
  refine ev_iload_n d_Rp_firstBestStart_1 rfl rfl ?_
  refine ev_iload_n d_Rp_firstBestStart_2 rfl rfl ?_
  have lr3 := cLF_r (N := n) (fs := fs) (i := i) (fl := fl) hA
  refine ev_pV M_Rp_leastFrom 2 60 (As := [.int (iZ (i : Int)), .int (iZ fl)]) (c_Rp_leastFrom G h xr xo xf xu a0 a1 a2 a3 a4 a5 a6 o1 o2 o3 o4 n (i) (fl) fs A hrp ho ha0 ha6 hn (by omega) hfs hA (by omega)) d_Rp_firstBestStart_3 mk_Rp_leastFrom ml_Rp_83 mv_Rp_leastFrom hrp rfl rfl rfl (Nat.le_of_ble_eq_true rfl) ⟨by decide, by decide⟩ ⟨by decide, by decide⟩ ?_
  refine ev_istore_n (L' := [(0, .ref xr), (1, .int (iZ (i : Int))), (2, .int (iZ fl)), (3, .int (iZ (cLF n fs A (i) (fl))))]) d_Rp_firstBestStart_6 rfl (by decide) rfl ?_
  refine ev_aload_n d_Rp_firstBestStart_7 rfl rfl ?_
  refine ev_iload_n d_Rp_firstBestStart_8 rfl rfl ?_
  refine ev_iload_n d_Rp_firstBestStart_9 rfl rfl ?_
  have pr10 := cPl_r (i := i) (fl := fl) hfs (by omega)
  refine ev_pV M_Rp_placeOfStart 1 30 (As := [.int (iZ (i : Int)), .int (iZ fl)]) (c_Rp_placeOfStart G h xr xo xf xu a0 a1 a2 a3 a4 a5 a6 (i) (fl) fs hrp ha0 (by omega) hfs (by omega)) d_Rp_firstBestStart_10 mk_Rp_placeOfStart ml_Rp_119 mv_Rp_placeOfStart hrp rfl rfl rfl (Nat.le_of_ble_eq_true rfl) ⟨by decide, by decide⟩ ⟨by decide, by decide⟩ ?_
  refine ev_istore (L' := [(0, .ref xr), (1, .int (iZ (i : Int))), (2, .int (iZ fl)), (3, .int (iZ (cLF n fs A (i) (fl)))), (4, .int (iZ (cPl fs (i) (fl))))]) d_Rp_firstBestStart_13 (by decide) rfl ?_
  obtain ⟨k, hk⟩ : ∃ k : Nat, cPl fs i fl = (k : Int) := ⟨(cPl fs i fl).toNat, by omega⟩
  have k9 := lp_Rp_first G h xr xo xf xu a0 a1 a2 a3 a4 a5 a6 o1 o2 o3 o4 n i fl fs SS A hrp ho ha0 ha5 ha6 hn hi hfl hfs hSS hA n_56 hex (25 - k) k (by obtain ⟨kx, kx1, kx2, _⟩ := hex; omega) (by omega) (fun k' a b => absurd b (by omega))
  rw [← hk] at k9
  exact k9
set_option maxHeartbeats 4000000 in
set_option maxRecDepth 100000 in
theorem lp_Rp_take (G : GT) (h0 : HM) (xr xo xf xu a0 a1 a2 a3 a4 a5 a6 : Nat) (o1 o2 o3 o4 n : Nat) (K1 K2 K3 K4 : Nat → Int) (us nu : Nat) (U : Nat → Int) (g0 l0 m0 s0 num den tk : Int) (fs fe sh f1 f2 f3 BE SS A : Nat → Int) (P : Rp) (hn : n ≤ 16) (hg : 0 ≤ g0 ∧ g0 ≤ 20) (htk : 11760000 ≤ tk ∧ tk ≤ 705600000) (hfs : ∀ k, -100 ≤ fs k ∧ fs k ≤ 300000) (hfe : ∀ k, -100 ≤ fe k ∧ fe k ≤ 300000) (hBE : ∀ k, -300 ≤ BE k ∧ BE k ≤ 400000) (hSS : ∀ k, 0 ≤ SS k ∧ SS k ≤ 2100000) (hA : ∀ k, 0 ≤ A k ∧ A k ≤ 1000000) (n_01 : a0 ≠ a1) (n_02 : a0 ≠ a2) (n_12 : a1 ≠ a2) (n_45 : a4 ≠ a5) (n_46 : a4 ≠ a6) (n_56 : a5 ≠ a6) (n_03 : a0 ≠ o3) (n_13 : a1 ≠ o3) (n_23 : a2 ≠ o3) (n_o : o1 ≠ o2) (hti : cTie P (n, f1, f2, f3, m0, g0, ekZ tk U nu)) (hag : ∀ c, c < n → fs c = f1 c ∧ fe c = f2 c ∧ sh c = f3 c) (hrw : ∀ c, c < n → cRow (n, f1, f2, f3, m0, g0, ekZ tk U nu) A SS BE c) : ∀ (d : Nat) (i : Nat) (fl : Int) (g : Nat → Nat) (h : HM), i + d = n → (0 ≤ fl ∧ fl ≤ 500000) → cFl P g i = fl → cLF (n, f1, f2, f3, m0, g0, ekZ tk U nu).1 (n, f1, f2, f3, m0, g0, ekZ tk U nu).2.1 A i fl < 1000000 → (∀ c, c < i → cGd P (n, f1, f2, f3, m0, g0, ekZ tk U nu) A SS BE g c (cFl P g c)) → h xr = some (.inr (9, [.ref xo, .ref xf, .ref xu, .ref a0, .ref a1, .ref a2, .ref a3, .ref a4, .ref a5, .ref a6])) → h xo = some (.inr (2, [.ref o1, .ref o2, .ref o3, .ref o4, .int (iZ (n : Int))])) → h o1 = some (.inl (G_j G, 16, .inr (.inl (lA (wyS P g tk K1 i))))) → h o2 = some (.inl (G_j G, 16, .inr (.inl (lA (wyE P g tk K2 i))))) → h xf = some (.inr (5, [.int (iZ num), .int (iZ den), .long (lZ tk)])) → h xu = some (.inr (10, [.int (iZ g0), .int (iZ l0), .int (iZ m0), .int (iZ s0), .ref us, .int (iZ (nu : Int))])) → h a0 = some (.inl (G_i G, 16, .inl (iA fs))) → h a1 = some (.inl (G_i G, 16, .inl (iA fe))) → h a4 = some (.inl (G_i G, 400, .inl (iA BE))) → h a5 = some (.inl (G_i G, 400, .inl (iA SS))) → h a6 = some (.inl (G_i G, 400, .inl (iA A))) → Fm [o1, o2] h0 h → Ev G M_Rp_take (rm 4 130) (fun r h' => r = none ∧ ∃ g : Nat → Nat, (∀ c, c < n → cGd P (n, f1, f2, f3, m0, g0, ekZ tk U nu) A SS BE g c (cFl P g c)) ∧ h' o1 = some (.inl (G_j G, 16, .inr (.inl (lA (wyS P g tk K1 n))))) ∧ h' o2 = some (.inl (G_j G, 16, .inr (.inl (lA (wyE P g tk K2 n))))) ∧ Fm [o1, o2] h0 h') 4 [(0, .ref xr), (1, .int (iZ fl)), (2, .int (iZ (i : Int)))] [] h 0 0 := by
  intro d
  induction d using Nat.strongRecOn with
  | ind d ih =>
  intro i fl g h hd hfr hfl hL hgd hrp ho ho1 ho2 hf hu ha0 ha1 ha4 ha5 ha6 fm
  refine ev_iload_n d_Rp_take_4 rfl rfl ?_
  refine ev_aload_n d_Rp_take_5 rfl rfl ?_
  refine ev_get d_Rp_take_6 fl_Rp_33 hrp rfl ?_
  refine ev_get d_Rp_take_9 fl_Rp_45 ho rfl ?_
  refine ez_icmp_ge (tgt := 98) (by omega) (by omega) d_Rp_take_12 rfl (fun c12 => ?_) (fun c12 => ?_)
  · exact ev_return d_Rp_take_98 rfl (by decide) (by decide) (⟨rfl, g, fun c hc => hgd c (by omega), by rw [show n = i from by omega]; exact ho1, by rw [show n = i from by omega]; exact ho2, fm⟩)
  · refine ev_aload_n d_Rp_take_15 rfl rfl ?_
    refine ev_iload_n d_Rp_take_16 rfl rfl ?_
    refine ev_iload_n d_Rp_take_17 rfl rfl ?_
    have hi : i < n := by omega
    obtain ⟨g1, g2, g3⟩ := hag i hi
    have eLF : cLF n fs A i fl = cLF n f1 A i fl := cLF_c (fun _ => g1) (fun _ _ => rfl)
    have ePl : cPl fs i fl = cPl f1 i fl := by unfold cPl; rw [g1]
    have hrow := hrw i hi
    have hex : ∃ k : Nat, cPl fs i fl ≤ (k : Int) ∧ k < 25 ∧ SS (i * 25 + k) = cLF n fs A i fl := by
      have p0 : 0 ≤ cPl f1 i fl := by unfold cPl; omega
      rw [eLF, ePl]
      have hL2 : cLF n f1 A i fl < 1000000 := hL
      unfold cLF at hL2 ⊢
      rw [if_neg (by omega)] at hL2 ⊢
      by_cases q : cPl f1 i fl < 25
      · rw [if_pos q] at hL2 ⊢
        obtain ⟨_, _, _, k3⟩ := hrow (cPl f1 i fl).toNat (by omega)
        rcases k3 with k3 | ⟨k', a, b, c⟩
        · omega
        · exact ⟨k', by omega, b, c⟩
      · rw [if_neg q] at hL2
        omega
    refine ev_callV M_Rp_firstBestStart (rm 3 90) _ (As := [.int (iZ (i : Int)), .int (iZ fl)]) (c_Rp_firstBest G h xr xo xf xu a0 a1 a2 a3 a4 a5 a6 o1 o2 o3 o4 n i fl fs SS A hrp ho ha0 ha5 ha6 hn hi (by omega) hfs hSS hA n_56 hex) d_Rp_take_18 mk_Rp_firstBestStart ml_Rp_125 mv_Rp_firstBestStart hrp rfl rfl rfl (Nat.le_of_ble_eq_true rfl) ⟨by decide, by decide⟩ ⟨by decide, by decide⟩ (fun r h9 hq => ?_)
    obtain ⟨k, rfl, rfl, k1, k2, k3, k4⟩ := hq
    rw [eLF] at k3 k4
    rw [ePl] at k1 k4
    obtain ⟨b, b0, b1⟩ : ∃ b : Nat, b < 97 ∧ BE (i * 25 + k) = f2 i + (b : Int) := by
      obtain ⟨⟨b, c1, c2, c3⟩, _⟩ := hrow k k2
      rw [k3] at c3
      rcases c1 with ⟨q, _⟩ | ⟨q1, q2, q3, _⟩
      · rw [if_pos q] at c3
        replace hL : cLF n f1 A i fl < 1000000 := hL
        omega
      · have : cTo f1 f2 m0 i k ≤ 96 := by unfold cTo; omega
        replace q3 : b ≤ cTo f1 f2 m0 i k := q3
        exact ⟨b.toNat, by omega, by rw [show ((b.toNat : Nat) : Int) = b from by omega]; exact c2⟩
    obtain ⟨g', hg'⟩ : ∃ g' : Nat → Nat, g' = fun c => if c = i then 128 * k + b else g c := ⟨_, rfl⟩
    have gi : g' i = 128 * k + b := by rw [hg']; exact if_pos rfl
    have gc : ∀ c, c < i → g' c = g c := fun c hc => by rw [hg']; exact if_neg (by omega)
    have d1 : (128 * k + b) / 128 = k := by omega
    have d2 : (128 * k + b) % 128 = b := by omega
    have fl2 : cFl P g' i = fl := by
      rw [← hfl]
      cases i with
      | zero => rfl
      | succ i => show rEn P i (g' i) + _ = rEn P i (g i) + _; rw [gc i (by omega)]
    have gd : cGd P (n, f1, f2, f3, m0, g0, ekZ tk U nu) A SS BE g' i fl := by
      unfold cGd
      rw [gi, d1, d2]
      exact ⟨k2, b0, k1, k3, k4, b1⟩
    obtain ⟨s1_, s2_, s3_, s4_, _⟩ := c_step hti hi hrow (by omega) gd hL
    have es : rSt P i (g' i) = fs i + (k : Int) := by
      have := (hti.1 i hi).1
      replace this : f1 i = P.2.1 i - 12 := this
      unfold rSt
      rw [gi, d1, g1, this]
    have ee : rEn P i (g' i) = f2 i + (b : Int) := by
      have := (hti.1 i hi).2
      replace this : f2 i = P.2.2.1 i - 48 := this
      unfold rEn
      rw [gi, d2, this]
    have eg : P.2.2.2 = g0 := hti.2.1
    have rc_ := rCo_r (g' i) (by rw [gi]; omega) (by rw [gi]; omega)
    have fr_ := hfe i
    refine ev_istore_n (L' := [(0, .ref xr), (1, .int (iZ fl)), (2, .int (iZ (i : Int))), (3, .int (iZ (k : Int)))]) d_Rp_take_21 rfl (by decide) rfl ?_
    refine ev_aload_n d_Rp_take_22 rfl rfl ?_
    refine ev_get d_Rp_take_23 fl_Rp_24 hrp rfl ?_
    refine ev_iload_n d_Rp_take_26 rfl rfl ?_
    refine ev_bipush (v := iZ 25) d_Rp_take_27 rfl ?_
    refine ez_imul d_Rp_take_29 ?_
    refine ev_iload_n d_Rp_take_30 rfl rfl ?_
    refine ez_iadd d_Rp_take_31 ?_
    refine ez_iaload (i * 25 + k) d_Rp_take_32 ha4 (by omega) (by omega) (by decide) ?_
    have rg32 := hBE (i * 25 + k)
    refine ev_top (f2 i + (b : Int)) (b1) ?_
    skip
    refine ev_istore (L' := [(0, .ref xr), (1, .int (iZ fl)), (2, .int (iZ (i : Int))), (3, .int (iZ (k : Int))), (4, .int (iZ (f2 i + (b : Int))))]) d_Rp_take_33 (by decide) rfl ?_
    refine ev_aload_n d_Rp_take_35 rfl rfl ?_
    refine ev_get d_Rp_take_36 fl_Rp_33 hrp rfl ?_
    refine ev_get d_Rp_take_39 fl_Rp_51 ho rfl ?_
    refine ev_iload_n d_Rp_take_42 rfl rfl ?_
    refine ev_aload_n d_Rp_take_43 rfl rfl ?_
    refine ev_get d_Rp_take_44 fl_Rp_9 hrp rfl ?_
    refine ev_iload_n d_Rp_take_47 rfl rfl ?_
    refine ez_iaload i d_Rp_take_48 ha0 (by omega) (by omega) (by decide) ?_
    have rg48 := hfs i
    refine ev_iload_n d_Rp_take_49 rfl rfl ?_
    refine ez_iadd d_Rp_take_50 ?_
    refine ez_i2l (by omega) d_Rp_take_51 ?_
    refine ev_aload_n d_Rp_take_52 rfl rfl ?_
    refine ev_get d_Rp_take_53 fl_Rp_37 hrp rfl ?_
    refine ev_get d_Rp_take_56 fl_Rp_128 hf rfl ?_
    refine ez_lmul d_Rp_take_59 ?_
    refine ev_topl (rSt P i (g' i) * tk) (by rw [es]) ?_
    skip
    refine ez_lastore (F' := zup (wyS P g tk K1 i) i (rSt P i (g' i) * tk)) i d_Rp_take_60 ho1 (by omega) (by omega) (by decide) rfl (fun h1 h1a h1o => ?_)
    have hrp := (h1o _ (cne hrp ho1 (by simp))).trans hrp
    have ho := (h1o _ (cne ho ho1 (by simp))).trans ho
    have ho2 := (h1o _ (Ne.symm n_o)).trans ho2
    have hf := (h1o _ (cne hf ho1 (by simp))).trans hf
    have hu := (h1o _ (cne hu ho1 (by simp))).trans hu
    have ha0 := (h1o _ (cne ha0 ho1 (by simp))).trans ha0
    have ha1 := (h1o _ (cne ha1 ho1 (by simp))).trans ha1
    have ha4 := (h1o _ (cne ha4 ho1 (by simp))).trans ha4
    have ha5 := (h1o _ (cne ha5 ho1 (by simp))).trans ha5
    have ha6 := (h1o _ (cne ha6 ho1 (by simp))).trans ha6
    have ho1 := h1a
    have fm := fm.step (by simp) h1o
    refine ev_aload_n d_Rp_take_61 rfl rfl ?_
    refine ev_get d_Rp_take_62 fl_Rp_33 hrp rfl ?_
    refine ev_get d_Rp_take_65 fl_Rp_61 ho rfl ?_
    refine ev_iload_n d_Rp_take_68 rfl rfl ?_
    refine ev_iload d_Rp_take_69 rfl ?_
    refine ez_i2l (by omega) d_Rp_take_71 ?_
    refine ev_aload_n d_Rp_take_72 rfl rfl ?_
    refine ev_get d_Rp_take_73 fl_Rp_37 hrp rfl ?_
    refine ev_get d_Rp_take_76 fl_Rp_128 hf rfl ?_
    refine ez_lmul d_Rp_take_79 ?_
    refine ev_topl (rEn P i (g' i) * tk) (by rw [ee]) ?_
    skip
    refine ez_lastore (F' := zup (wyE P g tk K2 i) i (rEn P i (g' i) * tk)) i d_Rp_take_80 ho2 (by omega) (by omega) (by decide) rfl (fun h2 h2a h2o => ?_)
    have hrp := (h2o _ (cne hrp ho2 (by simp))).trans hrp
    have ho := (h2o _ (cne ho ho2 (by simp))).trans ho
    have ho1 := (h2o _ n_o).trans ho1
    have hf := (h2o _ (cne hf ho2 (by simp))).trans hf
    have hu := (h2o _ (cne hu ho2 (by simp))).trans hu
    have ha0 := (h2o _ (cne ha0 ho2 (by simp))).trans ha0
    have ha1 := (h2o _ (cne ha1 ho2 (by simp))).trans ha1
    have ha4 := (h2o _ (cne ha4 ho2 (by simp))).trans ha4
    have ha5 := (h2o _ (cne ha5 ho2 (by simp))).trans ha5
    have ha6 := (h2o _ (cne ha6 ho2 (by simp))).trans ha6
    have ho2 := h2a
    have fm := fm.step (by simp) h2o
    refine ev_iload d_Rp_take_81 rfl ?_
    refine ev_aload_n d_Rp_take_83 rfl rfl ?_
    refine ev_get d_Rp_take_84 fl_Rp_41 hrp rfl ?_
    refine ev_get d_Rp_take_87 fl_Rp_97 hu rfl ?_
    refine ez_iadd d_Rp_take_90 ?_
    refine ev_istore_n (L' := [(0, .ref xr), (1, .int (iZ ((f2 i + (b : Int)) + g0))), (2, .int (iZ (i : Int))), (3, .int (iZ (k : Int))), (4, .int (iZ (f2 i + (b : Int))))]) d_Rp_take_91 rfl (by decide) rfl ?_
    refine ez_iinc (L' := [(0, .ref xr), (1, .int (iZ ((f2 i + (b : Int)) + g0))), (2, .int (iZ ((i + 1 : Nat) : Int))), (3, .int (iZ (k : Int))), (4, .int (iZ (f2 i + (b : Int))))]) d_Rp_take_92 rfl (by decide) rfl ?_
    refine ev_goto (tgt := 4) d_Rp_take_95 rfl ?_
    refine ev_loc [(0, .ref xr), (1, .int (iZ (f2 i + (b : Int) + g0))), (2, .int (iZ ((i + 1 : Nat) : Int)))] (by simp) ?_
    exact ih (d - 1) (by omega) (i + 1) (f2 i + (b : Int) + g0) g' h2 (by omega) (by rw [g2] at fr_; rw [ee] at s3_; omega) (by show rEn P i (g' i) + P.2.2.2 = _; rw [ee, eg]) (by rw [ee, eg] at s4_; replace s4_ : cLF n f1 A i fl = rCo (g' i) + cLF n f1 A (i + 1) (f2 i + (b : Int) + g0) := s4_; show cLF n f1 A (i + 1) (f2 i + (b : Int) + g0) < 1000000; replace hL : cLF n f1 A i fl < 1000000 := hL; omega) (by
      intro c hc
      rcases Nat.lt_succ_iff_lt_or_eq.mp hc with w | rfl
      · have := hgd c w
        have e2 : cFl P g' c = cFl P g c := by
          cases c with
          | zero => rfl
          | succ c => show rEn P c (g' c) + _ = rEn P c (g c) + _; rw [gc c (by omega)]
        unfold cGd at this ⊢
        rw [gc c w, e2]
        exact this
      · rw [fl2]; exact gd) hrp ho (by rw [show wyS P g' tk K1 (i + 1) = _ from (wy_s (V := fun c => rSt P c (g c) * tk) (W := fun c => rSt P c (g' c) * tk) (fun c hc => by show _ * _ = _ * _; rw [gc c hc]) rfl).symm]; exact ho1) (by rw [show wyE P g' tk K2 (i + 1) = _ from (wy_s (V := fun c => rEn P c (g c) * tk) (W := fun c => rEn P c (g' c) * tk) (fun c hc => by show _ * _ = _ * _; rw [gc c hc]) rfl).symm]; exact ho2) hf hu ha0 ha1 ha4 ha5 ha6 fm
set_option maxHeartbeats 4000000 in
set_option maxRecDepth 100000 in
theorem c_Rp_take (G : GT) (h : HM) (xr xo xf xu a0 a1 a2 a3 a4 a5 a6 : Nat) (o1 o2 o3 o4 n : Nat) (K1 K2 K3 K4 : Nat → Int) (us nu : Nat) (U : Nat → Int) (g0 l0 m0 s0 num den tk : Int) (fs fe sh f1 f2 f3 BE SS A : Nat → Int) (P : Rp) (hrp : h xr = some (.inr (9, [.ref xo, .ref xf, .ref xu, .ref a0, .ref a1, .ref a2, .ref a3, .ref a4, .ref a5, .ref a6]))) (ho : h xo = some (.inr (2, [.ref o1, .ref o2, .ref o3, .ref o4, .int (iZ (n : Int))]))) (ho1 : h o1 = some (.inl (G_j G, 16, .inr (.inl (lA K1))))) (ho2 : h o2 = some (.inl (G_j G, 16, .inr (.inl (lA K2))))) (hf : h xf = some (.inr (5, [.int (iZ num), .int (iZ den), .long (lZ tk)]))) (hu : h xu = some (.inr (10, [.int (iZ g0), .int (iZ l0), .int (iZ m0), .int (iZ s0), .ref us, .int (iZ (nu : Int))]))) (ha0 : h a0 = some (.inl (G_i G, 16, .inl (iA fs)))) (ha1 : h a1 = some (.inl (G_i G, 16, .inl (iA fe)))) (ha4 : h a4 = some (.inl (G_i G, 400, .inl (iA BE)))) (ha5 : h a5 = some (.inl (G_i G, 400, .inl (iA SS)))) (ha6 : h a6 = some (.inl (G_i G, 400, .inl (iA A)))) (hn : n ≤ 16) (hg : 0 ≤ g0 ∧ g0 ≤ 20) (htk : 11760000 ≤ tk ∧ tk ≤ 705600000) (hfs : ∀ k, -100 ≤ fs k ∧ fs k ≤ 300000) (hfe : ∀ k, -100 ≤ fe k ∧ fe k ≤ 300000) (hBE : ∀ k, -300 ≤ BE k ∧ BE k ≤ 400000) (hSS : ∀ k, 0 ≤ SS k ∧ SS k ≤ 2100000) (hA : ∀ k, 0 ≤ A k ∧ A k ≤ 1000000) (n_01 : a0 ≠ a1) (n_02 : a0 ≠ a2) (n_12 : a1 ≠ a2) (n_45 : a4 ≠ a5) (n_46 : a4 ≠ a6) (n_56 : a5 ≠ a6) (n_03 : a0 ≠ o3) (n_13 : a1 ≠ o3) (n_23 : a2 ≠ o3) (n_o : o1 ≠ o2) (hti : cTie P (n, f1, f2, f3, m0, g0, ekZ tk U nu)) (hag : ∀ c, c < n → fs c = f1 c ∧ fe c = f2 c ∧ sh c = f3 c) (hrw : ∀ c, c < n → cRow (n, f1, f2, f3, m0, g0, ekZ tk U nu) A SS BE c) (hL : cLF n f1 A 0 0 < 1000000) : Rn G M_Rp_take (rm 4 130) [.ref xr] h (fun r h' => r = none ∧ ∃ g : Nat → Nat, (∀ c, c < n → cGd P (n, f1, f2, f3, m0, g0, ekZ tk U nu) A SS BE g c (cFl P g c)) ∧ h' o1 = some (.inl (G_j G, 16, .inr (.inl (lA (wyS P g tk K1 n))))) ∧ h' o2 = some (.inl (G_j G, 16, .inr (.inl (lA (wyE P g tk K2 n))))) ∧ Fm [o1, o2] h h') := by
  refine rn_of (by decide) (Nat.le_of_ble_eq_true rfl) ?_
  show Ev G M_Rp_take _ _ 0 [(0, .ref xr)] [] _ 0 0
  refine ev_iconst (v := iZ 0) d_Rp_take_0 rfl ?_
  refine ev_istore_n (L' := [(0, .ref xr), (1, .int (iZ 0))]) d_Rp_take_1 rfl (by decide) rfl ?_
  refine ev_iconst (v := iZ 0) d_Rp_take_2 rfl ?_
  refine ev_istore_n (L' := [(0, .ref xr), (1, .int (iZ 0)), (2, .int (iZ 0))]) d_Rp_take_3 rfl (by decide) rfl ?_
  exact lp_Rp_take G h xr xo xf xu a0 a1 a2 a3 a4 a5 a6 o1 o2 o3 o4 n K1 K2 K3 K4 us nu U g0 l0 m0 s0 num den tk fs fe sh f1 f2 f3 BE SS A P hn hg htk hfs hfe hBE hSS hA n_01 n_02 n_12 n_45 n_46 n_56 n_03 n_13 n_23 n_o hti hag hrw n 0 0 (fun _ => 0) h (by omega) (by decide) rfl hL (fun c hc => absurd hc (by omega)) hrp ho (by rw [show wyS P (fun _ => 0) tk K1 0 = K1 from wy_0]; exact ho1) (by rw [show wyE P (fun _ => 0) tk K2 0 = K2 from wy_0]; exact ho2) hf hu ha0 ha1 ha4 ha5 ha6 Fm.rf
set_option maxHeartbeats 4000000 in
set_option maxRecDepth 100000 in
theorem c_CB_repair (G : GT) (h : HM) (x b xf xu xo xp xe xw xl xr : Nat) (a0 a1 a2 a3 a4 a5 a6 o1 o2 o3 o4 pk top nx ct n : Nat) (Kp : Nat → Option Nat) (Ke : Nat → Nat) (C : Nat → Cu) (K1 K2 K3 K4 : Nat → Int) (us nu : Nat) (U : Nat → Int) (g0 l0 m0 s0 num den tk : Int) (fs fe sh ES BE SS A : Nat → Int) (hx : h x = some (.inr (0, [.ref b, .ref xf, .ref xu, .ref xo, .ref xp, .ref xe, .ref xw, .ref xl, .ref xr]))) (hrp : h xr = some (.inr (9, [.ref xo, .ref xf, .ref xu, .ref a0, .ref a1, .ref a2, .ref a3, .ref a4, .ref a5, .ref a6]))) (ho : h xo = some (.inr (2, [.ref o1, .ref o2, .ref o3, .ref o4, .int (iZ (n : Int))]))) (ho1 : h o1 = some (.inl (G_j G, 16, .inr (.inl (lA K1))))) (ho2 : h o2 = some (.inl (G_j G, 16, .inr (.inl (lA K2))))) (ho3 : h o3 = some (.inl (G_i G, 16, .inl (iA K3)))) (ho4 : h o4 = some (.inl (G_i G, 1024, .inl (iA K4)))) (hf : h xf = some (.inr (5, [.int (iZ num), .int (iZ den), .long (lZ tk)]))) (hu : h xu = some (.inr (10, [.int (iZ g0), .int (iZ l0), .int (iZ m0), .int (iZ s0), .ref us, .int (iZ (nu : Int))]))) (hus : h us = some (.inl (G_i G, 20, .inl (iA U)))) (ha0 : h a0 = some (.inl (G_i G, 16, .inl (iA fs)))) (ha1 : h a1 = some (.inl (G_i G, 16, .inl (iA fe)))) (ha2 : h a2 = some (.inl (G_i G, 16, .inl (iA sh)))) (ha3 : h a3 = some (.inl (G_i G, 97, .inl (iA ES)))) (ha4 : h a4 = some (.inl (G_i G, 400, .inl (iA BE)))) (ha5 : h a5 = some (.inl (G_i G, 400, .inl (iA SS)))) (ha6 : h a6 = some (.inl (G_i G, 400, .inl (iA A)))) (hW : PaW G h top xp pk nx ct Kp Ke C) (hn : n ≤ 16) (hT : ∀ k, 0 ≤ K1 k ∧ K1 k ≤ 2540160000000) (hE : ∀ k, 0 ≤ K2 k ∧ K2 k ≤ 2540160000000) (hZ : ∀ k, 0 ≤ K3 k ∧ K3 k ≤ 64) (hB : ∀ k, 0 ≤ K4 k ∧ K4 k ≤ 255) (hnu : nu ≤ 20) (hU : ∀ k, k < nu → 0 ≤ U k ∧ U k ≤ 216000) (htk : 11760000 ≤ tk ∧ tk ≤ 705600000) (hg : 0 ≤ g0 ∧ g0 ≤ 20) (hl : 1 ≤ l0 ∧ l0 ≤ 100) (hm0 : 0 ≤ m0 ∧ m0 ≤ 400) (hs : 1 ≤ s0 ∧ s0 ≤ 60) (hnum : 1 ≤ num ∧ num ≤ 120000) (hden : 1 ≤ den ∧ den ≤ 1001) (n_01 : a0 ≠ a1) (n_02 : a0 ≠ a2) (n_12 : a1 ≠ a2) (n_45 : a4 ≠ a5) (n_46 : a4 ≠ a6) (n_56 : a5 ≠ a6) (n_03 : a0 ≠ o3) (n_13 : a1 ≠ o3) (n_23 : a2 ≠ o3) (n_o : o1 ≠ o2) (hfs : ∀ k, -100 ≤ fs k ∧ fs k ≤ 300000) (hfe : ∀ k, -100 ≤ fe k ∧ fe k ≤ 300000) (hsh : ∀ k, 0 ≤ sh k ∧ sh k ≤ 20000000) (hES : ∀ k, 0 ≤ ES k ∧ ES k ≤ 2000000) (hBE : ∀ k, -300 ≤ BE k ∧ BE k ≤ 400000) (hSS : ∀ k, 0 ≤ SS k ∧ SS k ≤ 2100000) (hA : ∀ k, 0 ≤ A k ∧ A k ≤ 1000000) (hxt : x ≤ top ∧ xr ≤ top ∧ xf ≤ top ∧ xu ≤ top ∧ a0 ≤ top ∧ a1 ≤ top ∧ a2 ≤ top ∧ a3 ≤ top ∧ a4 ≤ top ∧ a5 ≤ top ∧ a6 ≤ top) (htn : top ∉ [a0, a1, a2, a3, a4, a5, a6]) (hle : xp ≤ top ∧ pk ≤ top ∧ xo ≤ top ∧ o1 ≤ top ∧ o2 ≤ top ∧ o3 ≤ top ∧ o4 ≤ top) (htop : ∃ e, h top = some e) : Rn G M_CB_repair ({ frames := 5, cells := 5, slots := 1077, locals := 160 }) [.ref x] h (fun r h' => (¬ (∃ x, rVP (rpP n K1 K2 K3 K4 num den tk g0 l0 m0 s0 U nu) n x) → ∃ z : Nat, z < n ∧ r = some (.int (iZ (-10 - (z : Int)))) ∧ (∃ x, rVP (rpP n K1 K2 K3 K4 num den tk g0 l0 m0 s0 U nu) z x) ∧ (¬ ∃ x, rVP (rpP n K1 K2 K3 K4 num den tk g0 l0 m0 s0 U nu) (z + 1) x) ∧ (∃ fs fe sh ES BE SS A : Nat → Int, h' a0 = some (.inl (G_i G, 16, .inl (iA fs))) ∧ h' a1 = some (.inl (G_i G, 16, .inl (iA fe))) ∧ h' a2 = some (.inl (G_i G, 16, .inl (iA sh))) ∧ h' a3 = some (.inl (G_i G, 97, .inl (iA ES))) ∧ h' a4 = some (.inl (G_i G, 400, .inl (iA BE))) ∧ h' a5 = some (.inl (G_i G, 400, .inl (iA SS))) ∧ h' a6 = some (.inl (G_i G, 400, .inl (iA A))) ∧ (∀ k, -100 ≤ fs k ∧ fs k ≤ 300000) ∧ (∀ k, -100 ≤ fe k ∧ fe k ≤ 300000) ∧ (∀ k, 0 ≤ sh k ∧ sh k ≤ 20000000) ∧ (∀ k, 0 ≤ ES k ∧ ES k ≤ 2000000) ∧ (∀ k, -300 ≤ BE k ∧ BE k ≤ 400000) ∧ (∀ k, 0 ≤ SS k ∧ SS k ≤ 2100000) ∧ (∀ k, 0 ≤ A k ∧ A k ≤ 1000000)) ∧ Fm [a0, a1, a2, a3, a4, a5, a6] h h') ∧ ((∃ x, rVP (rpP n K1 K2 K3 K4 num den tk g0 l0 m0 s0 U nu) n x) → ∃ g : Nat → Nat, rMn (rpP n K1 K2 K3 K4 num den tk g0 l0 m0 s0 U nu) n g ∧ r = some (.int (iZ (rCs n g))) ∧ h' o1 = some (.inl (G_j G, 16, .inr (.inl (lA (wyS (rpP n K1 K2 K3 K4 num den tk g0 l0 m0 s0 U nu) g tk K1 n))))) ∧ h' o2 = some (.inl (G_j G, 16, .inr (.inl (lA (wyE (rpP n K1 K2 K3 K4 num den tk g0 l0 m0 s0 U nu) g tk K2 n))))) ∧ (∃ Kp' Ke', PaW G h' top xp pk ((nx + 1) % 10) (min (ct + 1) 10) Kp' Ke' (fun j => if j = nx then (n, K1, K2, K3, K4) else C j) ∧ (∃ q, Kp' nx = some q) ∧ ∀ j, j ≠ nx → Kp' j = Kp j) ∧ (∃ fs fe sh ES BE SS A : Nat → Int, h' a0 = some (.inl (G_i G, 16, .inl (iA fs))) ∧ h' a1 = some (.inl (G_i G, 16, .inl (iA fe))) ∧ h' a2 = some (.inl (G_i G, 16, .inl (iA sh))) ∧ h' a3 = some (.inl (G_i G, 97, .inl (iA ES))) ∧ h' a4 = some (.inl (G_i G, 400, .inl (iA BE))) ∧ h' a5 = some (.inl (G_i G, 400, .inl (iA SS))) ∧ h' a6 = some (.inl (G_i G, 400, .inl (iA A))) ∧ (∀ k, -100 ≤ fs k ∧ fs k ≤ 300000) ∧ (∀ k, -100 ≤ fe k ∧ fe k ≤ 300000) ∧ (∀ k, 0 ≤ sh k ∧ sh k ≤ 20000000) ∧ (∀ k, 0 ≤ ES k ∧ ES k ≤ 2000000) ∧ (∀ k, -300 ≤ BE k ∧ BE k ≤ 400000) ∧ (∀ k, 0 ≤ SS k ∧ SS k ≤ 2100000) ∧ (∀ k, 0 ≤ A k ∧ A k ≤ 1000000)) ∧ Fb top [o1, o2, xp, pk, a0, a1, a2, a3, a4, a5, a6] h h')) := by
  refine rn_of (by decide) (Nat.le_of_ble_eq_true rfl) ?_
  show Ev G M_CB_repair _ _ 0 [(0, .ref x)] [] _ 0 0
  refine ev_aload_n d_CB_repair_0 rfl rfl ?_
  refine ev_get d_CB_repair_1 fl_CB_76 hx rfl ?_
  refine ev_callV M_Rp_leastSum (rm 4 130) _ (As := []) (c_Rp_leastSum G h xr xo xf xu a0 a1 a2 a3 a4 a5 a6 o1 o2 o3 o4 n K1 K2 K3 K4 us nu U g0 l0 m0 s0 num den tk fs fe sh ES BE SS A hrp ho ho1 ho2 ho3 ho4 hf hu hus ha0 ha1 ha2 ha3 ha4 ha5 ha6 hn hT hE hZ hB hnu hU htk hg hl hm0 hs hnum hden n_01 n_02 n_12 n_45 n_46 n_56 n_03 n_13 n_23 n_o hfs hfe hsh hES hBE hSS hA) d_CB_repair_4 mk_Rp_leastSum ml_CB_154 mv_Rp_leastSum hrp rfl rfl rfl (Nat.le_of_ble_eq_true rfl) ⟨by decide, by decide⟩ ⟨by decide, by decide⟩ (fun r h7 hq => ?_)
  obtain ⟨⟨fs', fe', sh', ES', BE', SS', A', rfl, ga0, ga1, ga2, ga3, ga4, ga5, ga6, hag, hrw, hfs', hfe', hsh', hES', hBE', hSS', hA'⟩, fmc⟩ := hq
  have hW := hW.fm fmc (by
    intro b hb9
    simp only [List.mem_cons, List.not_mem_nil, or_false] at hb9
    rcases hb9 with rfl | rfl | rfl | rfl | rfl | rfl | rfl
    · exact ⟨by omega, cne ha0 hW.2.2.1 (by simp), cne ha0 hW.2.2.2.1 (by simp)⟩
    · exact ⟨by omega, cne ha1 hW.2.2.1 (by simp), cne ha1 hW.2.2.2.1 (by simp)⟩
    · exact ⟨by omega, cne ha2 hW.2.2.1 (by simp), cne ha2 hW.2.2.2.1 (by simp)⟩
    · exact ⟨by omega, cne ha3 hW.2.2.1 (by simp), cne ha3 hW.2.2.2.1 (by simp)⟩
    · exact ⟨by omega, cne ha4 hW.2.2.1 (by simp), cne ha4 hW.2.2.2.1 (by simp)⟩
    · exact ⟨by omega, cne ha5 hW.2.2.1 (by simp), cne ha5 hW.2.2.2.1 (by simp)⟩
    · exact ⟨by omega, cne ha6 hW.2.2.1 (by simp), cne ha6 hW.2.2.2.1 (by simp)⟩)
  have htop := htop.imp (fun e q => (fmc _ htn).trans q)
  have hx := (fmc _ (ninc (cne hx ha0 (by simp)) (ninc (cne hx ha1 (by simp)) (ninc (cne hx ha2 (by simp)) (ninc (cne hx ha3 (by simp)) (ninc (cne hx ha4 (by simp)) (ninc (cne hx ha5 (by simp)) (ninc (cne hx ha6 (by simp)) nin0)))))))).trans hx
  have hrp := (fmc _ (ninc (cne hrp ha0 (by simp)) (ninc (cne hrp ha1 (by simp)) (ninc (cne hrp ha2 (by simp)) (ninc (cne hrp ha3 (by simp)) (ninc (cne hrp ha4 (by simp)) (ninc (cne hrp ha5 (by simp)) (ninc (cne hrp ha6 (by simp)) nin0)))))))).trans hrp
  have ho := (fmc _ (ninc (cne ho ha0 (by simp)) (ninc (cne ho ha1 (by simp)) (ninc (cne ho ha2 (by simp)) (ninc (cne ho ha3 (by simp)) (ninc (cne ho ha4 (by simp)) (ninc (cne ho ha5 (by simp)) (ninc (cne ho ha6 (by simp)) nin0)))))))).trans ho
  have ho1 := (fmc _ (ninc (cne ho1 ha0 (by simp)) (ninc (cne ho1 ha1 (by simp)) (ninc (cne ho1 ha2 (by simp)) (ninc (cne ho1 ha3 (by simp)) (ninc (cne ho1 ha4 (by simp)) (ninc (cne ho1 ha5 (by simp)) (ninc (cne ho1 ha6 (by simp)) nin0)))))))).trans ho1
  have ho2 := (fmc _ (ninc (cne ho2 ha0 (by simp)) (ninc (cne ho2 ha1 (by simp)) (ninc (cne ho2 ha2 (by simp)) (ninc (cne ho2 ha3 (by simp)) (ninc (cne ho2 ha4 (by simp)) (ninc (cne ho2 ha5 (by simp)) (ninc (cne ho2 ha6 (by simp)) nin0)))))))).trans ho2
  have ho3 := (fmc _ (ninc (Ne.symm n_03) (ninc (Ne.symm n_13) (ninc (Ne.symm n_23) (ninc (cne ho3 ha3 (by simp)) (ninc (cne ho3 ha4 (by simp)) (ninc (cne ho3 ha5 (by simp)) (ninc (cne ho3 ha6 (by simp)) nin0)))))))).trans ho3
  have ho4 := (fmc _ (ninc (cne ho4 ha0 (by simp)) (ninc (cne ho4 ha1 (by simp)) (ninc (cne ho4 ha2 (by simp)) (ninc (cne ho4 ha3 (by simp)) (ninc (cne ho4 ha4 (by simp)) (ninc (cne ho4 ha5 (by simp)) (ninc (cne ho4 ha6 (by simp)) nin0)))))))).trans ho4
  have hf := (fmc _ (ninc (cne hf ha0 (by simp)) (ninc (cne hf ha1 (by simp)) (ninc (cne hf ha2 (by simp)) (ninc (cne hf ha3 (by simp)) (ninc (cne hf ha4 (by simp)) (ninc (cne hf ha5 (by simp)) (ninc (cne hf ha6 (by simp)) nin0)))))))).trans hf
  have hu := (fmc _ (ninc (cne hu ha0 (by simp)) (ninc (cne hu ha1 (by simp)) (ninc (cne hu ha2 (by simp)) (ninc (cne hu ha3 (by simp)) (ninc (cne hu ha4 (by simp)) (ninc (cne hu ha5 (by simp)) (ninc (cne hu ha6 (by simp)) nin0)))))))).trans hu
  have hus := (fmc _ (ninc (cne hus ha0 (by simp)) (ninc (cne hus ha1 (by simp)) (ninc (cne hus ha2 (by simp)) (ninc (cne hus ha3 (by simp)) (ninc (cne hus ha4 (by simp)) (ninc (cne hus ha5 (by simp)) (ninc (cne hus ha6 (by simp)) nin0)))))))).trans hus
  have ha0 := ga0
  have ha1 := ga1
  have ha2 := ga2
  have ha3 := ga3
  have ha4 := ga4
  have ha5 := ga5
  have ha6 := ga6
  have lr := cLF_r (N := n) (fs := nrF K1 tk 12 n) (i := 0) (fl := 0) hA'
  have hti : cTie (rpP n K1 K2 K3 K4 num den tk g0 l0 m0 s0 U nu) (n, nrF K1 tk 12 n, nrF K2 tk 48 n, shF l0 num den s0 K3 K4 n, m0, g0, ekZ tk U nu) := rp_tie hg.1 hl.1 hs.1 hden.1
  refine ev_istore_n (L' := [(0, .ref x), (1, .int (iZ (cLF n (nrF K1 tk 12 n) A' 0 0)))]) d_CB_repair_7 rfl (by decide) rfl ?_
  refine ev_iload_n d_CB_repair_8 rfl rfl ?_
  refine ev_ldc (v := iZ 1000000) d_CB_repair_9 kc_CB_158 ?_
  refine ez_icmp_lt (tgt := 25) (by omega) (by decide) d_CB_repair_11 rfl (fun c11 => ?_) (fun c11 => ?_)
  · refine ev_aload_n d_CB_repair_25 rfl rfl ?_
    refine ev_get d_CB_repair_26 fl_CB_40 hx rfl ?_
    refine ev_aload_n d_CB_repair_29 rfl rfl ?_
    refine ev_get d_CB_repair_30 fl_CB_33 hx rfl ?_
    refine ev_callV M_Pa_keep ({ frames := 2, cells := 5, slots := 1077, locals := 61 }) _ (As := [.ref xo]) (c_Pa_keep G h7 top xp pk xo o1 o2 o3 o4 nx ct n Kp Ke C K1 K2 K3 K4 hW ho ho1 ho2 ho3 ho4 hn htop hle n_o) d_CB_repair_33 mk_Pa_keep ml_CB_103 mv_Pa_keep hW.2.2.1 rfl rfl rfl (Nat.le_of_ble_eq_true rfl) ⟨by decide, by decide⟩ ⟨by decide, by decide⟩ (fun r h8 hq => ?_)
    obtain ⟨rfl, ⟨Kp', Ke', hW1, hKs, hKo⟩, fb⟩ := hq
    have hx := fb _ _ hx (by omega) (ninc (cne hx hW.2.2.1 (by simp)) (ninc (cne hx hW.2.2.2.1 (by simp)) nin0))
    have hrp := fb _ _ hrp (by omega) (ninc (cne hrp hW.2.2.1 (by simp)) (ninc (cne hrp hW.2.2.2.1 (by simp)) nin0))
    have ho := fb _ _ ho (by omega) (ninc (cne ho hW.2.2.1 (by simp)) (ninc (cne ho hW.2.2.2.1 (by simp)) nin0))
    have ho1 := fb _ _ ho1 (by omega) (ninc (cne ho1 hW.2.2.1 (by simp)) (ninc (cne ho1 hW.2.2.2.1 (by simp)) nin0))
    have ho2 := fb _ _ ho2 (by omega) (ninc (cne ho2 hW.2.2.1 (by simp)) (ninc (cne ho2 hW.2.2.2.1 (by simp)) nin0))
    have ho3 := fb _ _ ho3 (by omega) (ninc (cne ho3 hW.2.2.1 (by simp)) (ninc (cne ho3 hW.2.2.2.1 (by simp)) nin0))
    have ho4 := fb _ _ ho4 (by omega) (ninc (cne ho4 hW.2.2.1 (by simp)) (ninc (cne ho4 hW.2.2.2.1 (by simp)) nin0))
    have hf := fb _ _ hf (by omega) (ninc (cne hf hW.2.2.1 (by simp)) (ninc (cne hf hW.2.2.2.1 (by simp)) nin0))
    have hu := fb _ _ hu (by omega) (ninc (cne hu hW.2.2.1 (by simp)) (ninc (cne hu hW.2.2.2.1 (by simp)) nin0))
    have ha0 := fb _ _ ha0 (by omega) (ninc (cne ha0 hW.2.2.1 (by simp)) (ninc (cne ha0 hW.2.2.2.1 (by simp)) nin0))
    have ha1 := fb _ _ ha1 (by omega) (ninc (cne ha1 hW.2.2.1 (by simp)) (ninc (cne ha1 hW.2.2.2.1 (by simp)) nin0))
    have ha2 := fb _ _ ha2 (by omega) (ninc (cne ha2 hW.2.2.1 (by simp)) (ninc (cne ha2 hW.2.2.2.1 (by simp)) nin0))
    have ha3 := fb _ _ ha3 (by omega) (ninc (cne ha3 hW.2.2.1 (by simp)) (ninc (cne ha3 hW.2.2.2.1 (by simp)) nin0))
    have ha4 := fb _ _ ha4 (by omega) (ninc (cne ha4 hW.2.2.1 (by simp)) (ninc (cne ha4 hW.2.2.2.1 (by simp)) nin0))
    have ha5 := fb _ _ ha5 (by omega) (ninc (cne ha5 hW.2.2.1 (by simp)) (ninc (cne ha5 hW.2.2.2.1 (by simp)) nin0))
    have ha6 := fb _ _ ha6 (by omega) (ninc (cne ha6 hW.2.2.1 (by simp)) (ninc (cne ha6 hW.2.2.2.1 (by simp)) nin0))
    have hS : ∀ b ∈ [xo, o1, o2, o3, o4], b ≤ top ∧ b ≠ xp ∧ b ≠ pk := by
      intro b hb
      simp at hb
      rcases hb with rfl | rfl | rfl | rfl | rfl
      · exact ⟨by omega, cne ho hW1.2.2.1 (by simp), cne ho hW1.2.2.2.1 (by simp)⟩
      · exact ⟨by omega, cne ho1 hW1.2.2.1 (by simp), cne ho1 hW1.2.2.2.1 (by simp)⟩
      · exact ⟨by omega, cne ho2 hW1.2.2.1 (by simp), cne ho2 hW1.2.2.2.1 (by simp)⟩
      · exact ⟨by omega, cne ho3 hW1.2.2.1 (by simp), cne ho3 hW1.2.2.2.1 (by simp)⟩
      · exact ⟨by omega, cne ho4 hW1.2.2.1 (by simp), cne ho4 hW1.2.2.2.1 (by simp)⟩
    refine ev_aload_n d_CB_repair_36 rfl rfl ?_
    refine ev_get d_CB_repair_37 fl_CB_76 hx rfl ?_
    have hL9 : cLF n (nrF K1 tk 12 n) A' 0 0 < 1000000 := c11
    have go1 := ho1
    have go2 := ho2
    refine ev_callV M_Rp_take (rm 4 130) _ (As := []) (c_Rp_take G h8 xr xo xf xu a0 a1 a2 a3 a4 a5 a6 o1 o2 o3 o4 n K1 K2 K3 K4 us nu U g0 l0 m0 s0 num den tk fs' fe' sh' (nrF K1 tk 12 n) (nrF K2 tk 48 n) (shF l0 num den s0 K3 K4 n) BE' SS' A' (rpP n K1 K2 K3 K4 num den tk g0 l0 m0 s0 U nu) hrp ho ho1 ho2 hf hu ha0 ha1 ha4 ha5 ha6 hn hg htk hfs' hfe' hBE' hSS' hA' n_01 n_02 n_12 n_45 n_46 n_56 n_03 n_13 n_23 n_o hti hag hrw hL9) d_CB_repair_40 mk_Rp_take ml_CB_162 mv_Rp_take hrp rfl rfl rfl (Nat.le_of_ble_eq_true rfl) ⟨by decide, by decide⟩ ⟨by decide, by decide⟩ (fun r h9 hq => ?_)
    obtain ⟨rfl, g, hgd, ho1, ho2, fm⟩ := hq
    have hx := (fm _ (ninc (cne hx go1 (by simp)) (ninc (cne hx go2 (by simp)) nin0))).trans hx
    have hrp := (fm _ (ninc (cne hrp go1 (by simp)) (ninc (cne hrp go2 (by simp)) nin0))).trans hrp
    have ho := (fm _ (ninc (cne ho go1 (by simp)) (ninc (cne ho go2 (by simp)) nin0))).trans ho
    have ho3 := (fm _ (ninc (cne ho3 go1 (by simp)) (ninc (cne ho3 go2 (by simp)) nin0))).trans ho3
    have ho4 := (fm _ (ninc (cne ho4 go1 (by simp)) (ninc (cne ho4 go2 (by simp)) nin0))).trans ho4
    have hf := (fm _ (ninc (cne hf go1 (by simp)) (ninc (cne hf go2 (by simp)) nin0))).trans hf
    have hu := (fm _ (ninc (cne hu go1 (by simp)) (ninc (cne hu go2 (by simp)) nin0))).trans hu
    have ha0 := (fm _ (ninc (cne ha0 go1 (by simp)) (ninc (cne ha0 go2 (by simp)) nin0))).trans ha0
    have ha1 := (fm _ (ninc (cne ha1 go1 (by simp)) (ninc (cne ha1 go2 (by simp)) nin0))).trans ha1
    have ha2 := (fm _ (ninc (cne ha2 go1 (by simp)) (ninc (cne ha2 go2 (by simp)) nin0))).trans ha2
    have ha3 := (fm _ (ninc (cne ha3 go1 (by simp)) (ninc (cne ha3 go2 (by simp)) nin0))).trans ha3
    have ha4 := (fm _ (ninc (cne ha4 go1 (by simp)) (ninc (cne ha4 go2 (by simp)) nin0))).trans ha4
    have ha5 := (fm _ (ninc (cne ha5 go1 (by simp)) (ninc (cne ha5 go2 (by simp)) nin0))).trans ha5
    have ha6 := (fm _ (ninc (cne ha6 go1 (by simp)) (ninc (cne ha6 go2 (by simp)) nin0))).trans ha6
    have hbest := c_best hti hrw hgd hL9
    have hS2 : ∀ b ∈ [o1, o2], b ≤ top ∧ b ≠ xp ∧ b ≠ pk := fun b hb => hS b (by
      rcases List.mem_cons.mp hb with rfl | hb
      · simp
      · rcases List.mem_cons.mp hb with rfl | hb
        · simp
        · cases hb)
    refine ev_iload_n d_CB_repair_43 rfl rfl ?_
    exact ev_ireturn d_CB_repair_44 rfl (by decide) (by decide) (⟨fun q => absurd ⟨g, hbest.1.1⟩ q, fun _ => ⟨g, hbest.1, by rw [show rCs n g = _ from hbest.2], ho1, ho2, ⟨Kp', Ke', hW1.fm fm hS2, hKs, hKo⟩, ⟨_, _, _, _, _, _, _, ha0, ha1, ha2, ha3, ha4, ha5, ha6, hfs', hfe', hsh', hES', hBE', hSS', hA'⟩, fun b e q1 q2 q3 => (fb.fm fm (S2 := [o1, o2, xp, pk]) (by simp) (by simp)) b e ((fmc b (fun w => q3 (List.mem_append_right [o1, o2, xp, pk] w))).trans q1) q2 (fun w => q3 (List.mem_append_left [a0, a1, a2, a3, a4, a5, a6] w))⟩⟩)
  · refine ev_bipush (v := iZ (-10)) d_CB_repair_14 rfl ?_
    refine ev_aload_n d_CB_repair_16 rfl rfl ?_
    refine ev_get d_CB_repair_17 fl_CB_76 hx rfl ?_
    refine ev_callV M_Rp_firstStuck (rm 4 130) _ (As := []) (c_Rp_firstStuck G h7 xr xo xf xu a0 a1 a2 a3 a4 a5 a6 o1 o2 o3 o4 n us nu U g0 l0 m0 s0 num den tk fs' fe' sh' (nrF K1 tk 12 n) (nrF K2 tk 48 n) (shF l0 num den s0 K3 K4 n) (rpP n K1 K2 K3 K4 num den tk g0 l0 m0 s0 U nu) hrp ho hf hu hus ha0 ha1 ha2 hnu hU htk hn hg hm0 hfs' hfe' hsh' n_01 n_02 n_12 hti hag) d_CB_repair_20 mk_Rp_firstStuck ml_CB_159 mv_Rp_firstStuck hrp rfl rfl rfl (Nat.le_of_ble_eq_true rfl) ⟨by decide, by decide⟩ ⟨by decide, by decide⟩ (fun r h8 hq => ?_)
    obtain ⟨z, rfl, rfl, hz1, hz2, hz3⟩ := hq
    have hno := c_none hti hn hrw (by exact c11)
    have hzn : z < n := by
      rcases Nat.lt_or_ge z n with w | w
      · exact w
      · obtain rfl : z = n := by omega
        exact absurd hz2 hno
    refine ez_isub d_CB_repair_23 ?_
    exact ev_ireturn d_CB_repair_24 rfl (by decide) (by decide) (⟨fun _ => ⟨z, hzn, rfl, hz2, hz3 hzn, ⟨_, _, _, _, _, _, _, ha0, ha1, ha2, ha3, ha4, ha5, ha6, hfs', hfe', hsh', hES', hBE', hSS', hA'⟩, fmc⟩, fun q => absurd q hno⟩)
