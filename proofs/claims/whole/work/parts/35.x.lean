theorem d_Ro_cellsAsOneLine_0 : decode M_Ro_cellsAsOneLine.2.1 0 = .ok (.aload_n 0, 1) := by decide +kernel
theorem d_Ro_cellsAsOneLine_1 : decode M_Ro_cellsAsOneLine.2.1 1 = .ok (.iload_n 1, 1) := by decide +kernel
theorem d_Ro_cellsAsOneLine_2 : decode M_Ro_cellsAsOneLine.2.1 2 = .ok (.iconst 0, 1) := by decide +kernel
theorem d_Ro_cellsAsOneLine_3 : decode M_Ro_cellsAsOneLine.2.1 3 = .ok (.aload_n 0, 1) := by decide +kernel
theorem d_Ro_cellsAsOneLine_4 : decode M_Ro_cellsAsOneLine.2.1 4 = .ok (.getfield 18, 3) := by decide +kernel
theorem d_Ro_cellsAsOneLine_7 : decode M_Ro_cellsAsOneLine.2.1 7 = .ok (.iload_n 1, 1) := by decide +kernel
theorem d_Ro_cellsAsOneLine_8 : decode M_Ro_cellsAsOneLine.2.1 8 = .ok (.iaload, 1) := by decide +kernel
theorem d_Ro_cellsAsOneLine_9 : decode M_Ro_cellsAsOneLine.2.1 9 = .ok (.invokevirtual 37, 3) := by decide +kernel
theorem d_Ro_cellsAsOneLine_12 : decode M_Ro_cellsAsOneLine.2.1 12 = .ok (.aload_n 0, 1) := by decide +kernel
theorem d_Ro_cellsAsOneLine_13 : decode M_Ro_cellsAsOneLine.2.1 13 = .ok (.iload_n 1, 1) := by decide +kernel
theorem d_Ro_cellsAsOneLine_14 : decode M_Ro_cellsAsOneLine.2.1 14 = .ok (.invokevirtual 41, 3) := by decide +kernel
theorem d_Ro_cellsAsOneLine_17 : decode M_Ro_cellsAsOneLine.2.1 17 = .ok (.iadd, 1) := by decide +kernel
theorem d_Ro_cellsAsOneLine_18 : decode M_Ro_cellsAsOneLine.2.1 18 = .ok (.iconst 1, 1) := by decide +kernel
theorem d_Ro_cellsAsOneLine_19 : decode M_Ro_cellsAsOneLine.2.1 19 = .ok (.isub, 1) := by decide +kernel
theorem d_Ro_cellsAsOneLine_20 : decode M_Ro_cellsAsOneLine.2.1 20 = .ok (.ireturn, 1) := by decide +kernel
theorem d_Ro_joinLines_0 : decode M_Ro_joinLines.2.1 0 = .ok (.iconst 0, 1) := by decide +kernel
theorem d_Ro_joinLines_1 : decode M_Ro_joinLines.2.1 1 = .ok (.istore_n 2, 1) := by decide +kernel
theorem d_Ro_joinLines_2 : decode M_Ro_joinLines.2.1 2 = .ok (.iload_n 2, 1) := by decide +kernel
theorem d_Ro_joinLines_3 : decode M_Ro_joinLines.2.1 3 = .ok (.aload_n 0, 1) := by decide +kernel
theorem d_Ro_joinLines_4 : decode M_Ro_joinLines.2.1 4 = .ok (.getfield 18, 3) := by decide +kernel
theorem d_Ro_joinLines_7 : decode M_Ro_joinLines.2.1 7 = .ok (.iload_n 1, 1) := by decide +kernel
theorem d_Ro_joinLines_8 : decode M_Ro_joinLines.2.1 8 = .ok (.iaload, 1) := by decide +kernel
theorem d_Ro_joinLines_9 : decode M_Ro_joinLines.2.1 9 = .ok (.if_icmp .ge 33, 3) := by decide +kernel
theorem d_Ro_joinLines_12 : decode M_Ro_joinLines.2.1 12 = .ok (.aload_n 0, 1) := by decide +kernel
theorem d_Ro_joinLines_13 : decode M_Ro_joinLines.2.1 13 = .ok (.iload_n 1, 1) := by decide +kernel
theorem d_Ro_joinLines_14 : decode M_Ro_joinLines.2.1 14 = .ok (.iload_n 2, 1) := by decide +kernel
theorem d_Ro_joinLines_15 : decode M_Ro_joinLines.2.1 15 = .ok (.invokevirtual 29, 3) := by decide +kernel
theorem d_Ro_joinLines_18 : decode M_Ro_joinLines.2.1 18 = .ok (.bipush 10, 2) := by decide +kernel
theorem d_Ro_joinLines_20 : decode M_Ro_joinLines.2.1 20 = .ok (.if_icmp .ne 16, 3) := by decide +kernel
theorem d_Ro_joinLines_23 : decode M_Ro_joinLines.2.1 23 = .ok (.aload_n 0, 1) := by decide +kernel
theorem d_Ro_joinLines_24 : decode M_Ro_joinLines.2.1 24 = .ok (.getfield 22, 3) := by decide +kernel
theorem d_Ro_joinLines_27 : decode M_Ro_joinLines.2.1 27 = .ok (.iload_n 1, 1) := by decide +kernel
theorem d_Ro_joinLines_28 : decode M_Ro_joinLines.2.1 28 = .ok (.bipush 64, 2) := by decide +kernel
theorem d_Ro_joinLines_30 : decode M_Ro_joinLines.2.1 30 = .ok (.imul, 1) := by decide +kernel
theorem d_Ro_joinLines_31 : decode M_Ro_joinLines.2.1 31 = .ok (.iload_n 2, 1) := by decide +kernel
theorem d_Ro_joinLines_32 : decode M_Ro_joinLines.2.1 32 = .ok (.iadd, 1) := by decide +kernel
theorem d_Ro_joinLines_33 : decode M_Ro_joinLines.2.1 33 = .ok (.bipush 32, 2) := by decide +kernel
theorem d_Ro_joinLines_35 : decode M_Ro_joinLines.2.1 35 = .ok (.iastore, 1) := by decide +kernel
theorem d_Ro_joinLines_36 : decode M_Ro_joinLines.2.1 36 = .ok (.iinc 2 1, 3) := by decide +kernel
theorem d_Ro_joinLines_39 : decode M_Ro_joinLines.2.1 39 = .ok (.goto (-37), 3) := by decide +kernel
theorem d_Ro_joinLines_42 : decode M_Ro_joinLines.2.1 42 = .ok (.return_, 1) := by decide +kernel
theorem d_Ro_breakAt_0 : decode M_Ro_breakAt.2.1 0 = .ok (.iload_n 1, 1) := by decide +kernel
theorem d_Ro_breakAt_1 : decode M_Ro_breakAt.2.1 1 = .ok (.bipush 64, 2) := by decide +kernel
theorem d_Ro_breakAt_3 : decode M_Ro_breakAt.2.1 3 = .ok (.imul, 1) := by decide +kernel
theorem d_Ro_breakAt_4 : decode M_Ro_breakAt.2.1 4 = .ok (.iload_n 2, 1) := by decide +kernel
theorem d_Ro_breakAt_5 : decode M_Ro_breakAt.2.1 5 = .ok (.iadd, 1) := by decide +kernel
theorem d_Ro_breakAt_6 : decode M_Ro_breakAt.2.1 6 = .ok (.istore_n 3, 1) := by decide +kernel
theorem d_Ro_breakAt_7 : decode M_Ro_breakAt.2.1 7 = .ok (.aload_n 0, 1) := by decide +kernel
theorem d_Ro_breakAt_8 : decode M_Ro_breakAt.2.1 8 = .ok (.getfield 22, 3) := by decide +kernel
theorem d_Ro_breakAt_11 : decode M_Ro_breakAt.2.1 11 = .ok (.iload_n 3, 1) := by decide +kernel
theorem d_Ro_breakAt_12 : decode M_Ro_breakAt.2.1 12 = .ok (.iaload, 1) := by decide +kernel
theorem d_Ro_breakAt_13 : decode M_Ro_breakAt.2.1 13 = .ok (.bipush 45, 2) := by decide +kernel
theorem d_Ro_breakAt_15 : decode M_Ro_breakAt.2.1 15 = .ok (.if_icmp .ne 41, 3) := by decide +kernel
theorem d_Ro_breakAt_18 : decode M_Ro_breakAt.2.1 18 = .ok (.iinc 3 1, 3) := by decide +kernel
theorem d_Ro_breakAt_21 : decode M_Ro_breakAt.2.1 21 = .ok (.aload_n 0, 1) := by decide +kernel
theorem d_Ro_breakAt_22 : decode M_Ro_breakAt.2.1 22 = .ok (.getfield 22, 3) := by decide +kernel
theorem d_Ro_breakAt_25 : decode M_Ro_breakAt.2.1 25 = .ok (.iload_n 3, 1) := by decide +kernel
theorem d_Ro_breakAt_26 : decode M_Ro_breakAt.2.1 26 = .ok (.aload_n 0, 1) := by decide +kernel
theorem d_Ro_breakAt_27 : decode M_Ro_breakAt.2.1 27 = .ok (.getfield 22, 3) := by decide +kernel
theorem d_Ro_breakAt_30 : decode M_Ro_breakAt.2.1 30 = .ok (.iload_n 3, 1) := by decide +kernel
theorem d_Ro_breakAt_31 : decode M_Ro_breakAt.2.1 31 = .ok (.iconst 1, 1) := by decide +kernel
theorem d_Ro_breakAt_32 : decode M_Ro_breakAt.2.1 32 = .ok (.iadd, 1) := by decide +kernel
theorem d_Ro_breakAt_33 : decode M_Ro_breakAt.2.1 33 = .ok (.aload_n 0, 1) := by decide +kernel
theorem d_Ro_breakAt_34 : decode M_Ro_breakAt.2.1 34 = .ok (.getfield 18, 3) := by decide +kernel
theorem d_Ro_breakAt_37 : decode M_Ro_breakAt.2.1 37 = .ok (.iload_n 1, 1) := by decide +kernel
theorem d_Ro_breakAt_38 : decode M_Ro_breakAt.2.1 38 = .ok (.iaload, 1) := by decide +kernel
theorem d_Ro_breakAt_39 : decode M_Ro_breakAt.2.1 39 = .ok (.iload_n 2, 1) := by decide +kernel
theorem d_Ro_breakAt_40 : decode M_Ro_breakAt.2.1 40 = .ok (.isub, 1) := by decide +kernel
theorem d_Ro_breakAt_41 : decode M_Ro_breakAt.2.1 41 = .ok (.iconst 1, 1) := by decide +kernel
theorem d_Ro_breakAt_42 : decode M_Ro_breakAt.2.1 42 = .ok (.isub, 1) := by decide +kernel
theorem d_Ro_breakAt_43 : decode M_Ro_breakAt.2.1 43 = .ok (.invokestatic 44, 3) := by decide +kernel
theorem d_Ro_breakAt_46 : decode M_Ro_breakAt.2.1 46 = .ok (.aload_n 0, 1) := by decide +kernel
theorem d_Ro_breakAt_47 : decode M_Ro_breakAt.2.1 47 = .ok (.getfield 18, 3) := by decide +kernel
theorem d_Ro_breakAt_50 : decode M_Ro_breakAt.2.1 50 = .ok (.iload_n 1, 1) := by decide +kernel
theorem d_Ro_breakAt_51 : decode M_Ro_breakAt.2.1 51 = .ok (.dup2, 1) := by decide +kernel
theorem d_Ro_breakAt_52 : decode M_Ro_breakAt.2.1 52 = .ok (.iaload, 1) := by decide +kernel
theorem d_Ro_breakAt_53 : decode M_Ro_breakAt.2.1 53 = .ok (.iconst 1, 1) := by decide +kernel
theorem d_Ro_breakAt_54 : decode M_Ro_breakAt.2.1 54 = .ok (.iadd, 1) := by decide +kernel
theorem d_Ro_breakAt_55 : decode M_Ro_breakAt.2.1 55 = .ok (.iastore, 1) := by decide +kernel
theorem d_Ro_breakAt_56 : decode M_Ro_breakAt.2.1 56 = .ok (.aload_n 0, 1) := by decide +kernel
theorem d_Ro_breakAt_57 : decode M_Ro_breakAt.2.1 57 = .ok (.getfield 22, 3) := by decide +kernel
theorem d_Ro_breakAt_60 : decode M_Ro_breakAt.2.1 60 = .ok (.iload_n 3, 1) := by decide +kernel
theorem d_Ro_breakAt_61 : decode M_Ro_breakAt.2.1 61 = .ok (.bipush 10, 2) := by decide +kernel
theorem d_Ro_breakAt_63 : decode M_Ro_breakAt.2.1 63 = .ok (.iastore, 1) := by decide +kernel
theorem d_Ro_breakAt_64 : decode M_Ro_breakAt.2.1 64 = .ok (.return_, 1) := by decide +kernel
theorem d_Li_offer_0 : decode M_Li_offer.2.1 0 = .ok (.iload_n 2, 1) := by decide +kernel
theorem d_Li_offer_1 : decode M_Li_offer.2.1 1 = .ok (.bipush 28, 2) := by decide +kernel
theorem d_Li_offer_3 : decode M_Li_offer.2.1 3 = .ok (.if_icmp .gt 9, 3) := by decide +kernel
theorem d_Li_offer_6 : decode M_Li_offer.2.1 6 = .ok (.iload_n 3, 1) := by decide +kernel
theorem d_Li_offer_7 : decode M_Li_offer.2.1 7 = .ok (.bipush 28, 2) := by decide +kernel
theorem d_Li_offer_9 : decode M_Li_offer.2.1 9 = .ok (.if_icmp .le 4, 3) := by decide +kernel
theorem d_Li_offer_12 : decode M_Li_offer.2.1 12 = .ok (.return_, 1) := by decide +kernel
theorem d_Li_offer_13 : decode M_Li_offer.2.1 13 = .ok (.iload_n 2, 1) := by decide +kernel
theorem d_Li_offer_14 : decode M_Li_offer.2.1 14 = .ok (.iload_n 3, 1) := by decide +kernel
theorem d_Li_offer_15 : decode M_Li_offer.2.1 15 = .ok (.isub, 1) := by decide +kernel
theorem d_Li_offer_16 : decode M_Li_offer.2.1 16 = .ok (.invokestatic 40, 3) := by decide +kernel
theorem d_Li_offer_19 : decode M_Li_offer.2.1 19 = .ok (.istore 4, 2) := by decide +kernel
theorem d_Li_offer_21 : decode M_Li_offer.2.1 21 = .ok (.aload_n 0, 1) := by decide +kernel
theorem d_Li_offer_22 : decode M_Li_offer.2.1 22 = .ok (.getfield 15, 3) := by decide +kernel
theorem d_Li_offer_25 : decode M_Li_offer.2.1 25 = .ok (.iconst (-1), 1) := by decide +kernel
theorem d_Li_offer_26 : decode M_Li_offer.2.1 26 = .ok (.if_icmp .eq 13, 3) := by decide +kernel
theorem d_Li_offer_29 : decode M_Li_offer.2.1 29 = .ok (.iload 4, 2) := by decide +kernel
theorem d_Li_offer_31 : decode M_Li_offer.2.1 31 = .ok (.aload_n 0, 1) := by decide +kernel
theorem d_Li_offer_32 : decode M_Li_offer.2.1 32 = .ok (.getfield 45, 3) := by decide +kernel
theorem d_Li_offer_35 : decode M_Li_offer.2.1 35 = .ok (.if_icmp .lt 4, 3) := by decide +kernel
theorem d_Li_offer_38 : decode M_Li_offer.2.1 38 = .ok (.return_, 1) := by decide +kernel
theorem d_Li_offer_39 : decode M_Li_offer.2.1 39 = .ok (.aload_n 0, 1) := by decide +kernel
theorem d_Li_offer_40 : decode M_Li_offer.2.1 40 = .ok (.iload_n 1, 1) := by decide +kernel
theorem d_Li_offer_41 : decode M_Li_offer.2.1 41 = .ok (.putfield 15, 3) := by decide +kernel
theorem d_Li_offer_44 : decode M_Li_offer.2.1 44 = .ok (.aload_n 0, 1) := by decide +kernel
theorem d_Li_offer_45 : decode M_Li_offer.2.1 45 = .ok (.iload 4, 2) := by decide +kernel
theorem d_Li_offer_47 : decode M_Li_offer.2.1 47 = .ok (.putfield 45, 3) := by decide +kernel
theorem d_Li_offer_50 : decode M_Li_offer.2.1 50 = .ok (.return_, 1) := by decide +kernel
theorem d_Li_bestPlace_0 : decode M_Li_bestPlace.2.1 0 = .ok (.aload_n 0, 1) := by decide +kernel
theorem d_Li_bestPlace_1 : decode M_Li_bestPlace.2.1 1 = .ok (.iconst (-1), 1) := by decide +kernel
theorem d_Li_bestPlace_2 : decode M_Li_bestPlace.2.1 2 = .ok (.putfield 15, 3) := by decide +kernel
theorem d_Li_bestPlace_5 : decode M_Li_bestPlace.2.1 5 = .ok (.aload_n 0, 1) := by decide +kernel
theorem d_Li_bestPlace_6 : decode M_Li_bestPlace.2.1 6 = .ok (.getfield 9, 3) := by decide +kernel
theorem d_Li_bestPlace_9 : decode M_Li_bestPlace.2.1 9 = .ok (.getfield 19, 3) := by decide +kernel
theorem d_Li_bestPlace_12 : decode M_Li_bestPlace.2.1 12 = .ok (.iload_n 1, 1) := by decide +kernel
theorem d_Li_bestPlace_13 : decode M_Li_bestPlace.2.1 13 = .ok (.iaload, 1) := by decide +kernel
theorem d_Li_bestPlace_14 : decode M_Li_bestPlace.2.1 14 = .ok (.istore_n 2, 1) := by decide +kernel
theorem d_Li_bestPlace_15 : decode M_Li_bestPlace.2.1 15 = .ok (.aload_n 0, 1) := by decide +kernel
theorem d_Li_bestPlace_16 : decode M_Li_bestPlace.2.1 16 = .ok (.getfield 9, 3) := by decide +kernel
theorem d_Li_bestPlace_19 : decode M_Li_bestPlace.2.1 19 = .ok (.iload_n 1, 1) := by decide +kernel
theorem d_Li_bestPlace_20 : decode M_Li_bestPlace.2.1 20 = .ok (.invokevirtual 25, 3) := by decide +kernel
theorem d_Li_bestPlace_23 : decode M_Li_bestPlace.2.1 23 = .ok (.istore_n 3, 1) := by decide +kernel
theorem d_Li_bestPlace_24 : decode M_Li_bestPlace.2.1 24 = .ok (.iconst 0, 1) := by decide +kernel
theorem d_Li_bestPlace_25 : decode M_Li_bestPlace.2.1 25 = .ok (.istore 4, 2) := by decide +kernel
theorem d_Li_bestPlace_27 : decode M_Li_bestPlace.2.1 27 = .ok (.iconst 0, 1) := by decide +kernel
theorem d_Li_bestPlace_28 : decode M_Li_bestPlace.2.1 28 = .ok (.istore 5, 2) := by decide +kernel
theorem d_Li_bestPlace_30 : decode M_Li_bestPlace.2.1 30 = .ok (.iload 5, 2) := by decide +kernel
theorem d_Li_bestPlace_32 : decode M_Li_bestPlace.2.1 32 = .ok (.iload_n 2, 1) := by decide +kernel
theorem d_Li_bestPlace_33 : decode M_Li_bestPlace.2.1 33 = .ok (.iconst 1, 1) := by decide +kernel
theorem d_Li_bestPlace_34 : decode M_Li_bestPlace.2.1 34 = .ok (.isub, 1) := by decide +kernel
theorem d_Li_bestPlace_35 : decode M_Li_bestPlace.2.1 35 = .ok (.if_icmp .ge 110, 3) := by decide +kernel
theorem d_Li_bestPlace_38 : decode M_Li_bestPlace.2.1 38 = .ok (.aload_n 0, 1) := by decide +kernel
theorem d_Li_bestPlace_39 : decode M_Li_bestPlace.2.1 39 = .ok (.getfield 9, 3) := by decide +kernel
theorem d_Li_bestPlace_42 : decode M_Li_bestPlace.2.1 42 = .ok (.iload_n 1, 1) := by decide +kernel
theorem d_Li_bestPlace_43 : decode M_Li_bestPlace.2.1 43 = .ok (.iload 5, 2) := by decide +kernel
theorem d_Li_bestPlace_45 : decode M_Li_bestPlace.2.1 45 = .ok (.invokevirtual 29, 3) := by decide +kernel
theorem d_Li_bestPlace_48 : decode M_Li_bestPlace.2.1 48 = .ok (.istore 6, 2) := by decide +kernel
theorem d_Li_bestPlace_50 : decode M_Li_bestPlace.2.1 50 = .ok (.iload 6, 2) := by decide +kernel
theorem d_Li_bestPlace_52 : decode M_Li_bestPlace.2.1 52 = .ok (.bipush 32, 2) := by decide +kernel
theorem d_Li_bestPlace_54 : decode M_Li_bestPlace.2.1 54 = .ok (.if_icmp .eq 10, 3) := by decide +kernel
theorem d_Li_bestPlace_57 : decode M_Li_bestPlace.2.1 57 = .ok (.iload 6, 2) := by decide +kernel
theorem d_Li_bestPlace_59 : decode M_Li_bestPlace.2.1 59 = .ok (.bipush 10, 2) := by decide +kernel
theorem d_Li_bestPlace_61 : decode M_Li_bestPlace.2.1 61 = .ok (.if_icmp .ne 7, 3) := by decide +kernel
theorem d_Li_bestPlace_64 : decode M_Li_bestPlace.2.1 64 = .ok (.iconst 1, 1) := by decide +kernel
theorem d_Li_bestPlace_65 : decode M_Li_bestPlace.2.1 65 = .ok (.goto 4, 3) := by decide +kernel
theorem d_Li_bestPlace_68 : decode M_Li_bestPlace.2.1 68 = .ok (.iconst 0, 1) := by decide +kernel
theorem d_Li_bestPlace_69 : decode M_Li_bestPlace.2.1 69 = .ok (.istore 7, 2) := by decide +kernel
theorem d_Li_bestPlace_71 : decode M_Li_bestPlace.2.1 71 = .ok (.iload 7, 2) := by decide +kernel
theorem d_Li_bestPlace_73 : decode M_Li_bestPlace.2.1 73 = .ok (.ifCond .eq 22, 3) := by decide +kernel
theorem d_Li_bestPlace_76 : decode M_Li_bestPlace.2.1 76 = .ok (.iload 5, 2) := by decide +kernel
theorem d_Li_bestPlace_78 : decode M_Li_bestPlace.2.1 78 = .ok (.ifCond .le 17, 3) := by decide +kernel
theorem d_Li_bestPlace_81 : decode M_Li_bestPlace.2.1 81 = .ok (.aload_n 0, 1) := by decide +kernel
theorem d_Li_bestPlace_82 : decode M_Li_bestPlace.2.1 82 = .ok (.iload 5, 2) := by decide +kernel
theorem d_Li_bestPlace_84 : decode M_Li_bestPlace.2.1 84 = .ok (.iload 4, 2) := by decide +kernel
theorem d_Li_bestPlace_86 : decode M_Li_bestPlace.2.1 86 = .ok (.iload_n 3, 1) := by decide +kernel
theorem d_Li_bestPlace_87 : decode M_Li_bestPlace.2.1 87 = .ok (.iload 4, 2) := by decide +kernel
theorem d_Li_bestPlace_89 : decode M_Li_bestPlace.2.1 89 = .ok (.isub, 1) := by decide +kernel
theorem d_Li_bestPlace_90 : decode M_Li_bestPlace.2.1 90 = .ok (.iconst 1, 1) := by decide +kernel
theorem d_Li_bestPlace_91 : decode M_Li_bestPlace.2.1 91 = .ok (.isub, 1) := by decide +kernel
theorem d_Li_bestPlace_92 : decode M_Li_bestPlace.2.1 92 = .ok (.invokevirtual 33, 3) := by decide +kernel
theorem d_Li_bestPlace_95 : decode M_Li_bestPlace.2.1 95 = .ok (.iload 4, 2) := by decide +kernel
theorem d_Li_bestPlace_97 : decode M_Li_bestPlace.2.1 97 = .ok (.iload 7, 2) := by decide +kernel
theorem d_Li_bestPlace_99 : decode M_Li_bestPlace.2.1 99 = .ok (.ifCond .eq 7, 3) := by decide +kernel
theorem d_Li_bestPlace_102 : decode M_Li_bestPlace.2.1 102 = .ok (.iconst 1, 1) := by decide +kernel
theorem d_Li_bestPlace_103 : decode M_Li_bestPlace.2.1 103 = .ok (.goto 8, 3) := by decide +kernel
theorem d_Li_bestPlace_106 : decode M_Li_bestPlace.2.1 106 = .ok (.iload 6, 2) := by decide +kernel
theorem d_Li_bestPlace_108 : decode M_Li_bestPlace.2.1 108 = .ok (.invokestatic 37, 3) := by decide +kernel
theorem d_Li_bestPlace_111 : decode M_Li_bestPlace.2.1 111 = .ok (.iadd, 1) := by decide +kernel
theorem d_Li_bestPlace_112 : decode M_Li_bestPlace.2.1 112 = .ok (.istore 4, 2) := by decide +kernel
theorem d_Li_bestPlace_114 : decode M_Li_bestPlace.2.1 114 = .ok (.iload 6, 2) := by decide +kernel
theorem d_Li_bestPlace_116 : decode M_Li_bestPlace.2.1 116 = .ok (.bipush 45, 2) := by decide +kernel
theorem d_Li_bestPlace_118 : decode M_Li_bestPlace.2.1 118 = .ok (.if_icmp .ne 21, 3) := by decide +kernel
theorem d_Li_bestPlace_121 : decode M_Li_bestPlace.2.1 121 = .ok (.iload_n 2, 1) := by decide +kernel
theorem d_Li_bestPlace_122 : decode M_Li_bestPlace.2.1 122 = .ok (.bipush 64, 2) := by decide +kernel
theorem d_Li_bestPlace_124 : decode M_Li_bestPlace.2.1 124 = .ok (.if_icmp .ge 15, 3) := by decide +kernel
theorem d_Li_bestPlace_127 : decode M_Li_bestPlace.2.1 127 = .ok (.aload_n 0, 1) := by decide +kernel
theorem d_Li_bestPlace_128 : decode M_Li_bestPlace.2.1 128 = .ok (.iload 5, 2) := by decide +kernel
theorem d_Li_bestPlace_130 : decode M_Li_bestPlace.2.1 130 = .ok (.iload 4, 2) := by decide +kernel
theorem d_Li_bestPlace_132 : decode M_Li_bestPlace.2.1 132 = .ok (.iload_n 3, 1) := by decide +kernel
theorem d_Li_bestPlace_133 : decode M_Li_bestPlace.2.1 133 = .ok (.iload 4, 2) := by decide +kernel
theorem d_Li_bestPlace_135 : decode M_Li_bestPlace.2.1 135 = .ok (.isub, 1) := by decide +kernel
theorem d_Li_bestPlace_136 : decode M_Li_bestPlace.2.1 136 = .ok (.invokevirtual 33, 3) := by decide +kernel
theorem d_Li_bestPlace_139 : decode M_Li_bestPlace.2.1 139 = .ok (.iinc 5 1, 3) := by decide +kernel
theorem d_Li_bestPlace_142 : decode M_Li_bestPlace.2.1 142 = .ok (.goto (-112), 3) := by decide +kernel
theorem d_Li_bestPlace_145 : decode M_Li_bestPlace.2.1 145 = .ok (.aload_n 0, 1) := by decide +kernel
theorem d_Li_bestPlace_146 : decode M_Li_bestPlace.2.1 146 = .ok (.getfield 15, 3) := by decide +kernel
theorem d_Li_bestPlace_149 : decode M_Li_bestPlace.2.1 149 = .ok (.ireturn, 1) := by decide +kernel
theorem d_CB_breakLines_0 : decode M_CB_breakLines.2.1 0 = .ok (.aload_n 0, 1) := by decide +kernel
theorem d_CB_breakLines_1 : decode M_CB_breakLines.2.1 1 = .ok (.getfield 33, 3) := by decide +kernel
theorem d_CB_breakLines_4 : decode M_CB_breakLines.2.1 4 = .ok (.iload_n 1, 1) := by decide +kernel
theorem d_CB_breakLines_5 : decode M_CB_breakLines.2.1 5 = .ok (.invokevirtual 121, 3) := by decide +kernel
theorem d_CB_breakLines_8 : decode M_CB_breakLines.2.1 8 = .ok (.ifCond .ne 6, 3) := by decide +kernel
theorem d_CB_breakLines_11 : decode M_CB_breakLines.2.1 11 = .ok (.bipush (-2), 2) := by decide +kernel
theorem d_CB_breakLines_13 : decode M_CB_breakLines.2.1 13 = .ok (.ireturn, 1) := by decide +kernel
theorem d_CB_breakLines_14 : decode M_CB_breakLines.2.1 14 = .ok (.aload_n 0, 1) := by decide +kernel
theorem d_CB_breakLines_15 : decode M_CB_breakLines.2.1 15 = .ok (.getfield 33, 3) := by decide +kernel
theorem d_CB_breakLines_18 : decode M_CB_breakLines.2.1 18 = .ok (.iload_n 1, 1) := by decide +kernel
theorem d_CB_breakLines_19 : decode M_CB_breakLines.2.1 19 = .ok (.invokevirtual 165, 3) := by decide +kernel
theorem d_CB_breakLines_22 : decode M_CB_breakLines.2.1 22 = .ok (.bipush 28, 2) := by decide +kernel
theorem d_CB_breakLines_24 : decode M_CB_breakLines.2.1 24 = .ok (.if_icmp .gt 24, 3) := by decide +kernel
theorem d_CB_breakLines_27 : decode M_CB_breakLines.2.1 27 = .ok (.aload_n 0, 1) := by decide +kernel
theorem d_CB_breakLines_28 : decode M_CB_breakLines.2.1 28 = .ok (.getfield 40, 3) := by decide +kernel
theorem d_CB_breakLines_31 : decode M_CB_breakLines.2.1 31 = .ok (.aload_n 0, 1) := by decide +kernel
theorem d_CB_breakLines_32 : decode M_CB_breakLines.2.1 32 = .ok (.getfield 33, 3) := by decide +kernel
theorem d_CB_breakLines_35 : decode M_CB_breakLines.2.1 35 = .ok (.invokevirtual 103, 3) := by decide +kernel
theorem d_CB_breakLines_38 : decode M_CB_breakLines.2.1 38 = .ok (.aload_n 0, 1) := by decide +kernel
theorem d_CB_breakLines_39 : decode M_CB_breakLines.2.1 39 = .ok (.getfield 33, 3) := by decide +kernel
theorem d_CB_breakLines_42 : decode M_CB_breakLines.2.1 42 = .ok (.iload_n 1, 1) := by decide +kernel
theorem d_CB_breakLines_43 : decode M_CB_breakLines.2.1 43 = .ok (.invokevirtual 168, 3) := by decide +kernel
theorem d_CB_breakLines_46 : decode M_CB_breakLines.2.1 46 = .ok (.iconst 1, 1) := by decide +kernel
theorem d_CB_breakLines_47 : decode M_CB_breakLines.2.1 47 = .ok (.ireturn, 1) := by decide +kernel
theorem d_CB_breakLines_48 : decode M_CB_breakLines.2.1 48 = .ok (.aload_n 0, 1) := by decide +kernel
theorem d_CB_breakLines_49 : decode M_CB_breakLines.2.1 49 = .ok (.getfield 67, 3) := by decide +kernel
theorem d_CB_breakLines_52 : decode M_CB_breakLines.2.1 52 = .ok (.iload_n 1, 1) := by decide +kernel
theorem d_CB_breakLines_53 : decode M_CB_breakLines.2.1 53 = .ok (.invokevirtual 171, 3) := by decide +kernel
theorem d_CB_breakLines_56 : decode M_CB_breakLines.2.1 56 = .ok (.istore_n 2, 1) := by decide +kernel
theorem d_CB_breakLines_57 : decode M_CB_breakLines.2.1 57 = .ok (.iload_n 2, 1) := by decide +kernel
theorem d_CB_breakLines_58 : decode M_CB_breakLines.2.1 58 = .ok (.iconst (-1), 1) := by decide +kernel
theorem d_CB_breakLines_59 : decode M_CB_breakLines.2.1 59 = .ok (.if_icmp .ne 5, 3) := by decide +kernel
theorem d_CB_breakLines_62 : decode M_CB_breakLines.2.1 62 = .ok (.iconst (-1), 1) := by decide +kernel
theorem d_CB_breakLines_63 : decode M_CB_breakLines.2.1 63 = .ok (.ireturn, 1) := by decide +kernel
theorem d_CB_breakLines_64 : decode M_CB_breakLines.2.1 64 = .ok (.aload_n 0, 1) := by decide +kernel
theorem d_CB_breakLines_65 : decode M_CB_breakLines.2.1 65 = .ok (.getfield 40, 3) := by decide +kernel
theorem d_CB_breakLines_68 : decode M_CB_breakLines.2.1 68 = .ok (.aload_n 0, 1) := by decide +kernel
theorem d_CB_breakLines_69 : decode M_CB_breakLines.2.1 69 = .ok (.getfield 33, 3) := by decide +kernel
theorem d_CB_breakLines_72 : decode M_CB_breakLines.2.1 72 = .ok (.invokevirtual 103, 3) := by decide +kernel
theorem d_CB_breakLines_75 : decode M_CB_breakLines.2.1 75 = .ok (.aload_n 0, 1) := by decide +kernel
theorem d_CB_breakLines_76 : decode M_CB_breakLines.2.1 76 = .ok (.getfield 33, 3) := by decide +kernel
theorem d_CB_breakLines_79 : decode M_CB_breakLines.2.1 79 = .ok (.iload_n 1, 1) := by decide +kernel
theorem d_CB_breakLines_80 : decode M_CB_breakLines.2.1 80 = .ok (.invokevirtual 168, 3) := by decide +kernel
theorem d_CB_breakLines_83 : decode M_CB_breakLines.2.1 83 = .ok (.aload_n 0, 1) := by decide +kernel
theorem d_CB_breakLines_84 : decode M_CB_breakLines.2.1 84 = .ok (.getfield 33, 3) := by decide +kernel
theorem d_CB_breakLines_87 : decode M_CB_breakLines.2.1 87 = .ok (.iload_n 1, 1) := by decide +kernel
theorem d_CB_breakLines_88 : decode M_CB_breakLines.2.1 88 = .ok (.iload_n 2, 1) := by decide +kernel
theorem d_CB_breakLines_89 : decode M_CB_breakLines.2.1 89 = .ok (.invokevirtual 174, 3) := by decide +kernel
theorem d_CB_breakLines_92 : decode M_CB_breakLines.2.1 92 = .ok (.iconst 2, 1) := by decide +kernel
theorem d_CB_breakLines_93 : decode M_CB_breakLines.2.1 93 = .ok (.ireturn, 1) := by decide +kernel
def drf (F : Nat → Int) (o : Nat) : Nat → Int := fun j => if F (o + j) = 10 then 32 else F (o + j)
theorem drf_10 {F : Nat → Int} {o j : Nat} (h : F (o + j) = 10) : drf F o j = 32 := if_pos h
theorem drf_n {F : Nat → Int} {o j : Nat} (h : F (o + j) ≠ 10) : drf F o j = F (o + j) := if_neg h
theorem cellsN_s {F : Nat → Int} {o k : Nat} : cellsN F o (k + 1) = cellsN F o k + cellZ (F (o + k)) := rfl
theorem cellsN_s0 {F : Nat → Int} {k : Nat} : cellsN F 0 (k + 1) = cellsN F 0 k + cellZ (F k) := by rw [cellsN_s, Nat.zero_add]
theorem drf_all {F : Nat → Int} {o : Nat} : ∀ m : Nat, cellsN (drf F o) 0 m = cellsN F o m + linesN F o m - 1
  | 0 => by simp [cellsN, linesN]
  | m + 1 => by
    rw [cellsN_s0, drf_all m, cellsN_s]
    by_cases q : F (o + m) = 10
    · rw [drf_10 q, linesN_10 q, q, show cellZ 32 = 1 from rfl, show cellZ 10 = 0 from rfl]; omega
    · rw [drf_n q, linesN_n q]; omega
def bOne (d : Nat → Int) (j : Nat) : Int := cellsN d 0 (if d j = 32 then j else j + 1)
def bTwo (d : Nat → Int) (z j : Nat) : Int := cellsN d (j + 1) (z - (j + 1))
abbrev bPl (d : Nat → Int) (z j : Nat) : Prop := j + 1 < z ∧ ((d j = 32 ∧ 0 < j) ∨ (d j = 45 ∧ z ≠ 64))
abbrev bOk (d : Nat → Int) (z j : Nat) : Prop := bPl d z j ∧ bOne d j ≤ 28 ∧ bTwo d z j ≤ 28
def bDf (d : Nat → Int) (z j : Nat) : Int := ((bOne d j - bTwo d z j).natAbs : Int)
def bestS (d : Nat → Int) (z : Nat) : Nat → Int
  | 0 => -1
  | m + 1 => if bOk d z m ∧ (bestS d z m = -1 ∨ bDf d z m < bDf d z (bestS d z m).toNat) then (m : Int) else bestS d z m
theorem bestS_r (d : Nat → Int) (z : Nat) : ∀ m : Nat, bestS d z m = -1 ∨ (0 ≤ bestS d z m ∧ bestS d z m < m ∧ bOk d z (bestS d z m).toNat)
  | 0 => Or.inl rfl
  | m + 1 => by
    have ih := bestS_r d z m
    unfold bestS
    split
    · rename_i q
      exact Or.inr ⟨by omega, by omega, by rw [Int.toNat_natCast]; exact q.1⟩
    · rcases ih with ih | ⟨i1, i2, i3⟩
      · exact Or.inl ih
      · exact Or.inr ⟨i1, by omega, i3⟩
theorem cellsN_mono {d : Nat → Int} {a b : Nat} (h : a ≤ b) : cellsN d 0 a ≤ cellsN d 0 b := by
  rw [show b = a + (b - a) by omega, cellsN_app]
  have := cellsN_r d (0 + a) (b - a)
  omega
theorem bOne_mono {d : Nat → Int} {j m : Nat} (h : j < m) : bOne d j ≤ bOne d m := by
  unfold bOne
  apply cellsN_mono
  split <;> split <;> omega
theorem bTwo_mono {d : Nat → Int} {z j m : Nat} (h : j < m) (hm : m < z) : bTwo d z m ≤ bTwo d z j := by
  unfold bTwo
  rw [show z - (j + 1) = (m - j) + (z - (m + 1)) by omega, cellsN_app, show j + 1 + (m - j) = m + 1 by omega]
  have := cellsN_r d (j + 1) (m - j)
  omega
theorem bTwo_eq {d : Nat → Int} {z j : Nat} (h : j < z) : cellsN d 0 z = cellsN d 0 (j + 1) + bTwo d z j := by
  unfold bTwo
  rw [show z = (j + 1) + (z - (j + 1)) by omega, cellsN_app, show j + 1 + (z - (j + 1)) - (j + 1) = z - (j + 1) by omega, Nat.zero_add]
def bVal (d : Nat → Int) (z j : Nat) : Int := if bOk d z j then 1000 * bDf d z j + (if bOne d j > bTwo d z j then 1 else 0) else -1
theorem bVal_lt {d : Nat → Int} {z j m : Nat} (h : j < m) (hj : bOk d z j) (hm : bOk d z m) : bVal d z m < bVal d z j ↔ bDf d z m < bDf d z j := by
  have h1 := bOne_mono (d := d) h
  have h2 := bTwo_mono (d := d) (z := z) h (by have := hm.1.1; omega)
  unfold bVal
  rw [if_pos hj, if_pos hm]
  unfold bDf
  split <;> split <;> omega
theorem bVal_nn {d : Nat → Int} {z j : Nat} : 0 ≤ bVal d z j ↔ bOk d z j := by
  unfold bVal
  split
  · rename_i q
    unfold bDf
    constructor
    · intro _; exact q
    · intro _; split <;> omega
  · rename_i q
    exact ⟨fun w => by omega, fun w => absurd w q⟩
theorem bestS_no {d : Nat → Int} {z j : Nat} (h : ¬ bOk d z j) : bestS d z (j + 1) = bestS d z j := if_neg (fun q => h q.1)
theorem bestS_end {d : Nat → Int} {z j : Nat} (h : j + 1 = z) : bestS d z z = bestS d z j := by
  subst h
  exact bestS_no (fun q => by have := q.1.1; omega)
abbrev ofC (bs bd f s : Int) : Prop := f ≤ 28 ∧ s ≤ 28 ∧ (bs = -1 ∨ ((f - s).natAbs : Int) < bd)
def ofB (bs bd p f s : Int) : Int := if ofC bs bd f s then p else bs
def ofD (bs bd f s : Int) : Int := if ofC bs bd f s then ((f - s).natAbs : Int) else bd
theorem bst_of {d : Nat → Int} {z j : Nat} {bs bd f s : Int} (hp : bPl d z j) (hf : f = bOne d j) (hs : s = bTwo d z j) (h1 : bs = bestS d z j) (h2 : bs ≠ -1 → bd = bDf d z bs.toNat) : ofB bs bd j f s = bestS d z (j + 1) ∧ (ofB bs bd j f s ≠ -1 → ofD bs bd f s = bDf d z (ofB bs bd j f s).toNat) := by
  subst hf hs
  have e : ofC bs bd (bOne d j) (bTwo d z j) ↔ (bOk d z j ∧ (bestS d z j = -1 ∨ bDf d z j < bDf d z (bestS d z j).toNat)) := by
    rw [← h1]
    unfold ofC bOk bDf
    constructor
    · rintro ⟨a, b, c⟩
      refine ⟨⟨hp, a, b⟩, ?_⟩
      by_cases q : bs = -1
      · exact Or.inl q
      · have := h2 q
        unfold bDf at this
        omega
    · rintro ⟨⟨_, a, b⟩, c⟩
      refine ⟨a, b, ?_⟩
      by_cases q : bs = -1
      · exact Or.inl q
      · have := h2 q
        unfold bDf at this
        omega
  by_cases q : ofC bs bd (bOne d j) (bTwo d z j)
  · have e2 := e.mp q
    have u : ofB bs bd j (bOne d j) (bTwo d z j) = j := if_pos q
    have v : ofD bs bd (bOne d j) (bTwo d z j) = bDf d z j := if_pos q
    rw [u, v]
    refine ⟨(if_pos e2).symm, fun _ => by rw [Int.toNat_natCast]⟩
  · have e2 : ¬ _ := fun w => q (e.mpr w)
    have u : ofB bs bd j (bOne d j) (bTwo d z j) = bs := if_neg q
    have v : ofD bs bd (bOne d j) (bTwo d z j) = bd := if_neg q
    rw [u, v]
    exact ⟨h1.trans (if_neg e2).symm, h2⟩
def jlF (F : Nat → Int) (o m : Nat) : Nat → Int := fun k => if o ≤ k ∧ k < o + m ∧ F k = 10 then 32 else F k
theorem jl_0 {F : Nat → Int} {o : Nat} : jlF F o 0 = F := by
  funext k
  exact if_neg (by omega)
theorem jl_i {F : Nat → Int} {o m : Nat} : jlF F o m (o + m) = F (o + m) := if_neg (by omega)
theorem jl_s {F : Nat → Int} {o m : Nat} (h : F (o + m) = 10) : zup (jlF F o m) (o + m) 32 = jlF F o (m + 1) := by
  funext k
  show (if k = o + m then (32 : Int) else if o ≤ k ∧ k < o + m ∧ F k = 10 then 32 else F k) = if o ≤ k ∧ k < o + (m + 1) ∧ F k = 10 then 32 else F k
  by_cases q : k = o + m
  · subst q; rw [if_pos rfl, if_pos (by omega)]
  · rw [if_neg q]
    by_cases q2 : o ≤ k ∧ k < o + m ∧ F k = 10
    · rw [if_pos q2, if_pos (by omega)]
    · rw [if_neg q2, if_neg (by omega)]
theorem jl_n {F : Nat → Int} {o m : Nat} (h : F (o + m) ≠ 10) : jlF F o m = jlF F o (m + 1) := by
  funext k
  show (if o ≤ k ∧ k < o + m ∧ F k = 10 then 32 else F k) = if o ≤ k ∧ k < o + (m + 1) ∧ F k = 10 then 32 else F k
  by_cases q : k = o + m
  · subst q; rw [if_neg (by omega), if_neg (by omega)]
  · by_cases q2 : o ≤ k ∧ k < o + m ∧ F k = 10
    · rw [if_pos q2, if_pos (by omega)]
    · rw [if_neg q2, if_neg (by omega)]
theorem jl_in {F : Nat → Int} {o m j : Nat} (h : j < m) : jlF F o m (o + j) = drf F o j := by
  show (if o ≤ o + j ∧ o + j < o + m ∧ F (o + j) = 10 then 32 else F (o + j)) = if F (o + j) = 10 then 32 else F (o + j)
  by_cases q : F (o + j) = 10
  · rw [if_pos (by omega), if_pos q]
  · rw [if_neg (by omega), if_neg q]
theorem jl_out {F : Nat → Int} {o m k : Nat} (h : k < o ∨ o + m ≤ k) : jlF F o m k = F k := if_neg (by omega)
theorem jl_r {F : Nat → Int} {o m : Nat} (h : ∀ k, 0 ≤ F k ∧ F k ≤ 255) (k : Nat) : 0 ≤ jlF F o m k ∧ jlF F o m k ≤ 255 := by
  unfold jlF
  split
  · omega
  · exact h k
/-- a text d broken at p (nowhere: p below 0) -/
def ntx (d : Nat → Int) (p : Int) (q : Nat) : Int := if p < 0 ∨ (q : Int) < p then d q else if d p.toNat = 45 then (if (q : Int) = p then 45 else if (q : Int) = p + 1 then 10 else d (q - 1)) else if (q : Int) = p then 10 else d q
def ntl (d : Nat → Int) (p : Int) (z : Nat) : Nat := if 0 ≤ p ∧ d p.toNat = 45 then z + 1 else z
def ntR (F F' : Nat → Int) (i : Nat) (d : Nat → Int) (p : Int) (z : Nat) : Prop := (∀ q, q < ntl d p z → F' (i * 64 + q) = ntx d p q) ∧ (∀ k, k < i * 64 ∨ i * 64 + 64 ≤ k → F' k = F k) ∧ ∀ k, 0 ≤ F' k ∧ F' k ≤ 255
theorem ntR_0 {F : Nat → Int} {i z : Nat} (hB : ∀ k, 0 ≤ F k ∧ F k ≤ 255) (hz : z ≤ 64) : ntR F (jlF F (i * 64) z) i (drf F (i * 64)) (-1) z := by
  refine ⟨fun q hq => ?_, fun k hk => jl_out (by omega), jl_r hB⟩
  have e : ntl (drf F (i * 64)) (-1) z = z := if_neg (by omega)
  rw [e] at hq
  rw [jl_in hq, ntx, if_pos (Or.inl (by decide))]
theorem ntR_1 {F : Nat → Int} {i z p : Nat} (hB : ∀ k, 0 ≤ F k ∧ F k ≤ 255) (hz : z ≤ 64) (hp : p < z) (h : drf F (i * 64) p ≠ 45) : ntR F (zup (jlF F (i * 64) z) (i * 64 + p) 10) i (drf F (i * 64)) p z := by
  refine ⟨fun q hq => ?_, fun k hk => ?_, zup_all (P := fun x => 0 ≤ x ∧ x ≤ 255) (jl_r hB) (by decide)⟩
  · have e : ntl (drf F (i * 64)) p z = z := if_neg (by rw [Int.toNat_natCast]; exact fun w => h w.2)
    rw [e] at hq
    show (if i * 64 + q = i * 64 + p then (10 : Int) else jlF F (i * 64) z (i * 64 + q)) = _
    rw [ntx, Int.toNat_natCast, if_neg h, jl_in hq]
    by_cases w : q = p
    · rw [if_pos (by omega), if_neg (by omega), if_pos (by omega)]
    · rw [if_neg (by omega)]
      by_cases w2 : q < p
      · rw [if_pos (Or.inr (by omega))]
      · rw [if_neg (by omega), if_neg (by omega)]
  · show (if k = i * 64 + p then (10 : Int) else jlF F (i * 64) z k) = _
    rw [if_neg (by omega), jl_out (by omega)]
theorem cpy_r {F K : Nat → Int} {a b m : Nat} (hF : ∀ k, 0 ≤ F k ∧ F k ≤ 255) (hK : ∀ k, 0 ≤ K k ∧ K k ≤ 255) (k : Nat) : 0 ≤ va_cpy F K a b m k ∧ va_cpy F K a b m k ≤ 255 := by
  rw [cpy_i]
  split
  · exact hF _
  · exact hK _
theorem ntR_2 {F : Nat → Int} {i z p : Nat} (hB : ∀ k, 0 ≤ F k ∧ F k ≤ 255) (hz : z < 64) (hp : p < z) (h : drf F (i * 64) p = 45) : ntR F (zup (va_cpy (jlF F (i * 64) z) (jlF F (i * 64) z) (i * 64 + p + 1) (i * 64 + p + 1 + 1) (z - p - 1)) (i * 64 + p + 1) 10) i (drf F (i * 64)) p z := by
  refine ⟨fun q hq => ?_, fun k hk => ?_, zup_all (P := fun x => 0 ≤ x ∧ x ≤ 255) (cpy_r (jl_r hB) (jl_r hB)) (by decide)⟩
  · have e : ntl (drf F (i * 64)) p z = z + 1 := if_pos (by rw [Int.toNat_natCast]; exact ⟨by omega, h⟩)
    rw [e] at hq
    show (if i * 64 + q = i * 64 + p + 1 then (10 : Int) else va_cpy _ _ _ _ _ (i * 64 + q)) = _
    rw [ntx, Int.toNat_natCast, if_pos h, cpy_i]
    by_cases w : q ≤ p
    · rw [if_neg (by omega), if_neg (by omega), jl_in (by omega)]
      by_cases w2 : q = p
      · subst w2; rw [if_neg (by omega), if_pos rfl, h]
      · rw [if_pos (Or.inr (by omega))]
    · rw [if_neg (c := (p : Int) < 0 ∨ (q : Int) < p) (by omega), if_neg (c := (q : Int) = p) (by omega)]
      by_cases w2 : q = p + 1
      · rw [if_pos (by omega), if_pos (by omega)]
      · rw [if_neg (by omega), if_pos (by omega), if_neg (by omega), show i * 64 + p + 1 + (i * 64 + q - (i * 64 + p + 1 + 1)) = i * 64 + (q - 1) by omega, jl_in (by omega)]
  · show (if k = i * 64 + p + 1 then (10 : Int) else va_cpy _ _ _ _ _ k) = _
    rw [if_neg (by omega), cpy_i, if_neg (by omega), jl_out (by omega)]
set_option maxHeartbeats 4000000 in
set_option maxRecDepth 100000 in
theorem c_Ro_cellsAsOneLine (G : GT) (h : HM) (i : Nat) (o o1 o2 o3 o4 n : Nat) (K3 K4 : Nat → Int) (ho : h o = some (.inr (2, [.ref o1, .ref o2, .ref o3, .ref o4, .int (iZ (n : Int))]))) (ho3 : h o3 = some (.inl (G_i G, 16, .inl (iA K3)))) (ho4 : h o4 = some (.inl (G_i G, 1024, .inl (iA K4)))) (hi : i < 16) (hZ : ∀ k, 0 ≤ K3 k ∧ K3 k ≤ 64) (hB : ∀ k, 0 ≤ K4 k ∧ K4 k ≤ 255) : Rn G M_Ro_cellsAsOneLine (rm 2 50) [.ref o, .int (iZ (i : Int))] h (Pu (.int (iZ (cellsN (drf K4 (i * 64)) 0 (K3 i).toNat))) h) := by
  refine rn_of (by decide) (Nat.le_of_ble_eq_true rfl) ?_
  show Ev G M_Ro_cellsAsOneLine _ _ 0 [(0, .ref o), (1, .int (iZ (i : Int)))] [] _ 0 0
  have z0 := hZ i
  refine ev_aload_n d_Ro_cellsAsOneLine_0 rfl rfl ?_
  refine ev_iload_n d_Ro_cellsAsOneLine_1 rfl rfl ?_
  refine ev_iconst (v := iZ 0) d_Ro_cellsAsOneLine_2 rfl ?_
  refine ev_aload_n d_Ro_cellsAsOneLine_3 rfl rfl ?_
  refine ev_get d_Ro_cellsAsOneLine_4 fl_Ro_18 ho rfl ?_
  refine ev_iload_n d_Ro_cellsAsOneLine_7 rfl rfl ?_
  refine ez_iaload i d_Ro_cellsAsOneLine_8 ho3 (by omega) (by omega) (by decide) ?_
  refine ev_top (((K3 i).toNat : Int)) (by omega) ?_
  refine ev_pV M_Ro_cells 1 22 (As := [.int (iZ (i : Int)), .int (iZ 0), .int (iZ ((K3 i).toNat : Int))]) (c_Ro_cells G h o o1 o2 o3 o4 n K4 ho ho4 i 0 (K3 i).toNat (by omega) (by omega) hB) d_Ro_cellsAsOneLine_9 mk_Ro_cells ml_Ro_37 mv_Ro_cells ho rfl rfl rfl (Nat.le_of_ble_eq_true rfl) ⟨by decide, by decide⟩ ⟨by decide, by decide⟩ ?_
  refine ev_top (cellsN K4 (i * 64) (K3 i).toNat) (rfl) ?_
  refine ev_aload_n d_Ro_cellsAsOneLine_12 rfl rfl ?_
  refine ev_iload_n d_Ro_cellsAsOneLine_13 rfl rfl ?_
  refine ev_pV M_Ro_lines 1 22 (As := [.int (iZ (i : Int))]) (c_Ro_lines G h o o1 o2 o3 o4 n K3 K4 ho ho3 ho4 i hi (hZ i) hB) d_Ro_cellsAsOneLine_14 mk_Ro_lines ml_Ro_41 mv_Ro_lines ho rfl rfl rfl (Nat.le_of_ble_eq_true rfl) ⟨by decide, by decide⟩ ⟨by decide, by decide⟩ ?_
  refine ez_iadd d_Ro_cellsAsOneLine_17 ?_
  refine ev_iconst (v := iZ 1) d_Ro_cellsAsOneLine_18 rfl ?_
  refine ez_isub d_Ro_cellsAsOneLine_19 ?_
  exact ev_ireturn d_Ro_cellsAsOneLine_20 rfl (by decide) (by decide) (⟨by rw [drf_all], rfl⟩)
set_option maxHeartbeats 4000000 in
set_option maxRecDepth 100000 in
theorem lp_Ro_joinLines (G : GT) (h0 : HM) (i : Nat) (o o1 o2 o3 o4 n : Nat) (K3 K4 : Nat → Int) (hi : i < 16) (hZ : ∀ k, 0 ≤ K3 k ∧ K3 k ≤ 64) (hB : ∀ k, 0 ≤ K4 k ∧ K4 k ≤ 255) : ∀ (d : Nat) (j : Nat) (h : HM), j + d = (K3 i).toNat → h o = some (.inr (2, [.ref o1, .ref o2, .ref o3, .ref o4, .int (iZ (n : Int))])) → h o3 = some (.inl (G_i G, 16, .inl (iA K3))) → h o4 = some (.inl (G_i G, 1024, .inl (iA (jlF K4 (i * 64) j)))) → Fm [o4] h0 h → Ev G M_Ro_joinLines (rm 1 22) (fun r h' => r = none ∧ h' o4 = some (.inl (G_i G, 1024, .inl (iA (jlF K4 (i * 64) (K3 i).toNat)))) ∧ Fm [o4] h0 h') 2 [(0, .ref o), (1, .int (iZ (i : Int))), (2, .int (iZ (j : Int)))] [] h 0 0 := by
  intro d
  induction d using Nat.strongRecOn with
  | ind d ih =>
  intro j h hd ho ho3 ho4 fm
  have z0 := hZ i
  refine ev_iload_n d_Ro_joinLines_2 rfl rfl ?_
  refine ev_aload_n d_Ro_joinLines_3 rfl rfl ?_
  refine ev_get d_Ro_joinLines_4 fl_Ro_18 ho rfl ?_
  refine ev_iload_n d_Ro_joinLines_7 rfl rfl ?_
  refine ez_iaload i d_Ro_joinLines_8 ho3 (by omega) (by omega) (by decide) ?_
  refine ez_icmp_ge (tgt := 42) (by omega) (by omega) d_Ro_joinLines_9 rfl (fun c9 => ?_) (fun c9 => ?_)
  · exact ev_return d_Ro_joinLines_42 rfl (by decide) (by decide) (⟨rfl, by rw [show (K3 i).toNat = j by omega]; exact ho4, fm⟩)
  · refine ev_aload_n d_Ro_joinLines_12 rfl rfl ?_
    refine ev_iload_n d_Ro_joinLines_13 rfl rfl ?_
    refine ev_iload_n d_Ro_joinLines_14 rfl rfl ?_
    refine ev_pV M_Ro_byteAt 0 0 (As := [.int (iZ (i : Int)), .int (iZ (j : Int))]) (c_Ro_byteAt G h o o1 o2 o3 o4 n (jlF K4 (i * 64) j) i j ho ho4 (by omega)) d_Ro_joinLines_15 mk_Ro_byteAt ml_Ro_29 mv_Ro_byteAt ho rfl rfl rfl (Nat.le_of_ble_eq_true rfl) ⟨by decide, by decide⟩ ⟨by decide, by decide⟩ ?_
    refine ev_top (K4 (i * 64 + j)) (jl_i) ?_
    have rb := hB (i * 64 + j)
    refine ev_bipush (v := iZ 10) d_Ro_joinLines_18 rfl ?_
    refine ez_icmp_ne (tgt := 36) (by omega) (by decide) d_Ro_joinLines_20 rfl (fun c20 => ?_) (fun c20 => ?_)
    · refine ez_iinc (L' := [(0, .ref o), (1, .int (iZ (i : Int))), (2, .int (iZ ((j + 1 : Nat) : Int)))]) d_Ro_joinLines_36 rfl (by decide) rfl ?_
      refine ev_goto (tgt := 2) d_Ro_joinLines_39 rfl ?_
      exact ih (d - 1) (by omega) (j + 1) h (by omega) ho ho3 (by rw [← jl_n (by omega)]; exact ho4) fm
    · refine ev_aload_n d_Ro_joinLines_23 rfl rfl ?_
      refine ev_get d_Ro_joinLines_24 fl_Ro_22 ho rfl ?_
      refine ev_iload_n d_Ro_joinLines_27 rfl rfl ?_
      refine ev_bipush (v := iZ 64) d_Ro_joinLines_28 rfl ?_
      refine ez_imul d_Ro_joinLines_30 ?_
      refine ev_iload_n d_Ro_joinLines_31 rfl rfl ?_
      refine ez_iadd d_Ro_joinLines_32 ?_
      refine ev_bipush (v := iZ 32) d_Ro_joinLines_33 rfl ?_
      refine ez_iastore (F' := zup (jlF K4 (i * 64) j) (i * 64 + j) 32) (i * 64 + j) d_Ro_joinLines_35 ho4 (by omega) (by omega) (by decide) rfl (fun h1 h1a h1o => ?_)
      have ho := (h1o _ (cne ho ho4 (by simp))).trans ho
      have ho3 := (h1o _ (cne ho3 ho4 (by simp))).trans ho3
      have ho4 := h1a
      have fm := fm.step (by simp) h1o
      refine ez_iinc (L' := [(0, .ref o), (1, .int (iZ (i : Int))), (2, .int (iZ ((j + 1 : Nat) : Int)))]) d_Ro_joinLines_36 rfl (by decide) rfl ?_
      refine ev_goto (tgt := 2) d_Ro_joinLines_39 rfl ?_
      exact ih (d - 1) (by omega) (j + 1) h1 (by omega) ho ho3 (by rw [← jl_s (by omega)]; exact ho4) fm
set_option maxHeartbeats 4000000 in
set_option maxRecDepth 100000 in
theorem c_Ro_joinLines (G : GT) (h : HM) (i : Nat) (o o1 o2 o3 o4 n : Nat) (K3 K4 : Nat → Int) (ho : h o = some (.inr (2, [.ref o1, .ref o2, .ref o3, .ref o4, .int (iZ (n : Int))]))) (ho3 : h o3 = some (.inl (G_i G, 16, .inl (iA K3)))) (ho4 : h o4 = some (.inl (G_i G, 1024, .inl (iA K4)))) (hi : i < 16) (hZ : ∀ k, 0 ≤ K3 k ∧ K3 k ≤ 64) (hB : ∀ k, 0 ≤ K4 k ∧ K4 k ≤ 255) : Rn G M_Ro_joinLines (rm 1 22) [.ref o, .int (iZ (i : Int))] h (fun r h' => r = none ∧ h' o4 = some (.inl (G_i G, 1024, .inl (iA (jlF K4 (i * 64) (K3 i).toNat)))) ∧ Fm [o4] h h') := by
  refine rn_of (by decide) (Nat.le_of_ble_eq_true rfl) ?_
  show Ev G M_Ro_joinLines _ _ 0 [(0, .ref o), (1, .int (iZ (i : Int)))] [] _ 0 0
  refine ev_iconst (v := iZ 0) d_Ro_joinLines_0 rfl ?_
  refine ev_istore_n (L' := [(0, .ref o), (1, .int (iZ (i : Int))), (2, .int (iZ 0))]) d_Ro_joinLines_1 rfl (by decide) rfl ?_
  exact lp_Ro_joinLines G h i o o1 o2 o3 o4 n K3 K4 hi hZ hB (K3 i).toNat 0 h (by omega) ho ho3 (by rw [jl_0]; exact ho4) Fm.rf
set_option maxHeartbeats 4000000 in
set_option maxRecDepth 100000 in
theorem c_Ro_breakAt (G : GT) (h : HM) (i p : Nat) (o o1 o2 o3 o4 n : Nat) (K3 F : Nat → Int) (ho : h o = some (.inr (2, [.ref o1, .ref o2, .ref o3, .ref o4, .int (iZ (n : Int))]))) (ho3 : h o3 = some (.inl (G_i G, 16, .inl (iA K3)))) (ho4 : h o4 = some (.inl (G_i G, 1024, .inl (iA F)))) (hi : i < 16) (hZ : ∀ k, 0 ≤ K3 k ∧ K3 k ≤ 64) (hF : ∀ k, 0 ≤ F k ∧ F k ≤ 255) (hp : (p : Int) < K3 i) (h64 : F (i * 64 + p) = 45 → K3 i < 64) : Rn G M_Ro_breakAt (rm 1 40) [.ref o, .int (iZ (i : Int)), .int (iZ (p : Int))] h (fun r h' => r = none ∧ (F (i * 64 + p) = 45 → h' o3 = some (.inl (G_i G, 16, .inl (iA (zup K3 i (K3 i + 1))))) ∧ h' o4 = some (.inl (G_i G, 1024, .inl (iA (zup (va_cpy F F (i * 64 + p + 1) (i * 64 + p + 1 + 1) ((K3 i).toNat - p - 1)) (i * 64 + p + 1) 10))))) ∧ (F (i * 64 + p) ≠ 45 → h' o3 = some (.inl (G_i G, 16, .inl (iA K3))) ∧ h' o4 = some (.inl (G_i G, 1024, .inl (iA (zup F (i * 64 + p) 10))))) ∧ Fm [o3, o4] h h') := by
  refine rn_of (by decide) (Nat.le_of_ble_eq_true rfl) ?_
  show Ev G M_Ro_breakAt _ _ 0 [(0, .ref o), (1, .int (iZ (i : Int))), (2, .int (iZ (p : Int)))] [] _ 0 0
  have fm : Fm [o3, o4] h h := Fm.rf
  have z0 := hZ i
  refine ev_iload_n d_Ro_breakAt_0 rfl rfl ?_
  refine ev_bipush (v := iZ 64) d_Ro_breakAt_1 rfl ?_
  refine ez_imul d_Ro_breakAt_3 ?_
  refine ev_iload_n d_Ro_breakAt_4 rfl rfl ?_
  refine ez_iadd d_Ro_breakAt_5 ?_
  rw [show (((i : Int) * 64) + (p : Int) : Int) = ((i * 64 + p : Nat) : Int) from by omega]
  refine ev_istore_n (L' := [(0, .ref o), (1, .int (iZ (i : Int))), (2, .int (iZ (p : Int))), (3, .int (iZ ((i * 64 + p : Nat) : Int)))]) d_Ro_breakAt_6 rfl (by decide) rfl ?_
  refine ev_aload_n d_Ro_breakAt_7 rfl rfl ?_
  refine ev_get d_Ro_breakAt_8 fl_Ro_22 ho rfl ?_
  refine ev_iload_n d_Ro_breakAt_11 rfl rfl ?_
  refine ez_iaload (i * 64 + p) d_Ro_breakAt_12 ho4 (by omega) (by omega) (by decide) ?_
  have rb := hF (i * 64 + p)
  refine ev_bipush (v := iZ 45) d_Ro_breakAt_13 rfl ?_
  refine ez_icmp_ne (tgt := 56) (by omega) (by decide) d_Ro_breakAt_15 rfl (fun c15 => ?_) (fun c15 => ?_)
  · refine ev_aload_n d_Ro_breakAt_56 rfl rfl ?_
    refine ev_get d_Ro_breakAt_57 fl_Ro_22 ho rfl ?_
    refine ev_iload_n d_Ro_breakAt_60 rfl rfl ?_
    refine ev_bipush (v := iZ 10) d_Ro_breakAt_61 rfl ?_
    refine ez_iastore (F' := zup F (i * 64 + p) 10) (i * 64 + p) d_Ro_breakAt_63 ho4 (by omega) (by omega) (by decide) rfl (fun h1 h1a h1o => ?_)
    have ho := (h1o _ (cne ho ho4 (by simp))).trans ho
    have ho3 := (h1o _ (cne ho3 ho4 (by simp))).trans ho3
    have ho4 := h1a
    have fm := fm.step (by simp) h1o
    exact ev_return d_Ro_breakAt_64 rfl (by decide) (by decide) (⟨rfl, fun q => absurd q (by omega), fun _ => ⟨ho3, ho4⟩, fm⟩)
  · refine ez_iinc (L' := [(0, .ref o), (1, .int (iZ (i : Int))), (2, .int (iZ (p : Int))), (3, .int (iZ ((i * 64 + p + 1 : Nat) : Int)))]) d_Ro_breakAt_18 rfl (by decide) rfl ?_
    refine ev_aload_n d_Ro_breakAt_21 rfl rfl ?_
    refine ev_get d_Ro_breakAt_22 fl_Ro_22 ho rfl ?_
    refine ev_iload_n d_Ro_breakAt_25 rfl rfl ?_
    refine ev_aload_n d_Ro_breakAt_26 rfl rfl ?_
    refine ev_get d_Ro_breakAt_27 fl_Ro_22 ho rfl ?_
    refine ev_iload_n d_Ro_breakAt_30 rfl rfl ?_
    refine ev_iconst (v := iZ 1) d_Ro_breakAt_31 rfl ?_
    refine ez_iadd d_Ro_breakAt_32 ?_
    refine ev_aload_n d_Ro_breakAt_33 rfl rfl ?_
    refine ev_get d_Ro_breakAt_34 fl_Ro_18 ho rfl ?_
    refine ev_iload_n d_Ro_breakAt_37 rfl rfl ?_
    refine ez_iaload i d_Ro_breakAt_38 ho3 (by omega) (by omega) (by decide) ?_
    refine ev_iload_n d_Ro_breakAt_39 rfl rfl ?_
    refine ez_isub d_Ro_breakAt_40 ?_
    refine ev_iconst (v := iZ 1) d_Ro_breakAt_41 rfl ?_
    refine ez_isub d_Ro_breakAt_42 ?_
    refine ez_copyi (F' := va_cpy F F (i * 64 + p + 1) (i * 64 + p + 1 + 1) ((K3 i).toNat - p - 1)) (i * 64 + p + 1) (i * 64 + p + 1 + 1) ((K3 i).toNat - p - 1) d_Ro_breakAt_43 ml_Ro_44 nat_copy sta_copy in_System ho4 ho4 (by omega) (by omega) (by omega) (by omega) (by omega) (by decide) (by decide) (by decide) (by decide) rfl (fun h2 h2a h2o => ?_)
    have ho := (h2o _ (cne ho ho4 (by simp))).trans ho
    have ho3 := (h2o _ (cne ho3 ho4 (by simp))).trans ho3
    have ho4 := h2a
    have fm := fm.step (by simp) h2o
    refine ev_aload_n d_Ro_breakAt_46 rfl rfl ?_
    refine ev_get d_Ro_breakAt_47 fl_Ro_18 ho rfl ?_
    refine ev_iload_n d_Ro_breakAt_50 rfl rfl ?_
    refine ev_dup2_11 d_Ro_breakAt_51 rfl rfl ?_
    refine ez_iaload i d_Ro_breakAt_52 ho3 (by omega) (by omega) (by decide) ?_
    refine ev_iconst (v := iZ 1) d_Ro_breakAt_53 rfl ?_
    refine ez_iadd d_Ro_breakAt_54 ?_
    refine ez_iastore (F' := zup K3 i ((K3 i) + 1)) i d_Ro_breakAt_55 ho3 (by omega) (by omega) (by decide) rfl (fun h3 h3a h3o => ?_)
    have ho := (h3o _ (cne ho ho3 (by simp))).trans ho
    have ho4 := (h3o _ (cne ho4 ho3 (by simp))).trans ho4
    have ho3 := h3a
    have fm := fm.step (by simp) h3o
    refine ev_aload_n d_Ro_breakAt_56 rfl rfl ?_
    refine ev_get d_Ro_breakAt_57 fl_Ro_22 ho rfl ?_
    refine ev_iload_n d_Ro_breakAt_60 rfl rfl ?_
    refine ev_bipush (v := iZ 10) d_Ro_breakAt_61 rfl ?_
    refine ez_iastore (F' := zup (va_cpy F F (i * 64 + p + 1) (i * 64 + p + 1 + 1) ((K3 i).toNat - p - 1)) (i * 64 + p + 1) 10) (i * 64 + p + 1) d_Ro_breakAt_63 ho4 (by omega) (by omega) (by decide) rfl (fun h4 h4a h4o => ?_)
    have ho := (h4o _ (cne ho ho4 (by simp))).trans ho
    have ho3 := (h4o _ (cne ho3 ho4 (by simp))).trans ho3
    have ho4 := h4a
    have fm := fm.step (by simp) h4o
    exact ev_return d_Ro_breakAt_64 rfl (by decide) (by decide) (⟨rfl, fun _ => ⟨ho3, ho4⟩, fun q => absurd q (by omega), fm⟩)
set_option maxHeartbeats 4000000 in
set_option maxRecDepth 100000 in
theorem c_Li_offer (G : GT) (h : HM) (xl xo : Nat) (bs bd p f s : Int) (hl : h xl = some (.inr (6, [.ref xo, .int (iZ bs), .int (iZ bd)]))) (hbs : iR bs) (hbd : iR bd) (hf : -1000 ≤ f ∧ f ≤ 1000) (hs : -1000 ≤ s ∧ s ≤ 1000) : Rn G M_Li_offer (rm 1 22) [.ref xl, .int (iZ p), .int (iZ f), .int (iZ s)] h (fun r h' => r = none ∧ h' xl = some (.inr (6, [.ref xo, .int (iZ (ofB bs bd p f s)), .int (iZ (ofD bs bd f s))])) ∧ Fm [xl] h h') := by
  refine rn_of (by decide) (Nat.le_of_ble_eq_true rfl) ?_
  show Ev G M_Li_offer _ _ 0 [(0, .ref xl), (1, .int (iZ p)), (2, .int (iZ f)), (3, .int (iZ s))] [] _ 0 0
  have fm : Fm [xl] h h := Fm.rf
  refine ev_iload_n d_Li_offer_0 rfl rfl ?_
  refine ev_bipush (v := iZ 28) d_Li_offer_1 rfl ?_
  refine ez_icmp_gt (tgt := 12) (by omega) (by decide) d_Li_offer_3 rfl (fun c3 => ?_) (fun c3 => ?_)
  · exact ev_return d_Li_offer_12 rfl (by decide) (by decide) (⟨rfl, by rw [show ofB bs bd p f s = _ from if_neg (show ¬ ofC bs bd f s from fun q => by obtain ⟨q1, q2, q3⟩ := q; omega), show ofD bs bd f s = _ from if_neg (show ¬ ofC bs bd f s from fun q => by obtain ⟨q1, q2, q3⟩ := q; omega)]; exact hl, fm⟩)
  · refine ev_iload_n d_Li_offer_6 rfl rfl ?_
    refine ev_bipush (v := iZ 28) d_Li_offer_7 rfl ?_
    refine ez_icmp_le (tgt := 13) (by omega) (by decide) d_Li_offer_9 rfl (fun c9 => ?_) (fun c9 => ?_)
    · refine ev_iload_n d_Li_offer_13 rfl rfl ?_
      refine ev_iload_n d_Li_offer_14 rfl rfl ?_
      refine ez_isub d_Li_offer_15 ?_
      refine ez_abs (by omega) d_Li_offer_16 ml_Li_40 ms_Math_abs in_Math co_Math_abs (by decide) (by decide) (by decide) (by decide) ?_
      refine ev_istore (L' := [(0, .ref xl), (1, .int (iZ p)), (2, .int (iZ f)), (3, .int (iZ s)), (4, .int (iZ ((f - s).natAbs : Int)))]) d_Li_offer_19 (by decide) rfl ?_
      refine ev_aload_n d_Li_offer_21 rfl rfl ?_
      refine ev_get d_Li_offer_22 fl_Li_15 hl rfl ?_
      refine ev_iconst (v := iZ (-1)) d_Li_offer_25 rfl ?_
      refine ez_icmp_eq (tgt := 39) (by omega) (by decide) d_Li_offer_26 rfl (fun c26 => ?_) (fun c26 => ?_)
      · refine ev_aload_n d_Li_offer_39 rfl rfl ?_
        refine ev_iload_n d_Li_offer_40 rfl rfl ?_
        refine ev_put2 (fs' := [.ref xo, .int (iZ p), .int (iZ bd)]) d_Li_offer_41 fw_Li_15 (Or.inr (fun _ _ _ q => by cases q; rfl)) hl (Nat.le_of_ble_eq_true rfl) rfl rfl rfl (fun h1 h1a h1o => ?_)
        have hl := h1a
        have fm := fm.step (by simp) h1o
        refine ev_aload_n d_Li_offer_44 rfl rfl ?_
        refine ev_iload d_Li_offer_45 rfl ?_
        refine ev_put2 (fs' := [.ref xo, .int (iZ p), .int (iZ ((f - s).natAbs : Int))]) d_Li_offer_47 fw_Li_45 (Or.inr (fun _ _ _ q => by cases q; rfl)) hl (Nat.le_of_ble_eq_true rfl) rfl rfl rfl (fun h2 h2a h2o => ?_)
        have hl := h2a
        have fm := fm.step (by simp) h2o
        exact ev_return d_Li_offer_50 rfl (by decide) (by decide) (⟨rfl, by rw [show ofB bs bd p f s = _ from if_pos (show ofC bs bd f s from ⟨by omega, by omega, by omega⟩), show ofD bs bd f s = _ from if_pos (show ofC bs bd f s from ⟨by omega, by omega, by omega⟩)]; exact hl, fm⟩)
      · refine ev_iload d_Li_offer_29 rfl ?_
        refine ev_aload_n d_Li_offer_31 rfl rfl ?_
        refine ev_get d_Li_offer_32 fl_Li_45 hl rfl ?_
        refine ez_icmp_lt (tgt := 39) (by omega) (by omega) d_Li_offer_35 rfl (fun c35 => ?_) (fun c35 => ?_)
        · refine ev_aload_n d_Li_offer_39 rfl rfl ?_
          refine ev_iload_n d_Li_offer_40 rfl rfl ?_
          refine ev_put2 (fs' := [.ref xo, .int (iZ p), .int (iZ bd)]) d_Li_offer_41 fw_Li_15 (Or.inr (fun _ _ _ q => by cases q; rfl)) hl (Nat.le_of_ble_eq_true rfl) rfl rfl rfl (fun h3 h3a h3o => ?_)
          have hl := h3a
          have fm := fm.step (by simp) h3o
          refine ev_aload_n d_Li_offer_44 rfl rfl ?_
          refine ev_iload d_Li_offer_45 rfl ?_
          refine ev_put2 (fs' := [.ref xo, .int (iZ p), .int (iZ ((f - s).natAbs : Int))]) d_Li_offer_47 fw_Li_45 (Or.inr (fun _ _ _ q => by cases q; rfl)) hl (Nat.le_of_ble_eq_true rfl) rfl rfl rfl (fun h4 h4a h4o => ?_)
          have hl := h4a
          have fm := fm.step (by simp) h4o
          exact ev_return d_Li_offer_50 rfl (by decide) (by decide) (⟨rfl, by rw [show ofB bs bd p f s = _ from if_pos (show ofC bs bd f s from ⟨by omega, by omega, by omega⟩), show ofD bs bd f s = _ from if_pos (show ofC bs bd f s from ⟨by omega, by omega, by omega⟩)]; exact hl, fm⟩)
        · exact ev_return d_Li_offer_38 rfl (by decide) (by decide) (⟨rfl, by rw [show ofB bs bd p f s = _ from if_neg (show ¬ ofC bs bd f s from fun q => by obtain ⟨q1, q2, q3⟩ := q; omega), show ofD bs bd f s = _ from if_neg (show ¬ ofC bs bd f s from fun q => by obtain ⟨q1, q2, q3⟩ := q; omega)]; exact hl, fm⟩)
    · exact ev_return d_Li_offer_12 rfl (by decide) (by decide) (⟨rfl, by rw [show ofB bs bd p f s = _ from if_neg (show ¬ ofC bs bd f s from fun q => by obtain ⟨q1, q2, q3⟩ := q; omega), show ofD bs bd f s = _ from if_neg (show ¬ ofC bs bd f s from fun q => by obtain ⟨q1, q2, q3⟩ := q; omega)]; exact hl, fm⟩)
set_option maxHeartbeats 4000000 in
set_option maxRecDepth 100000 in
theorem lp_Li_bestPlace (G : GT) (h0 : HM) (xl xo o1 o2 o3 o4 n i z : Nat) (K3 K4 : Nat → Int) (al : Int) (hi : i < 16) (hz : 1 ≤ z ∧ z ≤ 64) (hB : ∀ k, 0 ≤ K4 k ∧ K4 k ≤ 255) (hal : al = cellsN (drf K4 (i * 64)) 0 z) : ∀ (d : Nat) (j : Nat) (h : HM) (acc bs bd : Int), j + d + 1 = z → acc = cellsN (drf K4 (i * 64)) 0 j → bs = bestS (drf K4 (i * 64)) z j → (bs ≠ -1 → bd = bDf (drf K4 (i * 64)) z bs.toNat) → iR bd → h xl = some (.inr (6, [.ref xo, .int (iZ bs), .int (iZ bd)])) → h xo = some (.inr (2, [.ref o1, .ref o2, .ref o3, .ref o4, .int (iZ (n : Int))])) → h o3 = some (.inl (G_i G, 16, .inl (iA K3))) → h o4 = some (.inl (G_i G, 1024, .inl (iA K4))) → Fm [xl] h0 h → Ev G M_Li_bestPlace (rm 3 82) (fun r h' => r = some (.int (iZ (bestS (drf K4 (i * 64)) z z))) ∧ (∃ v : Int × Int, iR v.1 ∧ iR v.2 ∧ h' xl = some (.inr (6, [.ref xo, .int (iZ v.1), .int (iZ v.2)]))) ∧ Fm [xl] h0 h') 30 [(0, .ref xl), (1, .int (iZ (i : Int))), (2, .int (iZ (z : Int))), (3, .int (iZ al)), (4, .int (iZ acc)), (5, .int (iZ (j : Int)))] [] h 0 0 := by
  intro d
  induction d using Nat.strongRecOn with
  | ind d ih =>
  intro j h acc bs bd hd hacc hbs hbd hbdr hl ho ho3 ho4 fm
  have ra := cellsN_r (drf K4 (i * 64)) 0 j
  have ra2 := cellsN_r (drf K4 (i * 64)) 0 z
  have rbs := bestS_r (drf K4 (i * 64)) z j
  refine ev_iload d_Li_bestPlace_30 rfl ?_
  refine ev_iload_n d_Li_bestPlace_32 rfl rfl ?_
  refine ev_iconst (v := iZ 1) d_Li_bestPlace_33 rfl ?_
  refine ez_isub d_Li_bestPlace_34 ?_
  refine ez_icmp_ge (tgt := 145) (by omega) (by omega) d_Li_bestPlace_35 rfl (fun c35 => ?_) (fun c35 => ?_)
  · refine ev_aload_n d_Li_bestPlace_145 rfl rfl ?_
    refine ev_get d_Li_bestPlace_146 fl_Li_15 hl rfl ?_
    exact ev_ireturn d_Li_bestPlace_149 rfl (by decide) (by decide) (⟨by rw [bestS_end (j := j) (by omega), ← hbs], ⟨(bs, bd), by show iR bs; omega, by show iR bd; omega, hl⟩, fm⟩)
  · refine ev_aload_n d_Li_bestPlace_38 rfl rfl ?_
    refine ev_get d_Li_bestPlace_39 fl_Li_9 hl rfl ?_
    refine ev_iload_n d_Li_bestPlace_42 rfl rfl ?_
    refine ev_iload d_Li_bestPlace_43 rfl ?_
    refine ev_pV M_Ro_byteAt 0 0 (As := [.int (iZ (i : Int)), .int (iZ (j : Int))]) (c_Ro_byteAt G h xo o1 o2 o3 o4 n K4 i j ho ho4 (by omega)) d_Li_bestPlace_45 mk_Ro_byteAt ml_Li_29 mv_Ro_byteAt ho rfl rfl rfl (Nat.le_of_ble_eq_true rfl) ⟨by decide, by decide⟩ ⟨by decide, by decide⟩ ?_
    have rb := hB (i * 64 + j)
    refine ev_istore (L' := [(0, .ref xl), (1, .int (iZ (i : Int))), (2, .int (iZ (z : Int))), (3, .int (iZ al)), (4, .int (iZ acc)), (5, .int (iZ (j : Int))), (6, .int (iZ (K4 (i * 64 + j))))]) d_Li_bestPlace_48 (by decide) rfl ?_
    refine ev_iload d_Li_bestPlace_50 rfl ?_
    refine ev_bipush (v := iZ 32) d_Li_bestPlace_52 rfl ?_
    refine ez_icmp_eq (tgt := 64) (by omega) (by decide) d_Li_bestPlace_54 rfl (fun c54 => ?_) (fun c54 => ?_)
    · refine ev_iconst (v := iZ 1) d_Li_bestPlace_64 rfl ?_
      refine ev_goto (tgt := 69) d_Li_bestPlace_65 rfl ?_
      refine ev_istore (L' := [(0, .ref xl), (1, .int (iZ (i : Int))), (2, .int (iZ (z : Int))), (3, .int (iZ al)), (4, .int (iZ acc)), (5, .int (iZ (j : Int))), (6, .int (iZ (K4 (i * 64 + j)))), (7, .int (iZ 1))]) d_Li_bestPlace_69 (by decide) rfl ?_
      refine ev_iload d_Li_bestPlace_71 rfl ?_
      refine ez_if_eq (tgt := 95) (by decide) d_Li_bestPlace_73 rfl (fun c73 => absurd c73 (by omega)) (fun c73 => ?_)
      refine ev_iload d_Li_bestPlace_76 rfl ?_
      refine ez_if_le (tgt := 95) (by omega) d_Li_bestPlace_78 rfl (fun c78 => ?_) (fun c78 => ?_)
      · refine ev_iload d_Li_bestPlace_95 rfl ?_
        refine ev_iload d_Li_bestPlace_97 rfl ?_
        refine ez_if_eq (tgt := 106) (by decide) d_Li_bestPlace_99 rfl (fun c99 => absurd c99 (by omega)) (fun c99 => ?_)
        refine ev_iconst (v := iZ 1) d_Li_bestPlace_102 rfl ?_
        refine ev_goto (tgt := 111) d_Li_bestPlace_103 rfl ?_
        refine ez_iadd d_Li_bestPlace_111 ?_
        refine ev_istore (L' := [(0, .ref xl), (1, .int (iZ (i : Int))), (2, .int (iZ (z : Int))), (3, .int (iZ al)), (4, .int (iZ (acc + 1))), (5, .int (iZ (j : Int))), (6, .int (iZ (K4 (i * 64 + j)))), (7, .int (iZ 1))]) d_Li_bestPlace_112 (by decide) rfl ?_
        refine ev_iload d_Li_bestPlace_114 rfl ?_
        refine ev_bipush (v := iZ 45) d_Li_bestPlace_116 rfl ?_
        refine ez_icmp_ne (tgt := 139) (by omega) (by decide) d_Li_bestPlace_118 rfl (fun c118 => ?_) (fun c118 => absurd c118 (by omega))
        refine ez_iinc (L' := [(0, .ref xl), (1, .int (iZ (i : Int))), (2, .int (iZ (z : Int))), (3, .int (iZ al)), (4, .int (iZ (acc + 1))), (5, .int (iZ ((j + 1 : Nat) : Int))), (6, .int (iZ (K4 (i * 64 + j)))), (7, .int (iZ 1))]) d_Li_bestPlace_139 rfl (by decide) rfl ?_
        refine ev_goto (tgt := 30) d_Li_bestPlace_142 rfl ?_
        have hD : drf K4 (i * 64) j = 32 := by by_cases q : K4 (i * 64 + j) = 10; exact drf_10 q; rw [drf_n q]; omega
        have hs1 := cellsN_s0 (F := (drf K4 (i * 64))) (k := j)
        rw [hD] at hs1
        rw [show cellZ 32 = 1 from rfl] at hs1
        have hno : bestS (drf K4 (i * 64)) z (j + 1) = bestS (drf K4 (i * 64)) z j := bestS_no (fun q => by obtain ⟨⟨_, q⟩, _⟩ := q; omega)
        refine ev_loc [(0, .ref xl), (1, .int (iZ (i : Int))), (2, .int (iZ (z : Int))), (3, .int (iZ al)), (4, .int (iZ (acc + 1))), (5, .int (iZ ((j + 1 : Nat) : Int)))] (by simp) ?_
        exact ih (d - 1) (by omega) (j + 1) h (acc + 1) (bs) (bd) (by omega) (by rw [hs1, hacc]) (by rw [hno]; exact hbs) hbd hbdr hl ho ho3 ho4 fm
      · refine ev_aload_n d_Li_bestPlace_81 rfl rfl ?_
        refine ev_iload d_Li_bestPlace_82 rfl ?_
        refine ev_iload d_Li_bestPlace_84 rfl ?_
        refine ev_iload_n d_Li_bestPlace_86 rfl rfl ?_
        refine ev_iload d_Li_bestPlace_87 rfl ?_
        refine ez_isub d_Li_bestPlace_89 ?_
        refine ev_iconst (v := iZ 1) d_Li_bestPlace_90 rfl ?_
        refine ez_isub d_Li_bestPlace_91 ?_
        have hD : drf K4 (i * 64) j = 32 := by by_cases q : K4 (i * 64 + j) = 10; exact drf_10 q; rw [drf_n q]; omega
        have two := bTwo_eq (d := (drf K4 (i * 64))) (z := z) (j := j) (by omega)
        have hone : bOne (drf K4 (i * 64)) j = acc := by unfold bOne; rw [if_pos hD, hacc]
        have hs1 := cellsN_s0 (F := (drf K4 (i * 64))) (k := j)
        rw [hD, show cellZ 32 = 1 from rfl] at hs1
        have hof := bst_of (d := (drf K4 (i * 64))) (z := z) (j := j) (bs := bs) (bd := bd) (f := acc) (s := (al - acc) - 1) ⟨by omega, by omega⟩ (by omega) (by omega) hbs hbd
        refine ev_callV M_Li_offer (rm 1 22) _ (As := [.int (iZ (j : Int)), .int (iZ acc), .int (iZ ((al - acc) - 1))]) (c_Li_offer G h xl xo bs bd j (acc) ((al - acc) - 1) hl (by omega) (by omega) (by omega) (by omega)) d_Li_bestPlace_92 mk_Li_offer ml_Li_33 mv_Li_offer hl rfl rfl rfl (Nat.le_of_ble_eq_true rfl) ⟨by decide, by decide⟩ ⟨by decide, by decide⟩ (fun r h9 hq => ?_)
        obtain ⟨rfl, gl, fmc⟩ := hq
        have ho := (fmc _ (ninc (cne ho hl (by simp)) nin0)).trans ho
        have ho3 := (fmc _ (ninc (cne ho3 hl (by simp)) nin0)).trans ho3
        have ho4 := (fmc _ (ninc (cne ho4 hl (by simp)) nin0)).trans ho4
        have hl := gl
        have fm := fm.call (by simp) fmc
        refine ev_iload d_Li_bestPlace_95 rfl ?_
        refine ev_iload d_Li_bestPlace_97 rfl ?_
        refine ez_if_eq (tgt := 106) (by decide) d_Li_bestPlace_99 rfl (fun c99 => absurd c99 (by omega)) (fun c99 => ?_)
        refine ev_iconst (v := iZ 1) d_Li_bestPlace_102 rfl ?_
        refine ev_goto (tgt := 111) d_Li_bestPlace_103 rfl ?_
        refine ez_iadd d_Li_bestPlace_111 ?_
        refine ev_istore (L' := [(0, .ref xl), (1, .int (iZ (i : Int))), (2, .int (iZ (z : Int))), (3, .int (iZ al)), (4, .int (iZ (acc + 1))), (5, .int (iZ (j : Int))), (6, .int (iZ (K4 (i * 64 + j)))), (7, .int (iZ 1))]) d_Li_bestPlace_112 (by decide) rfl ?_
        refine ev_iload d_Li_bestPlace_114 rfl ?_
        refine ev_bipush (v := iZ 45) d_Li_bestPlace_116 rfl ?_
        refine ez_icmp_ne (tgt := 139) (by omega) (by decide) d_Li_bestPlace_118 rfl (fun c118 => ?_) (fun c118 => absurd c118 (by omega))
        refine ez_iinc (L' := [(0, .ref xl), (1, .int (iZ (i : Int))), (2, .int (iZ (z : Int))), (3, .int (iZ al)), (4, .int (iZ (acc + 1))), (5, .int (iZ ((j + 1 : Nat) : Int))), (6, .int (iZ (K4 (i * 64 + j)))), (7, .int (iZ 1))]) d_Li_bestPlace_139 rfl (by decide) rfl ?_
        refine ev_goto (tgt := 30) d_Li_bestPlace_142 rfl ?_
        refine ev_loc [(0, .ref xl), (1, .int (iZ (i : Int))), (2, .int (iZ (z : Int))), (3, .int (iZ al)), (4, .int (iZ (acc + 1))), (5, .int (iZ ((j + 1 : Nat) : Int)))] (by simp) ?_
        exact ih (d - 1) (by omega) (j + 1) h9 (acc + 1) (ofB bs bd j (acc) ((al - acc) - 1)) (ofD bs bd (acc) ((al - acc) - 1)) (by omega) (by rw [hs1, hacc]) hof.1 hof.2 (by unfold ofD; split <;> omega) hl ho ho3 ho4 fm
    · refine ev_iload d_Li_bestPlace_57 rfl ?_
      refine ev_bipush (v := iZ 10) d_Li_bestPlace_59 rfl ?_
      refine ez_icmp_ne (tgt := 68) (by omega) (by decide) d_Li_bestPlace_61 rfl (fun c61 => ?_) (fun c61 => ?_)
      · refine ev_iconst (v := iZ 0) d_Li_bestPlace_68 rfl ?_
        refine ev_istore (L' := [(0, .ref xl), (1, .int (iZ (i : Int))), (2, .int (iZ (z : Int))), (3, .int (iZ al)), (4, .int (iZ acc)), (5, .int (iZ (j : Int))), (6, .int (iZ (K4 (i * 64 + j)))), (7, .int (iZ 0))]) d_Li_bestPlace_69 (by decide) rfl ?_
        refine ev_iload d_Li_bestPlace_71 rfl ?_
        refine ez_if_eq (tgt := 95) (by decide) d_Li_bestPlace_73 rfl (fun c73 => ?_) (fun c73 => absurd c73 (by omega))
        refine ev_iload d_Li_bestPlace_95 rfl ?_
        refine ev_iload d_Li_bestPlace_97 rfl ?_
        refine ez_if_eq (tgt := 106) (by decide) d_Li_bestPlace_99 rfl (fun c99 => ?_) (fun c99 => absurd c99 (by omega))
        refine ev_iload d_Li_bestPlace_106 rfl ?_
        refine ev_pS M_CB_cellsOf 0 0 (As := [.int (iZ (K4 (i * 64 + j)))]) (c_CB_cellsOf G h (K4 (i * 64 + j)) (by omega)) d_Li_bestPlace_108 mk_CB_cellsOf ml_Li_37 ms_CB_cellsOf rfl rfl (Nat.le_of_ble_eq_true rfl) ⟨by decide, by decide⟩ ⟨by decide, by decide⟩ ?_
        have rc := cellZ_r (K4 (i * 64 + j))
        refine ez_iadd d_Li_bestPlace_111 ?_
        refine ev_istore (L' := [(0, .ref xl), (1, .int (iZ (i : Int))), (2, .int (iZ (z : Int))), (3, .int (iZ al)), (4, .int (iZ (acc + (cellZ (K4 (i * 64 + j)))))), (5, .int (iZ (j : Int))), (6, .int (iZ (K4 (i * 64 + j)))), (7, .int (iZ 0))]) d_Li_bestPlace_112 (by decide) rfl ?_
        refine ev_iload d_Li_bestPlace_114 rfl ?_
        refine ev_bipush (v := iZ 45) d_Li_bestPlace_116 rfl ?_
        refine ez_icmp_ne (tgt := 139) (by omega) (by decide) d_Li_bestPlace_118 rfl (fun c118 => ?_) (fun c118 => ?_)
        · refine ez_iinc (L' := [(0, .ref xl), (1, .int (iZ (i : Int))), (2, .int (iZ (z : Int))), (3, .int (iZ al)), (4, .int (iZ (acc + (cellZ (K4 (i * 64 + j)))))), (5, .int (iZ ((j + 1 : Nat) : Int))), (6, .int (iZ (K4 (i * 64 + j)))), (7, .int (iZ 0))]) d_Li_bestPlace_139 rfl (by decide) rfl ?_
          refine ev_goto (tgt := 30) d_Li_bestPlace_142 rfl ?_
          have hD : drf K4 (i * 64) j = K4 (i * 64 + j) := drf_n (by omega)
          have hs1 := cellsN_s0 (F := (drf K4 (i * 64))) (k := j)
          rw [hD] at hs1
          have hno : bestS (drf K4 (i * 64)) z (j + 1) = bestS (drf K4 (i * 64)) z j := bestS_no (fun q => by obtain ⟨⟨_, q⟩, _⟩ := q; omega)
          refine ev_loc [(0, .ref xl), (1, .int (iZ (i : Int))), (2, .int (iZ (z : Int))), (3, .int (iZ al)), (4, .int (iZ (acc + (cellZ (K4 (i * 64 + j)))))), (5, .int (iZ ((j + 1 : Nat) : Int)))] (by simp) ?_
          exact ih (d - 1) (by omega) (j + 1) h (acc + (cellZ (K4 (i * 64 + j)))) (bs) (bd) (by omega) (by rw [hs1, hacc]) (by rw [hno]; exact hbs) hbd hbdr hl ho ho3 ho4 fm
        · refine ev_iload_n d_Li_bestPlace_121 rfl rfl ?_
          refine ev_bipush (v := iZ 64) d_Li_bestPlace_122 rfl ?_
          refine ez_icmp_ge (tgt := 139) (by omega) (by decide) d_Li_bestPlace_124 rfl (fun c124 => ?_) (fun c124 => ?_)
          · refine ez_iinc (L' := [(0, .ref xl), (1, .int (iZ (i : Int))), (2, .int (iZ (z : Int))), (3, .int (iZ al)), (4, .int (iZ (acc + (cellZ (K4 (i * 64 + j)))))), (5, .int (iZ ((j + 1 : Nat) : Int))), (6, .int (iZ (K4 (i * 64 + j)))), (7, .int (iZ 0))]) d_Li_bestPlace_139 rfl (by decide) rfl ?_
            refine ev_goto (tgt := 30) d_Li_bestPlace_142 rfl ?_
            have hD : drf K4 (i * 64) j = K4 (i * 64 + j) := drf_n (by omega)
            have hs1 := cellsN_s0 (F := (drf K4 (i * 64))) (k := j)
            rw [hD] at hs1
            have hno : bestS (drf K4 (i * 64)) z (j + 1) = bestS (drf K4 (i * 64)) z j := bestS_no (fun q => by obtain ⟨⟨_, q⟩, _⟩ := q; omega)
            refine ev_loc [(0, .ref xl), (1, .int (iZ (i : Int))), (2, .int (iZ (z : Int))), (3, .int (iZ al)), (4, .int (iZ (acc + (cellZ (K4 (i * 64 + j)))))), (5, .int (iZ ((j + 1 : Nat) : Int)))] (by simp) ?_
            exact ih (d - 1) (by omega) (j + 1) h (acc + (cellZ (K4 (i * 64 + j)))) (bs) (bd) (by omega) (by rw [hs1, hacc]) (by rw [hno]; exact hbs) hbd hbdr hl ho ho3 ho4 fm
          · refine ev_aload_n d_Li_bestPlace_127 rfl rfl ?_
            refine ev_iload d_Li_bestPlace_128 rfl ?_
            refine ev_iload d_Li_bestPlace_130 rfl ?_
            refine ev_iload_n d_Li_bestPlace_132 rfl rfl ?_
            refine ev_iload d_Li_bestPlace_133 rfl ?_
            refine ez_isub d_Li_bestPlace_135 ?_
            have two := bTwo_eq (d := (drf K4 (i * 64))) (z := z) (j := j) (by omega)
            have hD : drf K4 (i * 64) j = K4 (i * 64 + j) := drf_n (by omega)
            have hs1 := cellsN_s0 (F := (drf K4 (i * 64))) (k := j)
            rw [hD] at hs1
            have hone : bOne (drf K4 (i * 64)) j = acc + cellZ (K4 (i * 64 + j)) := by unfold bOne; rw [if_neg (by omega), hs1, hacc]
            have hof := bst_of (d := (drf K4 (i * 64))) (z := z) (j := j) (bs := bs) (bd := bd) (f := acc + (cellZ (K4 (i * 64 + j)))) (s := al - (acc + (cellZ (K4 (i * 64 + j))))) ⟨by omega, by omega⟩ (by omega) (by omega) hbs hbd
            refine ev_callV M_Li_offer (rm 1 22) _ (As := [.int (iZ (j : Int)), .int (iZ (acc + (cellZ (K4 (i * 64 + j))))), .int (iZ (al - (acc + (cellZ (K4 (i * 64 + j))))))]) (c_Li_offer G h xl xo bs bd j (acc + (cellZ (K4 (i * 64 + j)))) (al - (acc + (cellZ (K4 (i * 64 + j))))) hl (by omega) (by omega) (by omega) (by omega)) d_Li_bestPlace_136 mk_Li_offer ml_Li_33 mv_Li_offer hl rfl rfl rfl (Nat.le_of_ble_eq_true rfl) ⟨by decide, by decide⟩ ⟨by decide, by decide⟩ (fun r h9 hq => ?_)
            obtain ⟨rfl, gl, fmc⟩ := hq
            have ho := (fmc _ (ninc (cne ho hl (by simp)) nin0)).trans ho
            have ho3 := (fmc _ (ninc (cne ho3 hl (by simp)) nin0)).trans ho3
            have ho4 := (fmc _ (ninc (cne ho4 hl (by simp)) nin0)).trans ho4
            have hl := gl
            have fm := fm.call (by simp) fmc
            refine ez_iinc (L' := [(0, .ref xl), (1, .int (iZ (i : Int))), (2, .int (iZ (z : Int))), (3, .int (iZ al)), (4, .int (iZ (acc + (cellZ (K4 (i * 64 + j)))))), (5, .int (iZ ((j + 1 : Nat) : Int))), (6, .int (iZ (K4 (i * 64 + j)))), (7, .int (iZ 0))]) d_Li_bestPlace_139 rfl (by decide) rfl ?_
            refine ev_goto (tgt := 30) d_Li_bestPlace_142 rfl ?_
            refine ev_loc [(0, .ref xl), (1, .int (iZ (i : Int))), (2, .int (iZ (z : Int))), (3, .int (iZ al)), (4, .int (iZ (acc + (cellZ (K4 (i * 64 + j)))))), (5, .int (iZ ((j + 1 : Nat) : Int)))] (by simp) ?_
            exact ih (d - 1) (by omega) (j + 1) h9 (acc + (cellZ (K4 (i * 64 + j)))) (ofB bs bd j (acc + (cellZ (K4 (i * 64 + j)))) (al - (acc + (cellZ (K4 (i * 64 + j)))))) (ofD bs bd (acc + (cellZ (K4 (i * 64 + j)))) (al - (acc + (cellZ (K4 (i * 64 + j)))))) (by omega) (by rw [hs1, hacc]) hof.1 hof.2 (by unfold ofD; split <;> omega) hl ho ho3 ho4 fm
      · refine ev_iconst (v := iZ 1) d_Li_bestPlace_64 rfl ?_
        refine ev_goto (tgt := 69) d_Li_bestPlace_65 rfl ?_
        refine ev_istore (L' := [(0, .ref xl), (1, .int (iZ (i : Int))), (2, .int (iZ (z : Int))), (3, .int (iZ al)), (4, .int (iZ acc)), (5, .int (iZ (j : Int))), (6, .int (iZ (K4 (i * 64 + j)))), (7, .int (iZ 1))]) d_Li_bestPlace_69 (by decide) rfl ?_
        refine ev_iload d_Li_bestPlace_71 rfl ?_
        refine ez_if_eq (tgt := 95) (by decide) d_Li_bestPlace_73 rfl (fun c73 => absurd c73 (by omega)) (fun c73 => ?_)
        refine ev_iload d_Li_bestPlace_76 rfl ?_
        refine ez_if_le (tgt := 95) (by omega) d_Li_bestPlace_78 rfl (fun c78 => ?_) (fun c78 => ?_)
        · refine ev_iload d_Li_bestPlace_95 rfl ?_
          refine ev_iload d_Li_bestPlace_97 rfl ?_
          refine ez_if_eq (tgt := 106) (by decide) d_Li_bestPlace_99 rfl (fun c99 => absurd c99 (by omega)) (fun c99 => ?_)
          refine ev_iconst (v := iZ 1) d_Li_bestPlace_102 rfl ?_
          refine ev_goto (tgt := 111) d_Li_bestPlace_103 rfl ?_
          refine ez_iadd d_Li_bestPlace_111 ?_
          refine ev_istore (L' := [(0, .ref xl), (1, .int (iZ (i : Int))), (2, .int (iZ (z : Int))), (3, .int (iZ al)), (4, .int (iZ (acc + 1))), (5, .int (iZ (j : Int))), (6, .int (iZ (K4 (i * 64 + j)))), (7, .int (iZ 1))]) d_Li_bestPlace_112 (by decide) rfl ?_
          refine ev_iload d_Li_bestPlace_114 rfl ?_
          refine ev_bipush (v := iZ 45) d_Li_bestPlace_116 rfl ?_
          refine ez_icmp_ne (tgt := 139) (by omega) (by decide) d_Li_bestPlace_118 rfl (fun c118 => ?_) (fun c118 => absurd c118 (by omega))
          refine ez_iinc (L' := [(0, .ref xl), (1, .int (iZ (i : Int))), (2, .int (iZ (z : Int))), (3, .int (iZ al)), (4, .int (iZ (acc + 1))), (5, .int (iZ ((j + 1 : Nat) : Int))), (6, .int (iZ (K4 (i * 64 + j)))), (7, .int (iZ 1))]) d_Li_bestPlace_139 rfl (by decide) rfl ?_
          refine ev_goto (tgt := 30) d_Li_bestPlace_142 rfl ?_
          have hD : drf K4 (i * 64) j = 32 := by by_cases q : K4 (i * 64 + j) = 10; exact drf_10 q; rw [drf_n q]; omega
          have hs1 := cellsN_s0 (F := (drf K4 (i * 64))) (k := j)
          rw [hD] at hs1
          rw [show cellZ 32 = 1 from rfl] at hs1
          have hno : bestS (drf K4 (i * 64)) z (j + 1) = bestS (drf K4 (i * 64)) z j := bestS_no (fun q => by obtain ⟨⟨_, q⟩, _⟩ := q; omega)
          refine ev_loc [(0, .ref xl), (1, .int (iZ (i : Int))), (2, .int (iZ (z : Int))), (3, .int (iZ al)), (4, .int (iZ (acc + 1))), (5, .int (iZ ((j + 1 : Nat) : Int)))] (by simp) ?_
          exact ih (d - 1) (by omega) (j + 1) h (acc + 1) (bs) (bd) (by omega) (by rw [hs1, hacc]) (by rw [hno]; exact hbs) hbd hbdr hl ho ho3 ho4 fm
        · refine ev_aload_n d_Li_bestPlace_81 rfl rfl ?_
          refine ev_iload d_Li_bestPlace_82 rfl ?_
          refine ev_iload d_Li_bestPlace_84 rfl ?_
          refine ev_iload_n d_Li_bestPlace_86 rfl rfl ?_
          refine ev_iload d_Li_bestPlace_87 rfl ?_
          refine ez_isub d_Li_bestPlace_89 ?_
          refine ev_iconst (v := iZ 1) d_Li_bestPlace_90 rfl ?_
          refine ez_isub d_Li_bestPlace_91 ?_
          have hD : drf K4 (i * 64) j = 32 := by by_cases q : K4 (i * 64 + j) = 10; exact drf_10 q; rw [drf_n q]; omega
          have two := bTwo_eq (d := (drf K4 (i * 64))) (z := z) (j := j) (by omega)
          have hone : bOne (drf K4 (i * 64)) j = acc := by unfold bOne; rw [if_pos hD, hacc]
          have hs1 := cellsN_s0 (F := (drf K4 (i * 64))) (k := j)
          rw [hD, show cellZ 32 = 1 from rfl] at hs1
          have hof := bst_of (d := (drf K4 (i * 64))) (z := z) (j := j) (bs := bs) (bd := bd) (f := acc) (s := (al - acc) - 1) ⟨by omega, by omega⟩ (by omega) (by omega) hbs hbd
          refine ev_callV M_Li_offer (rm 1 22) _ (As := [.int (iZ (j : Int)), .int (iZ acc), .int (iZ ((al - acc) - 1))]) (c_Li_offer G h xl xo bs bd j (acc) ((al - acc) - 1) hl (by omega) (by omega) (by omega) (by omega)) d_Li_bestPlace_92 mk_Li_offer ml_Li_33 mv_Li_offer hl rfl rfl rfl (Nat.le_of_ble_eq_true rfl) ⟨by decide, by decide⟩ ⟨by decide, by decide⟩ (fun r h9 hq => ?_)
          obtain ⟨rfl, gl, fmc⟩ := hq
          have ho := (fmc _ (ninc (cne ho hl (by simp)) nin0)).trans ho
          have ho3 := (fmc _ (ninc (cne ho3 hl (by simp)) nin0)).trans ho3
          have ho4 := (fmc _ (ninc (cne ho4 hl (by simp)) nin0)).trans ho4
          have hl := gl
          have fm := fm.call (by simp) fmc
          refine ev_iload d_Li_bestPlace_95 rfl ?_
          refine ev_iload d_Li_bestPlace_97 rfl ?_
          refine ez_if_eq (tgt := 106) (by decide) d_Li_bestPlace_99 rfl (fun c99 => absurd c99 (by omega)) (fun c99 => ?_)
          refine ev_iconst (v := iZ 1) d_Li_bestPlace_102 rfl ?_
          refine ev_goto (tgt := 111) d_Li_bestPlace_103 rfl ?_
          refine ez_iadd d_Li_bestPlace_111 ?_
          refine ev_istore (L' := [(0, .ref xl), (1, .int (iZ (i : Int))), (2, .int (iZ (z : Int))), (3, .int (iZ al)), (4, .int (iZ (acc + 1))), (5, .int (iZ (j : Int))), (6, .int (iZ (K4 (i * 64 + j)))), (7, .int (iZ 1))]) d_Li_bestPlace_112 (by decide) rfl ?_
          refine ev_iload d_Li_bestPlace_114 rfl ?_
          refine ev_bipush (v := iZ 45) d_Li_bestPlace_116 rfl ?_
          refine ez_icmp_ne (tgt := 139) (by omega) (by decide) d_Li_bestPlace_118 rfl (fun c118 => ?_) (fun c118 => absurd c118 (by omega))
          refine ez_iinc (L' := [(0, .ref xl), (1, .int (iZ (i : Int))), (2, .int (iZ (z : Int))), (3, .int (iZ al)), (4, .int (iZ (acc + 1))), (5, .int (iZ ((j + 1 : Nat) : Int))), (6, .int (iZ (K4 (i * 64 + j)))), (7, .int (iZ 1))]) d_Li_bestPlace_139 rfl (by decide) rfl ?_
          refine ev_goto (tgt := 30) d_Li_bestPlace_142 rfl ?_
          refine ev_loc [(0, .ref xl), (1, .int (iZ (i : Int))), (2, .int (iZ (z : Int))), (3, .int (iZ al)), (4, .int (iZ (acc + 1))), (5, .int (iZ ((j + 1 : Nat) : Int)))] (by simp) ?_
          exact ih (d - 1) (by omega) (j + 1) h9 (acc + 1) (ofB bs bd j (acc) ((al - acc) - 1)) (ofD bs bd (acc) ((al - acc) - 1)) (by omega) (by rw [hs1, hacc]) hof.1 hof.2 (by unfold ofD; split <;> omega) hl ho ho3 ho4 fm
set_option maxHeartbeats 4000000 in
set_option maxRecDepth 100000 in
theorem c_Li_bestPlace (G : GT) (h : HM) (xl xo o1 o2 o3 o4 n i : Nat) (K3 K4 : Nat → Int) (b0 d0 : Int) (hl : h xl = some (.inr (6, [.ref xo, .int (iZ b0), .int (iZ d0)]))) (ho : h xo = some (.inr (2, [.ref o1, .ref o2, .ref o3, .ref o4, .int (iZ (n : Int))]))) (ho3 : h o3 = some (.inl (G_i G, 16, .inl (iA K3)))) (ho4 : h o4 = some (.inl (G_i G, 1024, .inl (iA K4)))) (hi : i < 16) (hZ : ∀ k, 0 ≤ K3 k ∧ K3 k ≤ 64) (hB : ∀ k, 0 ≤ K4 k ∧ K4 k ≤ 255) (hd0 : iR d0) (hz1 : 1 ≤ K3 i) : Rn G M_Li_bestPlace (rm 3 82) [.ref xl, .int (iZ (i : Int))] h (fun r h' => r = some (.int (iZ (bestS (drf K4 (i * 64)) (K3 i).toNat (K3 i).toNat))) ∧ (∃ v : Int × Int, iR v.1 ∧ iR v.2 ∧ h' xl = some (.inr (6, [.ref xo, .int (iZ v.1), .int (iZ v.2)]))) ∧ Fm [xl] h h') := by
  refine rn_of (by decide) (Nat.le_of_ble_eq_true rfl) ?_
  show Ev G M_Li_bestPlace _ _ 0 [(0, .ref xl), (1, .int (iZ (i : Int)))] [] _ 0 0
  have fm : Fm [xl] h h := Fm.rf
  have z0 := hZ i
  refine ev_aload_n d_Li_bestPlace_0 rfl rfl ?_
  refine ev_iconst (v := iZ (-1)) d_Li_bestPlace_1 rfl ?_
  refine ev_put2 (fs' := [.ref xo, .int (iZ (-1)), .int (iZ d0)]) d_Li_bestPlace_2 fw_Li_15 (Or.inr (fun _ _ _ q => by cases q; rfl)) hl (Nat.le_of_ble_eq_true rfl) rfl rfl rfl (fun h1 h1a h1o => ?_)
  have ho := (h1o _ (cne ho hl (by simp))).trans ho
  have ho3 := (h1o _ (cne ho3 hl (by simp))).trans ho3
  have ho4 := (h1o _ (cne ho4 hl (by simp))).trans ho4
  have hl := h1a
  have fm := fm.step (by simp) h1o
  refine ev_aload_n d_Li_bestPlace_5 rfl rfl ?_
  refine ev_get d_Li_bestPlace_6 fl_Li_9 hl rfl ?_
  refine ev_get d_Li_bestPlace_9 fl_Li_19 ho rfl ?_
  refine ev_iload_n d_Li_bestPlace_12 rfl rfl ?_
  refine ez_iaload i d_Li_bestPlace_13 ho3 (by omega) (by omega) (by decide) ?_
  refine ev_top (((K3 i).toNat : Int)) (by omega) ?_
  skip
  refine ev_istore_n (L' := [(0, .ref xl), (1, .int (iZ (i : Int))), (2, .int (iZ ((K3 i).toNat : Int)))]) d_Li_bestPlace_14 rfl (by decide) rfl ?_
  refine ev_aload_n d_Li_bestPlace_15 rfl rfl ?_
  refine ev_get d_Li_bestPlace_16 fl_Li_9 hl rfl ?_
  refine ev_iload_n d_Li_bestPlace_19 rfl rfl ?_
  refine ev_pV M_Ro_cellsAsOneLine 2 50 (As := [.int (iZ (i : Int))]) (c_Ro_cellsAsOneLine G h1 i xo o1 o2 o3 o4 n K3 K4 ho ho3 ho4 hi hZ hB) d_Li_bestPlace_20 mk_Ro_cellsAsOneLine ml_Li_25 mv_Ro_cellsAsOneLine ho rfl rfl rfl (Nat.le_of_ble_eq_true rfl) ⟨by decide, by decide⟩ ⟨by decide, by decide⟩ ?_
  refine ev_istore_n (L' := [(0, .ref xl), (1, .int (iZ (i : Int))), (2, .int (iZ ((K3 i).toNat : Int))), (3, .int (iZ (cellsN (drf K4 (i * 64)) 0 (K3 i).toNat)))]) d_Li_bestPlace_23 rfl (by decide) rfl ?_
  refine ev_iconst (v := iZ 0) d_Li_bestPlace_24 rfl ?_
  refine ev_istore (L' := [(0, .ref xl), (1, .int (iZ (i : Int))), (2, .int (iZ ((K3 i).toNat : Int))), (3, .int (iZ (cellsN (drf K4 (i * 64)) 0 (K3 i).toNat))), (4, .int (iZ 0))]) d_Li_bestPlace_25 (by decide) rfl ?_
  refine ev_iconst (v := iZ 0) d_Li_bestPlace_27 rfl ?_
  refine ev_istore (L' := [(0, .ref xl), (1, .int (iZ (i : Int))), (2, .int (iZ ((K3 i).toNat : Int))), (3, .int (iZ (cellsN (drf K4 (i * 64)) 0 (K3 i).toNat))), (4, .int (iZ 0)), (5, .int (iZ 0))]) d_Li_bestPlace_28 (by decide) rfl ?_
  exact lp_Li_bestPlace G h xl xo o1 o2 o3 o4 n i (K3 i).toNat K3 K4 _ hi (by omega) hB rfl ((K3 i).toNat - 1) 0 h1 0 (-1) d0 (by omega) rfl rfl (fun q => absurd rfl q) hd0 hl ho ho3 ho4 fm
theorem zup_same {F : Nat → Int} {i : Nat} {v : Int} (h : v = F i) : zup F i v = F := by
  subst h
  funext k
  show (if k = i then F i else F k) = F k
  split
  · rename_i q; rw [q]
  · rfl
def brP (d : Nat → Int) (z : Nat) : Int := if cellsN d 0 z ≤ 28 then -1 else bestS d z z
theorem ntl_n {d : Nat → Int} {p : Int} {z : Nat} (h : p < 0 ∨ d p.toNat ≠ 45) : ntl d p z = z := if_neg (fun q => by rcases h with h | h; omega; exact h q.2)
theorem ntl_y {d : Nat → Int} {p : Int} {z : Nat} (h : 0 ≤ p) (h2 : d p.toNat = 45) : ntl d p z = z + 1 := if_pos ⟨h, h2⟩
set_option maxHeartbeats 4000000 in
set_option maxRecDepth 100000 in
theorem c_CB_breakB (G : GT) (h : HM) (x b xf xu xo xp xe xw xl xr : Nat) (o1 o2 o3 o4 n : Nat) (i : Int) (hx : h x = some (.inr (0, [.ref b, .ref xf, .ref xu, .ref xo, .ref xp, .ref xe, .ref xw, .ref xl, .ref xr]))) (ho : h xo = some (.inr (2, [.ref o1, .ref o2, .ref o3, .ref o4, .int (iZ (n : Int))]))) (hn : n ≤ 16) (hi : iR i) (hb : ¬ (0 ≤ i ∧ i < n)) : Rn G M_CB_breakLines (rm 1 40) [.ref x, .int (iZ i)] h (Pu (.int (iZ (-2))) h) := by
  refine rn_of (by decide) (Nat.le_of_ble_eq_true rfl) ?_
  show Ev G M_CB_breakLines _ _ 0 [(0, .ref x), (1, .int (iZ i))] [] _ 0 0
  refine ev_aload_n d_CB_breakLines_0 rfl rfl ?_
  refine ev_get d_CB_breakLines_1 fl_CB_33 hx rfl ?_
  refine ev_iload_n d_CB_breakLines_4 rfl rfl ?_
  have hr9 := hasZ_r (n : Int) i
  refine ev_pV M_Ro_has 0 0 (As := [.int (iZ i)]) (c_Ro_has G h xo o1 o2 o3 o4 n i ho (by omega) (by omega)) d_CB_breakLines_5 mk_Ro_has ml_CB_121 mv_Ro_has ho rfl rfl rfl (Nat.le_of_ble_eq_true rfl) ⟨by decide, by decide⟩ ⟨by decide, by decide⟩ ?_
  refine ez_if_ne (tgt := 14) (by omega) d_CB_breakLines_8 rfl (fun c8 => ?_) (fun c8 => ?_)
  · have z8 := hasZ_1 c8
    omega
  · have z8 := hasZ_0 c8
    refine ev_bipush (v := iZ (-2)) d_CB_breakLines_11 rfl ?_
    exact ev_ireturn d_CB_breakLines_13 rfl (by decide) (by decide) (⟨rfl, rfl⟩)
set_option maxHeartbeats 4000000 in
set_option maxRecDepth 100000 in
theorem c_CB_break (G : GT) (h : HM) (x b xf xu xo xp xe xw xl xr : Nat) (o1 o2 o3 o4 pk top nx ct n : Nat) (Kp : Nat → Option Nat) (Ke : Nat → Nat) (C : Nat → Cu) (K1 K2 K3 K4 : Nat → Int) (i : Nat) (b0 d0 : Int) (hx : h x = some (.inr (0, [.ref b, .ref xf, .ref xu, .ref xo, .ref xp, .ref xe, .ref xw, .ref xl, .ref xr]))) (ho : h xo = some (.inr (2, [.ref o1, .ref o2, .ref o3, .ref o4, .int (iZ (n : Int))]))) (ho1 : h o1 = some (.inl (G_j G, 16, .inr (.inl (lA K1))))) (ho2 : h o2 = some (.inl (G_j G, 16, .inr (.inl (lA K2))))) (ho3 : h o3 = some (.inl (G_i G, 16, .inl (iA K3)))) (ho4 : h o4 = some (.inl (G_i G, 1024, .inl (iA K4)))) (hl : h xl = some (.inr (6, [.ref xo, .int (iZ b0), .int (iZ d0)]))) (hW : PaW G h top xp pk nx ct Kp Ke C) (hn : n ≤ 16) (hZ : ∀ k, 0 ≤ K3 k ∧ K3 k ≤ 64) (hB : ∀ k, 0 ≤ K4 k ∧ K4 k ≤ 255) (hb0 : iR b0) (hd0 : iR d0) (hxt : x ≤ top ∧ xl ≤ top) (hlp : xl ≠ xp ∧ xl ≠ pk) (hle : xp ≤ top ∧ pk ≤ top ∧ xo ≤ top ∧ o1 ≤ top ∧ o2 ≤ top ∧ o3 ≤ top ∧ o4 ≤ top) (htop : ∃ e, h top = some e) (n_o : o1 ≠ o2) (hi : i < n) : Rn G M_CB_breakLines ({ frames := 4, cells := 5, slots := 1077, locals := 112 }) [.ref x, .int (iZ (i : Int))] h (fun r h' => ((28 < cellsN (drf K4 (i * 64)) 0 (K3 i).toNat ∧ bestS (drf K4 (i * 64)) (K3 i).toNat (K3 i).toNat = -1) → r = some (.int (iZ (-1))) ∧ (∃ v : Int × Int, iR v.1 ∧ iR v.2 ∧ h' xl = some (.inr (6, [.ref xo, .int (iZ v.1), .int (iZ v.2)]))) ∧ Fm [xl] h h') ∧ (¬ (28 < cellsN (drf K4 (i * 64)) 0 (K3 i).toNat ∧ bestS (drf K4 (i * 64)) (K3 i).toNat (K3 i).toNat = -1) → r = some (.int (iZ (if cellsN (drf K4 (i * 64)) 0 (K3 i).toNat ≤ 28 then 1 else 2))) ∧ (∃ F', h' o4 = some (.inl (G_i G, 1024, .inl (iA F'))) ∧ ntR K4 F' i (drf K4 (i * 64)) (brP (drf K4 (i * 64)) (K3 i).toNat) (K3 i).toNat) ∧ h' o3 = some (.inl (G_i G, 16, .inl (iA (zup K3 i ((ntl (drf K4 (i * 64)) (brP (drf K4 (i * 64)) (K3 i).toNat) (K3 i).toNat : Nat) : Int))))) ∧ (∃ v : Int × Int, iR v.1 ∧ iR v.2 ∧ h' xl = some (.inr (6, [.ref xo, .int (iZ v.1), .int (iZ v.2)]))) ∧ (∃ Kp' Ke', PaW G h' top xp pk ((nx + 1) % 10) (min (ct + 1) 10) Kp' Ke' (fun j => if j = nx then (n, K1, K2, K3, K4) else C j) ∧ (∃ q, Kp' nx = some q) ∧ ∀ j, j ≠ nx → Kp' j = Kp j) ∧ Fb top [o3, o4, xl, xp, pk] h h')) := by
  refine rn_of (by decide) (Nat.le_of_ble_eq_true rfl) ?_
  show Ev G M_CB_breakLines _ _ 0 [(0, .ref x), (1, .int (iZ (i : Int)))] [] _ 0 0
  have zz := hZ i
  refine ev_aload_n d_CB_breakLines_0 rfl rfl ?_
  refine ev_get d_CB_breakLines_1 fl_CB_33 hx rfl ?_
  refine ev_iload_n d_CB_breakLines_4 rfl rfl ?_
  have hr9 := hasZ_r (n : Int) (i : Int)
  refine ev_pV M_Ro_has 0 0 (As := [.int (iZ (i : Int))]) (c_Ro_has G h xo o1 o2 o3 o4 n (i : Int) ho (by omega) (by omega)) d_CB_breakLines_5 mk_Ro_has ml_CB_121 mv_Ro_has ho rfl rfl rfl (Nat.le_of_ble_eq_true rfl) ⟨by decide, by decide⟩ ⟨by decide, by decide⟩ ?_
  refine ez_if_ne (tgt := 14) (by omega) d_CB_breakLines_8 rfl (fun c8 => ?_) (fun c8 => ?_)
  · have z8 := hasZ_1 c8
    refine ev_aload_n d_CB_breakLines_14 rfl rfl ?_
    refine ev_get d_CB_breakLines_15 fl_CB_33 hx rfl ?_
    refine ev_iload_n d_CB_breakLines_18 rfl rfl ?_
    refine ev_pV M_Ro_cellsAsOneLine 2 50 (As := [.int (iZ (i : Int))]) (c_Ro_cellsAsOneLine G h i xo o1 o2 o3 o4 n K3 K4 ho ho3 ho4 (by omega) hZ hB) d_CB_breakLines_19 mk_Ro_cellsAsOneLine ml_CB_165 mv_Ro_cellsAsOneLine ho rfl rfl rfl (Nat.le_of_ble_eq_true rfl) ⟨by decide, by decide⟩ ⟨by decide, by decide⟩ ?_
    have ra := cellsN_r (drf K4 (i * 64)) 0 (K3 i).toNat
    refine ev_bipush (v := iZ 28) d_CB_breakLines_22 rfl ?_
    refine ez_icmp_gt (tgt := 48) (by omega) (by decide) d_CB_breakLines_24 rfl (fun c24 => ?_) (fun c24 => ?_)
    · refine ev_aload_n d_CB_breakLines_48 rfl rfl ?_
      refine ev_get d_CB_breakLines_49 fl_CB_67 hx rfl ?_
      refine ev_iload_n d_CB_breakLines_52 rfl rfl ?_
      have z0 : 1 ≤ K3 i := by have q := hZ i; by_cases w : K3 i = 0; (rw [show (K3 i).toNat = 0 by omega] at c24; exact absurd c24 (by show ¬ (28 < (0 : Int)); decide)); omega
      refine ev_callV M_Li_bestPlace (rm 3 82) _ (As := [.int (iZ (i : Int))]) (c_Li_bestPlace G h xl xo o1 o2 o3 o4 n i K3 K4 b0 d0 hl ho ho3 ho4 (by omega) hZ hB hd0 z0) d_CB_breakLines_53 mk_Li_bestPlace ml_CB_171 mv_Li_bestPlace hl rfl rfl rfl (Nat.le_of_ble_eq_true rfl) ⟨by decide, by decide⟩ ⟨by decide, by decide⟩ (fun r h7 hq => ?_)
      obtain ⟨rfl, ⟨⟨v1, v2⟩, r1, r2, gl⟩, fml⟩ := hq
      have hx := (fml _ (ninc (cne hx hl (by simp)) nin0)).trans hx
      have ho := (fml _ (ninc (cne ho hl (by simp)) nin0)).trans ho
      have ho1 := (fml _ (ninc (cne ho1 hl (by simp)) nin0)).trans ho1
      have ho2 := (fml _ (ninc (cne ho2 hl (by simp)) nin0)).trans ho2
      have ho3 := (fml _ (ninc (cne ho3 hl (by simp)) nin0)).trans ho3
      have ho4 := (fml _ (ninc (cne ho4 hl (by simp)) nin0)).trans ho4
      have hl := gl
      have hW := hW.fm fml (by intro b hb; simp at hb; subst hb; exact ⟨by omega, hlp.1, hlp.2⟩)
      have htop : ∃ e, h7 top = some e := by obtain ⟨e, he⟩ := htop; by_cases q : top = xl; (rw [q]; exact ⟨_, hl⟩); exact ⟨e, (fml _ (ninc q nin0)).trans he⟩
      have rbs := bestS_r (drf K4 (i * 64)) (K3 i).toNat (K3 i).toNat
      refine ev_istore_n (L' := [(0, .ref x), (1, .int (iZ (i : Int))), (2, .int (iZ (bestS (drf K4 (i * 64)) (K3 i).toNat (K3 i).toNat)))]) d_CB_breakLines_56 rfl (by decide) rfl ?_
      refine ev_iload_n d_CB_breakLines_57 rfl rfl ?_
      refine ev_iconst (v := iZ (-1)) d_CB_breakLines_58 rfl ?_
      refine ez_icmp_ne (tgt := 64) (by omega) (by decide) d_CB_breakLines_59 rfl (fun c59 => ?_) (fun c59 => ?_)
      · refine ev_aload_n d_CB_breakLines_64 rfl rfl ?_
        refine ev_get d_CB_breakLines_65 fl_CB_40 hx rfl ?_
        refine ev_aload_n d_CB_breakLines_68 rfl rfl ?_
        refine ev_get d_CB_breakLines_69 fl_CB_33 hx rfl ?_
        refine ev_callV M_Pa_keep ({ frames := 2, cells := 5, slots := 1077, locals := 61 }) _ (As := [.ref xo]) (c_Pa_keep G h7 top xp pk xo o1 o2 o3 o4 nx ct n Kp Ke C K1 K2 K3 K4 hW ho ho1 ho2 ho3 ho4 hn htop hle n_o) d_CB_breakLines_72 mk_Pa_keep ml_CB_103 mv_Pa_keep hW.2.2.1 rfl rfl rfl (Nat.le_of_ble_eq_true rfl) ⟨by decide, by decide⟩ ⟨by decide, by decide⟩ (fun r h8 hq => ?_)
        obtain ⟨rfl, ⟨Kp', Ke', hW1, hKs, hKo⟩, fb⟩ := hq
        have hx := fb _ _ hx (by omega) (ninc (cne hx hW.2.2.1 (by simp)) (ninc (cne hx hW.2.2.2.1 (by simp)) nin0))
        have ho := fb _ _ ho (by omega) (ninc (cne ho hW.2.2.1 (by simp)) (ninc (cne ho hW.2.2.2.1 (by simp)) nin0))
        have ho1 := fb _ _ ho1 (by omega) (ninc (cne ho1 hW.2.2.1 (by simp)) (ninc (cne ho1 hW.2.2.2.1 (by simp)) nin0))
        have ho2 := fb _ _ ho2 (by omega) (ninc (cne ho2 hW.2.2.1 (by simp)) (ninc (cne ho2 hW.2.2.2.1 (by simp)) nin0))
        have ho3 := fb _ _ ho3 (by omega) (ninc (cne ho3 hW.2.2.1 (by simp)) (ninc (cne ho3 hW.2.2.2.1 (by simp)) nin0))
        have ho4 := fb _ _ ho4 (by omega) (ninc (cne ho4 hW.2.2.1 (by simp)) (ninc (cne ho4 hW.2.2.2.1 (by simp)) nin0))
        have hl := fb _ _ hl (by omega) (ninc (cne hl hW.2.2.1 (by simp)) (ninc (cne hl hW.2.2.2.1 (by simp)) nin0))
        have hS : ∀ b ∈ [xo, o1, o2, o3, o4], b ≤ top ∧ b ≠ xp ∧ b ≠ pk := by
          intro b hb
          simp at hb
          rcases hb with rfl | rfl | rfl | rfl | rfl
          · exact ⟨by omega, cne ho hW1.2.2.1 (by simp), cne ho hW1.2.2.2.1 (by simp)⟩
          · exact ⟨by omega, cne ho1 hW1.2.2.1 (by simp), cne ho1 hW1.2.2.2.1 (by simp)⟩
          · exact ⟨by omega, cne ho2 hW1.2.2.1 (by simp), cne ho2 hW1.2.2.2.1 (by simp)⟩
          · exact ⟨by omega, cne ho3 hW1.2.2.1 (by simp), cne ho3 hW1.2.2.2.1 (by simp)⟩
          · exact ⟨by omega, cne ho4 hW1.2.2.1 (by simp), cne ho4 hW1.2.2.2.1 (by simp)⟩
        refine ev_aload_n d_CB_breakLines_75 rfl rfl ?_
        refine ev_get d_CB_breakLines_76 fl_CB_33 hx rfl ?_
        refine ev_iload_n d_CB_breakLines_79 rfl rfl ?_
        refine ev_callV M_Ro_joinLines (rm 1 22) _ (As := [.int (iZ (i : Int))]) (c_Ro_joinLines G h8 i xo o1 o2 o3 o4 n K3 K4 ho ho3 ho4 (by omega) hZ hB) d_CB_breakLines_80 mk_Ro_joinLines ml_CB_168 mv_Ro_joinLines ho rfl rfl rfl (Nat.le_of_ble_eq_true rfl) ⟨by decide, by decide⟩ ⟨by decide, by decide⟩ (fun r h9 hq => ?_)
        obtain ⟨rfl, go4, fmj⟩ := hq
        have hx := (fmj _ (ninc (cne hx ho4 (by simp)) nin0)).trans hx
        have ho := (fmj _ (ninc (cne ho ho4 (by simp)) nin0)).trans ho
        have ho1 := (fmj _ (ninc (cne ho1 ho4 (by simp)) nin0)).trans ho1
        have ho2 := (fmj _ (ninc (cne ho2 ho4 (by simp)) nin0)).trans ho2
        have ho3 := (fmj _ (ninc (cne ho3 ho4 (by simp)) nin0)).trans ho3
        have hl := (fmj _ (ninc (cne hl ho4 (by simp)) nin0)).trans hl
        have ho4 := go4
        refine ev_aload_n d_CB_breakLines_83 rfl rfl ?_
        refine ev_get d_CB_breakLines_84 fl_CB_33 hx rfl ?_
        refine ev_iload_n d_CB_breakLines_87 rfl rfl ?_
        refine ev_iload_n d_CB_breakLines_88 rfl rfl ?_
        obtain ⟨p, hp⟩ : ∃ p : Nat, bestS (drf K4 (i * 64)) (K3 i).toNat (K3 i).toNat = (p : Int) := ⟨(bestS (drf K4 (i * 64)) (K3 i).toNat (K3 i).toNat).toNat, by omega⟩
        have hok : bOk (drf K4 (i * 64)) (K3 i).toNat p := by rcases rbs with q | q; omega; have := q.2.2; rw [hp, Int.toNat_natCast] at this; exact this
        have hpz : p < (K3 i).toNat := by have := hok.1.1; omega
        have hJp : jlF K4 (i * 64) (K3 i).toNat (i * 64 + p) = drf K4 (i * 64) p := jl_in hpz
        have z3 := hZ i
        refine ev_top ((p : Int)) (hp) ?_
        refine ev_callV M_Ro_breakAt (rm 1 40) _ (As := [.int (iZ (i : Int)), .int (iZ (p : Int))]) (c_Ro_breakAt G h9 i p xo o1 o2 o3 o4 n K3 (jlF K4 (i * 64) (K3 i).toNat) ho ho3 ho4 (by omega) hZ (jl_r hB) (by omega) (fun q => by have := hok.1.2; rw [hJp] at q; omega)) d_CB_breakLines_89 mk_Ro_breakAt ml_CB_174 mv_Ro_breakAt ho rfl rfl rfl (Nat.le_of_ble_eq_true rfl) ⟨by decide, by decide⟩ ⟨by decide, by decide⟩ (fun r h10 hq => ?_)
        obtain ⟨rfl, qy, qn, fmb⟩ := hq
        have hl := (fmb _ (ninc (cne hl ho3 (by simp)) (ninc (cne hl ho4 (by simp)) nin0))).trans hl
        refine ev_iconst (v := iZ 2) d_CB_breakLines_92 rfl ?_
        have hbr : brP (drf K4 (i * 64)) (K3 i).toNat = (p : Int) := (if_neg (by omega)).trans hp
        have fm2 : Fm [o3, o4] h8 h10 := (Fm.call (Fm.rf (S := [o3, o4])) (by simp) fmj).call (by simp) fmb
        have ht : (∃ F', h10 o4 = some (.inl (G_i G, 1024, .inl (iA F'))) ∧ ntR K4 F' i (drf K4 (i * 64)) (p : Int) (K3 i).toNat) ∧ h10 o3 = some (.inl (G_i G, 16, .inl (iA (zup K3 i ((ntl (drf K4 (i * 64)) (p : Int) (K3 i).toNat : Nat) : Int))))) := by
          by_cases q : drf K4 (i * 64) p = 45
          · obtain ⟨q3, q4⟩ := qy (hJp.trans q)
            refine ⟨⟨_, q4, ntR_2 hB (by have := hok.1.2; omega) hpz q⟩, ?_⟩
            rw [ntl_y (by omega) (by rw [Int.toNat_natCast]; exact q), show (((K3 i).toNat + 1 : Nat) : Int) = K3 i + 1 by omega]
            exact q3
          · obtain ⟨q3, q4⟩ := qn (fun w => q (hJp.symm.trans w))
            refine ⟨⟨_, q4, ntR_1 hB (by omega) hpz q⟩, ?_⟩
            rw [ntl_n (Or.inr (by rw [Int.toNat_natCast]; exact q)), zup_same (by omega)]
            exact q3
        exact ev_ireturn d_CB_breakLines_93 rfl (by decide) (by decide) (⟨fun q => absurd q (by omega), fun _ => ⟨by rw [if_neg (by omega)], by rw [hbr]; exact ht.1, by rw [hbr]; exact ht.2, ⟨(v1, v2), r1, r2, hl⟩, ⟨Kp', Ke', hW1.fm fm2 (by intro b hb; simp at hb; rcases hb with rfl | rfl; exact hS _ (by simp); exact hS _ (by simp)), hKs, hKo⟩, fun b e hb ht hs => (fb.fm fm2 (S2 := [o3, o4, xl, xp, pk]) (by simp) (by simp)) b e ((fml b (fun q => hs (by simp at q ⊢; simp [q]))).trans hb) ht hs⟩⟩)
      · refine ev_iconst (v := iZ (-1)) d_CB_breakLines_62 rfl ?_
        exact ev_ireturn d_CB_breakLines_63 rfl (by decide) (by decide) (⟨fun _ => ⟨rfl, ⟨(v1, v2), r1, r2, hl⟩, fml⟩, fun q => absurd ⟨by omega, by omega⟩ q⟩)
    · refine ev_aload_n d_CB_breakLines_27 rfl rfl ?_
      refine ev_get d_CB_breakLines_28 fl_CB_40 hx rfl ?_
      refine ev_aload_n d_CB_breakLines_31 rfl rfl ?_
      refine ev_get d_CB_breakLines_32 fl_CB_33 hx rfl ?_
      refine ev_callV M_Pa_keep ({ frames := 2, cells := 5, slots := 1077, locals := 61 }) _ (As := [.ref xo]) (c_Pa_keep G h top xp pk xo o1 o2 o3 o4 nx ct n Kp Ke C K1 K2 K3 K4 hW ho ho1 ho2 ho3 ho4 hn htop hle n_o) d_CB_breakLines_35 mk_Pa_keep ml_CB_103 mv_Pa_keep hW.2.2.1 rfl rfl rfl (Nat.le_of_ble_eq_true rfl) ⟨by decide, by decide⟩ ⟨by decide, by decide⟩ (fun r h8 hq => ?_)
      obtain ⟨rfl, ⟨Kp', Ke', hW1, hKs, hKo⟩, fb⟩ := hq
      have hx := fb _ _ hx (by omega) (ninc (cne hx hW.2.2.1 (by simp)) (ninc (cne hx hW.2.2.2.1 (by simp)) nin0))
      have ho := fb _ _ ho (by omega) (ninc (cne ho hW.2.2.1 (by simp)) (ninc (cne ho hW.2.2.2.1 (by simp)) nin0))
      have ho1 := fb _ _ ho1 (by omega) (ninc (cne ho1 hW.2.2.1 (by simp)) (ninc (cne ho1 hW.2.2.2.1 (by simp)) nin0))
      have ho2 := fb _ _ ho2 (by omega) (ninc (cne ho2 hW.2.2.1 (by simp)) (ninc (cne ho2 hW.2.2.2.1 (by simp)) nin0))
      have ho3 := fb _ _ ho3 (by omega) (ninc (cne ho3 hW.2.2.1 (by simp)) (ninc (cne ho3 hW.2.2.2.1 (by simp)) nin0))
      have ho4 := fb _ _ ho4 (by omega) (ninc (cne ho4 hW.2.2.1 (by simp)) (ninc (cne ho4 hW.2.2.2.1 (by simp)) nin0))
      have hl := fb _ _ hl (by omega) (ninc (cne hl hW.2.2.1 (by simp)) (ninc (cne hl hW.2.2.2.1 (by simp)) nin0))
      have hS : ∀ b ∈ [xo, o1, o2, o3, o4], b ≤ top ∧ b ≠ xp ∧ b ≠ pk := by
        intro b hb
        simp at hb
        rcases hb with rfl | rfl | rfl | rfl | rfl
        · exact ⟨by omega, cne ho hW1.2.2.1 (by simp), cne ho hW1.2.2.2.1 (by simp)⟩
        · exact ⟨by omega, cne ho1 hW1.2.2.1 (by simp), cne ho1 hW1.2.2.2.1 (by simp)⟩
        · exact ⟨by omega, cne ho2 hW1.2.2.1 (by simp), cne ho2 hW1.2.2.2.1 (by simp)⟩
        · exact ⟨by omega, cne ho3 hW1.2.2.1 (by simp), cne ho3 hW1.2.2.2.1 (by simp)⟩
        · exact ⟨by omega, cne ho4 hW1.2.2.1 (by simp), cne ho4 hW1.2.2.2.1 (by simp)⟩
      refine ev_aload_n d_CB_breakLines_38 rfl rfl ?_
      refine ev_get d_CB_breakLines_39 fl_CB_33 hx rfl ?_
      refine ev_iload_n d_CB_breakLines_42 rfl rfl ?_
      refine ev_callV M_Ro_joinLines (rm 1 22) _ (As := [.int (iZ (i : Int))]) (c_Ro_joinLines G h8 i xo o1 o2 o3 o4 n K3 K4 ho ho3 ho4 (by omega) hZ hB) d_CB_breakLines_43 mk_Ro_joinLines ml_CB_168 mv_Ro_joinLines ho rfl rfl rfl (Nat.le_of_ble_eq_true rfl) ⟨by decide, by decide⟩ ⟨by decide, by decide⟩ (fun r h9 hq => ?_)
      obtain ⟨rfl, go4, fmj⟩ := hq
      have hx := (fmj _ (ninc (cne hx ho4 (by simp)) nin0)).trans hx
      have ho := (fmj _ (ninc (cne ho ho4 (by simp)) nin0)).trans ho
      have ho1 := (fmj _ (ninc (cne ho1 ho4 (by simp)) nin0)).trans ho1
      have ho2 := (fmj _ (ninc (cne ho2 ho4 (by simp)) nin0)).trans ho2
      have ho3 := (fmj _ (ninc (cne ho3 ho4 (by simp)) nin0)).trans ho3
      have hl := (fmj _ (ninc (cne hl ho4 (by simp)) nin0)).trans hl
      have ho4 := go4
      refine ev_iconst (v := iZ 1) d_CB_breakLines_46 rfl ?_
      exact ev_ireturn d_CB_breakLines_47 rfl (by decide) (by decide) (⟨fun q => absurd q (by omega), fun _ => ⟨by rw [if_pos (by omega)], ⟨_, ho4, by rw [show brP (drf K4 (i * 64)) (K3 i).toNat = -1 from if_pos (by omega)]; exact ntR_0 hB (by have := hZ i; omega)⟩, by rw [show brP (drf K4 (i * 64)) (K3 i).toNat = -1 from if_pos (by omega), ntl_n (Or.inl (by decide)), zup_same (by have := hZ i; omega)]; exact ho3, ⟨(b0, d0), hb0, hd0, hl⟩, ⟨Kp', Ke', hW1.fm fmj (by intro b hb; simp at hb; subst hb; exact hS _ (by simp)), hKs, hKo⟩, fb.fm fmj (by simp) (by simp)⟩⟩)
  · have z8 := hasZ_0 c8
    omega
