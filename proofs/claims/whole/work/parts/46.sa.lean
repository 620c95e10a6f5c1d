theorem d_Ru_shotsAllow_0 : decode M_Ru_shotsAllow.2.1 0 = .ok (.iconst 0, 1) := by decide +kernel
theorem d_Ru_shotsAllow_1 : decode M_Ru_shotsAllow.2.1 1 = .ok (.istore_n 2, 1) := by decide +kernel
theorem d_Ru_shotsAllow_2 : decode M_Ru_shotsAllow.2.1 2 = .ok (.iconst 0, 1) := by decide +kernel
theorem d_Ru_shotsAllow_3 : decode M_Ru_shotsAllow.2.1 3 = .ok (.istore_n 3, 1) := by decide +kernel
theorem d_Ru_shotsAllow_4 : decode M_Ru_shotsAllow.2.1 4 = .ok (.iload_n 3, 1) := by decide +kernel
theorem d_Ru_shotsAllow_5 : decode M_Ru_shotsAllow.2.1 5 = .ok (.aload_n 0, 1) := by decide +kernel
theorem d_Ru_shotsAllow_6 : decode M_Ru_shotsAllow.2.1 6 = .ok (.getfield 29, 3) := by decide +kernel
theorem d_Ru_shotsAllow_9 : decode M_Ru_shotsAllow.2.1 9 = .ok (.if_icmp .ge 41, 3) := by decide +kernel
theorem d_Ru_shotsAllow_12 : decode M_Ru_shotsAllow.2.1 12 = .ok (.iload_n 1, 1) := by decide +kernel
theorem d_Ru_shotsAllow_13 : decode M_Ru_shotsAllow.2.1 13 = .ok (.aload_n 0, 1) := by decide +kernel
theorem d_Ru_shotsAllow_14 : decode M_Ru_shotsAllow.2.1 14 = .ok (.getfield 24, 3) := by decide +kernel
theorem d_Ru_shotsAllow_17 : decode M_Ru_shotsAllow.2.1 17 = .ok (.iload_n 3, 1) := by decide +kernel
theorem d_Ru_shotsAllow_18 : decode M_Ru_shotsAllow.2.1 18 = .ok (.iaload, 1) := by decide +kernel
theorem d_Ru_shotsAllow_19 : decode M_Ru_shotsAllow.2.1 19 = .ok (.iconst 2, 1) := by decide +kernel
theorem d_Ru_shotsAllow_20 : decode M_Ru_shotsAllow.2.1 20 = .ok (.isub, 1) := by decide +kernel
theorem d_Ru_shotsAllow_21 : decode M_Ru_shotsAllow.2.1 21 = .ok (.if_icmp .ne 5, 3) := by decide +kernel
theorem d_Ru_shotsAllow_24 : decode M_Ru_shotsAllow.2.1 24 = .ok (.iconst 1, 1) := by decide +kernel
theorem d_Ru_shotsAllow_25 : decode M_Ru_shotsAllow.2.1 25 = .ok (.ireturn, 1) := by decide +kernel
theorem d_Ru_shotsAllow_26 : decode M_Ru_shotsAllow.2.1 26 = .ok (.iload_n 1, 1) := by decide +kernel
theorem d_Ru_shotsAllow_27 : decode M_Ru_shotsAllow.2.1 27 = .ok (.aload_n 0, 1) := by decide +kernel
theorem d_Ru_shotsAllow_28 : decode M_Ru_shotsAllow.2.1 28 = .ok (.getfield 24, 3) := by decide +kernel
theorem d_Ru_shotsAllow_31 : decode M_Ru_shotsAllow.2.1 31 = .ok (.iload_n 3, 1) := by decide +kernel
theorem d_Ru_shotsAllow_32 : decode M_Ru_shotsAllow.2.1 32 = .ok (.iaload, 1) := by decide +kernel
theorem d_Ru_shotsAllow_33 : decode M_Ru_shotsAllow.2.1 33 = .ok (.isub, 1) := by decide +kernel
theorem d_Ru_shotsAllow_34 : decode M_Ru_shotsAllow.2.1 34 = .ok (.invokestatic 32, 3) := by decide +kernel
theorem d_Ru_shotsAllow_37 : decode M_Ru_shotsAllow.2.1 37 = .ok (.bipush 7, 2) := by decide +kernel
theorem d_Ru_shotsAllow_39 : decode M_Ru_shotsAllow.2.1 39 = .ok (.if_icmp .gt 5, 3) := by decide +kernel
theorem d_Ru_shotsAllow_42 : decode M_Ru_shotsAllow.2.1 42 = .ok (.iconst 1, 1) := by decide +kernel
theorem d_Ru_shotsAllow_43 : decode M_Ru_shotsAllow.2.1 43 = .ok (.istore_n 2, 1) := by decide +kernel
theorem d_Ru_shotsAllow_44 : decode M_Ru_shotsAllow.2.1 44 = .ok (.iinc 3 1, 3) := by decide +kernel
theorem d_Ru_shotsAllow_47 : decode M_Ru_shotsAllow.2.1 47 = .ok (.goto (-43), 3) := by decide +kernel
theorem d_Ru_shotsAllow_50 : decode M_Ru_shotsAllow.2.1 50 = .ok (.iload_n 2, 1) := by decide +kernel
theorem d_Ru_shotsAllow_51 : decode M_Ru_shotsAllow.2.1 51 = .ok (.ifCond .ne 7, 3) := by decide +kernel
theorem d_Ru_shotsAllow_54 : decode M_Ru_shotsAllow.2.1 54 = .ok (.iconst 1, 1) := by decide +kernel
theorem d_Ru_shotsAllow_55 : decode M_Ru_shotsAllow.2.1 55 = .ok (.goto 4, 3) := by decide +kernel
theorem d_Ru_shotsAllow_58 : decode M_Ru_shotsAllow.2.1 58 = .ok (.iconst 0, 1) := by decide +kernel
theorem d_Ru_shotsAllow_59 : decode M_Ru_shotsAllow.2.1 59 = .ok (.ireturn, 1) := by decide +kernel
theorem d_Ru_shortest_0 : decode M_Ru_shortest.2.1 0 = .ok (.iload_n 1, 1) := by decide +kernel
theorem d_Ru_shortest_1 : decode M_Ru_shortest.2.1 1 = .ok (.aload_n 2, 1) := by decide +kernel
theorem d_Ru_shortest_2 : decode M_Ru_shortest.2.1 2 = .ok (.getfield 38, 3) := by decide +kernel
theorem d_Ru_shortest_5 : decode M_Ru_shortest.2.1 5 = .ok (.imul, 1) := by decide +kernel
theorem d_Ru_shortest_6 : decode M_Ru_shortest.2.1 6 = .ok (.istore_n 3, 1) := by decide +kernel
theorem d_Ru_shortest_7 : decode M_Ru_shortest.2.1 7 = .ok (.aload_n 0, 1) := by decide +kernel
theorem d_Ru_shortest_8 : decode M_Ru_shortest.2.1 8 = .ok (.getfield 21, 3) := by decide +kernel
theorem d_Ru_shortest_11 : decode M_Ru_shortest.2.1 11 = .ok (.aload_n 2, 1) := by decide +kernel
theorem d_Ru_shortest_12 : decode M_Ru_shortest.2.1 12 = .ok (.getfield 43, 3) := by decide +kernel
theorem d_Ru_shortest_15 : decode M_Ru_shortest.2.1 15 = .ok (.imul, 1) := by decide +kernel
theorem d_Ru_shortest_16 : decode M_Ru_shortest.2.1 16 = .ok (.istore 4, 2) := by decide +kernel
theorem d_Ru_shortest_18 : decode M_Ru_shortest.2.1 18 = .ok (.aload_n 0, 1) := by decide +kernel
theorem d_Ru_shortest_19 : decode M_Ru_shortest.2.1 19 = .ok (.getfield 15, 3) := by decide +kernel
theorem d_Ru_shortest_22 : decode M_Ru_shortest.2.1 22 = .ok (.iload_n 3, 1) := by decide +kernel
theorem d_Ru_shortest_23 : decode M_Ru_shortest.2.1 23 = .ok (.iload 4, 2) := by decide +kernel
theorem d_Ru_shortest_25 : decode M_Ru_shortest.2.1 25 = .ok (.iadd, 1) := by decide +kernel
theorem d_Ru_shortest_26 : decode M_Ru_shortest.2.1 26 = .ok (.iconst 1, 1) := by decide +kernel
theorem d_Ru_shortest_27 : decode M_Ru_shortest.2.1 27 = .ok (.isub, 1) := by decide +kernel
theorem d_Ru_shortest_28 : decode M_Ru_shortest.2.1 28 = .ok (.iload 4, 2) := by decide +kernel
theorem d_Ru_shortest_30 : decode M_Ru_shortest.2.1 30 = .ok (.idiv, 1) := by decide +kernel
theorem d_Ru_shortest_31 : decode M_Ru_shortest.2.1 31 = .ok (.invokestatic 46, 3) := by decide +kernel
theorem d_Ru_shortest_34 : decode M_Ru_shortest.2.1 34 = .ok (.ireturn, 1) := by decide +kernel
theorem d_Rp_endAllowed_0 : decode M_Rp_endAllowed.2.1 0 = .ok (.aload_n 0, 1) := by decide +kernel
theorem d_Rp_endAllowed_1 : decode M_Rp_endAllowed.2.1 1 = .ok (.getfield 37, 3) := by decide +kernel
theorem d_Rp_endAllowed_4 : decode M_Rp_endAllowed.2.1 4 = .ok (.iload_n 1, 1) := by decide +kernel
theorem d_Rp_endAllowed_5 : decode M_Rp_endAllowed.2.1 5 = .ok (.invokevirtual 101, 3) := by decide +kernel
theorem d_Rp_endAllowed_8 : decode M_Rp_endAllowed.2.1 8 = .ok (.ifCond .eq 18, 3) := by decide +kernel
theorem d_Rp_endAllowed_11 : decode M_Rp_endAllowed.2.1 11 = .ok (.aload_n 0, 1) := by decide +kernel
theorem d_Rp_endAllowed_12 : decode M_Rp_endAllowed.2.1 12 = .ok (.getfield 41, 3) := by decide +kernel
theorem d_Rp_endAllowed_15 : decode M_Rp_endAllowed.2.1 15 = .ok (.iload_n 1, 1) := by decide +kernel
theorem d_Rp_endAllowed_16 : decode M_Rp_endAllowed.2.1 16 = .ok (.invokevirtual 104, 3) := by decide +kernel
theorem d_Rp_endAllowed_19 : decode M_Rp_endAllowed.2.1 19 = .ok (.ifCond .eq 7, 3) := by decide +kernel
theorem d_Rp_endAllowed_22 : decode M_Rp_endAllowed.2.1 22 = .ok (.iconst 1, 1) := by decide +kernel
theorem d_Rp_endAllowed_23 : decode M_Rp_endAllowed.2.1 23 = .ok (.goto 4, 3) := by decide +kernel
theorem d_Rp_endAllowed_26 : decode M_Rp_endAllowed.2.1 26 = .ok (.iconst 0, 1) := by decide +kernel
theorem d_Rp_endAllowed_27 : decode M_Rp_endAllowed.2.1 27 = .ok (.ireturn, 1) := by decide +kernel
theorem d_Rp_placeOfStart_0 : decode M_Rp_placeOfStart.2.1 0 = .ok (.iconst 0, 1) := by decide +kernel
theorem d_Rp_placeOfStart_1 : decode M_Rp_placeOfStart.2.1 1 = .ok (.iload_n 2, 1) := by decide +kernel
theorem d_Rp_placeOfStart_2 : decode M_Rp_placeOfStart.2.1 2 = .ok (.aload_n 0, 1) := by decide +kernel
theorem d_Rp_placeOfStart_3 : decode M_Rp_placeOfStart.2.1 3 = .ok (.getfield 9, 3) := by decide +kernel
theorem d_Rp_placeOfStart_6 : decode M_Rp_placeOfStart.2.1 6 = .ok (.iload_n 1, 1) := by decide +kernel
theorem d_Rp_placeOfStart_7 : decode M_Rp_placeOfStart.2.1 7 = .ok (.iaload, 1) := by decide +kernel
theorem d_Rp_placeOfStart_8 : decode M_Rp_placeOfStart.2.1 8 = .ok (.isub, 1) := by decide +kernel
theorem d_Rp_placeOfStart_9 : decode M_Rp_placeOfStart.2.1 9 = .ok (.invokestatic 113, 3) := by decide +kernel
theorem d_Rp_placeOfStart_12 : decode M_Rp_placeOfStart.2.1 12 = .ok (.ireturn, 1) := by decide +kernel
theorem d_Rp_leastFrom_0 : decode M_Rp_leastFrom.2.1 0 = .ok (.iload_n 1, 1) := by decide +kernel
theorem d_Rp_leastFrom_1 : decode M_Rp_leastFrom.2.1 1 = .ok (.aload_n 0, 1) := by decide +kernel
theorem d_Rp_leastFrom_2 : decode M_Rp_leastFrom.2.1 2 = .ok (.getfield 33, 3) := by decide +kernel
theorem d_Rp_leastFrom_5 : decode M_Rp_leastFrom.2.1 5 = .ok (.getfield 45, 3) := by decide +kernel
theorem d_Rp_leastFrom_8 : decode M_Rp_leastFrom.2.1 8 = .ok (.if_icmp .lt 5, 3) := by decide +kernel
theorem d_Rp_leastFrom_11 : decode M_Rp_leastFrom.2.1 11 = .ok (.iconst 0, 1) := by decide +kernel
theorem d_Rp_leastFrom_12 : decode M_Rp_leastFrom.2.1 12 = .ok (.ireturn, 1) := by decide +kernel
theorem d_Rp_leastFrom_13 : decode M_Rp_leastFrom.2.1 13 = .ok (.aload_n 0, 1) := by decide +kernel
theorem d_Rp_leastFrom_14 : decode M_Rp_leastFrom.2.1 14 = .ok (.iload_n 1, 1) := by decide +kernel
theorem d_Rp_leastFrom_15 : decode M_Rp_leastFrom.2.1 15 = .ok (.iload_n 2, 1) := by decide +kernel
theorem d_Rp_leastFrom_16 : decode M_Rp_leastFrom.2.1 16 = .ok (.invokevirtual 119, 3) := by decide +kernel
theorem d_Rp_leastFrom_19 : decode M_Rp_leastFrom.2.1 19 = .ok (.istore_n 3, 1) := by decide +kernel
theorem d_Rp_leastFrom_20 : decode M_Rp_leastFrom.2.1 20 = .ok (.iload_n 3, 1) := by decide +kernel
theorem d_Rp_leastFrom_21 : decode M_Rp_leastFrom.2.1 21 = .ok (.bipush 25, 2) := by decide +kernel
theorem d_Rp_leastFrom_23 : decode M_Rp_leastFrom.2.1 23 = .ok (.if_icmp .ge 17, 3) := by decide +kernel
theorem d_Rp_leastFrom_26 : decode M_Rp_leastFrom.2.1 26 = .ok (.aload_n 0, 1) := by decide +kernel
theorem d_Rp_leastFrom_27 : decode M_Rp_leastFrom.2.1 27 = .ok (.getfield 30, 3) := by decide +kernel
theorem d_Rp_leastFrom_30 : decode M_Rp_leastFrom.2.1 30 = .ok (.iload_n 1, 1) := by decide +kernel
theorem d_Rp_leastFrom_31 : decode M_Rp_leastFrom.2.1 31 = .ok (.bipush 25, 2) := by decide +kernel
theorem d_Rp_leastFrom_33 : decode M_Rp_leastFrom.2.1 33 = .ok (.imul, 1) := by decide +kernel
theorem d_Rp_leastFrom_34 : decode M_Rp_leastFrom.2.1 34 = .ok (.iload_n 3, 1) := by decide +kernel
theorem d_Rp_leastFrom_35 : decode M_Rp_leastFrom.2.1 35 = .ok (.iadd, 1) := by decide +kernel
theorem d_Rp_leastFrom_36 : decode M_Rp_leastFrom.2.1 36 = .ok (.iaload, 1) := by decide +kernel
theorem d_Rp_leastFrom_37 : decode M_Rp_leastFrom.2.1 37 = .ok (.goto 5, 3) := by decide +kernel
theorem d_Rp_leastFrom_40 : decode M_Rp_leastFrom.2.1 40 = .ok (.ldc 100, 2) := by decide +kernel
theorem d_Rp_leastFrom_42 : decode M_Rp_leastFrom.2.1 42 = .ok (.ireturn, 1) := by decide +kernel
theorem d_Rp_weighEnds_0 : decode M_Rp_weighEnds.2.1 0 = .ok (.iconst 0, 1) := by decide +kernel
theorem d_Rp_weighEnds_1 : decode M_Rp_weighEnds.2.1 1 = .ok (.istore_n 2, 1) := by decide +kernel
theorem d_Rp_weighEnds_2 : decode M_Rp_weighEnds.2.1 2 = .ok (.iload_n 2, 1) := by decide +kernel
theorem d_Rp_weighEnds_3 : decode M_Rp_weighEnds.2.1 3 = .ok (.bipush 97, 2) := by decide +kernel
theorem d_Rp_weighEnds_5 : decode M_Rp_weighEnds.2.1 5 = .ok (.if_icmp .ge 61, 3) := by decide +kernel
theorem d_Rp_weighEnds_8 : decode M_Rp_weighEnds.2.1 8 = .ok (.aload_n 0, 1) := by decide +kernel
theorem d_Rp_weighEnds_9 : decode M_Rp_weighEnds.2.1 9 = .ok (.getfield 15, 3) := by decide +kernel
theorem d_Rp_weighEnds_12 : decode M_Rp_weighEnds.2.1 12 = .ok (.iload_n 1, 1) := by decide +kernel
theorem d_Rp_weighEnds_13 : decode M_Rp_weighEnds.2.1 13 = .ok (.iaload, 1) := by decide +kernel
theorem d_Rp_weighEnds_14 : decode M_Rp_weighEnds.2.1 14 = .ok (.iload_n 2, 1) := by decide +kernel
theorem d_Rp_weighEnds_15 : decode M_Rp_weighEnds.2.1 15 = .ok (.iadd, 1) := by decide +kernel
theorem d_Rp_weighEnds_16 : decode M_Rp_weighEnds.2.1 16 = .ok (.istore_n 3, 1) := by decide +kernel
theorem d_Rp_weighEnds_17 : decode M_Rp_weighEnds.2.1 17 = .ok (.aload_n 0, 1) := by decide +kernel
theorem d_Rp_weighEnds_18 : decode M_Rp_weighEnds.2.1 18 = .ok (.getfield 21, 3) := by decide +kernel
theorem d_Rp_weighEnds_21 : decode M_Rp_weighEnds.2.1 21 = .ok (.iload_n 2, 1) := by decide +kernel
theorem d_Rp_weighEnds_22 : decode M_Rp_weighEnds.2.1 22 = .ok (.aload_n 0, 1) := by decide +kernel
theorem d_Rp_weighEnds_23 : decode M_Rp_weighEnds.2.1 23 = .ok (.iload_n 3, 1) := by decide +kernel
theorem d_Rp_weighEnds_24 : decode M_Rp_weighEnds.2.1 24 = .ok (.invokevirtual 87, 3) := by decide +kernel
theorem d_Rp_weighEnds_27 : decode M_Rp_weighEnds.2.1 27 = .ok (.ifCond .eq 30, 3) := by decide +kernel
theorem d_Rp_weighEnds_30 : decode M_Rp_weighEnds.2.1 30 = .ok (.iload_n 2, 1) := by decide +kernel
theorem d_Rp_weighEnds_31 : decode M_Rp_weighEnds.2.1 31 = .ok (.bipush 48, 2) := by decide +kernel
theorem d_Rp_weighEnds_33 : decode M_Rp_weighEnds.2.1 33 = .ok (.isub, 1) := by decide +kernel
theorem d_Rp_weighEnds_34 : decode M_Rp_weighEnds.2.1 34 = .ok (.invokestatic 91, 3) := by decide +kernel
theorem d_Rp_weighEnds_37 : decode M_Rp_weighEnds.2.1 37 = .ok (.aload_n 0, 1) := by decide +kernel
theorem d_Rp_weighEnds_38 : decode M_Rp_weighEnds.2.1 38 = .ok (.iload_n 1, 1) := by decide +kernel
theorem d_Rp_weighEnds_39 : decode M_Rp_weighEnds.2.1 39 = .ok (.iconst 1, 1) := by decide +kernel
theorem d_Rp_weighEnds_40 : decode M_Rp_weighEnds.2.1 40 = .ok (.iadd, 1) := by decide +kernel
theorem d_Rp_weighEnds_41 : decode M_Rp_weighEnds.2.1 41 = .ok (.iload_n 3, 1) := by decide +kernel
theorem d_Rp_weighEnds_42 : decode M_Rp_weighEnds.2.1 42 = .ok (.aload_n 0, 1) := by decide +kernel
theorem d_Rp_weighEnds_43 : decode M_Rp_weighEnds.2.1 43 = .ok (.getfield 41, 3) := by decide +kernel
theorem d_Rp_weighEnds_46 : decode M_Rp_weighEnds.2.1 46 = .ok (.getfield 97, 3) := by decide +kernel
theorem d_Rp_weighEnds_49 : decode M_Rp_weighEnds.2.1 49 = .ok (.iadd, 1) := by decide +kernel
theorem d_Rp_weighEnds_50 : decode M_Rp_weighEnds.2.1 50 = .ok (.invokevirtual 83, 3) := by decide +kernel
theorem d_Rp_weighEnds_53 : decode M_Rp_weighEnds.2.1 53 = .ok (.iadd, 1) := by decide +kernel
theorem d_Rp_weighEnds_54 : decode M_Rp_weighEnds.2.1 54 = .ok (.goto 5, 3) := by decide +kernel
theorem d_Rp_weighEnds_57 : decode M_Rp_weighEnds.2.1 57 = .ok (.ldc 100, 2) := by decide +kernel
theorem d_Rp_weighEnds_59 : decode M_Rp_weighEnds.2.1 59 = .ok (.iastore, 1) := by decide +kernel
theorem d_Rp_weighEnds_60 : decode M_Rp_weighEnds.2.1 60 = .ok (.iinc 2 1, 3) := by decide +kernel
theorem d_Rp_weighEnds_63 : decode M_Rp_weighEnds.2.1 63 = .ok (.goto (-61), 3) := by decide +kernel
theorem d_Rp_weighEnds_66 : decode M_Rp_weighEnds.2.1 66 = .ok (.return_, 1) := by decide +kernel
theorem d_Rp_bestEnd_0 : decode M_Rp_bestEnd.2.1 0 = .ok (.iconst 0, 1) := by decide +kernel
theorem d_Rp_bestEnd_1 : decode M_Rp_bestEnd.2.1 1 = .ok (.iload_n 2, 1) := by decide +kernel
theorem d_Rp_bestEnd_2 : decode M_Rp_bestEnd.2.1 2 = .ok (.aload_n 0, 1) := by decide +kernel
theorem d_Rp_bestEnd_3 : decode M_Rp_bestEnd.2.1 3 = .ok (.getfield 18, 3) := by decide +kernel
theorem d_Rp_bestEnd_6 : decode M_Rp_bestEnd.2.1 6 = .ok (.iload_n 1, 1) := by decide +kernel
theorem d_Rp_bestEnd_7 : decode M_Rp_bestEnd.2.1 7 = .ok (.iaload, 1) := by decide +kernel
theorem d_Rp_bestEnd_8 : decode M_Rp_bestEnd.2.1 8 = .ok (.iadd, 1) := by decide +kernel
theorem d_Rp_bestEnd_9 : decode M_Rp_bestEnd.2.1 9 = .ok (.aload_n 0, 1) := by decide +kernel
theorem d_Rp_bestEnd_10 : decode M_Rp_bestEnd.2.1 10 = .ok (.getfield 15, 3) := by decide +kernel
theorem d_Rp_bestEnd_13 : decode M_Rp_bestEnd.2.1 13 = .ok (.iload_n 1, 1) := by decide +kernel
theorem d_Rp_bestEnd_14 : decode M_Rp_bestEnd.2.1 14 = .ok (.iaload, 1) := by decide +kernel
theorem d_Rp_bestEnd_15 : decode M_Rp_bestEnd.2.1 15 = .ok (.isub, 1) := by decide +kernel
theorem d_Rp_bestEnd_16 : decode M_Rp_bestEnd.2.1 16 = .ok (.invokestatic 113, 3) := by decide +kernel
theorem d_Rp_bestEnd_19 : decode M_Rp_bestEnd.2.1 19 = .ok (.istore_n 3, 1) := by decide +kernel
theorem d_Rp_bestEnd_20 : decode M_Rp_bestEnd.2.1 20 = .ok (.bipush 96, 2) := by decide +kernel
theorem d_Rp_bestEnd_22 : decode M_Rp_bestEnd.2.1 22 = .ok (.iload_n 2, 1) := by decide +kernel
theorem d_Rp_bestEnd_23 : decode M_Rp_bestEnd.2.1 23 = .ok (.aload_n 0, 1) := by decide +kernel
theorem d_Rp_bestEnd_24 : decode M_Rp_bestEnd.2.1 24 = .ok (.getfield 41, 3) := by decide +kernel
theorem d_Rp_bestEnd_27 : decode M_Rp_bestEnd.2.1 27 = .ok (.getfield 116, 3) := by decide +kernel
theorem d_Rp_bestEnd_30 : decode M_Rp_bestEnd.2.1 30 = .ok (.iadd, 1) := by decide +kernel
theorem d_Rp_bestEnd_31 : decode M_Rp_bestEnd.2.1 31 = .ok (.aload_n 0, 1) := by decide +kernel
theorem d_Rp_bestEnd_32 : decode M_Rp_bestEnd.2.1 32 = .ok (.getfield 15, 3) := by decide +kernel
theorem d_Rp_bestEnd_35 : decode M_Rp_bestEnd.2.1 35 = .ok (.iload_n 1, 1) := by decide +kernel
theorem d_Rp_bestEnd_36 : decode M_Rp_bestEnd.2.1 36 = .ok (.iaload, 1) := by decide +kernel
theorem d_Rp_bestEnd_37 : decode M_Rp_bestEnd.2.1 37 = .ok (.isub, 1) := by decide +kernel
theorem d_Rp_bestEnd_38 : decode M_Rp_bestEnd.2.1 38 = .ok (.invokestatic 110, 3) := by decide +kernel
theorem d_Rp_bestEnd_41 : decode M_Rp_bestEnd.2.1 41 = .ok (.istore 4, 2) := by decide +kernel
theorem d_Rp_bestEnd_43 : decode M_Rp_bestEnd.2.1 43 = .ok (.iconst (-1), 1) := by decide +kernel
theorem d_Rp_bestEnd_44 : decode M_Rp_bestEnd.2.1 44 = .ok (.istore 5, 2) := by decide +kernel
theorem d_Rp_bestEnd_46 : decode M_Rp_bestEnd.2.1 46 = .ok (.ldc 100, 2) := by decide +kernel
theorem d_Rp_bestEnd_48 : decode M_Rp_bestEnd.2.1 48 = .ok (.istore 6, 2) := by decide +kernel
theorem d_Rp_bestEnd_50 : decode M_Rp_bestEnd.2.1 50 = .ok (.iload_n 3, 1) := by decide +kernel
theorem d_Rp_bestEnd_51 : decode M_Rp_bestEnd.2.1 51 = .ok (.istore 7, 2) := by decide +kernel
theorem d_Rp_bestEnd_53 : decode M_Rp_bestEnd.2.1 53 = .ok (.iload 7, 2) := by decide +kernel
theorem d_Rp_bestEnd_55 : decode M_Rp_bestEnd.2.1 55 = .ok (.iload 4, 2) := by decide +kernel
theorem d_Rp_bestEnd_57 : decode M_Rp_bestEnd.2.1 57 = .ok (.if_icmp .gt 34, 3) := by decide +kernel
theorem d_Rp_bestEnd_60 : decode M_Rp_bestEnd.2.1 60 = .ok (.aload_n 0, 1) := by decide +kernel
theorem d_Rp_bestEnd_61 : decode M_Rp_bestEnd.2.1 61 = .ok (.getfield 21, 3) := by decide +kernel
theorem d_Rp_bestEnd_64 : decode M_Rp_bestEnd.2.1 64 = .ok (.iload 7, 2) := by decide +kernel
theorem d_Rp_bestEnd_66 : decode M_Rp_bestEnd.2.1 66 = .ok (.iaload, 1) := by decide +kernel
theorem d_Rp_bestEnd_67 : decode M_Rp_bestEnd.2.1 67 = .ok (.iload 6, 2) := by decide +kernel
theorem d_Rp_bestEnd_69 : decode M_Rp_bestEnd.2.1 69 = .ok (.if_icmp .ge 16, 3) := by decide +kernel
theorem d_Rp_bestEnd_72 : decode M_Rp_bestEnd.2.1 72 = .ok (.aload_n 0, 1) := by decide +kernel
theorem d_Rp_bestEnd_73 : decode M_Rp_bestEnd.2.1 73 = .ok (.getfield 21, 3) := by decide +kernel
theorem d_Rp_bestEnd_76 : decode M_Rp_bestEnd.2.1 76 = .ok (.iload 7, 2) := by decide +kernel
theorem d_Rp_bestEnd_78 : decode M_Rp_bestEnd.2.1 78 = .ok (.iaload, 1) := by decide +kernel
theorem d_Rp_bestEnd_79 : decode M_Rp_bestEnd.2.1 79 = .ok (.istore 6, 2) := by decide +kernel
theorem d_Rp_bestEnd_81 : decode M_Rp_bestEnd.2.1 81 = .ok (.iload 7, 2) := by decide +kernel
theorem d_Rp_bestEnd_83 : decode M_Rp_bestEnd.2.1 83 = .ok (.istore 5, 2) := by decide +kernel
theorem d_Rp_bestEnd_85 : decode M_Rp_bestEnd.2.1 85 = .ok (.iinc 7 1, 3) := by decide +kernel
theorem d_Rp_bestEnd_88 : decode M_Rp_bestEnd.2.1 88 = .ok (.goto (-35), 3) := by decide +kernel
theorem d_Rp_bestEnd_91 : decode M_Rp_bestEnd.2.1 91 = .ok (.iload 5, 2) := by decide +kernel
theorem d_Rp_bestEnd_93 : decode M_Rp_bestEnd.2.1 93 = .ok (.ireturn, 1) := by decide +kernel
theorem d_Rp_weighStarts_0 : decode M_Rp_weighStarts.2.1 0 = .ok (.ldc 100, 2) := by decide +kernel
theorem d_Rp_weighStarts_2 : decode M_Rp_weighStarts.2.1 2 = .ok (.istore_n 2, 1) := by decide +kernel
theorem d_Rp_weighStarts_3 : decode M_Rp_weighStarts.2.1 3 = .ok (.bipush 24, 2) := by decide +kernel
theorem d_Rp_weighStarts_5 : decode M_Rp_weighStarts.2.1 5 = .ok (.istore_n 3, 1) := by decide +kernel
theorem d_Rp_weighStarts_6 : decode M_Rp_weighStarts.2.1 6 = .ok (.iload_n 3, 1) := by decide +kernel
theorem d_Rp_weighStarts_7 : decode M_Rp_weighStarts.2.1 7 = .ok (.ifCond .lt 101, 3) := by decide +kernel
theorem d_Rp_weighStarts_10 : decode M_Rp_weighStarts.2.1 10 = .ok (.aload_n 0, 1) := by decide +kernel
theorem d_Rp_weighStarts_11 : decode M_Rp_weighStarts.2.1 11 = .ok (.iload_n 1, 1) := by decide +kernel
theorem d_Rp_weighStarts_12 : decode M_Rp_weighStarts.2.1 12 = .ok (.aload_n 0, 1) := by decide +kernel
theorem d_Rp_weighStarts_13 : decode M_Rp_weighStarts.2.1 13 = .ok (.getfield 9, 3) := by decide +kernel
theorem d_Rp_weighStarts_16 : decode M_Rp_weighStarts.2.1 16 = .ok (.iload_n 1, 1) := by decide +kernel
theorem d_Rp_weighStarts_17 : decode M_Rp_weighStarts.2.1 17 = .ok (.iaload, 1) := by decide +kernel
theorem d_Rp_weighStarts_18 : decode M_Rp_weighStarts.2.1 18 = .ok (.iload_n 3, 1) := by decide +kernel
theorem d_Rp_weighStarts_19 : decode M_Rp_weighStarts.2.1 19 = .ok (.iadd, 1) := by decide +kernel
theorem d_Rp_weighStarts_20 : decode M_Rp_weighStarts.2.1 20 = .ok (.invokevirtual 107, 3) := by decide +kernel
theorem d_Rp_weighStarts_23 : decode M_Rp_weighStarts.2.1 23 = .ok (.istore 4, 2) := by decide +kernel
theorem d_Rp_weighStarts_25 : decode M_Rp_weighStarts.2.1 25 = .ok (.iload_n 1, 1) := by decide +kernel
theorem d_Rp_weighStarts_26 : decode M_Rp_weighStarts.2.1 26 = .ok (.bipush 25, 2) := by decide +kernel
theorem d_Rp_weighStarts_28 : decode M_Rp_weighStarts.2.1 28 = .ok (.imul, 1) := by decide +kernel
theorem d_Rp_weighStarts_29 : decode M_Rp_weighStarts.2.1 29 = .ok (.iload_n 3, 1) := by decide +kernel
theorem d_Rp_weighStarts_30 : decode M_Rp_weighStarts.2.1 30 = .ok (.iadd, 1) := by decide +kernel
theorem d_Rp_weighStarts_31 : decode M_Rp_weighStarts.2.1 31 = .ok (.istore 5, 2) := by decide +kernel
theorem d_Rp_weighStarts_33 : decode M_Rp_weighStarts.2.1 33 = .ok (.aload_n 0, 1) := by decide +kernel
theorem d_Rp_weighStarts_34 : decode M_Rp_weighStarts.2.1 34 = .ok (.getfield 24, 3) := by decide +kernel
theorem d_Rp_weighStarts_37 : decode M_Rp_weighStarts.2.1 37 = .ok (.iload 5, 2) := by decide +kernel
theorem d_Rp_weighStarts_39 : decode M_Rp_weighStarts.2.1 39 = .ok (.aload_n 0, 1) := by decide +kernel
theorem d_Rp_weighStarts_40 : decode M_Rp_weighStarts.2.1 40 = .ok (.getfield 15, 3) := by decide +kernel
theorem d_Rp_weighStarts_43 : decode M_Rp_weighStarts.2.1 43 = .ok (.iload_n 1, 1) := by decide +kernel
theorem d_Rp_weighStarts_44 : decode M_Rp_weighStarts.2.1 44 = .ok (.iaload, 1) := by decide +kernel
theorem d_Rp_weighStarts_45 : decode M_Rp_weighStarts.2.1 45 = .ok (.iload 4, 2) := by decide +kernel
theorem d_Rp_weighStarts_47 : decode M_Rp_weighStarts.2.1 47 = .ok (.iadd, 1) := by decide +kernel
theorem d_Rp_weighStarts_48 : decode M_Rp_weighStarts.2.1 48 = .ok (.iastore, 1) := by decide +kernel
theorem d_Rp_weighStarts_49 : decode M_Rp_weighStarts.2.1 49 = .ok (.aload_n 0, 1) := by decide +kernel
theorem d_Rp_weighStarts_50 : decode M_Rp_weighStarts.2.1 50 = .ok (.getfield 27, 3) := by decide +kernel
theorem d_Rp_weighStarts_53 : decode M_Rp_weighStarts.2.1 53 = .ok (.iload 5, 2) := by decide +kernel
theorem d_Rp_weighStarts_55 : decode M_Rp_weighStarts.2.1 55 = .ok (.iload 4, 2) := by decide +kernel
theorem d_Rp_weighStarts_57 : decode M_Rp_weighStarts.2.1 57 = .ok (.iconst (-1), 1) := by decide +kernel
theorem d_Rp_weighStarts_58 : decode M_Rp_weighStarts.2.1 58 = .ok (.if_icmp .ne 8, 3) := by decide +kernel
theorem d_Rp_weighStarts_61 : decode M_Rp_weighStarts.2.1 61 = .ok (.ldc 100, 2) := by decide +kernel
theorem d_Rp_weighStarts_63 : decode M_Rp_weighStarts.2.1 63 = .ok (.goto 18, 3) := by decide +kernel
theorem d_Rp_weighStarts_66 : decode M_Rp_weighStarts.2.1 66 = .ok (.iload_n 3, 1) := by decide +kernel
theorem d_Rp_weighStarts_67 : decode M_Rp_weighStarts.2.1 67 = .ok (.bipush 12, 2) := by decide +kernel
theorem d_Rp_weighStarts_69 : decode M_Rp_weighStarts.2.1 69 = .ok (.isub, 1) := by decide +kernel
theorem d_Rp_weighStarts_70 : decode M_Rp_weighStarts.2.1 70 = .ok (.invokestatic 91, 3) := by decide +kernel
theorem d_Rp_weighStarts_73 : decode M_Rp_weighStarts.2.1 73 = .ok (.aload_n 0, 1) := by decide +kernel
theorem d_Rp_weighStarts_74 : decode M_Rp_weighStarts.2.1 74 = .ok (.getfield 21, 3) := by decide +kernel
theorem d_Rp_weighStarts_77 : decode M_Rp_weighStarts.2.1 77 = .ok (.iload 4, 2) := by decide +kernel
theorem d_Rp_weighStarts_79 : decode M_Rp_weighStarts.2.1 79 = .ok (.iaload, 1) := by decide +kernel
theorem d_Rp_weighStarts_80 : decode M_Rp_weighStarts.2.1 80 = .ok (.iadd, 1) := by decide +kernel
theorem d_Rp_weighStarts_81 : decode M_Rp_weighStarts.2.1 81 = .ok (.iastore, 1) := by decide +kernel
theorem d_Rp_weighStarts_82 : decode M_Rp_weighStarts.2.1 82 = .ok (.iload_n 2, 1) := by decide +kernel
theorem d_Rp_weighStarts_83 : decode M_Rp_weighStarts.2.1 83 = .ok (.aload_n 0, 1) := by decide +kernel
theorem d_Rp_weighStarts_84 : decode M_Rp_weighStarts.2.1 84 = .ok (.getfield 27, 3) := by decide +kernel
theorem d_Rp_weighStarts_87 : decode M_Rp_weighStarts.2.1 87 = .ok (.iload 5, 2) := by decide +kernel
theorem d_Rp_weighStarts_89 : decode M_Rp_weighStarts.2.1 89 = .ok (.iaload, 1) := by decide +kernel
theorem d_Rp_weighStarts_90 : decode M_Rp_weighStarts.2.1 90 = .ok (.invokestatic 110, 3) := by decide +kernel
theorem d_Rp_weighStarts_93 : decode M_Rp_weighStarts.2.1 93 = .ok (.istore_n 2, 1) := by decide +kernel
theorem d_Rp_weighStarts_94 : decode M_Rp_weighStarts.2.1 94 = .ok (.aload_n 0, 1) := by decide +kernel
theorem d_Rp_weighStarts_95 : decode M_Rp_weighStarts.2.1 95 = .ok (.getfield 30, 3) := by decide +kernel
theorem d_Rp_weighStarts_98 : decode M_Rp_weighStarts.2.1 98 = .ok (.iload 5, 2) := by decide +kernel
theorem d_Rp_weighStarts_100 : decode M_Rp_weighStarts.2.1 100 = .ok (.iload_n 2, 1) := by decide +kernel
theorem d_Rp_weighStarts_101 : decode M_Rp_weighStarts.2.1 101 = .ok (.iastore, 1) := by decide +kernel
theorem d_Rp_weighStarts_102 : decode M_Rp_weighStarts.2.1 102 = .ok (.iinc 3 (-1), 3) := by decide +kernel
theorem d_Rp_weighStarts_105 : decode M_Rp_weighStarts.2.1 105 = .ok (.goto (-99), 3) := by decide +kernel
theorem d_Rp_weighStarts_108 : decode M_Rp_weighStarts.2.1 108 = .ok (.return_, 1) := by decide +kernel
/-- repair: what is legal for a cue, the nearest frames of its start and end, the gap -/
abbrev Rp : Type := (Nat → Int → Int → Prop) × (Nat → Int) × (Nat → Int) × Int
/-- a way gives each cue a number: 128 times its start's place, and its end's -/
def rSt (P : Rp) (i o : Nat) : Int := P.2.1 i - 12 + ((o / 128 : Nat) : Int)
def rEn (P : Rp) (i o : Nat) : Int := P.2.2.1 i - 48 + ((o % 128 : Nat) : Int)
def rCo (o : Nat) : Int := ((((o / 128 : Nat) : Int) - 12).natAbs : Int) + ((((o % 128 : Nat) : Int) - 48).natAbs : Int)
def rOk (P : Rp) (i o : Nat) : Prop := o / 128 < 25 ∧ o % 128 < 97 ∧ P.1 i (rSt P i o) (rEn P i o)
def rVP (P : Rp) (m : Nat) (x : Nat → Nat) : Prop := ∀ c, c < m → rOk P c (x c) ∧ ∀ b, b + 1 = c → rEn P b (x b) + P.2.2.2 ≤ rSt P c (x c)
def rCs : Nat → (Nat → Nat) → Int
  | 0, _ => 0
  | m + 1, x => rCs m x + rCo (x m)
def rLx (m : Nat) (x y : Nat → Nat) : Prop := ∃ c, c < m ∧ (∀ b, b < c → x b = y b) ∧ x c < y c
def rBt (m : Nat) (x y : Nat → Nat) : Prop := rCs m x < rCs m y ∨ (rCs m x = rCs m y ∧ rLx m x y)
def rMn (P : Rp) (m : Nat) (x : Nat → Nat) : Prop := rVP P m x ∧ ∀ y, rVP P m y → ¬ rBt m y x
theorem rCo_r (o : Nat) (h : o / 128 < 25) (h2 : o % 128 < 97) : 0 ≤ rCo o ∧ rCo o ≤ 60 := by
  unfold rCo
  omega
theorem rCs_c : ∀ {m : Nat} {x y : Nat → Nat}, (∀ c, c < m → x c = y c) → rCs m x = rCs m y
  | 0, _, _, _ => rfl
  | m + 1, x, y, h => by rw [rCs, rCs, rCs_c (fun c hc => h c (by omega)), h m (by omega)]
theorem rVP_c {P : Rp} {m : Nat} {x y : Nat → Nat} (h : ∀ c, c < m → x c = y c) (v : rVP P m x) : rVP P m y := by
  intro c hc
  rw [← h c hc]
  refine ⟨(v c hc).1, fun b hb => ?_⟩
  rw [← h b (by omega)]
  exact (v c hc).2 b hb
theorem rVP_s {P : Rp} {m : Nat} {x : Nat → Nat} (v : rVP P (m + 1) x) : rVP P m x := fun c hc => v c (by omega)
theorem rVP_le {P : Rp} {m k : Nat} {x : Nat → Nat} (v : rVP P m x) (h : k ≤ m) : rVP P k x := fun c hc => v c (by omega)
theorem rLx_c {m : Nat} {x y x' y' : Nat → Nat} (h : ∀ c, c < m → x c = x' c) (h2 : ∀ c, c < m → y c = y' c) (l : rLx m x y) : rLx m x' y' := by
  obtain ⟨c, h3, h4, h5⟩ := l
  refine ⟨c, h3, fun b hb => ?_, ?_⟩
  · rw [← h b (by omega), ← h2 b (by omega)]; exact h4 b hb
  · rw [← h c h3, ← h2 c h3]; exact h5
theorem rBt_c {m : Nat} {x y x' y' : Nat → Nat} (h : ∀ c, c < m → x c = x' c) (h2 : ∀ c, c < m → y c = y' c) (l : rBt m x y) : rBt m x' y' := by
  rcases l with l | ⟨l, l2⟩
  · exact Or.inl (by rw [← rCs_c h, ← rCs_c h2]; exact l)
  · exact Or.inr ⟨by rw [← rCs_c h, ← rCs_c h2]; exact l, rLx_c h h2 l2⟩
/-- the first place where two ways differ -/
theorem r_first {x y : Nat → Nat} : ∀ (m : Nat), (∀ c, c < m → x c = y c) ∨ ∃ c, c < m ∧ (∀ b, b < c → x b = y b) ∧ x c ≠ y c
  | 0 => Or.inl (fun c h => absurd h (by omega))
  | m + 1 => by
    rcases r_first (x := x) (y := y) m with h | ⟨c, h1, h2, h3⟩
    · by_cases q : x m = y m
      · refine Or.inl (fun c hc => ?_)
        rcases Nat.lt_succ_iff_lt_or_eq.mp hc with w | rfl
        · exact h c w
        · exact q
      · exact Or.inr ⟨m, by omega, h, q⟩
    · exact Or.inr ⟨c, by omega, h2, h3⟩
theorem rLx_nt {m : Nat} {x y z : Nat → Nat} (l : rLx m x z) : rLx m x y ∨ rLx m y z := by
  obtain ⟨c, h1, h2, h3⟩ := l
  rcases r_first (x := x) (y := y) c with h | ⟨b, g1, g2, g3⟩
  · by_cases q : x c < y c
    · exact Or.inl ⟨c, h1, h, q⟩
    · exact Or.inr ⟨c, h1, fun b hb => (h b hb).symm.trans (h2 b hb), by omega⟩
  · by_cases q : x b < y b
    · exact Or.inl ⟨b, by omega, g2, q⟩
    · exact Or.inr ⟨b, by omega, fun d hd => (g2 d hd).symm.trans (h2 d (by omega)), by have := h2 b g1; omega⟩
theorem rLx_tr {m : Nat} {x y z : Nat → Nat} (l : rLx m x y) (k : rLx m y z) : rLx m x z := by
  obtain ⟨c, h1, h2, h3⟩ := l
  obtain ⟨d, g1, g2, g3⟩ := k
  rcases Nat.lt_trichotomy c d with q | q | q
  · exact ⟨c, h1, fun b hb => (h2 b hb).trans (g2 b (by omega)), by rw [← g2 c q]; exact h3⟩
  · subst q
    exact ⟨c, h1, fun b hb => (h2 b hb).trans (g2 b hb), by omega⟩
  · exact ⟨d, g1, fun b hb => (h2 b (by omega)).trans (g2 b hb), by rw [h2 d q]; exact g3⟩
theorem rLx_ir {m : Nat} {x : Nat → Nat} : ¬ rLx m x x := fun ⟨_, _, _, h⟩ => Nat.lt_irrefl _ h
theorem rBt_nt {m : Nat} {x y z : Nat → Nat} (l : rBt m x z) : rBt m x y ∨ rBt m y z := by
  unfold rBt at *
  rcases l with l | ⟨l, l2⟩
  · by_cases q : rCs m x < rCs m y
    · exact Or.inl (Or.inl q)
    · exact Or.inr (Or.inl (by omega))
  · by_cases q : rCs m x < rCs m y
    · exact Or.inl (Or.inl q)
    · by_cases q2 : rCs m y < rCs m z
      · exact Or.inr (Or.inl q2)
      · rcases rLx_nt (y := y) l2 with w | w
        · exact Or.inl (Or.inr ⟨by omega, w⟩)
        · exact Or.inr (Or.inr ⟨by omega, w⟩)
theorem rBt_tr {m : Nat} {x y z : Nat → Nat} (l : rBt m x y) (k : rBt m y z) : rBt m x z := by
  unfold rBt at *
  rcases l with l | ⟨l, l2⟩
  · rcases k with k | ⟨k, _⟩
    · exact Or.inl (by omega)
    · exact Or.inl (by omega)
  · rcases k with k | ⟨k, k2⟩
    · exact Or.inl (by omega)
    · exact Or.inr ⟨by omega, rLx_tr l2 k2⟩
theorem rBt_ir {m : Nat} {x : Nat → Nat} : ¬ rBt m x x := by
  rintro (h | ⟨_, h⟩)
  · omega
  · exact rLx_ir h
/-- there is one best way -/
theorem rMn_u {P : Rp} {m : Nat} {x y : Nat → Nat} (hx : rMn P m x) (hy : rMn P m y) : ∀ c, c < m → x c = y c := by
  have a := hx.2 y hy.1
  have b := hy.2 x hx.1
  unfold rBt at a b
  have e : rCs m x = rCs m y := by
    rcases Int.lt_trichotomy (rCs m x) (rCs m y) with q | q | q
    · exact absurd (Or.inl q) b
    · exact q
    · exact absurd (Or.inl q) a
  rcases r_first (x := x) (y := y) m with h | ⟨c, h1, h2, h3⟩
  · exact h
  · rcases Nat.lt_or_ge (x c) (y c) with q | q
    · exact absurd (Or.inr ⟨e, c, h1, h2, q⟩) b
    · exact absurd (Or.inr ⟨e.symm, c, h1, fun b hb => (h2 b hb).symm, by omega⟩) a
theorem o_eq {o j k : Nat} (h1 : o / 128 = j) (h2 : o % 128 = k) : o = 128 * j + k := by
  have := Nat.div_add_mod o 128
  omega
/-- the reference's entry for cue i and end k, with the starts below j weighed -/
def rE (P : Rp) (i k j : Nat) (s : Int) (x : Nat → Nat) : Prop := (s = -1 ∧ ∀ y, rVP P (i + 1) y → y i % 128 = k → j ≤ y i / 128) ∨ (0 ≤ s ∧ rVP P (i + 1) x ∧ x i % 128 = k ∧ rCs (i + 1) x = s ∧ ∀ y, rVP P (i + 1) y → y i % 128 = k → y i / 128 < j → ¬ rBt (i + 1) y x)
/-- the best way before a start -/
def rPre (P : Rp) (i : Nat) (st : Int) (z : Nat → Nat) : Prop := rVP P i z ∧ (∀ b, b + 1 = i → rEn P b (z b) + P.2.2.2 ≤ st) ∧ ∀ y, rVP P i y → (∀ b, b + 1 = i → rEn P b (y b) + P.2.2.2 ≤ st) → ¬ rBt i y z
theorem rE_0 {P : Rp} {i k : Nat} {x : Nat → Nat} : rE P i k 0 (-1) x := Or.inl ⟨rfl, fun _ _ _ => Nat.zero_le _⟩
theorem rE_c {P : Rp} {i k j : Nat} {s : Int} {x x' : Nat → Nat} (h : ∀ c, c < i + 1 → x c = x' c) (e : rE P i k j s x) : rE P i k j s x' := by
  rcases e with e | ⟨e1, e2, e3, e4, e5⟩
  · exact Or.inl e
  · exact Or.inr ⟨e1, rVP_c h e2, by rw [← h i (by omega)]; exact e3, by rw [← rCs_c h]; exact e4, fun y y1 y2 y3 w => e5 y y1 y2 y3 (rBt_c (fun _ _ => rfl) (fun c hc => (h c hc).symm) w)⟩
theorem rE_skip {P : Rp} {i k j : Nat} {s : Int} {x : Nat → Nat} (e : rE P i k j s x) (h : ∀ y, rVP P (i + 1) y → y i ≠ 128 * j + k) : rE P i k (j + 1) s x := by
  rcases e with ⟨e1, e2⟩ | ⟨e1, e2, e3, e4, e5⟩
  · refine Or.inl ⟨e1, fun y y1 y2 => ?_⟩
    have := e2 y y1 y2
    have n : y i / 128 ≠ j := fun w => h y y1 (o_eq w y2)
    omega
  · refine Or.inr ⟨e1, e2, e3, e4, fun y y1 y2 y3 => e5 y y1 y2 ?_⟩
    have n : y i / 128 ≠ j := fun w => h y y1 (o_eq w y2)
    omega
theorem rBt_last {i : Nat} {y x : Nat → Nat} (h : y i = x i) (l : rBt (i + 1) y x) : rBt i y x := by
  unfold rBt at *
  rw [rCs, rCs, h] at l
  rcases l with l | ⟨l, c, c1, c2, c3⟩
  · exact Or.inl (by omega)
  · refine Or.inr ⟨by omega, c, ?_, c2, c3⟩
    rcases Nat.lt_succ_iff_lt_or_eq.mp c1 with w | rfl
    · exact w
    · omega
theorem rE_offer {P : Rp} {i k j : Nat} {s : Int} {x z x' : Nat → Nat} (e : rE P i k j s x) (hj : j < 25) (hk : k < 97) (hl : P.1 i (rSt P i (128 * j + k)) (rEn P i (128 * j + k))) (hz : rPre P i (rSt P i (128 * j + k)) z) (h1 : ∀ c, c < i → x' c = z c) (h2 : x' i = 128 * j + k) : ((s < 0 ∨ rBt (i + 1) x' x) → rE P i k (j + 1) (rCs i z + rCo (128 * j + k)) x') ∧ (¬ (s < 0 ∨ rBt (i + 1) x' x) → rE P i k (j + 1) s x) := by
  have vx : rVP P (i + 1) x' := by
    intro c hc
    rcases Nat.lt_succ_iff_lt_or_eq.mp hc with w | rfl
    · have := hz.1 c w
      rw [h1 c w]
      refine ⟨this.1, fun b hb => ?_⟩
      rw [h1 b (by omega)]
      exact this.2 b hb
    · rw [h2]
      refine ⟨⟨by omega, by omega, hl⟩, fun b hb => ?_⟩
      rw [h1 b (by omega)]
      exact hz.2.1 b hb
  have cx : rCs (i + 1) x' = rCs i z + rCo (128 * j + k) := by rw [rCs, h2, rCs_c h1]
  have c0 : ∀ m, (∀ c, c < m → rOk P c (x' c)) → 0 ≤ rCs m x' := by
    intro m
    induction m with
    | zero => intro _; exact Int.le_refl _
    | succ m ih =>
      intro hm
      have a := ih (fun c hc => hm c (by omega))
      have b := hm m (by omega)
      have := rCo_r (x' m) b.1 b.2.1
      rw [rCs]
      omega
  have c1 := c0 (i + 1) (fun c hc => (vx c hc).1)
  have own : ∀ y, rVP P (i + 1) y → y i = 128 * j + k → ¬ rBt (i + 1) y x' := by
    intro y y1 y2 w
    have w2 := rBt_last (y2.trans h2.symm) w
    refine hz.2.2 y (rVP_s y1) (fun b hb => ?_) (rBt_c (fun _ _ => rfl) h1 w2)
    have := (y1 i (by omega)).2 b hb
    rw [y2] at this
    exact this
  constructor
  · intro hb
    refine Or.inr ⟨by omega, vx, by rw [h2]; omega, cx, fun y y1 y2 y3 w => ?_⟩
    by_cases q : y i / 128 = j
    · exact own y y1 (o_eq q y2) w
    · rcases e with ⟨e1, e2⟩ | ⟨e1, e2, e3, e4, e5⟩
      · have := e2 y y1 y2
        omega
      · rcases hb with hb | hb
        · omega
        · exact e5 y y1 y2 (by omega) (rBt_tr w hb)
  · intro hb
    rcases e with ⟨e1, e2⟩ | ⟨e1, e2, e3, e4, e5⟩
    · exact absurd (Or.inl (by omega)) hb
    · refine Or.inr ⟨e1, e2, e3, e4, fun y y1 y2 y3 w => ?_⟩
      by_cases q : y i / 128 = j
      · rcases rBt_nt (y := x') w with w2 | w2
        · exact own y y1 (o_eq q y2) w2
        · exact hb (Or.inr w2)
      · exact e5 y y1 y2 (by omega) w
/-- the best of the ways before, out of the entries of the cue before -/
theorem rPre_of {P : Rp} {i b : Nat} {st : Int} {S : Nat → Int} {X : Nat → Nat → Nat} (he : ∀ k, k < 97 → rE P i k 25 (S k) (X k)) (hb : b < 97) (h0 : 0 ≤ S b) (hc : P.2.2.1 i - 48 + (b : Int) + P.2.2.2 ≤ st) (hm : ∀ k, k < 97 → 0 ≤ S k → P.2.2.1 i - 48 + (k : Int) + P.2.2.2 ≤ st → ¬ rBt (i + 1) (X k) (X b)) : rPre P (i + 1) st (X b) := by
  rcases he b hb with ⟨e1, _⟩ | ⟨_, e2, e3, e4, e5⟩
  · omega
  · refine ⟨e2, fun c hc2 => ?_, fun y y1 y2 w => ?_⟩
    · obtain rfl : c = i := by omega
      unfold rEn
      rw [e3]
      exact hc
    · have o := (y1 i (by omega)).1
      have y3 := y2 i rfl
      unfold rEn at y3
      rcases he (y i % 128) o.2.1 with ⟨_, g2⟩ | ⟨g1, g2, g3, g4, g5⟩
      · have := g2 y y1 rfl
        have := o.1
        omega
      · rcases rBt_nt (y := X (y i % 128)) w with w2 | w2
        · exact g5 y y1 rfl o.1 w2
        · exact hm _ o.2.1 g1 y3 w2
theorem rPre_no {P : Rp} {i : Nat} {st : Int} {S : Nat → Int} {X : Nat → Nat → Nat} (he : ∀ k, k < 97 → rE P i k 25 (S k) (X k)) (hn : ∀ k, k < 97 → 0 ≤ S k → ¬ P.2.2.1 i - 48 + (k : Int) + P.2.2.2 ≤ st) (y : Nat → Nat) (y1 : rVP P (i + 1) y) : ¬ (rEn P i (y i) + P.2.2.2 ≤ st) := by
  intro w
  have o := (y1 i (by omega)).1
  unfold rEn at w
  rcases he (y i % 128) o.2.1 with ⟨_, g2⟩ | ⟨g1, _⟩
  · have := g2 y y1 rfl
    have := o.1
    omega
  · exact hn _ o.2.1 g1 w
/-- the best of all -/
theorem rMn_of {P : Rp} {i b : Nat} {S : Nat → Int} {X : Nat → Nat → Nat} (he : ∀ k, k < 97 → rE P i k 25 (S k) (X k)) (hb : b < 97) (h0 : 0 ≤ S b) (hm : ∀ k, k < 97 → 0 ≤ S k → ¬ rBt (i + 1) (X k) (X b)) : rMn P (i + 1) (X b) ∧ rCs (i + 1) (X b) = S b := by
  rcases he b hb with ⟨e1, _⟩ | ⟨_, e2, e3, e4, e5⟩
  · omega
  · refine ⟨⟨e2, fun y y1 w => ?_⟩, e4⟩
    have o := (y1 i (by omega)).1
    rcases he (y i % 128) o.2.1 with ⟨_, g2⟩ | ⟨g1, g2, g3, g4, g5⟩
    · have := g2 y y1 rfl
      have := o.1
      omega
    · rcases rBt_nt (y := X (y i % 128)) w with w2 | w2
      · exact g5 y y1 rfl o.1 w2
      · exact hm _ o.2.1 g1 w2
theorem rVP_0 {P : Rp} {x : Nat → Nat} : rVP P 0 x := fun c hc => absurd hc (by omega)
theorem rPre_0 {P : Rp} {st : Int} {z : Nat → Nat} : rPre P 0 st z := ⟨rVP_0, fun b hb => absurd hb (by omega), fun y _ _ w => by
  rcases w with w | ⟨_, c, w, _⟩
  · exact absurd w (Int.lt_irrefl _)
  · exact absurd w (by omega)⟩
/-- the first cue that no way reaches -/
theorem r_stuck_u {P : Rp} {i j : Nat} (h1 : ∃ x, rVP P i x) (h2 : ¬ ∃ x, rVP P (i + 1) x) (g1 : ∃ x, rVP P j x) (g2 : ¬ ∃ x, rVP P (j + 1) x) : i = j := by
  rcases Nat.lt_trichotomy i j with q | q | q
  · obtain ⟨x, hx⟩ := g1
    exact absurd ⟨x, rVP_le hx q⟩ h2
  · exact q
  · obtain ⟨x, hx⟩ := h1
    exact absurd ⟨x, rVP_le hx q⟩ g2
/-- the class's tables -/
def cPl (fs : Nat → Int) (i : Nat) (fl : Int) : Int := max 0 (fl - fs i)
def cLF (N : Nat) (fs A : Nat → Int) (i : Nat) (fl : Int) : Int := if N ≤ i then 0 else if cPl fs i fl < 25 then A (i * 25 + (cPl fs i fl).toNat) else 1000000
def cES (ek : Int → Int) (fe : Nat → Int) (gap : Int) (L : Int → Int) (i k : Nat) : Int := if ek (fe i + (k : Int)) ≠ 0 then (((k : Int) - 48).natAbs : Int) + L (fe i + (k : Int) + gap) else 1000000
def cBest (E : Nat → Int) (fr to b : Int) : Prop := (b = -1 ∧ ∀ k : Nat, fr ≤ (k : Int) → (k : Int) ≤ to → 1000000 ≤ E k) ∨ (0 ≤ b ∧ fr ≤ b ∧ b ≤ to ∧ E b.toNat < 1000000 ∧ (∀ k : Nat, fr ≤ (k : Int) → (k : Int) ≤ to → E b.toNat ≤ E k) ∧ ∀ k : Nat, fr ≤ (k : Int) → (k : Int) < b → E b.toNat < E k)
def cFr (fs fe sh : Nat → Int) (i : Nat) (k : Nat) : Int := max 0 (fs i + (k : Int) + sh i - fe i)
def cTo (fs fe : Nat → Int) (most : Int) (i : Nat) (k : Nat) : Int := min 96 (fs i + (k : Int) + most - fe i)
def cSt (fs fe sh : Nat → Int) (most : Int) (E : Nat → Int) (SS BE : Nat → Int) (i k : Nat) : Prop := ∃ b : Int, cBest E (cFr fs fe sh i k) (cTo fs fe most i k) b ∧ BE (i * 25 + k) = fe i + b ∧ SS (i * 25 + k) = if b = -1 then 1000000 else (((k : Int) - 12).natAbs : Int) + E b.toNat
def cLs (A SS : Nat → Int) (i k : Nat) : Prop := A (i * 25 + k) ≤ 1000000 ∧ (∀ k', k ≤ k' → k' < 25 → A (i * 25 + k) ≤ SS (i * 25 + k')) ∧ (A (i * 25 + k) = 1000000 ∨ ∃ k', k ≤ k' ∧ k' < 25 ∧ SS (i * 25 + k') = A (i * 25 + k))
abbrev CT : Type := Nat × (Nat → Int) × (Nat → Int) × (Nat → Int) × Int × Int × (Int → Int)
/-- the tables' rows behind cue i: the count, first starts, first ends, shortest, most, gap, what ends are allowed -/
def cRow (T : CT) (A SS BE : Nat → Int) (i : Nat) : Prop := ∀ k, k < 25 → cSt T.2.1 T.2.2.1 T.2.2.2.1 T.2.2.2.2.1 (cES T.2.2.2.2.2.2 T.2.2.1 T.2.2.2.2.2.1 (cLF T.1 T.2.1 A (i + 1)) i) SS BE i k ∧ cLs A SS i k
/-- what ties the tables to the ways -/
def cTie (P : Rp) (T : CT) : Prop := (∀ i, i < T.1 → T.2.1 i = P.2.1 i - 12 ∧ T.2.2.1 i = P.2.2.1 i - 48) ∧ P.2.2.2 = T.2.2.2.2.2.1 ∧ 0 ≤ P.2.2.2 ∧ (∀ e, T.2.2.2.2.2.2 e ≠ 0 → 0 ≤ e) ∧ (∀ i s e, P.1 i s e → 0 ≤ s) ∧ (∀ i s e, i < T.1 → 0 ≤ s → (P.1 i s e ↔ T.2.2.2.2.2.2 e ≠ 0 ∧ s + T.2.2.2.1 i ≤ e ∧ e ≤ s + T.2.2.2.2.1))
/-- a way from cue i on -/
def rVS (P : Rp) (N i : Nat) (fl : Int) (x : Nat → Nat) : Prop := (∀ c, i ≤ c → c < N → rOk P c (x c) ∧ ∀ b, i ≤ b → b + 1 = c → rEn P b (x b) + P.2.2.2 ≤ rSt P c (x c)) ∧ (i < N → fl ≤ rSt P i (x i))
theorem rVS_s {P : Rp} {N i : Nat} {fl : Int} {x : Nat → Nat} (h : i < N) (v : rVS P N i fl x) : rVS P N (i + 1) (rEn P i (x i) + P.2.2.2) x := ⟨fun c h1 h2 => ⟨(v.1 c (by omega) h2).1, fun b hb => (v.1 c (by omega) h2).2 b (by omega)⟩, fun h2 => (v.1 (i + 1) (by omega) h2).2 i (by omega) rfl⟩
/-- one cue more: what is known of its start and end -/
theorem c_in {P : Rp} {T : CT} {A SS BE : Nat → Int} {i : Nat} {fl : Int} {x : Nat → Nat} (ti : cTie P T) (hi : i < T.1) (hr : cRow T A SS BE i) (hf : 0 ≤ fl) (v : rVS P T.1 i fl x) (hc : cLF T.1 T.2.1 A (i + 1) (rEn P i (x i) + P.2.2.2) ≤ rCs T.1 x - rCs (i + 1) x) : cPl T.2.1 i fl ≤ ((x i / 128 : Nat) : Int) ∧ x i / 128 < 25 ∧ (SS (i * 25 + x i / 128) ≤ rCs T.1 x - rCs i x ∨ 1000000 ≤ rCs T.1 x - rCs i x) ∧ (rCs T.1 x - rCs i x < 1000000 → cFr T.2.1 T.2.2.1 T.2.2.2.1 i (x i / 128) ≤ ((x i % 128 : Nat) : Int) ∧ ((x i % 128 : Nat) : Int) ≤ cTo T.2.1 T.2.2.1 T.2.2.2.2.1 i (x i / 128) ∧ cES T.2.2.2.2.2.2 T.2.2.1 T.2.2.2.2.2.1 (cLF T.1 T.2.1 A (i + 1)) i (x i % 128) = ((((x i % 128 : Nat) : Int) - 48).natAbs : Int) + cLF T.1 T.2.1 A (i + 1) (rEn P i (x i) + P.2.2.2)) := by
  obtain ⟨t1, t2, t3, t4, t5, t6⟩ := ti
  obtain ⟨o1, o2, o3⟩ := (v.1 i (Nat.le_refl _) hi).1
  have ge := v.2 hi
  obtain ⟨e1, e2⟩ := t1 i hi
  have hs : rSt P i (x i) = T.2.1 i + ((x i / 128 : Nat) : Int) := by unfold rSt; rw [e1]
  have he : rEn P i (x i) = T.2.2.1 i + ((x i % 128 : Nat) : Int) := by unfold rEn; rw [e2]
  have l := (t6 i _ _ hi (t5 i _ _ o3)).mp o3
  rw [hs, he] at l
  rw [hs] at ge
  have co : rCs (i + 1) x = rCs i x + rCo (x i) := rfl
  have rc := rCo_r (x i) o1 o2
  have cc : rCo (x i) = ((((x i / 128 : Nat) : Int) - 12).natAbs : Int) + ((((x i % 128 : Nat) : Int) - 48).natAbs : Int) := rfl
  have ee : cES T.2.2.2.2.2.2 T.2.2.1 T.2.2.2.2.2.1 (cLF T.1 T.2.1 A (i + 1)) i (x i % 128) = ((((x i % 128 : Nat) : Int) - 48).natAbs : Int) + cLF T.1 T.2.1 A (i + 1) (rEn P i (x i) + P.2.2.2) := by
    unfold cES
    rw [if_pos l.1, he, t2]
  have fr : cFr T.2.1 T.2.2.1 T.2.2.2.1 i (x i / 128) ≤ ((x i % 128 : Nat) : Int) := by unfold cFr; omega
  have to : ((x i % 128 : Nat) : Int) ≤ cTo T.2.1 T.2.2.1 T.2.2.2.2.1 i (x i / 128) := by unfold cTo; omega
  refine ⟨by unfold cPl; omega, o1, ?_, fun _ => ⟨fr, to, ee⟩⟩
  by_cases q : 1000000 ≤ rCs T.1 x - rCs i x
  · exact Or.inr q
  · refine Or.inl ?_
    obtain ⟨⟨b, hb, _, hs2⟩, _⟩ := hr _ o1
    rw [hs2]
    rcases hb with ⟨b1, b2⟩ | ⟨b1, b2, b3, b4, b5, b6⟩
    · have := b2 (x i % 128) fr to
      omega
    · rw [if_neg (by omega)]
      have := b5 (x i % 128) fr to
      omega
/-- no way is cheaper than the table says -/
theorem c_low {P : Rp} {T : CT} {A SS BE : Nat → Int} (ti : cTie P T) (hr : ∀ i, i < T.1 → cRow T A SS BE i) : ∀ (r i : Nat), i + r = T.1 → ∀ (fl : Int) (x : Nat → Nat), 0 ≤ fl → rVS P T.1 i fl x → cLF T.1 T.2.1 A i fl ≤ rCs T.1 x - rCs i x := by
  intro r
  induction r with
  | zero =>
    intro i h fl x _ _
    unfold cLF
    rw [if_pos (by omega), show i = T.1 from by omega]
    omega
  | succ r ih =>
    intro i h fl x hf v
    have hi : i < T.1 := by omega
    obtain ⟨t1, t2, t3, t4, t5, t6⟩ := id ti
    have hfl : 0 ≤ rEn P i (x i) + P.2.2.2 := by
      obtain ⟨o1, o2, o3⟩ := (v.1 i (Nat.le_refl _) hi).1
      have := t4 _ ((t6 i _ _ hi (t5 i _ _ o3)).mp o3).1
      omega
    have a := ih (i + 1) (by omega) _ x hfl (rVS_s hi v)
    obtain ⟨c1, c2, c3, _⟩ := c_in ti hi (hr i hi) hf v a
    have nn : 0 ≤ cPl T.2.1 i fl := by unfold cPl; omega
    unfold cLF
    rw [if_neg (by omega), if_pos (by omega)]
    obtain ⟨_, k1, k2, _⟩ := hr i hi (cPl T.2.1 i fl).toNat (by omega)
    rcases c3 with c3 | c3
    · have := k2 (x i / 128) (by omega) c2
      omega
    · omega
/-- the way that the class takes -/
def cGd (P : Rp) (T : CT) (A SS BE : Nat → Int) (g : Nat → Nat) (i : Nat) (fl : Int) : Prop := g i / 128 < 25 ∧ g i % 128 < 97 ∧ cPl T.2.1 i fl ≤ ((g i / 128 : Nat) : Int) ∧ SS (i * 25 + g i / 128) = cLF T.1 T.2.1 A i fl ∧ (∀ k' : Nat, cPl T.2.1 i fl ≤ (k' : Int) → k' < g i / 128 → SS (i * 25 + k') ≠ cLF T.1 T.2.1 A i fl) ∧ BE (i * 25 + g i / 128) = T.2.2.1 i + ((g i % 128 : Nat) : Int)
def cFl (P : Rp) (g : Nat → Nat) : Nat → Int
  | 0 => 0
  | i + 1 => rEn P i (g i) + P.2.2.2
theorem c_step {P : Rp} {T : CT} {A SS BE : Nat → Int} {g : Nat → Nat} {i : Nat} {fl : Int} (ti : cTie P T) (hi : i < T.1) (hr : cRow T A SS BE i) (hf : 0 ≤ fl) (hg : cGd P T A SS BE g i fl) (hL : cLF T.1 T.2.1 A i fl < 1000000) : rOk P i (g i) ∧ fl ≤ rSt P i (g i) ∧ 0 ≤ rEn P i (g i) + P.2.2.2 ∧ cLF T.1 T.2.1 A i fl = rCo (g i) + cLF T.1 T.2.1 A (i + 1) (rEn P i (g i) + P.2.2.2) ∧ (∀ k : Nat, cFr T.2.1 T.2.2.1 T.2.2.2.1 i (g i / 128) ≤ (k : Int) → (k : Int) ≤ cTo T.2.1 T.2.2.1 T.2.2.2.2.1 i (g i / 128) → k < g i % 128 → cES T.2.2.2.2.2.2 T.2.2.1 T.2.2.2.2.2.1 (cLF T.1 T.2.1 A (i + 1)) i (g i % 128) < cES T.2.2.2.2.2.2 T.2.2.1 T.2.2.2.2.2.1 (cLF T.1 T.2.1 A (i + 1)) i k) ∧ cES T.2.2.2.2.2.2 T.2.2.1 T.2.2.2.2.2.1 (cLF T.1 T.2.1 A (i + 1)) i (g i % 128) = ((((g i % 128 : Nat) : Int) - 48).natAbs : Int) + cLF T.1 T.2.1 A (i + 1) (rEn P i (g i) + P.2.2.2) := by
  obtain ⟨t1, t2, t3, t4, t5, t6⟩ := ti
  obtain ⟨g1, g2, g3, g4, g5, g6⟩ := hg
  obtain ⟨e1, e2⟩ := t1 i hi
  have hs : rSt P i (g i) = T.2.1 i + ((g i / 128 : Nat) : Int) := by unfold rSt; rw [e1]
  have he : rEn P i (g i) = T.2.2.1 i + ((g i % 128 : Nat) : Int) := by unfold rEn; rw [e2]
  obtain ⟨⟨b, hb, hb2, hb3⟩, _⟩ := hr _ g1
  rw [g4] at hb3
  rcases hb with ⟨b1, _⟩ | ⟨b1, b2, b3, b4, b5, b6⟩
  · rw [if_pos b1] at hb3
    omega
  · rw [if_neg (by omega)] at hb3
    have bb : b = ((g i % 128 : Nat) : Int) := by omega
    have bn : b.toNat = g i % 128 := by omega
    rw [bn] at b4 b5 b6 hb3
    have ek : T.2.2.2.2.2.2 (T.2.2.1 i + ((g i % 128 : Nat) : Int)) ≠ 0 := by
      intro w
      have : cES T.2.2.2.2.2.2 T.2.2.1 T.2.2.2.2.2.1 (cLF T.1 T.2.1 A (i + 1)) i (g i % 128) = 1000000 := by
        unfold cES
        rw [if_neg (fun q => q w)]
      omega
    have ee : cES T.2.2.2.2.2.2 T.2.2.1 T.2.2.2.2.2.1 (cLF T.1 T.2.1 A (i + 1)) i (g i % 128) = ((((g i % 128 : Nat) : Int) - 48).natAbs : Int) + cLF T.1 T.2.1 A (i + 1) (rEn P i (g i) + P.2.2.2) := by
      unfold cES
      rw [if_pos ek, he, t2]
    have e0 := t4 _ ek
    have b2a : T.2.1 i + ((g i / 128 : Nat) : Int) + T.2.2.2.1 i - T.2.2.1 i ≤ b := Int.le_trans (Int.le_max_right _ _) b2
    have b3a : b ≤ T.2.1 i + ((g i / 128 : Nat) : Int) + T.2.2.2.2.1 - T.2.2.1 i := Int.le_trans b3 (Int.min_le_right _ _)
    have g3a : fl - T.2.1 i ≤ ((g i / 128 : Nat) : Int) := Int.le_trans (Int.le_max_right _ _) g3
    have k1 : fl ≤ rSt P i (g i) := by
      rw [hs]
      clear b2 b3 g3 hb3 b4 b5 b6 b2a b3a
      omega
    have k2 : 0 ≤ rEn P i (g i) + P.2.2.2 := by
      rw [he]
      clear b2 b3 g3 hb3 b4 b5 b6 b2a b3a
      omega
    have k3 : 0 ≤ T.2.1 i + ((g i / 128 : Nat) : Int) := by
      rw [hs] at k1
      clear b2 b3 g3 hb3 b4 b5 b6 b2a b3a k2
      omega
    have k4 : T.2.1 i + ((g i / 128 : Nat) : Int) + T.2.2.2.1 i ≤ T.2.2.1 i + ((g i % 128 : Nat) : Int) := by
      clear b2 b3 g3 hb3 b4 b5 b6 b3a k2 k1 g3a
      omega
    have k5 : T.2.2.1 i + ((g i % 128 : Nat) : Int) ≤ T.2.1 i + ((g i / 128 : Nat) : Int) + T.2.2.2.2.1 := by
      clear b2 b3 g3 hb3 b4 b5 b6 b2a k2 k1 g3a
      omega
    refine ⟨⟨g1, g2, ?_⟩, k1, k2, ?_, fun k q1 q2 q3 => b6 k q1 (by rw [bb]; exact Int.ofNat_lt.mpr q3), ee⟩
    · rw [hs, he]
      exact (t6 i _ _ hi k3).mpr ⟨ek, k4, k5⟩
    · rw [hb3, ee]
      show _ = ((((g i / 128 : Nat) : Int) - 12).natAbs : Int) + ((((g i % 128 : Nat) : Int) - 48).natAbs : Int) + _
      omega
def rLS (N i : Nat) (x y : Nat → Nat) : Prop := ∃ c, i ≤ c ∧ c < N ∧ (∀ b, i ≤ b → b < c → x b = y b) ∧ x c < y c
theorem c_high {P : Rp} {T : CT} {A SS BE : Nat → Int} {g : Nat → Nat} (ti : cTie P T) (hr : ∀ i, i < T.1 → cRow T A SS BE i) (hg : ∀ i, i < T.1 → cGd P T A SS BE g i (cFl P g i)) : ∀ (r i : Nat), i + r = T.1 → 0 ≤ cFl P g i → cLF T.1 T.2.1 A i (cFl P g i) < 1000000 → rVS P T.1 i (cFl P g i) g ∧ rCs T.1 g - rCs i g = cLF T.1 T.2.1 A i (cFl P g i) ∧ ∀ x, rVS P T.1 i (cFl P g i) x → rCs T.1 x - rCs i x = cLF T.1 T.2.1 A i (cFl P g i) → ¬ rLS T.1 i x g := by
  intro r
  induction r with
  | zero =>
    intro i h _ _
    refine ⟨⟨fun c h1 h2 => absurd h2 (by omega), fun h2 => absurd h2 (by omega)⟩, ?_, fun x _ _ => ?_⟩
    · unfold cLF
      rw [if_pos (by omega), show i = T.1 from by omega]
      omega
    · rintro ⟨c, h1, h2, _⟩
      omega
  | succ r ih =>
    intro i h hf hL
    have hi : i < T.1 := by omega
    obtain ⟨s1, s2, s3, s4, s5, s6⟩ := c_step ti hi (hr i hi) hf (hg i hi) hL
    have rc := rCo_r (g i) s1.1 s1.2.1
    have fe : cFl P g (i + 1) = rEn P i (g i) + P.2.2.2 := rfl
    have hN : 0 ≤ cFl P g (i + 1) := s3
    rw [← fe] at s4
    obtain ⟨v1, v2, v3⟩ := ih (i + 1) (by omega) hN (by omega)
    have cg : rCs (i + 1) g = rCs i g + rCo (g i) := rfl
    refine ⟨⟨fun c h1 h2 => ?_, fun _ => s2⟩, by omega, fun x vx cx lx => ?_⟩
    · by_cases q : c = i
      · subst q
        exact ⟨s1, fun b b1 b2 => absurd b1 (by omega)⟩
      · have a := v1.1 c (by omega) h2
        refine ⟨a.1, fun b b1 b2 => ?_⟩
        by_cases w : b = i
        · subst w
          subst b2
          exact v1.2 h2
        · exact a.2 b (by omega) b2
    · obtain ⟨t1, t2, t3, t4, t5, t6⟩ := id ti
      have hfl : 0 ≤ rEn P i (x i) + P.2.2.2 := by
        obtain ⟨o1, o2, o3⟩ := (vx.1 i (Nat.le_refl _) hi).1
        have := t4 _ ((t6 i _ _ hi (t5 i _ _ o3)).mp o3).1
        omega
      have low := c_low ti hr r (i + 1) (by omega) _ x hfl (rVS_s hi vx)
      obtain ⟨c1, c2, c3, c4⟩ := c_in ti hi (hr i hi) hf vx low
      obtain ⟨c5, c6, c7⟩ := c4 (by omega)
      have ox := (vx.1 i (Nat.le_refl _) hi).1
      have rx := rCo_r (x i) ox.1 ox.2.1
      have cx2 : rCs (i + 1) x = rCs i x + rCo (x i) := rfl
      have cc : rCo (x i) = ((((x i / 128 : Nat) : Int) - 12).natAbs : Int) + ((((x i % 128 : Nat) : Int) - 48).natAbs : Int) := rfl
      have cgg : rCo (g i) = ((((g i / 128 : Nat) : Int) - 12).natAbs : Int) + ((((g i % 128 : Nat) : Int) - 48).natAbs : Int) := rfl
      obtain ⟨g1, g2, g3, g4, g5, g6⟩ := hg i hi
      have nn : 0 ≤ cPl T.2.1 i (cFl P g i) := by unfold cPl; omega
      have e1 : cLF T.1 T.2.1 A i (cFl P g i) ≤ SS (i * 25 + x i / 128) := by
        have q : cLF T.1 T.2.1 A i (cFl P g i) = A (i * 25 + (cPl T.2.1 i (cFl P g i)).toNat) := by
          unfold cLF
          rw [if_neg (by omega), if_pos (by omega)]
        rw [q]
        exact (hr i hi _ (by omega)).2.2.1 (x i / 128) (by omega) c2
      have e2 : SS (i * 25 + x i / 128) = cLF T.1 T.2.1 A i (cFl P g i) := by
        rcases c3 with c3 | c3 <;> omega
      have e3 : ¬ x i / 128 < g i / 128 := fun w => g5 _ c1 w e2
      obtain ⟨c, l1, l2, l3, l4⟩ := lx
      have dx := Nat.div_add_mod (x i) 128
      have dg := Nat.div_add_mod (g i) 128
      have mx := Nat.mod_lt (x i) (show 128 > 0 by decide)
      have mg := Nat.mod_lt (g i) (show 128 > 0 by decide)
      have fin : x i = g i → False := by
        intro w
        have hc : i ≠ c := fun q => by subst q; omega
        refine v3 x ?_ ?_ ⟨c, by omega, l2, fun b b1 b2 => l3 b (by omega) b2, l4⟩
        · rw [fe, ← w]
          exact rVS_s hi vx
        · rw [fe, ← w] at s4
          rw [fe, ← w]
          rw [← w] at rc
          omega
      have key : g i ≤ x i := by
        by_cases q : x i / 128 = g i / 128
        · have e5 : ¬ x i % 128 < g i % 128 := by
            intro w
            rw [q] at c5 c6
            have := s5 (x i % 128) c5 c6 w
            rw [s6, c7] at this
            rw [← fe] at this
            omega
          omega
        · omega
      by_cases q : c = i
      · subst q
        omega
      · exact fin (l3 i (Nat.le_refl _) (by omega))
/-- the class's way is the best -/
theorem c_best {P : Rp} {T : CT} {A SS BE : Nat → Int} {g : Nat → Nat} (ti : cTie P T) (hr : ∀ i, i < T.1 → cRow T A SS BE i) (hg : ∀ i, i < T.1 → cGd P T A SS BE g i (cFl P g i)) (hL : cLF T.1 T.2.1 A 0 0 < 1000000) : rMn P T.1 g ∧ rCs T.1 g = cLF T.1 T.2.1 A 0 0 := by
  obtain ⟨v1, v2, v3⟩ := c_high ti hr hg T.1 0 (by omega) (Int.le_refl _) hL
  have z : ∀ x, rCs 0 x = 0 := fun _ => rfl
  rw [z] at v2
  have toS : ∀ x, rVP P T.1 x → rVS P T.1 0 0 x := fun x v => ⟨fun c _ h2 => ⟨(v c h2).1, fun b _ hb => (v c h2).2 b hb⟩, fun h => ti.2.2.2.2.1 0 _ _ (v 0 h).1.2.2⟩
  refine ⟨⟨fun c hc => ⟨(v1.1 c (by omega) hc).1, fun b hb => (v1.1 c (by omega) hc).2 b (by omega) hb⟩, fun y hy w => ?_⟩, by show rCs T.1 g = cLF T.1 T.2.1 A 0 (cFl P g 0); omega⟩
  have low := c_low ti hr T.1 0 (by omega) 0 y (Int.le_refl _) (toS y hy)
  rw [z] at low
  have e : cFl P g 0 = 0 := rfl
  rw [e] at v2 v3
  rcases w with w | ⟨w, c, w1, w2, w3⟩
  · omega
  · exact v3 y (toS y hy) (by rw [z]; omega) ⟨c, by omega, w1, fun b _ hb => w2 b hb, w3⟩
theorem rCs_r {P : Rp} {x : Nat → Nat} : ∀ (m : Nat), rVP P m x → 0 ≤ rCs m x ∧ rCs m x ≤ 60 * (m : Int)
  | 0, _ => by rw [rCs]; omega
  | m + 1, v => by
    have a := rCs_r m (rVP_s v)
    have o := (v m (by omega)).1
    have b := rCo_r (x m) o.1 o.2.1
    rw [rCs]
    omega
theorem c_none {P : Rp} {T : CT} {A SS BE : Nat → Int} (ti : cTie P T) (hN : T.1 ≤ 16) (hr : ∀ i, i < T.1 → cRow T A SS BE i) (hL : 1000000 ≤ cLF T.1 T.2.1 A 0 0) : ¬ ∃ x, rVP P T.1 x := by
  rintro ⟨x, v⟩
  have low := c_low ti hr T.1 0 (by omega) 0 x (Int.le_refl _) ⟨fun c _ h2 => ⟨(v c h2).1, fun b _ hb => (v c h2).2 b hb⟩, fun h => ti.2.2.2.2.1 0 _ _ (v 0 h).1.2.2⟩
  have := rCs_r T.1 v
  have z : rCs 0 x = 0 := rfl
  omega
/-- the earliest end -/
def cEa (T : CT) (i : Nat) (fl : Int) (k : Nat) : Prop := max (max (T.2.1 i) fl) (T.2.2.1 i + (k : Int) - T.2.2.2.2.1) ≤ min (T.2.1 i + 24) (T.2.2.1 i + (k : Int) - T.2.2.2.1 i) ∧ T.2.2.2.2.2.2 (T.2.2.1 i + (k : Int)) ≠ 0
/-- the floor below the next start: the earliest that a way leaves -/
def cMi (P : Rp) (m : Nat) (fl : Int) : Prop := 0 ≤ fl ∧ (m = 0 → fl = 0) ∧ (∃ x, rVP P m x ∧ ∀ b, b + 1 = m → rEn P b (x b) + P.2.2.2 = fl) ∧ ∀ y, rVP P m y → ∀ b, b + 1 = m → fl ≤ rEn P b (y b) + P.2.2.2
theorem cMi_0 {P : Rp} : cMi P 0 0 := ⟨Int.le_refl _, fun _ => rfl, ⟨fun _ => 0, rVP_0, fun b hb => absurd hb (by omega)⟩, fun y _ b hb => absurd hb (by omega)⟩
theorem cMi_ea {P : Rp} {T : CT} {m : Nat} {fl : Int} (ti : cTie P T) (hm : m < T.1) (h : cMi P m fl) (y : Nat → Nat) (v : rVP P (m + 1) y) : cEa T m fl (y m % 128) ∧ y m % 128 < 97 ∧ rEn P m (y m) = T.2.2.1 m + ((y m % 128 : Nat) : Int) := by
  obtain ⟨t1, t2, t3, t4, t5, t6⟩ := ti
  obtain ⟨f1, f2, f3, f4⟩ := h
  obtain ⟨e1, e2⟩ := t1 m hm
  obtain ⟨⟨o1, o2, o3⟩, o4⟩ := v m (by omega)
  have hs : rSt P m (y m) = T.2.1 m + ((y m / 128 : Nat) : Int) := by unfold rSt; rw [e1]
  have he : rEn P m (y m) = T.2.2.1 m + ((y m % 128 : Nat) : Int) := by unfold rEn; rw [e2]
  have s0 := t5 m _ _ o3
  have l := (t6 m _ _ hm s0).mp o3
  rw [hs] at s0 l
  rw [he] at l
  have ge : fl ≤ T.2.1 m + ((y m / 128 : Nat) : Int) := by
    rcases Nat.eq_zero_or_pos m with q | q
    · rw [f2 q]; exact s0
    · have a := f4 y (rVP_s v) (m - 1) (by omega)
      have b := o4 (m - 1) (by omega)
      rw [hs] at b
      omega
  exact ⟨⟨by omega, l.1⟩, o2, he⟩
theorem cMi_s {P : Rp} {T : CT} {m k : Nat} {fl : Int} (ti : cTie P T) (hm : m < T.1) (h : cMi P m fl) (hk : k < 97) (h1 : cEa T m fl k) (h2 : ∀ k', k' < k → ¬ cEa T m fl k') : cMi P (m + 1) (T.2.2.1 m + (k : Int) + T.2.2.2.2.2.1) := by
  have key := fun y v => cMi_ea ti hm h y v
  obtain ⟨t1, t2, t3, t4, t5, t6⟩ := ti
  obtain ⟨f1, f2, ⟨x, x1, x2⟩, f4⟩ := h
  obtain ⟨e1, e2⟩ := t1 m hm
  obtain ⟨h3, h4⟩ := h1
  have e0 := t4 _ h4
  obtain ⟨j, hj⟩ : ∃ j : Nat, max (max (T.2.1 m) fl) (T.2.2.1 m + (k : Int) - T.2.2.2.2.1) = T.2.1 m + (j : Int) := ⟨(max (max (T.2.1 m) fl) (T.2.2.1 m + (k : Int) - T.2.2.2.2.1) - T.2.1 m).toNat, by omega⟩
  have d1 : (128 * j + k) / 128 = j := by omega
  have d2 : (128 * j + k) % 128 = k := by omega
  have hs : rSt P m (128 * j + k) = T.2.1 m + (j : Int) := by unfold rSt; rw [e1, d1]
  have he : rEn P m (128 * j + k) = T.2.2.1 m + (k : Int) := by unfold rEn; rw [e2, d2]
  refine ⟨by omega, fun w => absurd w (by omega), ⟨fun c => if c = m then 128 * j + k else x c, fun c hc => ?_, fun b hb => ?_⟩, fun y v b hb => ?_⟩
  · rcases Nat.lt_succ_iff_lt_or_eq.mp hc with w | rfl
    · simp only [if_neg (show c ≠ m by omega)]
      refine ⟨(x1 c w).1, fun b hb => ?_⟩
      simp only [if_neg (show b ≠ m by omega)]
      exact (x1 c w).2 b hb
    · simp only [if_true]
      refine ⟨⟨by omega, by omega, ?_⟩, fun b hb => ?_⟩
      · rw [hs, he]
        exact (t6 c _ _ hm (by omega)).mpr ⟨h4, by omega, by omega⟩
      · simp only [if_neg (show b ≠ c by omega)]
        rw [hs, x2 b hb]
        omega
  · obtain rfl : b = m := by omega
    simp only [if_true]
    rw [he, t2]
  · obtain rfl : b = m := by omega
    obtain ⟨k1, k2, k3⟩ := key y v
    rw [k3, t2]
    have : ¬ y b % 128 < k := fun w => h2 _ w k1
    omega
theorem cMi_no {P : Rp} {T : CT} {m : Nat} {fl : Int} (ti : cTie P T) (hm : m < T.1) (h : cMi P m fl) (h2 : ∀ k', k' < 97 → ¬ cEa T m fl k') : ¬ ∃ x, rVP P (m + 1) x := by
  rintro ⟨y, v⟩
  obtain ⟨k1, k2, _⟩ := cMi_ea ti hm h y v
  exact h2 _ k2 k1
/-- an end is clear of the shots -/
def clr (U : Nat → Int) (n : Nat) (e : Int) : Prop := (∃ k, k < n ∧ U k - 2 = e) ∨ ¬ ∃ k, k < n ∧ ((e - U k).natAbs : Int) ≤ 7
noncomputable def clrZ (U : Nat → Int) (n : Nat) (e : Int) : Int := @ite _ (clr U n e) (Classical.propDecidable _) 1 0
theorem clrZ_1 {U : Nat → Int} {n : Nat} {e : Int} (h : clr U n e) : clrZ U n e = 1 := if_pos h
theorem clrZ_0 {U : Nat → Int} {n : Nat} {e : Int} (h : ¬ clr U n e) : clrZ U n e = 0 := if_neg h
theorem clrZ_r (U : Nat → Int) (n : Nat) (e : Int) : clrZ U n e = 0 ∨ clrZ U n e = 1 := by
  rcases Classical.em (clr U n e) with h | h
  · exact Or.inr (clrZ_1 h)
  · exact Or.inl (clrZ_0 h)
theorem clrZ_i {U : Nat → Int} {n : Nat} {e : Int} : clrZ U n e ≠ 0 ↔ clr U n e := by
  rcases Classical.em (clr U n e) with h | h
  · rw [clrZ_1 h]; exact ⟨fun _ => h, fun _ => by decide⟩
  · rw [clrZ_0 h]; exact ⟨fun w => absurd rfl w, fun w => absurd w h⟩
noncomputable def ekZ (tk : Int) (U : Nat → Int) (n : Nat) (e : Int) : Int := if holdZ tk e ≠ 0 then clrZ U n e else 0
theorem ekZ_r (tk : Int) (U : Nat → Int) (n : Nat) (e : Int) : ekZ tk U n e = 0 ∨ ekZ tk U n e = 1 := by
  unfold ekZ
  split
  · exact clrZ_r U n e
  · exact Or.inl rfl
def shZ (l num den sp c : Int) : Int := max l ((c * num + sp * den - 1) / (sp * den))
/-- the first k places of V, the rest of E -/
def upto (V E : Nat → Int) (k : Nat) : Nat → Int := fun j => if j < k then V j else E j
theorem upto_0 {V E : Nat → Int} : upto V E 0 = E := by
  funext j
  exact if_neg (by omega)
theorem upto_s {V E : Nat → Int} {k : Nat} : zup (upto V E k) k (V k) = upto V E (k + 1) := by
  funext j
  show (if j = k then V k else if j < k then V j else E j) = if j < k + 1 then V j else E j
  by_cases q : j = k
  · subst q; rw [if_pos rfl, if_pos (by omega)]
  · rw [if_neg q]
    by_cases w : j < k
    · rw [if_pos w, if_pos (by omega)]
    · rw [if_neg w, if_neg (by omega)]
theorem upto_i {V E : Nat → Int} {k j : Nat} (h : j < k) : upto V E k j = V j := if_pos h
theorem upto_r {V E : Nat → Int} {k : Nat} {a b : Int} (hV : ∀ j, j < k → a ≤ V j ∧ V j ≤ b) (hE : ∀ j, a ≤ E j ∧ E j ≤ b) : ∀ j, a ≤ upto V E k j ∧ upto V E k j ≤ b := by
  intro j
  unfold upto
  split
  · rename_i q; exact hV j q
  · exact hE j
theorem cLF_r {N : Nat} {fs A : Nat → Int} {i : Nat} {fl : Int} (hA : ∀ k, 0 ≤ A k ∧ A k ≤ 1000000) : 0 ≤ cLF N fs A i fl ∧ cLF N fs A i fl ≤ 1000000 := by
  unfold cLF
  split
  · omega
  · split
    · exact hA _
    · omega
theorem cES_r {ek : Int → Int} {fe : Nat → Int} {gap : Int} {L : Int → Int} {i k : Nat} (hk : k < 97) (hL : ∀ f, 0 ≤ L f ∧ L f ≤ 1000000) : 0 ≤ cES ek fe gap L i k ∧ cES ek fe gap L i k ≤ 1000048 := by
  unfold cES
  have := hL (fe i + (k : Int) + gap)
  split <;> omega
def bsP (E : Nat → Int) (fr k b s : Int) : Prop := (b = -1 ∧ s = 1000000 ∧ ∀ j : Nat, fr ≤ (j : Int) → (j : Int) < k → 1000000 ≤ E j) ∨ (0 ≤ b ∧ fr ≤ b ∧ b < k ∧ s = E b.toNat ∧ s < 1000000 ∧ (∀ j : Nat, fr ≤ (j : Int) → (j : Int) < k → s ≤ E j) ∧ ∀ j : Nat, fr ≤ (j : Int) → (j : Int) < b → s < E j)
theorem bsP_e {E : Nat → Int} {fr to b s k : Int} (h : bsP E fr k b s) (hk : to < k) (hk2 : k = to + 1 ∨ k = fr) : cBest E fr to b := by
  rcases h with ⟨h1, h2, h3⟩ | ⟨h1, h2, h3, h4, h5, h6, h7⟩
  · exact Or.inl ⟨h1, fun j j1 j2 => h3 j j1 (by omega)⟩
  · subst h4
    exact Or.inr ⟨h1, h2, by omega, h5, fun j j1 j2 => h6 j j1 (by omega), h7⟩
theorem bsP_t {E : Nat → Int} {fr b s : Int} {k : Nat} (h : bsP E fr (k : Int) b s) (h0 : 0 ≤ fr) (hf : fr ≤ k) (hE : E k < s) : bsP E fr ((k + 1 : Nat) : Int) (k : Int) (E k) := by
  have hs : s ≤ 1000000 := by
    rcases h with ⟨_, h2, _⟩ | ⟨_, _, _, _, h5, _⟩ <;> omega
  have hl : ∀ j : Nat, fr ≤ (j : Int) → (j : Int) < k → s ≤ E j := by
    rcases h with ⟨_, h2, h3⟩ | ⟨_, _, _, _, _, h6, _⟩
    · intro j j1 j2
      have := h3 j j1 j2
      omega
    · exact h6
  refine Or.inr ⟨by omega, hf, by omega, by rw [Int.toNat_natCast], by omega, fun j j1 j2 => ?_, fun j j1 j2 => ?_⟩
  · by_cases q : j = k
    · subst q; omega
    · have := hl j j1 (by omega)
      omega
  · have := hl j j1 j2
    omega
theorem bsP_f {E : Nat → Int} {fr b s : Int} {k : Nat} (h : bsP E fr (k : Int) b s) (hE : s ≤ E k) : bsP E fr ((k + 1 : Nat) : Int) b s := by
  rcases h with ⟨h1, h2, h3⟩ | ⟨h1, h2, h3, h4, h5, h6, h7⟩
  · refine Or.inl ⟨h1, h2, fun j j1 j2 => ?_⟩
    by_cases q : j = k
    · subst q; omega
    · exact h3 j j1 (by omega)
  · refine Or.inr ⟨h1, h2, by omega, h4, h5, fun j j1 j2 => ?_, h7⟩
    by_cases q : j = k
    · subst q; omega
    · exact h6 j j1 (by omega)
set_option maxHeartbeats 4000000 in
set_option maxRecDepth 100000 in
theorem lp_Ru_allow (G : GT) (h : HM) (xu us : Nat) (g0 l0 m0 s0 e : Int) (nu : Nat) (U : Nat → Int) (hu : h xu = some (.inr (10, [.int (iZ g0), .int (iZ l0), .int (iZ m0), .int (iZ s0), .ref us, .int (iZ (nu : Int))]))) (hus : h us = some (.inl (G_i G, 20, .inl (iA U)))) (hnu : nu ≤ 20) (hU : ∀ k, k < nu → 0 ≤ U k ∧ U k ≤ 216000) (he : -1000000 ≤ e ∧ e ≤ 1000000) : ∀ (d : Nat) (k : Nat) (nr : Int), k + d = nu → (∀ j, j < k → U j - 2 ≠ e) → ((nr = 0 ∧ ∀ j, j < k → ¬ ((e - U j).natAbs : Int) ≤ 7) ∨ (nr = 1 ∧ ∃ j, j < k ∧ ((e - U j).natAbs : Int) ≤ 7)) → Ev G M_Ru_shotsAllow (rm 1 30) (Pu (.int (iZ (clrZ U nu e))) h) 4 [(0, .ref xu), (1, .int (iZ e)), (2, .int (iZ nr)), (3, .int (iZ (k : Int)))] [] h 0 0 := by
  intro d
  induction d using Nat.strongRecOn with
  | ind d ih =>
  intro k nr hk hb hnr
  have hn9 : nr = 0 ∨ nr = 1 := by rcases hnr with q | q; exact Or.inl q.1; exact Or.inr q.1
  refine ev_iload_n d_Ru_shotsAllow_4 rfl rfl ?_
  refine ev_aload_n d_Ru_shotsAllow_5 rfl rfl ?_
  refine ev_get d_Ru_shotsAllow_6 fl_Ru_29 hu rfl ?_
  refine ez_icmp_ge (tgt := 50) (by omega) (by omega) d_Ru_shotsAllow_9 rfl (fun c9 => ?_) (fun c9 => ?_)
  · refine ev_iload_n d_Ru_shotsAllow_50 rfl rfl ?_
    refine ez_if_ne (tgt := 58) (by omega) d_Ru_shotsAllow_51 rfl (fun c51 => ?_) (fun c51 => ?_)
    · refine ev_iconst (v := iZ 0) d_Ru_shotsAllow_58 rfl ?_
      have hcl : ¬ clr U nu e := by
        rintro (⟨j, j1, j2⟩ | w)
        · exact hb j (by omega) j2
        · rcases hnr with ⟨q1, _⟩ | ⟨_, j, j1, j2⟩
          · omega
          · exact w ⟨j, by omega, j2⟩
      exact ev_zreturn d_Ru_shotsAllow_59 rfl (Or.inl rfl) (by decide) (by decide) (⟨by rw [clrZ_0 hcl], rfl⟩)
    · refine ev_iconst (v := iZ 1) d_Ru_shotsAllow_54 rfl ?_
      refine ev_goto (tgt := 59) d_Ru_shotsAllow_55 rfl ?_
      have hcl : clr U nu e := Or.inr (by
        rintro ⟨j, j1, j2⟩
        rcases hnr with ⟨q1, q2⟩ | ⟨q1, _⟩
        · exact q2 j (by omega) j2
        · omega)
      exact ev_zreturn d_Ru_shotsAllow_59 rfl (Or.inr rfl) (by decide) (by decide) (⟨by rw [clrZ_1 hcl], rfl⟩)
  · refine ev_iload_n d_Ru_shotsAllow_12 rfl rfl ?_
    refine ev_aload_n d_Ru_shotsAllow_13 rfl rfl ?_
    refine ev_get d_Ru_shotsAllow_14 fl_Ru_24 hu rfl ?_
    refine ev_iload_n d_Ru_shotsAllow_17 rfl rfl ?_
    have ru := hU k (by omega)
    refine ez_iaload k d_Ru_shotsAllow_18 hus (by omega) (by omega) (by decide) ?_
    refine ev_iconst (v := iZ 2) d_Ru_shotsAllow_19 rfl ?_
    refine ez_isub d_Ru_shotsAllow_20 ?_
    refine ez_icmp_ne (tgt := 26) (by omega) (by omega) d_Ru_shotsAllow_21 rfl (fun c21 => ?_) (fun c21 => ?_)
    · refine ev_iload_n d_Ru_shotsAllow_26 rfl rfl ?_
      refine ev_aload_n d_Ru_shotsAllow_27 rfl rfl ?_
      refine ev_get d_Ru_shotsAllow_28 fl_Ru_24 hu rfl ?_
      refine ev_iload_n d_Ru_shotsAllow_31 rfl rfl ?_
      refine ez_iaload k d_Ru_shotsAllow_32 hus (by omega) (by omega) (by decide) ?_
      refine ez_isub d_Ru_shotsAllow_33 ?_
      refine ez_abs (by omega) d_Ru_shotsAllow_34 ml_Ru_32 ms_Math_abs in_Math co_Math_abs (by decide) (by decide) (by decide) (by decide) ?_
      refine ev_bipush (v := iZ 7) d_Ru_shotsAllow_37 rfl ?_
      refine ez_icmp_gt (tgt := 44) (by omega) (by decide) d_Ru_shotsAllow_39 rfl (fun c39 => ?_) (fun c39 => ?_)
      · refine ez_iinc (L' := [(0, .ref xu), (1, .int (iZ e)), (2, .int (iZ nr)), (3, .int (iZ ((k + 1 : Nat) : Int)))]) d_Ru_shotsAllow_44 rfl (by decide) rfl ?_
        refine ev_goto (tgt := 4) d_Ru_shotsAllow_47 rfl ?_
        have hnr2 : ((nr : Int) = 0 ∧ ∀ j, j < k + 1 → ¬ ((e - U j).natAbs : Int) ≤ 7) ∨ ((nr : Int) = 1 ∧ ∃ j, j < k + 1 ∧ ((e - U j).natAbs : Int) ≤ 7) := by
          rcases hnr with ⟨q1, q2⟩ | ⟨q1, j, q2, q3⟩
          · exact Or.inl ⟨q1, fun j hj => by rcases Nat.lt_succ_iff_lt_or_eq.mp hj with w | rfl; exact q2 j w; omega⟩
          · exact Or.inr ⟨q1, j, by omega, q3⟩
        exact ih (d - 1) (by omega) (k + 1) nr (by omega) (fun j hj => by rcases Nat.lt_succ_iff_lt_or_eq.mp hj with w | rfl; exact hb j w; omega) hnr2
      · refine ev_iconst (v := iZ 1) d_Ru_shotsAllow_42 rfl ?_
        refine ev_istore_n (L' := [(0, .ref xu), (1, .int (iZ e)), (2, .int (iZ 1)), (3, .int (iZ (k : Int)))]) d_Ru_shotsAllow_43 rfl (by decide) rfl ?_
        refine ez_iinc (L' := [(0, .ref xu), (1, .int (iZ e)), (2, .int (iZ 1)), (3, .int (iZ ((k + 1 : Nat) : Int)))]) d_Ru_shotsAllow_44 rfl (by decide) rfl ?_
        refine ev_goto (tgt := 4) d_Ru_shotsAllow_47 rfl ?_
        have hnr2 : ((1 : Int) = 0 ∧ ∀ j, j < k + 1 → ¬ ((e - U j).natAbs : Int) ≤ 7) ∨ ((1 : Int) = 1 ∧ ∃ j, j < k + 1 ∧ ((e - U j).natAbs : Int) ≤ 7) := Or.inr ⟨rfl, k, by omega, by omega⟩
        exact ih (d - 1) (by omega) (k + 1) 1 (by omega) (fun j hj => by rcases Nat.lt_succ_iff_lt_or_eq.mp hj with w | rfl; exact hb j w; omega) hnr2
    · refine ev_iconst (v := iZ 1) d_Ru_shotsAllow_24 rfl ?_
      exact ev_zreturn d_Ru_shotsAllow_25 rfl (Or.inr rfl) (by decide) (by decide) (⟨by rw [clrZ_1 (Or.inl ⟨k, by omega, by omega⟩)], rfl⟩)
set_option maxHeartbeats 4000000 in
set_option maxRecDepth 100000 in
theorem c_Ru_shotsAllow (G : GT) (h : HM) (xu us : Nat) (g0 l0 m0 s0 e : Int) (nu : Nat) (U : Nat → Int) (hu : h xu = some (.inr (10, [.int (iZ g0), .int (iZ l0), .int (iZ m0), .int (iZ s0), .ref us, .int (iZ (nu : Int))]))) (hus : h us = some (.inl (G_i G, 20, .inl (iA U)))) (hnu : nu ≤ 20) (hU : ∀ k, k < nu → 0 ≤ U k ∧ U k ≤ 216000) (he : -1000000 ≤ e ∧ e ≤ 1000000) : Rn G M_Ru_shotsAllow (rm 1 30) [.ref xu, .int (iZ e)] h (Pu (.int (iZ (clrZ U nu e))) h) := by
  refine rn_of (by decide) (Nat.le_of_ble_eq_true rfl) ?_
  show Ev G M_Ru_shotsAllow _ _ 0 [(0, .ref xu), (1, .int (iZ e))] [] _ 0 0
  refine ev_iconst (v := iZ 0) d_Ru_shotsAllow_0 rfl ?_
  refine ev_istore_n (L' := [(0, .ref xu), (1, .int (iZ e)), (2, .int (iZ 0))]) d_Ru_shotsAllow_1 rfl (by decide) rfl ?_
  refine ev_iconst (v := iZ 0) d_Ru_shotsAllow_2 rfl ?_
  refine ev_istore_n (L' := [(0, .ref xu), (1, .int (iZ e)), (2, .int (iZ 0)), (3, .int (iZ 0))]) d_Ru_shotsAllow_3 rfl (by decide) rfl ?_
  exact lp_Ru_allow G h xu us g0 l0 m0 s0 e nu U hu hus hnu hU he nu 0 0 (by omega) (fun j hj => absurd hj (by omega)) (Or.inl ⟨rfl, fun j hj => absurd hj (by omega)⟩)
set_option maxHeartbeats 4000000 in
set_option maxRecDepth 100000 in
theorem c_Ru_shortest (G : GT) (h : HM) (xu us xf nu : Nat) (g0 l0 m0 s0 num den tk c : Int) (hu : h xu = some (.inr (10, [.int (iZ g0), .int (iZ l0), .int (iZ m0), .int (iZ s0), .ref us, .int (iZ (nu : Int))]))) (hf : h xf = some (.inr (5, [.int (iZ num), .int (iZ den), .long (lZ tk)]))) (hc : 0 ≤ c ∧ c ≤ 128) (hl : 1 ≤ l0 ∧ l0 ≤ 100) (hs : 1 ≤ s0 ∧ s0 ≤ 60) (hnum : 1 ≤ num ∧ num ≤ 120000) (hden : 1 ≤ den ∧ den ≤ 1001) : Rn G M_Ru_shortest (rm 1 30) [.ref xu, .int (iZ c), .ref xf] h (Pu (.int (iZ (shZ l0 num den s0 c))) h) := by
  refine rn_of (by decide) (Nat.le_of_ble_eq_true rfl) ?_
  show Ev G M_Ru_shortest _ _ 0 [(0, .ref xu), (1, .int (iZ c)), (2, .ref xf)] [] _ 0 0
  have b1 := mulB (x := c) (y := num) (L := 128) (M := 120000) (by omega) (by omega) (by omega) (by omega)
  have b2 := mulB (x := s0) (y := den) (L := 60) (M := 1001) (by omega) (by omega) (by omega) (by omega)
  have b3 := Int.mul_nonneg hc.1 (show 0 ≤ num by omega)
  have b4 : 1 ≤ s0 * den := Int.mul_pos (show 0 < s0 by omega) (show 0 < den by omega)
  have b5 := Int.ediv_nonneg (show 0 ≤ c * num + s0 * den - 1 by omega) (show 0 ≤ s0 * den by omega)
  have b6 := Int.ediv_le_self (s0 * den) (show 0 ≤ c * num + s0 * den - 1 by omega)
  refine ev_iload_n d_Ru_shortest_0 rfl rfl ?_
  refine ev_aload_n d_Ru_shortest_1 rfl rfl ?_
  refine ev_get d_Ru_shortest_2 fl_Ru_38 hf rfl ?_
  refine ez_imul d_Ru_shortest_5 ?_
  refine ev_istore_n (L' := [(0, .ref xu), (1, .int (iZ c)), (2, .ref xf), (3, .int (iZ (c * num)))]) d_Ru_shortest_6 rfl (by decide) rfl ?_
  refine ev_aload_n d_Ru_shortest_7 rfl rfl ?_
  refine ev_get d_Ru_shortest_8 fl_Ru_21 hu rfl ?_
  refine ev_aload_n d_Ru_shortest_11 rfl rfl ?_
  refine ev_get d_Ru_shortest_12 fl_Ru_43 hf rfl ?_
  refine ez_imul d_Ru_shortest_15 ?_
  refine ev_istore (L' := [(0, .ref xu), (1, .int (iZ c)), (2, .ref xf), (3, .int (iZ (c * num))), (4, .int (iZ (s0 * den)))]) d_Ru_shortest_16 (by decide) rfl ?_
  refine ev_aload_n d_Ru_shortest_18 rfl rfl ?_
  refine ev_get d_Ru_shortest_19 fl_Ru_15 hu rfl ?_
  refine ev_iload_n d_Ru_shortest_22 rfl rfl ?_
  refine ev_iload d_Ru_shortest_23 rfl ?_
  refine ez_iadd d_Ru_shortest_25 ?_
  refine ev_iconst (v := iZ 1) d_Ru_shortest_26 rfl ?_
  refine ez_isub d_Ru_shortest_27 ?_
  refine ev_iload d_Ru_shortest_28 rfl ?_
  refine ez_idiv (by omega) (by omega) (by omega) (by omega) d_Ru_shortest_30 ?_
  refine ez_max (by omega) (by omega) d_Ru_shortest_31 ml_Ru_46 ms_Math_max in_Math co_Math_max (by decide) (by decide) (by decide) (by decide) ?_
  exact ev_ireturn d_Ru_shortest_34 rfl (by decide) (by decide) (⟨rfl, rfl⟩)
set_option maxHeartbeats 4000000 in
set_option maxRecDepth 100000 in
theorem c_Rp_endAllowed (G : GT) (h : HM) (xr xo xf xu a0 a1 a2 a3 a4 a5 a6 : Nat) (us nu : Nat) (U : Nat → Int) (g0 l0 m0 s0 num den tk : Int) (e : Int) (hrp : h xr = some (.inr (9, [.ref xo, .ref xf, .ref xu, .ref a0, .ref a1, .ref a2, .ref a3, .ref a4, .ref a5, .ref a6]))) (hf : h xf = some (.inr (5, [.int (iZ num), .int (iZ den), .long (lZ tk)]))) (hu : h xu = some (.inr (10, [.int (iZ g0), .int (iZ l0), .int (iZ m0), .int (iZ s0), .ref us, .int (iZ (nu : Int))]))) (hus : h us = some (.inl (G_i G, 20, .inl (iA U)))) (hnu : nu ≤ 20) (hU : ∀ k, k < nu → 0 ≤ U k ∧ U k ≤ 216000) (htk : 11760000 ≤ tk ∧ tk ≤ 705600000) (he : -1000000 ≤ e ∧ e ≤ 1000000) : Rn G M_Rp_endAllowed (rm 2 60) [.ref xr, .int (iZ e)] h (Pu (.int (iZ (ekZ tk U nu e))) h) := by
  refine rn_of (by decide) (Nat.le_of_ble_eq_true rfl) ?_
  show Ev G M_Rp_endAllowed _ _ 0 [(0, .ref xr), (1, .int (iZ e))] [] _ 0 0
  refine ev_aload_n d_Rp_endAllowed_0 rfl rfl ?_
  refine ev_get d_Rp_endAllowed_1 fl_Rp_37 hrp rfl ?_
  refine ev_iload_n d_Rp_endAllowed_4 rfl rfl ?_
  have hh := holdZ_r tk e
  have hmu := mulB (x := e) (y := tk) (L := 1000000) (M := 705600000) (by omega) (by omega) (by omega) (by omega)
  refine ev_pV M_Fr_holds 0 0 (As := [.int (iZ e)]) (c_Fr_holds G h xf num den tk e hf (by omega) (by omega)) d_Rp_endAllowed_5 mk_Fr_holds ml_Rp_101 mv_Fr_holds hf rfl rfl rfl (Nat.le_of_ble_eq_true rfl) ⟨by decide, by decide⟩ ⟨by decide, by decide⟩ ?_
  refine ez_if_eq (tgt := 26) (by omega) d_Rp_endAllowed_8 rfl (fun c8 => ?_) (fun c8 => ?_)
  · refine ev_iconst (v := iZ 0) d_Rp_endAllowed_26 rfl ?_
    have e9 : ekZ tk U nu e = 0 := by
      unfold ekZ
      split <;> omega
    exact ev_zreturn d_Rp_endAllowed_27 rfl (Or.inl rfl) (by decide) (by decide) (⟨by rw [e9], rfl⟩)
  · refine ev_aload_n d_Rp_endAllowed_11 rfl rfl ?_
    refine ev_get d_Rp_endAllowed_12 fl_Rp_41 hrp rfl ?_
    refine ev_iload_n d_Rp_endAllowed_15 rfl rfl ?_
    have hc9 := clrZ_r U nu e
    refine ev_pV M_Ru_shotsAllow 1 30 (As := [.int (iZ e)]) (c_Ru_shotsAllow G h xu us g0 l0 m0 s0 e nu U hu hus hnu hU he) d_Rp_endAllowed_16 mk_Ru_shotsAllow ml_Rp_104 mv_Ru_shotsAllow hu rfl rfl rfl (Nat.le_of_ble_eq_true rfl) ⟨by decide, by decide⟩ ⟨by decide, by decide⟩ ?_
    refine ez_if_eq (tgt := 26) (by omega) d_Rp_endAllowed_19 rfl (fun c19 => ?_) (fun c19 => ?_)
    · refine ev_iconst (v := iZ 0) d_Rp_endAllowed_26 rfl ?_
      have e9 : ekZ tk U nu e = 0 := by
        unfold ekZ
        split <;> omega
      exact ev_zreturn d_Rp_endAllowed_27 rfl (Or.inl rfl) (by decide) (by decide) (⟨by rw [e9], rfl⟩)
    · refine ev_iconst (v := iZ 1) d_Rp_endAllowed_22 rfl ?_
      refine ev_goto (tgt := 27) d_Rp_endAllowed_23 rfl ?_
      exact ev_zreturn d_Rp_endAllowed_27 rfl (Or.inr rfl) (by decide) (by decide) (⟨by rw [show ekZ tk U nu e = 1 from (if_pos (by omega)).trans (by omega)], rfl⟩)
set_option maxHeartbeats 4000000 in
set_option maxRecDepth 100000 in
theorem c_Rp_placeOfStart (G : GT) (h : HM) (xr xo xf xu a0 a1 a2 a3 a4 a5 a6 : Nat) (i : Nat) (fl : Int) (fs : Nat → Int) (hrp : h xr = some (.inr (9, [.ref xo, .ref xf, .ref xu, .ref a0, .ref a1, .ref a2, .ref a3, .ref a4, .ref a5, .ref a6]))) (ha0 : h a0 = some (.inl (G_i G, 16, .inl (iA fs)))) (hi : i < 16) (hfs : ∀ k, -100 ≤ fs k ∧ fs k ≤ 300000) (hfl : -1000000 ≤ fl ∧ fl ≤ 1000000) : Rn G M_Rp_placeOfStart (rm 1 30) [.ref xr, .int (iZ (i : Int)), .int (iZ fl)] h (Pu (.int (iZ (cPl fs i fl))) h) := by
  refine rn_of (by decide) (Nat.le_of_ble_eq_true rfl) ?_
  show Ev G M_Rp_placeOfStart _ _ 0 [(0, .ref xr), (1, .int (iZ (i : Int))), (2, .int (iZ fl))] [] _ 0 0
  refine ev_iconst (v := iZ 0) d_Rp_placeOfStart_0 rfl ?_
  refine ev_iload_n d_Rp_placeOfStart_1 rfl rfl ?_
  refine ev_aload_n d_Rp_placeOfStart_2 rfl rfl ?_
  refine ev_get d_Rp_placeOfStart_3 fl_Rp_9 hrp rfl ?_
  refine ev_iload_n d_Rp_placeOfStart_6 rfl rfl ?_
  refine ez_iaload i d_Rp_placeOfStart_7 ha0 (by omega) (by omega) (by decide) ?_
  have rg7 := hfs i
  refine ez_isub d_Rp_placeOfStart_8 ?_
  refine ez_max (by decide) (by omega) d_Rp_placeOfStart_9 ml_Rp_113 ms_Math_max in_Math co_Math_max (by decide) (by decide) (by decide) (by decide) ?_
  exact ev_ireturn d_Rp_placeOfStart_12 rfl (by decide) (by decide) (⟨rfl, rfl⟩)
theorem cPl_r {fs : Nat → Int} {i : Nat} {fl : Int} (h : ∀ k, -100 ≤ fs k ∧ fs k ≤ 300000) (hf : -1000000 ≤ fl ∧ fl ≤ 1000000) : 0 ≤ cPl fs i fl ∧ cPl fs i fl ≤ 1000100 := by
  have := h i
  unfold cPl
  omega
set_option maxHeartbeats 4000000 in
set_option maxRecDepth 100000 in
theorem c_Rp_leastFrom (G : GT) (h : HM) (xr xo xf xu a0 a1 a2 a3 a4 a5 a6 : Nat) (o1 o2 o3 o4 n i : Nat) (fl : Int) (fs A : Nat → Int) (hrp : h xr = some (.inr (9, [.ref xo, .ref xf, .ref xu, .ref a0, .ref a1, .ref a2, .ref a3, .ref a4, .ref a5, .ref a6]))) (ho : h xo = some (.inr (2, [.ref o1, .ref o2, .ref o3, .ref o4, .int (iZ (n : Int))]))) (ha0 : h a0 = some (.inl (G_i G, 16, .inl (iA fs)))) (ha6 : h a6 = some (.inl (G_i G, 400, .inl (iA A)))) (hn : n ≤ 16) (hi : i ≤ 16) (hfs : ∀ k, -100 ≤ fs k ∧ fs k ≤ 300000) (hA : ∀ k, 0 ≤ A k ∧ A k ≤ 1000000) (hfl : -1000000 ≤ fl ∧ fl ≤ 1000000) : Rn G M_Rp_leastFrom (rm 2 60) [.ref xr, .int (iZ (i : Int)), .int (iZ fl)] h (Pu (.int (iZ (cLF n fs A i fl))) h) := by
  refine rn_of (by decide) (Nat.le_of_ble_eq_true rfl) ?_
  show Ev G M_Rp_leastFrom _ _ 0 [(0, .ref xr), (1, .int (iZ (i : Int))), (2, .int (iZ fl))] [] _ 0 0
  refine ev_iload_n d_Rp_leastFrom_0 rfl rfl ?_
  refine ev_aload_n d_Rp_leastFrom_1 rfl rfl ?_
  refine ev_get d_Rp_leastFrom_2 fl_Rp_33 hrp rfl ?_
  refine ev_get d_Rp_leastFrom_5 fl_Rp_45 ho rfl ?_
  refine ez_icmp_lt (tgt := 13) (by omega) (by omega) d_Rp_leastFrom_8 rfl (fun c8 => ?_) (fun c8 => ?_)
  · refine ev_aload_n d_Rp_leastFrom_13 rfl rfl ?_
    refine ev_iload_n d_Rp_leastFrom_14 rfl rfl ?_
    refine ev_iload_n d_Rp_leastFrom_15 rfl rfl ?_
    have pr16 := cPl_r (i := i) (fl := fl) hfs (by omega)
    refine ev_pV M_Rp_placeOfStart 1 30 (As := [.int (iZ (i : Int)), .int (iZ fl)]) (c_Rp_placeOfStart G h xr xo xf xu a0 a1 a2 a3 a4 a5 a6 (i) (fl) fs hrp ha0 (by omega) hfs (by omega)) d_Rp_leastFrom_16 mk_Rp_placeOfStart ml_Rp_119 mv_Rp_placeOfStart hrp rfl rfl rfl (Nat.le_of_ble_eq_true rfl) ⟨by decide, by decide⟩ ⟨by decide, by decide⟩ ?_
    refine ev_istore_n (L' := [(0, .ref xr), (1, .int (iZ (i : Int))), (2, .int (iZ fl)), (3, .int (iZ (cPl fs (i) (fl))))]) d_Rp_leastFrom_19 rfl (by decide) rfl ?_
    refine ev_iload_n d_Rp_leastFrom_20 rfl rfl ?_
    refine ev_bipush (v := iZ 25) d_Rp_leastFrom_21 rfl ?_
    refine ez_icmp_ge (tgt := 40) (by omega) (by decide) d_Rp_leastFrom_23 rfl (fun c23 => ?_) (fun c23 => ?_)
    · refine ev_ldc (v := iZ 1000000) d_Rp_leastFrom_40 kc_Rp_100 ?_
      exact ev_ireturn d_Rp_leastFrom_42 rfl (by decide) (by decide) (⟨by rw [show cLF n fs A i fl = 1000000 from (if_neg (by omega)).trans (if_neg (by omega))], rfl⟩)
    · refine ev_aload_n d_Rp_leastFrom_26 rfl rfl ?_
      refine ev_get d_Rp_leastFrom_27 fl_Rp_30 hrp rfl ?_
      refine ev_iload_n d_Rp_leastFrom_30 rfl rfl ?_
      refine ev_bipush (v := iZ 25) d_Rp_leastFrom_31 rfl ?_
      refine ez_imul d_Rp_leastFrom_33 ?_
      refine ev_iload_n d_Rp_leastFrom_34 rfl rfl ?_
      refine ez_iadd d_Rp_leastFrom_35 ?_
      refine ez_iaload (i * 25 + (cPl fs (i) (fl)).toNat) d_Rp_leastFrom_36 ha6 (by omega) (by omega) (by decide) ?_
      have rg36 := hA (i * 25 + (cPl fs (i) (fl)).toNat)
      refine ev_goto (tgt := 42) d_Rp_leastFrom_37 rfl ?_
      exact ev_ireturn d_Rp_leastFrom_42 rfl (by decide) (by decide) (⟨by rw [show cLF n fs A i fl = A (i * 25 + (cPl fs (i) (fl)).toNat) from (if_neg (by omega)).trans (if_pos (by omega))], rfl⟩)
  · refine ev_iconst (v := iZ 0) d_Rp_leastFrom_11 rfl ?_
    exact ev_ireturn d_Rp_leastFrom_12 rfl (by decide) (by decide) (⟨by rw [show cLF n fs A i fl = 0 from if_pos (by omega)], rfl⟩)
set_option maxHeartbeats 4000000 in
set_option maxRecDepth 100000 in
theorem lp_Rp_ends (G : GT) (h0 : HM) (xr xo xf xu a0 a1 a2 a3 a4 a5 a6 : Nat) (o1 o2 o3 o4 n i : Nat) (us nu : Nat) (U : Nat → Int) (g0 l0 m0 s0 num den tk : Int) (fs fe ES A : Nat → Int) (hn : n ≤ 16) (hi : i < n) (hnu : nu ≤ 20) (hU : ∀ k, k < nu → 0 ≤ U k ∧ U k ≤ 216000) (htk : 11760000 ≤ tk ∧ tk ≤ 705600000) (hg : 0 ≤ g0 ∧ g0 ≤ 20) (hfs : ∀ k, -100 ≤ fs k ∧ fs k ≤ 300000) (hfe : ∀ k, -100 ≤ fe k ∧ fe k ≤ 300000) (hA : ∀ k, 0 ≤ A k ∧ A k ≤ 1000000) (hES : ∀ k, 0 ≤ ES k ∧ ES k ≤ 2000000) : ∀ (d : Nat) (k : Nat) (h : HM), k + d = 97 → h xr = some (.inr (9, [.ref xo, .ref xf, .ref xu, .ref a0, .ref a1, .ref a2, .ref a3, .ref a4, .ref a5, .ref a6])) → h xo = some (.inr (2, [.ref o1, .ref o2, .ref o3, .ref o4, .int (iZ (n : Int))])) → h xf = some (.inr (5, [.int (iZ num), .int (iZ den), .long (lZ tk)])) → h xu = some (.inr (10, [.int (iZ g0), .int (iZ l0), .int (iZ m0), .int (iZ s0), .ref us, .int (iZ (nu : Int))])) → h us = some (.inl (G_i G, 20, .inl (iA U))) → h a0 = some (.inl (G_i G, 16, .inl (iA fs))) → h a1 = some (.inl (G_i G, 16, .inl (iA fe))) → h a3 = some (.inl (G_i G, 97, .inl (iA (upto (cES (ekZ tk U nu) fe g0 (cLF n fs A (i + 1)) i) ES k)))) → h a6 = some (.inl (G_i G, 400, .inl (iA A))) → Fm [a3] h0 h → Ev G M_Rp_weighEnds (rm 3 90) (fun r h' => r = none ∧ h' a3 = some (.inl (G_i G, 97, .inl (iA (upto (cES (ekZ tk U nu) fe g0 (cLF n fs A (i + 1)) i) ES 97)))) ∧ Fm [a3] h0 h') 2 [(0, .ref xr), (1, .int (iZ (i : Int))), (2, .int (iZ (k : Int)))] [] h 0 0 := by
  intro d
  induction d using Nat.strongRecOn with
  | ind d ih =>
  intro k h hd hrp ho hf hu hus ha0 ha1 ha3 ha6 fm
  refine ev_iload_n d_Rp_weighEnds_2 rfl rfl ?_
  refine ev_bipush (v := iZ 97) d_Rp_weighEnds_3 rfl ?_
  refine ez_icmp_ge (tgt := 66) (by omega) (by decide) d_Rp_weighEnds_5 rfl (fun c5 => ?_) (fun c5 => ?_)
  · exact ev_return d_Rp_weighEnds_66 rfl (by decide) (by decide) (⟨rfl, by rw [show k = 97 from by omega] at ha3; exact ha3, fm⟩)
  · refine ev_aload_n d_Rp_weighEnds_8 rfl rfl ?_
    refine ev_get d_Rp_weighEnds_9 fl_Rp_15 hrp rfl ?_
    refine ev_iload_n d_Rp_weighEnds_12 rfl rfl ?_
    refine ez_iaload i d_Rp_weighEnds_13 ha1 (by omega) (by omega) (by decide) ?_
    have rg13 := hfe i
    refine ev_iload_n d_Rp_weighEnds_14 rfl rfl ?_
    refine ez_iadd d_Rp_weighEnds_15 ?_
    refine ev_istore_n (L' := [(0, .ref xr), (1, .int (iZ (i : Int))), (2, .int (iZ (k : Int))), (3, .int (iZ ((fe i) + (k : Int))))]) d_Rp_weighEnds_16 rfl (by decide) rfl ?_
    refine ev_aload_n d_Rp_weighEnds_17 rfl rfl ?_
    refine ev_get d_Rp_weighEnds_18 fl_Rp_21 hrp rfl ?_
    refine ev_iload_n d_Rp_weighEnds_21 rfl rfl ?_
    refine ev_aload_n d_Rp_weighEnds_22 rfl rfl ?_
    refine ev_iload_n d_Rp_weighEnds_23 rfl rfl ?_
    have he9 := ekZ_r tk U nu ((fe i) + (k : Int))
    refine ev_pV M_Rp_endAllowed 2 60 (As := [.int (iZ ((fe i) + (k : Int)))]) (c_Rp_endAllowed G h xr xo xf xu a0 a1 a2 a3 a4 a5 a6 us nu U g0 l0 m0 s0 num den tk ((fe i) + (k : Int)) hrp hf hu hus hnu hU htk (by omega)) d_Rp_weighEnds_24 mk_Rp_endAllowed ml_Rp_87 mv_Rp_endAllowed hrp rfl rfl rfl (Nat.le_of_ble_eq_true rfl) ⟨by decide, by decide⟩ ⟨by decide, by decide⟩ ?_
    refine ez_if_eq (tgt := 57) (by omega) d_Rp_weighEnds_27 rfl (fun c27 => ?_) (fun c27 => ?_)
    · refine ev_ldc (v := iZ 1000000) d_Rp_weighEnds_57 kc_Rp_100 ?_
      skip
      refine ez_iastore (F' := zup (upto (cES (ekZ tk U nu) fe g0 (cLF n fs A (i + 1)) i) ES k) k 1000000) k d_Rp_weighEnds_59 ha3 (by omega) (by omega) (by decide) rfl (fun h1 h1a h1o => ?_)
      have hrp := (h1o _ (cne hrp ha3 (by simp))).trans hrp
      have ho := (h1o _ (cne ho ha3 (by simp))).trans ho
      have hf := (h1o _ (cne hf ha3 (by simp))).trans hf
      have hu := (h1o _ (cne hu ha3 (by simp))).trans hu
      have hus := (h1o _ (cne hus ha3 (by simp))).trans hus
      have ha0 := (h1o _ (cne ha0 ha3 (by simp))).trans ha0
      have ha1 := (h1o _ (cne ha1 ha3 (by simp))).trans ha1
      have ha6 := (h1o _ (cne ha6 ha3 (by simp))).trans ha6
      have ha3 := h1a
      have fm := fm.step (by simp) h1o
      refine ez_iinc (L' := [(0, .ref xr), (1, .int (iZ (i : Int))), (2, .int (iZ ((k + 1 : Nat) : Int))), (3, .int (iZ ((fe i) + (k : Int))))]) d_Rp_weighEnds_60 rfl (by decide) rfl ?_
      refine ev_goto (tgt := 2) d_Rp_weighEnds_63 rfl ?_
      refine ev_loc [(0, .ref xr), (1, .int (iZ (i : Int))), (2, .int (iZ ((k + 1 : Nat) : Int)))] (by simp) ?_
      exact ih (d - 1) (by omega) (k + 1) h1 (by omega) hrp ho hf hu hus ha0 ha1 (by rw [← upto_s, show (cES (ekZ tk U nu) fe g0 (cLF n fs A (i + 1)) i) k = 1000000 from if_neg (fun w => w c27)]; exact ha3) ha6 fm
    · refine ev_iload_n d_Rp_weighEnds_30 rfl rfl ?_
      refine ev_bipush (v := iZ 48) d_Rp_weighEnds_31 rfl ?_
      refine ez_isub d_Rp_weighEnds_33 ?_
      refine ez_abs (by omega) d_Rp_weighEnds_34 ml_Rp_91 ms_Math_abs in_Math co_Math_abs (by decide) (Nat.le_of_ble_eq_true rfl) (by decide) (by decide) ?_
      refine ev_aload_n d_Rp_weighEnds_37 rfl rfl ?_
      refine ev_iload_n d_Rp_weighEnds_38 rfl rfl ?_
      refine ev_iconst (v := iZ 1) d_Rp_weighEnds_39 rfl ?_
      refine ez_iadd d_Rp_weighEnds_40 ?_
      rw [show ((i : Int) + 1 : Int) = ((i + 1 : Nat) : Int) from by omega]
      refine ev_iload_n d_Rp_weighEnds_41 rfl rfl ?_
      refine ev_aload_n d_Rp_weighEnds_42 rfl rfl ?_
      refine ev_get d_Rp_weighEnds_43 fl_Rp_41 hrp rfl ?_
      refine ev_get d_Rp_weighEnds_46 fl_Rp_97 hu rfl ?_
      refine ez_iadd d_Rp_weighEnds_49 ?_
      have lr50 := cLF_r (N := n) (fs := fs) (i := (i + 1)) (fl := ((fe i) + (k : Int)) + g0) hA
      refine ev_pV M_Rp_leastFrom 2 60 (As := [.int (iZ ((i + 1 : Nat) : Int)), .int (iZ (((fe i) + (k : Int)) + g0))]) (c_Rp_leastFrom G h xr xo xf xu a0 a1 a2 a3 a4 a5 a6 o1 o2 o3 o4 n ((i + 1)) (((fe i) + (k : Int)) + g0) fs A hrp ho ha0 ha6 hn (by omega) hfs hA (by omega)) d_Rp_weighEnds_50 mk_Rp_leastFrom ml_Rp_83 mv_Rp_leastFrom hrp rfl rfl rfl (Nat.le_of_ble_eq_true rfl) ⟨by decide, by decide⟩ ⟨by decide, by decide⟩ ?_
      refine ez_iadd d_Rp_weighEnds_53 ?_
      refine ev_goto (tgt := 59) d_Rp_weighEnds_54 rfl ?_
      skip
      refine ez_iastore (F' := zup (upto (cES (ekZ tk U nu) fe g0 (cLF n fs A (i + 1)) i) ES k) k ((((k : Int) - 48).natAbs : Int) + (cLF n fs A ((i + 1)) (((fe i) + (k : Int)) + g0)))) k d_Rp_weighEnds_59 ha3 (by omega) (by omega) (by decide) rfl (fun h2 h2a h2o => ?_)
      have hrp := (h2o _ (cne hrp ha3 (by simp))).trans hrp
      have ho := (h2o _ (cne ho ha3 (by simp))).trans ho
      have hf := (h2o _ (cne hf ha3 (by simp))).trans hf
      have hu := (h2o _ (cne hu ha3 (by simp))).trans hu
      have hus := (h2o _ (cne hus ha3 (by simp))).trans hus
      have ha0 := (h2o _ (cne ha0 ha3 (by simp))).trans ha0
      have ha1 := (h2o _ (cne ha1 ha3 (by simp))).trans ha1
      have ha6 := (h2o _ (cne ha6 ha3 (by simp))).trans ha6
      have ha3 := h2a
      have fm := fm.step (by simp) h2o
      refine ez_iinc (L' := [(0, .ref xr), (1, .int (iZ (i : Int))), (2, .int (iZ ((k + 1 : Nat) : Int))), (3, .int (iZ ((fe i) + (k : Int))))]) d_Rp_weighEnds_60 rfl (by decide) rfl ?_
      refine ev_goto (tgt := 2) d_Rp_weighEnds_63 rfl ?_
      refine ev_loc [(0, .ref xr), (1, .int (iZ (i : Int))), (2, .int (iZ ((k + 1 : Nat) : Int)))] (by simp) ?_
      exact ih (d - 1) (by omega) (k + 1) h2 (by omega) hrp ho hf hu hus ha0 ha1 (by rw [← upto_s, show (cES (ekZ tk U nu) fe g0 (cLF n fs A (i + 1)) i) k = (((k : Int) - 48).natAbs : Int) + (cLF n fs A ((i + 1)) (((fe i) + (k : Int)) + g0)) from if_pos c27]; exact ha3) ha6 fm
set_option maxHeartbeats 4000000 in
set_option maxRecDepth 100000 in
theorem c_Rp_weighEnds (G : GT) (h : HM) (xr xo xf xu a0 a1 a2 a3 a4 a5 a6 : Nat) (o1 o2 o3 o4 n i : Nat) (us nu : Nat) (U : Nat → Int) (g0 l0 m0 s0 num den tk : Int) (fs fe ES A : Nat → Int) (hrp : h xr = some (.inr (9, [.ref xo, .ref xf, .ref xu, .ref a0, .ref a1, .ref a2, .ref a3, .ref a4, .ref a5, .ref a6]))) (ho : h xo = some (.inr (2, [.ref o1, .ref o2, .ref o3, .ref o4, .int (iZ (n : Int))]))) (hf : h xf = some (.inr (5, [.int (iZ num), .int (iZ den), .long (lZ tk)]))) (hu : h xu = some (.inr (10, [.int (iZ g0), .int (iZ l0), .int (iZ m0), .int (iZ s0), .ref us, .int (iZ (nu : Int))]))) (hus : h us = some (.inl (G_i G, 20, .inl (iA U)))) (ha0 : h a0 = some (.inl (G_i G, 16, .inl (iA fs)))) (ha1 : h a1 = some (.inl (G_i G, 16, .inl (iA fe)))) (ha3 : h a3 = some (.inl (G_i G, 97, .inl (iA ES)))) (ha6 : h a6 = some (.inl (G_i G, 400, .inl (iA A)))) (hn : n ≤ 16) (hi : i < n) (hnu : nu ≤ 20) (hU : ∀ k, k < nu → 0 ≤ U k ∧ U k ≤ 216000) (htk : 11760000 ≤ tk ∧ tk ≤ 705600000) (hg : 0 ≤ g0 ∧ g0 ≤ 20) (hfs : ∀ k, -100 ≤ fs k ∧ fs k ≤ 300000) (hfe : ∀ k, -100 ≤ fe k ∧ fe k ≤ 300000) (hA : ∀ k, 0 ≤ A k ∧ A k ≤ 1000000) (hES : ∀ k, 0 ≤ ES k ∧ ES k ≤ 2000000) : Rn G M_Rp_weighEnds (rm 3 90) [.ref xr, .int (iZ (i : Int))] h (fun r h' => r = none ∧ h' a3 = some (.inl (G_i G, 97, .inl (iA (upto (cES (ekZ tk U nu) fe g0 (cLF n fs A (i + 1)) i) ES 97)))) ∧ Fm [a3] h h') := by
  refine rn_of (by decide) (Nat.le_of_ble_eq_true rfl) ?_
  show Ev G M_Rp_weighEnds _ _ 0 [(0, .ref xr), (1, .int (iZ (i : Int)))] [] _ 0 0
  refine ev_iconst (v := iZ 0) d_Rp_weighEnds_0 rfl ?_
  refine ev_istore_n (L' := [(0, .ref xr), (1, .int (iZ (i : Int))), (2, .int (iZ 0))]) d_Rp_weighEnds_1 rfl (by decide) rfl ?_
  exact lp_Rp_ends G h xr xo xf xu a0 a1 a2 a3 a4 a5 a6 o1 o2 o3 o4 n i us nu U g0 l0 m0 s0 num den tk fs fe ES A hn hi hnu hU htk hg hfs hfe hA hES 97 0 h (by omega) hrp ho hf hu hus ha0 ha1 (by rw [upto_0]; exact ha3) ha6 Fm.rf
set_option maxHeartbeats 4000000 in
set_option maxRecDepth 100000 in
theorem lp_Rp_best (G : GT) (h : HM) (xr xo xf xu a0 a1 a2 a3 a4 a5 a6 : Nat) (us nu i : Nat) (g0 l0 m0 s0 st : Int) (fe sh ES : Nat → Int) (hrp : h xr = some (.inr (9, [.ref xo, .ref xf, .ref xu, .ref a0, .ref a1, .ref a2, .ref a3, .ref a4, .ref a5, .ref a6]))) (hu : h xu = some (.inr (10, [.int (iZ g0), .int (iZ l0), .int (iZ m0), .int (iZ s0), .ref us, .int (iZ (nu : Int))]))) (ha1 : h a1 = some (.inl (G_i G, 16, .inl (iA fe)))) (ha2 : h a2 = some (.inl (G_i G, 16, .inl (iA sh)))) (ha3 : h a3 = some (.inl (G_i G, 97, .inl (iA ES)))) (hi : i < 16) (hm0 : 0 ≤ m0 ∧ m0 ≤ 400) (hfe : ∀ k, -100 ≤ fe k ∧ fe k ≤ 300000) (hsh : ∀ k, 0 ≤ sh k ∧ sh k ≤ 20000000) (hES : ∀ k, 0 ≤ ES k ∧ ES k ≤ 2000000) (fr to : Int) (hfr : 0 ≤ fr ∧ fr ≤ 30000000) (hto : -3000000 ≤ to ∧ to ≤ 96) : ∀ (d : Nat) (k : Nat) (b s : Int), (k : Int) + d = max fr (to + 1) → fr ≤ k → bsP ES fr (k : Int) b s → Ev G M_Rp_bestEnd (rm 1 40) (fun r h' => ∃ b : Int, r = some (.int (iZ b)) ∧ h' = h ∧ cBest ES (fr) (to) b) 53 [(0, .ref xr), (1, .int (iZ (i : Int))), (2, .int (iZ st)), (3, .int (iZ fr)), (4, .int (iZ to)), (5, .int (iZ b)), (6, .int (iZ s)), (7, .int (iZ (k : Int)))] [] h 0 0 := by
  intro d
  induction d using Nat.strongRecOn with
  | ind d ih =>
  intro k b s hd hfk hb
  have hbr : -1 ≤ b ∧ b < k + 1 ∧ 0 ≤ s ∧ s ≤ 1000000 := by
      rcases hb with ⟨h1, h2, _⟩ | ⟨h1, h2, h3, h4, h5, _⟩
      · omega
      · have := hES b.toNat
        omega
  refine ev_iload d_Rp_bestEnd_53 rfl ?_
  refine ev_iload d_Rp_bestEnd_55 rfl ?_
  refine ez_icmp_gt (tgt := 91) (by omega) (by omega) d_Rp_bestEnd_57 rfl (fun c57 => ?_) (fun c57 => ?_)
  · refine ev_iload d_Rp_bestEnd_91 rfl ?_
    exact ev_ireturn d_Rp_bestEnd_93 rfl (by decide) (by decide) (⟨b, rfl, rfl, bsP_e hb (by omega) (by omega)⟩)
  · refine ev_aload_n d_Rp_bestEnd_60 rfl rfl ?_
    refine ev_get d_Rp_bestEnd_61 fl_Rp_21 hrp rfl ?_
    refine ev_iload d_Rp_bestEnd_64 rfl ?_
    refine ez_iaload k d_Rp_bestEnd_66 ha3 (by omega) (by omega) (by decide) ?_
    have rg66 := hES k
    refine ev_iload d_Rp_bestEnd_67 rfl ?_
    refine ez_icmp_ge (tgt := 85) (by omega) (by omega) d_Rp_bestEnd_69 rfl (fun c69 => ?_) (fun c69 => ?_)
    · refine ez_iinc (L' := [(0, .ref xr), (1, .int (iZ (i : Int))), (2, .int (iZ st)), (3, .int (iZ fr)), (4, .int (iZ to)), (5, .int (iZ b)), (6, .int (iZ s)), (7, .int (iZ ((k + 1 : Nat) : Int)))]) d_Rp_bestEnd_85 rfl (by decide) rfl ?_
      refine ev_goto (tgt := 53) d_Rp_bestEnd_88 rfl ?_
      exact ih (d - 1) (by omega) (k + 1) b (s) (by omega) (by omega) (bsP_f hb (by omega))
    · refine ev_aload_n d_Rp_bestEnd_72 rfl rfl ?_
      refine ev_get d_Rp_bestEnd_73 fl_Rp_21 hrp rfl ?_
      refine ev_iload d_Rp_bestEnd_76 rfl ?_
      refine ez_iaload k d_Rp_bestEnd_78 ha3 (by omega) (by omega) (by decide) ?_
      have rg78 := hES k
      refine ev_istore (L' := [(0, .ref xr), (1, .int (iZ (i : Int))), (2, .int (iZ st)), (3, .int (iZ fr)), (4, .int (iZ to)), (5, .int (iZ b)), (6, .int (iZ (ES k))), (7, .int (iZ (k : Int)))]) d_Rp_bestEnd_79 (by decide) rfl ?_
      refine ev_iload d_Rp_bestEnd_81 rfl ?_
      refine ev_istore (L' := [(0, .ref xr), (1, .int (iZ (i : Int))), (2, .int (iZ st)), (3, .int (iZ fr)), (4, .int (iZ to)), (5, .int (iZ (k : Int))), (6, .int (iZ (ES k))), (7, .int (iZ (k : Int)))]) d_Rp_bestEnd_83 (by decide) rfl ?_
      refine ez_iinc (L' := [(0, .ref xr), (1, .int (iZ (i : Int))), (2, .int (iZ st)), (3, .int (iZ fr)), (4, .int (iZ to)), (5, .int (iZ (k : Int))), (6, .int (iZ (ES k))), (7, .int (iZ ((k + 1 : Nat) : Int)))]) d_Rp_bestEnd_85 rfl (by decide) rfl ?_
      refine ev_goto (tgt := 53) d_Rp_bestEnd_88 rfl ?_
      exact ih (d - 1) (by omega) (k + 1) (k : Int) (ES k) (by omega) (by omega) (bsP_t hb (by omega) (by omega) (by omega))
set_option maxHeartbeats 4000000 in
set_option maxRecDepth 100000 in
theorem c_Rp_bestEnd (G : GT) (h : HM) (xr xo xf xu a0 a1 a2 a3 a4 a5 a6 : Nat) (us nu i : Nat) (g0 l0 m0 s0 st : Int) (fe sh ES : Nat → Int) (hrp : h xr = some (.inr (9, [.ref xo, .ref xf, .ref xu, .ref a0, .ref a1, .ref a2, .ref a3, .ref a4, .ref a5, .ref a6]))) (hu : h xu = some (.inr (10, [.int (iZ g0), .int (iZ l0), .int (iZ m0), .int (iZ s0), .ref us, .int (iZ (nu : Int))]))) (ha1 : h a1 = some (.inl (G_i G, 16, .inl (iA fe)))) (ha2 : h a2 = some (.inl (G_i G, 16, .inl (iA sh)))) (ha3 : h a3 = some (.inl (G_i G, 97, .inl (iA ES)))) (hi : i < 16) (hm0 : 0 ≤ m0 ∧ m0 ≤ 400) (hfe : ∀ k, -100 ≤ fe k ∧ fe k ≤ 300000) (hsh : ∀ k, 0 ≤ sh k ∧ sh k ≤ 20000000) (hES : ∀ k, 0 ≤ ES k ∧ ES k ≤ 2000000) (hst : -200 ≤ st ∧ st ≤ 400000) : Rn G M_Rp_bestEnd (rm 1 40) [.ref xr, .int (iZ (i : Int)), .int (iZ st)] h (fun r h' => ∃ b : Int, r = some (.int (iZ b)) ∧ h' = h ∧ cBest ES (max 0 (st + sh i - fe i)) (min 96 (st + m0 - fe i)) b) := by
  refine rn_of (by decide) (Nat.le_of_ble_eq_true rfl) ?_
  show Ev G M_Rp_bestEnd _ _ 0 [(0, .ref xr), (1, .int (iZ (i : Int))), (2, .int (iZ st))] [] _ 0 0
  have re0 := hfe i
  have rs0 := hsh i
  refine ev_iconst (v := iZ 0) d_Rp_bestEnd_0 rfl ?_
  refine ev_iload_n d_Rp_bestEnd_1 rfl rfl ?_
  refine ev_aload_n d_Rp_bestEnd_2 rfl rfl ?_
  refine ev_get d_Rp_bestEnd_3 fl_Rp_18 hrp rfl ?_
  refine ev_iload_n d_Rp_bestEnd_6 rfl rfl ?_
  refine ez_iaload i d_Rp_bestEnd_7 ha2 (by omega) (by omega) (by decide) ?_
  have rg7 := hsh i
  refine ez_iadd d_Rp_bestEnd_8 ?_
  refine ev_aload_n d_Rp_bestEnd_9 rfl rfl ?_
  refine ev_get d_Rp_bestEnd_10 fl_Rp_15 hrp rfl ?_
  refine ev_iload_n d_Rp_bestEnd_13 rfl rfl ?_
  refine ez_iaload i d_Rp_bestEnd_14 ha1 (by omega) (by omega) (by decide) ?_
  have rg14 := hfe i
  refine ez_isub d_Rp_bestEnd_15 ?_
  refine ez_max (by decide) (by omega) d_Rp_bestEnd_16 ml_Rp_113 ms_Math_max in_Math co_Math_max (by decide) (by decide) (by decide) (by decide) ?_
  refine ev_istore_n (L' := [(0, .ref xr), (1, .int (iZ (i : Int))), (2, .int (iZ st)), (3, .int (iZ (max 0 ((st + (sh i)) - (fe i)))))]) d_Rp_bestEnd_19 rfl (by decide) rfl ?_
  refine ev_bipush (v := iZ 96) d_Rp_bestEnd_20 rfl ?_
  refine ev_iload_n d_Rp_bestEnd_22 rfl rfl ?_
  refine ev_aload_n d_Rp_bestEnd_23 rfl rfl ?_
  refine ev_get d_Rp_bestEnd_24 fl_Rp_41 hrp rfl ?_
  refine ev_get d_Rp_bestEnd_27 fl_Rp_116 hu rfl ?_
  refine ez_iadd d_Rp_bestEnd_30 ?_
  refine ev_aload_n d_Rp_bestEnd_31 rfl rfl ?_
  refine ev_get d_Rp_bestEnd_32 fl_Rp_15 hrp rfl ?_
  refine ev_iload_n d_Rp_bestEnd_35 rfl rfl ?_
  refine ez_iaload i d_Rp_bestEnd_36 ha1 (by omega) (by omega) (by decide) ?_
  have rg36 := hfe i
  refine ez_isub d_Rp_bestEnd_37 ?_
  refine ez_min (by decide) (by omega) d_Rp_bestEnd_38 ml_Rp_110 ms_Math_min in_Math co_Math_min (by decide) (by decide) (by decide) (by decide) ?_
  refine ev_istore (L' := [(0, .ref xr), (1, .int (iZ (i : Int))), (2, .int (iZ st)), (3, .int (iZ (max 0 ((st + (sh i)) - (fe i))))), (4, .int (iZ (min 96 ((st + m0) - (fe i)))))]) d_Rp_bestEnd_41 (by decide) rfl ?_
  refine ev_iconst (v := iZ (-1)) d_Rp_bestEnd_43 rfl ?_
  refine ev_istore (L' := [(0, .ref xr), (1, .int (iZ (i : Int))), (2, .int (iZ st)), (3, .int (iZ (max 0 ((st + (sh i)) - (fe i))))), (4, .int (iZ (min 96 ((st + m0) - (fe i))))), (5, .int (iZ (-1)))]) d_Rp_bestEnd_44 (by decide) rfl ?_
  refine ev_ldc (v := iZ 1000000) d_Rp_bestEnd_46 kc_Rp_100 ?_
  refine ev_istore (L' := [(0, .ref xr), (1, .int (iZ (i : Int))), (2, .int (iZ st)), (3, .int (iZ (max 0 ((st + (sh i)) - (fe i))))), (4, .int (iZ (min 96 ((st + m0) - (fe i))))), (5, .int (iZ (-1))), (6, .int (iZ 1000000))]) d_Rp_bestEnd_48 (by decide) rfl ?_
  refine ev_iload_n d_Rp_bestEnd_50 rfl rfl ?_
  refine ev_istore (L' := [(0, .ref xr), (1, .int (iZ (i : Int))), (2, .int (iZ st)), (3, .int (iZ (max 0 ((st + (sh i)) - (fe i))))), (4, .int (iZ (min 96 ((st + m0) - (fe i))))), (5, .int (iZ (-1))), (6, .int (iZ 1000000)), (7, .int (iZ (max 0 ((st + (sh i)) - (fe i)))))]) d_Rp_bestEnd_51 (by decide) rfl ?_
  obtain ⟨k, hk⟩ : ∃ k : Nat, max 0 (st + sh i - fe i) = (k : Int) := ⟨(max 0 (st + sh i - fe i)).toNat, by omega⟩
  have k9 := lp_Rp_best G h xr xo xf xu a0 a1 a2 a3 a4 a5 a6 us nu i g0 l0 m0 s0 st fe sh ES hrp hu ha1 ha2 ha3 hi hm0 hfe hsh hES (max 0 (st + sh i - fe i)) (min 96 (st + m0 - fe i)) (by omega) (by omega) ((max (max 0 (st + sh i - fe i)) (min 96 (st + m0 - fe i) + 1)).toNat - k) k (-1) 1000000 (by omega) (by omega) (Or.inl ⟨rfl, rfl, fun j j1 j2 => absurd j2 (by omega)⟩)
  rw [← hk] at k9
  exact k9
def lsP (SS : Nat → Int) (i kk : Nat) (l : Int) : Prop := l ≤ 1000000 ∧ (∀ k', kk ≤ k' → k' < 25 → l ≤ SS (i * 25 + k')) ∧ (l = 1000000 ∨ ∃ k', kk ≤ k' ∧ k' < 25 ∧ SS (i * 25 + k') = l)
theorem lsP_s {SS : Nat → Int} {i k : Nat} {l v : Int} (hk : k < 25) (h : lsP SS i (k + 1) l) : lsP (zup SS (i * 25 + k) v) i k (min l v) := by
  obtain ⟨h1, h2, h3⟩ := h
  have e : zup SS (i * 25 + k) v (i * 25 + k) = v := zup_s
  have o : ∀ k', k' ≠ k → zup SS (i * 25 + k) v (i * 25 + k') = SS (i * 25 + k') := fun k' w => zup_n (by omega)
  refine ⟨by omega, fun k' a b => ?_, ?_⟩
  · by_cases q : k' = k
    · subst q; rw [e]; omega
    · rw [o k' q]
      have := h2 k' (by omega) b
      omega
  · by_cases q : v < l
    · exact Or.inr ⟨k, Nat.le_refl _, hk, by rw [e]; omega⟩
    · rcases h3 with h3 | ⟨k', a, b, c⟩
      · exact Or.inl (by omega)
      · exact Or.inr ⟨k', by omega, b, by rw [o k' (by omega), c]; omega⟩
theorem cLs_of {A SS : Nat → Int} {i k : Nat} {l : Int} (h : lsP SS i k l) : cLs (zup A (i * 25 + k) l) SS i k := by
  unfold cLs
  rw [zup_s]
  exact h
theorem cLs_z {A SS : Nat → Int} {i k j : Nat} {v l : Int} (hj : j < k) (h : cLs A SS i k) : cLs (zup A (i * 25 + j) l) (zup SS (i * 25 + j) v) i k := by
  obtain ⟨h1, h2, h3⟩ := h
  have eA : zup A (i * 25 + j) l (i * 25 + k) = A (i * 25 + k) := zup_n (by omega)
  have eS : ∀ k', k ≤ k' → zup SS (i * 25 + j) v (i * 25 + k') = SS (i * 25 + k') := fun k' w => zup_n (by omega)
  unfold cLs
  rw [eA]
  refine ⟨h1, fun k' a b => by rw [eS k' a]; exact h2 k' a b, ?_⟩
  rcases h3 with h3 | ⟨k', a, b, c⟩
  · exact Or.inl h3
  · exact Or.inr ⟨k', a, b, by rw [eS k' a]; exact c⟩
theorem cSt_z {fs fe sh : Nat → Int} {most : Int} {E SS BE : Nat → Int} {i k j : Nat} {v l : Int} (hj : j ≠ k) (h : cSt fs fe sh most E SS BE i k) : cSt fs fe sh most E (zup SS (i * 25 + j) v) (zup BE (i * 25 + j) l) i k := by
  obtain ⟨b, h1, h2, h3⟩ := h
  exact ⟨b, h1, by rw [zup_n (by omega)]; exact h2, by rw [zup_n (by omega)]; exact h3⟩
theorem cSt_n {fs fe sh : Nat → Int} {most : Int} {E SS BE : Nat → Int} {i k : Nat} {b v : Int} (h : cBest E (cFr fs fe sh i k) (cTo fs fe most i k) b) (hv : v = if b = -1 then 1000000 else (((k : Int) - 12).natAbs : Int) + E b.toNat) : cSt fs fe sh most E (zup SS (i * 25 + k) v) (zup BE (i * 25 + k) (fe i + b)) i k := ⟨b, h, zup_s, by rw [zup_s]; exact hv⟩
theorem cBest_r {E : Nat → Int} {fr to b : Int} (h : cBest E fr to b) (ht : to ≤ 96) : -1 ≤ b ∧ b ≤ 96 := by
  rcases h with ⟨h, _⟩ | ⟨h1, _, h3, _⟩ <;> omega
set_option maxHeartbeats 4000000 in
set_option maxRecDepth 100000 in
theorem lp_Rp_starts (G : GT) (h0 : HM) (xr xo xf xu a0 a1 a2 a3 a4 a5 a6 : Nat) (us nu i : Nat) (g0 l0 m0 s0 : Int) (fs fe sh ES BE0 SS0 A0 : Nat → Int) (hi : i < 16) (hm0 : 0 ≤ m0 ∧ m0 ≤ 400) (hfs : ∀ k, -100 ≤ fs k ∧ fs k ≤ 300000) (hfe : ∀ k, -100 ≤ fe k ∧ fe k ≤ 300000) (hsh : ∀ k, 0 ≤ sh k ∧ sh k ≤ 20000000) (hES : ∀ k, 0 ≤ ES k ∧ ES k ≤ 2000000) (n_45 : a4 ≠ a5) (n_46 : a4 ≠ a6) (n_56 : a5 ≠ a6) (n_01 : a0 ≠ a1) (n_02 : a0 ≠ a2) (n_12 : a1 ≠ a2) : ∀ (d : Nat) (k : Nat) (l : Int) (h : HM) (BE SS A : Nat → Int), k = d → h xr = some (.inr (9, [.ref xo, .ref xf, .ref xu, .ref a0, .ref a1, .ref a2, .ref a3, .ref a4, .ref a5, .ref a6])) → h xu = some (.inr (10, [.int (iZ g0), .int (iZ l0), .int (iZ m0), .int (iZ s0), .ref us, .int (iZ (nu : Int))])) → h a0 = some (.inl (G_i G, 16, .inl (iA fs))) → h a1 = some (.inl (G_i G, 16, .inl (iA fe))) → h a2 = some (.inl (G_i G, 16, .inl (iA sh))) → h a3 = some (.inl (G_i G, 97, .inl (iA ES))) → h a4 = some (.inl (G_i G, 400, .inl (iA BE))) → h a5 = some (.inl (G_i G, 400, .inl (iA SS))) → h a6 = some (.inl (G_i G, 400, .inl (iA A))) → lsP SS i k l → (0 ≤ l ∧ k ≤ 25) → (∀ j, k ≤ j → j < 25 → cSt fs fe sh m0 ES SS BE i j ∧ cLs A SS i j) → (∀ j, (j < i * 25 ∨ i * 25 + 25 ≤ j) → BE j = BE0 j ∧ SS j = SS0 j ∧ A j = A0 j) → (∀ k, -300 ≤ BE k ∧ BE k ≤ 400000) → (∀ k, 0 ≤ SS k ∧ SS k ≤ 2100000) → (∀ k, 0 ≤ A k ∧ A k ≤ 1000000) → Fm [a4, a5, a6] h0 h → Ev G M_Rp_weighStarts (rm 2 70) (fun r h' => r = none ∧ (∃ BE' SS' A' : Nat → Int, h' a4 = some (.inl (G_i G, 400, .inl (iA BE'))) ∧ h' a5 = some (.inl (G_i G, 400, .inl (iA SS'))) ∧ h' a6 = some (.inl (G_i G, 400, .inl (iA A'))) ∧ (∀ k, k < 25 → cSt fs fe sh m0 ES SS' BE' i k ∧ cLs A' SS' i k) ∧ (∀ j, (j < i * 25 ∨ i * 25 + 25 ≤ j) → BE' j = BE0 j ∧ SS' j = SS0 j ∧ A' j = A0 j) ∧ (∀ k, -300 ≤ BE' k ∧ BE' k ≤ 400000) ∧ (∀ k, 0 ≤ SS' k ∧ SS' k ≤ 2100000) ∧ (∀ k, 0 ≤ A' k ∧ A' k ≤ 1000000)) ∧ Fm [a4, a5, a6] h0 h') 6 [(0, .ref xr), (1, .int (iZ (i : Int))), (2, .int (iZ l)), (3, .int (iZ ((k : Int) - 1)))] [] h 0 0 := by
  intro d
  induction d using Nat.strongRecOn with
  | ind d ih =>
  intro k l h BE SS A hd hrp hu ha0 ha1 ha2 ha3 ha4 ha5 ha6 hl hl0 hst hfo hBE hSS hA fm
  have hl1 := hl.1
  refine ev_iload_n d_Rp_weighStarts_6 rfl rfl ?_
  refine ez_if_lt (tgt := 108) (by omega) d_Rp_weighStarts_7 rfl (fun c7 => ?_) (fun c7 => ?_)
  · exact ev_return d_Rp_weighStarts_108 rfl (by decide) (by decide) (⟨rfl, ⟨BE, SS, A, ha4, ha5, ha6, fun k9 hk9 => hst k9 (by omega) hk9, hfo, hBE, hSS, hA⟩, fm⟩)
  · obtain ⟨k, rfl⟩ : ∃ q : Nat, k = q + 1 := ⟨k - 1, by omega⟩
    rw [show ((k + 1 : Nat) : Int) - 1 = (k : Int) from by omega]
    refine ev_aload_n d_Rp_weighStarts_10 rfl rfl ?_
    refine ev_iload_n d_Rp_weighStarts_11 rfl rfl ?_
    refine ev_aload_n d_Rp_weighStarts_12 rfl rfl ?_
    refine ev_get d_Rp_weighStarts_13 fl_Rp_9 hrp rfl ?_
    refine ev_iload_n d_Rp_weighStarts_16 rfl rfl ?_
    refine ez_iaload i d_Rp_weighStarts_17 ha0 (by omega) (by omega) (by decide) ?_
    have rg17 := hfs i
    refine ev_iload_n d_Rp_weighStarts_18 rfl rfl ?_
    refine ez_iadd d_Rp_weighStarts_19 ?_
    refine ev_callV M_Rp_bestEnd (rm 1 40) _ (As := [.int (iZ (i : Int)), .int (iZ ((fs i) + (k : Int)))]) (c_Rp_bestEnd G h xr xo xf xu a0 a1 a2 a3 a4 a5 a6 us nu i g0 l0 m0 s0 ((fs i) + (k : Int)) fe sh ES hrp hu ha1 ha2 ha3 (by omega) hm0 hfe hsh hES (by omega)) d_Rp_weighStarts_20 mk_Rp_bestEnd ml_Rp_107 mv_Rp_bestEnd hrp rfl rfl rfl (Nat.le_of_ble_eq_true rfl) ⟨by decide, by decide⟩ ⟨by decide, by decide⟩ (fun r h9 hq => ?_)
    obtain ⟨b, rfl, rfl, hb⟩ := hq
    have hbr := cBest_r hb (by omega)
    refine ev_istore (L' := [(0, .ref xr), (1, .int (iZ (i : Int))), (2, .int (iZ l)), (3, .int (iZ (k : Int))), (4, .int (iZ b))]) d_Rp_weighStarts_23 (by decide) rfl ?_
    refine ev_iload_n d_Rp_weighStarts_25 rfl rfl ?_
    refine ev_bipush (v := iZ 25) d_Rp_weighStarts_26 rfl ?_
    refine ez_imul d_Rp_weighStarts_28 ?_
    refine ev_iload_n d_Rp_weighStarts_29 rfl rfl ?_
    refine ez_iadd d_Rp_weighStarts_30 ?_
    refine ev_istore (L' := [(0, .ref xr), (1, .int (iZ (i : Int))), (2, .int (iZ l)), (3, .int (iZ (k : Int))), (4, .int (iZ b)), (5, .int (iZ (((i : Int) * 25) + (k : Int))))]) d_Rp_weighStarts_31 (by decide) rfl ?_
    refine ev_aload_n d_Rp_weighStarts_33 rfl rfl ?_
    refine ev_get d_Rp_weighStarts_34 fl_Rp_24 hrp rfl ?_
    refine ev_iload d_Rp_weighStarts_37 rfl ?_
    refine ev_aload_n d_Rp_weighStarts_39 rfl rfl ?_
    refine ev_get d_Rp_weighStarts_40 fl_Rp_15 hrp rfl ?_
    refine ev_iload_n d_Rp_weighStarts_43 rfl rfl ?_
    refine ez_iaload i d_Rp_weighStarts_44 ha1 (by omega) (by omega) (by decide) ?_
    have rg44 := hfe i
    refine ev_iload d_Rp_weighStarts_45 rfl ?_
    refine ez_iadd d_Rp_weighStarts_47 ?_
    refine ez_iastore (F' := zup BE (i * 25 + k) ((fe i) + b)) (i * 25 + k) d_Rp_weighStarts_48 ha4 (by omega) (by omega) (by decide) rfl (fun h1 h1a h1o => ?_)
    have hrp := (h1o _ (cne hrp ha4 (by simp))).trans hrp
    have hu := (h1o _ (cne hu ha4 (by simp))).trans hu
    have ha0 := (h1o _ (cne ha0 ha4 (by simp))).trans ha0
    have ha1 := (h1o _ (cne ha1 ha4 (by simp))).trans ha1
    have ha2 := (h1o _ (cne ha2 ha4 (by simp))).trans ha2
    have ha3 := (h1o _ (cne ha3 ha4 (by simp))).trans ha3
    have ha5 := (h1o _ (Ne.symm n_45)).trans ha5
    have ha6 := (h1o _ (Ne.symm n_46)).trans ha6
    have ha4 := h1a
    have fm := fm.step (by simp) h1o
    refine ev_aload_n d_Rp_weighStarts_49 rfl rfl ?_
    refine ev_get d_Rp_weighStarts_50 fl_Rp_27 hrp rfl ?_
    refine ev_iload d_Rp_weighStarts_53 rfl ?_
    refine ev_iload d_Rp_weighStarts_55 rfl ?_
    refine ev_iconst (v := iZ (-1)) d_Rp_weighStarts_57 rfl ?_
    refine ez_icmp_ne (tgt := 66) (by omega) (by decide) d_Rp_weighStarts_58 rfl (fun c58 => ?_) (fun c58 => ?_)
    · refine ev_iload_n d_Rp_weighStarts_66 rfl rfl ?_
      refine ev_bipush (v := iZ 12) d_Rp_weighStarts_67 rfl ?_
      refine ez_isub d_Rp_weighStarts_69 ?_
      refine ez_abs (by omega) d_Rp_weighStarts_70 ml_Rp_91 ms_Math_abs in_Math co_Math_abs (by decide) (Nat.le_of_ble_eq_true rfl) (by decide) (by decide) ?_
      refine ev_aload_n d_Rp_weighStarts_73 rfl rfl ?_
      refine ev_get d_Rp_weighStarts_74 fl_Rp_21 hrp rfl ?_
      refine ev_iload d_Rp_weighStarts_77 rfl ?_
      refine ez_iaload b.toNat d_Rp_weighStarts_79 ha3 (by omega) (by omega) (by decide) ?_
      have rg79 := hES b.toNat
      refine ez_iadd d_Rp_weighStarts_80 ?_
      skip
      refine ez_iastore (F' := zup SS (i * 25 + k) ((((k : Int) - 12).natAbs : Int) + (ES b.toNat))) (i * 25 + k) d_Rp_weighStarts_81 ha5 (by omega) (by omega) (by decide) rfl (fun h2 h2a h2o => ?_)
      have hrp := (h2o _ (cne hrp ha5 (by simp))).trans hrp
      have hu := (h2o _ (cne hu ha5 (by simp))).trans hu
      have ha0 := (h2o _ (cne ha0 ha5 (by simp))).trans ha0
      have ha1 := (h2o _ (cne ha1 ha5 (by simp))).trans ha1
      have ha2 := (h2o _ (cne ha2 ha5 (by simp))).trans ha2
      have ha3 := (h2o _ (cne ha3 ha5 (by simp))).trans ha3
      have ha4 := (h2o _ n_45).trans ha4
      have ha6 := (h2o _ (Ne.symm n_56)).trans ha6
      have ha5 := h2a
      have fm := fm.step (by simp) h2o
      refine ev_iload_n d_Rp_weighStarts_82 rfl rfl ?_
      refine ev_aload_n d_Rp_weighStarts_83 rfl rfl ?_
      refine ev_get d_Rp_weighStarts_84 fl_Rp_27 hrp rfl ?_
      refine ev_iload d_Rp_weighStarts_87 rfl ?_
      refine ez_iaload (i * 25 + k) d_Rp_weighStarts_89 ha5 (by omega) (by omega) (by decide) ?_
      refine ev_top ((((k : Int) - 12).natAbs : Int) + (ES b.toNat)) (zup_s) ?_
      skip
      refine ez_min (by omega) (by omega) d_Rp_weighStarts_90 ml_Rp_110 ms_Math_min in_Math co_Math_min (by decide) (by decide) (by decide) (by decide) ?_
      refine ev_istore_n (L' := [(0, .ref xr), (1, .int (iZ (i : Int))), (2, .int (iZ (min l ((((k : Int) - 12).natAbs : Int) + (ES b.toNat))))), (3, .int (iZ (k : Int))), (4, .int (iZ b)), (5, .int (iZ (((i : Int) * 25) + (k : Int))))]) d_Rp_weighStarts_93 rfl (by decide) rfl ?_
      refine ev_aload_n d_Rp_weighStarts_94 rfl rfl ?_
      refine ev_get d_Rp_weighStarts_95 fl_Rp_30 hrp rfl ?_
      refine ev_iload d_Rp_weighStarts_98 rfl ?_
      refine ev_iload_n d_Rp_weighStarts_100 rfl rfl ?_
      refine ez_iastore (F' := zup A (i * 25 + k) (min l ((((k : Int) - 12).natAbs : Int) + (ES b.toNat)))) (i * 25 + k) d_Rp_weighStarts_101 ha6 (by omega) (by omega) (by decide) rfl (fun h3 h3a h3o => ?_)
      have hrp := (h3o _ (cne hrp ha6 (by simp))).trans hrp
      have hu := (h3o _ (cne hu ha6 (by simp))).trans hu
      have ha0 := (h3o _ (cne ha0 ha6 (by simp))).trans ha0
      have ha1 := (h3o _ (cne ha1 ha6 (by simp))).trans ha1
      have ha2 := (h3o _ (cne ha2 ha6 (by simp))).trans ha2
      have ha3 := (h3o _ (cne ha3 ha6 (by simp))).trans ha3
      have ha4 := (h3o _ n_46).trans ha4
      have ha5 := (h3o _ n_56).trans ha5
      have ha6 := h3a
      have fm := fm.step (by simp) h3o
      refine ez_iinc (L' := [(0, .ref xr), (1, .int (iZ (i : Int))), (2, .int (iZ (min l ((((k : Int) - 12).natAbs : Int) + (ES b.toNat))))), (3, .int (iZ ((k : Int) - 1))), (4, .int (iZ b)), (5, .int (iZ (((i : Int) * 25) + (k : Int))))]) d_Rp_weighStarts_102 rfl (by decide) rfl ?_
      refine ev_goto (tgt := 6) d_Rp_weighStarts_105 rfl ?_
      have hv9 : ((((k : Int) - 12).natAbs : Int) + (ES b.toNat) : Int) = if b = -1 then 1000000 else (((k : Int) - 12).natAbs : Int) + ES b.toNat := (if_neg (by omega)).symm
      have re9 := hES b.toNat
      refine ev_loc [(0, .ref xr), (1, .int (iZ (i : Int))), (2, .int (iZ (min l ((((k : Int) - 12).natAbs : Int) + (ES b.toNat))))), (3, .int (iZ ((k : Int) - 1)))] (by simp) ?_
      exact ih (d - 1) (by omega) k (min l ((((k : Int) - 12).natAbs : Int) + (ES b.toNat))) h3 _ _ _ (by omega) hrp hu ha0 ha1 ha2 ha3 ha4 ha5 ha6 (lsP_s (by omega) hl) (by omega) (by
        intro j j1 j2
        by_cases q : j = k
        · subst q; exact ⟨cSt_n hb hv9, cLs_of (lsP_s (by omega) hl)⟩
        · exact ⟨cSt_z (by omega) (hst j (by omega) j2).1, cLs_z (by omega) (hst j (by omega) j2).2⟩) (by
        intro j hj
        have := hfo j hj
        rw [zup_n (by omega), zup_n (by omega), zup_n (by omega)]; exact this) (zup_r hBE (by omega)) (zup_r hSS (by omega)) (zup_r hA (by omega)) fm
    · refine ev_ldc (v := iZ 1000000) d_Rp_weighStarts_61 kc_Rp_100 ?_
      refine ev_goto (tgt := 81) d_Rp_weighStarts_63 rfl ?_
      skip
      refine ez_iastore (F' := zup SS (i * 25 + k) 1000000) (i * 25 + k) d_Rp_weighStarts_81 ha5 (by omega) (by omega) (by decide) rfl (fun h4 h4a h4o => ?_)
      have hrp := (h4o _ (cne hrp ha5 (by simp))).trans hrp
      have hu := (h4o _ (cne hu ha5 (by simp))).trans hu
      have ha0 := (h4o _ (cne ha0 ha5 (by simp))).trans ha0
      have ha1 := (h4o _ (cne ha1 ha5 (by simp))).trans ha1
      have ha2 := (h4o _ (cne ha2 ha5 (by simp))).trans ha2
      have ha3 := (h4o _ (cne ha3 ha5 (by simp))).trans ha3
      have ha4 := (h4o _ n_45).trans ha4
      have ha6 := (h4o _ (Ne.symm n_56)).trans ha6
      have ha5 := h4a
      have fm := fm.step (by simp) h4o
      refine ev_iload_n d_Rp_weighStarts_82 rfl rfl ?_
      refine ev_aload_n d_Rp_weighStarts_83 rfl rfl ?_
      refine ev_get d_Rp_weighStarts_84 fl_Rp_27 hrp rfl ?_
      refine ev_iload d_Rp_weighStarts_87 rfl ?_
      refine ez_iaload (i * 25 + k) d_Rp_weighStarts_89 ha5 (by omega) (by omega) (by decide) ?_
      refine ev_top (1000000) (zup_s) ?_
      skip
      refine ez_min (by omega) (by decide) d_Rp_weighStarts_90 ml_Rp_110 ms_Math_min in_Math co_Math_min (by decide) (by decide) (by decide) (by decide) ?_
      refine ev_istore_n (L' := [(0, .ref xr), (1, .int (iZ (i : Int))), (2, .int (iZ (min l 1000000))), (3, .int (iZ (k : Int))), (4, .int (iZ b)), (5, .int (iZ (((i : Int) * 25) + (k : Int))))]) d_Rp_weighStarts_93 rfl (by decide) rfl ?_
      refine ev_aload_n d_Rp_weighStarts_94 rfl rfl ?_
      refine ev_get d_Rp_weighStarts_95 fl_Rp_30 hrp rfl ?_
      refine ev_iload d_Rp_weighStarts_98 rfl ?_
      refine ev_iload_n d_Rp_weighStarts_100 rfl rfl ?_
      refine ez_iastore (F' := zup A (i * 25 + k) (min l 1000000)) (i * 25 + k) d_Rp_weighStarts_101 ha6 (by omega) (by omega) (by decide) rfl (fun h5 h5a h5o => ?_)
      have hrp := (h5o _ (cne hrp ha6 (by simp))).trans hrp
      have hu := (h5o _ (cne hu ha6 (by simp))).trans hu
      have ha0 := (h5o _ (cne ha0 ha6 (by simp))).trans ha0
      have ha1 := (h5o _ (cne ha1 ha6 (by simp))).trans ha1
      have ha2 := (h5o _ (cne ha2 ha6 (by simp))).trans ha2
      have ha3 := (h5o _ (cne ha3 ha6 (by simp))).trans ha3
      have ha4 := (h5o _ n_46).trans ha4
      have ha5 := (h5o _ n_56).trans ha5
      have ha6 := h5a
      have fm := fm.step (by simp) h5o
      refine ez_iinc (L' := [(0, .ref xr), (1, .int (iZ (i : Int))), (2, .int (iZ (min l 1000000))), (3, .int (iZ ((k : Int) - 1))), (4, .int (iZ b)), (5, .int (iZ (((i : Int) * 25) + (k : Int))))]) d_Rp_weighStarts_102 rfl (by decide) rfl ?_
      refine ev_goto (tgt := 6) d_Rp_weighStarts_105 rfl ?_
      have hv9 : (1000000 : Int) = if b = -1 then 1000000 else (((k : Int) - 12).natAbs : Int) + ES b.toNat := (if_pos (by omega)).symm
      refine ev_loc [(0, .ref xr), (1, .int (iZ (i : Int))), (2, .int (iZ (min l (1000000)))), (3, .int (iZ ((k : Int) - 1)))] (by simp) ?_
      exact ih (d - 1) (by omega) k (min l (1000000)) h5 _ _ _ (by omega) hrp hu ha0 ha1 ha2 ha3 ha4 ha5 ha6 (lsP_s (by omega) hl) (by omega) (by
        intro j j1 j2
        by_cases q : j = k
        · subst q; exact ⟨cSt_n hb hv9, cLs_of (lsP_s (by omega) hl)⟩
        · exact ⟨cSt_z (by omega) (hst j (by omega) j2).1, cLs_z (by omega) (hst j (by omega) j2).2⟩) (by
        intro j hj
        have := hfo j hj
        rw [zup_n (by omega), zup_n (by omega), zup_n (by omega)]; exact this) (zup_r hBE (by omega)) (zup_r hSS (by omega)) (zup_r hA (by omega)) fm
set_option maxHeartbeats 4000000 in
set_option maxRecDepth 100000 in
theorem c_Rp_weighStarts (G : GT) (h : HM) (xr xo xf xu a0 a1 a2 a3 a4 a5 a6 : Nat) (us nu i : Nat) (g0 l0 m0 s0 : Int) (fs fe sh ES BE0 SS0 A0 : Nat → Int) (hrp : h xr = some (.inr (9, [.ref xo, .ref xf, .ref xu, .ref a0, .ref a1, .ref a2, .ref a3, .ref a4, .ref a5, .ref a6]))) (hu : h xu = some (.inr (10, [.int (iZ g0), .int (iZ l0), .int (iZ m0), .int (iZ s0), .ref us, .int (iZ (nu : Int))]))) (ha0 : h a0 = some (.inl (G_i G, 16, .inl (iA fs)))) (ha1 : h a1 = some (.inl (G_i G, 16, .inl (iA fe)))) (ha2 : h a2 = some (.inl (G_i G, 16, .inl (iA sh)))) (ha3 : h a3 = some (.inl (G_i G, 97, .inl (iA ES)))) (ha4 : h a4 = some (.inl (G_i G, 400, .inl (iA BE0)))) (ha5 : h a5 = some (.inl (G_i G, 400, .inl (iA SS0)))) (ha6 : h a6 = some (.inl (G_i G, 400, .inl (iA A0)))) (hi : i < 16) (hm0 : 0 ≤ m0 ∧ m0 ≤ 400) (hfs : ∀ k, -100 ≤ fs k ∧ fs k ≤ 300000) (hfe : ∀ k, -100 ≤ fe k ∧ fe k ≤ 300000) (hsh : ∀ k, 0 ≤ sh k ∧ sh k ≤ 20000000) (hES : ∀ k, 0 ≤ ES k ∧ ES k ≤ 2000000) (n_45 : a4 ≠ a5) (n_46 : a4 ≠ a6) (n_56 : a5 ≠ a6) (n_01 : a0 ≠ a1) (n_02 : a0 ≠ a2) (n_12 : a1 ≠ a2) (hBE : ∀ k, -300 ≤ BE0 k ∧ BE0 k ≤ 400000) (hSS : ∀ k, 0 ≤ SS0 k ∧ SS0 k ≤ 2100000) (hA : ∀ k, 0 ≤ A0 k ∧ A0 k ≤ 1000000) : Rn G M_Rp_weighStarts (rm 2 70) [.ref xr, .int (iZ (i : Int))] h (fun r h' => r = none ∧ (∃ BE' SS' A' : Nat → Int, h' a4 = some (.inl (G_i G, 400, .inl (iA BE'))) ∧ h' a5 = some (.inl (G_i G, 400, .inl (iA SS'))) ∧ h' a6 = some (.inl (G_i G, 400, .inl (iA A'))) ∧ (∀ k, k < 25 → cSt fs fe sh m0 ES SS' BE' i k ∧ cLs A' SS' i k) ∧ (∀ j, (j < i * 25 ∨ i * 25 + 25 ≤ j) → BE' j = BE0 j ∧ SS' j = SS0 j ∧ A' j = A0 j) ∧ (∀ k, -300 ≤ BE' k ∧ BE' k ≤ 400000) ∧ (∀ k, 0 ≤ SS' k ∧ SS' k ≤ 2100000) ∧ (∀ k, 0 ≤ A' k ∧ A' k ≤ 1000000)) ∧ Fm [a4, a5, a6] h h') := by
  refine rn_of (by decide) (Nat.le_of_ble_eq_true rfl) ?_
  show Ev G M_Rp_weighStarts _ _ 0 [(0, .ref xr), (1, .int (iZ (i : Int)))] [] _ 0 0
  refine ev_ldc (v := iZ 1000000) d_Rp_weighStarts_0 kc_Rp_100 ?_
  refine ev_istore_n (L' := [(0, .ref xr), (1, .int (iZ (i : Int))), (2, .int (iZ 1000000))]) d_Rp_weighStarts_2 rfl (by decide) rfl ?_
  refine ev_bipush (v := iZ 24) d_Rp_weighStarts_3 rfl ?_
  refine ev_istore_n (L' := [(0, .ref xr), (1, .int (iZ (i : Int))), (2, .int (iZ 1000000)), (3, .int (iZ 24))]) d_Rp_weighStarts_5 rfl (by decide) rfl ?_
  exact lp_Rp_starts G h xr xo xf xu a0 a1 a2 a3 a4 a5 a6 us nu i g0 l0 m0 s0 fs fe sh ES BE0 SS0 A0 hi hm0 hfs hfe hsh hES n_45 n_46 n_56 n_01 n_02 n_12 25 25 1000000 h BE0 SS0 A0 rfl hrp hu ha0 ha1 ha2 ha3 ha4 ha5 ha6 ⟨by decide, fun k' a b => absurd a (by omega), Or.inl rfl⟩ (by decide) (fun j a b => absurd a (by omega)) (fun j _ => ⟨rfl, rfl, rfl⟩) hBE hSS hA Fm.rf
