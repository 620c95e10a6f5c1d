theorem d_Mo_here_0 : decode M_Mo_here.2.1 0 = .ok (.aload_n 0, 1) := by decide +kernel
theorem d_Mo_here_1 : decode M_Mo_here.2.1 1 = .ok (.getfield 107, 3) := by decide +kernel
theorem d_Mo_here_4 : decode M_Mo_here.2.1 4 = .ok (.ifCond .ge 22, 3) := by decide +kernel
theorem d_Mo_here_7 : decode M_Mo_here.2.1 7 = .ok (.aload_n 0, 1) := by decide +kernel
theorem d_Mo_here_8 : decode M_Mo_here.2.1 8 = .ok (.getfield 110, 3) := by decide +kernel
theorem d_Mo_here_11 : decode M_Mo_here.2.1 11 = .ok (.aload_n 0, 1) := by decide +kernel
theorem d_Mo_here_12 : decode M_Mo_here.2.1 12 = .ok (.getfield 95, 3) := by decide +kernel
theorem d_Mo_here_15 : decode M_Mo_here.2.1 15 = .ok (.if_icmp .ne 11, 3) := by decide +kernel
theorem d_Mo_here_18 : decode M_Mo_here.2.1 18 = .ok (.aload_n 0, 1) := by decide +kernel
theorem d_Mo_here_19 : decode M_Mo_here.2.1 19 = .ok (.aload_n 0, 1) := by decide +kernel
theorem d_Mo_here_20 : decode M_Mo_here.2.1 20 = .ok (.getfield 95, 3) := by decide +kernel
theorem d_Mo_here_23 : decode M_Mo_here.2.1 23 = .ok (.putfield 107, 3) := by decide +kernel
theorem d_Mo_here_26 : decode M_Mo_here.2.1 26 = .ok (.aload_n 0, 1) := by decide +kernel
theorem d_Mo_here_27 : decode M_Mo_here.2.1 27 = .ok (.getfield 107, 3) := by decide +kernel
theorem d_Mo_here_30 : decode M_Mo_here.2.1 30 = .ok (.ifCond .lt 7, 3) := by decide +kernel
theorem d_Mo_here_33 : decode M_Mo_here.2.1 33 = .ok (.iconst (-1), 1) := by decide +kernel
theorem d_Mo_here_34 : decode M_Mo_here.2.1 34 = .ok (.goto 12, 3) := by decide +kernel
theorem d_Mo_here_37 : decode M_Mo_here.2.1 37 = .ok (.aload_n 0, 1) := by decide +kernel
theorem d_Mo_here_38 : decode M_Mo_here.2.1 38 = .ok (.getfield 7, 3) := by decide +kernel
theorem d_Mo_here_41 : decode M_Mo_here.2.1 41 = .ok (.aload_n 0, 1) := by decide +kernel
theorem d_Mo_here_42 : decode M_Mo_here.2.1 42 = .ok (.getfield 110, 3) := by decide +kernel
theorem d_Mo_here_45 : decode M_Mo_here.2.1 45 = .ok (.iaload, 1) := by decide +kernel
theorem d_Mo_here_46 : decode M_Mo_here.2.1 46 = .ok (.ireturn, 1) := by decide +kernel
theorem d_Mo_take_0 : decode M_Mo_take.2.1 0 = .ok (.aload_n 0, 1) := by decide +kernel
theorem d_Mo_take_1 : decode M_Mo_take.2.1 1 = .ok (.getfield 107, 3) := by decide +kernel
theorem d_Mo_take_4 : decode M_Mo_take.2.1 4 = .ok (.ifCond .ge 15, 3) := by decide +kernel
theorem d_Mo_take_7 : decode M_Mo_take.2.1 7 = .ok (.iload_n 1, 1) := by decide +kernel
theorem d_Mo_take_8 : decode M_Mo_take.2.1 8 = .ok (.ifCond .ne 11, 3) := by decide +kernel
theorem d_Mo_take_11 : decode M_Mo_take.2.1 11 = .ok (.aload_n 0, 1) := by decide +kernel
theorem d_Mo_take_12 : decode M_Mo_take.2.1 12 = .ok (.aload_n 0, 1) := by decide +kernel
theorem d_Mo_take_13 : decode M_Mo_take.2.1 13 = .ok (.getfield 110, 3) := by decide +kernel
theorem d_Mo_take_16 : decode M_Mo_take.2.1 16 = .ok (.putfield 107, 3) := by decide +kernel
theorem d_Mo_take_19 : decode M_Mo_take.2.1 19 = .ok (.aload_n 0, 1) := by decide +kernel
theorem d_Mo_take_20 : decode M_Mo_take.2.1 20 = .ok (.aload_n 0, 1) := by decide +kernel
theorem d_Mo_take_21 : decode M_Mo_take.2.1 21 = .ok (.getfield 107, 3) := by decide +kernel
theorem d_Mo_take_24 : decode M_Mo_take.2.1 24 = .ok (.ifCond .ge 12, 3) := by decide +kernel
theorem d_Mo_take_27 : decode M_Mo_take.2.1 27 = .ok (.aload_n 0, 1) := by decide +kernel
theorem d_Mo_take_28 : decode M_Mo_take.2.1 28 = .ok (.getfield 110, 3) := by decide +kernel
theorem d_Mo_take_31 : decode M_Mo_take.2.1 31 = .ok (.iconst 1, 1) := by decide +kernel
theorem d_Mo_take_32 : decode M_Mo_take.2.1 32 = .ok (.iadd, 1) := by decide +kernel
theorem d_Mo_take_33 : decode M_Mo_take.2.1 33 = .ok (.goto 7, 3) := by decide +kernel
theorem d_Mo_take_36 : decode M_Mo_take.2.1 36 = .ok (.aload_n 0, 1) := by decide +kernel
theorem d_Mo_take_37 : decode M_Mo_take.2.1 37 = .ok (.getfield 110, 3) := by decide +kernel
theorem d_Mo_take_40 : decode M_Mo_take.2.1 40 = .ok (.putfield 110, 3) := by decide +kernel
theorem d_Mo_take_43 : decode M_Mo_take.2.1 43 = .ok (.return_, 1) := by decide +kernel
theorem d_Mo_takeByte_0 : decode M_Mo_takeByte.2.1 0 = .ok (.aload_n 0, 1) := by decide +kernel
theorem d_Mo_takeByte_1 : decode M_Mo_takeByte.2.1 1 = .ok (.invokevirtual 113, 3) := by decide +kernel
theorem d_Mo_takeByte_4 : decode M_Mo_takeByte.2.1 4 = .ok (.istore_n 2, 1) := by decide +kernel
theorem d_Mo_takeByte_5 : decode M_Mo_takeByte.2.1 5 = .ok (.aload_n 0, 1) := by decide +kernel
theorem d_Mo_takeByte_6 : decode M_Mo_takeByte.2.1 6 = .ok (.iload_n 2, 1) := by decide +kernel
theorem d_Mo_takeByte_7 : decode M_Mo_takeByte.2.1 7 = .ok (.iload_n 1, 1) := by decide +kernel
theorem d_Mo_takeByte_8 : decode M_Mo_takeByte.2.1 8 = .ok (.if_icmp .ne 7, 3) := by decide +kernel
theorem d_Mo_takeByte_11 : decode M_Mo_takeByte.2.1 11 = .ok (.iconst 1, 1) := by decide +kernel
theorem d_Mo_takeByte_12 : decode M_Mo_takeByte.2.1 12 = .ok (.goto 4, 3) := by decide +kernel
theorem d_Mo_takeByte_15 : decode M_Mo_takeByte.2.1 15 = .ok (.iconst 0, 1) := by decide +kernel
theorem d_Mo_takeByte_16 : decode M_Mo_takeByte.2.1 16 = .ok (.invokevirtual 117, 3) := by decide +kernel
theorem d_Mo_takeByte_19 : decode M_Mo_takeByte.2.1 19 = .ok (.return_, 1) := by decide +kernel
theorem d_Mo_takeDigit_0 : decode M_Mo_takeDigit.2.1 0 = .ok (.aload_n 0, 1) := by decide +kernel
theorem d_Mo_takeDigit_1 : decode M_Mo_takeDigit.2.1 1 = .ok (.invokevirtual 113, 3) := by decide +kernel
theorem d_Mo_takeDigit_4 : decode M_Mo_takeDigit.2.1 4 = .ok (.istore_n 2, 1) := by decide +kernel
theorem d_Mo_takeDigit_5 : decode M_Mo_takeDigit.2.1 5 = .ok (.aload_n 0, 1) := by decide +kernel
theorem d_Mo_takeDigit_6 : decode M_Mo_takeDigit.2.1 6 = .ok (.iload_n 2, 1) := by decide +kernel
theorem d_Mo_takeDigit_7 : decode M_Mo_takeDigit.2.1 7 = .ok (.bipush 48, 2) := by decide +kernel
theorem d_Mo_takeDigit_9 : decode M_Mo_takeDigit.2.1 9 = .ok (.if_icmp .lt 15, 3) := by decide +kernel
theorem d_Mo_takeDigit_12 : decode M_Mo_takeDigit.2.1 12 = .ok (.iload_n 2, 1) := by decide +kernel
theorem d_Mo_takeDigit_13 : decode M_Mo_takeDigit.2.1 13 = .ok (.bipush 48, 2) := by decide +kernel
theorem d_Mo_takeDigit_15 : decode M_Mo_takeDigit.2.1 15 = .ok (.iload_n 1, 1) := by decide +kernel
theorem d_Mo_takeDigit_16 : decode M_Mo_takeDigit.2.1 16 = .ok (.iadd, 1) := by decide +kernel
theorem d_Mo_takeDigit_17 : decode M_Mo_takeDigit.2.1 17 = .ok (.if_icmp .gt 7, 3) := by decide +kernel
theorem d_Mo_takeDigit_20 : decode M_Mo_takeDigit.2.1 20 = .ok (.iconst 1, 1) := by decide +kernel
theorem d_Mo_takeDigit_21 : decode M_Mo_takeDigit.2.1 21 = .ok (.goto 4, 3) := by decide +kernel
theorem d_Mo_takeDigit_24 : decode M_Mo_takeDigit.2.1 24 = .ok (.iconst 0, 1) := by decide +kernel
theorem d_Mo_takeDigit_25 : decode M_Mo_takeDigit.2.1 25 = .ok (.invokevirtual 117, 3) := by decide +kernel
theorem d_Mo_takeDigit_28 : decode M_Mo_takeDigit.2.1 28 = .ok (.iload_n 2, 1) := by decide +kernel
theorem d_Mo_takeDigit_29 : decode M_Mo_takeDigit.2.1 29 = .ok (.bipush 48, 2) := by decide +kernel
theorem d_Mo_takeDigit_31 : decode M_Mo_takeDigit.2.1 31 = .ok (.isub, 1) := by decide +kernel
theorem d_Mo_takeDigit_32 : decode M_Mo_takeDigit.2.1 32 = .ok (.ireturn, 1) := by decide +kernel
theorem d_Mo_takeClock_0 : decode M_Mo_takeClock.2.1 0 = .ok (.lconst 0, 1) := by decide +kernel
theorem d_Mo_takeClock_1 : decode M_Mo_takeClock.2.1 1 = .ok (.lstore_n 1, 1) := by decide +kernel
theorem d_Mo_takeClock_2 : decode M_Mo_takeClock.2.1 2 = .ok (.iconst 0, 1) := by decide +kernel
theorem d_Mo_takeClock_3 : decode M_Mo_takeClock.2.1 3 = .ok (.istore_n 3, 1) := by decide +kernel
theorem d_Mo_takeClock_4 : decode M_Mo_takeClock.2.1 4 = .ok (.iload_n 3, 1) := by decide +kernel
theorem d_Mo_takeClock_5 : decode M_Mo_takeClock.2.1 5 = .ok (.iconst 3, 1) := by decide +kernel
theorem d_Mo_takeClock_6 : decode M_Mo_takeClock.2.1 6 = .ok (.if_icmp .ge 57, 3) := by decide +kernel
theorem d_Mo_takeClock_9 : decode M_Mo_takeClock.2.1 9 = .ok (.aload_n 0, 1) := by decide +kernel
theorem d_Mo_takeClock_10 : decode M_Mo_takeClock.2.1 10 = .ok (.iconst 5, 1) := by decide +kernel
theorem d_Mo_takeClock_11 : decode M_Mo_takeClock.2.1 11 = .ok (.invokevirtual 121, 3) := by decide +kernel
theorem d_Mo_takeClock_14 : decode M_Mo_takeClock.2.1 14 = .ok (.istore 4, 2) := by decide +kernel
theorem d_Mo_takeClock_16 : decode M_Mo_takeClock.2.1 16 = .ok (.aload_n 0, 1) := by decide +kernel
theorem d_Mo_takeClock_17 : decode M_Mo_takeClock.2.1 17 = .ok (.bipush 9, 2) := by decide +kernel
theorem d_Mo_takeClock_19 : decode M_Mo_takeClock.2.1 19 = .ok (.invokevirtual 121, 3) := by decide +kernel
theorem d_Mo_takeClock_22 : decode M_Mo_takeClock.2.1 22 = .ok (.istore 5, 2) := by decide +kernel
theorem d_Mo_takeClock_24 : decode M_Mo_takeClock.2.1 24 = .ok (.ldc2_w 124, 3) := by decide +kernel
theorem d_Mo_takeClock_27 : decode M_Mo_takeClock.2.1 27 = .ok (.lload_n 1, 1) := by decide +kernel
theorem d_Mo_takeClock_28 : decode M_Mo_takeClock.2.1 28 = .ok (.lmul, 1) := by decide +kernel
theorem d_Mo_takeClock_29 : decode M_Mo_takeClock.2.1 29 = .ok (.bipush 10, 2) := by decide +kernel
theorem d_Mo_takeClock_31 : decode M_Mo_takeClock.2.1 31 = .ok (.iload 4, 2) := by decide +kernel
theorem d_Mo_takeClock_33 : decode M_Mo_takeClock.2.1 33 = .ok (.imul, 1) := by decide +kernel
theorem d_Mo_takeClock_34 : decode M_Mo_takeClock.2.1 34 = .ok (.i2l, 1) := by decide +kernel
theorem d_Mo_takeClock_35 : decode M_Mo_takeClock.2.1 35 = .ok (.ladd, 1) := by decide +kernel
theorem d_Mo_takeClock_36 : decode M_Mo_takeClock.2.1 36 = .ok (.iload 5, 2) := by decide +kernel
theorem d_Mo_takeClock_38 : decode M_Mo_takeClock.2.1 38 = .ok (.i2l, 1) := by decide +kernel
theorem d_Mo_takeClock_39 : decode M_Mo_takeClock.2.1 39 = .ok (.ladd, 1) := by decide +kernel
theorem d_Mo_takeClock_40 : decode M_Mo_takeClock.2.1 40 = .ok (.lstore_n 1, 1) := by decide +kernel
theorem d_Mo_takeClock_41 : decode M_Mo_takeClock.2.1 41 = .ok (.aload_n 0, 1) := by decide +kernel
theorem d_Mo_takeClock_42 : decode M_Mo_takeClock.2.1 42 = .ok (.iload_n 3, 1) := by decide +kernel
theorem d_Mo_takeClock_43 : decode M_Mo_takeClock.2.1 43 = .ok (.iconst 2, 1) := by decide +kernel
theorem d_Mo_takeClock_44 : decode M_Mo_takeClock.2.1 44 = .ok (.if_icmp .ge 8, 3) := by decide +kernel
theorem d_Mo_takeClock_47 : decode M_Mo_takeClock.2.1 47 = .ok (.bipush 58, 2) := by decide +kernel
theorem d_Mo_takeClock_49 : decode M_Mo_takeClock.2.1 49 = .ok (.goto 5, 3) := by decide +kernel
theorem d_Mo_takeClock_52 : decode M_Mo_takeClock.2.1 52 = .ok (.bipush 44, 2) := by decide +kernel
theorem d_Mo_takeClock_54 : decode M_Mo_takeClock.2.1 54 = .ok (.invokevirtual 126, 3) := by decide +kernel
theorem d_Mo_takeClock_57 : decode M_Mo_takeClock.2.1 57 = .ok (.iinc 3 1, 3) := by decide +kernel
theorem d_Mo_takeClock_60 : decode M_Mo_takeClock.2.1 60 = .ok (.goto (-56), 3) := by decide +kernel
theorem d_Mo_takeClock_63 : decode M_Mo_takeClock.2.1 63 = .ok (.iconst 0, 1) := by decide +kernel
theorem d_Mo_takeClock_64 : decode M_Mo_takeClock.2.1 64 = .ok (.istore_n 3, 1) := by decide +kernel
theorem d_Mo_takeClock_65 : decode M_Mo_takeClock.2.1 65 = .ok (.iload_n 3, 1) := by decide +kernel
theorem d_Mo_takeClock_66 : decode M_Mo_takeClock.2.1 66 = .ok (.iconst 3, 1) := by decide +kernel
theorem d_Mo_takeClock_67 : decode M_Mo_takeClock.2.1 67 = .ok (.if_icmp .ge 23, 3) := by decide +kernel
theorem d_Mo_takeClock_70 : decode M_Mo_takeClock.2.1 70 = .ok (.ldc2_w 130, 3) := by decide +kernel
theorem d_Mo_takeClock_73 : decode M_Mo_takeClock.2.1 73 = .ok (.lload_n 1, 1) := by decide +kernel
theorem d_Mo_takeClock_74 : decode M_Mo_takeClock.2.1 74 = .ok (.lmul, 1) := by decide +kernel
theorem d_Mo_takeClock_75 : decode M_Mo_takeClock.2.1 75 = .ok (.aload_n 0, 1) := by decide +kernel
theorem d_Mo_takeClock_76 : decode M_Mo_takeClock.2.1 76 = .ok (.bipush 9, 2) := by decide +kernel
theorem d_Mo_takeClock_78 : decode M_Mo_takeClock.2.1 78 = .ok (.invokevirtual 121, 3) := by decide +kernel
theorem d_Mo_takeClock_81 : decode M_Mo_takeClock.2.1 81 = .ok (.i2l, 1) := by decide +kernel
theorem d_Mo_takeClock_82 : decode M_Mo_takeClock.2.1 82 = .ok (.ladd, 1) := by decide +kernel
theorem d_Mo_takeClock_83 : decode M_Mo_takeClock.2.1 83 = .ok (.lstore_n 1, 1) := by decide +kernel
theorem d_Mo_takeClock_84 : decode M_Mo_takeClock.2.1 84 = .ok (.iinc 3 1, 3) := by decide +kernel
theorem d_Mo_takeClock_87 : decode M_Mo_takeClock.2.1 87 = .ok (.goto (-22), 3) := by decide +kernel
theorem d_Mo_takeClock_90 : decode M_Mo_takeClock.2.1 90 = .ok (.lload_n 1, 1) := by decide +kernel
theorem d_Mo_takeClock_91 : decode M_Mo_takeClock.2.1 91 = .ok (.ldc2_w 132, 3) := by decide +kernel
theorem d_Mo_takeClock_94 : decode M_Mo_takeClock.2.1 94 = .ok (.lmul, 1) := by decide +kernel
theorem d_Mo_takeClock_95 : decode M_Mo_takeClock.2.1 95 = .ok (.lreturn, 1) := by decide +kernel
theorem d_Mo_takeSix_0 : decode M_Mo_takeSix.2.1 0 = .ok (.lconst 0, 1) := by decide +kernel
theorem d_Mo_takeSix_1 : decode M_Mo_takeSix.2.1 1 = .ok (.lstore_n 1, 1) := by decide +kernel
theorem d_Mo_takeSix_2 : decode M_Mo_takeSix.2.1 2 = .ok (.iconst 0, 1) := by decide +kernel
theorem d_Mo_takeSix_3 : decode M_Mo_takeSix.2.1 3 = .ok (.istore_n 3, 1) := by decide +kernel
theorem d_Mo_takeSix_4 : decode M_Mo_takeSix.2.1 4 = .ok (.iload_n 3, 1) := by decide +kernel
theorem d_Mo_takeSix_5 : decode M_Mo_takeSix.2.1 5 = .ok (.bipush 6, 2) := by decide +kernel
theorem d_Mo_takeSix_7 : decode M_Mo_takeSix.2.1 7 = .ok (.if_icmp .ge 39, 3) := by decide +kernel
theorem d_Mo_takeSix_10 : decode M_Mo_takeSix.2.1 10 = .ok (.aload_n 0, 1) := by decide +kernel
theorem d_Mo_takeSix_11 : decode M_Mo_takeSix.2.1 11 = .ok (.invokevirtual 113, 3) := by decide +kernel
theorem d_Mo_takeSix_14 : decode M_Mo_takeSix.2.1 14 = .ok (.istore 4, 2) := by decide +kernel
theorem d_Mo_takeSix_16 : decode M_Mo_takeSix.2.1 16 = .ok (.aload_n 0, 1) := by decide +kernel
theorem d_Mo_takeSix_17 : decode M_Mo_takeSix.2.1 17 = .ok (.iload 4, 2) := by decide +kernel
theorem d_Mo_takeSix_19 : decode M_Mo_takeSix.2.1 19 = .ok (.ifCond .lt 7, 3) := by decide +kernel
theorem d_Mo_takeSix_22 : decode M_Mo_takeSix.2.1 22 = .ok (.iconst 1, 1) := by decide +kernel
theorem d_Mo_takeSix_23 : decode M_Mo_takeSix.2.1 23 = .ok (.goto 4, 3) := by decide +kernel
theorem d_Mo_takeSix_26 : decode M_Mo_takeSix.2.1 26 = .ok (.iconst 0, 1) := by decide +kernel
theorem d_Mo_takeSix_27 : decode M_Mo_takeSix.2.1 27 = .ok (.invokevirtual 117, 3) := by decide +kernel
theorem d_Mo_takeSix_30 : decode M_Mo_takeSix.2.1 30 = .ok (.ldc2_w 138, 3) := by decide +kernel
theorem d_Mo_takeSix_33 : decode M_Mo_takeSix.2.1 33 = .ok (.lload_n 1, 1) := by decide +kernel
theorem d_Mo_takeSix_34 : decode M_Mo_takeSix.2.1 34 = .ok (.lmul, 1) := by decide +kernel
theorem d_Mo_takeSix_35 : decode M_Mo_takeSix.2.1 35 = .ok (.iload 4, 2) := by decide +kernel
theorem d_Mo_takeSix_37 : decode M_Mo_takeSix.2.1 37 = .ok (.i2l, 1) := by decide +kernel
theorem d_Mo_takeSix_38 : decode M_Mo_takeSix.2.1 38 = .ok (.ladd, 1) := by decide +kernel
theorem d_Mo_takeSix_39 : decode M_Mo_takeSix.2.1 39 = .ok (.lstore_n 1, 1) := by decide +kernel
theorem d_Mo_takeSix_40 : decode M_Mo_takeSix.2.1 40 = .ok (.iinc 3 1, 3) := by decide +kernel
theorem d_Mo_takeSix_43 : decode M_Mo_takeSix.2.1 43 = .ok (.goto (-39), 3) := by decide +kernel
theorem d_Mo_takeSix_46 : decode M_Mo_takeSix.2.1 46 = .ok (.lload_n 1, 1) := by decide +kernel
theorem d_Mo_takeSix_47 : decode M_Mo_takeSix.2.1 47 = .ok (.lreturn, 1) := by decide +kernel
theorem d_Mo_takeFrames_0 : decode M_Mo_takeFrames.2.1 0 = .ok (.aload_n 0, 1) := by decide +kernel
theorem d_Mo_takeFrames_1 : decode M_Mo_takeFrames.2.1 1 = .ok (.bipush 123, 2) := by decide +kernel
theorem d_Mo_takeFrames_3 : decode M_Mo_takeFrames.2.1 3 = .ok (.invokevirtual 126, 3) := by decide +kernel
theorem d_Mo_takeFrames_6 : decode M_Mo_takeFrames.2.1 6 = .ok (.aload_n 0, 1) := by decide +kernel
theorem d_Mo_takeFrames_7 : decode M_Mo_takeFrames.2.1 7 = .ok (.bipush 9, 2) := by decide +kernel
theorem d_Mo_takeFrames_9 : decode M_Mo_takeFrames.2.1 9 = .ok (.invokevirtual 121, 3) := by decide +kernel
theorem d_Mo_takeFrames_12 : decode M_Mo_takeFrames.2.1 12 = .ok (.i2l, 1) := by decide +kernel
theorem d_Mo_takeFrames_13 : decode M_Mo_takeFrames.2.1 13 = .ok (.lstore_n 1, 1) := by decide +kernel
theorem d_Mo_takeFrames_14 : decode M_Mo_takeFrames.2.1 14 = .ok (.iconst 1, 1) := by decide +kernel
theorem d_Mo_takeFrames_15 : decode M_Mo_takeFrames.2.1 15 = .ok (.istore_n 3, 1) := by decide +kernel
theorem d_Mo_takeFrames_16 : decode M_Mo_takeFrames.2.1 16 = .ok (.iload_n 3, 1) := by decide +kernel
theorem d_Mo_takeFrames_17 : decode M_Mo_takeFrames.2.1 17 = .ok (.bipush 6, 2) := by decide +kernel
theorem d_Mo_takeFrames_19 : decode M_Mo_takeFrames.2.1 19 = .ok (.if_icmp .ge 43, 3) := by decide +kernel
theorem d_Mo_takeFrames_22 : decode M_Mo_takeFrames.2.1 22 = .ok (.aload_n 0, 1) := by decide +kernel
theorem d_Mo_takeFrames_23 : decode M_Mo_takeFrames.2.1 23 = .ok (.invokevirtual 113, 3) := by decide +kernel
theorem d_Mo_takeFrames_26 : decode M_Mo_takeFrames.2.1 26 = .ok (.istore 4, 2) := by decide +kernel
theorem d_Mo_takeFrames_28 : decode M_Mo_takeFrames.2.1 28 = .ok (.iload 4, 2) := by decide +kernel
theorem d_Mo_takeFrames_30 : decode M_Mo_takeFrames.2.1 30 = .ok (.bipush 48, 2) := by decide +kernel
theorem d_Mo_takeFrames_32 : decode M_Mo_takeFrames.2.1 32 = .ok (.if_icmp .lt 24, 3) := by decide +kernel
theorem d_Mo_takeFrames_35 : decode M_Mo_takeFrames.2.1 35 = .ok (.iload 4, 2) := by decide +kernel
theorem d_Mo_takeFrames_37 : decode M_Mo_takeFrames.2.1 37 = .ok (.bipush 57, 2) := by decide +kernel
theorem d_Mo_takeFrames_39 : decode M_Mo_takeFrames.2.1 39 = .ok (.if_icmp .gt 17, 3) := by decide +kernel
theorem d_Mo_takeFrames_42 : decode M_Mo_takeFrames.2.1 42 = .ok (.ldc2_w 130, 3) := by decide +kernel
theorem d_Mo_takeFrames_45 : decode M_Mo_takeFrames.2.1 45 = .ok (.lload_n 1, 1) := by decide +kernel
theorem d_Mo_takeFrames_46 : decode M_Mo_takeFrames.2.1 46 = .ok (.lmul, 1) := by decide +kernel
theorem d_Mo_takeFrames_47 : decode M_Mo_takeFrames.2.1 47 = .ok (.aload_n 0, 1) := by decide +kernel
theorem d_Mo_takeFrames_48 : decode M_Mo_takeFrames.2.1 48 = .ok (.bipush 9, 2) := by decide +kernel
theorem d_Mo_takeFrames_50 : decode M_Mo_takeFrames.2.1 50 = .ok (.invokevirtual 121, 3) := by decide +kernel
theorem d_Mo_takeFrames_53 : decode M_Mo_takeFrames.2.1 53 = .ok (.i2l, 1) := by decide +kernel
theorem d_Mo_takeFrames_54 : decode M_Mo_takeFrames.2.1 54 = .ok (.ladd, 1) := by decide +kernel
theorem d_Mo_takeFrames_55 : decode M_Mo_takeFrames.2.1 55 = .ok (.lstore_n 1, 1) := by decide +kernel
theorem d_Mo_takeFrames_56 : decode M_Mo_takeFrames.2.1 56 = .ok (.iinc 3 1, 3) := by decide +kernel
theorem d_Mo_takeFrames_59 : decode M_Mo_takeFrames.2.1 59 = .ok (.goto (-43), 3) := by decide +kernel
theorem d_Mo_takeFrames_62 : decode M_Mo_takeFrames.2.1 62 = .ok (.aload_n 0, 1) := by decide +kernel
theorem d_Mo_takeFrames_63 : decode M_Mo_takeFrames.2.1 63 = .ok (.bipush 125, 2) := by decide +kernel
theorem d_Mo_takeFrames_65 : decode M_Mo_takeFrames.2.1 65 = .ok (.invokevirtual 126, 3) := by decide +kernel
theorem d_Mo_takeFrames_68 : decode M_Mo_takeFrames.2.1 68 = .ok (.lload_n 1, 1) := by decide +kernel
theorem d_Mo_takeFrames_69 : decode M_Mo_takeFrames.2.1 69 = .ok (.aload_n 0, 1) := by decide +kernel
theorem d_Mo_takeFrames_70 : decode M_Mo_takeFrames.2.1 70 = .ok (.invokevirtual 134, 3) := by decide +kernel
theorem d_Mo_takeFrames_73 : decode M_Mo_takeFrames.2.1 73 = .ok (.lmul, 1) := by decide +kernel
theorem d_Mo_takeFrames_74 : decode M_Mo_takeFrames.2.1 74 = .ok (.lreturn, 1) := by decide +kernel
/-- the reference's reading: its state is the place and the fault (below 0: none) -/
def hv (F : Nat → Int) (n p : Nat) (ft : Int) : Int := if ft < 0 then lk F n p else -1
def hf (n p : Nat) (ft : Int) : Int := if ft < 0 ∧ p = n then (n : Int) else ft
def tkP (p : Nat) (ft g : Int) : Nat := if ft < 0 ∧ g ≠ 0 then p + 1 else p
def tkF (p : Nat) (ft g : Int) : Int := if ft < 0 ∧ g = 0 then (p : Int) else ft
def sq (F : Nat → Int) (n : Nat) (A : List (Int × Int)) (s : Nat × Int) : Nat × Int := if s.2 < 0 then ((mq F n A s.1).1, if (mq F n A s.1).2 = true then -1 else ((mq F n A s.1).1 : Int)) else s
theorem hv_r {F : Nat → Int} {n p : Nat} {ft : Int} (hF : ∀ k, 0 ≤ F k ∧ F k ≤ 255) : -1 ≤ hv F n p ft ∧ hv F n p ft ≤ 255 := by
  unfold hv
  split
  · exact lk_r hF p
  · omega
theorem hv_p {F : Nat → Int} {n p : Nat} {ft : Int} (h : 0 ≤ hv F n p ft) : ft < 0 ∧ p < n ∧ hv F n p ft = lk F n p := by
  unfold hv at h ⊢
  split
  · rename_i q
    rw [if_pos q] at h
    exact ⟨q, lk_p h, rfl⟩
  · rename_i q
    rw [if_neg q] at h
    omega
theorem hf_p {n p : Nat} {ft : Int} (h : p < n) : hf n p ft = ft := if_neg (by omega)
theorem hf_r {n p : Nat} {ft : Int} (h : -1 ≤ ft ∧ ft ≤ n) (hn : n ≤ 1000) : -1 ≤ hf n p ft ∧ hf n p ft ≤ n := by
  unfold hf
  split <;> omega
theorem hv_hf {F : Nat → Int} {n p : Nat} {ft : Int} : hv F n p (hf n p ft) = hv F n p ft := by
  unfold hv hf
  by_cases q : ft < 0 ∧ p = n
  · rw [if_pos q, if_neg (by omega), if_pos q.1, lk_out (by omega)]
  · rw [if_neg q]
theorem hf_hf {n p : Nat} {ft : Int} : hf n p (hf n p ft) = hf n p ft := by
  unfold hf
  by_cases q : ft < 0 ∧ p = n
  · rw [if_pos q, if_neg (by omega)]
  · rw [if_neg q, if_neg q]
theorem sq_bad {F : Nat → Int} {n : Nat} {A : List (Int × Int)} {s : Nat × Int} (h : 0 ≤ s.2) : sq F n A s = s := if_neg (by omega)
theorem sq_ok {F : Nat → Int} {n : Nat} {A : List (Int × Int)} {s : Nat × Int} (h : (sq F n A s).2 < 0) : s.2 < 0 ∧ (mq F n A s.1).2 = true ∧ (sq F n A s).1 = s.1 + A.length ∧ (sq F n A s).2 = -1 := by
  unfold sq at h ⊢
  split
  · rename_i q
    rw [if_pos q] at h
    by_cases w : (mq F n A s.1).2 = true
    · exact ⟨q, w, mq_len _ _ w, if_pos w⟩
    · replace h : (if (mq F n A s.1).2 = true then -1 else ((mq F n A s.1).1 : Int)) < 0 := h
      rw [if_neg w] at h
      omega
  · rename_i q
    rw [if_neg q] at h
    exact absurd h q
theorem sq_t {F : Nat → Int} {n : Nat} {A : List (Int × Int)} {s : Nat × Int} (q : s.2 < 0) (w : (mq F n A s.1).2 = true) : sq F n A s = (s.1 + A.length, -1) := by
  unfold sq
  rw [if_pos q, if_pos w, mq_len _ _ w]
theorem sq_f {F : Nat → Int} {n : Nat} {A : List (Int × Int)} {s : Nat × Int} (q : s.2 < 0) (w : (mq F n A s.1).2 = false) : sq F n A s = ((mq F n A s.1).1, ((mq F n A s.1).1 : Int)) := by
  unfold sq
  rw [if_pos q, if_neg (by rw [w]; exact Bool.false_ne_true)]
theorem sq_app {F : Nat → Int} {n : Nat} {A B : List (Int × Int)} {s : Nat × Int} : sq F n (A ++ B) s = sq F n B (sq F n A s) := by
  by_cases q : s.2 < 0
  · by_cases w : (mq F n A s.1).2 = true
    · rw [sq_t q w]
      have e := mq_app_ok (B := B) (k := A.length) w rfl
      by_cases z : (mq F n B (s.1 + A.length)).2 = true
      · rw [sq_t q (by rw [e]; exact z), sq_t (s := (s.1 + A.length, -1)) (show (-1 : Int) < 0 by decide) z, List.length_append]
        show (s.1 + (A.length + B.length), (-1 : Int)) = (s.1 + A.length + B.length, -1)
        rw [Nat.add_assoc]
      · have z' := Bool.eq_false_iff.mpr z
        rw [sq_f q (by rw [e]; exact z'), sq_f (s := (s.1 + A.length, -1)) (show (-1 : Int) < 0 by decide) z', e]
    · have w' : (mq F n A s.1).2 = false := Bool.eq_false_iff.mpr w
      rw [sq_f q w', sq_bad (A := B) (s := ((mq F n A s.1).1, ((mq F n A s.1).1 : Int))) (by show (0 : Int) ≤ ((mq F n A s.1).1 : Int); omega), sq_f q (by rw [mq_app_no w']; exact w'), mq_app_no w']
  · rw [sq_bad (A := A ++ B) (by omega), sq_bad (A := A) (by omega), sq_bad (A := B) (by omega)]
theorem sq1_t {F : Nat → Int} {n p : Nat} {ft a b : Int} (q : ft < 0) (w : a ≤ lk F n p ∧ lk F n p ≤ b) : sq F n [(a, b)] (p, ft) = (p + 1, -1) := sq_t (s := (p, ft)) q (by rw [mq1_t w])
theorem sq1_f {F : Nat → Int} {n p : Nat} {ft a b : Int} (q : ft < 0) (w : ¬ (a ≤ lk F n p ∧ lk F n p ≤ b)) : sq F n [(a, b)] (p, ft) = (p, (p : Int)) := by
  rw [sq_f (s := (p, ft)) q (by rw [mq1_f w]), mq1_f w]
theorem sq_r {F : Nat → Int} {n : Nat} {A : List (Int × Int)} {s : Nat × Int} (hA : ∀ a ∈ A, 0 ≤ a.1) (h : s.1 ≤ n) (h2 : -1 ≤ s.2 ∧ s.2 ≤ n) : (sq F n A s).1 ≤ n ∧ -1 ≤ (sq F n A s).2 ∧ (sq F n A s).2 ≤ n := by
  have m := mq_le (F := F) (n := n) hA h
  unfold sq
  split
  · refine ⟨m.2, ?_⟩
    show -1 ≤ (if (mq F n A s.1).2 = true then -1 else ((mq F n A s.1).1 : Int)) ∧ (if (mq F n A s.1).2 = true then -1 else ((mq F n A s.1).1 : Int)) ≤ n
    split <;> omega
  · exact ⟨h, h2⟩
/-- to look and to take are one step -/
theorem sq_1 {F : Nat → Int} {n p : Nat} {ft a b g : Int} (ha : 0 ≤ a) (hp : p ≤ n) (hft : -1 ≤ ft) (hg : g = if a ≤ hv F n p ft ∧ hv F n p ft ≤ b then 1 else 0) : tkP p (hf n p ft) g = (sq F n [(a, b)] (p, ft)).1 ∧ tkF p (hf n p ft) g = (sq F n [(a, b)] (p, ft)).2 := by
  by_cases q : ft < 0
  · have ef : ft = -1 := by omega
    have e : hv F n p ft = lk F n p := if_pos q
    rw [e] at hg
    by_cases w : a ≤ lk F n p ∧ lk F n p ≤ b
    · rw [if_pos w] at hg
      have hl := lk_p (F := F) (n := n) (p := p) (by omega)
      rw [sq1_t q w, hf_p hl]
      unfold tkP tkF
      rw [if_pos ⟨q, by omega⟩, if_neg (by omega)]
      exact ⟨rfl, ef⟩
    · rw [if_neg w] at hg
      rw [sq1_f q w]
      by_cases z : p = n
      · have : hf n p ft = n := if_pos ⟨q, z⟩
        unfold tkP tkF
        rw [this, if_neg (by omega), if_neg (by omega)]
        exact ⟨rfl, by show (n : Int) = (p : Int); omega⟩
      · rw [hf_p (by omega)]
        unfold tkP tkF
        rw [if_neg (by omega), if_pos ⟨q, hg⟩]
        exact ⟨rfl, rfl⟩
  · have e : hf n p ft = ft := if_neg (by omega)
    rw [e, sq_bad (s := (p, ft)) (by show 0 ≤ ft; omega)]
    unfold tkP tkF
    rw [if_neg (by omega), if_neg (by omega)]
    exact ⟨rfl, rfl⟩
theorem sq_hf {F : Nat → Int} {n p : Nat} {ft : Int} {c d : Int} (hc : 0 ≤ c) (hp : p ≤ n) : sq F n [(c, d)] (p, hf n p ft) = sq F n [(c, d)] (p, ft) := by
  unfold hf
  split
  · rename_i q
    rw [sq_bad (s := (p, (n : Int))) (by show (0 : Int) ≤ n; omega), sq1_f q.1 (by rw [lk_out (by omega)]; omega), q.2]
  · rfl
theorem sq_dig {F : Nat → Int} {n p : Nat} {ft : Int} {a b : Int} (ha : 0 ≤ a) (hft : -1 ≤ ft) (h : a ≤ hv F n p ft ∧ hv F n p ft ≤ b) : sq F n [(a, b)] (p, ft) = (p + 1, ft) := by
  obtain ⟨q, _, e⟩ := hv_p (F := F) (n := n) (p := p) (ft := ft) (by omega)
  rw [e] at h
  rw [sq1_t q h, show ft = -1 from by omega]
/-- frames -/
def fq (F : Nat → Int) (n : Nat) (s : Nat × Int) : Nat × Int := if s.2 < 0 then ((frP F n s.1).1, if (frP F n s.1).2 = true then -1 else ((frP F n s.1).1 : Int)) else s
def dgv (F : Nat → Int) (n p : Nat) : Nat → Int → Int
  | 0, a => a
  | j + 1, a => 10 * dgv F n p j a + (lk F n (p + j) - 48)
theorem dn_is {F : Nat → Int} {n : Nat} : ∀ (m p j : Nat), j ≤ m → (∀ i, i < j → 48 ≤ lk F n (p + i) ∧ lk F n (p + i) ≤ 57) → (j < m → ¬ (48 ≤ lk F n (p + j) ∧ lk F n (p + j) ≤ 57)) → dn F n m p = j
  | 0, p, j, h, _, _ => by rw [dn]; omega
  | m + 1, p, 0, _, _, h => by
    rw [dn, if_neg]
    intro w
    exact h (by omega) (mq1_iff.mp w)
  | m + 1, p, j + 1, h, h1, h2 => by
    rw [dn, if_pos (mq1_iff.mpr (h1 0 (by omega))), dn_is m (p + 1) j (by omega) (fun i hi => by have := h1 (i + 1) (by omega); rw [show p + 1 + i = p + (i + 1) from by omega]; exact this) (fun hj => by rw [show p + 1 + j = p + (j + 1) from by omega]; exact h2 (by omega))]
theorem dgv_s {F : Nat → Int} {n p : Nat} : ∀ (j : Nat) (a : Int), dgv F n p (j + 1) a = dgv F n (p + 1) j (10 * a + (lk F n p - 48))
  | 0, a => by simp [dgv]
  | j + 1, a => by
    rw [dgv, dgv_s j a, dgv]
    rw [show p + 1 + j = p + (j + 1) from by omega]
theorem dv_is {F : Nat → Int} {n : Nat} : ∀ (m p j : Nat) (a : Int), j ≤ m → (∀ i, i < j → 48 ≤ lk F n (p + i) ∧ lk F n (p + i) ≤ 57) → (j < m → ¬ (48 ≤ lk F n (p + j) ∧ lk F n (p + j) ≤ 57)) → dv F n m p a = dgv F n p j a
  | 0, p, j, a, h, _, _ => by
    obtain rfl : j = 0 := by omega
    rw [dv, dgv]
  | m + 1, p, 0, a, _, _, h => by
    rw [dv, if_neg, dgv]
    intro w
    exact h (by omega) (mq1_iff.mp w)
  | m + 1, p, j + 1, a, h, h1, h2 => by
    rw [dv, if_pos (mq1_iff.mpr (h1 0 (by omega))), dv_is m (p + 1) j _ (by omega) (fun i hi => by have := h1 (i + 1) (by omega); rw [show p + 1 + i = p + (i + 1) from by omega]; exact this) (fun hj => by rw [show p + 1 + j = p + (j + 1) from by omega]; exact h2 (by omega)), dgv_s]
    congr 1
    omega
/-- the end of the reference's frames: j digits behind the first -/
theorem fq_end {F : Nat → Int} {n j : Nat} {s0 s2 : Nat × Int} (h0 : -1 ≤ s0.2) (h2 : s2 = sq F n (sg 123 ++ dg9) s0) (hj : j ≤ 5) (h1 : ∀ i, i < j → 48 ≤ hv F n (s2.1 + i) s2.2 ∧ hv F n (s2.1 + i) s2.2 ≤ 57) (h3 : j < 5 → ¬ (48 ≤ hv F n (s2.1 + j) s2.2 ∧ hv F n (s2.1 + j) s2.2 ≤ 57)) : sq F n (sg 125) (s2.1 + j, s2.2) = fq F n s0 ∧ ((fq F n s0).2 < 0 → frV F n s0.1 = dgv F n (s0.1 + 2) j (lk F n (s0.1 + 1) - 48)) := by
  by_cases q : s0.2 < 0
  · by_cases w : (mq F n (sg 123 ++ dg9) s0.1).2 = true
    · have e : s2 = (s0.1 + 2, -1) := by
        rw [h2]
        unfold sq
        rw [if_pos q, if_pos w, mq_len _ _ w]
        rfl
      rw [e] at h1 h3 ⊢
      have g : ∀ k, hv F n k (-1) = lk F n k := fun k => if_pos (by decide)
      simp only [g] at h1 h3
      have d := dn_is 5 (s0.1 + 2) j hj h1 h3
      have v := dv_is 5 (s0.1 + 2) j (0 * 10 + (lk F n (s0.1 + 1) - 48)) hj h1 h3
      have ep : frP F n s0.1 = mq F n (sg 125) (s0.1 + 2 + j) := by
        unfold frP
        rw [if_pos w, d]
      refine ⟨?_, fun _ => ?_⟩
      · unfold sq fq
        rw [if_pos q, ep]
        exact if_pos (show (-1 : Int) < 0 by decide)
      · show dv F n 5 (s0.1 + 2) (0 * 10 + (lk F n (s0.1 + 1) - 48)) = _
        rw [v]
        congr 1
        omega
    · have e : s2 = ((mq F n (sg 123 ++ dg9) s0.1).1, ((mq F n (sg 123 ++ dg9) s0.1).1 : Int)) := by
        rw [h2]
        unfold sq
        rw [if_pos q, if_neg w]
      have hb : (0 : Int) ≤ s2.2 := by rw [e]; show (0 : Int) ≤ ((mq F n (sg 123 ++ dg9) s0.1).1 : Int); omega
      have j0 : j = 0 := by
        rcases Nat.eq_zero_or_pos j with z | z
        · exact z
        · have := h1 0 z
          have k : hv F n (s2.1 + 0) s2.2 = -1 := if_neg (by omega)
          omega
      have ep : frP F n s0.1 = mq F n (sg 123 ++ dg9) s0.1 := if_neg w
      have ef : fq F n s0 = s2 := by
        rw [e]
        unfold fq
        rw [if_pos q, ep, if_neg w]
      refine ⟨?_, fun w2 => ?_⟩
      · rw [sq_bad (s := (s2.1 + j, s2.2)) hb, ef, j0]
        rfl
      · rw [ef] at w2
        omega
  · have e : s2 = s0 := by rw [h2, sq_bad (by omega)]
    have ef : fq F n s0 = s0 := if_neg q
    have j0 : j = 0 := by
      rcases Nat.eq_zero_or_pos j with z | z
      · exact z
      · have := h1 0 z
        have k : hv F n (s2.1 + 0) s2.2 = -1 := if_neg (by rw [e]; exact q)
        omega
    rw [ef, e]
    refine ⟨?_, fun w2 => absurd w2 q⟩
    rw [sq_bad (s := (s0.1 + j, s0.2)) (show (0 : Int) ≤ s0.2 by omega), j0]
    rfl
theorem fq_r {F : Nat → Int} {n : Nat} {s : Nat × Int} (h : s.1 ≤ n) (h2 : -1 ≤ s.2 ∧ s.2 ≤ n) : (fq F n s).1 ≤ n ∧ -1 ≤ (fq F n s).2 ∧ (fq F n s).2 ≤ n := by
  have m := frP_le (F := F) (n := n) h
  unfold fq
  split
  · refine ⟨m.2, ?_⟩
    show -1 ≤ (if (frP F n s.1).2 = true then -1 else ((frP F n s.1).1 : Int)) ∧ (if (frP F n s.1).2 = true then -1 else ((frP F n s.1).1 : Int)) ≤ n
    split <;> omega
  · exact ⟨h, h2⟩
/-- a text in the reference's row of texts -/
def tW (E : Nat → Int) (o : Nat) (T : List Int) : Nat → Int := fun j => if o ≤ j then (T[j - o]?).getD (E j) else E j
theorem tW_nil {E : Nat → Int} {o : Nat} : tW E o [] = E := by
  funext j
  unfold tW
  split
  · simp
  · rfl
theorem tW_s {E : Nat → Int} {o : Nat} {T : List Int} {x : Int} : zup (tW E o T) (o + T.length) x = tW E o (T ++ [x]) := by
  funext j
  show (if j = o + T.length then x else if o ≤ j then (T[j - o]?).getD (E j) else E j) = if o ≤ j then ((T ++ [x])[j - o]?).getD (E j) else E j
  by_cases q : o ≤ j
  · rw [if_pos q, if_pos q]
    by_cases w : j - o < T.length
    · rw [if_neg (by omega), List.getElem?_append_left w]
    · rw [List.getElem?_append_right (by omega)]
      by_cases z : j = o + T.length
      · rw [if_pos z, show j - o - T.length = 0 from by omega]; rfl
      · rw [if_neg z, List.getElem?_eq_none (by omega), List.getElem?_eq_none (by simp; omega)]
  · rw [if_neg q, if_neg q, if_neg (by omega)]
theorem tW_at {E : Nat → Int} {o j : Nat} {T : List Int} {x : Int} (h : T[j]? = some x) : tW E o T (o + j) = x := by
  show (if o ≤ o + j then (T[o + j - o]?).getD _ else _) = x
  rw [if_pos (by omega), show o + j - o = j from by omega, h]
  rfl
theorem tW_o {E : Nat → Int} {o j : Nat} {T : List Int} (h : j < o ∨ o + T.length ≤ j) : tW E o T j = E j := by
  unfold tW
  split
  · rw [List.getElem?_eq_none (by omega)]; rfl
  · rfl
def lastZ (T : List Int) : Int := (T.getLast?).getD (-1)
theorem lastZ_k {E : Nat → Int} {o : Nat} {T : List Int} (h : T.length ≠ 0) : tW E o T (o + T.length - 1) = lastZ T := by
  unfold lastZ
  rw [List.getLast?_eq_getElem?]
  rw [show o + T.length - 1 = o + (T.length - 1) from by omega, List.getElem?_eq_getElem (by omega)]
  exact tW_at (List.getElem?_eq_getElem (by omega))
theorem lastZ_s {T : List Int} {x : Int} : lastZ (T ++ [x]) = x := by
  unfold lastZ
  simp
def frZ (T : List Int) (br : Bool) : Int := if T.length = 0 ∨ br = true then 1 else 0
/-- the reference's text with a break that is pending -/
def tR (T : List Int) (br : Bool) : List Int := T ++ (if br then [10] else [])
theorem tR_l {T : List Int} {br : Bool} : ((tR T br).length : Int) = (T.length : Int) + bz br := by
  cases br <;> simp [tR, bz]
theorem tR_s {T : List Int} {br : Bool} {b : Int} : tR T br ++ [b] = lad T br b := by
  cases br <;> simp [tR, lad]
theorem tR_b {T : List Int} : T ++ [10] = tR T true := rfl
theorem tR_f {T : List Int} : tR T false = T := by simp [tR]
theorem isT_1 {b : Int} (h : isTextZ b ≠ 0) : 32 ≤ b ∧ b ≠ 124 ∧ b ≠ 127 := by
  unfold isTextZ at h
  split at h
  · omega
  · omega
theorem isT_0 {b : Int} (h : isTextZ b = 0) (hb : b ≤ 255) : ¬ (32 ≤ b ∧ b ≠ 124 ∧ b ≠ 127) := by
  unfold isTextZ at h
  split at h
  · omega
  · omega
theorem isT_r (b : Int) : isTextZ b = 0 ∨ isTextZ b = 1 := by
  unfold isTextZ
  split <;> omega
theorem ev_cut {G : GT} {M : MT} {R : Room} {Q : Option Value → HM → Prop} {pc : Nat} {L : List (Nat × Value)} {st : List Value} {h : HM} {k n : Nat} (pc2 : Nat) (L2 : List (Nat × Value)) (st2 : List Value) (a : Ev G M R Q pc2 L2 st2 h k n → Ev G M R Q pc L st h k n) (b : Ev G M R Q pc2 L2 st2 h k n) : Ev G M R Q pc L st h k n := a b
set_option maxHeartbeats 4000000 in
set_option maxRecDepth 100000 in
theorem c_Mo_here (G : GT) (h : HM) (σ : Nat → Value) (m bu n p : Nat) (F : Nat → Int) (ft : Int) (hm : h m = some (.inr (11, fsN 34 σ))) (f0 : σ 0 = .int (iZ (n : Int))) (f1 : σ 1 = .ref bu) (f16 : σ 16 = .int (iZ (p : Int))) (f17 : σ 17 = .int (iZ ft)) (hbu : h bu = some (.inl (G_i G, 1000, .inl (iA F)))) (hn : n ≤ 1000) (hp : p ≤ n) (hF : ∀ k, 0 ≤ F k ∧ F k ≤ 255) (hft : -1 ≤ ft ∧ ft ≤ n) : Rn G M_Mo_here (rm 0 0) [.ref m] h (fun r h' => r = some (.int (iZ (hv F n p ft))) ∧ (∃ σ', h' m = some (.inr (11, fsN 34 σ')) ∧ σ' 17 = .int (iZ (hf n p ft)) ∧ Fs [17] σ σ') ∧ Fm [m] h h') := by
  refine rn_of (by decide) (Nat.le_of_ble_eq_true rfl) ?_
  show Ev G M_Mo_here _ _ 0 [(0, .ref m)] [] _ 0 0
  have fm : Fm [m] h h := Fm.rf
  have fs : Fs [17] σ σ := Fs.rf
  refine ev_aload_n d_Mo_here_0 rfl rfl ?_
  refine ev_getF d_Mo_here_1 fl_Mo_107 hm (by decide) f17 ?_
  refine ez_if_ge (tgt := 26) (by omega) d_Mo_here_4 rfl (fun c4 => ?_) (fun c4 => ?_)
  · refine ev_aload_n d_Mo_here_26 rfl rfl ?_
    refine ev_getF d_Mo_here_27 fl_Mo_107 hm (by decide) f17 ?_
    refine ez_if_lt (tgt := 37) (by omega) d_Mo_here_30 rfl (fun c30 => absurd c30 (by omega)) (fun c30 => ?_)
    refine ev_iconst (v := iZ (-1)) d_Mo_here_33 rfl ?_
    refine ev_goto (tgt := 46) d_Mo_here_34 rfl ?_
    exact ev_ireturn d_Mo_here_46 rfl (by decide) (by decide) (⟨by rw [show hv F n p ft = (-1) from if_neg (by omega)], ⟨σ, hm, by rw [show hf n p ft = ft from if_neg (by omega)]; exact f17, fs⟩, fm⟩)
  · refine ev_aload_n d_Mo_here_7 rfl rfl ?_
    refine ev_getF d_Mo_here_8 fl_Mo_110 hm (by decide) f16 ?_
    refine ev_aload_n d_Mo_here_11 rfl rfl ?_
    refine ev_getF d_Mo_here_12 fl_Mo_95 hm (by decide) f0 ?_
    refine ez_icmp_ne (tgt := 26) (by omega) (by omega) d_Mo_here_15 rfl (fun c15 => ?_) (fun c15 => ?_)
    · refine ev_aload_n d_Mo_here_26 rfl rfl ?_
      refine ev_getF d_Mo_here_27 fl_Mo_107 hm (by decide) f17 ?_
      refine ez_if_lt (tgt := 37) (by omega) d_Mo_here_30 rfl (fun c30 => ?_) (fun c30 => absurd c30 (by omega))
      refine ev_aload_n d_Mo_here_37 rfl rfl ?_
      refine ev_getF d_Mo_here_38 fl_Mo_7 hm (by decide) f1 ?_
      refine ev_aload_n d_Mo_here_41 rfl rfl ?_
      refine ev_getF d_Mo_here_42 fl_Mo_110 hm (by decide) f16 ?_
      refine ez_iaload p d_Mo_here_45 hbu (by omega) (by omega) (by decide) ?_
      exact ev_ireturn d_Mo_here_46 rfl (by decide) (by decide) (⟨by rw [show hv F n p ft = F p from (if_pos (by omega)).trans (lk_in (by omega))], ⟨σ, hm, by rw [show hf n p ft = ft from if_neg (by omega)]; exact f17, fs⟩, fm⟩)
    · refine ev_aload_n d_Mo_here_18 rfl rfl ?_
      refine ev_aload_n d_Mo_here_19 rfl rfl ?_
      refine ev_getF d_Mo_here_20 fl_Mo_95 hm (by decide) f0 ?_
      refine ev_putF2 d_Mo_here_23 fw_Mo_107 (Or.inr (fun _ _ _ q => by cases q; rfl)) hm (by decide) rfl rfl (fun h1 σ2 h1a σ2j σ2o h1o => ?_)
      have f0 := (σ2o 0 (by decide)).trans f0
      have f1 := (σ2o 1 (by decide)).trans f1
      have f16 := (σ2o 16 (by decide)).trans f16
      have f17 := σ2j
      have fs := fs.step (by simp) σ2o
      have hbu := (h1o _ (cne hbu hm (by simp))).trans hbu
      have hm := h1a
      have fm := fm.step (by simp) h1o
      refine ev_aload_n d_Mo_here_26 rfl rfl ?_
      refine ev_getF d_Mo_here_27 fl_Mo_107 hm (by decide) f17 ?_
      refine ez_if_lt (tgt := 37) (by omega) d_Mo_here_30 rfl (fun c30 => absurd c30 (by omega)) (fun c30 => ?_)
      refine ev_iconst (v := iZ (-1)) d_Mo_here_33 rfl ?_
      refine ev_goto (tgt := 46) d_Mo_here_34 rfl ?_
      exact ev_ireturn d_Mo_here_46 rfl (by decide) (by decide) (⟨by rw [show hv F n p ft = (-1) from (if_pos (by omega)).trans (lk_out (by omega))], ⟨σ2, hm, by rw [show hf n p ft = (n : Int) from if_pos ⟨by omega, by omega⟩]; exact f17, fs⟩, fm⟩)
set_option maxHeartbeats 4000000 in
set_option maxRecDepth 100000 in
theorem c_Mo_take (G : GT) (h : HM) (σ : Nat → Value) (m p : Nat) (ft g : Int) (hm : h m = some (.inr (11, fsN 34 σ))) (f16 : σ 16 = .int (iZ (p : Int))) (f17 : σ 17 = .int (iZ ft)) (hp : p ≤ 1000) (hft : -1 ≤ ft ∧ ft ≤ 1000) (hg : g = 0 ∨ g = 1) : Rn G M_Mo_take (rm 0 0) [.ref m, .int (iZ g)] h (fun r h' => r = none ∧ (∃ σ', h' m = some (.inr (11, fsN 34 σ')) ∧ σ' 16 = .int (iZ ((tkP p ft g : Nat) : Int)) ∧ σ' 17 = .int (iZ (tkF p ft g)) ∧ Fs [16, 17] σ σ') ∧ Fm [m] h h') := by
  refine rn_of (by decide) (Nat.le_of_ble_eq_true rfl) ?_
  show Ev G M_Mo_take _ _ 0 [(0, .ref m), (1, .int (iZ g))] [] _ 0 0
  have fm : Fm [m] h h := Fm.rf
  have fs : Fs [16, 17] σ σ := Fs.rf
  refine ev_aload_n d_Mo_take_0 rfl rfl ?_
  refine ev_getF d_Mo_take_1 fl_Mo_107 hm (by decide) f17 ?_
  refine ez_if_ge (tgt := 19) (by omega) d_Mo_take_4 rfl (fun c4 => ?_) (fun c4 => ?_)
  · refine ev_aload_n d_Mo_take_19 rfl rfl ?_
    refine ev_aload_n d_Mo_take_20 rfl rfl ?_
    refine ev_getF d_Mo_take_21 fl_Mo_107 hm (by decide) f17 ?_
    refine ez_if_ge (tgt := 36) (by omega) d_Mo_take_24 rfl (fun c24 => ?_) (fun c24 => absurd c24 (by omega))
    refine ev_aload_n d_Mo_take_36 rfl rfl ?_
    refine ev_getF d_Mo_take_37 fl_Mo_110 hm (by decide) f16 ?_
    refine ev_putF2 d_Mo_take_40 fw_Mo_110 (Or.inr (fun _ _ _ q => by cases q; rfl)) hm (by decide) rfl rfl (fun h1 σ2 h1a σ2j σ2o h1o => ?_)
    have f17 := (σ2o 17 (by decide)).trans f17
    have f16 := σ2j
    have fs := fs.step (by simp) σ2o
    have hm := h1a
    have fm := fm.step (by simp) h1o
    exact ev_return d_Mo_take_43 rfl (by decide) (by decide) (⟨rfl, ⟨σ2, hm, by rw [show tkP p ft g = p from if_neg (by omega)]; exact f16, by rw [show tkF p ft g = ft from if_neg (by omega)]; exact f17, fs⟩, fm⟩)
  · refine ev_iload_n d_Mo_take_7 rfl rfl ?_
    refine ez_if_ne (tgt := 19) (by omega) d_Mo_take_8 rfl (fun c8 => ?_) (fun c8 => ?_)
    · refine ev_aload_n d_Mo_take_19 rfl rfl ?_
      refine ev_aload_n d_Mo_take_20 rfl rfl ?_
      refine ev_getF d_Mo_take_21 fl_Mo_107 hm (by decide) f17 ?_
      refine ez_if_ge (tgt := 36) (by omega) d_Mo_take_24 rfl (fun c24 => absurd c24 (by omega)) (fun c24 => ?_)
      refine ev_aload_n d_Mo_take_27 rfl rfl ?_
      refine ev_getF d_Mo_take_28 fl_Mo_110 hm (by decide) f16 ?_
      refine ev_iconst (v := iZ 1) d_Mo_take_31 rfl ?_
      refine ez_iadd d_Mo_take_32 ?_
      rw [show ((p : Int) + 1 : Int) = ((p + 1 : Nat) : Int) from by omega]
      refine ev_goto (tgt := 40) d_Mo_take_33 rfl ?_
      refine ev_putF2 d_Mo_take_40 fw_Mo_110 (Or.inr (fun _ _ _ q => by cases q; rfl)) hm (by decide) rfl rfl (fun h3 σ4 h3a σ4j σ4o h3o => ?_)
      have f17 := (σ4o 17 (by decide)).trans f17
      have f16 := σ4j
      have fs := fs.step (by simp) σ4o
      have hm := h3a
      have fm := fm.step (by simp) h3o
      exact ev_return d_Mo_take_43 rfl (by decide) (by decide) (⟨rfl, ⟨σ4, hm, by rw [show tkP p ft g = p + 1 from if_pos ⟨by omega, by omega⟩]; exact f16, by rw [show tkF p ft g = ft from if_neg (by omega)]; exact f17, fs⟩, fm⟩)
    · refine ev_aload_n d_Mo_take_11 rfl rfl ?_
      refine ev_aload_n d_Mo_take_12 rfl rfl ?_
      refine ev_getF d_Mo_take_13 fl_Mo_110 hm (by decide) f16 ?_
      refine ev_putF2 d_Mo_take_16 fw_Mo_107 (Or.inr (fun _ _ _ q => by cases q; rfl)) hm (by decide) rfl rfl (fun h5 σ6 h5a σ6j σ6o h5o => ?_)
      have f16 := (σ6o 16 (by decide)).trans f16
      have f17 := σ6j
      have fs := fs.step (by simp) σ6o
      have hm := h5a
      have fm := fm.step (by simp) h5o
      refine ev_aload_n d_Mo_take_19 rfl rfl ?_
      refine ev_aload_n d_Mo_take_20 rfl rfl ?_
      refine ev_getF d_Mo_take_21 fl_Mo_107 hm (by decide) f17 ?_
      refine ez_if_ge (tgt := 36) (by omega) d_Mo_take_24 rfl (fun c24 => ?_) (fun c24 => absurd c24 (by omega))
      refine ev_aload_n d_Mo_take_36 rfl rfl ?_
      refine ev_getF d_Mo_take_37 fl_Mo_110 hm (by decide) f16 ?_
      refine ev_putF2 d_Mo_take_40 fw_Mo_110 (Or.inr (fun _ _ _ q => by cases q; rfl)) hm (by decide) rfl rfl (fun h7 σ8 h7a σ8j σ8o h7o => ?_)
      have f17 := (σ8o 17 (by decide)).trans f17
      have f16 := σ8j
      have fs := fs.step (by simp) σ8o
      have hm := h7a
      have fm := fm.step (by simp) h7o
      exact ev_return d_Mo_take_43 rfl (by decide) (by decide) (⟨rfl, ⟨σ8, hm, by rw [show tkP p ft g = p from if_neg (by omega)]; exact f16, by rw [show tkF p ft g = (p : Int) from if_pos ⟨by omega, by omega⟩]; exact f17, fs⟩, fm⟩)
set_option maxHeartbeats 4000000 in
set_option maxRecDepth 100000 in
theorem c_Mo_takeByte (G : GT) (h : HM) (σ : Nat → Value) (m bu n p : Nat) (F : Nat → Int) (ft : Int) (c : Int) (hm : h m = some (.inr (11, fsN 34 σ))) (f0 : σ 0 = .int (iZ (n : Int))) (f1 : σ 1 = .ref bu) (f16 : σ 16 = .int (iZ (p : Int))) (f17 : σ 17 = .int (iZ ft)) (hbu : h bu = some (.inl (G_i G, 1000, .inl (iA F)))) (hn : n ≤ 1000) (hp : p ≤ n) (hF : ∀ k, 0 ≤ F k ∧ F k ≤ 255) (hft : -1 ≤ ft ∧ ft ≤ n) (hc : 0 ≤ c ∧ c ≤ 255) : Rn G M_Mo_takeByte (rm 1 30) [.ref m, .int (iZ c)] h (fun r h' => r = none ∧ (∃ σ', h' m = some (.inr (11, fsN 34 σ')) ∧ σ' 16 = .int (iZ (((sq F n [(c, c)] (p, ft)).1 : Nat) : Int)) ∧ σ' 17 = .int (iZ (sq F n [(c, c)] (p, ft)).2) ∧ Fs [16, 17] σ σ') ∧ Fm [m] h h') := by
  refine rn_of (by decide) (Nat.le_of_ble_eq_true rfl) ?_
  show Ev G M_Mo_takeByte _ _ 0 [(0, .ref m), (1, .int (iZ c))] [] _ 0 0
  have fm : Fm [m] h h := Fm.rf
  have fs : Fs [16, 17] σ σ := Fs.rf
  refine ev_aload_n d_Mo_takeByte_0 rfl rfl ?_
  refine ev_callV M_Mo_here (rm 0 0) _ (As := []) (c_Mo_here G h σ m bu n (p) F (ft) hm f0 f1 f16 f17 hbu hn (by omega) hF (by omega)) d_Mo_takeByte_1 mk_Mo_here ml_Mo_113 mv_Mo_here hm rfl rfl rfl (Nat.le_of_ble_eq_true rfl) ⟨by decide, by decide⟩ ⟨by decide, by decide⟩ (fun r h1 hq => ?_)
  obtain ⟨rfl, ⟨σ2, gm, g17, gs⟩, fmc⟩ := hq
  have hbu := (fmc _ (ninc (cne hbu hm (by simp)) nin0)).trans hbu
  have f0 := (gs 0 (by decide)).trans f0
  have f1 := (gs 1 (by decide)).trans f1
  have f16 := (gs 16 (by decide)).trans f16
  have f17 := g17
  have hm := gm
  have fm := fm.call (by simp) fmc
  have fs := fs.call (by simp) gs
  have hrh1 := hv_r (n := n) (p := p) (ft := ft) hF
  have hkh1 := hf_r (n := n) (p := p) (ft := ft) (by omega) hn
  refine ev_istore_n (L' := [(0, .ref m), (1, .int (iZ c)), (2, .int (iZ (hv F n (p) (ft))))]) d_Mo_takeByte_4 rfl (by decide) rfl ?_
  refine ev_aload_n d_Mo_takeByte_5 rfl rfl ?_
  refine ev_cut 16 [(0, .ref m), (1, .int (iZ c)), (2, .int (iZ (hv F n (p) (ft))))] [.int (iZ (if c ≤ hv F n (p) (ft) ∧ hv F n (p) (ft) ≤ c then 1 else 0)), .ref m] (fun kk => ?_) ?_
  ·
    refine ev_iload_n d_Mo_takeByte_6 rfl rfl ?_
    refine ev_iload_n d_Mo_takeByte_7 rfl rfl ?_
    refine ez_icmp_ne (tgt := 15) (by omega) (by omega) d_Mo_takeByte_8 rfl (fun c8 => ?_) (fun c8 => ?_)
    · refine ev_iconst (v := iZ 0) d_Mo_takeByte_15 rfl ?_
      rw [show (if c ≤ hv F n (p) (ft) ∧ hv F n (p) (ft) ≤ c then 1 else 0 : Int) = 0 from by first | exact if_pos (by omega) | exact if_neg (by omega)] at kk
      exact kk
    · refine ev_iconst (v := iZ 1) d_Mo_takeByte_11 rfl ?_
      refine ev_goto (tgt := 16) d_Mo_takeByte_12 rfl ?_
      rw [show (if c ≤ hv F n (p) (ft) ∧ hv F n (p) (ft) ≤ c then 1 else 0 : Int) = 1 from by first | exact if_pos (by omega) | exact if_neg (by omega)] at kk
      exact kk
  refine ev_callV M_Mo_take (rm 0 0) _ (As := [.int (iZ (if c ≤ hv F n (p) (ft) ∧ hv F n (p) (ft) ≤ c then 1 else 0))]) (c_Mo_take G h1 σ2 m (p) (hf n (p) (ft)) (if c ≤ hv F n (p) (ft) ∧ hv F n (p) (ft) ≤ c then 1 else 0) hm f16 f17 (by omega) (by omega) (by split <;> simp)) d_Mo_takeByte_16 mk_Mo_take ml_Mo_117 mv_Mo_take hm rfl rfl rfl (Nat.le_of_ble_eq_true rfl) ⟨by decide, by decide⟩ ⟨by decide, by decide⟩ (fun r h3 hq => ?_)
  obtain ⟨rfl, ⟨σ4, gm, g16, g17, gs⟩, fmc⟩ := hq
  have q9 := sq_1 (F := F) (n := n) (p := p) (ft := ft) (a := c) (b := c) (by omega) (by omega) (by omega) (rfl : (if c ≤ hv F n (p) (ft) ∧ hv F n (p) (ft) ≤ c then 1 else 0 : Int) = _)
  rw [q9.1] at g16
  rw [q9.2] at g17
  have hbu := (fmc _ (ninc (cne hbu hm (by simp)) nin0)).trans hbu
  have f0 := (gs 0 (by decide)).trans f0
  have f1 := (gs 1 (by decide)).trans f1
  have f16 := g16
  have f17 := g17
  have hm := gm
  have fm := fm.call (by simp) fmc
  have fs := fs.call (by simp) gs
  exact ev_return d_Mo_takeByte_19 rfl (by decide) (by decide) (⟨rfl, ⟨σ4, hm, f16, f17, fs⟩, fm⟩)
set_option maxHeartbeats 4000000 in
set_option maxRecDepth 100000 in
theorem c_Mo_takeDigit (G : GT) (h : HM) (σ : Nat → Value) (m bu n p : Nat) (F : Nat → Int) (ft : Int) (t c : Int) (hm : h m = some (.inr (11, fsN 34 σ))) (f0 : σ 0 = .int (iZ (n : Int))) (f1 : σ 1 = .ref bu) (f16 : σ 16 = .int (iZ (p : Int))) (f17 : σ 17 = .int (iZ ft)) (hbu : h bu = some (.inl (G_i G, 1000, .inl (iA F)))) (hn : n ≤ 1000) (hp : p ≤ n) (hF : ∀ k, 0 ≤ F k ∧ F k ≤ 255) (hft : -1 ≤ ft ∧ ft ≤ n) (hc : 48 + t = c) (hc2 : 48 ≤ c ∧ c ≤ 255) : Rn G M_Mo_takeDigit (rm 1 30) [.ref m, .int (iZ t)] h (fun r h' => r = some (.int (iZ (hv F n p ft - 48))) ∧ (∃ σ', h' m = some (.inr (11, fsN 34 σ')) ∧ σ' 16 = .int (iZ (((sq F n [(48, c)] (p, ft)).1 : Nat) : Int)) ∧ σ' 17 = .int (iZ (sq F n [(48, c)] (p, ft)).2) ∧ Fs [16, 17] σ σ') ∧ Fm [m] h h') := by
  refine rn_of (by decide) (Nat.le_of_ble_eq_true rfl) ?_
  show Ev G M_Mo_takeDigit _ _ 0 [(0, .ref m), (1, .int (iZ t))] [] _ 0 0
  have fm : Fm [m] h h := Fm.rf
  have fs : Fs [16, 17] σ σ := Fs.rf
  refine ev_aload_n d_Mo_takeDigit_0 rfl rfl ?_
  refine ev_callV M_Mo_here (rm 0 0) _ (As := []) (c_Mo_here G h σ m bu n (p) F (ft) hm f0 f1 f16 f17 hbu hn (by omega) hF (by omega)) d_Mo_takeDigit_1 mk_Mo_here ml_Mo_113 mv_Mo_here hm rfl rfl rfl (Nat.le_of_ble_eq_true rfl) ⟨by decide, by decide⟩ ⟨by decide, by decide⟩ (fun r h1 hq => ?_)
  obtain ⟨rfl, ⟨σ2, gm, g17, gs⟩, fmc⟩ := hq
  have hbu := (fmc _ (ninc (cne hbu hm (by simp)) nin0)).trans hbu
  have f0 := (gs 0 (by decide)).trans f0
  have f1 := (gs 1 (by decide)).trans f1
  have f16 := (gs 16 (by decide)).trans f16
  have f17 := g17
  have hm := gm
  have fm := fm.call (by simp) fmc
  have fs := fs.call (by simp) gs
  have hrh1 := hv_r (n := n) (p := p) (ft := ft) hF
  have hkh1 := hf_r (n := n) (p := p) (ft := ft) (by omega) hn
  refine ev_istore_n (L' := [(0, .ref m), (1, .int (iZ t)), (2, .int (iZ (hv F n (p) (ft))))]) d_Mo_takeDigit_4 rfl (by decide) rfl ?_
  refine ev_aload_n d_Mo_takeDigit_5 rfl rfl ?_
  refine ev_cut 25 [(0, .ref m), (1, .int (iZ t)), (2, .int (iZ (hv F n (p) (ft))))] [.int (iZ (if 48 ≤ hv F n (p) (ft) ∧ hv F n (p) (ft) ≤ c then 1 else 0)), .ref m] (fun kk => ?_) ?_
  ·
    refine ev_iload_n d_Mo_takeDigit_6 rfl rfl ?_
    refine ev_bipush (v := iZ 48) d_Mo_takeDigit_7 rfl ?_
    refine ez_icmp_lt (tgt := 24) (by omega) (by decide) d_Mo_takeDigit_9 rfl (fun c9 => ?_) (fun c9 => ?_)
    · refine ev_iconst (v := iZ 0) d_Mo_takeDigit_24 rfl ?_
      rw [show (if 48 ≤ hv F n (p) (ft) ∧ hv F n (p) (ft) ≤ c then 1 else 0 : Int) = 0 from by first | exact if_pos (by omega) | exact if_neg (by omega)] at kk
      exact kk
    · refine ev_iload_n d_Mo_takeDigit_12 rfl rfl ?_
      refine ev_bipush (v := iZ 48) d_Mo_takeDigit_13 rfl ?_
      refine ev_iload_n d_Mo_takeDigit_15 rfl rfl ?_
      refine ez_iadd d_Mo_takeDigit_16 ?_
      refine ez_icmp_gt (tgt := 24) (by omega) (by omega) d_Mo_takeDigit_17 rfl (fun c17 => ?_) (fun c17 => ?_)
      · refine ev_iconst (v := iZ 0) d_Mo_takeDigit_24 rfl ?_
        rw [show (if 48 ≤ hv F n (p) (ft) ∧ hv F n (p) (ft) ≤ c then 1 else 0 : Int) = 0 from by first | exact if_pos (by omega) | exact if_neg (by omega)] at kk
        exact kk
      · refine ev_iconst (v := iZ 1) d_Mo_takeDigit_20 rfl ?_
        refine ev_goto (tgt := 25) d_Mo_takeDigit_21 rfl ?_
        rw [show (if 48 ≤ hv F n (p) (ft) ∧ hv F n (p) (ft) ≤ c then 1 else 0 : Int) = 1 from by first | exact if_pos (by omega) | exact if_neg (by omega)] at kk
        exact kk
  refine ev_callV M_Mo_take (rm 0 0) _ (As := [.int (iZ (if 48 ≤ hv F n (p) (ft) ∧ hv F n (p) (ft) ≤ c then 1 else 0))]) (c_Mo_take G h1 σ2 m (p) (hf n (p) (ft)) (if 48 ≤ hv F n (p) (ft) ∧ hv F n (p) (ft) ≤ c then 1 else 0) hm f16 f17 (by omega) (by omega) (by split <;> simp)) d_Mo_takeDigit_25 mk_Mo_take ml_Mo_117 mv_Mo_take hm rfl rfl rfl (Nat.le_of_ble_eq_true rfl) ⟨by decide, by decide⟩ ⟨by decide, by decide⟩ (fun r h3 hq => ?_)
  obtain ⟨rfl, ⟨σ4, gm, g16, g17, gs⟩, fmc⟩ := hq
  have q9 := sq_1 (F := F) (n := n) (p := p) (ft := ft) (a := 48) (b := c) (by omega) (by omega) (by omega) (rfl : (if 48 ≤ hv F n (p) (ft) ∧ hv F n (p) (ft) ≤ c then 1 else 0 : Int) = _)
  rw [q9.1] at g16
  rw [q9.2] at g17
  have hbu := (fmc _ (ninc (cne hbu hm (by simp)) nin0)).trans hbu
  have f0 := (gs 0 (by decide)).trans f0
  have f1 := (gs 1 (by decide)).trans f1
  have f16 := g16
  have f17 := g17
  have hm := gm
  have fm := fm.call (by simp) fmc
  have fs := fs.call (by simp) gs
  refine ev_iload_n d_Mo_takeDigit_28 rfl rfl ?_
  refine ev_bipush (v := iZ 48) d_Mo_takeDigit_29 rfl ?_
  refine ez_isub d_Mo_takeDigit_31 ?_
  exact ev_ireturn d_Mo_takeDigit_32 rfl (by decide) (by decide) (⟨rfl, ⟨σ4, hm, f16, f17, fs⟩, fm⟩)
set_option maxHeartbeats 4000000 in
set_option maxRecDepth 100000 in
theorem c_Mo_takeClock (G : GT) (h : HM) (σ : Nat → Value) (m bu n : Nat) (F : Nat → Int) (s0 : Nat × Int) (hm : h m = some (.inr (11, fsN 34 σ))) (f0 : σ 0 = .int (iZ (n : Int))) (f1 : σ 1 = .ref bu) (f16 : σ 16 = .int (iZ ((s0.1 : Nat) : Int))) (f17 : σ 17 = .int (iZ s0.2)) (hbu : h bu = some (.inl (G_i G, 1000, .inl (iA F)))) (hn : n ≤ 1000) (hF : ∀ k, 0 ≤ F k ∧ F k ≤ 255) (hs0 : s0.1 ≤ n ∧ -1 ≤ s0.2 ∧ s0.2 ≤ n) : Rn G M_Mo_takeClock (rm 2 60) [.ref m] h (fun r h' => (∃ v : Int, r = some (.long (lZ v)) ∧ ((sq F n patT s0).2 < 0 → v = clk F n s0.1)) ∧ (∃ σ', h' m = some (.inr (11, fsN 34 σ')) ∧ σ' 16 = .int (iZ (((sq F n patT s0).1 : Nat) : Int)) ∧ σ' 17 = .int (iZ (sq F n patT s0).2) ∧ Fs [16, 17] σ σ') ∧ Fm [m] h h') := by
  refine rn_of (by decide) (Nat.le_of_ble_eq_true rfl) ?_
  show Ev G M_Mo_takeClock _ _ 0 [(0, .ref m)] [] _ 0 0
  have fm : Fm [m] h h := Fm.rf
  have fs : Fs [16, 17] σ σ := Fs.rf
  refine ev_lconst (v := lZ 0) d_Mo_takeClock_0 rfl ?_
  refine ev_lstore_n (L' := [(0, .ref m), (1, .long (lZ 0))]) d_Mo_takeClock_1 rfl (by decide) rfl ?_
  refine ev_iconst (v := iZ 0) d_Mo_takeClock_2 rfl ?_
  refine ev_istore_n (L' := [(0, .ref m), (1, .long (lZ 0)), (3, .int (iZ 0))]) d_Mo_takeClock_3 rfl (by decide) rfl ?_
  refine ev_iload_n d_Mo_takeClock_4 rfl rfl ?_
  refine ev_iconst (v := iZ 3) d_Mo_takeClock_5 rfl ?_
  refine ez_icmp_ge (tgt := 63) (by decide) (by decide) d_Mo_takeClock_6 rfl (fun c6 => absurd c6 (by omega)) (fun c6 => ?_)
  refine ev_aload_n d_Mo_takeClock_9 rfl rfl ?_
  refine ev_iconst (v := iZ 5) d_Mo_takeClock_10 rfl ?_
  refine ev_callV M_Mo_takeDigit (rm 1 30) _ (As := [.int (iZ 5)]) (c_Mo_takeDigit G h σ m bu n s0.1 F s0.2 5 53 hm f0 f1 f16 f17 hbu hn (by omega) hF (by omega) (by decide) (by decide)) d_Mo_takeClock_11 mk_Mo_takeDigit ml_Mo_121 mv_Mo_takeDigit hm rfl rfl rfl (Nat.le_of_ble_eq_true rfl) ⟨by decide, by decide⟩ ⟨by decide, by decide⟩ (fun r h1 hq => ?_)
  obtain ⟨rfl, ⟨σ2, gm, g16, g17, gs⟩, fmc⟩ := hq
  obtain ⟨s3, e_s3⟩ : ∃ zz, zz = sq F n [(48, 53)] s0 := ⟨_, rfl⟩
  have r_s3 := sq_r (F := F) (n := n) (A := [(48, 53)]) (s := s0) (by decide) (by show s0.1 ≤ n; omega) (by show -1 ≤ s0.2 ∧ s0.2 ≤ (n : Int); omega)
  rw [← e_s3] at r_s3
  rw [show sq F n [(48, 53)] (s0.1, s0.2) = s3 from e_s3.symm] at g16 g17
  have hbu := (fmc _ (ninc (cne hbu hm (by simp)) nin0)).trans hbu
  have f0 := (gs 0 (by decide)).trans f0
  have f1 := (gs 1 (by decide)).trans f1
  have f16 := g16
  have f17 := g17
  have hm := gm
  have fm := fm.call (by simp) fmc
  have fs := fs.call (by simp) gs
  have v_s3 := hv_r (n := n) (p := s0.1) (ft := s0.2) hF
  refine ev_istore (L' := [(0, .ref m), (1, .long (lZ 0)), (3, .int (iZ 0)), (4, .int (iZ (hv F n s0.1 s0.2 - 48)))]) d_Mo_takeClock_14 (by decide) rfl ?_
  refine ev_aload_n d_Mo_takeClock_16 rfl rfl ?_
  refine ev_bipush (v := iZ 9) d_Mo_takeClock_17 rfl ?_
  refine ev_callV M_Mo_takeDigit (rm 1 30) _ (As := [.int (iZ 9)]) (c_Mo_takeDigit G h1 σ2 m bu n s3.1 F s3.2 9 57 hm f0 f1 f16 f17 hbu hn (by omega) hF (by omega) (by decide) (by decide)) d_Mo_takeClock_19 mk_Mo_takeDigit ml_Mo_121 mv_Mo_takeDigit hm rfl rfl rfl (Nat.le_of_ble_eq_true rfl) ⟨by decide, by decide⟩ ⟨by decide, by decide⟩ (fun r h4 hq => ?_)
  obtain ⟨rfl, ⟨σ5, gm, g16, g17, gs⟩, fmc⟩ := hq
  obtain ⟨s6, e_s6⟩ : ∃ zz, zz = sq F n [(48, 57)] s3 := ⟨_, rfl⟩
  have r_s6 := sq_r (F := F) (n := n) (A := [(48, 57)]) (s := s3) (by decide) (by show s3.1 ≤ n; omega) (by show -1 ≤ s3.2 ∧ s3.2 ≤ (n : Int); omega)
  rw [← e_s6] at r_s6
  rw [show sq F n [(48, 57)] (s3.1, s3.2) = s6 from e_s6.symm] at g16 g17
  have hbu := (fmc _ (ninc (cne hbu hm (by simp)) nin0)).trans hbu
  have f0 := (gs 0 (by decide)).trans f0
  have f1 := (gs 1 (by decide)).trans f1
  have f16 := g16
  have f17 := g17
  have hm := gm
  have fm := fm.call (by simp) fmc
  have fs := fs.call (by simp) gs
  have v_s6 := hv_r (n := n) (p := s3.1) (ft := s3.2) hF
  refine ev_istore (L' := [(0, .ref m), (1, .long (lZ 0)), (3, .int (iZ 0)), (4, .int (iZ (hv F n s0.1 s0.2 - 48))), (5, .int (iZ (hv F n s3.1 s3.2 - 48)))]) d_Mo_takeClock_22 (by decide) rfl ?_
  refine ev_ldc2 (v := lZ 60) d_Mo_takeClock_24 kc_Mo_124 ?_
  refine ev_lload_n d_Mo_takeClock_27 rfl rfl ?_
  refine ez_lmul d_Mo_takeClock_28 ?_
  refine ev_bipush (v := iZ 10) d_Mo_takeClock_29 rfl ?_
  refine ev_iload d_Mo_takeClock_31 rfl ?_
  refine ez_imul d_Mo_takeClock_33 ?_
  refine ez_i2l (by omega) d_Mo_takeClock_34 ?_
  refine ez_ladd d_Mo_takeClock_35 ?_
  refine ev_iload d_Mo_takeClock_36 rfl ?_
  refine ez_i2l (by omega) d_Mo_takeClock_38 ?_
  refine ez_ladd d_Mo_takeClock_39 ?_
  refine ev_lstore_n (L' := [(0, .ref m), (1, .long (lZ ((0 + (10 * (hv F n s0.1 s0.2 - 48))) + (hv F n s3.1 s3.2 - 48)))), (3, .int (iZ 0)), (4, .int (iZ (hv F n s0.1 s0.2 - 48))), (5, .int (iZ (hv F n s3.1 s3.2 - 48)))]) d_Mo_takeClock_40 rfl (by decide) rfl ?_
  refine ev_aload_n d_Mo_takeClock_41 rfl rfl ?_
  refine ev_iload_n d_Mo_takeClock_42 rfl rfl ?_
  refine ev_iconst (v := iZ 2) d_Mo_takeClock_43 rfl ?_
  refine ez_icmp_ge (tgt := 52) (by decide) (by decide) d_Mo_takeClock_44 rfl (fun c44 => absurd c44 (by omega)) (fun c44 => ?_)
  refine ev_bipush (v := iZ 58) d_Mo_takeClock_47 rfl ?_
  refine ev_goto (tgt := 54) d_Mo_takeClock_49 rfl ?_
  refine ev_callV M_Mo_takeByte (rm 1 30) _ (As := [.int (iZ 58)]) (c_Mo_takeByte G h4 σ5 m bu n s6.1 F s6.2 58 hm f0 f1 f16 f17 hbu hn (by omega) hF (by omega) (by decide)) d_Mo_takeClock_54 mk_Mo_takeByte ml_Mo_126 mv_Mo_takeByte hm rfl rfl rfl (Nat.le_of_ble_eq_true rfl) ⟨by decide, by decide⟩ ⟨by decide, by decide⟩ (fun r h7 hq => ?_)
  obtain ⟨rfl, ⟨σ8, gm, g16, g17, gs⟩, fmc⟩ := hq
  obtain ⟨s9, e_s9⟩ : ∃ zz, zz = sq F n [(58, 58)] s6 := ⟨_, rfl⟩
  have r_s9 := sq_r (F := F) (n := n) (A := [(58, 58)]) (s := s6) (by decide) (by show s6.1 ≤ n; omega) (by show -1 ≤ s6.2 ∧ s6.2 ≤ (n : Int); omega)
  rw [← e_s9] at r_s9
  rw [show sq F n [(58, 58)] (s6.1, s6.2) = s9 from e_s9.symm] at g16 g17
  have hbu := (fmc _ (ninc (cne hbu hm (by simp)) nin0)).trans hbu
  have f0 := (gs 0 (by decide)).trans f0
  have f1 := (gs 1 (by decide)).trans f1
  have f16 := g16
  have f17 := g17
  have hm := gm
  have fm := fm.call (by simp) fmc
  have fs := fs.call (by simp) gs
  refine ez_iinc (L' := [(0, .ref m), (1, .long (lZ ((0 + (10 * (hv F n s0.1 s0.2 - 48))) + (hv F n s3.1 s3.2 - 48)))), (3, .int (iZ 1)), (4, .int (iZ (hv F n s0.1 s0.2 - 48))), (5, .int (iZ (hv F n s3.1 s3.2 - 48)))]) d_Mo_takeClock_57 rfl (by decide) rfl ?_
  refine ev_goto (tgt := 4) d_Mo_takeClock_60 rfl ?_
  refine ev_iload_n d_Mo_takeClock_4 rfl rfl ?_
  refine ev_iconst (v := iZ 3) d_Mo_takeClock_5 rfl ?_
  refine ez_icmp_ge (tgt := 63) (by decide) (by decide) d_Mo_takeClock_6 rfl (fun c6 => absurd c6 (by omega)) (fun c6 => ?_)
  refine ev_aload_n d_Mo_takeClock_9 rfl rfl ?_
  refine ev_iconst (v := iZ 5) d_Mo_takeClock_10 rfl ?_
  refine ev_callV M_Mo_takeDigit (rm 1 30) _ (As := [.int (iZ 5)]) (c_Mo_takeDigit G h7 σ8 m bu n s9.1 F s9.2 5 53 hm f0 f1 f16 f17 hbu hn (by omega) hF (by omega) (by decide) (by decide)) d_Mo_takeClock_11 mk_Mo_takeDigit ml_Mo_121 mv_Mo_takeDigit hm rfl rfl rfl (Nat.le_of_ble_eq_true rfl) ⟨by decide, by decide⟩ ⟨by decide, by decide⟩ (fun r h10 hq => ?_)
  obtain ⟨rfl, ⟨σ11, gm, g16, g17, gs⟩, fmc⟩ := hq
  obtain ⟨s12, e_s12⟩ : ∃ zz, zz = sq F n [(48, 53)] s9 := ⟨_, rfl⟩
  have r_s12 := sq_r (F := F) (n := n) (A := [(48, 53)]) (s := s9) (by decide) (by show s9.1 ≤ n; omega) (by show -1 ≤ s9.2 ∧ s9.2 ≤ (n : Int); omega)
  rw [← e_s12] at r_s12
  rw [show sq F n [(48, 53)] (s9.1, s9.2) = s12 from e_s12.symm] at g16 g17
  have hbu := (fmc _ (ninc (cne hbu hm (by simp)) nin0)).trans hbu
  have f0 := (gs 0 (by decide)).trans f0
  have f1 := (gs 1 (by decide)).trans f1
  have f16 := g16
  have f17 := g17
  have hm := gm
  have fm := fm.call (by simp) fmc
  have fs := fs.call (by simp) gs
  have v_s12 := hv_r (n := n) (p := s9.1) (ft := s9.2) hF
  refine ev_istore (L' := [(0, .ref m), (1, .long (lZ ((0 + (10 * (hv F n s0.1 s0.2 - 48))) + (hv F n s3.1 s3.2 - 48)))), (3, .int (iZ 1)), (4, .int (iZ (hv F n s9.1 s9.2 - 48))), (5, .int (iZ (hv F n s3.1 s3.2 - 48)))]) d_Mo_takeClock_14 (by decide) rfl ?_
  refine ev_aload_n d_Mo_takeClock_16 rfl rfl ?_
  refine ev_bipush (v := iZ 9) d_Mo_takeClock_17 rfl ?_
  refine ev_callV M_Mo_takeDigit (rm 1 30) _ (As := [.int (iZ 9)]) (c_Mo_takeDigit G h10 σ11 m bu n s12.1 F s12.2 9 57 hm f0 f1 f16 f17 hbu hn (by omega) hF (by omega) (by decide) (by decide)) d_Mo_takeClock_19 mk_Mo_takeDigit ml_Mo_121 mv_Mo_takeDigit hm rfl rfl rfl (Nat.le_of_ble_eq_true rfl) ⟨by decide, by decide⟩ ⟨by decide, by decide⟩ (fun r h13 hq => ?_)
  obtain ⟨rfl, ⟨σ14, gm, g16, g17, gs⟩, fmc⟩ := hq
  obtain ⟨s15, e_s15⟩ : ∃ zz, zz = sq F n [(48, 57)] s12 := ⟨_, rfl⟩
  have r_s15 := sq_r (F := F) (n := n) (A := [(48, 57)]) (s := s12) (by decide) (by show s12.1 ≤ n; omega) (by show -1 ≤ s12.2 ∧ s12.2 ≤ (n : Int); omega)
  rw [← e_s15] at r_s15
  rw [show sq F n [(48, 57)] (s12.1, s12.2) = s15 from e_s15.symm] at g16 g17
  have hbu := (fmc _ (ninc (cne hbu hm (by simp)) nin0)).trans hbu
  have f0 := (gs 0 (by decide)).trans f0
  have f1 := (gs 1 (by decide)).trans f1
  have f16 := g16
  have f17 := g17
  have hm := gm
  have fm := fm.call (by simp) fmc
  have fs := fs.call (by simp) gs
  have v_s15 := hv_r (n := n) (p := s12.1) (ft := s12.2) hF
  refine ev_istore (L' := [(0, .ref m), (1, .long (lZ ((0 + (10 * (hv F n s0.1 s0.2 - 48))) + (hv F n s3.1 s3.2 - 48)))), (3, .int (iZ 1)), (4, .int (iZ (hv F n s9.1 s9.2 - 48))), (5, .int (iZ (hv F n s12.1 s12.2 - 48)))]) d_Mo_takeClock_22 (by decide) rfl ?_
  refine ev_ldc2 (v := lZ 60) d_Mo_takeClock_24 kc_Mo_124 ?_
  refine ev_lload_n d_Mo_takeClock_27 rfl rfl ?_
  refine ez_lmul d_Mo_takeClock_28 ?_
  refine ev_bipush (v := iZ 10) d_Mo_takeClock_29 rfl ?_
  refine ev_iload d_Mo_takeClock_31 rfl ?_
  refine ez_imul d_Mo_takeClock_33 ?_
  refine ez_i2l (by omega) d_Mo_takeClock_34 ?_
  refine ez_ladd d_Mo_takeClock_35 ?_
  refine ev_iload d_Mo_takeClock_36 rfl ?_
  refine ez_i2l (by omega) d_Mo_takeClock_38 ?_
  refine ez_ladd d_Mo_takeClock_39 ?_
  refine ev_lstore_n (L' := [(0, .ref m), (1, .long (lZ (((60 * ((0 + (10 * (hv F n s0.1 s0.2 - 48))) + (hv F n s3.1 s3.2 - 48))) + (10 * (hv F n s9.1 s9.2 - 48))) + (hv F n s12.1 s12.2 - 48)))), (3, .int (iZ 1)), (4, .int (iZ (hv F n s9.1 s9.2 - 48))), (5, .int (iZ (hv F n s12.1 s12.2 - 48)))]) d_Mo_takeClock_40 rfl (by decide) rfl ?_
  refine ev_aload_n d_Mo_takeClock_41 rfl rfl ?_
  refine ev_iload_n d_Mo_takeClock_42 rfl rfl ?_
  refine ev_iconst (v := iZ 2) d_Mo_takeClock_43 rfl ?_
  refine ez_icmp_ge (tgt := 52) (by decide) (by decide) d_Mo_takeClock_44 rfl (fun c44 => absurd c44 (by omega)) (fun c44 => ?_)
  refine ev_bipush (v := iZ 58) d_Mo_takeClock_47 rfl ?_
  refine ev_goto (tgt := 54) d_Mo_takeClock_49 rfl ?_
  refine ev_callV M_Mo_takeByte (rm 1 30) _ (As := [.int (iZ 58)]) (c_Mo_takeByte G h13 σ14 m bu n s15.1 F s15.2 58 hm f0 f1 f16 f17 hbu hn (by omega) hF (by omega) (by decide)) d_Mo_takeClock_54 mk_Mo_takeByte ml_Mo_126 mv_Mo_takeByte hm rfl rfl rfl (Nat.le_of_ble_eq_true rfl) ⟨by decide, by decide⟩ ⟨by decide, by decide⟩ (fun r h16 hq => ?_)
  obtain ⟨rfl, ⟨σ17, gm, g16, g17, gs⟩, fmc⟩ := hq
  obtain ⟨s18, e_s18⟩ : ∃ zz, zz = sq F n [(58, 58)] s15 := ⟨_, rfl⟩
  have r_s18 := sq_r (F := F) (n := n) (A := [(58, 58)]) (s := s15) (by decide) (by show s15.1 ≤ n; omega) (by show -1 ≤ s15.2 ∧ s15.2 ≤ (n : Int); omega)
  rw [← e_s18] at r_s18
  rw [show sq F n [(58, 58)] (s15.1, s15.2) = s18 from e_s18.symm] at g16 g17
  have hbu := (fmc _ (ninc (cne hbu hm (by simp)) nin0)).trans hbu
  have f0 := (gs 0 (by decide)).trans f0
  have f1 := (gs 1 (by decide)).trans f1
  have f16 := g16
  have f17 := g17
  have hm := gm
  have fm := fm.call (by simp) fmc
  have fs := fs.call (by simp) gs
  refine ez_iinc (L' := [(0, .ref m), (1, .long (lZ (((60 * ((0 + (10 * (hv F n s0.1 s0.2 - 48))) + (hv F n s3.1 s3.2 - 48))) + (10 * (hv F n s9.1 s9.2 - 48))) + (hv F n s12.1 s12.2 - 48)))), (3, .int (iZ 2)), (4, .int (iZ (hv F n s9.1 s9.2 - 48))), (5, .int (iZ (hv F n s12.1 s12.2 - 48)))]) d_Mo_takeClock_57 rfl (by decide) rfl ?_
  refine ev_goto (tgt := 4) d_Mo_takeClock_60 rfl ?_
  refine ev_iload_n d_Mo_takeClock_4 rfl rfl ?_
  refine ev_iconst (v := iZ 3) d_Mo_takeClock_5 rfl ?_
  refine ez_icmp_ge (tgt := 63) (by decide) (by decide) d_Mo_takeClock_6 rfl (fun c6 => absurd c6 (by omega)) (fun c6 => ?_)
  refine ev_aload_n d_Mo_takeClock_9 rfl rfl ?_
  refine ev_iconst (v := iZ 5) d_Mo_takeClock_10 rfl ?_
  refine ev_callV M_Mo_takeDigit (rm 1 30) _ (As := [.int (iZ 5)]) (c_Mo_takeDigit G h16 σ17 m bu n s18.1 F s18.2 5 53 hm f0 f1 f16 f17 hbu hn (by omega) hF (by omega) (by decide) (by decide)) d_Mo_takeClock_11 mk_Mo_takeDigit ml_Mo_121 mv_Mo_takeDigit hm rfl rfl rfl (Nat.le_of_ble_eq_true rfl) ⟨by decide, by decide⟩ ⟨by decide, by decide⟩ (fun r h19 hq => ?_)
  obtain ⟨rfl, ⟨σ20, gm, g16, g17, gs⟩, fmc⟩ := hq
  obtain ⟨s21, e_s21⟩ : ∃ zz, zz = sq F n [(48, 53)] s18 := ⟨_, rfl⟩
  have r_s21 := sq_r (F := F) (n := n) (A := [(48, 53)]) (s := s18) (by decide) (by show s18.1 ≤ n; omega) (by show -1 ≤ s18.2 ∧ s18.2 ≤ (n : Int); omega)
  rw [← e_s21] at r_s21
  rw [show sq F n [(48, 53)] (s18.1, s18.2) = s21 from e_s21.symm] at g16 g17
  have hbu := (fmc _ (ninc (cne hbu hm (by simp)) nin0)).trans hbu
  have f0 := (gs 0 (by decide)).trans f0
  have f1 := (gs 1 (by decide)).trans f1
  have f16 := g16
  have f17 := g17
  have hm := gm
  have fm := fm.call (by simp) fmc
  have fs := fs.call (by simp) gs
  have v_s21 := hv_r (n := n) (p := s18.1) (ft := s18.2) hF
  refine ev_istore (L' := [(0, .ref m), (1, .long (lZ (((60 * ((0 + (10 * (hv F n s0.1 s0.2 - 48))) + (hv F n s3.1 s3.2 - 48))) + (10 * (hv F n s9.1 s9.2 - 48))) + (hv F n s12.1 s12.2 - 48)))), (3, .int (iZ 2)), (4, .int (iZ (hv F n s18.1 s18.2 - 48))), (5, .int (iZ (hv F n s12.1 s12.2 - 48)))]) d_Mo_takeClock_14 (by decide) rfl ?_
  refine ev_aload_n d_Mo_takeClock_16 rfl rfl ?_
  refine ev_bipush (v := iZ 9) d_Mo_takeClock_17 rfl ?_
  refine ev_callV M_Mo_takeDigit (rm 1 30) _ (As := [.int (iZ 9)]) (c_Mo_takeDigit G h19 σ20 m bu n s21.1 F s21.2 9 57 hm f0 f1 f16 f17 hbu hn (by omega) hF (by omega) (by decide) (by decide)) d_Mo_takeClock_19 mk_Mo_takeDigit ml_Mo_121 mv_Mo_takeDigit hm rfl rfl rfl (Nat.le_of_ble_eq_true rfl) ⟨by decide, by decide⟩ ⟨by decide, by decide⟩ (fun r h22 hq => ?_)
  obtain ⟨rfl, ⟨σ23, gm, g16, g17, gs⟩, fmc⟩ := hq
  obtain ⟨s24, e_s24⟩ : ∃ zz, zz = sq F n [(48, 57)] s21 := ⟨_, rfl⟩
  have r_s24 := sq_r (F := F) (n := n) (A := [(48, 57)]) (s := s21) (by decide) (by show s21.1 ≤ n; omega) (by show -1 ≤ s21.2 ∧ s21.2 ≤ (n : Int); omega)
  rw [← e_s24] at r_s24
  rw [show sq F n [(48, 57)] (s21.1, s21.2) = s24 from e_s24.symm] at g16 g17
  have hbu := (fmc _ (ninc (cne hbu hm (by simp)) nin0)).trans hbu
  have f0 := (gs 0 (by decide)).trans f0
  have f1 := (gs 1 (by decide)).trans f1
  have f16 := g16
  have f17 := g17
  have hm := gm
  have fm := fm.call (by simp) fmc
  have fs := fs.call (by simp) gs
  have v_s24 := hv_r (n := n) (p := s21.1) (ft := s21.2) hF
  refine ev_istore (L' := [(0, .ref m), (1, .long (lZ (((60 * ((0 + (10 * (hv F n s0.1 s0.2 - 48))) + (hv F n s3.1 s3.2 - 48))) + (10 * (hv F n s9.1 s9.2 - 48))) + (hv F n s12.1 s12.2 - 48)))), (3, .int (iZ 2)), (4, .int (iZ (hv F n s18.1 s18.2 - 48))), (5, .int (iZ (hv F n s21.1 s21.2 - 48)))]) d_Mo_takeClock_22 (by decide) rfl ?_
  refine ev_ldc2 (v := lZ 60) d_Mo_takeClock_24 kc_Mo_124 ?_
  refine ev_lload_n d_Mo_takeClock_27 rfl rfl ?_
  refine ez_lmul d_Mo_takeClock_28 ?_
  refine ev_bipush (v := iZ 10) d_Mo_takeClock_29 rfl ?_
  refine ev_iload d_Mo_takeClock_31 rfl ?_
  refine ez_imul d_Mo_takeClock_33 ?_
  refine ez_i2l (by omega) d_Mo_takeClock_34 ?_
  refine ez_ladd d_Mo_takeClock_35 ?_
  refine ev_iload d_Mo_takeClock_36 rfl ?_
  refine ez_i2l (by omega) d_Mo_takeClock_38 ?_
  refine ez_ladd d_Mo_takeClock_39 ?_
  refine ev_lstore_n (L' := [(0, .ref m), (1, .long (lZ (((60 * (((60 * ((0 + (10 * (hv F n s0.1 s0.2 - 48))) + (hv F n s3.1 s3.2 - 48))) + (10 * (hv F n s9.1 s9.2 - 48))) + (hv F n s12.1 s12.2 - 48))) + (10 * (hv F n s18.1 s18.2 - 48))) + (hv F n s21.1 s21.2 - 48)))), (3, .int (iZ 2)), (4, .int (iZ (hv F n s18.1 s18.2 - 48))), (5, .int (iZ (hv F n s21.1 s21.2 - 48)))]) d_Mo_takeClock_40 rfl (by decide) rfl ?_
  refine ev_aload_n d_Mo_takeClock_41 rfl rfl ?_
  refine ev_iload_n d_Mo_takeClock_42 rfl rfl ?_
  refine ev_iconst (v := iZ 2) d_Mo_takeClock_43 rfl ?_
  refine ez_icmp_ge (tgt := 52) (by decide) (by decide) d_Mo_takeClock_44 rfl (fun c44 => ?_) (fun c44 => absurd c44 (by omega))
  refine ev_bipush (v := iZ 44) d_Mo_takeClock_52 rfl ?_
  refine ev_callV M_Mo_takeByte (rm 1 30) _ (As := [.int (iZ 44)]) (c_Mo_takeByte G h22 σ23 m bu n s24.1 F s24.2 44 hm f0 f1 f16 f17 hbu hn (by omega) hF (by omega) (by decide)) d_Mo_takeClock_54 mk_Mo_takeByte ml_Mo_126 mv_Mo_takeByte hm rfl rfl rfl (Nat.le_of_ble_eq_true rfl) ⟨by decide, by decide⟩ ⟨by decide, by decide⟩ (fun r h25 hq => ?_)
  obtain ⟨rfl, ⟨σ26, gm, g16, g17, gs⟩, fmc⟩ := hq
  obtain ⟨s27, e_s27⟩ : ∃ zz, zz = sq F n [(44, 44)] s24 := ⟨_, rfl⟩
  have r_s27 := sq_r (F := F) (n := n) (A := [(44, 44)]) (s := s24) (by decide) (by show s24.1 ≤ n; omega) (by show -1 ≤ s24.2 ∧ s24.2 ≤ (n : Int); omega)
  rw [← e_s27] at r_s27
  rw [show sq F n [(44, 44)] (s24.1, s24.2) = s27 from e_s27.symm] at g16 g17
  have hbu := (fmc _ (ninc (cne hbu hm (by simp)) nin0)).trans hbu
  have f0 := (gs 0 (by decide)).trans f0
  have f1 := (gs 1 (by decide)).trans f1
  have f16 := g16
  have f17 := g17
  have hm := gm
  have fm := fm.call (by simp) fmc
  have fs := fs.call (by simp) gs
  refine ez_iinc (L' := [(0, .ref m), (1, .long (lZ (((60 * (((60 * ((0 + (10 * (hv F n s0.1 s0.2 - 48))) + (hv F n s3.1 s3.2 - 48))) + (10 * (hv F n s9.1 s9.2 - 48))) + (hv F n s12.1 s12.2 - 48))) + (10 * (hv F n s18.1 s18.2 - 48))) + (hv F n s21.1 s21.2 - 48)))), (3, .int (iZ 3)), (4, .int (iZ (hv F n s18.1 s18.2 - 48))), (5, .int (iZ (hv F n s21.1 s21.2 - 48)))]) d_Mo_takeClock_57 rfl (by decide) rfl ?_
  refine ev_goto (tgt := 4) d_Mo_takeClock_60 rfl ?_
  refine ev_iload_n d_Mo_takeClock_4 rfl rfl ?_
  refine ev_iconst (v := iZ 3) d_Mo_takeClock_5 rfl ?_
  refine ez_icmp_ge (tgt := 63) (by decide) (by decide) d_Mo_takeClock_6 rfl (fun c6 => ?_) (fun c6 => absurd c6 (by omega))
  refine ev_iconst (v := iZ 0) d_Mo_takeClock_63 rfl ?_
  refine ev_istore_n (L' := [(0, .ref m), (1, .long (lZ (((60 * (((60 * ((0 + (10 * (hv F n s0.1 s0.2 - 48))) + (hv F n s3.1 s3.2 - 48))) + (10 * (hv F n s9.1 s9.2 - 48))) + (hv F n s12.1 s12.2 - 48))) + (10 * (hv F n s18.1 s18.2 - 48))) + (hv F n s21.1 s21.2 - 48)))), (3, .int (iZ 0)), (4, .int (iZ (hv F n s18.1 s18.2 - 48))), (5, .int (iZ (hv F n s21.1 s21.2 - 48)))]) d_Mo_takeClock_64 rfl (by decide) rfl ?_
  refine ev_iload_n d_Mo_takeClock_65 rfl rfl ?_
  refine ev_iconst (v := iZ 3) d_Mo_takeClock_66 rfl ?_
  refine ez_icmp_ge (tgt := 90) (by decide) (by decide) d_Mo_takeClock_67 rfl (fun c67 => absurd c67 (by omega)) (fun c67 => ?_)
  refine ev_ldc2 (v := lZ 10) d_Mo_takeClock_70 kc_Mo_130 ?_
  refine ev_lload_n d_Mo_takeClock_73 rfl rfl ?_
  refine ez_lmul d_Mo_takeClock_74 ?_
  refine ev_aload_n d_Mo_takeClock_75 rfl rfl ?_
  refine ev_bipush (v := iZ 9) d_Mo_takeClock_76 rfl ?_
  refine ev_callV M_Mo_takeDigit (rm 1 30) _ (As := [.int (iZ 9)]) (c_Mo_takeDigit G h25 σ26 m bu n s27.1 F s27.2 9 57 hm f0 f1 f16 f17 hbu hn (by omega) hF (by omega) (by decide) (by decide)) d_Mo_takeClock_78 mk_Mo_takeDigit ml_Mo_121 mv_Mo_takeDigit hm rfl rfl rfl (Nat.le_of_ble_eq_true rfl) ⟨by decide, by decide⟩ ⟨by decide, by decide⟩ (fun r h28 hq => ?_)
  obtain ⟨rfl, ⟨σ29, gm, g16, g17, gs⟩, fmc⟩ := hq
  obtain ⟨s30, e_s30⟩ : ∃ zz, zz = sq F n [(48, 57)] s27 := ⟨_, rfl⟩
  have r_s30 := sq_r (F := F) (n := n) (A := [(48, 57)]) (s := s27) (by decide) (by show s27.1 ≤ n; omega) (by show -1 ≤ s27.2 ∧ s27.2 ≤ (n : Int); omega)
  rw [← e_s30] at r_s30
  rw [show sq F n [(48, 57)] (s27.1, s27.2) = s30 from e_s30.symm] at g16 g17
  have hbu := (fmc _ (ninc (cne hbu hm (by simp)) nin0)).trans hbu
  have f0 := (gs 0 (by decide)).trans f0
  have f1 := (gs 1 (by decide)).trans f1
  have f16 := g16
  have f17 := g17
  have hm := gm
  have fm := fm.call (by simp) fmc
  have fs := fs.call (by simp) gs
  have v_s30 := hv_r (n := n) (p := s27.1) (ft := s27.2) hF
  refine ez_i2l (by omega) d_Mo_takeClock_81 ?_
  refine ez_ladd d_Mo_takeClock_82 ?_
  refine ev_lstore_n (L' := [(0, .ref m), (1, .long (lZ ((10 * (((60 * (((60 * ((0 + (10 * (hv F n s0.1 s0.2 - 48))) + (hv F n s3.1 s3.2 - 48))) + (10 * (hv F n s9.1 s9.2 - 48))) + (hv F n s12.1 s12.2 - 48))) + (10 * (hv F n s18.1 s18.2 - 48))) + (hv F n s21.1 s21.2 - 48))) + (hv F n s27.1 s27.2 - 48)))), (3, .int (iZ 0)), (4, .int (iZ (hv F n s18.1 s18.2 - 48))), (5, .int (iZ (hv F n s21.1 s21.2 - 48)))]) d_Mo_takeClock_83 rfl (by decide) rfl ?_
  refine ez_iinc (L' := [(0, .ref m), (1, .long (lZ ((10 * (((60 * (((60 * ((0 + (10 * (hv F n s0.1 s0.2 - 48))) + (hv F n s3.1 s3.2 - 48))) + (10 * (hv F n s9.1 s9.2 - 48))) + (hv F n s12.1 s12.2 - 48))) + (10 * (hv F n s18.1 s18.2 - 48))) + (hv F n s21.1 s21.2 - 48))) + (hv F n s27.1 s27.2 - 48)))), (3, .int (iZ 1)), (4, .int (iZ (hv F n s18.1 s18.2 - 48))), (5, .int (iZ (hv F n s21.1 s21.2 - 48)))]) d_Mo_takeClock_84 rfl (by decide) rfl ?_
  refine ev_goto (tgt := 65) d_Mo_takeClock_87 rfl ?_
  refine ev_iload_n d_Mo_takeClock_65 rfl rfl ?_
  refine ev_iconst (v := iZ 3) d_Mo_takeClock_66 rfl ?_
  refine ez_icmp_ge (tgt := 90) (by decide) (by decide) d_Mo_takeClock_67 rfl (fun c67 => absurd c67 (by omega)) (fun c67 => ?_)
  refine ev_ldc2 (v := lZ 10) d_Mo_takeClock_70 kc_Mo_130 ?_
  refine ev_lload_n d_Mo_takeClock_73 rfl rfl ?_
  refine ez_lmul d_Mo_takeClock_74 ?_
  refine ev_aload_n d_Mo_takeClock_75 rfl rfl ?_
  refine ev_bipush (v := iZ 9) d_Mo_takeClock_76 rfl ?_
  refine ev_callV M_Mo_takeDigit (rm 1 30) _ (As := [.int (iZ 9)]) (c_Mo_takeDigit G h28 σ29 m bu n s30.1 F s30.2 9 57 hm f0 f1 f16 f17 hbu hn (by omega) hF (by omega) (by decide) (by decide)) d_Mo_takeClock_78 mk_Mo_takeDigit ml_Mo_121 mv_Mo_takeDigit hm rfl rfl rfl (Nat.le_of_ble_eq_true rfl) ⟨by decide, by decide⟩ ⟨by decide, by decide⟩ (fun r h31 hq => ?_)
  obtain ⟨rfl, ⟨σ32, gm, g16, g17, gs⟩, fmc⟩ := hq
  obtain ⟨s33, e_s33⟩ : ∃ zz, zz = sq F n [(48, 57)] s30 := ⟨_, rfl⟩
  have r_s33 := sq_r (F := F) (n := n) (A := [(48, 57)]) (s := s30) (by decide) (by show s30.1 ≤ n; omega) (by show -1 ≤ s30.2 ∧ s30.2 ≤ (n : Int); omega)
  rw [← e_s33] at r_s33
  rw [show sq F n [(48, 57)] (s30.1, s30.2) = s33 from e_s33.symm] at g16 g17
  have hbu := (fmc _ (ninc (cne hbu hm (by simp)) nin0)).trans hbu
  have f0 := (gs 0 (by decide)).trans f0
  have f1 := (gs 1 (by decide)).trans f1
  have f16 := g16
  have f17 := g17
  have hm := gm
  have fm := fm.call (by simp) fmc
  have fs := fs.call (by simp) gs
  have v_s33 := hv_r (n := n) (p := s30.1) (ft := s30.2) hF
  refine ez_i2l (by omega) d_Mo_takeClock_81 ?_
  refine ez_ladd d_Mo_takeClock_82 ?_
  refine ev_lstore_n (L' := [(0, .ref m), (1, .long (lZ ((10 * ((10 * (((60 * (((60 * ((0 + (10 * (hv F n s0.1 s0.2 - 48))) + (hv F n s3.1 s3.2 - 48))) + (10 * (hv F n s9.1 s9.2 - 48))) + (hv F n s12.1 s12.2 - 48))) + (10 * (hv F n s18.1 s18.2 - 48))) + (hv F n s21.1 s21.2 - 48))) + (hv F n s27.1 s27.2 - 48))) + (hv F n s30.1 s30.2 - 48)))), (3, .int (iZ 1)), (4, .int (iZ (hv F n s18.1 s18.2 - 48))), (5, .int (iZ (hv F n s21.1 s21.2 - 48)))]) d_Mo_takeClock_83 rfl (by decide) rfl ?_
  refine ez_iinc (L' := [(0, .ref m), (1, .long (lZ ((10 * ((10 * (((60 * (((60 * ((0 + (10 * (hv F n s0.1 s0.2 - 48))) + (hv F n s3.1 s3.2 - 48))) + (10 * (hv F n s9.1 s9.2 - 48))) + (hv F n s12.1 s12.2 - 48))) + (10 * (hv F n s18.1 s18.2 - 48))) + (hv F n s21.1 s21.2 - 48))) + (hv F n s27.1 s27.2 - 48))) + (hv F n s30.1 s30.2 - 48)))), (3, .int (iZ 2)), (4, .int (iZ (hv F n s18.1 s18.2 - 48))), (5, .int (iZ (hv F n s21.1 s21.2 - 48)))]) d_Mo_takeClock_84 rfl (by decide) rfl ?_
  refine ev_goto (tgt := 65) d_Mo_takeClock_87 rfl ?_
  refine ev_iload_n d_Mo_takeClock_65 rfl rfl ?_
  refine ev_iconst (v := iZ 3) d_Mo_takeClock_66 rfl ?_
  refine ez_icmp_ge (tgt := 90) (by decide) (by decide) d_Mo_takeClock_67 rfl (fun c67 => absurd c67 (by omega)) (fun c67 => ?_)
  refine ev_ldc2 (v := lZ 10) d_Mo_takeClock_70 kc_Mo_130 ?_
  refine ev_lload_n d_Mo_takeClock_73 rfl rfl ?_
  refine ez_lmul d_Mo_takeClock_74 ?_
  refine ev_aload_n d_Mo_takeClock_75 rfl rfl ?_
  refine ev_bipush (v := iZ 9) d_Mo_takeClock_76 rfl ?_
  refine ev_callV M_Mo_takeDigit (rm 1 30) _ (As := [.int (iZ 9)]) (c_Mo_takeDigit G h31 σ32 m bu n s33.1 F s33.2 9 57 hm f0 f1 f16 f17 hbu hn (by omega) hF (by omega) (by decide) (by decide)) d_Mo_takeClock_78 mk_Mo_takeDigit ml_Mo_121 mv_Mo_takeDigit hm rfl rfl rfl (Nat.le_of_ble_eq_true rfl) ⟨by decide, by decide⟩ ⟨by decide, by decide⟩ (fun r h34 hq => ?_)
  obtain ⟨rfl, ⟨σ35, gm, g16, g17, gs⟩, fmc⟩ := hq
  obtain ⟨s36, e_s36⟩ : ∃ zz, zz = sq F n [(48, 57)] s33 := ⟨_, rfl⟩
  have r_s36 := sq_r (F := F) (n := n) (A := [(48, 57)]) (s := s33) (by decide) (by show s33.1 ≤ n; omega) (by show -1 ≤ s33.2 ∧ s33.2 ≤ (n : Int); omega)
  rw [← e_s36] at r_s36
  rw [show sq F n [(48, 57)] (s33.1, s33.2) = s36 from e_s36.symm] at g16 g17
  have hbu := (fmc _ (ninc (cne hbu hm (by simp)) nin0)).trans hbu
  have f0 := (gs 0 (by decide)).trans f0
  have f1 := (gs 1 (by decide)).trans f1
  have f16 := g16
  have f17 := g17
  have hm := gm
  have fm := fm.call (by simp) fmc
  have fs := fs.call (by simp) gs
  have v_s36 := hv_r (n := n) (p := s33.1) (ft := s33.2) hF
  refine ez_i2l (by omega) d_Mo_takeClock_81 ?_
  refine ez_ladd d_Mo_takeClock_82 ?_
  refine ev_lstore_n (L' := [(0, .ref m), (1, .long (lZ ((10 * ((10 * ((10 * (((60 * (((60 * ((0 + (10 * (hv F n s0.1 s0.2 - 48))) + (hv F n s3.1 s3.2 - 48))) + (10 * (hv F n s9.1 s9.2 - 48))) + (hv F n s12.1 s12.2 - 48))) + (10 * (hv F n s18.1 s18.2 - 48))) + (hv F n s21.1 s21.2 - 48))) + (hv F n s27.1 s27.2 - 48))) + (hv F n s30.1 s30.2 - 48))) + (hv F n s33.1 s33.2 - 48)))), (3, .int (iZ 2)), (4, .int (iZ (hv F n s18.1 s18.2 - 48))), (5, .int (iZ (hv F n s21.1 s21.2 - 48)))]) d_Mo_takeClock_83 rfl (by decide) rfl ?_
  refine ez_iinc (L' := [(0, .ref m), (1, .long (lZ ((10 * ((10 * ((10 * (((60 * (((60 * ((0 + (10 * (hv F n s0.1 s0.2 - 48))) + (hv F n s3.1 s3.2 - 48))) + (10 * (hv F n s9.1 s9.2 - 48))) + (hv F n s12.1 s12.2 - 48))) + (10 * (hv F n s18.1 s18.2 - 48))) + (hv F n s21.1 s21.2 - 48))) + (hv F n s27.1 s27.2 - 48))) + (hv F n s30.1 s30.2 - 48))) + (hv F n s33.1 s33.2 - 48)))), (3, .int (iZ 3)), (4, .int (iZ (hv F n s18.1 s18.2 - 48))), (5, .int (iZ (hv F n s21.1 s21.2 - 48)))]) d_Mo_takeClock_84 rfl (by decide) rfl ?_
  refine ev_goto (tgt := 65) d_Mo_takeClock_87 rfl ?_
  refine ev_iload_n d_Mo_takeClock_65 rfl rfl ?_
  refine ev_iconst (v := iZ 3) d_Mo_takeClock_66 rfl ?_
  refine ez_icmp_ge (tgt := 90) (by decide) (by decide) d_Mo_takeClock_67 rfl (fun c67 => ?_) (fun c67 => absurd c67 (by omega))
  refine ev_lload_n d_Mo_takeClock_90 rfl rfl ?_
  refine ev_ldc2 (v := lZ 705600) d_Mo_takeClock_91 kc_Mo_132 ?_
  refine ez_lmul d_Mo_takeClock_94 ?_
  have e9 : s36 = sq F n patT s0 := by simp only [e_s36, e_s33, e_s30, e_s27, e_s24, e_s21, e_s18, e_s15, e_s12, e_s9, e_s6, e_s3, patT, p60, sq_app]
  have hvv : (sq F n patT s0).2 < 0 → (((10 * ((10 * ((10 * (((60 * (((60 * ((0 + (10 * (hv F n s0.1 s0.2 - 48))) + (hv F n s3.1 s3.2 - 48))) + (10 * (hv F n s9.1 s9.2 - 48))) + (hv F n s12.1 s12.2 - 48))) + (10 * (hv F n s18.1 s18.2 - 48))) + (hv F n s21.1 s21.2 - 48))) + (hv F n s27.1 s27.2 - 48))) + (hv F n s30.1 s30.2 - 48))) + (hv F n s33.1 s33.2 - 48)) * 705600 : Int) = clk F n s0.1 := by
    intro q9
    rw [← e9] at q9
    have o_s36 := sq_ok (F := F) (n := n) (A := [(48, 57)]) (s := s33) (by rw [← e_s36]; exact q9)
    have q_s33 := o_s36.1
    have l_s36 : s36.1 = s33.1 + 1 := by rw [e_s36]; exact o_s36.2.2.1
    have w_s33 : hv F n s33.1 s33.2 = lk F n s33.1 := if_pos q_s33
    have o_s33 := sq_ok (F := F) (n := n) (A := [(48, 57)]) (s := s30) (by rw [← e_s33]; exact q_s33)
    have q_s30 := o_s33.1
    have l_s33 : s33.1 = s30.1 + 1 := by rw [e_s33]; exact o_s33.2.2.1
    have w_s30 : hv F n s30.1 s30.2 = lk F n s30.1 := if_pos q_s30
    have o_s30 := sq_ok (F := F) (n := n) (A := [(48, 57)]) (s := s27) (by rw [← e_s30]; exact q_s30)
    have q_s27 := o_s30.1
    have l_s30 : s30.1 = s27.1 + 1 := by rw [e_s30]; exact o_s30.2.2.1
    have w_s27 : hv F n s27.1 s27.2 = lk F n s27.1 := if_pos q_s27
    have o_s27 := sq_ok (F := F) (n := n) (A := [(44, 44)]) (s := s24) (by rw [← e_s27]; exact q_s27)
    have q_s24 := o_s27.1
    have l_s27 : s27.1 = s24.1 + 1 := by rw [e_s27]; exact o_s27.2.2.1
    have w_s24 : hv F n s24.1 s24.2 = lk F n s24.1 := if_pos q_s24
    have o_s24 := sq_ok (F := F) (n := n) (A := [(48, 57)]) (s := s21) (by rw [← e_s24]; exact q_s24)
    have q_s21 := o_s24.1
    have l_s24 : s24.1 = s21.1 + 1 := by rw [e_s24]; exact o_s24.2.2.1
    have w_s21 : hv F n s21.1 s21.2 = lk F n s21.1 := if_pos q_s21
    have o_s21 := sq_ok (F := F) (n := n) (A := [(48, 53)]) (s := s18) (by rw [← e_s21]; exact q_s21)
    have q_s18 := o_s21.1
    have l_s21 : s21.1 = s18.1 + 1 := by rw [e_s21]; exact o_s21.2.2.1
    have w_s18 : hv F n s18.1 s18.2 = lk F n s18.1 := if_pos q_s18
    have o_s18 := sq_ok (F := F) (n := n) (A := [(58, 58)]) (s := s15) (by rw [← e_s18]; exact q_s18)
    have q_s15 := o_s18.1
    have l_s18 : s18.1 = s15.1 + 1 := by rw [e_s18]; exact o_s18.2.2.1
    have w_s15 : hv F n s15.1 s15.2 = lk F n s15.1 := if_pos q_s15
    have o_s15 := sq_ok (F := F) (n := n) (A := [(48, 57)]) (s := s12) (by rw [← e_s15]; exact q_s15)
    have q_s12 := o_s15.1
    have l_s15 : s15.1 = s12.1 + 1 := by rw [e_s15]; exact o_s15.2.2.1
    have w_s12 : hv F n s12.1 s12.2 = lk F n s12.1 := if_pos q_s12
    have o_s12 := sq_ok (F := F) (n := n) (A := [(48, 53)]) (s := s9) (by rw [← e_s12]; exact q_s12)
    have q_s9 := o_s12.1
    have l_s12 : s12.1 = s9.1 + 1 := by rw [e_s12]; exact o_s12.2.2.1
    have w_s9 : hv F n s9.1 s9.2 = lk F n s9.1 := if_pos q_s9
    have o_s9 := sq_ok (F := F) (n := n) (A := [(58, 58)]) (s := s6) (by rw [← e_s9]; exact q_s9)
    have q_s6 := o_s9.1
    have l_s9 : s9.1 = s6.1 + 1 := by rw [e_s9]; exact o_s9.2.2.1
    have w_s6 : hv F n s6.1 s6.2 = lk F n s6.1 := if_pos q_s6
    have o_s6 := sq_ok (F := F) (n := n) (A := [(48, 57)]) (s := s3) (by rw [← e_s6]; exact q_s6)
    have q_s3 := o_s6.1
    have l_s6 : s6.1 = s3.1 + 1 := by rw [e_s6]; exact o_s6.2.2.1
    have w_s3 : hv F n s3.1 s3.2 = lk F n s3.1 := if_pos q_s3
    have o_s3 := sq_ok (F := F) (n := n) (A := [(48, 53)]) (s := s0) (by rw [← e_s3]; exact q_s3)
    have q_s0 := o_s3.1
    have l_s3 : s3.1 = s0.1 + 1 := by rw [e_s3]; exact o_s3.2.2.1
    have w_s0 : hv F n s0.1 s0.2 = lk F n s0.1 := if_pos q_s0
    have p_s3 : s3.1 = s0.1 + 1 := by omega
    have p_s6 : s6.1 = s0.1 + 2 := by omega
    have p_s9 : s9.1 = s0.1 + 3 := by omega
    have p_s12 : s12.1 = s0.1 + 4 := by omega
    have p_s15 : s15.1 = s0.1 + 5 := by omega
    have p_s18 : s18.1 = s0.1 + 6 := by omega
    have p_s21 : s21.1 = s0.1 + 7 := by omega
    have p_s24 : s24.1 = s0.1 + 8 := by omega
    have p_s27 : s27.1 = s0.1 + 9 := by omega
    have p_s30 : s30.1 = s0.1 + 10 := by omega
    have p_s33 : s33.1 = s0.1 + 11 := by omega
    have p_s36 : s36.1 = s0.1 + 12 := by omega
    simp only [w_s0, w_s3, w_s6, w_s9, w_s12, w_s15, w_s18, w_s21, w_s24, w_s27, w_s30, w_s33]
    simp only [p_s3, p_s6, p_s9, p_s12, p_s15, p_s18, p_s21, p_s24, p_s27, p_s30, p_s33]
    unfold clk v60
    simp only [Nat.add_assoc, Nat.reduceAdd]
    omega
  exact ev_lreturn d_Mo_takeClock_95 rfl (by decide) (by decide) (⟨⟨_, rfl, hvv⟩, ⟨σ35, hm, by rw [← e9]; exact f16, by rw [← e9]; exact f17, fs⟩, fm⟩)
set_option maxHeartbeats 4000000 in
set_option maxRecDepth 100000 in
theorem c_Mo_takeSix (G : GT) (h : HM) (σ : Nat → Value) (m bu n : Nat) (F : Nat → Int) (s0 : Nat × Int) (hm : h m = some (.inr (11, fsN 34 σ))) (f0 : σ 0 = .int (iZ (n : Int))) (f1 : σ 1 = .ref bu) (f16 : σ 16 = .int (iZ ((s0.1 : Nat) : Int))) (f17 : σ 17 = .int (iZ s0.2)) (hbu : h bu = some (.inl (G_i G, 1000, .inl (iA F)))) (hn : n ≤ 1000) (hF : ∀ k, 0 ≤ F k ∧ F k ≤ 255) (hs0 : s0.1 ≤ n ∧ -1 ≤ s0.2 ∧ s0.2 ≤ n) : Rn G M_Mo_takeSix (rm 1 40) [.ref m] h (fun r h' => (∃ v : Int, r = some (.long (lZ v)) ∧ ((sq F n pat6 s0).2 < 0 → v = sxv F n 6 s0.1 0)) ∧ (∃ σ', h' m = some (.inr (11, fsN 34 σ')) ∧ σ' 16 = .int (iZ (((sq F n pat6 s0).1 : Nat) : Int)) ∧ σ' 17 = .int (iZ (sq F n pat6 s0).2) ∧ Fs [16, 17] σ σ') ∧ Fm [m] h h') := by
  refine rn_of (by decide) (Nat.le_of_ble_eq_true rfl) ?_
  show Ev G M_Mo_takeSix _ _ 0 [(0, .ref m)] [] _ 0 0
  have fm : Fm [m] h h := Fm.rf
  have fs : Fs [16, 17] σ σ := Fs.rf
  refine ev_lconst (v := lZ 0) d_Mo_takeSix_0 rfl ?_
  refine ev_lstore_n (L' := [(0, .ref m), (1, .long (lZ 0))]) d_Mo_takeSix_1 rfl (by decide) rfl ?_
  refine ev_iconst (v := iZ 0) d_Mo_takeSix_2 rfl ?_
  refine ev_istore_n (L' := [(0, .ref m), (1, .long (lZ 0)), (3, .int (iZ 0))]) d_Mo_takeSix_3 rfl (by decide) rfl ?_
  refine ev_iload_n d_Mo_takeSix_4 rfl rfl ?_
  refine ev_bipush (v := iZ 6) d_Mo_takeSix_5 rfl ?_
  refine ez_icmp_ge (tgt := 46) (by decide) (by decide) d_Mo_takeSix_7 rfl (fun c7 => absurd c7 (by omega)) (fun c7 => ?_)
  refine ev_aload_n d_Mo_takeSix_10 rfl rfl ?_
  refine ev_callV M_Mo_here (rm 0 0) _ (As := []) (c_Mo_here G h σ m bu n (s0.1) F (s0.2) hm f0 f1 f16 f17 hbu hn (by omega) hF (by omega)) d_Mo_takeSix_11 mk_Mo_here ml_Mo_113 mv_Mo_here hm rfl rfl rfl (Nat.le_of_ble_eq_true rfl) ⟨by decide, by decide⟩ ⟨by decide, by decide⟩ (fun r h1 hq => ?_)
  obtain ⟨rfl, ⟨σ2, gm, g17, gs⟩, fmc⟩ := hq
  have hbu := (fmc _ (ninc (cne hbu hm (by simp)) nin0)).trans hbu
  have f0 := (gs 0 (by decide)).trans f0
  have f1 := (gs 1 (by decide)).trans f1
  have f16 := (gs 16 (by decide)).trans f16
  have f17 := g17
  have hm := gm
  have fm := fm.call (by simp) fmc
  have fs := fs.call (by simp) gs
  have hrh1 := hv_r (n := n) (p := s0.1) (ft := s0.2) hF
  have hkh1 := hf_r (n := n) (p := s0.1) (ft := s0.2) (by omega) hn
  refine ev_istore (L' := [(0, .ref m), (1, .long (lZ 0)), (3, .int (iZ 0)), (4, .int (iZ (hv F n (s0.1) (s0.2))))]) d_Mo_takeSix_14 (by decide) rfl ?_
  refine ev_aload_n d_Mo_takeSix_16 rfl rfl ?_
  refine ev_cut 27 [(0, .ref m), (1, .long (lZ 0)), (3, .int (iZ 0)), (4, .int (iZ (hv F n (s0.1) (s0.2))))] [.int (iZ (if 0 ≤ hv F n (s0.1) (s0.2) ∧ hv F n (s0.1) (s0.2) ≤ 255 then 1 else 0)), .ref m] (fun kk => ?_) ?_
  ·
    refine ev_iload d_Mo_takeSix_17 rfl ?_
    refine ez_if_lt (tgt := 26) (by omega) d_Mo_takeSix_19 rfl (fun c19 => ?_) (fun c19 => ?_)
    · refine ev_iconst (v := iZ 0) d_Mo_takeSix_26 rfl ?_
      rw [show (if 0 ≤ hv F n (s0.1) (s0.2) ∧ hv F n (s0.1) (s0.2) ≤ 255 then 1 else 0 : Int) = 0 from by first | exact if_pos (by omega) | exact if_neg (by omega)] at kk
      exact kk
    · refine ev_iconst (v := iZ 1) d_Mo_takeSix_22 rfl ?_
      refine ev_goto (tgt := 27) d_Mo_takeSix_23 rfl ?_
      rw [show (if 0 ≤ hv F n (s0.1) (s0.2) ∧ hv F n (s0.1) (s0.2) ≤ 255 then 1 else 0 : Int) = 1 from by first | exact if_pos (by omega) | exact if_neg (by omega)] at kk
      exact kk
  refine ev_callV M_Mo_take (rm 0 0) _ (As := [.int (iZ (if 0 ≤ hv F n (s0.1) (s0.2) ∧ hv F n (s0.1) (s0.2) ≤ 255 then 1 else 0))]) (c_Mo_take G h1 σ2 m (s0.1) (hf n (s0.1) (s0.2)) (if 0 ≤ hv F n (s0.1) (s0.2) ∧ hv F n (s0.1) (s0.2) ≤ 255 then 1 else 0) hm f16 f17 (by omega) (by omega) (by split <;> simp)) d_Mo_takeSix_27 mk_Mo_take ml_Mo_117 mv_Mo_take hm rfl rfl rfl (Nat.le_of_ble_eq_true rfl) ⟨by decide, by decide⟩ ⟨by decide, by decide⟩ (fun r h3 hq => ?_)
  obtain ⟨rfl, ⟨σ4, gm, g16, g17, gs⟩, fmc⟩ := hq
  have q9 := sq_1 (F := F) (n := n) (p := s0.1) (ft := s0.2) (a := 0) (b := 255) (by omega) (by omega) (by omega) (rfl : (if 0 ≤ hv F n (s0.1) (s0.2) ∧ hv F n (s0.1) (s0.2) ≤ 255 then 1 else 0 : Int) = _)
  rw [q9.1] at g16
  rw [q9.2] at g17
  have hbu := (fmc _ (ninc (cne hbu hm (by simp)) nin0)).trans hbu
  have f0 := (gs 0 (by decide)).trans f0
  have f1 := (gs 1 (by decide)).trans f1
  have f16 := g16
  have f17 := g17
  have hm := gm
  have fm := fm.call (by simp) fmc
  have fs := fs.call (by simp) gs
  obtain ⟨s5, e_s5⟩ : ∃ zz, zz = sq F n [(0, 255)] s0 := ⟨_, rfl⟩
  have r_s5 := sq_r (F := F) (n := n) (A := [(0, 255)]) (s := s0) (by decide) (by show s0.1 ≤ n; omega) (by show -1 ≤ s0.2 ∧ s0.2 ≤ (n : Int); omega)
  rw [← e_s5] at r_s5
  rw [show sq F n [(0, 255)] (s0.1, s0.2) = s5 from e_s5.symm] at f16 f17
  refine ev_ldc2 (v := lZ 256) d_Mo_takeSix_30 kc_Mo_138 ?_
  refine ev_lload_n d_Mo_takeSix_33 rfl rfl ?_
  refine ez_lmul d_Mo_takeSix_34 ?_
  refine ev_iload d_Mo_takeSix_35 rfl ?_
  refine ez_i2l (by omega) d_Mo_takeSix_37 ?_
  refine ez_ladd d_Mo_takeSix_38 ?_
  refine ev_lstore_n (L' := [(0, .ref m), (1, .long (lZ (0 + (hv F n (s0.1) (s0.2))))), (3, .int (iZ 0)), (4, .int (iZ (hv F n (s0.1) (s0.2))))]) d_Mo_takeSix_39 rfl (by decide) rfl ?_
  refine ez_iinc (L' := [(0, .ref m), (1, .long (lZ (0 + (hv F n (s0.1) (s0.2))))), (3, .int (iZ 1)), (4, .int (iZ (hv F n (s0.1) (s0.2))))]) d_Mo_takeSix_40 rfl (by decide) rfl ?_
  refine ev_goto (tgt := 4) d_Mo_takeSix_43 rfl ?_
  refine ev_iload_n d_Mo_takeSix_4 rfl rfl ?_
  refine ev_bipush (v := iZ 6) d_Mo_takeSix_5 rfl ?_
  refine ez_icmp_ge (tgt := 46) (by decide) (by decide) d_Mo_takeSix_7 rfl (fun c7 => absurd c7 (by omega)) (fun c7 => ?_)
  refine ev_aload_n d_Mo_takeSix_10 rfl rfl ?_
  refine ev_callV M_Mo_here (rm 0 0) _ (As := []) (c_Mo_here G h3 σ4 m bu n (s5.1) F (s5.2) hm f0 f1 f16 f17 hbu hn (by omega) hF (by omega)) d_Mo_takeSix_11 mk_Mo_here ml_Mo_113 mv_Mo_here hm rfl rfl rfl (Nat.le_of_ble_eq_true rfl) ⟨by decide, by decide⟩ ⟨by decide, by decide⟩ (fun r h6 hq => ?_)
  obtain ⟨rfl, ⟨σ7, gm, g17, gs⟩, fmc⟩ := hq
  have hbu := (fmc _ (ninc (cne hbu hm (by simp)) nin0)).trans hbu
  have f0 := (gs 0 (by decide)).trans f0
  have f1 := (gs 1 (by decide)).trans f1
  have f16 := (gs 16 (by decide)).trans f16
  have f17 := g17
  have hm := gm
  have fm := fm.call (by simp) fmc
  have fs := fs.call (by simp) gs
  have hrh6 := hv_r (n := n) (p := s5.1) (ft := s5.2) hF
  have hkh6 := hf_r (n := n) (p := s5.1) (ft := s5.2) (by omega) hn
  refine ev_istore (L' := [(0, .ref m), (1, .long (lZ (0 + (hv F n (s0.1) (s0.2))))), (3, .int (iZ 1)), (4, .int (iZ (hv F n (s5.1) (s5.2))))]) d_Mo_takeSix_14 (by decide) rfl ?_
  refine ev_aload_n d_Mo_takeSix_16 rfl rfl ?_
  refine ev_cut 27 [(0, .ref m), (1, .long (lZ (0 + (hv F n (s0.1) (s0.2))))), (3, .int (iZ 1)), (4, .int (iZ (hv F n (s5.1) (s5.2))))] [.int (iZ (if 0 ≤ hv F n (s5.1) (s5.2) ∧ hv F n (s5.1) (s5.2) ≤ 255 then 1 else 0)), .ref m] (fun kk => ?_) ?_
  ·
    refine ev_iload d_Mo_takeSix_17 rfl ?_
    refine ez_if_lt (tgt := 26) (by omega) d_Mo_takeSix_19 rfl (fun c19 => ?_) (fun c19 => ?_)
    · refine ev_iconst (v := iZ 0) d_Mo_takeSix_26 rfl ?_
      rw [show (if 0 ≤ hv F n (s5.1) (s5.2) ∧ hv F n (s5.1) (s5.2) ≤ 255 then 1 else 0 : Int) = 0 from by first | exact if_pos (by omega) | exact if_neg (by omega)] at kk
      exact kk
    · refine ev_iconst (v := iZ 1) d_Mo_takeSix_22 rfl ?_
      refine ev_goto (tgt := 27) d_Mo_takeSix_23 rfl ?_
      rw [show (if 0 ≤ hv F n (s5.1) (s5.2) ∧ hv F n (s5.1) (s5.2) ≤ 255 then 1 else 0 : Int) = 1 from by first | exact if_pos (by omega) | exact if_neg (by omega)] at kk
      exact kk
  refine ev_callV M_Mo_take (rm 0 0) _ (As := [.int (iZ (if 0 ≤ hv F n (s5.1) (s5.2) ∧ hv F n (s5.1) (s5.2) ≤ 255 then 1 else 0))]) (c_Mo_take G h6 σ7 m (s5.1) (hf n (s5.1) (s5.2)) (if 0 ≤ hv F n (s5.1) (s5.2) ∧ hv F n (s5.1) (s5.2) ≤ 255 then 1 else 0) hm f16 f17 (by omega) (by omega) (by split <;> simp)) d_Mo_takeSix_27 mk_Mo_take ml_Mo_117 mv_Mo_take hm rfl rfl rfl (Nat.le_of_ble_eq_true rfl) ⟨by decide, by decide⟩ ⟨by decide, by decide⟩ (fun r h8 hq => ?_)
  obtain ⟨rfl, ⟨σ9, gm, g16, g17, gs⟩, fmc⟩ := hq
  have q9 := sq_1 (F := F) (n := n) (p := s5.1) (ft := s5.2) (a := 0) (b := 255) (by omega) (by omega) (by omega) (rfl : (if 0 ≤ hv F n (s5.1) (s5.2) ∧ hv F n (s5.1) (s5.2) ≤ 255 then 1 else 0 : Int) = _)
  rw [q9.1] at g16
  rw [q9.2] at g17
  have hbu := (fmc _ (ninc (cne hbu hm (by simp)) nin0)).trans hbu
  have f0 := (gs 0 (by decide)).trans f0
  have f1 := (gs 1 (by decide)).trans f1
  have f16 := g16
  have f17 := g17
  have hm := gm
  have fm := fm.call (by simp) fmc
  have fs := fs.call (by simp) gs
  obtain ⟨s10, e_s10⟩ : ∃ zz, zz = sq F n [(0, 255)] s5 := ⟨_, rfl⟩
  have r_s10 := sq_r (F := F) (n := n) (A := [(0, 255)]) (s := s5) (by decide) (by show s5.1 ≤ n; omega) (by show -1 ≤ s5.2 ∧ s5.2 ≤ (n : Int); omega)
  rw [← e_s10] at r_s10
  rw [show sq F n [(0, 255)] (s5.1, s5.2) = s10 from e_s10.symm] at f16 f17
  refine ev_ldc2 (v := lZ 256) d_Mo_takeSix_30 kc_Mo_138 ?_
  refine ev_lload_n d_Mo_takeSix_33 rfl rfl ?_
  refine ez_lmul d_Mo_takeSix_34 ?_
  refine ev_iload d_Mo_takeSix_35 rfl ?_
  refine ez_i2l (by omega) d_Mo_takeSix_37 ?_
  refine ez_ladd d_Mo_takeSix_38 ?_
  refine ev_lstore_n (L' := [(0, .ref m), (1, .long (lZ ((256 * (0 + (hv F n (s0.1) (s0.2)))) + (hv F n (s5.1) (s5.2))))), (3, .int (iZ 1)), (4, .int (iZ (hv F n (s5.1) (s5.2))))]) d_Mo_takeSix_39 rfl (by decide) rfl ?_
  refine ez_iinc (L' := [(0, .ref m), (1, .long (lZ ((256 * (0 + (hv F n (s0.1) (s0.2)))) + (hv F n (s5.1) (s5.2))))), (3, .int (iZ 2)), (4, .int (iZ (hv F n (s5.1) (s5.2))))]) d_Mo_takeSix_40 rfl (by decide) rfl ?_
  refine ev_goto (tgt := 4) d_Mo_takeSix_43 rfl ?_
  refine ev_iload_n d_Mo_takeSix_4 rfl rfl ?_
  refine ev_bipush (v := iZ 6) d_Mo_takeSix_5 rfl ?_
  refine ez_icmp_ge (tgt := 46) (by decide) (by decide) d_Mo_takeSix_7 rfl (fun c7 => absurd c7 (by omega)) (fun c7 => ?_)
  refine ev_aload_n d_Mo_takeSix_10 rfl rfl ?_
  refine ev_callV M_Mo_here (rm 0 0) _ (As := []) (c_Mo_here G h8 σ9 m bu n (s10.1) F (s10.2) hm f0 f1 f16 f17 hbu hn (by omega) hF (by omega)) d_Mo_takeSix_11 mk_Mo_here ml_Mo_113 mv_Mo_here hm rfl rfl rfl (Nat.le_of_ble_eq_true rfl) ⟨by decide, by decide⟩ ⟨by decide, by decide⟩ (fun r h11 hq => ?_)
  obtain ⟨rfl, ⟨σ12, gm, g17, gs⟩, fmc⟩ := hq
  have hbu := (fmc _ (ninc (cne hbu hm (by simp)) nin0)).trans hbu
  have f0 := (gs 0 (by decide)).trans f0
  have f1 := (gs 1 (by decide)).trans f1
  have f16 := (gs 16 (by decide)).trans f16
  have f17 := g17
  have hm := gm
  have fm := fm.call (by simp) fmc
  have fs := fs.call (by simp) gs
  have hrh11 := hv_r (n := n) (p := s10.1) (ft := s10.2) hF
  have hkh11 := hf_r (n := n) (p := s10.1) (ft := s10.2) (by omega) hn
  refine ev_istore (L' := [(0, .ref m), (1, .long (lZ ((256 * (0 + (hv F n (s0.1) (s0.2)))) + (hv F n (s5.1) (s5.2))))), (3, .int (iZ 2)), (4, .int (iZ (hv F n (s10.1) (s10.2))))]) d_Mo_takeSix_14 (by decide) rfl ?_
  refine ev_aload_n d_Mo_takeSix_16 rfl rfl ?_
  refine ev_cut 27 [(0, .ref m), (1, .long (lZ ((256 * (0 + (hv F n (s0.1) (s0.2)))) + (hv F n (s5.1) (s5.2))))), (3, .int (iZ 2)), (4, .int (iZ (hv F n (s10.1) (s10.2))))] [.int (iZ (if 0 ≤ hv F n (s10.1) (s10.2) ∧ hv F n (s10.1) (s10.2) ≤ 255 then 1 else 0)), .ref m] (fun kk => ?_) ?_
  ·
    refine ev_iload d_Mo_takeSix_17 rfl ?_
    refine ez_if_lt (tgt := 26) (by omega) d_Mo_takeSix_19 rfl (fun c19 => ?_) (fun c19 => ?_)
    · refine ev_iconst (v := iZ 0) d_Mo_takeSix_26 rfl ?_
      rw [show (if 0 ≤ hv F n (s10.1) (s10.2) ∧ hv F n (s10.1) (s10.2) ≤ 255 then 1 else 0 : Int) = 0 from by first | exact if_pos (by omega) | exact if_neg (by omega)] at kk
      exact kk
    · refine ev_iconst (v := iZ 1) d_Mo_takeSix_22 rfl ?_
      refine ev_goto (tgt := 27) d_Mo_takeSix_23 rfl ?_
      rw [show (if 0 ≤ hv F n (s10.1) (s10.2) ∧ hv F n (s10.1) (s10.2) ≤ 255 then 1 else 0 : Int) = 1 from by first | exact if_pos (by omega) | exact if_neg (by omega)] at kk
      exact kk
  refine ev_callV M_Mo_take (rm 0 0) _ (As := [.int (iZ (if 0 ≤ hv F n (s10.1) (s10.2) ∧ hv F n (s10.1) (s10.2) ≤ 255 then 1 else 0))]) (c_Mo_take G h11 σ12 m (s10.1) (hf n (s10.1) (s10.2)) (if 0 ≤ hv F n (s10.1) (s10.2) ∧ hv F n (s10.1) (s10.2) ≤ 255 then 1 else 0) hm f16 f17 (by omega) (by omega) (by split <;> simp)) d_Mo_takeSix_27 mk_Mo_take ml_Mo_117 mv_Mo_take hm rfl rfl rfl (Nat.le_of_ble_eq_true rfl) ⟨by decide, by decide⟩ ⟨by decide, by decide⟩ (fun r h13 hq => ?_)
  obtain ⟨rfl, ⟨σ14, gm, g16, g17, gs⟩, fmc⟩ := hq
  have q9 := sq_1 (F := F) (n := n) (p := s10.1) (ft := s10.2) (a := 0) (b := 255) (by omega) (by omega) (by omega) (rfl : (if 0 ≤ hv F n (s10.1) (s10.2) ∧ hv F n (s10.1) (s10.2) ≤ 255 then 1 else 0 : Int) = _)
  rw [q9.1] at g16
  rw [q9.2] at g17
  have hbu := (fmc _ (ninc (cne hbu hm (by simp)) nin0)).trans hbu
  have f0 := (gs 0 (by decide)).trans f0
  have f1 := (gs 1 (by decide)).trans f1
  have f16 := g16
  have f17 := g17
  have hm := gm
  have fm := fm.call (by simp) fmc
  have fs := fs.call (by simp) gs
  obtain ⟨s15, e_s15⟩ : ∃ zz, zz = sq F n [(0, 255)] s10 := ⟨_, rfl⟩
  have r_s15 := sq_r (F := F) (n := n) (A := [(0, 255)]) (s := s10) (by decide) (by show s10.1 ≤ n; omega) (by show -1 ≤ s10.2 ∧ s10.2 ≤ (n : Int); omega)
  rw [← e_s15] at r_s15
  rw [show sq F n [(0, 255)] (s10.1, s10.2) = s15 from e_s15.symm] at f16 f17
  refine ev_ldc2 (v := lZ 256) d_Mo_takeSix_30 kc_Mo_138 ?_
  refine ev_lload_n d_Mo_takeSix_33 rfl rfl ?_
  refine ez_lmul d_Mo_takeSix_34 ?_
  refine ev_iload d_Mo_takeSix_35 rfl ?_
  refine ez_i2l (by omega) d_Mo_takeSix_37 ?_
  refine ez_ladd d_Mo_takeSix_38 ?_
  refine ev_lstore_n (L' := [(0, .ref m), (1, .long (lZ ((256 * ((256 * (0 + (hv F n (s0.1) (s0.2)))) + (hv F n (s5.1) (s5.2)))) + (hv F n (s10.1) (s10.2))))), (3, .int (iZ 2)), (4, .int (iZ (hv F n (s10.1) (s10.2))))]) d_Mo_takeSix_39 rfl (by decide) rfl ?_
  refine ez_iinc (L' := [(0, .ref m), (1, .long (lZ ((256 * ((256 * (0 + (hv F n (s0.1) (s0.2)))) + (hv F n (s5.1) (s5.2)))) + (hv F n (s10.1) (s10.2))))), (3, .int (iZ 3)), (4, .int (iZ (hv F n (s10.1) (s10.2))))]) d_Mo_takeSix_40 rfl (by decide) rfl ?_
  refine ev_goto (tgt := 4) d_Mo_takeSix_43 rfl ?_
  refine ev_iload_n d_Mo_takeSix_4 rfl rfl ?_
  refine ev_bipush (v := iZ 6) d_Mo_takeSix_5 rfl ?_
  refine ez_icmp_ge (tgt := 46) (by decide) (by decide) d_Mo_takeSix_7 rfl (fun c7 => absurd c7 (by omega)) (fun c7 => ?_)
  refine ev_aload_n d_Mo_takeSix_10 rfl rfl ?_
  refine ev_callV M_Mo_here (rm 0 0) _ (As := []) (c_Mo_here G h13 σ14 m bu n (s15.1) F (s15.2) hm f0 f1 f16 f17 hbu hn (by omega) hF (by omega)) d_Mo_takeSix_11 mk_Mo_here ml_Mo_113 mv_Mo_here hm rfl rfl rfl (Nat.le_of_ble_eq_true rfl) ⟨by decide, by decide⟩ ⟨by decide, by decide⟩ (fun r h16 hq => ?_)
  obtain ⟨rfl, ⟨σ17, gm, g17, gs⟩, fmc⟩ := hq
  have hbu := (fmc _ (ninc (cne hbu hm (by simp)) nin0)).trans hbu
  have f0 := (gs 0 (by decide)).trans f0
  have f1 := (gs 1 (by decide)).trans f1
  have f16 := (gs 16 (by decide)).trans f16
  have f17 := g17
  have hm := gm
  have fm := fm.call (by simp) fmc
  have fs := fs.call (by simp) gs
  have hrh16 := hv_r (n := n) (p := s15.1) (ft := s15.2) hF
  have hkh16 := hf_r (n := n) (p := s15.1) (ft := s15.2) (by omega) hn
  refine ev_istore (L' := [(0, .ref m), (1, .long (lZ ((256 * ((256 * (0 + (hv F n (s0.1) (s0.2)))) + (hv F n (s5.1) (s5.2)))) + (hv F n (s10.1) (s10.2))))), (3, .int (iZ 3)), (4, .int (iZ (hv F n (s15.1) (s15.2))))]) d_Mo_takeSix_14 (by decide) rfl ?_
  refine ev_aload_n d_Mo_takeSix_16 rfl rfl ?_
  refine ev_cut 27 [(0, .ref m), (1, .long (lZ ((256 * ((256 * (0 + (hv F n (s0.1) (s0.2)))) + (hv F n (s5.1) (s5.2)))) + (hv F n (s10.1) (s10.2))))), (3, .int (iZ 3)), (4, .int (iZ (hv F n (s15.1) (s15.2))))] [.int (iZ (if 0 ≤ hv F n (s15.1) (s15.2) ∧ hv F n (s15.1) (s15.2) ≤ 255 then 1 else 0)), .ref m] (fun kk => ?_) ?_
  ·
    refine ev_iload d_Mo_takeSix_17 rfl ?_
    refine ez_if_lt (tgt := 26) (by omega) d_Mo_takeSix_19 rfl (fun c19 => ?_) (fun c19 => ?_)
    · refine ev_iconst (v := iZ 0) d_Mo_takeSix_26 rfl ?_
      rw [show (if 0 ≤ hv F n (s15.1) (s15.2) ∧ hv F n (s15.1) (s15.2) ≤ 255 then 1 else 0 : Int) = 0 from by first | exact if_pos (by omega) | exact if_neg (by omega)] at kk
      exact kk
    · refine ev_iconst (v := iZ 1) d_Mo_takeSix_22 rfl ?_
      refine ev_goto (tgt := 27) d_Mo_takeSix_23 rfl ?_
      rw [show (if 0 ≤ hv F n (s15.1) (s15.2) ∧ hv F n (s15.1) (s15.2) ≤ 255 then 1 else 0 : Int) = 1 from by first | exact if_pos (by omega) | exact if_neg (by omega)] at kk
      exact kk
  refine ev_callV M_Mo_take (rm 0 0) _ (As := [.int (iZ (if 0 ≤ hv F n (s15.1) (s15.2) ∧ hv F n (s15.1) (s15.2) ≤ 255 then 1 else 0))]) (c_Mo_take G h16 σ17 m (s15.1) (hf n (s15.1) (s15.2)) (if 0 ≤ hv F n (s15.1) (s15.2) ∧ hv F n (s15.1) (s15.2) ≤ 255 then 1 else 0) hm f16 f17 (by omega) (by omega) (by split <;> simp)) d_Mo_takeSix_27 mk_Mo_take ml_Mo_117 mv_Mo_take hm rfl rfl rfl (Nat.le_of_ble_eq_true rfl) ⟨by decide, by decide⟩ ⟨by decide, by decide⟩ (fun r h18 hq => ?_)
  obtain ⟨rfl, ⟨σ19, gm, g16, g17, gs⟩, fmc⟩ := hq
  have q9 := sq_1 (F := F) (n := n) (p := s15.1) (ft := s15.2) (a := 0) (b := 255) (by omega) (by omega) (by omega) (rfl : (if 0 ≤ hv F n (s15.1) (s15.2) ∧ hv F n (s15.1) (s15.2) ≤ 255 then 1 else 0 : Int) = _)
  rw [q9.1] at g16
  rw [q9.2] at g17
  have hbu := (fmc _ (ninc (cne hbu hm (by simp)) nin0)).trans hbu
  have f0 := (gs 0 (by decide)).trans f0
  have f1 := (gs 1 (by decide)).trans f1
  have f16 := g16
  have f17 := g17
  have hm := gm
  have fm := fm.call (by simp) fmc
  have fs := fs.call (by simp) gs
  obtain ⟨s20, e_s20⟩ : ∃ zz, zz = sq F n [(0, 255)] s15 := ⟨_, rfl⟩
  have r_s20 := sq_r (F := F) (n := n) (A := [(0, 255)]) (s := s15) (by decide) (by show s15.1 ≤ n; omega) (by show -1 ≤ s15.2 ∧ s15.2 ≤ (n : Int); omega)
  rw [← e_s20] at r_s20
  rw [show sq F n [(0, 255)] (s15.1, s15.2) = s20 from e_s20.symm] at f16 f17
  refine ev_ldc2 (v := lZ 256) d_Mo_takeSix_30 kc_Mo_138 ?_
  refine ev_lload_n d_Mo_takeSix_33 rfl rfl ?_
  refine ez_lmul d_Mo_takeSix_34 ?_
  refine ev_iload d_Mo_takeSix_35 rfl ?_
  refine ez_i2l (by omega) d_Mo_takeSix_37 ?_
  refine ez_ladd d_Mo_takeSix_38 ?_
  refine ev_lstore_n (L' := [(0, .ref m), (1, .long (lZ ((256 * ((256 * ((256 * (0 + (hv F n (s0.1) (s0.2)))) + (hv F n (s5.1) (s5.2)))) + (hv F n (s10.1) (s10.2)))) + (hv F n (s15.1) (s15.2))))), (3, .int (iZ 3)), (4, .int (iZ (hv F n (s15.1) (s15.2))))]) d_Mo_takeSix_39 rfl (by decide) rfl ?_
  refine ez_iinc (L' := [(0, .ref m), (1, .long (lZ ((256 * ((256 * ((256 * (0 + (hv F n (s0.1) (s0.2)))) + (hv F n (s5.1) (s5.2)))) + (hv F n (s10.1) (s10.2)))) + (hv F n (s15.1) (s15.2))))), (3, .int (iZ 4)), (4, .int (iZ (hv F n (s15.1) (s15.2))))]) d_Mo_takeSix_40 rfl (by decide) rfl ?_
  refine ev_goto (tgt := 4) d_Mo_takeSix_43 rfl ?_
  refine ev_iload_n d_Mo_takeSix_4 rfl rfl ?_
  refine ev_bipush (v := iZ 6) d_Mo_takeSix_5 rfl ?_
  refine ez_icmp_ge (tgt := 46) (by decide) (by decide) d_Mo_takeSix_7 rfl (fun c7 => absurd c7 (by omega)) (fun c7 => ?_)
  refine ev_aload_n d_Mo_takeSix_10 rfl rfl ?_
  refine ev_callV M_Mo_here (rm 0 0) _ (As := []) (c_Mo_here G h18 σ19 m bu n (s20.1) F (s20.2) hm f0 f1 f16 f17 hbu hn (by omega) hF (by omega)) d_Mo_takeSix_11 mk_Mo_here ml_Mo_113 mv_Mo_here hm rfl rfl rfl (Nat.le_of_ble_eq_true rfl) ⟨by decide, by decide⟩ ⟨by decide, by decide⟩ (fun r h21 hq => ?_)
  obtain ⟨rfl, ⟨σ22, gm, g17, gs⟩, fmc⟩ := hq
  have hbu := (fmc _ (ninc (cne hbu hm (by simp)) nin0)).trans hbu
  have f0 := (gs 0 (by decide)).trans f0
  have f1 := (gs 1 (by decide)).trans f1
  have f16 := (gs 16 (by decide)).trans f16
  have f17 := g17
  have hm := gm
  have fm := fm.call (by simp) fmc
  have fs := fs.call (by simp) gs
  have hrh21 := hv_r (n := n) (p := s20.1) (ft := s20.2) hF
  have hkh21 := hf_r (n := n) (p := s20.1) (ft := s20.2) (by omega) hn
  refine ev_istore (L' := [(0, .ref m), (1, .long (lZ ((256 * ((256 * ((256 * (0 + (hv F n (s0.1) (s0.2)))) + (hv F n (s5.1) (s5.2)))) + (hv F n (s10.1) (s10.2)))) + (hv F n (s15.1) (s15.2))))), (3, .int (iZ 4)), (4, .int (iZ (hv F n (s20.1) (s20.2))))]) d_Mo_takeSix_14 (by decide) rfl ?_
  refine ev_aload_n d_Mo_takeSix_16 rfl rfl ?_
  refine ev_cut 27 [(0, .ref m), (1, .long (lZ ((256 * ((256 * ((256 * (0 + (hv F n (s0.1) (s0.2)))) + (hv F n (s5.1) (s5.2)))) + (hv F n (s10.1) (s10.2)))) + (hv F n (s15.1) (s15.2))))), (3, .int (iZ 4)), (4, .int (iZ (hv F n (s20.1) (s20.2))))] [.int (iZ (if 0 ≤ hv F n (s20.1) (s20.2) ∧ hv F n (s20.1) (s20.2) ≤ 255 then 1 else 0)), .ref m] (fun kk => ?_) ?_
  ·
    refine ev_iload d_Mo_takeSix_17 rfl ?_
    refine ez_if_lt (tgt := 26) (by omega) d_Mo_takeSix_19 rfl (fun c19 => ?_) (fun c19 => ?_)
    · refine ev_iconst (v := iZ 0) d_Mo_takeSix_26 rfl ?_
      rw [show (if 0 ≤ hv F n (s20.1) (s20.2) ∧ hv F n (s20.1) (s20.2) ≤ 255 then 1 else 0 : Int) = 0 from by first | exact if_pos (by omega) | exact if_neg (by omega)] at kk
      exact kk
    · refine ev_iconst (v := iZ 1) d_Mo_takeSix_22 rfl ?_
      refine ev_goto (tgt := 27) d_Mo_takeSix_23 rfl ?_
      rw [show (if 0 ≤ hv F n (s20.1) (s20.2) ∧ hv F n (s20.1) (s20.2) ≤ 255 then 1 else 0 : Int) = 1 from by first | exact if_pos (by omega) | exact if_neg (by omega)] at kk
      exact kk
  refine ev_callV M_Mo_take (rm 0 0) _ (As := [.int (iZ (if 0 ≤ hv F n (s20.1) (s20.2) ∧ hv F n (s20.1) (s20.2) ≤ 255 then 1 else 0))]) (c_Mo_take G h21 σ22 m (s20.1) (hf n (s20.1) (s20.2)) (if 0 ≤ hv F n (s20.1) (s20.2) ∧ hv F n (s20.1) (s20.2) ≤ 255 then 1 else 0) hm f16 f17 (by omega) (by omega) (by split <;> simp)) d_Mo_takeSix_27 mk_Mo_take ml_Mo_117 mv_Mo_take hm rfl rfl rfl (Nat.le_of_ble_eq_true rfl) ⟨by decide, by decide⟩ ⟨by decide, by decide⟩ (fun r h23 hq => ?_)
  obtain ⟨rfl, ⟨σ24, gm, g16, g17, gs⟩, fmc⟩ := hq
  have q9 := sq_1 (F := F) (n := n) (p := s20.1) (ft := s20.2) (a := 0) (b := 255) (by omega) (by omega) (by omega) (rfl : (if 0 ≤ hv F n (s20.1) (s20.2) ∧ hv F n (s20.1) (s20.2) ≤ 255 then 1 else 0 : Int) = _)
  rw [q9.1] at g16
  rw [q9.2] at g17
  have hbu := (fmc _ (ninc (cne hbu hm (by simp)) nin0)).trans hbu
  have f0 := (gs 0 (by decide)).trans f0
  have f1 := (gs 1 (by decide)).trans f1
  have f16 := g16
  have f17 := g17
  have hm := gm
  have fm := fm.call (by simp) fmc
  have fs := fs.call (by simp) gs
  obtain ⟨s25, e_s25⟩ : ∃ zz, zz = sq F n [(0, 255)] s20 := ⟨_, rfl⟩
  have r_s25 := sq_r (F := F) (n := n) (A := [(0, 255)]) (s := s20) (by decide) (by show s20.1 ≤ n; omega) (by show -1 ≤ s20.2 ∧ s20.2 ≤ (n : Int); omega)
  rw [← e_s25] at r_s25
  rw [show sq F n [(0, 255)] (s20.1, s20.2) = s25 from e_s25.symm] at f16 f17
  refine ev_ldc2 (v := lZ 256) d_Mo_takeSix_30 kc_Mo_138 ?_
  refine ev_lload_n d_Mo_takeSix_33 rfl rfl ?_
  refine ez_lmul d_Mo_takeSix_34 ?_
  refine ev_iload d_Mo_takeSix_35 rfl ?_
  refine ez_i2l (by omega) d_Mo_takeSix_37 ?_
  refine ez_ladd d_Mo_takeSix_38 ?_
  refine ev_lstore_n (L' := [(0, .ref m), (1, .long (lZ ((256 * ((256 * ((256 * ((256 * (0 + (hv F n (s0.1) (s0.2)))) + (hv F n (s5.1) (s5.2)))) + (hv F n (s10.1) (s10.2)))) + (hv F n (s15.1) (s15.2)))) + (hv F n (s20.1) (s20.2))))), (3, .int (iZ 4)), (4, .int (iZ (hv F n (s20.1) (s20.2))))]) d_Mo_takeSix_39 rfl (by decide) rfl ?_
  refine ez_iinc (L' := [(0, .ref m), (1, .long (lZ ((256 * ((256 * ((256 * ((256 * (0 + (hv F n (s0.1) (s0.2)))) + (hv F n (s5.1) (s5.2)))) + (hv F n (s10.1) (s10.2)))) + (hv F n (s15.1) (s15.2)))) + (hv F n (s20.1) (s20.2))))), (3, .int (iZ 5)), (4, .int (iZ (hv F n (s20.1) (s20.2))))]) d_Mo_takeSix_40 rfl (by decide) rfl ?_
  refine ev_goto (tgt := 4) d_Mo_takeSix_43 rfl ?_
  refine ev_iload_n d_Mo_takeSix_4 rfl rfl ?_
  refine ev_bipush (v := iZ 6) d_Mo_takeSix_5 rfl ?_
  refine ez_icmp_ge (tgt := 46) (by decide) (by decide) d_Mo_takeSix_7 rfl (fun c7 => absurd c7 (by omega)) (fun c7 => ?_)
  refine ev_aload_n d_Mo_takeSix_10 rfl rfl ?_
  refine ev_callV M_Mo_here (rm 0 0) _ (As := []) (c_Mo_here G h23 σ24 m bu n (s25.1) F (s25.2) hm f0 f1 f16 f17 hbu hn (by omega) hF (by omega)) d_Mo_takeSix_11 mk_Mo_here ml_Mo_113 mv_Mo_here hm rfl rfl rfl (Nat.le_of_ble_eq_true rfl) ⟨by decide, by decide⟩ ⟨by decide, by decide⟩ (fun r h26 hq => ?_)
  obtain ⟨rfl, ⟨σ27, gm, g17, gs⟩, fmc⟩ := hq
  have hbu := (fmc _ (ninc (cne hbu hm (by simp)) nin0)).trans hbu
  have f0 := (gs 0 (by decide)).trans f0
  have f1 := (gs 1 (by decide)).trans f1
  have f16 := (gs 16 (by decide)).trans f16
  have f17 := g17
  have hm := gm
  have fm := fm.call (by simp) fmc
  have fs := fs.call (by simp) gs
  have hrh26 := hv_r (n := n) (p := s25.1) (ft := s25.2) hF
  have hkh26 := hf_r (n := n) (p := s25.1) (ft := s25.2) (by omega) hn
  refine ev_istore (L' := [(0, .ref m), (1, .long (lZ ((256 * ((256 * ((256 * ((256 * (0 + (hv F n (s0.1) (s0.2)))) + (hv F n (s5.1) (s5.2)))) + (hv F n (s10.1) (s10.2)))) + (hv F n (s15.1) (s15.2)))) + (hv F n (s20.1) (s20.2))))), (3, .int (iZ 5)), (4, .int (iZ (hv F n (s25.1) (s25.2))))]) d_Mo_takeSix_14 (by decide) rfl ?_
  refine ev_aload_n d_Mo_takeSix_16 rfl rfl ?_
  refine ev_cut 27 [(0, .ref m), (1, .long (lZ ((256 * ((256 * ((256 * ((256 * (0 + (hv F n (s0.1) (s0.2)))) + (hv F n (s5.1) (s5.2)))) + (hv F n (s10.1) (s10.2)))) + (hv F n (s15.1) (s15.2)))) + (hv F n (s20.1) (s20.2))))), (3, .int (iZ 5)), (4, .int (iZ (hv F n (s25.1) (s25.2))))] [.int (iZ (if 0 ≤ hv F n (s25.1) (s25.2) ∧ hv F n (s25.1) (s25.2) ≤ 255 then 1 else 0)), .ref m] (fun kk => ?_) ?_
  ·
    refine ev_iload d_Mo_takeSix_17 rfl ?_
    refine ez_if_lt (tgt := 26) (by omega) d_Mo_takeSix_19 rfl (fun c19 => ?_) (fun c19 => ?_)
    · refine ev_iconst (v := iZ 0) d_Mo_takeSix_26 rfl ?_
      rw [show (if 0 ≤ hv F n (s25.1) (s25.2) ∧ hv F n (s25.1) (s25.2) ≤ 255 then 1 else 0 : Int) = 0 from by first | exact if_pos (by omega) | exact if_neg (by omega)] at kk
      exact kk
    · refine ev_iconst (v := iZ 1) d_Mo_takeSix_22 rfl ?_
      refine ev_goto (tgt := 27) d_Mo_takeSix_23 rfl ?_
      rw [show (if 0 ≤ hv F n (s25.1) (s25.2) ∧ hv F n (s25.1) (s25.2) ≤ 255 then 1 else 0 : Int) = 1 from by first | exact if_pos (by omega) | exact if_neg (by omega)] at kk
      exact kk
  refine ev_callV M_Mo_take (rm 0 0) _ (As := [.int (iZ (if 0 ≤ hv F n (s25.1) (s25.2) ∧ hv F n (s25.1) (s25.2) ≤ 255 then 1 else 0))]) (c_Mo_take G h26 σ27 m (s25.1) (hf n (s25.1) (s25.2)) (if 0 ≤ hv F n (s25.1) (s25.2) ∧ hv F n (s25.1) (s25.2) ≤ 255 then 1 else 0) hm f16 f17 (by omega) (by omega) (by split <;> simp)) d_Mo_takeSix_27 mk_Mo_take ml_Mo_117 mv_Mo_take hm rfl rfl rfl (Nat.le_of_ble_eq_true rfl) ⟨by decide, by decide⟩ ⟨by decide, by decide⟩ (fun r h28 hq => ?_)
  obtain ⟨rfl, ⟨σ29, gm, g16, g17, gs⟩, fmc⟩ := hq
  have q9 := sq_1 (F := F) (n := n) (p := s25.1) (ft := s25.2) (a := 0) (b := 255) (by omega) (by omega) (by omega) (rfl : (if 0 ≤ hv F n (s25.1) (s25.2) ∧ hv F n (s25.1) (s25.2) ≤ 255 then 1 else 0 : Int) = _)
  rw [q9.1] at g16
  rw [q9.2] at g17
  have hbu := (fmc _ (ninc (cne hbu hm (by simp)) nin0)).trans hbu
  have f0 := (gs 0 (by decide)).trans f0
  have f1 := (gs 1 (by decide)).trans f1
  have f16 := g16
  have f17 := g17
  have hm := gm
  have fm := fm.call (by simp) fmc
  have fs := fs.call (by simp) gs
  obtain ⟨s30, e_s30⟩ : ∃ zz, zz = sq F n [(0, 255)] s25 := ⟨_, rfl⟩
  have r_s30 := sq_r (F := F) (n := n) (A := [(0, 255)]) (s := s25) (by decide) (by show s25.1 ≤ n; omega) (by show -1 ≤ s25.2 ∧ s25.2 ≤ (n : Int); omega)
  rw [← e_s30] at r_s30
  rw [show sq F n [(0, 255)] (s25.1, s25.2) = s30 from e_s30.symm] at f16 f17
  refine ev_ldc2 (v := lZ 256) d_Mo_takeSix_30 kc_Mo_138 ?_
  refine ev_lload_n d_Mo_takeSix_33 rfl rfl ?_
  refine ez_lmul d_Mo_takeSix_34 ?_
  refine ev_iload d_Mo_takeSix_35 rfl ?_
  refine ez_i2l (by omega) d_Mo_takeSix_37 ?_
  refine ez_ladd d_Mo_takeSix_38 ?_
  refine ev_lstore_n (L' := [(0, .ref m), (1, .long (lZ ((256 * ((256 * ((256 * ((256 * ((256 * (0 + (hv F n (s0.1) (s0.2)))) + (hv F n (s5.1) (s5.2)))) + (hv F n (s10.1) (s10.2)))) + (hv F n (s15.1) (s15.2)))) + (hv F n (s20.1) (s20.2)))) + (hv F n (s25.1) (s25.2))))), (3, .int (iZ 5)), (4, .int (iZ (hv F n (s25.1) (s25.2))))]) d_Mo_takeSix_39 rfl (by decide) rfl ?_
  refine ez_iinc (L' := [(0, .ref m), (1, .long (lZ ((256 * ((256 * ((256 * ((256 * ((256 * (0 + (hv F n (s0.1) (s0.2)))) + (hv F n (s5.1) (s5.2)))) + (hv F n (s10.1) (s10.2)))) + (hv F n (s15.1) (s15.2)))) + (hv F n (s20.1) (s20.2)))) + (hv F n (s25.1) (s25.2))))), (3, .int (iZ 6)), (4, .int (iZ (hv F n (s25.1) (s25.2))))]) d_Mo_takeSix_40 rfl (by decide) rfl ?_
  refine ev_goto (tgt := 4) d_Mo_takeSix_43 rfl ?_
  refine ev_iload_n d_Mo_takeSix_4 rfl rfl ?_
  refine ev_bipush (v := iZ 6) d_Mo_takeSix_5 rfl ?_
  refine ez_icmp_ge (tgt := 46) (by decide) (by decide) d_Mo_takeSix_7 rfl (fun c7 => ?_) (fun c7 => absurd c7 (by omega))
  refine ev_lload_n d_Mo_takeSix_46 rfl rfl ?_
  have e9 : s30 = sq F n pat6 s0 := by simp only [e_s30, e_s25, e_s20, e_s15, e_s10, e_s5, pat6, sq_app]
  have hvv : (sq F n pat6 s0).2 < 0 → ((256 * ((256 * ((256 * ((256 * ((256 * (0 + (hv F n (s0.1) (s0.2)))) + (hv F n (s5.1) (s5.2)))) + (hv F n (s10.1) (s10.2)))) + (hv F n (s15.1) (s15.2)))) + (hv F n (s20.1) (s20.2)))) + (hv F n (s25.1) (s25.2)) : Int) = sxv F n 6 s0.1 0 := by
    intro q9
    rw [← e9] at q9
    have o_s30 := sq_ok (F := F) (n := n) (A := [(0, 255)]) (s := s25) (by rw [← e_s30]; exact q9)
    have q_s25 := o_s30.1
    have l_s30 : s30.1 = s25.1 + 1 := by rw [e_s30]; exact o_s30.2.2.1
    have w_s25 : hv F n s25.1 s25.2 = lk F n s25.1 := if_pos q_s25
    have o_s25 := sq_ok (F := F) (n := n) (A := [(0, 255)]) (s := s20) (by rw [← e_s25]; exact q_s25)
    have q_s20 := o_s25.1
    have l_s25 : s25.1 = s20.1 + 1 := by rw [e_s25]; exact o_s25.2.2.1
    have w_s20 : hv F n s20.1 s20.2 = lk F n s20.1 := if_pos q_s20
    have o_s20 := sq_ok (F := F) (n := n) (A := [(0, 255)]) (s := s15) (by rw [← e_s20]; exact q_s20)
    have q_s15 := o_s20.1
    have l_s20 : s20.1 = s15.1 + 1 := by rw [e_s20]; exact o_s20.2.2.1
    have w_s15 : hv F n s15.1 s15.2 = lk F n s15.1 := if_pos q_s15
    have o_s15 := sq_ok (F := F) (n := n) (A := [(0, 255)]) (s := s10) (by rw [← e_s15]; exact q_s15)
    have q_s10 := o_s15.1
    have l_s15 : s15.1 = s10.1 + 1 := by rw [e_s15]; exact o_s15.2.2.1
    have w_s10 : hv F n s10.1 s10.2 = lk F n s10.1 := if_pos q_s10
    have o_s10 := sq_ok (F := F) (n := n) (A := [(0, 255)]) (s := s5) (by rw [← e_s10]; exact q_s10)
    have q_s5 := o_s10.1
    have l_s10 : s10.1 = s5.1 + 1 := by rw [e_s10]; exact o_s10.2.2.1
    have w_s5 : hv F n s5.1 s5.2 = lk F n s5.1 := if_pos q_s5
    have o_s5 := sq_ok (F := F) (n := n) (A := [(0, 255)]) (s := s0) (by rw [← e_s5]; exact q_s5)
    have q_s0 := o_s5.1
    have l_s5 : s5.1 = s0.1 + 1 := by rw [e_s5]; exact o_s5.2.2.1
    have w_s0 : hv F n s0.1 s0.2 = lk F n s0.1 := if_pos q_s0
    have p_s5 : s5.1 = s0.1 + 1 := by omega
    have p_s10 : s10.1 = s0.1 + 2 := by omega
    have p_s15 : s15.1 = s0.1 + 3 := by omega
    have p_s20 : s20.1 = s0.1 + 4 := by omega
    have p_s25 : s25.1 = s0.1 + 5 := by omega
    have p_s30 : s30.1 = s0.1 + 6 := by omega
    simp only [w_s0, w_s5, w_s10, w_s15, w_s20, w_s25]
    simp only [p_s5, p_s10, p_s15, p_s20, p_s25]
    simp only [sxv]
    simp only [Nat.add_assoc, Nat.reduceAdd]
    omega
  exact ev_lreturn d_Mo_takeSix_47 rfl (by decide) (by decide) (⟨⟨_, rfl, hvv⟩, ⟨σ29, hm, by rw [← e9]; exact f16, by rw [← e9]; exact f17, fs⟩, fm⟩)
set_option maxHeartbeats 4000000 in
set_option maxRecDepth 100000 in
theorem c_Mo_takeFrames (G : GT) (h : HM) (σ : Nat → Value) (m bu n : Nat) (F : Nat → Int) (s0 : Nat × Int) (num den tk : Int) (hm : h m = some (.inr (11, fsN 34 σ))) (f0 : σ 0 = .int (iZ (n : Int))) (f1 : σ 1 = .ref bu) (f16 : σ 16 = .int (iZ ((s0.1 : Nat) : Int))) (f17 : σ 17 = .int (iZ s0.2)) (f2 : σ 2 = .int (iZ num)) (f3 : σ 3 = .int (iZ den)) (hbu : h bu = some (.inl (G_i G, 1000, .inl (iA F)))) (hn : n ≤ 1000) (hF : ∀ k, 0 ≤ F k ∧ F k ≤ 255) (hs0 : s0.1 ≤ n ∧ -1 ≤ s0.2 ∧ s0.2 ≤ n) (hnum : 1 ≤ num ∧ num ≤ 120000) (hden : 1 ≤ den ∧ den ≤ 1001) (htk : tk = 705600000 * den / num) : Rn G M_Mo_takeFrames (rm 2 60) [.ref m] h (fun r h' => (∃ v : Int, r = some (.long (lZ v)) ∧ ((fq F n s0).2 < 0 → v = frV F n s0.1 * tk)) ∧ (∃ σ', h' m = some (.inr (11, fsN 34 σ')) ∧ σ' 16 = .int (iZ (((fq F n s0).1 : Nat) : Int)) ∧ σ' 17 = .int (iZ (fq F n s0).2) ∧ Fs [16, 17] σ σ') ∧ Fm [m] h h') := by
  refine rn_of (by decide) (Nat.le_of_ble_eq_true rfl) ?_
  show Ev G M_Mo_takeFrames _ _ 0 [(0, .ref m)] [] _ 0 0
  have fm : Fm [m] h h := Fm.rf
  have fs : Fs [16, 17] σ σ := Fs.rf
  refine ev_aload_n d_Mo_takeFrames_0 rfl rfl ?_
  refine ev_bipush (v := iZ 123) d_Mo_takeFrames_1 rfl ?_
  refine ev_callV M_Mo_takeByte (rm 1 30) _ (As := [.int (iZ 123)]) (c_Mo_takeByte G h σ m bu n s0.1 F s0.2 123 hm f0 f1 f16 f17 hbu hn (by omega) hF (by omega) (by decide)) d_Mo_takeFrames_3 mk_Mo_takeByte ml_Mo_126 mv_Mo_takeByte hm rfl rfl rfl (Nat.le_of_ble_eq_true rfl) ⟨by decide, by decide⟩ ⟨by decide, by decide⟩ (fun r h1 hq => ?_)
  obtain ⟨rfl, ⟨σ2, gm, g16, g17, gs⟩, fmc⟩ := hq
  obtain ⟨s3, e_s3⟩ : ∃ zz, zz = sq F n [(123, 123)] s0 := ⟨_, rfl⟩
  have r_s3 := sq_r (F := F) (n := n) (A := [(123, 123)]) (s := s0) (by decide) (by show s0.1 ≤ n; omega) (by show -1 ≤ s0.2 ∧ s0.2 ≤ (n : Int); omega)
  rw [← e_s3] at r_s3
  rw [show sq F n [(123, 123)] (s0.1, s0.2) = s3 from e_s3.symm] at g16 g17
  have hbu := (fmc _ (ninc (cne hbu hm (by simp)) nin0)).trans hbu
  have f0 := (gs 0 (by decide)).trans f0
  have f1 := (gs 1 (by decide)).trans f1
  have f2 := (gs 2 (by decide)).trans f2
  have f3 := (gs 3 (by decide)).trans f3
  have f16 := g16
  have f17 := g17
  have hm := gm
  have fm := fm.call (by simp) fmc
  have fs := fs.call (by simp) gs
  refine ev_aload_n d_Mo_takeFrames_6 rfl rfl ?_
  refine ev_bipush (v := iZ 9) d_Mo_takeFrames_7 rfl ?_
  refine ev_callV M_Mo_takeDigit (rm 1 30) _ (As := [.int (iZ 9)]) (c_Mo_takeDigit G h1 σ2 m bu n s3.1 F s3.2 9 57 hm f0 f1 f16 f17 hbu hn (by omega) hF (by omega) (by decide) (by decide)) d_Mo_takeFrames_9 mk_Mo_takeDigit ml_Mo_121 mv_Mo_takeDigit hm rfl rfl rfl (Nat.le_of_ble_eq_true rfl) ⟨by decide, by decide⟩ ⟨by decide, by decide⟩ (fun r h4 hq => ?_)
  obtain ⟨rfl, ⟨σ5, gm, g16, g17, gs⟩, fmc⟩ := hq
  obtain ⟨s6, e_s6⟩ : ∃ zz, zz = sq F n [(48, 57)] s3 := ⟨_, rfl⟩
  have r_s6 := sq_r (F := F) (n := n) (A := [(48, 57)]) (s := s3) (by decide) (by show s3.1 ≤ n; omega) (by show -1 ≤ s3.2 ∧ s3.2 ≤ (n : Int); omega)
  rw [← e_s6] at r_s6
  rw [show sq F n [(48, 57)] (s3.1, s3.2) = s6 from e_s6.symm] at g16 g17
  have hbu := (fmc _ (ninc (cne hbu hm (by simp)) nin0)).trans hbu
  have f0 := (gs 0 (by decide)).trans f0
  have f1 := (gs 1 (by decide)).trans f1
  have f2 := (gs 2 (by decide)).trans f2
  have f3 := (gs 3 (by decide)).trans f3
  have f16 := g16
  have f17 := g17
  have hm := gm
  have fm := fm.call (by simp) fmc
  have fs := fs.call (by simp) gs
  have v_s6 := hv_r (n := n) (p := s3.1) (ft := s3.2) hF
  refine ez_i2l (by omega) d_Mo_takeFrames_12 ?_
  refine ev_lstore_n (L' := [(0, .ref m), (1, .long (lZ (hv F n s3.1 s3.2 - 48)))]) d_Mo_takeFrames_13 rfl (by decide) rfl ?_
  refine ev_iconst (v := iZ 1) d_Mo_takeFrames_14 rfl ?_
  refine ev_istore_n (L' := [(0, .ref m), (1, .long (lZ (hv F n s3.1 s3.2 - 48))), (3, .int (iZ 1))]) d_Mo_takeFrames_15 rfl (by decide) rfl ?_
  refine ev_iload_n d_Mo_takeFrames_16 rfl rfl ?_
  refine ev_bipush (v := iZ 6) d_Mo_takeFrames_17 rfl ?_
  refine ez_icmp_ge (tgt := 62) (by decide) (by decide) d_Mo_takeFrames_19 rfl (fun c19 => absurd c19 (by omega)) (fun c19 => ?_)
  refine ev_aload_n d_Mo_takeFrames_22 rfl rfl ?_
  refine ev_callV M_Mo_here (rm 0 0) _ (As := []) (c_Mo_here G h4 σ5 m bu n (s6.1) F (s6.2) hm f0 f1 f16 f17 hbu hn (by omega) hF (by omega)) d_Mo_takeFrames_23 mk_Mo_here ml_Mo_113 mv_Mo_here hm rfl rfl rfl (Nat.le_of_ble_eq_true rfl) ⟨by decide, by decide⟩ ⟨by decide, by decide⟩ (fun r h7 hq => ?_)
  obtain ⟨rfl, ⟨σ8, gm, g17, gs⟩, fmc⟩ := hq
  have hbu := (fmc _ (ninc (cne hbu hm (by simp)) nin0)).trans hbu
  have f0 := (gs 0 (by decide)).trans f0
  have f1 := (gs 1 (by decide)).trans f1
  have f16 := (gs 16 (by decide)).trans f16
  have f2 := (gs 2 (by decide)).trans f2
  have f3 := (gs 3 (by decide)).trans f3
  have f17 := g17
  have hm := gm
  have fm := fm.call (by simp) fmc
  have fs := fs.call (by simp) gs
  have hrh7 := hv_r (n := n) (p := s6.1) (ft := s6.2) hF
  have hkh7 := hf_r (n := n) (p := s6.1) (ft := s6.2) (by omega) hn
  skip
  refine ev_istore (L' := [(0, .ref m), (1, .long (lZ (hv F n s3.1 s3.2 - 48))), (3, .int (iZ 1)), (4, .int (iZ (hv F n (s6.1) s6.2)))]) d_Mo_takeFrames_26 (by decide) rfl ?_
  refine ev_iload d_Mo_takeFrames_28 rfl ?_
  refine ev_bipush (v := iZ 48) d_Mo_takeFrames_30 rfl ?_
  refine ez_icmp_lt (tgt := 56) (by omega) (by decide) d_Mo_takeFrames_32 rfl (fun c32 => ?_) (fun c32 => ?_)
  · refine ez_iinc (L' := [(0, .ref m), (1, .long (lZ (hv F n s3.1 s3.2 - 48))), (3, .int (iZ 2)), (4, .int (iZ (hv F n (s6.1) s6.2)))]) d_Mo_takeFrames_56 rfl (by decide) rfl ?_
    refine ev_goto (tgt := 16) d_Mo_takeFrames_59 rfl ?_
    refine ev_iload_n d_Mo_takeFrames_16 rfl rfl ?_
    refine ev_bipush (v := iZ 6) d_Mo_takeFrames_17 rfl ?_
    refine ez_icmp_ge (tgt := 62) (by decide) (by decide) d_Mo_takeFrames_19 rfl (fun c19 => absurd c19 (by omega)) (fun c19 => ?_)
    refine ev_aload_n d_Mo_takeFrames_22 rfl rfl ?_
    refine ev_callV M_Mo_here (rm 0 0) _ (As := []) (c_Mo_here G h7 σ8 m bu n (s6.1) F (hf n (s6.1) s6.2) hm f0 f1 f16 f17 hbu hn (by omega) hF (by omega)) d_Mo_takeFrames_23 mk_Mo_here ml_Mo_113 mv_Mo_here hm rfl rfl rfl (Nat.le_of_ble_eq_true rfl) ⟨by decide, by decide⟩ ⟨by decide, by decide⟩ (fun r h9 hq => ?_)
    obtain ⟨rfl, ⟨σ10, gm, g17, gs⟩, fmc⟩ := hq
    have hbu := (fmc _ (ninc (cne hbu hm (by simp)) nin0)).trans hbu
    have f0 := (gs 0 (by decide)).trans f0
    have f1 := (gs 1 (by decide)).trans f1
    have f16 := (gs 16 (by decide)).trans f16
    have f2 := (gs 2 (by decide)).trans f2
    have f3 := (gs 3 (by decide)).trans f3
    have f17 := g17
    have hm := gm
    have fm := fm.call (by simp) fmc
    have fs := fs.call (by simp) gs
    have hrh9 := hv_r (n := n) (p := s6.1) (ft := hf n (s6.1) s6.2) hF
    have hkh9 := hf_r (n := n) (p := s6.1) (ft := hf n (s6.1) s6.2) (by omega) hn
    rw [hf_hf] at f17
    refine ev_top (hv F n (s6.1) s6.2) (hv_hf) ?_
    refine ev_istore (L' := [(0, .ref m), (1, .long (lZ (hv F n s3.1 s3.2 - 48))), (3, .int (iZ 2)), (4, .int (iZ (hv F n (s6.1) s6.2)))]) d_Mo_takeFrames_26 (by decide) rfl ?_
    refine ev_iload d_Mo_takeFrames_28 rfl ?_
    refine ev_bipush (v := iZ 48) d_Mo_takeFrames_30 rfl ?_
    refine ez_icmp_lt (tgt := 56) (by omega) (by decide) d_Mo_takeFrames_32 rfl (fun c32 => ?_) (fun c32 => absurd c32 (by omega))
    refine ez_iinc (L' := [(0, .ref m), (1, .long (lZ (hv F n s3.1 s3.2 - 48))), (3, .int (iZ 3)), (4, .int (iZ (hv F n (s6.1) s6.2)))]) d_Mo_takeFrames_56 rfl (by decide) rfl ?_
    refine ev_goto (tgt := 16) d_Mo_takeFrames_59 rfl ?_
    refine ev_iload_n d_Mo_takeFrames_16 rfl rfl ?_
    refine ev_bipush (v := iZ 6) d_Mo_takeFrames_17 rfl ?_
    refine ez_icmp_ge (tgt := 62) (by decide) (by decide) d_Mo_takeFrames_19 rfl (fun c19 => absurd c19 (by omega)) (fun c19 => ?_)
    refine ev_aload_n d_Mo_takeFrames_22 rfl rfl ?_
    refine ev_callV M_Mo_here (rm 0 0) _ (As := []) (c_Mo_here G h9 σ10 m bu n (s6.1) F (hf n (s6.1) s6.2) hm f0 f1 f16 f17 hbu hn (by omega) hF (by omega)) d_Mo_takeFrames_23 mk_Mo_here ml_Mo_113 mv_Mo_here hm rfl rfl rfl (Nat.le_of_ble_eq_true rfl) ⟨by decide, by decide⟩ ⟨by decide, by decide⟩ (fun r h11 hq => ?_)
    obtain ⟨rfl, ⟨σ12, gm, g17, gs⟩, fmc⟩ := hq
    have hbu := (fmc _ (ninc (cne hbu hm (by simp)) nin0)).trans hbu
    have f0 := (gs 0 (by decide)).trans f0
    have f1 := (gs 1 (by decide)).trans f1
    have f16 := (gs 16 (by decide)).trans f16
    have f2 := (gs 2 (by decide)).trans f2
    have f3 := (gs 3 (by decide)).trans f3
    have f17 := g17
    have hm := gm
    have fm := fm.call (by simp) fmc
    have fs := fs.call (by simp) gs
    have hrh11 := hv_r (n := n) (p := s6.1) (ft := hf n (s6.1) s6.2) hF
    have hkh11 := hf_r (n := n) (p := s6.1) (ft := hf n (s6.1) s6.2) (by omega) hn
    rw [hf_hf] at f17
    refine ev_top (hv F n (s6.1) s6.2) (hv_hf) ?_
    refine ev_istore (L' := [(0, .ref m), (1, .long (lZ (hv F n s3.1 s3.2 - 48))), (3, .int (iZ 3)), (4, .int (iZ (hv F n (s6.1) s6.2)))]) d_Mo_takeFrames_26 (by decide) rfl ?_
    refine ev_iload d_Mo_takeFrames_28 rfl ?_
    refine ev_bipush (v := iZ 48) d_Mo_takeFrames_30 rfl ?_
    refine ez_icmp_lt (tgt := 56) (by omega) (by decide) d_Mo_takeFrames_32 rfl (fun c32 => ?_) (fun c32 => absurd c32 (by omega))
    refine ez_iinc (L' := [(0, .ref m), (1, .long (lZ (hv F n s3.1 s3.2 - 48))), (3, .int (iZ 4)), (4, .int (iZ (hv F n (s6.1) s6.2)))]) d_Mo_takeFrames_56 rfl (by decide) rfl ?_
    refine ev_goto (tgt := 16) d_Mo_takeFrames_59 rfl ?_
    refine ev_iload_n d_Mo_takeFrames_16 rfl rfl ?_
    refine ev_bipush (v := iZ 6) d_Mo_takeFrames_17 rfl ?_
    refine ez_icmp_ge (tgt := 62) (by decide) (by decide) d_Mo_takeFrames_19 rfl (fun c19 => absurd c19 (by omega)) (fun c19 => ?_)
    refine ev_aload_n d_Mo_takeFrames_22 rfl rfl ?_
    refine ev_callV M_Mo_here (rm 0 0) _ (As := []) (c_Mo_here G h11 σ12 m bu n (s6.1) F (hf n (s6.1) s6.2) hm f0 f1 f16 f17 hbu hn (by omega) hF (by omega)) d_Mo_takeFrames_23 mk_Mo_here ml_Mo_113 mv_Mo_here hm rfl rfl rfl (Nat.le_of_ble_eq_true rfl) ⟨by decide, by decide⟩ ⟨by decide, by decide⟩ (fun r h13 hq => ?_)
    obtain ⟨rfl, ⟨σ14, gm, g17, gs⟩, fmc⟩ := hq
    have hbu := (fmc _ (ninc (cne hbu hm (by simp)) nin0)).trans hbu
    have f0 := (gs 0 (by decide)).trans f0
    have f1 := (gs 1 (by decide)).trans f1
    have f16 := (gs 16 (by decide)).trans f16
    have f2 := (gs 2 (by decide)).trans f2
    have f3 := (gs 3 (by decide)).trans f3
    have f17 := g17
    have hm := gm
    have fm := fm.call (by simp) fmc
    have fs := fs.call (by simp) gs
    have hrh13 := hv_r (n := n) (p := s6.1) (ft := hf n (s6.1) s6.2) hF
    have hkh13 := hf_r (n := n) (p := s6.1) (ft := hf n (s6.1) s6.2) (by omega) hn
    rw [hf_hf] at f17
    refine ev_top (hv F n (s6.1) s6.2) (hv_hf) ?_
    refine ev_istore (L' := [(0, .ref m), (1, .long (lZ (hv F n s3.1 s3.2 - 48))), (3, .int (iZ 4)), (4, .int (iZ (hv F n (s6.1) s6.2)))]) d_Mo_takeFrames_26 (by decide) rfl ?_
    refine ev_iload d_Mo_takeFrames_28 rfl ?_
    refine ev_bipush (v := iZ 48) d_Mo_takeFrames_30 rfl ?_
    refine ez_icmp_lt (tgt := 56) (by omega) (by decide) d_Mo_takeFrames_32 rfl (fun c32 => ?_) (fun c32 => absurd c32 (by omega))
    refine ez_iinc (L' := [(0, .ref m), (1, .long (lZ (hv F n s3.1 s3.2 - 48))), (3, .int (iZ 5)), (4, .int (iZ (hv F n (s6.1) s6.2)))]) d_Mo_takeFrames_56 rfl (by decide) rfl ?_
    refine ev_goto (tgt := 16) d_Mo_takeFrames_59 rfl ?_
    refine ev_iload_n d_Mo_takeFrames_16 rfl rfl ?_
    refine ev_bipush (v := iZ 6) d_Mo_takeFrames_17 rfl ?_
    refine ez_icmp_ge (tgt := 62) (by decide) (by decide) d_Mo_takeFrames_19 rfl (fun c19 => absurd c19 (by omega)) (fun c19 => ?_)
    refine ev_aload_n d_Mo_takeFrames_22 rfl rfl ?_
    refine ev_callV M_Mo_here (rm 0 0) _ (As := []) (c_Mo_here G h13 σ14 m bu n (s6.1) F (hf n (s6.1) s6.2) hm f0 f1 f16 f17 hbu hn (by omega) hF (by omega)) d_Mo_takeFrames_23 mk_Mo_here ml_Mo_113 mv_Mo_here hm rfl rfl rfl (Nat.le_of_ble_eq_true rfl) ⟨by decide, by decide⟩ ⟨by decide, by decide⟩ (fun r h15 hq => ?_)
    obtain ⟨rfl, ⟨σ16, gm, g17, gs⟩, fmc⟩ := hq
    have hbu := (fmc _ (ninc (cne hbu hm (by simp)) nin0)).trans hbu
    have f0 := (gs 0 (by decide)).trans f0
    have f1 := (gs 1 (by decide)).trans f1
    have f16 := (gs 16 (by decide)).trans f16
    have f2 := (gs 2 (by decide)).trans f2
    have f3 := (gs 3 (by decide)).trans f3
    have f17 := g17
    have hm := gm
    have fm := fm.call (by simp) fmc
    have fs := fs.call (by simp) gs
    have hrh15 := hv_r (n := n) (p := s6.1) (ft := hf n (s6.1) s6.2) hF
    have hkh15 := hf_r (n := n) (p := s6.1) (ft := hf n (s6.1) s6.2) (by omega) hn
    rw [hf_hf] at f17
    refine ev_top (hv F n (s6.1) s6.2) (hv_hf) ?_
    refine ev_istore (L' := [(0, .ref m), (1, .long (lZ (hv F n s3.1 s3.2 - 48))), (3, .int (iZ 5)), (4, .int (iZ (hv F n (s6.1) s6.2)))]) d_Mo_takeFrames_26 (by decide) rfl ?_
    refine ev_iload d_Mo_takeFrames_28 rfl ?_
    refine ev_bipush (v := iZ 48) d_Mo_takeFrames_30 rfl ?_
    refine ez_icmp_lt (tgt := 56) (by omega) (by decide) d_Mo_takeFrames_32 rfl (fun c32 => ?_) (fun c32 => absurd c32 (by omega))
    refine ez_iinc (L' := [(0, .ref m), (1, .long (lZ (hv F n s3.1 s3.2 - 48))), (3, .int (iZ 6)), (4, .int (iZ (hv F n (s6.1) s6.2)))]) d_Mo_takeFrames_56 rfl (by decide) rfl ?_
    refine ev_goto (tgt := 16) d_Mo_takeFrames_59 rfl ?_
    refine ev_iload_n d_Mo_takeFrames_16 rfl rfl ?_
    refine ev_bipush (v := iZ 6) d_Mo_takeFrames_17 rfl ?_
    refine ez_icmp_ge (tgt := 62) (by decide) (by decide) d_Mo_takeFrames_19 rfl (fun c19 => ?_) (fun c19 => absurd c19 (by omega))
    refine ev_aload_n d_Mo_takeFrames_62 rfl rfl ?_
    refine ev_bipush (v := iZ 125) d_Mo_takeFrames_63 rfl ?_
    refine ev_callV M_Mo_takeByte (rm 1 30) _ (As := [.int (iZ 125)]) (c_Mo_takeByte G h15 σ16 m bu n (s6.1) F (hf n (s6.1) s6.2) 125 hm f0 f1 f16 f17 hbu hn (by omega) hF (by omega) (by decide)) d_Mo_takeFrames_65 mk_Mo_takeByte ml_Mo_126 mv_Mo_takeByte hm rfl rfl rfl (Nat.le_of_ble_eq_true rfl) ⟨by decide, by decide⟩ ⟨by decide, by decide⟩ (fun r h17 hq => ?_)
    obtain ⟨rfl, ⟨σ18, gm, g16, g17, gs⟩, fmc⟩ := hq
    rw [sq_hf (by decide) (by omega)] at g16 g17
    have hd9 : ∀ i, i < 0 → 48 ≤ hv F n (s6.1 + i) s6.2 ∧ hv F n (s6.1 + i) s6.2 ≤ 57 := by
      intro i hi
      exact absurd hi (by omega)
    have fe := fq_end (F := F) (n := n) (j := 0) (s0 := s0) (s2 := s6) hs0.2.1 (by rw [sq_app, e_s6, e_s3]) (by decide) hd9 (fun hj => by show ¬ (48 ≤ hv F n (s6.1) s6.2 ∧ hv F n (s6.1) s6.2 ≤ 57); omega)
    rw [show sq F n [(125, 125)] (s6.1, s6.2) = fq F n s0 from fe.1] at g16 g17
    have hbu := (fmc _ (ninc (cne hbu hm (by simp)) nin0)).trans hbu
    have f0 := (gs 0 (by decide)).trans f0
    have f1 := (gs 1 (by decide)).trans f1
    have f2 := (gs 2 (by decide)).trans f2
    have f3 := (gs 3 (by decide)).trans f3
    have f16 := g16
    have f17 := g17
    have hm := gm
    have fm := fm.call (by simp) fmc
    have fs := fs.call (by simp) gs
    refine ev_lload_n d_Mo_takeFrames_68 rfl rfl ?_
    refine ev_aload_n d_Mo_takeFrames_69 rfl rfl ?_
    refine ev_pV M_Mo_frame 0 0 (As := []) (c_Mo_frame G h17 σ18 m num den hm f2 f3 hnum hden) d_Mo_takeFrames_70 mk_Mo_frame ml_Mo_134 mv_Mo_frame hm rfl rfl rfl (Nat.le_of_ble_eq_true rfl) ⟨by decide, by decide⟩ ⟨by decide, by decide⟩ ?_
    rw [← htk]
    refine ez_lmul d_Mo_takeFrames_73 ?_
    have hvv : (fq F n s0).2 < 0 → ((hv F n s3.1 s3.2 - 48) * tk : Int) = frV F n s0.1 * tk := by
      intro q9
      rw [fe.2 q9]
      have o3 := sq_ok (F := F) (n := n) (A := [(125, 125)]) (s := (s6.1, s6.2)) (by rw [show sq F n [(125, 125)] (s6.1, s6.2) = fq F n s0 from fe.1]; exact q9)
      have q8 : s6.2 < 0 := o3.1
      have o_s6 := sq_ok (F := F) (n := n) (A := [(48, 57)]) (s := s3) (by rw [← e_s6]; exact q8)
      have q_s3 := o_s6.1
      have l_s6 : s6.1 = s3.1 + 1 := by rw [e_s6]; exact o_s6.2.2.1
      have w_s3 : hv F n s3.1 s3.2 = lk F n s3.1 := if_pos q_s3
      have o_s3 := sq_ok (F := F) (n := n) (A := [(123, 123)]) (s := s0) (by rw [← e_s3]; exact q_s3)
      have q_s0 := o_s3.1
      have l_s3 : s3.1 = s0.1 + 1 := by rw [e_s3]; exact o_s3.2.2.1
      have w_s0 : hv F n s0.1 s0.2 = lk F n s0.1 := if_pos q_s0
      have p_s3 : s3.1 = s0.1 + 1 := by omega
      have p_s6 : s6.1 = s0.1 + 2 := by omega
      have y_1 : hv F n s3.1 s3.2 = lk F n (s0.1 + 1) := by rw [w_s3, p_s3]
      simp only [dgv]
      rw [y_1]
      try rfl
    exact ev_lreturn d_Mo_takeFrames_74 rfl (by decide) (by decide) (⟨⟨_, rfl, hvv⟩, ⟨σ18, hm, f16, f17, fs⟩, fm⟩)
  · refine ev_iload d_Mo_takeFrames_35 rfl ?_
    refine ev_bipush (v := iZ 57) d_Mo_takeFrames_37 rfl ?_
    refine ez_icmp_gt (tgt := 56) (by omega) (by decide) d_Mo_takeFrames_39 rfl (fun c39 => ?_) (fun c39 => ?_)
    · refine ez_iinc (L' := [(0, .ref m), (1, .long (lZ (hv F n s3.1 s3.2 - 48))), (3, .int (iZ 2)), (4, .int (iZ (hv F n (s6.1) s6.2)))]) d_Mo_takeFrames_56 rfl (by decide) rfl ?_
      refine ev_goto (tgt := 16) d_Mo_takeFrames_59 rfl ?_
      refine ev_iload_n d_Mo_takeFrames_16 rfl rfl ?_
      refine ev_bipush (v := iZ 6) d_Mo_takeFrames_17 rfl ?_
      refine ez_icmp_ge (tgt := 62) (by decide) (by decide) d_Mo_takeFrames_19 rfl (fun c19 => absurd c19 (by omega)) (fun c19 => ?_)
      refine ev_aload_n d_Mo_takeFrames_22 rfl rfl ?_
      refine ev_callV M_Mo_here (rm 0 0) _ (As := []) (c_Mo_here G h7 σ8 m bu n (s6.1) F (hf n (s6.1) s6.2) hm f0 f1 f16 f17 hbu hn (by omega) hF (by omega)) d_Mo_takeFrames_23 mk_Mo_here ml_Mo_113 mv_Mo_here hm rfl rfl rfl (Nat.le_of_ble_eq_true rfl) ⟨by decide, by decide⟩ ⟨by decide, by decide⟩ (fun r h19 hq => ?_)
      obtain ⟨rfl, ⟨σ20, gm, g17, gs⟩, fmc⟩ := hq
      have hbu := (fmc _ (ninc (cne hbu hm (by simp)) nin0)).trans hbu
      have f0 := (gs 0 (by decide)).trans f0
      have f1 := (gs 1 (by decide)).trans f1
      have f16 := (gs 16 (by decide)).trans f16
      have f2 := (gs 2 (by decide)).trans f2
      have f3 := (gs 3 (by decide)).trans f3
      have f17 := g17
      have hm := gm
      have fm := fm.call (by simp) fmc
      have fs := fs.call (by simp) gs
      have hrh19 := hv_r (n := n) (p := s6.1) (ft := hf n (s6.1) s6.2) hF
      have hkh19 := hf_r (n := n) (p := s6.1) (ft := hf n (s6.1) s6.2) (by omega) hn
      rw [hf_hf] at f17
      refine ev_top (hv F n (s6.1) s6.2) (hv_hf) ?_
      refine ev_istore (L' := [(0, .ref m), (1, .long (lZ (hv F n s3.1 s3.2 - 48))), (3, .int (iZ 2)), (4, .int (iZ (hv F n (s6.1) s6.2)))]) d_Mo_takeFrames_26 (by decide) rfl ?_
      refine ev_iload d_Mo_takeFrames_28 rfl ?_
      refine ev_bipush (v := iZ 48) d_Mo_takeFrames_30 rfl ?_
      refine ez_icmp_lt (tgt := 56) (by omega) (by decide) d_Mo_takeFrames_32 rfl (fun c32 => absurd c32 (by omega)) (fun c32 => ?_)
      refine ev_iload d_Mo_takeFrames_35 rfl ?_
      refine ev_bipush (v := iZ 57) d_Mo_takeFrames_37 rfl ?_
      refine ez_icmp_gt (tgt := 56) (by omega) (by decide) d_Mo_takeFrames_39 rfl (fun c39 => ?_) (fun c39 => absurd c39 (by omega))
      refine ez_iinc (L' := [(0, .ref m), (1, .long (lZ (hv F n s3.1 s3.2 - 48))), (3, .int (iZ 3)), (4, .int (iZ (hv F n (s6.1) s6.2)))]) d_Mo_takeFrames_56 rfl (by decide) rfl ?_
      refine ev_goto (tgt := 16) d_Mo_takeFrames_59 rfl ?_
      refine ev_iload_n d_Mo_takeFrames_16 rfl rfl ?_
      refine ev_bipush (v := iZ 6) d_Mo_takeFrames_17 rfl ?_
      refine ez_icmp_ge (tgt := 62) (by decide) (by decide) d_Mo_takeFrames_19 rfl (fun c19 => absurd c19 (by omega)) (fun c19 => ?_)
      refine ev_aload_n d_Mo_takeFrames_22 rfl rfl ?_
      refine ev_callV M_Mo_here (rm 0 0) _ (As := []) (c_Mo_here G h19 σ20 m bu n (s6.1) F (hf n (s6.1) s6.2) hm f0 f1 f16 f17 hbu hn (by omega) hF (by omega)) d_Mo_takeFrames_23 mk_Mo_here ml_Mo_113 mv_Mo_here hm rfl rfl rfl (Nat.le_of_ble_eq_true rfl) ⟨by decide, by decide⟩ ⟨by decide, by decide⟩ (fun r h21 hq => ?_)
      obtain ⟨rfl, ⟨σ22, gm, g17, gs⟩, fmc⟩ := hq
      have hbu := (fmc _ (ninc (cne hbu hm (by simp)) nin0)).trans hbu
      have f0 := (gs 0 (by decide)).trans f0
      have f1 := (gs 1 (by decide)).trans f1
      have f16 := (gs 16 (by decide)).trans f16
      have f2 := (gs 2 (by decide)).trans f2
      have f3 := (gs 3 (by decide)).trans f3
      have f17 := g17
      have hm := gm
      have fm := fm.call (by simp) fmc
      have fs := fs.call (by simp) gs
      have hrh21 := hv_r (n := n) (p := s6.1) (ft := hf n (s6.1) s6.2) hF
      have hkh21 := hf_r (n := n) (p := s6.1) (ft := hf n (s6.1) s6.2) (by omega) hn
      rw [hf_hf] at f17
      refine ev_top (hv F n (s6.1) s6.2) (hv_hf) ?_
      refine ev_istore (L' := [(0, .ref m), (1, .long (lZ (hv F n s3.1 s3.2 - 48))), (3, .int (iZ 3)), (4, .int (iZ (hv F n (s6.1) s6.2)))]) d_Mo_takeFrames_26 (by decide) rfl ?_
      refine ev_iload d_Mo_takeFrames_28 rfl ?_
      refine ev_bipush (v := iZ 48) d_Mo_takeFrames_30 rfl ?_
      refine ez_icmp_lt (tgt := 56) (by omega) (by decide) d_Mo_takeFrames_32 rfl (fun c32 => absurd c32 (by omega)) (fun c32 => ?_)
      refine ev_iload d_Mo_takeFrames_35 rfl ?_
      refine ev_bipush (v := iZ 57) d_Mo_takeFrames_37 rfl ?_
      refine ez_icmp_gt (tgt := 56) (by omega) (by decide) d_Mo_takeFrames_39 rfl (fun c39 => ?_) (fun c39 => absurd c39 (by omega))
      refine ez_iinc (L' := [(0, .ref m), (1, .long (lZ (hv F n s3.1 s3.2 - 48))), (3, .int (iZ 4)), (4, .int (iZ (hv F n (s6.1) s6.2)))]) d_Mo_takeFrames_56 rfl (by decide) rfl ?_
      refine ev_goto (tgt := 16) d_Mo_takeFrames_59 rfl ?_
      refine ev_iload_n d_Mo_takeFrames_16 rfl rfl ?_
      refine ev_bipush (v := iZ 6) d_Mo_takeFrames_17 rfl ?_
      refine ez_icmp_ge (tgt := 62) (by decide) (by decide) d_Mo_takeFrames_19 rfl (fun c19 => absurd c19 (by omega)) (fun c19 => ?_)
      refine ev_aload_n d_Mo_takeFrames_22 rfl rfl ?_
      refine ev_callV M_Mo_here (rm 0 0) _ (As := []) (c_Mo_here G h21 σ22 m bu n (s6.1) F (hf n (s6.1) s6.2) hm f0 f1 f16 f17 hbu hn (by omega) hF (by omega)) d_Mo_takeFrames_23 mk_Mo_here ml_Mo_113 mv_Mo_here hm rfl rfl rfl (Nat.le_of_ble_eq_true rfl) ⟨by decide, by decide⟩ ⟨by decide, by decide⟩ (fun r h23 hq => ?_)
      obtain ⟨rfl, ⟨σ24, gm, g17, gs⟩, fmc⟩ := hq
      have hbu := (fmc _ (ninc (cne hbu hm (by simp)) nin0)).trans hbu
      have f0 := (gs 0 (by decide)).trans f0
      have f1 := (gs 1 (by decide)).trans f1
      have f16 := (gs 16 (by decide)).trans f16
      have f2 := (gs 2 (by decide)).trans f2
      have f3 := (gs 3 (by decide)).trans f3
      have f17 := g17
      have hm := gm
      have fm := fm.call (by simp) fmc
      have fs := fs.call (by simp) gs
      have hrh23 := hv_r (n := n) (p := s6.1) (ft := hf n (s6.1) s6.2) hF
      have hkh23 := hf_r (n := n) (p := s6.1) (ft := hf n (s6.1) s6.2) (by omega) hn
      rw [hf_hf] at f17
      refine ev_top (hv F n (s6.1) s6.2) (hv_hf) ?_
      refine ev_istore (L' := [(0, .ref m), (1, .long (lZ (hv F n s3.1 s3.2 - 48))), (3, .int (iZ 4)), (4, .int (iZ (hv F n (s6.1) s6.2)))]) d_Mo_takeFrames_26 (by decide) rfl ?_
      refine ev_iload d_Mo_takeFrames_28 rfl ?_
      refine ev_bipush (v := iZ 48) d_Mo_takeFrames_30 rfl ?_
      refine ez_icmp_lt (tgt := 56) (by omega) (by decide) d_Mo_takeFrames_32 rfl (fun c32 => absurd c32 (by omega)) (fun c32 => ?_)
      refine ev_iload d_Mo_takeFrames_35 rfl ?_
      refine ev_bipush (v := iZ 57) d_Mo_takeFrames_37 rfl ?_
      refine ez_icmp_gt (tgt := 56) (by omega) (by decide) d_Mo_takeFrames_39 rfl (fun c39 => ?_) (fun c39 => absurd c39 (by omega))
      refine ez_iinc (L' := [(0, .ref m), (1, .long (lZ (hv F n s3.1 s3.2 - 48))), (3, .int (iZ 5)), (4, .int (iZ (hv F n (s6.1) s6.2)))]) d_Mo_takeFrames_56 rfl (by decide) rfl ?_
      refine ev_goto (tgt := 16) d_Mo_takeFrames_59 rfl ?_
      refine ev_iload_n d_Mo_takeFrames_16 rfl rfl ?_
      refine ev_bipush (v := iZ 6) d_Mo_takeFrames_17 rfl ?_
      refine ez_icmp_ge (tgt := 62) (by decide) (by decide) d_Mo_takeFrames_19 rfl (fun c19 => absurd c19 (by omega)) (fun c19 => ?_)
      refine ev_aload_n d_Mo_takeFrames_22 rfl rfl ?_
      refine ev_callV M_Mo_here (rm 0 0) _ (As := []) (c_Mo_here G h23 σ24 m bu n (s6.1) F (hf n (s6.1) s6.2) hm f0 f1 f16 f17 hbu hn (by omega) hF (by omega)) d_Mo_takeFrames_23 mk_Mo_here ml_Mo_113 mv_Mo_here hm rfl rfl rfl (Nat.le_of_ble_eq_true rfl) ⟨by decide, by decide⟩ ⟨by decide, by decide⟩ (fun r h25 hq => ?_)
      obtain ⟨rfl, ⟨σ26, gm, g17, gs⟩, fmc⟩ := hq
      have hbu := (fmc _ (ninc (cne hbu hm (by simp)) nin0)).trans hbu
      have f0 := (gs 0 (by decide)).trans f0
      have f1 := (gs 1 (by decide)).trans f1
      have f16 := (gs 16 (by decide)).trans f16
      have f2 := (gs 2 (by decide)).trans f2
      have f3 := (gs 3 (by decide)).trans f3
      have f17 := g17
      have hm := gm
      have fm := fm.call (by simp) fmc
      have fs := fs.call (by simp) gs
      have hrh25 := hv_r (n := n) (p := s6.1) (ft := hf n (s6.1) s6.2) hF
      have hkh25 := hf_r (n := n) (p := s6.1) (ft := hf n (s6.1) s6.2) (by omega) hn
      rw [hf_hf] at f17
      refine ev_top (hv F n (s6.1) s6.2) (hv_hf) ?_
      refine ev_istore (L' := [(0, .ref m), (1, .long (lZ (hv F n s3.1 s3.2 - 48))), (3, .int (iZ 5)), (4, .int (iZ (hv F n (s6.1) s6.2)))]) d_Mo_takeFrames_26 (by decide) rfl ?_
      refine ev_iload d_Mo_takeFrames_28 rfl ?_
      refine ev_bipush (v := iZ 48) d_Mo_takeFrames_30 rfl ?_
      refine ez_icmp_lt (tgt := 56) (by omega) (by decide) d_Mo_takeFrames_32 rfl (fun c32 => absurd c32 (by omega)) (fun c32 => ?_)
      refine ev_iload d_Mo_takeFrames_35 rfl ?_
      refine ev_bipush (v := iZ 57) d_Mo_takeFrames_37 rfl ?_
      refine ez_icmp_gt (tgt := 56) (by omega) (by decide) d_Mo_takeFrames_39 rfl (fun c39 => ?_) (fun c39 => absurd c39 (by omega))
      refine ez_iinc (L' := [(0, .ref m), (1, .long (lZ (hv F n s3.1 s3.2 - 48))), (3, .int (iZ 6)), (4, .int (iZ (hv F n (s6.1) s6.2)))]) d_Mo_takeFrames_56 rfl (by decide) rfl ?_
      refine ev_goto (tgt := 16) d_Mo_takeFrames_59 rfl ?_
      refine ev_iload_n d_Mo_takeFrames_16 rfl rfl ?_
      refine ev_bipush (v := iZ 6) d_Mo_takeFrames_17 rfl ?_
      refine ez_icmp_ge (tgt := 62) (by decide) (by decide) d_Mo_takeFrames_19 rfl (fun c19 => ?_) (fun c19 => absurd c19 (by omega))
      refine ev_aload_n d_Mo_takeFrames_62 rfl rfl ?_
      refine ev_bipush (v := iZ 125) d_Mo_takeFrames_63 rfl ?_
      refine ev_callV M_Mo_takeByte (rm 1 30) _ (As := [.int (iZ 125)]) (c_Mo_takeByte G h25 σ26 m bu n (s6.1) F (hf n (s6.1) s6.2) 125 hm f0 f1 f16 f17 hbu hn (by omega) hF (by omega) (by decide)) d_Mo_takeFrames_65 mk_Mo_takeByte ml_Mo_126 mv_Mo_takeByte hm rfl rfl rfl (Nat.le_of_ble_eq_true rfl) ⟨by decide, by decide⟩ ⟨by decide, by decide⟩ (fun r h27 hq => ?_)
      obtain ⟨rfl, ⟨σ28, gm, g16, g17, gs⟩, fmc⟩ := hq
      rw [sq_hf (by decide) (by omega)] at g16 g17
      have hd9 : ∀ i, i < 0 → 48 ≤ hv F n (s6.1 + i) s6.2 ∧ hv F n (s6.1 + i) s6.2 ≤ 57 := by
        intro i hi
        exact absurd hi (by omega)
      have fe := fq_end (F := F) (n := n) (j := 0) (s0 := s0) (s2 := s6) hs0.2.1 (by rw [sq_app, e_s6, e_s3]) (by decide) hd9 (fun hj => by show ¬ (48 ≤ hv F n (s6.1) s6.2 ∧ hv F n (s6.1) s6.2 ≤ 57); omega)
      rw [show sq F n [(125, 125)] (s6.1, s6.2) = fq F n s0 from fe.1] at g16 g17
      have hbu := (fmc _ (ninc (cne hbu hm (by simp)) nin0)).trans hbu
      have f0 := (gs 0 (by decide)).trans f0
      have f1 := (gs 1 (by decide)).trans f1
      have f2 := (gs 2 (by decide)).trans f2
      have f3 := (gs 3 (by decide)).trans f3
      have f16 := g16
      have f17 := g17
      have hm := gm
      have fm := fm.call (by simp) fmc
      have fs := fs.call (by simp) gs
      refine ev_lload_n d_Mo_takeFrames_68 rfl rfl ?_
      refine ev_aload_n d_Mo_takeFrames_69 rfl rfl ?_
      refine ev_pV M_Mo_frame 0 0 (As := []) (c_Mo_frame G h27 σ28 m num den hm f2 f3 hnum hden) d_Mo_takeFrames_70 mk_Mo_frame ml_Mo_134 mv_Mo_frame hm rfl rfl rfl (Nat.le_of_ble_eq_true rfl) ⟨by decide, by decide⟩ ⟨by decide, by decide⟩ ?_
      rw [← htk]
      refine ez_lmul d_Mo_takeFrames_73 ?_
      have hvv : (fq F n s0).2 < 0 → ((hv F n s3.1 s3.2 - 48) * tk : Int) = frV F n s0.1 * tk := by
        intro q9
        rw [fe.2 q9]
        have o3 := sq_ok (F := F) (n := n) (A := [(125, 125)]) (s := (s6.1, s6.2)) (by rw [show sq F n [(125, 125)] (s6.1, s6.2) = fq F n s0 from fe.1]; exact q9)
        have q8 : s6.2 < 0 := o3.1
        have o_s6 := sq_ok (F := F) (n := n) (A := [(48, 57)]) (s := s3) (by rw [← e_s6]; exact q8)
        have q_s3 := o_s6.1
        have l_s6 : s6.1 = s3.1 + 1 := by rw [e_s6]; exact o_s6.2.2.1
        have w_s3 : hv F n s3.1 s3.2 = lk F n s3.1 := if_pos q_s3
        have o_s3 := sq_ok (F := F) (n := n) (A := [(123, 123)]) (s := s0) (by rw [← e_s3]; exact q_s3)
        have q_s0 := o_s3.1
        have l_s3 : s3.1 = s0.1 + 1 := by rw [e_s3]; exact o_s3.2.2.1
        have w_s0 : hv F n s0.1 s0.2 = lk F n s0.1 := if_pos q_s0
        have p_s3 : s3.1 = s0.1 + 1 := by omega
        have p_s6 : s6.1 = s0.1 + 2 := by omega
        have y_1 : hv F n s3.1 s3.2 = lk F n (s0.1 + 1) := by rw [w_s3, p_s3]
        simp only [dgv]
        rw [y_1]
        try rfl
      exact ev_lreturn d_Mo_takeFrames_74 rfl (by decide) (by decide) (⟨⟨_, rfl, hvv⟩, ⟨σ28, hm, f16, f17, fs⟩, fm⟩)
    · refine ev_ldc2 (v := lZ 10) d_Mo_takeFrames_42 kc_Mo_130 ?_
      refine ev_lload_n d_Mo_takeFrames_45 rfl rfl ?_
      refine ez_lmul d_Mo_takeFrames_46 ?_
      refine ev_aload_n d_Mo_takeFrames_47 rfl rfl ?_
      refine ev_bipush (v := iZ 9) d_Mo_takeFrames_48 rfl ?_
      have d_0 : 48 ≤ hv F n (s6.1) s6.2 ∧ hv F n (s6.1) s6.2 ≤ 57 := ⟨by omega, by omega⟩
      have dp_0 := hv_p (F := F) (n := n) (p := s6.1) (ft := s6.2) (by omega)
      rw [hf_p dp_0.2.1] at f17
      refine ev_callV M_Mo_takeDigit (rm 1 30) _ (As := [.int (iZ 9)]) (c_Mo_takeDigit G h7 σ8 m bu n (s6.1) F s6.2 9 57 hm f0 f1 f16 f17 hbu hn (by omega) hF (by omega) (by decide) (by decide)) d_Mo_takeFrames_50 mk_Mo_takeDigit ml_Mo_121 mv_Mo_takeDigit hm rfl rfl rfl (Nat.le_of_ble_eq_true rfl) ⟨by decide, by decide⟩ ⟨by decide, by decide⟩ (fun r h29 hq => ?_)
      obtain ⟨rfl, ⟨σ30, gm, g16, g17, gs⟩, fmc⟩ := hq
      rw [sq_dig (by decide) (by omega) d_0] at g16 g17
      have hbu := (fmc _ (ninc (cne hbu hm (by simp)) nin0)).trans hbu
      have f0 := (gs 0 (by decide)).trans f0
      have f1 := (gs 1 (by decide)).trans f1
      have f2 := (gs 2 (by decide)).trans f2
      have f3 := (gs 3 (by decide)).trans f3
      have f16 := g16
      have f17 := g17
      have hm := gm
      have fm := fm.call (by simp) fmc
      have fs := fs.call (by simp) gs
      replace f16 : σ30 16 = .int (iZ ((s6.1 + 1 : Nat) : Int)) := f16
      replace f17 : σ30 17 = .int (iZ s6.2) := f17
      refine ez_i2l (by omega) d_Mo_takeFrames_53 ?_
      refine ez_ladd d_Mo_takeFrames_54 ?_
      refine ev_lstore_n (L' := [(0, .ref m), (1, .long (lZ ((10 * (hv F n s3.1 s3.2 - 48)) + (hv F n (s6.1) s6.2 - 48)))), (3, .int (iZ 1)), (4, .int (iZ (hv F n (s6.1) s6.2)))]) d_Mo_takeFrames_55 rfl (by decide) rfl ?_
      refine ez_iinc (L' := [(0, .ref m), (1, .long (lZ ((10 * (hv F n s3.1 s3.2 - 48)) + (hv F n (s6.1) s6.2 - 48)))), (3, .int (iZ 2)), (4, .int (iZ (hv F n (s6.1) s6.2)))]) d_Mo_takeFrames_56 rfl (by decide) rfl ?_
      refine ev_goto (tgt := 16) d_Mo_takeFrames_59 rfl ?_
      refine ev_iload_n d_Mo_takeFrames_16 rfl rfl ?_
      refine ev_bipush (v := iZ 6) d_Mo_takeFrames_17 rfl ?_
      refine ez_icmp_ge (tgt := 62) (by decide) (by decide) d_Mo_takeFrames_19 rfl (fun c19 => absurd c19 (by omega)) (fun c19 => ?_)
      refine ev_aload_n d_Mo_takeFrames_22 rfl rfl ?_
      refine ev_callV M_Mo_here (rm 0 0) _ (As := []) (c_Mo_here G h29 σ30 m bu n (s6.1 + 1) F (s6.2) hm f0 f1 f16 f17 hbu hn (by omega) hF (by omega)) d_Mo_takeFrames_23 mk_Mo_here ml_Mo_113 mv_Mo_here hm rfl rfl rfl (Nat.le_of_ble_eq_true rfl) ⟨by decide, by decide⟩ ⟨by decide, by decide⟩ (fun r h31 hq => ?_)
      obtain ⟨rfl, ⟨σ32, gm, g17, gs⟩, fmc⟩ := hq
      have hbu := (fmc _ (ninc (cne hbu hm (by simp)) nin0)).trans hbu
      have f0 := (gs 0 (by decide)).trans f0
      have f1 := (gs 1 (by decide)).trans f1
      have f16 := (gs 16 (by decide)).trans f16
      have f2 := (gs 2 (by decide)).trans f2
      have f3 := (gs 3 (by decide)).trans f3
      have f17 := g17
      have hm := gm
      have fm := fm.call (by simp) fmc
      have fs := fs.call (by simp) gs
      have hrh31 := hv_r (n := n) (p := s6.1 + 1) (ft := s6.2) hF
      have hkh31 := hf_r (n := n) (p := s6.1 + 1) (ft := s6.2) (by omega) hn
      skip
      refine ev_istore (L' := [(0, .ref m), (1, .long (lZ ((10 * (hv F n s3.1 s3.2 - 48)) + (hv F n (s6.1) s6.2 - 48)))), (3, .int (iZ 2)), (4, .int (iZ (hv F n (s6.1 + 1) s6.2)))]) d_Mo_takeFrames_26 (by decide) rfl ?_
      refine ev_iload d_Mo_takeFrames_28 rfl ?_
      refine ev_bipush (v := iZ 48) d_Mo_takeFrames_30 rfl ?_
      refine ez_icmp_lt (tgt := 56) (by omega) (by decide) d_Mo_takeFrames_32 rfl (fun c32 => ?_) (fun c32 => ?_)
      · refine ez_iinc (L' := [(0, .ref m), (1, .long (lZ ((10 * (hv F n s3.1 s3.2 - 48)) + (hv F n (s6.1) s6.2 - 48)))), (3, .int (iZ 3)), (4, .int (iZ (hv F n (s6.1 + 1) s6.2)))]) d_Mo_takeFrames_56 rfl (by decide) rfl ?_
        refine ev_goto (tgt := 16) d_Mo_takeFrames_59 rfl ?_
        refine ev_iload_n d_Mo_takeFrames_16 rfl rfl ?_
        refine ev_bipush (v := iZ 6) d_Mo_takeFrames_17 rfl ?_
        refine ez_icmp_ge (tgt := 62) (by decide) (by decide) d_Mo_takeFrames_19 rfl (fun c19 => absurd c19 (by omega)) (fun c19 => ?_)
        refine ev_aload_n d_Mo_takeFrames_22 rfl rfl ?_
        refine ev_callV M_Mo_here (rm 0 0) _ (As := []) (c_Mo_here G h31 σ32 m bu n (s6.1 + 1) F (hf n (s6.1 + 1) s6.2) hm f0 f1 f16 f17 hbu hn (by omega) hF (by omega)) d_Mo_takeFrames_23 mk_Mo_here ml_Mo_113 mv_Mo_here hm rfl rfl rfl (Nat.le_of_ble_eq_true rfl) ⟨by decide, by decide⟩ ⟨by decide, by decide⟩ (fun r h33 hq => ?_)
        obtain ⟨rfl, ⟨σ34, gm, g17, gs⟩, fmc⟩ := hq
        have hbu := (fmc _ (ninc (cne hbu hm (by simp)) nin0)).trans hbu
        have f0 := (gs 0 (by decide)).trans f0
        have f1 := (gs 1 (by decide)).trans f1
        have f16 := (gs 16 (by decide)).trans f16
        have f2 := (gs 2 (by decide)).trans f2
        have f3 := (gs 3 (by decide)).trans f3
        have f17 := g17
        have hm := gm
        have fm := fm.call (by simp) fmc
        have fs := fs.call (by simp) gs
        have hrh33 := hv_r (n := n) (p := s6.1 + 1) (ft := hf n (s6.1 + 1) s6.2) hF
        have hkh33 := hf_r (n := n) (p := s6.1 + 1) (ft := hf n (s6.1 + 1) s6.2) (by omega) hn
        rw [hf_hf] at f17
        refine ev_top (hv F n (s6.1 + 1) s6.2) (hv_hf) ?_
        refine ev_istore (L' := [(0, .ref m), (1, .long (lZ ((10 * (hv F n s3.1 s3.2 - 48)) + (hv F n (s6.1) s6.2 - 48)))), (3, .int (iZ 3)), (4, .int (iZ (hv F n (s6.1 + 1) s6.2)))]) d_Mo_takeFrames_26 (by decide) rfl ?_
        refine ev_iload d_Mo_takeFrames_28 rfl ?_
        refine ev_bipush (v := iZ 48) d_Mo_takeFrames_30 rfl ?_
        refine ez_icmp_lt (tgt := 56) (by omega) (by decide) d_Mo_takeFrames_32 rfl (fun c32 => ?_) (fun c32 => absurd c32 (by omega))
        refine ez_iinc (L' := [(0, .ref m), (1, .long (lZ ((10 * (hv F n s3.1 s3.2 - 48)) + (hv F n (s6.1) s6.2 - 48)))), (3, .int (iZ 4)), (4, .int (iZ (hv F n (s6.1 + 1) s6.2)))]) d_Mo_takeFrames_56 rfl (by decide) rfl ?_
        refine ev_goto (tgt := 16) d_Mo_takeFrames_59 rfl ?_
        refine ev_iload_n d_Mo_takeFrames_16 rfl rfl ?_
        refine ev_bipush (v := iZ 6) d_Mo_takeFrames_17 rfl ?_
        refine ez_icmp_ge (tgt := 62) (by decide) (by decide) d_Mo_takeFrames_19 rfl (fun c19 => absurd c19 (by omega)) (fun c19 => ?_)
        refine ev_aload_n d_Mo_takeFrames_22 rfl rfl ?_
        refine ev_callV M_Mo_here (rm 0 0) _ (As := []) (c_Mo_here G h33 σ34 m bu n (s6.1 + 1) F (hf n (s6.1 + 1) s6.2) hm f0 f1 f16 f17 hbu hn (by omega) hF (by omega)) d_Mo_takeFrames_23 mk_Mo_here ml_Mo_113 mv_Mo_here hm rfl rfl rfl (Nat.le_of_ble_eq_true rfl) ⟨by decide, by decide⟩ ⟨by decide, by decide⟩ (fun r h35 hq => ?_)
        obtain ⟨rfl, ⟨σ36, gm, g17, gs⟩, fmc⟩ := hq
        have hbu := (fmc _ (ninc (cne hbu hm (by simp)) nin0)).trans hbu
        have f0 := (gs 0 (by decide)).trans f0
        have f1 := (gs 1 (by decide)).trans f1
        have f16 := (gs 16 (by decide)).trans f16
        have f2 := (gs 2 (by decide)).trans f2
        have f3 := (gs 3 (by decide)).trans f3
        have f17 := g17
        have hm := gm
        have fm := fm.call (by simp) fmc
        have fs := fs.call (by simp) gs
        have hrh35 := hv_r (n := n) (p := s6.1 + 1) (ft := hf n (s6.1 + 1) s6.2) hF
        have hkh35 := hf_r (n := n) (p := s6.1 + 1) (ft := hf n (s6.1 + 1) s6.2) (by omega) hn
        rw [hf_hf] at f17
        refine ev_top (hv F n (s6.1 + 1) s6.2) (hv_hf) ?_
        refine ev_istore (L' := [(0, .ref m), (1, .long (lZ ((10 * (hv F n s3.1 s3.2 - 48)) + (hv F n (s6.1) s6.2 - 48)))), (3, .int (iZ 4)), (4, .int (iZ (hv F n (s6.1 + 1) s6.2)))]) d_Mo_takeFrames_26 (by decide) rfl ?_
        refine ev_iload d_Mo_takeFrames_28 rfl ?_
        refine ev_bipush (v := iZ 48) d_Mo_takeFrames_30 rfl ?_
        refine ez_icmp_lt (tgt := 56) (by omega) (by decide) d_Mo_takeFrames_32 rfl (fun c32 => ?_) (fun c32 => absurd c32 (by omega))
        refine ez_iinc (L' := [(0, .ref m), (1, .long (lZ ((10 * (hv F n s3.1 s3.2 - 48)) + (hv F n (s6.1) s6.2 - 48)))), (3, .int (iZ 5)), (4, .int (iZ (hv F n (s6.1 + 1) s6.2)))]) d_Mo_takeFrames_56 rfl (by decide) rfl ?_
        refine ev_goto (tgt := 16) d_Mo_takeFrames_59 rfl ?_
        refine ev_iload_n d_Mo_takeFrames_16 rfl rfl ?_
        refine ev_bipush (v := iZ 6) d_Mo_takeFrames_17 rfl ?_
        refine ez_icmp_ge (tgt := 62) (by decide) (by decide) d_Mo_takeFrames_19 rfl (fun c19 => absurd c19 (by omega)) (fun c19 => ?_)
        refine ev_aload_n d_Mo_takeFrames_22 rfl rfl ?_
        refine ev_callV M_Mo_here (rm 0 0) _ (As := []) (c_Mo_here G h35 σ36 m bu n (s6.1 + 1) F (hf n (s6.1 + 1) s6.2) hm f0 f1 f16 f17 hbu hn (by omega) hF (by omega)) d_Mo_takeFrames_23 mk_Mo_here ml_Mo_113 mv_Mo_here hm rfl rfl rfl (Nat.le_of_ble_eq_true rfl) ⟨by decide, by decide⟩ ⟨by decide, by decide⟩ (fun r h37 hq => ?_)
        obtain ⟨rfl, ⟨σ38, gm, g17, gs⟩, fmc⟩ := hq
        have hbu := (fmc _ (ninc (cne hbu hm (by simp)) nin0)).trans hbu
        have f0 := (gs 0 (by decide)).trans f0
        have f1 := (gs 1 (by decide)).trans f1
        have f16 := (gs 16 (by decide)).trans f16
        have f2 := (gs 2 (by decide)).trans f2
        have f3 := (gs 3 (by decide)).trans f3
        have f17 := g17
        have hm := gm
        have fm := fm.call (by simp) fmc
        have fs := fs.call (by simp) gs
        have hrh37 := hv_r (n := n) (p := s6.1 + 1) (ft := hf n (s6.1 + 1) s6.2) hF
        have hkh37 := hf_r (n := n) (p := s6.1 + 1) (ft := hf n (s6.1 + 1) s6.2) (by omega) hn
        rw [hf_hf] at f17
        refine ev_top (hv F n (s6.1 + 1) s6.2) (hv_hf) ?_
        refine ev_istore (L' := [(0, .ref m), (1, .long (lZ ((10 * (hv F n s3.1 s3.2 - 48)) + (hv F n (s6.1) s6.2 - 48)))), (3, .int (iZ 5)), (4, .int (iZ (hv F n (s6.1 + 1) s6.2)))]) d_Mo_takeFrames_26 (by decide) rfl ?_
        refine ev_iload d_Mo_takeFrames_28 rfl ?_
        refine ev_bipush (v := iZ 48) d_Mo_takeFrames_30 rfl ?_
        refine ez_icmp_lt (tgt := 56) (by omega) (by decide) d_Mo_takeFrames_32 rfl (fun c32 => ?_) (fun c32 => absurd c32 (by omega))
        refine ez_iinc (L' := [(0, .ref m), (1, .long (lZ ((10 * (hv F n s3.1 s3.2 - 48)) + (hv F n (s6.1) s6.2 - 48)))), (3, .int (iZ 6)), (4, .int (iZ (hv F n (s6.1 + 1) s6.2)))]) d_Mo_takeFrames_56 rfl (by decide) rfl ?_
        refine ev_goto (tgt := 16) d_Mo_takeFrames_59 rfl ?_
        refine ev_iload_n d_Mo_takeFrames_16 rfl rfl ?_
        refine ev_bipush (v := iZ 6) d_Mo_takeFrames_17 rfl ?_
        refine ez_icmp_ge (tgt := 62) (by decide) (by decide) d_Mo_takeFrames_19 rfl (fun c19 => ?_) (fun c19 => absurd c19 (by omega))
        refine ev_aload_n d_Mo_takeFrames_62 rfl rfl ?_
        refine ev_bipush (v := iZ 125) d_Mo_takeFrames_63 rfl ?_
        refine ev_callV M_Mo_takeByte (rm 1 30) _ (As := [.int (iZ 125)]) (c_Mo_takeByte G h37 σ38 m bu n (s6.1 + 1) F (hf n (s6.1 + 1) s6.2) 125 hm f0 f1 f16 f17 hbu hn (by omega) hF (by omega) (by decide)) d_Mo_takeFrames_65 mk_Mo_takeByte ml_Mo_126 mv_Mo_takeByte hm rfl rfl rfl (Nat.le_of_ble_eq_true rfl) ⟨by decide, by decide⟩ ⟨by decide, by decide⟩ (fun r h39 hq => ?_)
        obtain ⟨rfl, ⟨σ40, gm, g16, g17, gs⟩, fmc⟩ := hq
        rw [sq_hf (by decide) (by omega)] at g16 g17
        have hd9 : ∀ i, i < 1 → 48 ≤ hv F n (s6.1 + i) s6.2 ∧ hv F n (s6.1 + i) s6.2 ≤ 57 := by
          intro i hi
          obtain rfl : i = 0 := by omega
          exact d_0
        have fe := fq_end (F := F) (n := n) (j := 1) (s0 := s0) (s2 := s6) hs0.2.1 (by rw [sq_app, e_s6, e_s3]) (by decide) hd9 (fun hj => by show ¬ (48 ≤ hv F n (s6.1 + 1) s6.2 ∧ hv F n (s6.1 + 1) s6.2 ≤ 57); omega)
        rw [show sq F n [(125, 125)] (s6.1 + 1, s6.2) = fq F n s0 from fe.1] at g16 g17
        have hbu := (fmc _ (ninc (cne hbu hm (by simp)) nin0)).trans hbu
        have f0 := (gs 0 (by decide)).trans f0
        have f1 := (gs 1 (by decide)).trans f1
        have f2 := (gs 2 (by decide)).trans f2
        have f3 := (gs 3 (by decide)).trans f3
        have f16 := g16
        have f17 := g17
        have hm := gm
        have fm := fm.call (by simp) fmc
        have fs := fs.call (by simp) gs
        refine ev_lload_n d_Mo_takeFrames_68 rfl rfl ?_
        refine ev_aload_n d_Mo_takeFrames_69 rfl rfl ?_
        refine ev_pV M_Mo_frame 0 0 (As := []) (c_Mo_frame G h39 σ40 m num den hm f2 f3 hnum hden) d_Mo_takeFrames_70 mk_Mo_frame ml_Mo_134 mv_Mo_frame hm rfl rfl rfl (Nat.le_of_ble_eq_true rfl) ⟨by decide, by decide⟩ ⟨by decide, by decide⟩ ?_
        rw [← htk]
        refine ez_lmul d_Mo_takeFrames_73 ?_
        have hvv : (fq F n s0).2 < 0 → (((10 * (hv F n s3.1 s3.2 - 48)) + (hv F n (s6.1) s6.2 - 48)) * tk : Int) = frV F n s0.1 * tk := by
          intro q9
          rw [fe.2 q9]
          have o3 := sq_ok (F := F) (n := n) (A := [(125, 125)]) (s := (s6.1 + 1, s6.2)) (by rw [show sq F n [(125, 125)] (s6.1 + 1, s6.2) = fq F n s0 from fe.1]; exact q9)
          have q8 : s6.2 < 0 := o3.1
          have o_s6 := sq_ok (F := F) (n := n) (A := [(48, 57)]) (s := s3) (by rw [← e_s6]; exact q8)
          have q_s3 := o_s6.1
          have l_s6 : s6.1 = s3.1 + 1 := by rw [e_s6]; exact o_s6.2.2.1
          have w_s3 : hv F n s3.1 s3.2 = lk F n s3.1 := if_pos q_s3
          have o_s3 := sq_ok (F := F) (n := n) (A := [(123, 123)]) (s := s0) (by rw [← e_s3]; exact q_s3)
          have q_s0 := o_s3.1
          have l_s3 : s3.1 = s0.1 + 1 := by rw [e_s3]; exact o_s3.2.2.1
          have w_s0 : hv F n s0.1 s0.2 = lk F n s0.1 := if_pos q_s0
          have p_s3 : s3.1 = s0.1 + 1 := by omega
          have p_s6 : s6.1 = s0.1 + 2 := by omega
          have x_0 : hv F n (s6.1) s6.2 = lk F n (s0.1 + 2 + 0) := by rw [show hv F n (s6.1) s6.2 = lk F n (s6.1) from if_pos q8, show s6.1 = s0.1 + 2 + 0 from by omega]
          have y_1 : hv F n s3.1 s3.2 = lk F n (s0.1 + 1) := by rw [w_s3, p_s3]
          simp only [dgv]
          rw [y_1, x_0]
          try rfl
        exact ev_lreturn d_Mo_takeFrames_74 rfl (by decide) (by decide) (⟨⟨_, rfl, hvv⟩, ⟨σ40, hm, f16, f17, fs⟩, fm⟩)
      · refine ev_iload d_Mo_takeFrames_35 rfl ?_
        refine ev_bipush (v := iZ 57) d_Mo_takeFrames_37 rfl ?_
        refine ez_icmp_gt (tgt := 56) (by omega) (by decide) d_Mo_takeFrames_39 rfl (fun c39 => ?_) (fun c39 => ?_)
        · refine ez_iinc (L' := [(0, .ref m), (1, .long (lZ ((10 * (hv F n s3.1 s3.2 - 48)) + (hv F n (s6.1) s6.2 - 48)))), (3, .int (iZ 3)), (4, .int (iZ (hv F n (s6.1 + 1) s6.2)))]) d_Mo_takeFrames_56 rfl (by decide) rfl ?_
          refine ev_goto (tgt := 16) d_Mo_takeFrames_59 rfl ?_
          refine ev_iload_n d_Mo_takeFrames_16 rfl rfl ?_
          refine ev_bipush (v := iZ 6) d_Mo_takeFrames_17 rfl ?_
          refine ez_icmp_ge (tgt := 62) (by decide) (by decide) d_Mo_takeFrames_19 rfl (fun c19 => absurd c19 (by omega)) (fun c19 => ?_)
          refine ev_aload_n d_Mo_takeFrames_22 rfl rfl ?_
          refine ev_callV M_Mo_here (rm 0 0) _ (As := []) (c_Mo_here G h31 σ32 m bu n (s6.1 + 1) F (hf n (s6.1 + 1) s6.2) hm f0 f1 f16 f17 hbu hn (by omega) hF (by omega)) d_Mo_takeFrames_23 mk_Mo_here ml_Mo_113 mv_Mo_here hm rfl rfl rfl (Nat.le_of_ble_eq_true rfl) ⟨by decide, by decide⟩ ⟨by decide, by decide⟩ (fun r h41 hq => ?_)
          obtain ⟨rfl, ⟨σ42, gm, g17, gs⟩, fmc⟩ := hq
          have hbu := (fmc _ (ninc (cne hbu hm (by simp)) nin0)).trans hbu
          have f0 := (gs 0 (by decide)).trans f0
          have f1 := (gs 1 (by decide)).trans f1
          have f16 := (gs 16 (by decide)).trans f16
          have f2 := (gs 2 (by decide)).trans f2
          have f3 := (gs 3 (by decide)).trans f3
          have f17 := g17
          have hm := gm
          have fm := fm.call (by simp) fmc
          have fs := fs.call (by simp) gs
          have hrh41 := hv_r (n := n) (p := s6.1 + 1) (ft := hf n (s6.1 + 1) s6.2) hF
          have hkh41 := hf_r (n := n) (p := s6.1 + 1) (ft := hf n (s6.1 + 1) s6.2) (by omega) hn
          rw [hf_hf] at f17
          refine ev_top (hv F n (s6.1 + 1) s6.2) (hv_hf) ?_
          refine ev_istore (L' := [(0, .ref m), (1, .long (lZ ((10 * (hv F n s3.1 s3.2 - 48)) + (hv F n (s6.1) s6.2 - 48)))), (3, .int (iZ 3)), (4, .int (iZ (hv F n (s6.1 + 1) s6.2)))]) d_Mo_takeFrames_26 (by decide) rfl ?_
          refine ev_iload d_Mo_takeFrames_28 rfl ?_
          refine ev_bipush (v := iZ 48) d_Mo_takeFrames_30 rfl ?_
          refine ez_icmp_lt (tgt := 56) (by omega) (by decide) d_Mo_takeFrames_32 rfl (fun c32 => absurd c32 (by omega)) (fun c32 => ?_)
          refine ev_iload d_Mo_takeFrames_35 rfl ?_
          refine ev_bipush (v := iZ 57) d_Mo_takeFrames_37 rfl ?_
          refine ez_icmp_gt (tgt := 56) (by omega) (by decide) d_Mo_takeFrames_39 rfl (fun c39 => ?_) (fun c39 => absurd c39 (by omega))
          refine ez_iinc (L' := [(0, .ref m), (1, .long (lZ ((10 * (hv F n s3.1 s3.2 - 48)) + (hv F n (s6.1) s6.2 - 48)))), (3, .int (iZ 4)), (4, .int (iZ (hv F n (s6.1 + 1) s6.2)))]) d_Mo_takeFrames_56 rfl (by decide) rfl ?_
          refine ev_goto (tgt := 16) d_Mo_takeFrames_59 rfl ?_
          refine ev_iload_n d_Mo_takeFrames_16 rfl rfl ?_
          refine ev_bipush (v := iZ 6) d_Mo_takeFrames_17 rfl ?_
          refine ez_icmp_ge (tgt := 62) (by decide) (by decide) d_Mo_takeFrames_19 rfl (fun c19 => absurd c19 (by omega)) (fun c19 => ?_)
          refine ev_aload_n d_Mo_takeFrames_22 rfl rfl ?_
          refine ev_callV M_Mo_here (rm 0 0) _ (As := []) (c_Mo_here G h41 σ42 m bu n (s6.1 + 1) F (hf n (s6.1 + 1) s6.2) hm f0 f1 f16 f17 hbu hn (by omega) hF (by omega)) d_Mo_takeFrames_23 mk_Mo_here ml_Mo_113 mv_Mo_here hm rfl rfl rfl (Nat.le_of_ble_eq_true rfl) ⟨by decide, by decide⟩ ⟨by decide, by decide⟩ (fun r h43 hq => ?_)
          obtain ⟨rfl, ⟨σ44, gm, g17, gs⟩, fmc⟩ := hq
          have hbu := (fmc _ (ninc (cne hbu hm (by simp)) nin0)).trans hbu
          have f0 := (gs 0 (by decide)).trans f0
          have f1 := (gs 1 (by decide)).trans f1
          have f16 := (gs 16 (by decide)).trans f16
          have f2 := (gs 2 (by decide)).trans f2
          have f3 := (gs 3 (by decide)).trans f3
          have f17 := g17
          have hm := gm
          have fm := fm.call (by simp) fmc
          have fs := fs.call (by simp) gs
          have hrh43 := hv_r (n := n) (p := s6.1 + 1) (ft := hf n (s6.1 + 1) s6.2) hF
          have hkh43 := hf_r (n := n) (p := s6.1 + 1) (ft := hf n (s6.1 + 1) s6.2) (by omega) hn
          rw [hf_hf] at f17
          refine ev_top (hv F n (s6.1 + 1) s6.2) (hv_hf) ?_
          refine ev_istore (L' := [(0, .ref m), (1, .long (lZ ((10 * (hv F n s3.1 s3.2 - 48)) + (hv F n (s6.1) s6.2 - 48)))), (3, .int (iZ 4)), (4, .int (iZ (hv F n (s6.1 + 1) s6.2)))]) d_Mo_takeFrames_26 (by decide) rfl ?_
          refine ev_iload d_Mo_takeFrames_28 rfl ?_
          refine ev_bipush (v := iZ 48) d_Mo_takeFrames_30 rfl ?_
          refine ez_icmp_lt (tgt := 56) (by omega) (by decide) d_Mo_takeFrames_32 rfl (fun c32 => absurd c32 (by omega)) (fun c32 => ?_)
          refine ev_iload d_Mo_takeFrames_35 rfl ?_
          refine ev_bipush (v := iZ 57) d_Mo_takeFrames_37 rfl ?_
          refine ez_icmp_gt (tgt := 56) (by omega) (by decide) d_Mo_takeFrames_39 rfl (fun c39 => ?_) (fun c39 => absurd c39 (by omega))
          refine ez_iinc (L' := [(0, .ref m), (1, .long (lZ ((10 * (hv F n s3.1 s3.2 - 48)) + (hv F n (s6.1) s6.2 - 48)))), (3, .int (iZ 5)), (4, .int (iZ (hv F n (s6.1 + 1) s6.2)))]) d_Mo_takeFrames_56 rfl (by decide) rfl ?_
          refine ev_goto (tgt := 16) d_Mo_takeFrames_59 rfl ?_
          refine ev_iload_n d_Mo_takeFrames_16 rfl rfl ?_
          refine ev_bipush (v := iZ 6) d_Mo_takeFrames_17 rfl ?_
          refine ez_icmp_ge (tgt := 62) (by decide) (by decide) d_Mo_takeFrames_19 rfl (fun c19 => absurd c19 (by omega)) (fun c19 => ?_)
          refine ev_aload_n d_Mo_takeFrames_22 rfl rfl ?_
          refine ev_callV M_Mo_here (rm 0 0) _ (As := []) (c_Mo_here G h43 σ44 m bu n (s6.1 + 1) F (hf n (s6.1 + 1) s6.2) hm f0 f1 f16 f17 hbu hn (by omega) hF (by omega)) d_Mo_takeFrames_23 mk_Mo_here ml_Mo_113 mv_Mo_here hm rfl rfl rfl (Nat.le_of_ble_eq_true rfl) ⟨by decide, by decide⟩ ⟨by decide, by decide⟩ (fun r h45 hq => ?_)
          obtain ⟨rfl, ⟨σ46, gm, g17, gs⟩, fmc⟩ := hq
          have hbu := (fmc _ (ninc (cne hbu hm (by simp)) nin0)).trans hbu
          have f0 := (gs 0 (by decide)).trans f0
          have f1 := (gs 1 (by decide)).trans f1
          have f16 := (gs 16 (by decide)).trans f16
          have f2 := (gs 2 (by decide)).trans f2
          have f3 := (gs 3 (by decide)).trans f3
          have f17 := g17
          have hm := gm
          have fm := fm.call (by simp) fmc
          have fs := fs.call (by simp) gs
          have hrh45 := hv_r (n := n) (p := s6.1 + 1) (ft := hf n (s6.1 + 1) s6.2) hF
          have hkh45 := hf_r (n := n) (p := s6.1 + 1) (ft := hf n (s6.1 + 1) s6.2) (by omega) hn
          rw [hf_hf] at f17
          refine ev_top (hv F n (s6.1 + 1) s6.2) (hv_hf) ?_
          refine ev_istore (L' := [(0, .ref m), (1, .long (lZ ((10 * (hv F n s3.1 s3.2 - 48)) + (hv F n (s6.1) s6.2 - 48)))), (3, .int (iZ 5)), (4, .int (iZ (hv F n (s6.1 + 1) s6.2)))]) d_Mo_takeFrames_26 (by decide) rfl ?_
          refine ev_iload d_Mo_takeFrames_28 rfl ?_
          refine ev_bipush (v := iZ 48) d_Mo_takeFrames_30 rfl ?_
          refine ez_icmp_lt (tgt := 56) (by omega) (by decide) d_Mo_takeFrames_32 rfl (fun c32 => absurd c32 (by omega)) (fun c32 => ?_)
          refine ev_iload d_Mo_takeFrames_35 rfl ?_
          refine ev_bipush (v := iZ 57) d_Mo_takeFrames_37 rfl ?_
          refine ez_icmp_gt (tgt := 56) (by omega) (by decide) d_Mo_takeFrames_39 rfl (fun c39 => ?_) (fun c39 => absurd c39 (by omega))
          refine ez_iinc (L' := [(0, .ref m), (1, .long (lZ ((10 * (hv F n s3.1 s3.2 - 48)) + (hv F n (s6.1) s6.2 - 48)))), (3, .int (iZ 6)), (4, .int (iZ (hv F n (s6.1 + 1) s6.2)))]) d_Mo_takeFrames_56 rfl (by decide) rfl ?_
          refine ev_goto (tgt := 16) d_Mo_takeFrames_59 rfl ?_
          refine ev_iload_n d_Mo_takeFrames_16 rfl rfl ?_
          refine ev_bipush (v := iZ 6) d_Mo_takeFrames_17 rfl ?_
          refine ez_icmp_ge (tgt := 62) (by decide) (by decide) d_Mo_takeFrames_19 rfl (fun c19 => ?_) (fun c19 => absurd c19 (by omega))
          refine ev_aload_n d_Mo_takeFrames_62 rfl rfl ?_
          refine ev_bipush (v := iZ 125) d_Mo_takeFrames_63 rfl ?_
          refine ev_callV M_Mo_takeByte (rm 1 30) _ (As := [.int (iZ 125)]) (c_Mo_takeByte G h45 σ46 m bu n (s6.1 + 1) F (hf n (s6.1 + 1) s6.2) 125 hm f0 f1 f16 f17 hbu hn (by omega) hF (by omega) (by decide)) d_Mo_takeFrames_65 mk_Mo_takeByte ml_Mo_126 mv_Mo_takeByte hm rfl rfl rfl (Nat.le_of_ble_eq_true rfl) ⟨by decide, by decide⟩ ⟨by decide, by decide⟩ (fun r h47 hq => ?_)
          obtain ⟨rfl, ⟨σ48, gm, g16, g17, gs⟩, fmc⟩ := hq
          rw [sq_hf (by decide) (by omega)] at g16 g17
          have hd9 : ∀ i, i < 1 → 48 ≤ hv F n (s6.1 + i) s6.2 ∧ hv F n (s6.1 + i) s6.2 ≤ 57 := by
            intro i hi
            obtain rfl : i = 0 := by omega
            exact d_0
          have fe := fq_end (F := F) (n := n) (j := 1) (s0 := s0) (s2 := s6) hs0.2.1 (by rw [sq_app, e_s6, e_s3]) (by decide) hd9 (fun hj => by show ¬ (48 ≤ hv F n (s6.1 + 1) s6.2 ∧ hv F n (s6.1 + 1) s6.2 ≤ 57); omega)
          rw [show sq F n [(125, 125)] (s6.1 + 1, s6.2) = fq F n s0 from fe.1] at g16 g17
          have hbu := (fmc _ (ninc (cne hbu hm (by simp)) nin0)).trans hbu
          have f0 := (gs 0 (by decide)).trans f0
          have f1 := (gs 1 (by decide)).trans f1
          have f2 := (gs 2 (by decide)).trans f2
          have f3 := (gs 3 (by decide)).trans f3
          have f16 := g16
          have f17 := g17
          have hm := gm
          have fm := fm.call (by simp) fmc
          have fs := fs.call (by simp) gs
          refine ev_lload_n d_Mo_takeFrames_68 rfl rfl ?_
          refine ev_aload_n d_Mo_takeFrames_69 rfl rfl ?_
          refine ev_pV M_Mo_frame 0 0 (As := []) (c_Mo_frame G h47 σ48 m num den hm f2 f3 hnum hden) d_Mo_takeFrames_70 mk_Mo_frame ml_Mo_134 mv_Mo_frame hm rfl rfl rfl (Nat.le_of_ble_eq_true rfl) ⟨by decide, by decide⟩ ⟨by decide, by decide⟩ ?_
          rw [← htk]
          refine ez_lmul d_Mo_takeFrames_73 ?_
          have hvv : (fq F n s0).2 < 0 → (((10 * (hv F n s3.1 s3.2 - 48)) + (hv F n (s6.1) s6.2 - 48)) * tk : Int) = frV F n s0.1 * tk := by
            intro q9
            rw [fe.2 q9]
            have o3 := sq_ok (F := F) (n := n) (A := [(125, 125)]) (s := (s6.1 + 1, s6.2)) (by rw [show sq F n [(125, 125)] (s6.1 + 1, s6.2) = fq F n s0 from fe.1]; exact q9)
            have q8 : s6.2 < 0 := o3.1
            have o_s6 := sq_ok (F := F) (n := n) (A := [(48, 57)]) (s := s3) (by rw [← e_s6]; exact q8)
            have q_s3 := o_s6.1
            have l_s6 : s6.1 = s3.1 + 1 := by rw [e_s6]; exact o_s6.2.2.1
            have w_s3 : hv F n s3.1 s3.2 = lk F n s3.1 := if_pos q_s3
            have o_s3 := sq_ok (F := F) (n := n) (A := [(123, 123)]) (s := s0) (by rw [← e_s3]; exact q_s3)
            have q_s0 := o_s3.1
            have l_s3 : s3.1 = s0.1 + 1 := by rw [e_s3]; exact o_s3.2.2.1
            have w_s0 : hv F n s0.1 s0.2 = lk F n s0.1 := if_pos q_s0
            have p_s3 : s3.1 = s0.1 + 1 := by omega
            have p_s6 : s6.1 = s0.1 + 2 := by omega
            have x_0 : hv F n (s6.1) s6.2 = lk F n (s0.1 + 2 + 0) := by rw [show hv F n (s6.1) s6.2 = lk F n (s6.1) from if_pos q8, show s6.1 = s0.1 + 2 + 0 from by omega]
            have y_1 : hv F n s3.1 s3.2 = lk F n (s0.1 + 1) := by rw [w_s3, p_s3]
            simp only [dgv]
            rw [y_1, x_0]
            try rfl
          exact ev_lreturn d_Mo_takeFrames_74 rfl (by decide) (by decide) (⟨⟨_, rfl, hvv⟩, ⟨σ48, hm, f16, f17, fs⟩, fm⟩)
        · refine ev_ldc2 (v := lZ 10) d_Mo_takeFrames_42 kc_Mo_130 ?_
          refine ev_lload_n d_Mo_takeFrames_45 rfl rfl ?_
          refine ez_lmul d_Mo_takeFrames_46 ?_
          refine ev_aload_n d_Mo_takeFrames_47 rfl rfl ?_
          refine ev_bipush (v := iZ 9) d_Mo_takeFrames_48 rfl ?_
          have d_1 : 48 ≤ hv F n (s6.1 + 1) s6.2 ∧ hv F n (s6.1 + 1) s6.2 ≤ 57 := ⟨by omega, by omega⟩
          have dp_1 := hv_p (F := F) (n := n) (p := s6.1 + 1) (ft := s6.2) (by omega)
          rw [hf_p dp_1.2.1] at f17
          refine ev_callV M_Mo_takeDigit (rm 1 30) _ (As := [.int (iZ 9)]) (c_Mo_takeDigit G h31 σ32 m bu n (s6.1 + 1) F s6.2 9 57 hm f0 f1 f16 f17 hbu hn (by omega) hF (by omega) (by decide) (by decide)) d_Mo_takeFrames_50 mk_Mo_takeDigit ml_Mo_121 mv_Mo_takeDigit hm rfl rfl rfl (Nat.le_of_ble_eq_true rfl) ⟨by decide, by decide⟩ ⟨by decide, by decide⟩ (fun r h49 hq => ?_)
          obtain ⟨rfl, ⟨σ50, gm, g16, g17, gs⟩, fmc⟩ := hq
          rw [sq_dig (by decide) (by omega) d_1] at g16 g17
          have hbu := (fmc _ (ninc (cne hbu hm (by simp)) nin0)).trans hbu
          have f0 := (gs 0 (by decide)).trans f0
          have f1 := (gs 1 (by decide)).trans f1
          have f2 := (gs 2 (by decide)).trans f2
          have f3 := (gs 3 (by decide)).trans f3
          have f16 := g16
          have f17 := g17
          have hm := gm
          have fm := fm.call (by simp) fmc
          have fs := fs.call (by simp) gs
          replace f16 : σ50 16 = .int (iZ ((s6.1 + 2 : Nat) : Int)) := f16
          replace f17 : σ50 17 = .int (iZ s6.2) := f17
          refine ez_i2l (by omega) d_Mo_takeFrames_53 ?_
          refine ez_ladd d_Mo_takeFrames_54 ?_
          refine ev_lstore_n (L' := [(0, .ref m), (1, .long (lZ ((10 * ((10 * (hv F n s3.1 s3.2 - 48)) + (hv F n (s6.1) s6.2 - 48))) + (hv F n (s6.1 + 1) s6.2 - 48)))), (3, .int (iZ 2)), (4, .int (iZ (hv F n (s6.1 + 1) s6.2)))]) d_Mo_takeFrames_55 rfl (by decide) rfl ?_
          refine ez_iinc (L' := [(0, .ref m), (1, .long (lZ ((10 * ((10 * (hv F n s3.1 s3.2 - 48)) + (hv F n (s6.1) s6.2 - 48))) + (hv F n (s6.1 + 1) s6.2 - 48)))), (3, .int (iZ 3)), (4, .int (iZ (hv F n (s6.1 + 1) s6.2)))]) d_Mo_takeFrames_56 rfl (by decide) rfl ?_
          refine ev_goto (tgt := 16) d_Mo_takeFrames_59 rfl ?_
          refine ev_iload_n d_Mo_takeFrames_16 rfl rfl ?_
          refine ev_bipush (v := iZ 6) d_Mo_takeFrames_17 rfl ?_
          refine ez_icmp_ge (tgt := 62) (by decide) (by decide) d_Mo_takeFrames_19 rfl (fun c19 => absurd c19 (by omega)) (fun c19 => ?_)
          refine ev_aload_n d_Mo_takeFrames_22 rfl rfl ?_
          refine ev_callV M_Mo_here (rm 0 0) _ (As := []) (c_Mo_here G h49 σ50 m bu n (s6.1 + 2) F (s6.2) hm f0 f1 f16 f17 hbu hn (by omega) hF (by omega)) d_Mo_takeFrames_23 mk_Mo_here ml_Mo_113 mv_Mo_here hm rfl rfl rfl (Nat.le_of_ble_eq_true rfl) ⟨by decide, by decide⟩ ⟨by decide, by decide⟩ (fun r h51 hq => ?_)
          obtain ⟨rfl, ⟨σ52, gm, g17, gs⟩, fmc⟩ := hq
          have hbu := (fmc _ (ninc (cne hbu hm (by simp)) nin0)).trans hbu
          have f0 := (gs 0 (by decide)).trans f0
          have f1 := (gs 1 (by decide)).trans f1
          have f16 := (gs 16 (by decide)).trans f16
          have f2 := (gs 2 (by decide)).trans f2
          have f3 := (gs 3 (by decide)).trans f3
          have f17 := g17
          have hm := gm
          have fm := fm.call (by simp) fmc
          have fs := fs.call (by simp) gs
          have hrh51 := hv_r (n := n) (p := s6.1 + 2) (ft := s6.2) hF
          have hkh51 := hf_r (n := n) (p := s6.1 + 2) (ft := s6.2) (by omega) hn
          skip
          refine ev_istore (L' := [(0, .ref m), (1, .long (lZ ((10 * ((10 * (hv F n s3.1 s3.2 - 48)) + (hv F n (s6.1) s6.2 - 48))) + (hv F n (s6.1 + 1) s6.2 - 48)))), (3, .int (iZ 3)), (4, .int (iZ (hv F n (s6.1 + 2) s6.2)))]) d_Mo_takeFrames_26 (by decide) rfl ?_
          refine ev_iload d_Mo_takeFrames_28 rfl ?_
          refine ev_bipush (v := iZ 48) d_Mo_takeFrames_30 rfl ?_
          refine ez_icmp_lt (tgt := 56) (by omega) (by decide) d_Mo_takeFrames_32 rfl (fun c32 => ?_) (fun c32 => ?_)
          · refine ez_iinc (L' := [(0, .ref m), (1, .long (lZ ((10 * ((10 * (hv F n s3.1 s3.2 - 48)) + (hv F n (s6.1) s6.2 - 48))) + (hv F n (s6.1 + 1) s6.2 - 48)))), (3, .int (iZ 4)), (4, .int (iZ (hv F n (s6.1 + 2) s6.2)))]) d_Mo_takeFrames_56 rfl (by decide) rfl ?_
            refine ev_goto (tgt := 16) d_Mo_takeFrames_59 rfl ?_
            refine ev_iload_n d_Mo_takeFrames_16 rfl rfl ?_
            refine ev_bipush (v := iZ 6) d_Mo_takeFrames_17 rfl ?_
            refine ez_icmp_ge (tgt := 62) (by decide) (by decide) d_Mo_takeFrames_19 rfl (fun c19 => absurd c19 (by omega)) (fun c19 => ?_)
            refine ev_aload_n d_Mo_takeFrames_22 rfl rfl ?_
            refine ev_callV M_Mo_here (rm 0 0) _ (As := []) (c_Mo_here G h51 σ52 m bu n (s6.1 + 2) F (hf n (s6.1 + 2) s6.2) hm f0 f1 f16 f17 hbu hn (by omega) hF (by omega)) d_Mo_takeFrames_23 mk_Mo_here ml_Mo_113 mv_Mo_here hm rfl rfl rfl (Nat.le_of_ble_eq_true rfl) ⟨by decide, by decide⟩ ⟨by decide, by decide⟩ (fun r h53 hq => ?_)
            obtain ⟨rfl, ⟨σ54, gm, g17, gs⟩, fmc⟩ := hq
            have hbu := (fmc _ (ninc (cne hbu hm (by simp)) nin0)).trans hbu
            have f0 := (gs 0 (by decide)).trans f0
            have f1 := (gs 1 (by decide)).trans f1
            have f16 := (gs 16 (by decide)).trans f16
            have f2 := (gs 2 (by decide)).trans f2
            have f3 := (gs 3 (by decide)).trans f3
            have f17 := g17
            have hm := gm
            have fm := fm.call (by simp) fmc
            have fs := fs.call (by simp) gs
            have hrh53 := hv_r (n := n) (p := s6.1 + 2) (ft := hf n (s6.1 + 2) s6.2) hF
            have hkh53 := hf_r (n := n) (p := s6.1 + 2) (ft := hf n (s6.1 + 2) s6.2) (by omega) hn
            rw [hf_hf] at f17
            refine ev_top (hv F n (s6.1 + 2) s6.2) (hv_hf) ?_
            refine ev_istore (L' := [(0, .ref m), (1, .long (lZ ((10 * ((10 * (hv F n s3.1 s3.2 - 48)) + (hv F n (s6.1) s6.2 - 48))) + (hv F n (s6.1 + 1) s6.2 - 48)))), (3, .int (iZ 4)), (4, .int (iZ (hv F n (s6.1 + 2) s6.2)))]) d_Mo_takeFrames_26 (by decide) rfl ?_
            refine ev_iload d_Mo_takeFrames_28 rfl ?_
            refine ev_bipush (v := iZ 48) d_Mo_takeFrames_30 rfl ?_
            refine ez_icmp_lt (tgt := 56) (by omega) (by decide) d_Mo_takeFrames_32 rfl (fun c32 => ?_) (fun c32 => absurd c32 (by omega))
            refine ez_iinc (L' := [(0, .ref m), (1, .long (lZ ((10 * ((10 * (hv F n s3.1 s3.2 - 48)) + (hv F n (s6.1) s6.2 - 48))) + (hv F n (s6.1 + 1) s6.2 - 48)))), (3, .int (iZ 5)), (4, .int (iZ (hv F n (s6.1 + 2) s6.2)))]) d_Mo_takeFrames_56 rfl (by decide) rfl ?_
            refine ev_goto (tgt := 16) d_Mo_takeFrames_59 rfl ?_
            refine ev_iload_n d_Mo_takeFrames_16 rfl rfl ?_
            refine ev_bipush (v := iZ 6) d_Mo_takeFrames_17 rfl ?_
            refine ez_icmp_ge (tgt := 62) (by decide) (by decide) d_Mo_takeFrames_19 rfl (fun c19 => absurd c19 (by omega)) (fun c19 => ?_)
            refine ev_aload_n d_Mo_takeFrames_22 rfl rfl ?_
            refine ev_callV M_Mo_here (rm 0 0) _ (As := []) (c_Mo_here G h53 σ54 m bu n (s6.1 + 2) F (hf n (s6.1 + 2) s6.2) hm f0 f1 f16 f17 hbu hn (by omega) hF (by omega)) d_Mo_takeFrames_23 mk_Mo_here ml_Mo_113 mv_Mo_here hm rfl rfl rfl (Nat.le_of_ble_eq_true rfl) ⟨by decide, by decide⟩ ⟨by decide, by decide⟩ (fun r h55 hq => ?_)
            obtain ⟨rfl, ⟨σ56, gm, g17, gs⟩, fmc⟩ := hq
            have hbu := (fmc _ (ninc (cne hbu hm (by simp)) nin0)).trans hbu
            have f0 := (gs 0 (by decide)).trans f0
            have f1 := (gs 1 (by decide)).trans f1
            have f16 := (gs 16 (by decide)).trans f16
            have f2 := (gs 2 (by decide)).trans f2
            have f3 := (gs 3 (by decide)).trans f3
            have f17 := g17
            have hm := gm
            have fm := fm.call (by simp) fmc
            have fs := fs.call (by simp) gs
            have hrh55 := hv_r (n := n) (p := s6.1 + 2) (ft := hf n (s6.1 + 2) s6.2) hF
            have hkh55 := hf_r (n := n) (p := s6.1 + 2) (ft := hf n (s6.1 + 2) s6.2) (by omega) hn
            rw [hf_hf] at f17
            refine ev_top (hv F n (s6.1 + 2) s6.2) (hv_hf) ?_
            refine ev_istore (L' := [(0, .ref m), (1, .long (lZ ((10 * ((10 * (hv F n s3.1 s3.2 - 48)) + (hv F n (s6.1) s6.2 - 48))) + (hv F n (s6.1 + 1) s6.2 - 48)))), (3, .int (iZ 5)), (4, .int (iZ (hv F n (s6.1 + 2) s6.2)))]) d_Mo_takeFrames_26 (by decide) rfl ?_
            refine ev_iload d_Mo_takeFrames_28 rfl ?_
            refine ev_bipush (v := iZ 48) d_Mo_takeFrames_30 rfl ?_
            refine ez_icmp_lt (tgt := 56) (by omega) (by decide) d_Mo_takeFrames_32 rfl (fun c32 => ?_) (fun c32 => absurd c32 (by omega))
            refine ez_iinc (L' := [(0, .ref m), (1, .long (lZ ((10 * ((10 * (hv F n s3.1 s3.2 - 48)) + (hv F n (s6.1) s6.2 - 48))) + (hv F n (s6.1 + 1) s6.2 - 48)))), (3, .int (iZ 6)), (4, .int (iZ (hv F n (s6.1 + 2) s6.2)))]) d_Mo_takeFrames_56 rfl (by decide) rfl ?_
            refine ev_goto (tgt := 16) d_Mo_takeFrames_59 rfl ?_
            refine ev_iload_n d_Mo_takeFrames_16 rfl rfl ?_
            refine ev_bipush (v := iZ 6) d_Mo_takeFrames_17 rfl ?_
            refine ez_icmp_ge (tgt := 62) (by decide) (by decide) d_Mo_takeFrames_19 rfl (fun c19 => ?_) (fun c19 => absurd c19 (by omega))
            refine ev_aload_n d_Mo_takeFrames_62 rfl rfl ?_
            refine ev_bipush (v := iZ 125) d_Mo_takeFrames_63 rfl ?_
            refine ev_callV M_Mo_takeByte (rm 1 30) _ (As := [.int (iZ 125)]) (c_Mo_takeByte G h55 σ56 m bu n (s6.1 + 2) F (hf n (s6.1 + 2) s6.2) 125 hm f0 f1 f16 f17 hbu hn (by omega) hF (by omega) (by decide)) d_Mo_takeFrames_65 mk_Mo_takeByte ml_Mo_126 mv_Mo_takeByte hm rfl rfl rfl (Nat.le_of_ble_eq_true rfl) ⟨by decide, by decide⟩ ⟨by decide, by decide⟩ (fun r h57 hq => ?_)
            obtain ⟨rfl, ⟨σ58, gm, g16, g17, gs⟩, fmc⟩ := hq
            rw [sq_hf (by decide) (by omega)] at g16 g17
            have hd9 : ∀ i, i < 2 → 48 ≤ hv F n (s6.1 + i) s6.2 ∧ hv F n (s6.1 + i) s6.2 ≤ 57 := by
              intro i hi
              rcases (show i = 0 ∨ i = 1 from by omega) with rfl | rfl
              · exact d_0
              · exact d_1
            have fe := fq_end (F := F) (n := n) (j := 2) (s0 := s0) (s2 := s6) hs0.2.1 (by rw [sq_app, e_s6, e_s3]) (by decide) hd9 (fun hj => by show ¬ (48 ≤ hv F n (s6.1 + 2) s6.2 ∧ hv F n (s6.1 + 2) s6.2 ≤ 57); omega)
            rw [show sq F n [(125, 125)] (s6.1 + 2, s6.2) = fq F n s0 from fe.1] at g16 g17
            have hbu := (fmc _ (ninc (cne hbu hm (by simp)) nin0)).trans hbu
            have f0 := (gs 0 (by decide)).trans f0
            have f1 := (gs 1 (by decide)).trans f1
            have f2 := (gs 2 (by decide)).trans f2
            have f3 := (gs 3 (by decide)).trans f3
            have f16 := g16
            have f17 := g17
            have hm := gm
            have fm := fm.call (by simp) fmc
            have fs := fs.call (by simp) gs
            refine ev_lload_n d_Mo_takeFrames_68 rfl rfl ?_
            refine ev_aload_n d_Mo_takeFrames_69 rfl rfl ?_
            refine ev_pV M_Mo_frame 0 0 (As := []) (c_Mo_frame G h57 σ58 m num den hm f2 f3 hnum hden) d_Mo_takeFrames_70 mk_Mo_frame ml_Mo_134 mv_Mo_frame hm rfl rfl rfl (Nat.le_of_ble_eq_true rfl) ⟨by decide, by decide⟩ ⟨by decide, by decide⟩ ?_
            rw [← htk]
            refine ez_lmul d_Mo_takeFrames_73 ?_
            have hvv : (fq F n s0).2 < 0 → (((10 * ((10 * (hv F n s3.1 s3.2 - 48)) + (hv F n (s6.1) s6.2 - 48))) + (hv F n (s6.1 + 1) s6.2 - 48)) * tk : Int) = frV F n s0.1 * tk := by
              intro q9
              rw [fe.2 q9]
              have o3 := sq_ok (F := F) (n := n) (A := [(125, 125)]) (s := (s6.1 + 2, s6.2)) (by rw [show sq F n [(125, 125)] (s6.1 + 2, s6.2) = fq F n s0 from fe.1]; exact q9)
              have q8 : s6.2 < 0 := o3.1
              have o_s6 := sq_ok (F := F) (n := n) (A := [(48, 57)]) (s := s3) (by rw [← e_s6]; exact q8)
              have q_s3 := o_s6.1
              have l_s6 : s6.1 = s3.1 + 1 := by rw [e_s6]; exact o_s6.2.2.1
              have w_s3 : hv F n s3.1 s3.2 = lk F n s3.1 := if_pos q_s3
              have o_s3 := sq_ok (F := F) (n := n) (A := [(123, 123)]) (s := s0) (by rw [← e_s3]; exact q_s3)
              have q_s0 := o_s3.1
              have l_s3 : s3.1 = s0.1 + 1 := by rw [e_s3]; exact o_s3.2.2.1
              have w_s0 : hv F n s0.1 s0.2 = lk F n s0.1 := if_pos q_s0
              have p_s3 : s3.1 = s0.1 + 1 := by omega
              have p_s6 : s6.1 = s0.1 + 2 := by omega
              have x_0 : hv F n (s6.1) s6.2 = lk F n (s0.1 + 2 + 0) := by rw [show hv F n (s6.1) s6.2 = lk F n (s6.1) from if_pos q8, show s6.1 = s0.1 + 2 + 0 from by omega]
              have x_1 : hv F n (s6.1 + 1) s6.2 = lk F n (s0.1 + 2 + 1) := by rw [show hv F n (s6.1 + 1) s6.2 = lk F n (s6.1 + 1) from if_pos q8, show s6.1 + 1 = s0.1 + 2 + 1 from by omega]
              have y_1 : hv F n s3.1 s3.2 = lk F n (s0.1 + 1) := by rw [w_s3, p_s3]
              simp only [dgv]
              rw [y_1, x_0, x_1]
              try rfl
            exact ev_lreturn d_Mo_takeFrames_74 rfl (by decide) (by decide) (⟨⟨_, rfl, hvv⟩, ⟨σ58, hm, f16, f17, fs⟩, fm⟩)
          · refine ev_iload d_Mo_takeFrames_35 rfl ?_
            refine ev_bipush (v := iZ 57) d_Mo_takeFrames_37 rfl ?_
            refine ez_icmp_gt (tgt := 56) (by omega) (by decide) d_Mo_takeFrames_39 rfl (fun c39 => ?_) (fun c39 => ?_)
            · refine ez_iinc (L' := [(0, .ref m), (1, .long (lZ ((10 * ((10 * (hv F n s3.1 s3.2 - 48)) + (hv F n (s6.1) s6.2 - 48))) + (hv F n (s6.1 + 1) s6.2 - 48)))), (3, .int (iZ 4)), (4, .int (iZ (hv F n (s6.1 + 2) s6.2)))]) d_Mo_takeFrames_56 rfl (by decide) rfl ?_
              refine ev_goto (tgt := 16) d_Mo_takeFrames_59 rfl ?_
              refine ev_iload_n d_Mo_takeFrames_16 rfl rfl ?_
              refine ev_bipush (v := iZ 6) d_Mo_takeFrames_17 rfl ?_
              refine ez_icmp_ge (tgt := 62) (by decide) (by decide) d_Mo_takeFrames_19 rfl (fun c19 => absurd c19 (by omega)) (fun c19 => ?_)
              refine ev_aload_n d_Mo_takeFrames_22 rfl rfl ?_
              refine ev_callV M_Mo_here (rm 0 0) _ (As := []) (c_Mo_here G h51 σ52 m bu n (s6.1 + 2) F (hf n (s6.1 + 2) s6.2) hm f0 f1 f16 f17 hbu hn (by omega) hF (by omega)) d_Mo_takeFrames_23 mk_Mo_here ml_Mo_113 mv_Mo_here hm rfl rfl rfl (Nat.le_of_ble_eq_true rfl) ⟨by decide, by decide⟩ ⟨by decide, by decide⟩ (fun r h59 hq => ?_)
              obtain ⟨rfl, ⟨σ60, gm, g17, gs⟩, fmc⟩ := hq
              have hbu := (fmc _ (ninc (cne hbu hm (by simp)) nin0)).trans hbu
              have f0 := (gs 0 (by decide)).trans f0
              have f1 := (gs 1 (by decide)).trans f1
              have f16 := (gs 16 (by decide)).trans f16
              have f2 := (gs 2 (by decide)).trans f2
              have f3 := (gs 3 (by decide)).trans f3
              have f17 := g17
              have hm := gm
              have fm := fm.call (by simp) fmc
              have fs := fs.call (by simp) gs
              have hrh59 := hv_r (n := n) (p := s6.1 + 2) (ft := hf n (s6.1 + 2) s6.2) hF
              have hkh59 := hf_r (n := n) (p := s6.1 + 2) (ft := hf n (s6.1 + 2) s6.2) (by omega) hn
              rw [hf_hf] at f17
              refine ev_top (hv F n (s6.1 + 2) s6.2) (hv_hf) ?_
              refine ev_istore (L' := [(0, .ref m), (1, .long (lZ ((10 * ((10 * (hv F n s3.1 s3.2 - 48)) + (hv F n (s6.1) s6.2 - 48))) + (hv F n (s6.1 + 1) s6.2 - 48)))), (3, .int (iZ 4)), (4, .int (iZ (hv F n (s6.1 + 2) s6.2)))]) d_Mo_takeFrames_26 (by decide) rfl ?_
              refine ev_iload d_Mo_takeFrames_28 rfl ?_
              refine ev_bipush (v := iZ 48) d_Mo_takeFrames_30 rfl ?_
              refine ez_icmp_lt (tgt := 56) (by omega) (by decide) d_Mo_takeFrames_32 rfl (fun c32 => absurd c32 (by omega)) (fun c32 => ?_)
              refine ev_iload d_Mo_takeFrames_35 rfl ?_
              refine ev_bipush (v := iZ 57) d_Mo_takeFrames_37 rfl ?_
              refine ez_icmp_gt (tgt := 56) (by omega) (by decide) d_Mo_takeFrames_39 rfl (fun c39 => ?_) (fun c39 => absurd c39 (by omega))
              refine ez_iinc (L' := [(0, .ref m), (1, .long (lZ ((10 * ((10 * (hv F n s3.1 s3.2 - 48)) + (hv F n (s6.1) s6.2 - 48))) + (hv F n (s6.1 + 1) s6.2 - 48)))), (3, .int (iZ 5)), (4, .int (iZ (hv F n (s6.1 + 2) s6.2)))]) d_Mo_takeFrames_56 rfl (by decide) rfl ?_
              refine ev_goto (tgt := 16) d_Mo_takeFrames_59 rfl ?_
              refine ev_iload_n d_Mo_takeFrames_16 rfl rfl ?_
              refine ev_bipush (v := iZ 6) d_Mo_takeFrames_17 rfl ?_
              refine ez_icmp_ge (tgt := 62) (by decide) (by decide) d_Mo_takeFrames_19 rfl (fun c19 => absurd c19 (by omega)) (fun c19 => ?_)
              refine ev_aload_n d_Mo_takeFrames_22 rfl rfl ?_
              refine ev_callV M_Mo_here (rm 0 0) _ (As := []) (c_Mo_here G h59 σ60 m bu n (s6.1 + 2) F (hf n (s6.1 + 2) s6.2) hm f0 f1 f16 f17 hbu hn (by omega) hF (by omega)) d_Mo_takeFrames_23 mk_Mo_here ml_Mo_113 mv_Mo_here hm rfl rfl rfl (Nat.le_of_ble_eq_true rfl) ⟨by decide, by decide⟩ ⟨by decide, by decide⟩ (fun r h61 hq => ?_)
              obtain ⟨rfl, ⟨σ62, gm, g17, gs⟩, fmc⟩ := hq
              have hbu := (fmc _ (ninc (cne hbu hm (by simp)) nin0)).trans hbu
              have f0 := (gs 0 (by decide)).trans f0
              have f1 := (gs 1 (by decide)).trans f1
              have f16 := (gs 16 (by decide)).trans f16
              have f2 := (gs 2 (by decide)).trans f2
              have f3 := (gs 3 (by decide)).trans f3
              have f17 := g17
              have hm := gm
              have fm := fm.call (by simp) fmc
              have fs := fs.call (by simp) gs
              have hrh61 := hv_r (n := n) (p := s6.1 + 2) (ft := hf n (s6.1 + 2) s6.2) hF
              have hkh61 := hf_r (n := n) (p := s6.1 + 2) (ft := hf n (s6.1 + 2) s6.2) (by omega) hn
              rw [hf_hf] at f17
              refine ev_top (hv F n (s6.1 + 2) s6.2) (hv_hf) ?_
              refine ev_istore (L' := [(0, .ref m), (1, .long (lZ ((10 * ((10 * (hv F n s3.1 s3.2 - 48)) + (hv F n (s6.1) s6.2 - 48))) + (hv F n (s6.1 + 1) s6.2 - 48)))), (3, .int (iZ 5)), (4, .int (iZ (hv F n (s6.1 + 2) s6.2)))]) d_Mo_takeFrames_26 (by decide) rfl ?_
              refine ev_iload d_Mo_takeFrames_28 rfl ?_
              refine ev_bipush (v := iZ 48) d_Mo_takeFrames_30 rfl ?_
              refine ez_icmp_lt (tgt := 56) (by omega) (by decide) d_Mo_takeFrames_32 rfl (fun c32 => absurd c32 (by omega)) (fun c32 => ?_)
              refine ev_iload d_Mo_takeFrames_35 rfl ?_
              refine ev_bipush (v := iZ 57) d_Mo_takeFrames_37 rfl ?_
              refine ez_icmp_gt (tgt := 56) (by omega) (by decide) d_Mo_takeFrames_39 rfl (fun c39 => ?_) (fun c39 => absurd c39 (by omega))
              refine ez_iinc (L' := [(0, .ref m), (1, .long (lZ ((10 * ((10 * (hv F n s3.1 s3.2 - 48)) + (hv F n (s6.1) s6.2 - 48))) + (hv F n (s6.1 + 1) s6.2 - 48)))), (3, .int (iZ 6)), (4, .int (iZ (hv F n (s6.1 + 2) s6.2)))]) d_Mo_takeFrames_56 rfl (by decide) rfl ?_
              refine ev_goto (tgt := 16) d_Mo_takeFrames_59 rfl ?_
              refine ev_iload_n d_Mo_takeFrames_16 rfl rfl ?_
              refine ev_bipush (v := iZ 6) d_Mo_takeFrames_17 rfl ?_
              refine ez_icmp_ge (tgt := 62) (by decide) (by decide) d_Mo_takeFrames_19 rfl (fun c19 => ?_) (fun c19 => absurd c19 (by omega))
              refine ev_aload_n d_Mo_takeFrames_62 rfl rfl ?_
              refine ev_bipush (v := iZ 125) d_Mo_takeFrames_63 rfl ?_
              refine ev_callV M_Mo_takeByte (rm 1 30) _ (As := [.int (iZ 125)]) (c_Mo_takeByte G h61 σ62 m bu n (s6.1 + 2) F (hf n (s6.1 + 2) s6.2) 125 hm f0 f1 f16 f17 hbu hn (by omega) hF (by omega) (by decide)) d_Mo_takeFrames_65 mk_Mo_takeByte ml_Mo_126 mv_Mo_takeByte hm rfl rfl rfl (Nat.le_of_ble_eq_true rfl) ⟨by decide, by decide⟩ ⟨by decide, by decide⟩ (fun r h63 hq => ?_)
              obtain ⟨rfl, ⟨σ64, gm, g16, g17, gs⟩, fmc⟩ := hq
              rw [sq_hf (by decide) (by omega)] at g16 g17
              have hd9 : ∀ i, i < 2 → 48 ≤ hv F n (s6.1 + i) s6.2 ∧ hv F n (s6.1 + i) s6.2 ≤ 57 := by
                intro i hi
                rcases (show i = 0 ∨ i = 1 from by omega) with rfl | rfl
                · exact d_0
                · exact d_1
              have fe := fq_end (F := F) (n := n) (j := 2) (s0 := s0) (s2 := s6) hs0.2.1 (by rw [sq_app, e_s6, e_s3]) (by decide) hd9 (fun hj => by show ¬ (48 ≤ hv F n (s6.1 + 2) s6.2 ∧ hv F n (s6.1 + 2) s6.2 ≤ 57); omega)
              rw [show sq F n [(125, 125)] (s6.1 + 2, s6.2) = fq F n s0 from fe.1] at g16 g17
              have hbu := (fmc _ (ninc (cne hbu hm (by simp)) nin0)).trans hbu
              have f0 := (gs 0 (by decide)).trans f0
              have f1 := (gs 1 (by decide)).trans f1
              have f2 := (gs 2 (by decide)).trans f2
              have f3 := (gs 3 (by decide)).trans f3
              have f16 := g16
              have f17 := g17
              have hm := gm
              have fm := fm.call (by simp) fmc
              have fs := fs.call (by simp) gs
              refine ev_lload_n d_Mo_takeFrames_68 rfl rfl ?_
              refine ev_aload_n d_Mo_takeFrames_69 rfl rfl ?_
              refine ev_pV M_Mo_frame 0 0 (As := []) (c_Mo_frame G h63 σ64 m num den hm f2 f3 hnum hden) d_Mo_takeFrames_70 mk_Mo_frame ml_Mo_134 mv_Mo_frame hm rfl rfl rfl (Nat.le_of_ble_eq_true rfl) ⟨by decide, by decide⟩ ⟨by decide, by decide⟩ ?_
              rw [← htk]
              refine ez_lmul d_Mo_takeFrames_73 ?_
              have hvv : (fq F n s0).2 < 0 → (((10 * ((10 * (hv F n s3.1 s3.2 - 48)) + (hv F n (s6.1) s6.2 - 48))) + (hv F n (s6.1 + 1) s6.2 - 48)) * tk : Int) = frV F n s0.1 * tk := by
                intro q9
                rw [fe.2 q9]
                have o3 := sq_ok (F := F) (n := n) (A := [(125, 125)]) (s := (s6.1 + 2, s6.2)) (by rw [show sq F n [(125, 125)] (s6.1 + 2, s6.2) = fq F n s0 from fe.1]; exact q9)
                have q8 : s6.2 < 0 := o3.1
                have o_s6 := sq_ok (F := F) (n := n) (A := [(48, 57)]) (s := s3) (by rw [← e_s6]; exact q8)
                have q_s3 := o_s6.1
                have l_s6 : s6.1 = s3.1 + 1 := by rw [e_s6]; exact o_s6.2.2.1
                have w_s3 : hv F n s3.1 s3.2 = lk F n s3.1 := if_pos q_s3
                have o_s3 := sq_ok (F := F) (n := n) (A := [(123, 123)]) (s := s0) (by rw [← e_s3]; exact q_s3)
                have q_s0 := o_s3.1
                have l_s3 : s3.1 = s0.1 + 1 := by rw [e_s3]; exact o_s3.2.2.1
                have w_s0 : hv F n s0.1 s0.2 = lk F n s0.1 := if_pos q_s0
                have p_s3 : s3.1 = s0.1 + 1 := by omega
                have p_s6 : s6.1 = s0.1 + 2 := by omega
                have x_0 : hv F n (s6.1) s6.2 = lk F n (s0.1 + 2 + 0) := by rw [show hv F n (s6.1) s6.2 = lk F n (s6.1) from if_pos q8, show s6.1 = s0.1 + 2 + 0 from by omega]
                have x_1 : hv F n (s6.1 + 1) s6.2 = lk F n (s0.1 + 2 + 1) := by rw [show hv F n (s6.1 + 1) s6.2 = lk F n (s6.1 + 1) from if_pos q8, show s6.1 + 1 = s0.1 + 2 + 1 from by omega]
                have y_1 : hv F n s3.1 s3.2 = lk F n (s0.1 + 1) := by rw [w_s3, p_s3]
                simp only [dgv]
                rw [y_1, x_0, x_1]
                try rfl
              exact ev_lreturn d_Mo_takeFrames_74 rfl (by decide) (by decide) (⟨⟨_, rfl, hvv⟩, ⟨σ64, hm, f16, f17, fs⟩, fm⟩)
            · refine ev_ldc2 (v := lZ 10) d_Mo_takeFrames_42 kc_Mo_130 ?_
              refine ev_lload_n d_Mo_takeFrames_45 rfl rfl ?_
              refine ez_lmul d_Mo_takeFrames_46 ?_
              refine ev_aload_n d_Mo_takeFrames_47 rfl rfl ?_
              refine ev_bipush (v := iZ 9) d_Mo_takeFrames_48 rfl ?_
              have d_2 : 48 ≤ hv F n (s6.1 + 2) s6.2 ∧ hv F n (s6.1 + 2) s6.2 ≤ 57 := ⟨by omega, by omega⟩
              have dp_2 := hv_p (F := F) (n := n) (p := s6.1 + 2) (ft := s6.2) (by omega)
              rw [hf_p dp_2.2.1] at f17
              refine ev_callV M_Mo_takeDigit (rm 1 30) _ (As := [.int (iZ 9)]) (c_Mo_takeDigit G h51 σ52 m bu n (s6.1 + 2) F s6.2 9 57 hm f0 f1 f16 f17 hbu hn (by omega) hF (by omega) (by decide) (by decide)) d_Mo_takeFrames_50 mk_Mo_takeDigit ml_Mo_121 mv_Mo_takeDigit hm rfl rfl rfl (Nat.le_of_ble_eq_true rfl) ⟨by decide, by decide⟩ ⟨by decide, by decide⟩ (fun r h65 hq => ?_)
              obtain ⟨rfl, ⟨σ66, gm, g16, g17, gs⟩, fmc⟩ := hq
              rw [sq_dig (by decide) (by omega) d_2] at g16 g17
              have hbu := (fmc _ (ninc (cne hbu hm (by simp)) nin0)).trans hbu
              have f0 := (gs 0 (by decide)).trans f0
              have f1 := (gs 1 (by decide)).trans f1
              have f2 := (gs 2 (by decide)).trans f2
              have f3 := (gs 3 (by decide)).trans f3
              have f16 := g16
              have f17 := g17
              have hm := gm
              have fm := fm.call (by simp) fmc
              have fs := fs.call (by simp) gs
              replace f16 : σ66 16 = .int (iZ ((s6.1 + 3 : Nat) : Int)) := f16
              replace f17 : σ66 17 = .int (iZ s6.2) := f17
              refine ez_i2l (by omega) d_Mo_takeFrames_53 ?_
              refine ez_ladd d_Mo_takeFrames_54 ?_
              refine ev_lstore_n (L' := [(0, .ref m), (1, .long (lZ ((10 * ((10 * ((10 * (hv F n s3.1 s3.2 - 48)) + (hv F n (s6.1) s6.2 - 48))) + (hv F n (s6.1 + 1) s6.2 - 48))) + (hv F n (s6.1 + 2) s6.2 - 48)))), (3, .int (iZ 3)), (4, .int (iZ (hv F n (s6.1 + 2) s6.2)))]) d_Mo_takeFrames_55 rfl (by decide) rfl ?_
              refine ez_iinc (L' := [(0, .ref m), (1, .long (lZ ((10 * ((10 * ((10 * (hv F n s3.1 s3.2 - 48)) + (hv F n (s6.1) s6.2 - 48))) + (hv F n (s6.1 + 1) s6.2 - 48))) + (hv F n (s6.1 + 2) s6.2 - 48)))), (3, .int (iZ 4)), (4, .int (iZ (hv F n (s6.1 + 2) s6.2)))]) d_Mo_takeFrames_56 rfl (by decide) rfl ?_
              refine ev_goto (tgt := 16) d_Mo_takeFrames_59 rfl ?_
              refine ev_iload_n d_Mo_takeFrames_16 rfl rfl ?_
              refine ev_bipush (v := iZ 6) d_Mo_takeFrames_17 rfl ?_
              refine ez_icmp_ge (tgt := 62) (by decide) (by decide) d_Mo_takeFrames_19 rfl (fun c19 => absurd c19 (by omega)) (fun c19 => ?_)
              refine ev_aload_n d_Mo_takeFrames_22 rfl rfl ?_
              refine ev_callV M_Mo_here (rm 0 0) _ (As := []) (c_Mo_here G h65 σ66 m bu n (s6.1 + 3) F (s6.2) hm f0 f1 f16 f17 hbu hn (by omega) hF (by omega)) d_Mo_takeFrames_23 mk_Mo_here ml_Mo_113 mv_Mo_here hm rfl rfl rfl (Nat.le_of_ble_eq_true rfl) ⟨by decide, by decide⟩ ⟨by decide, by decide⟩ (fun r h67 hq => ?_)
              obtain ⟨rfl, ⟨σ68, gm, g17, gs⟩, fmc⟩ := hq
              have hbu := (fmc _ (ninc (cne hbu hm (by simp)) nin0)).trans hbu
              have f0 := (gs 0 (by decide)).trans f0
              have f1 := (gs 1 (by decide)).trans f1
              have f16 := (gs 16 (by decide)).trans f16
              have f2 := (gs 2 (by decide)).trans f2
              have f3 := (gs 3 (by decide)).trans f3
              have f17 := g17
              have hm := gm
              have fm := fm.call (by simp) fmc
              have fs := fs.call (by simp) gs
              have hrh67 := hv_r (n := n) (p := s6.1 + 3) (ft := s6.2) hF
              have hkh67 := hf_r (n := n) (p := s6.1 + 3) (ft := s6.2) (by omega) hn
              skip
              refine ev_istore (L' := [(0, .ref m), (1, .long (lZ ((10 * ((10 * ((10 * (hv F n s3.1 s3.2 - 48)) + (hv F n (s6.1) s6.2 - 48))) + (hv F n (s6.1 + 1) s6.2 - 48))) + (hv F n (s6.1 + 2) s6.2 - 48)))), (3, .int (iZ 4)), (4, .int (iZ (hv F n (s6.1 + 3) s6.2)))]) d_Mo_takeFrames_26 (by decide) rfl ?_
              refine ev_iload d_Mo_takeFrames_28 rfl ?_
              refine ev_bipush (v := iZ 48) d_Mo_takeFrames_30 rfl ?_
              refine ez_icmp_lt (tgt := 56) (by omega) (by decide) d_Mo_takeFrames_32 rfl (fun c32 => ?_) (fun c32 => ?_)
              · refine ez_iinc (L' := [(0, .ref m), (1, .long (lZ ((10 * ((10 * ((10 * (hv F n s3.1 s3.2 - 48)) + (hv F n (s6.1) s6.2 - 48))) + (hv F n (s6.1 + 1) s6.2 - 48))) + (hv F n (s6.1 + 2) s6.2 - 48)))), (3, .int (iZ 5)), (4, .int (iZ (hv F n (s6.1 + 3) s6.2)))]) d_Mo_takeFrames_56 rfl (by decide) rfl ?_
                refine ev_goto (tgt := 16) d_Mo_takeFrames_59 rfl ?_
                refine ev_iload_n d_Mo_takeFrames_16 rfl rfl ?_
                refine ev_bipush (v := iZ 6) d_Mo_takeFrames_17 rfl ?_
                refine ez_icmp_ge (tgt := 62) (by decide) (by decide) d_Mo_takeFrames_19 rfl (fun c19 => absurd c19 (by omega)) (fun c19 => ?_)
                refine ev_aload_n d_Mo_takeFrames_22 rfl rfl ?_
                refine ev_callV M_Mo_here (rm 0 0) _ (As := []) (c_Mo_here G h67 σ68 m bu n (s6.1 + 3) F (hf n (s6.1 + 3) s6.2) hm f0 f1 f16 f17 hbu hn (by omega) hF (by omega)) d_Mo_takeFrames_23 mk_Mo_here ml_Mo_113 mv_Mo_here hm rfl rfl rfl (Nat.le_of_ble_eq_true rfl) ⟨by decide, by decide⟩ ⟨by decide, by decide⟩ (fun r h69 hq => ?_)
                obtain ⟨rfl, ⟨σ70, gm, g17, gs⟩, fmc⟩ := hq
                have hbu := (fmc _ (ninc (cne hbu hm (by simp)) nin0)).trans hbu
                have f0 := (gs 0 (by decide)).trans f0
                have f1 := (gs 1 (by decide)).trans f1
                have f16 := (gs 16 (by decide)).trans f16
                have f2 := (gs 2 (by decide)).trans f2
                have f3 := (gs 3 (by decide)).trans f3
                have f17 := g17
                have hm := gm
                have fm := fm.call (by simp) fmc
                have fs := fs.call (by simp) gs
                have hrh69 := hv_r (n := n) (p := s6.1 + 3) (ft := hf n (s6.1 + 3) s6.2) hF
                have hkh69 := hf_r (n := n) (p := s6.1 + 3) (ft := hf n (s6.1 + 3) s6.2) (by omega) hn
                rw [hf_hf] at f17
                refine ev_top (hv F n (s6.1 + 3) s6.2) (hv_hf) ?_
                refine ev_istore (L' := [(0, .ref m), (1, .long (lZ ((10 * ((10 * ((10 * (hv F n s3.1 s3.2 - 48)) + (hv F n (s6.1) s6.2 - 48))) + (hv F n (s6.1 + 1) s6.2 - 48))) + (hv F n (s6.1 + 2) s6.2 - 48)))), (3, .int (iZ 5)), (4, .int (iZ (hv F n (s6.1 + 3) s6.2)))]) d_Mo_takeFrames_26 (by decide) rfl ?_
                refine ev_iload d_Mo_takeFrames_28 rfl ?_
                refine ev_bipush (v := iZ 48) d_Mo_takeFrames_30 rfl ?_
                refine ez_icmp_lt (tgt := 56) (by omega) (by decide) d_Mo_takeFrames_32 rfl (fun c32 => ?_) (fun c32 => absurd c32 (by omega))
                refine ez_iinc (L' := [(0, .ref m), (1, .long (lZ ((10 * ((10 * ((10 * (hv F n s3.1 s3.2 - 48)) + (hv F n (s6.1) s6.2 - 48))) + (hv F n (s6.1 + 1) s6.2 - 48))) + (hv F n (s6.1 + 2) s6.2 - 48)))), (3, .int (iZ 6)), (4, .int (iZ (hv F n (s6.1 + 3) s6.2)))]) d_Mo_takeFrames_56 rfl (by decide) rfl ?_
                refine ev_goto (tgt := 16) d_Mo_takeFrames_59 rfl ?_
                refine ev_iload_n d_Mo_takeFrames_16 rfl rfl ?_
                refine ev_bipush (v := iZ 6) d_Mo_takeFrames_17 rfl ?_
                refine ez_icmp_ge (tgt := 62) (by decide) (by decide) d_Mo_takeFrames_19 rfl (fun c19 => ?_) (fun c19 => absurd c19 (by omega))
                refine ev_aload_n d_Mo_takeFrames_62 rfl rfl ?_
                refine ev_bipush (v := iZ 125) d_Mo_takeFrames_63 rfl ?_
                refine ev_callV M_Mo_takeByte (rm 1 30) _ (As := [.int (iZ 125)]) (c_Mo_takeByte G h69 σ70 m bu n (s6.1 + 3) F (hf n (s6.1 + 3) s6.2) 125 hm f0 f1 f16 f17 hbu hn (by omega) hF (by omega) (by decide)) d_Mo_takeFrames_65 mk_Mo_takeByte ml_Mo_126 mv_Mo_takeByte hm rfl rfl rfl (Nat.le_of_ble_eq_true rfl) ⟨by decide, by decide⟩ ⟨by decide, by decide⟩ (fun r h71 hq => ?_)
                obtain ⟨rfl, ⟨σ72, gm, g16, g17, gs⟩, fmc⟩ := hq
                rw [sq_hf (by decide) (by omega)] at g16 g17
                have hd9 : ∀ i, i < 3 → 48 ≤ hv F n (s6.1 + i) s6.2 ∧ hv F n (s6.1 + i) s6.2 ≤ 57 := by
                  intro i hi
                  rcases (show i = 0 ∨ i = 1 ∨ i = 2 from by omega) with rfl | rfl | rfl
                  · exact d_0
                  · exact d_1
                  · exact d_2
                have fe := fq_end (F := F) (n := n) (j := 3) (s0 := s0) (s2 := s6) hs0.2.1 (by rw [sq_app, e_s6, e_s3]) (by decide) hd9 (fun hj => by show ¬ (48 ≤ hv F n (s6.1 + 3) s6.2 ∧ hv F n (s6.1 + 3) s6.2 ≤ 57); omega)
                rw [show sq F n [(125, 125)] (s6.1 + 3, s6.2) = fq F n s0 from fe.1] at g16 g17
                have hbu := (fmc _ (ninc (cne hbu hm (by simp)) nin0)).trans hbu
                have f0 := (gs 0 (by decide)).trans f0
                have f1 := (gs 1 (by decide)).trans f1
                have f2 := (gs 2 (by decide)).trans f2
                have f3 := (gs 3 (by decide)).trans f3
                have f16 := g16
                have f17 := g17
                have hm := gm
                have fm := fm.call (by simp) fmc
                have fs := fs.call (by simp) gs
                refine ev_lload_n d_Mo_takeFrames_68 rfl rfl ?_
                refine ev_aload_n d_Mo_takeFrames_69 rfl rfl ?_
                refine ev_pV M_Mo_frame 0 0 (As := []) (c_Mo_frame G h71 σ72 m num den hm f2 f3 hnum hden) d_Mo_takeFrames_70 mk_Mo_frame ml_Mo_134 mv_Mo_frame hm rfl rfl rfl (Nat.le_of_ble_eq_true rfl) ⟨by decide, by decide⟩ ⟨by decide, by decide⟩ ?_
                rw [← htk]
                refine ez_lmul d_Mo_takeFrames_73 ?_
                have hvv : (fq F n s0).2 < 0 → (((10 * ((10 * ((10 * (hv F n s3.1 s3.2 - 48)) + (hv F n (s6.1) s6.2 - 48))) + (hv F n (s6.1 + 1) s6.2 - 48))) + (hv F n (s6.1 + 2) s6.2 - 48)) * tk : Int) = frV F n s0.1 * tk := by
                  intro q9
                  rw [fe.2 q9]
                  have o3 := sq_ok (F := F) (n := n) (A := [(125, 125)]) (s := (s6.1 + 3, s6.2)) (by rw [show sq F n [(125, 125)] (s6.1 + 3, s6.2) = fq F n s0 from fe.1]; exact q9)
                  have q8 : s6.2 < 0 := o3.1
                  have o_s6 := sq_ok (F := F) (n := n) (A := [(48, 57)]) (s := s3) (by rw [← e_s6]; exact q8)
                  have q_s3 := o_s6.1
                  have l_s6 : s6.1 = s3.1 + 1 := by rw [e_s6]; exact o_s6.2.2.1
                  have w_s3 : hv F n s3.1 s3.2 = lk F n s3.1 := if_pos q_s3
                  have o_s3 := sq_ok (F := F) (n := n) (A := [(123, 123)]) (s := s0) (by rw [← e_s3]; exact q_s3)
                  have q_s0 := o_s3.1
                  have l_s3 : s3.1 = s0.1 + 1 := by rw [e_s3]; exact o_s3.2.2.1
                  have w_s0 : hv F n s0.1 s0.2 = lk F n s0.1 := if_pos q_s0
                  have p_s3 : s3.1 = s0.1 + 1 := by omega
                  have p_s6 : s6.1 = s0.1 + 2 := by omega
                  have x_0 : hv F n (s6.1) s6.2 = lk F n (s0.1 + 2 + 0) := by rw [show hv F n (s6.1) s6.2 = lk F n (s6.1) from if_pos q8, show s6.1 = s0.1 + 2 + 0 from by omega]
                  have x_1 : hv F n (s6.1 + 1) s6.2 = lk F n (s0.1 + 2 + 1) := by rw [show hv F n (s6.1 + 1) s6.2 = lk F n (s6.1 + 1) from if_pos q8, show s6.1 + 1 = s0.1 + 2 + 1 from by omega]
                  have x_2 : hv F n (s6.1 + 2) s6.2 = lk F n (s0.1 + 2 + 2) := by rw [show hv F n (s6.1 + 2) s6.2 = lk F n (s6.1 + 2) from if_pos q8, show s6.1 + 2 = s0.1 + 2 + 2 from by omega]
                  have y_1 : hv F n s3.1 s3.2 = lk F n (s0.1 + 1) := by rw [w_s3, p_s3]
                  simp only [dgv]
                  rw [y_1, x_0, x_1, x_2]
                  try rfl
                exact ev_lreturn d_Mo_takeFrames_74 rfl (by decide) (by decide) (⟨⟨_, rfl, hvv⟩, ⟨σ72, hm, f16, f17, fs⟩, fm⟩)
              · refine ev_iload d_Mo_takeFrames_35 rfl ?_
                refine ev_bipush (v := iZ 57) d_Mo_takeFrames_37 rfl ?_
                refine ez_icmp_gt (tgt := 56) (by omega) (by decide) d_Mo_takeFrames_39 rfl (fun c39 => ?_) (fun c39 => ?_)
                · refine ez_iinc (L' := [(0, .ref m), (1, .long (lZ ((10 * ((10 * ((10 * (hv F n s3.1 s3.2 - 48)) + (hv F n (s6.1) s6.2 - 48))) + (hv F n (s6.1 + 1) s6.2 - 48))) + (hv F n (s6.1 + 2) s6.2 - 48)))), (3, .int (iZ 5)), (4, .int (iZ (hv F n (s6.1 + 3) s6.2)))]) d_Mo_takeFrames_56 rfl (by decide) rfl ?_
                  refine ev_goto (tgt := 16) d_Mo_takeFrames_59 rfl ?_
                  refine ev_iload_n d_Mo_takeFrames_16 rfl rfl ?_
                  refine ev_bipush (v := iZ 6) d_Mo_takeFrames_17 rfl ?_
                  refine ez_icmp_ge (tgt := 62) (by decide) (by decide) d_Mo_takeFrames_19 rfl (fun c19 => absurd c19 (by omega)) (fun c19 => ?_)
                  refine ev_aload_n d_Mo_takeFrames_22 rfl rfl ?_
                  refine ev_callV M_Mo_here (rm 0 0) _ (As := []) (c_Mo_here G h67 σ68 m bu n (s6.1 + 3) F (hf n (s6.1 + 3) s6.2) hm f0 f1 f16 f17 hbu hn (by omega) hF (by omega)) d_Mo_takeFrames_23 mk_Mo_here ml_Mo_113 mv_Mo_here hm rfl rfl rfl (Nat.le_of_ble_eq_true rfl) ⟨by decide, by decide⟩ ⟨by decide, by decide⟩ (fun r h73 hq => ?_)
                  obtain ⟨rfl, ⟨σ74, gm, g17, gs⟩, fmc⟩ := hq
                  have hbu := (fmc _ (ninc (cne hbu hm (by simp)) nin0)).trans hbu
                  have f0 := (gs 0 (by decide)).trans f0
                  have f1 := (gs 1 (by decide)).trans f1
                  have f16 := (gs 16 (by decide)).trans f16
                  have f2 := (gs 2 (by decide)).trans f2
                  have f3 := (gs 3 (by decide)).trans f3
                  have f17 := g17
                  have hm := gm
                  have fm := fm.call (by simp) fmc
                  have fs := fs.call (by simp) gs
                  have hrh73 := hv_r (n := n) (p := s6.1 + 3) (ft := hf n (s6.1 + 3) s6.2) hF
                  have hkh73 := hf_r (n := n) (p := s6.1 + 3) (ft := hf n (s6.1 + 3) s6.2) (by omega) hn
                  rw [hf_hf] at f17
                  refine ev_top (hv F n (s6.1 + 3) s6.2) (hv_hf) ?_
                  refine ev_istore (L' := [(0, .ref m), (1, .long (lZ ((10 * ((10 * ((10 * (hv F n s3.1 s3.2 - 48)) + (hv F n (s6.1) s6.2 - 48))) + (hv F n (s6.1 + 1) s6.2 - 48))) + (hv F n (s6.1 + 2) s6.2 - 48)))), (3, .int (iZ 5)), (4, .int (iZ (hv F n (s6.1 + 3) s6.2)))]) d_Mo_takeFrames_26 (by decide) rfl ?_
                  refine ev_iload d_Mo_takeFrames_28 rfl ?_
                  refine ev_bipush (v := iZ 48) d_Mo_takeFrames_30 rfl ?_
                  refine ez_icmp_lt (tgt := 56) (by omega) (by decide) d_Mo_takeFrames_32 rfl (fun c32 => absurd c32 (by omega)) (fun c32 => ?_)
                  refine ev_iload d_Mo_takeFrames_35 rfl ?_
                  refine ev_bipush (v := iZ 57) d_Mo_takeFrames_37 rfl ?_
                  refine ez_icmp_gt (tgt := 56) (by omega) (by decide) d_Mo_takeFrames_39 rfl (fun c39 => ?_) (fun c39 => absurd c39 (by omega))
                  refine ez_iinc (L' := [(0, .ref m), (1, .long (lZ ((10 * ((10 * ((10 * (hv F n s3.1 s3.2 - 48)) + (hv F n (s6.1) s6.2 - 48))) + (hv F n (s6.1 + 1) s6.2 - 48))) + (hv F n (s6.1 + 2) s6.2 - 48)))), (3, .int (iZ 6)), (4, .int (iZ (hv F n (s6.1 + 3) s6.2)))]) d_Mo_takeFrames_56 rfl (by decide) rfl ?_
                  refine ev_goto (tgt := 16) d_Mo_takeFrames_59 rfl ?_
                  refine ev_iload_n d_Mo_takeFrames_16 rfl rfl ?_
                  refine ev_bipush (v := iZ 6) d_Mo_takeFrames_17 rfl ?_
                  refine ez_icmp_ge (tgt := 62) (by decide) (by decide) d_Mo_takeFrames_19 rfl (fun c19 => ?_) (fun c19 => absurd c19 (by omega))
                  refine ev_aload_n d_Mo_takeFrames_62 rfl rfl ?_
                  refine ev_bipush (v := iZ 125) d_Mo_takeFrames_63 rfl ?_
                  refine ev_callV M_Mo_takeByte (rm 1 30) _ (As := [.int (iZ 125)]) (c_Mo_takeByte G h73 σ74 m bu n (s6.1 + 3) F (hf n (s6.1 + 3) s6.2) 125 hm f0 f1 f16 f17 hbu hn (by omega) hF (by omega) (by decide)) d_Mo_takeFrames_65 mk_Mo_takeByte ml_Mo_126 mv_Mo_takeByte hm rfl rfl rfl (Nat.le_of_ble_eq_true rfl) ⟨by decide, by decide⟩ ⟨by decide, by decide⟩ (fun r h75 hq => ?_)
                  obtain ⟨rfl, ⟨σ76, gm, g16, g17, gs⟩, fmc⟩ := hq
                  rw [sq_hf (by decide) (by omega)] at g16 g17
                  have hd9 : ∀ i, i < 3 → 48 ≤ hv F n (s6.1 + i) s6.2 ∧ hv F n (s6.1 + i) s6.2 ≤ 57 := by
                    intro i hi
                    rcases (show i = 0 ∨ i = 1 ∨ i = 2 from by omega) with rfl | rfl | rfl
                    · exact d_0
                    · exact d_1
                    · exact d_2
                  have fe := fq_end (F := F) (n := n) (j := 3) (s0 := s0) (s2 := s6) hs0.2.1 (by rw [sq_app, e_s6, e_s3]) (by decide) hd9 (fun hj => by show ¬ (48 ≤ hv F n (s6.1 + 3) s6.2 ∧ hv F n (s6.1 + 3) s6.2 ≤ 57); omega)
                  rw [show sq F n [(125, 125)] (s6.1 + 3, s6.2) = fq F n s0 from fe.1] at g16 g17
                  have hbu := (fmc _ (ninc (cne hbu hm (by simp)) nin0)).trans hbu
                  have f0 := (gs 0 (by decide)).trans f0
                  have f1 := (gs 1 (by decide)).trans f1
                  have f2 := (gs 2 (by decide)).trans f2
                  have f3 := (gs 3 (by decide)).trans f3
                  have f16 := g16
                  have f17 := g17
                  have hm := gm
                  have fm := fm.call (by simp) fmc
                  have fs := fs.call (by simp) gs
                  refine ev_lload_n d_Mo_takeFrames_68 rfl rfl ?_
                  refine ev_aload_n d_Mo_takeFrames_69 rfl rfl ?_
                  refine ev_pV M_Mo_frame 0 0 (As := []) (c_Mo_frame G h75 σ76 m num den hm f2 f3 hnum hden) d_Mo_takeFrames_70 mk_Mo_frame ml_Mo_134 mv_Mo_frame hm rfl rfl rfl (Nat.le_of_ble_eq_true rfl) ⟨by decide, by decide⟩ ⟨by decide, by decide⟩ ?_
                  rw [← htk]
                  refine ez_lmul d_Mo_takeFrames_73 ?_
                  have hvv : (fq F n s0).2 < 0 → (((10 * ((10 * ((10 * (hv F n s3.1 s3.2 - 48)) + (hv F n (s6.1) s6.2 - 48))) + (hv F n (s6.1 + 1) s6.2 - 48))) + (hv F n (s6.1 + 2) s6.2 - 48)) * tk : Int) = frV F n s0.1 * tk := by
                    intro q9
                    rw [fe.2 q9]
                    have o3 := sq_ok (F := F) (n := n) (A := [(125, 125)]) (s := (s6.1 + 3, s6.2)) (by rw [show sq F n [(125, 125)] (s6.1 + 3, s6.2) = fq F n s0 from fe.1]; exact q9)
                    have q8 : s6.2 < 0 := o3.1
                    have o_s6 := sq_ok (F := F) (n := n) (A := [(48, 57)]) (s := s3) (by rw [← e_s6]; exact q8)
                    have q_s3 := o_s6.1
                    have l_s6 : s6.1 = s3.1 + 1 := by rw [e_s6]; exact o_s6.2.2.1
                    have w_s3 : hv F n s3.1 s3.2 = lk F n s3.1 := if_pos q_s3
                    have o_s3 := sq_ok (F := F) (n := n) (A := [(123, 123)]) (s := s0) (by rw [← e_s3]; exact q_s3)
                    have q_s0 := o_s3.1
                    have l_s3 : s3.1 = s0.1 + 1 := by rw [e_s3]; exact o_s3.2.2.1
                    have w_s0 : hv F n s0.1 s0.2 = lk F n s0.1 := if_pos q_s0
                    have p_s3 : s3.1 = s0.1 + 1 := by omega
                    have p_s6 : s6.1 = s0.1 + 2 := by omega
                    have x_0 : hv F n (s6.1) s6.2 = lk F n (s0.1 + 2 + 0) := by rw [show hv F n (s6.1) s6.2 = lk F n (s6.1) from if_pos q8, show s6.1 = s0.1 + 2 + 0 from by omega]
                    have x_1 : hv F n (s6.1 + 1) s6.2 = lk F n (s0.1 + 2 + 1) := by rw [show hv F n (s6.1 + 1) s6.2 = lk F n (s6.1 + 1) from if_pos q8, show s6.1 + 1 = s0.1 + 2 + 1 from by omega]
                    have x_2 : hv F n (s6.1 + 2) s6.2 = lk F n (s0.1 + 2 + 2) := by rw [show hv F n (s6.1 + 2) s6.2 = lk F n (s6.1 + 2) from if_pos q8, show s6.1 + 2 = s0.1 + 2 + 2 from by omega]
                    have y_1 : hv F n s3.1 s3.2 = lk F n (s0.1 + 1) := by rw [w_s3, p_s3]
                    simp only [dgv]
                    rw [y_1, x_0, x_1, x_2]
                    try rfl
                  exact ev_lreturn d_Mo_takeFrames_74 rfl (by decide) (by decide) (⟨⟨_, rfl, hvv⟩, ⟨σ76, hm, f16, f17, fs⟩, fm⟩)
                · refine ev_ldc2 (v := lZ 10) d_Mo_takeFrames_42 kc_Mo_130 ?_
                  refine ev_lload_n d_Mo_takeFrames_45 rfl rfl ?_
                  refine ez_lmul d_Mo_takeFrames_46 ?_
                  refine ev_aload_n d_Mo_takeFrames_47 rfl rfl ?_
                  refine ev_bipush (v := iZ 9) d_Mo_takeFrames_48 rfl ?_
                  have d_3 : 48 ≤ hv F n (s6.1 + 3) s6.2 ∧ hv F n (s6.1 + 3) s6.2 ≤ 57 := ⟨by omega, by omega⟩
                  have dp_3 := hv_p (F := F) (n := n) (p := s6.1 + 3) (ft := s6.2) (by omega)
                  rw [hf_p dp_3.2.1] at f17
                  refine ev_callV M_Mo_takeDigit (rm 1 30) _ (As := [.int (iZ 9)]) (c_Mo_takeDigit G h67 σ68 m bu n (s6.1 + 3) F s6.2 9 57 hm f0 f1 f16 f17 hbu hn (by omega) hF (by omega) (by decide) (by decide)) d_Mo_takeFrames_50 mk_Mo_takeDigit ml_Mo_121 mv_Mo_takeDigit hm rfl rfl rfl (Nat.le_of_ble_eq_true rfl) ⟨by decide, by decide⟩ ⟨by decide, by decide⟩ (fun r h77 hq => ?_)
                  obtain ⟨rfl, ⟨σ78, gm, g16, g17, gs⟩, fmc⟩ := hq
                  rw [sq_dig (by decide) (by omega) d_3] at g16 g17
                  have hbu := (fmc _ (ninc (cne hbu hm (by simp)) nin0)).trans hbu
                  have f0 := (gs 0 (by decide)).trans f0
                  have f1 := (gs 1 (by decide)).trans f1
                  have f2 := (gs 2 (by decide)).trans f2
                  have f3 := (gs 3 (by decide)).trans f3
                  have f16 := g16
                  have f17 := g17
                  have hm := gm
                  have fm := fm.call (by simp) fmc
                  have fs := fs.call (by simp) gs
                  replace f16 : σ78 16 = .int (iZ ((s6.1 + 4 : Nat) : Int)) := f16
                  replace f17 : σ78 17 = .int (iZ s6.2) := f17
                  refine ez_i2l (by omega) d_Mo_takeFrames_53 ?_
                  refine ez_ladd d_Mo_takeFrames_54 ?_
                  refine ev_lstore_n (L' := [(0, .ref m), (1, .long (lZ ((10 * ((10 * ((10 * ((10 * (hv F n s3.1 s3.2 - 48)) + (hv F n (s6.1) s6.2 - 48))) + (hv F n (s6.1 + 1) s6.2 - 48))) + (hv F n (s6.1 + 2) s6.2 - 48))) + (hv F n (s6.1 + 3) s6.2 - 48)))), (3, .int (iZ 4)), (4, .int (iZ (hv F n (s6.1 + 3) s6.2)))]) d_Mo_takeFrames_55 rfl (by decide) rfl ?_
                  refine ez_iinc (L' := [(0, .ref m), (1, .long (lZ ((10 * ((10 * ((10 * ((10 * (hv F n s3.1 s3.2 - 48)) + (hv F n (s6.1) s6.2 - 48))) + (hv F n (s6.1 + 1) s6.2 - 48))) + (hv F n (s6.1 + 2) s6.2 - 48))) + (hv F n (s6.1 + 3) s6.2 - 48)))), (3, .int (iZ 5)), (4, .int (iZ (hv F n (s6.1 + 3) s6.2)))]) d_Mo_takeFrames_56 rfl (by decide) rfl ?_
                  refine ev_goto (tgt := 16) d_Mo_takeFrames_59 rfl ?_
                  refine ev_iload_n d_Mo_takeFrames_16 rfl rfl ?_
                  refine ev_bipush (v := iZ 6) d_Mo_takeFrames_17 rfl ?_
                  refine ez_icmp_ge (tgt := 62) (by decide) (by decide) d_Mo_takeFrames_19 rfl (fun c19 => absurd c19 (by omega)) (fun c19 => ?_)
                  refine ev_aload_n d_Mo_takeFrames_22 rfl rfl ?_
                  refine ev_callV M_Mo_here (rm 0 0) _ (As := []) (c_Mo_here G h77 σ78 m bu n (s6.1 + 4) F (s6.2) hm f0 f1 f16 f17 hbu hn (by omega) hF (by omega)) d_Mo_takeFrames_23 mk_Mo_here ml_Mo_113 mv_Mo_here hm rfl rfl rfl (Nat.le_of_ble_eq_true rfl) ⟨by decide, by decide⟩ ⟨by decide, by decide⟩ (fun r h79 hq => ?_)
                  obtain ⟨rfl, ⟨σ80, gm, g17, gs⟩, fmc⟩ := hq
                  have hbu := (fmc _ (ninc (cne hbu hm (by simp)) nin0)).trans hbu
                  have f0 := (gs 0 (by decide)).trans f0
                  have f1 := (gs 1 (by decide)).trans f1
                  have f16 := (gs 16 (by decide)).trans f16
                  have f2 := (gs 2 (by decide)).trans f2
                  have f3 := (gs 3 (by decide)).trans f3
                  have f17 := g17
                  have hm := gm
                  have fm := fm.call (by simp) fmc
                  have fs := fs.call (by simp) gs
                  have hrh79 := hv_r (n := n) (p := s6.1 + 4) (ft := s6.2) hF
                  have hkh79 := hf_r (n := n) (p := s6.1 + 4) (ft := s6.2) (by omega) hn
                  skip
                  refine ev_istore (L' := [(0, .ref m), (1, .long (lZ ((10 * ((10 * ((10 * ((10 * (hv F n s3.1 s3.2 - 48)) + (hv F n (s6.1) s6.2 - 48))) + (hv F n (s6.1 + 1) s6.2 - 48))) + (hv F n (s6.1 + 2) s6.2 - 48))) + (hv F n (s6.1 + 3) s6.2 - 48)))), (3, .int (iZ 5)), (4, .int (iZ (hv F n (s6.1 + 4) s6.2)))]) d_Mo_takeFrames_26 (by decide) rfl ?_
                  refine ev_iload d_Mo_takeFrames_28 rfl ?_
                  refine ev_bipush (v := iZ 48) d_Mo_takeFrames_30 rfl ?_
                  refine ez_icmp_lt (tgt := 56) (by omega) (by decide) d_Mo_takeFrames_32 rfl (fun c32 => ?_) (fun c32 => ?_)
                  · refine ez_iinc (L' := [(0, .ref m), (1, .long (lZ ((10 * ((10 * ((10 * ((10 * (hv F n s3.1 s3.2 - 48)) + (hv F n (s6.1) s6.2 - 48))) + (hv F n (s6.1 + 1) s6.2 - 48))) + (hv F n (s6.1 + 2) s6.2 - 48))) + (hv F n (s6.1 + 3) s6.2 - 48)))), (3, .int (iZ 6)), (4, .int (iZ (hv F n (s6.1 + 4) s6.2)))]) d_Mo_takeFrames_56 rfl (by decide) rfl ?_
                    refine ev_goto (tgt := 16) d_Mo_takeFrames_59 rfl ?_
                    refine ev_iload_n d_Mo_takeFrames_16 rfl rfl ?_
                    refine ev_bipush (v := iZ 6) d_Mo_takeFrames_17 rfl ?_
                    refine ez_icmp_ge (tgt := 62) (by decide) (by decide) d_Mo_takeFrames_19 rfl (fun c19 => ?_) (fun c19 => absurd c19 (by omega))
                    refine ev_aload_n d_Mo_takeFrames_62 rfl rfl ?_
                    refine ev_bipush (v := iZ 125) d_Mo_takeFrames_63 rfl ?_
                    refine ev_callV M_Mo_takeByte (rm 1 30) _ (As := [.int (iZ 125)]) (c_Mo_takeByte G h79 σ80 m bu n (s6.1 + 4) F (hf n (s6.1 + 4) s6.2) 125 hm f0 f1 f16 f17 hbu hn (by omega) hF (by omega) (by decide)) d_Mo_takeFrames_65 mk_Mo_takeByte ml_Mo_126 mv_Mo_takeByte hm rfl rfl rfl (Nat.le_of_ble_eq_true rfl) ⟨by decide, by decide⟩ ⟨by decide, by decide⟩ (fun r h81 hq => ?_)
                    obtain ⟨rfl, ⟨σ82, gm, g16, g17, gs⟩, fmc⟩ := hq
                    rw [sq_hf (by decide) (by omega)] at g16 g17
                    have hd9 : ∀ i, i < 4 → 48 ≤ hv F n (s6.1 + i) s6.2 ∧ hv F n (s6.1 + i) s6.2 ≤ 57 := by
                      intro i hi
                      rcases (show i = 0 ∨ i = 1 ∨ i = 2 ∨ i = 3 from by omega) with rfl | rfl | rfl | rfl
                      · exact d_0
                      · exact d_1
                      · exact d_2
                      · exact d_3
                    have fe := fq_end (F := F) (n := n) (j := 4) (s0 := s0) (s2 := s6) hs0.2.1 (by rw [sq_app, e_s6, e_s3]) (by decide) hd9 (fun hj => by show ¬ (48 ≤ hv F n (s6.1 + 4) s6.2 ∧ hv F n (s6.1 + 4) s6.2 ≤ 57); omega)
                    rw [show sq F n [(125, 125)] (s6.1 + 4, s6.2) = fq F n s0 from fe.1] at g16 g17
                    have hbu := (fmc _ (ninc (cne hbu hm (by simp)) nin0)).trans hbu
                    have f0 := (gs 0 (by decide)).trans f0
                    have f1 := (gs 1 (by decide)).trans f1
                    have f2 := (gs 2 (by decide)).trans f2
                    have f3 := (gs 3 (by decide)).trans f3
                    have f16 := g16
                    have f17 := g17
                    have hm := gm
                    have fm := fm.call (by simp) fmc
                    have fs := fs.call (by simp) gs
                    refine ev_lload_n d_Mo_takeFrames_68 rfl rfl ?_
                    refine ev_aload_n d_Mo_takeFrames_69 rfl rfl ?_
                    refine ev_pV M_Mo_frame 0 0 (As := []) (c_Mo_frame G h81 σ82 m num den hm f2 f3 hnum hden) d_Mo_takeFrames_70 mk_Mo_frame ml_Mo_134 mv_Mo_frame hm rfl rfl rfl (Nat.le_of_ble_eq_true rfl) ⟨by decide, by decide⟩ ⟨by decide, by decide⟩ ?_
                    rw [← htk]
                    refine ez_lmul d_Mo_takeFrames_73 ?_
                    have hvv : (fq F n s0).2 < 0 → (((10 * ((10 * ((10 * ((10 * (hv F n s3.1 s3.2 - 48)) + (hv F n (s6.1) s6.2 - 48))) + (hv F n (s6.1 + 1) s6.2 - 48))) + (hv F n (s6.1 + 2) s6.2 - 48))) + (hv F n (s6.1 + 3) s6.2 - 48)) * tk : Int) = frV F n s0.1 * tk := by
                      intro q9
                      rw [fe.2 q9]
                      have o3 := sq_ok (F := F) (n := n) (A := [(125, 125)]) (s := (s6.1 + 4, s6.2)) (by rw [show sq F n [(125, 125)] (s6.1 + 4, s6.2) = fq F n s0 from fe.1]; exact q9)
                      have q8 : s6.2 < 0 := o3.1
                      have o_s6 := sq_ok (F := F) (n := n) (A := [(48, 57)]) (s := s3) (by rw [← e_s6]; exact q8)
                      have q_s3 := o_s6.1
                      have l_s6 : s6.1 = s3.1 + 1 := by rw [e_s6]; exact o_s6.2.2.1
                      have w_s3 : hv F n s3.1 s3.2 = lk F n s3.1 := if_pos q_s3
                      have o_s3 := sq_ok (F := F) (n := n) (A := [(123, 123)]) (s := s0) (by rw [← e_s3]; exact q_s3)
                      have q_s0 := o_s3.1
                      have l_s3 : s3.1 = s0.1 + 1 := by rw [e_s3]; exact o_s3.2.2.1
                      have w_s0 : hv F n s0.1 s0.2 = lk F n s0.1 := if_pos q_s0
                      have p_s3 : s3.1 = s0.1 + 1 := by omega
                      have p_s6 : s6.1 = s0.1 + 2 := by omega
                      have x_0 : hv F n (s6.1) s6.2 = lk F n (s0.1 + 2 + 0) := by rw [show hv F n (s6.1) s6.2 = lk F n (s6.1) from if_pos q8, show s6.1 = s0.1 + 2 + 0 from by omega]
                      have x_1 : hv F n (s6.1 + 1) s6.2 = lk F n (s0.1 + 2 + 1) := by rw [show hv F n (s6.1 + 1) s6.2 = lk F n (s6.1 + 1) from if_pos q8, show s6.1 + 1 = s0.1 + 2 + 1 from by omega]
                      have x_2 : hv F n (s6.1 + 2) s6.2 = lk F n (s0.1 + 2 + 2) := by rw [show hv F n (s6.1 + 2) s6.2 = lk F n (s6.1 + 2) from if_pos q8, show s6.1 + 2 = s0.1 + 2 + 2 from by omega]
                      have x_3 : hv F n (s6.1 + 3) s6.2 = lk F n (s0.1 + 2 + 3) := by rw [show hv F n (s6.1 + 3) s6.2 = lk F n (s6.1 + 3) from if_pos q8, show s6.1 + 3 = s0.1 + 2 + 3 from by omega]
                      have y_1 : hv F n s3.1 s3.2 = lk F n (s0.1 + 1) := by rw [w_s3, p_s3]
                      simp only [dgv]
                      rw [y_1, x_0, x_1, x_2, x_3]
                      try rfl
                    exact ev_lreturn d_Mo_takeFrames_74 rfl (by decide) (by decide) (⟨⟨_, rfl, hvv⟩, ⟨σ82, hm, f16, f17, fs⟩, fm⟩)
                  · refine ev_iload d_Mo_takeFrames_35 rfl ?_
                    refine ev_bipush (v := iZ 57) d_Mo_takeFrames_37 rfl ?_
                    refine ez_icmp_gt (tgt := 56) (by omega) (by decide) d_Mo_takeFrames_39 rfl (fun c39 => ?_) (fun c39 => ?_)
                    · refine ez_iinc (L' := [(0, .ref m), (1, .long (lZ ((10 * ((10 * ((10 * ((10 * (hv F n s3.1 s3.2 - 48)) + (hv F n (s6.1) s6.2 - 48))) + (hv F n (s6.1 + 1) s6.2 - 48))) + (hv F n (s6.1 + 2) s6.2 - 48))) + (hv F n (s6.1 + 3) s6.2 - 48)))), (3, .int (iZ 6)), (4, .int (iZ (hv F n (s6.1 + 4) s6.2)))]) d_Mo_takeFrames_56 rfl (by decide) rfl ?_
                      refine ev_goto (tgt := 16) d_Mo_takeFrames_59 rfl ?_
                      refine ev_iload_n d_Mo_takeFrames_16 rfl rfl ?_
                      refine ev_bipush (v := iZ 6) d_Mo_takeFrames_17 rfl ?_
                      refine ez_icmp_ge (tgt := 62) (by decide) (by decide) d_Mo_takeFrames_19 rfl (fun c19 => ?_) (fun c19 => absurd c19 (by omega))
                      refine ev_aload_n d_Mo_takeFrames_62 rfl rfl ?_
                      refine ev_bipush (v := iZ 125) d_Mo_takeFrames_63 rfl ?_
                      refine ev_callV M_Mo_takeByte (rm 1 30) _ (As := [.int (iZ 125)]) (c_Mo_takeByte G h79 σ80 m bu n (s6.1 + 4) F (hf n (s6.1 + 4) s6.2) 125 hm f0 f1 f16 f17 hbu hn (by omega) hF (by omega) (by decide)) d_Mo_takeFrames_65 mk_Mo_takeByte ml_Mo_126 mv_Mo_takeByte hm rfl rfl rfl (Nat.le_of_ble_eq_true rfl) ⟨by decide, by decide⟩ ⟨by decide, by decide⟩ (fun r h83 hq => ?_)
                      obtain ⟨rfl, ⟨σ84, gm, g16, g17, gs⟩, fmc⟩ := hq
                      rw [sq_hf (by decide) (by omega)] at g16 g17
                      have hd9 : ∀ i, i < 4 → 48 ≤ hv F n (s6.1 + i) s6.2 ∧ hv F n (s6.1 + i) s6.2 ≤ 57 := by
                        intro i hi
                        rcases (show i = 0 ∨ i = 1 ∨ i = 2 ∨ i = 3 from by omega) with rfl | rfl | rfl | rfl
                        · exact d_0
                        · exact d_1
                        · exact d_2
                        · exact d_3
                      have fe := fq_end (F := F) (n := n) (j := 4) (s0 := s0) (s2 := s6) hs0.2.1 (by rw [sq_app, e_s6, e_s3]) (by decide) hd9 (fun hj => by show ¬ (48 ≤ hv F n (s6.1 + 4) s6.2 ∧ hv F n (s6.1 + 4) s6.2 ≤ 57); omega)
                      rw [show sq F n [(125, 125)] (s6.1 + 4, s6.2) = fq F n s0 from fe.1] at g16 g17
                      have hbu := (fmc _ (ninc (cne hbu hm (by simp)) nin0)).trans hbu
                      have f0 := (gs 0 (by decide)).trans f0
                      have f1 := (gs 1 (by decide)).trans f1
                      have f2 := (gs 2 (by decide)).trans f2
                      have f3 := (gs 3 (by decide)).trans f3
                      have f16 := g16
                      have f17 := g17
                      have hm := gm
                      have fm := fm.call (by simp) fmc
                      have fs := fs.call (by simp) gs
                      refine ev_lload_n d_Mo_takeFrames_68 rfl rfl ?_
                      refine ev_aload_n d_Mo_takeFrames_69 rfl rfl ?_
                      refine ev_pV M_Mo_frame 0 0 (As := []) (c_Mo_frame G h83 σ84 m num den hm f2 f3 hnum hden) d_Mo_takeFrames_70 mk_Mo_frame ml_Mo_134 mv_Mo_frame hm rfl rfl rfl (Nat.le_of_ble_eq_true rfl) ⟨by decide, by decide⟩ ⟨by decide, by decide⟩ ?_
                      rw [← htk]
                      refine ez_lmul d_Mo_takeFrames_73 ?_
                      have hvv : (fq F n s0).2 < 0 → (((10 * ((10 * ((10 * ((10 * (hv F n s3.1 s3.2 - 48)) + (hv F n (s6.1) s6.2 - 48))) + (hv F n (s6.1 + 1) s6.2 - 48))) + (hv F n (s6.1 + 2) s6.2 - 48))) + (hv F n (s6.1 + 3) s6.2 - 48)) * tk : Int) = frV F n s0.1 * tk := by
                        intro q9
                        rw [fe.2 q9]
                        have o3 := sq_ok (F := F) (n := n) (A := [(125, 125)]) (s := (s6.1 + 4, s6.2)) (by rw [show sq F n [(125, 125)] (s6.1 + 4, s6.2) = fq F n s0 from fe.1]; exact q9)
                        have q8 : s6.2 < 0 := o3.1
                        have o_s6 := sq_ok (F := F) (n := n) (A := [(48, 57)]) (s := s3) (by rw [← e_s6]; exact q8)
                        have q_s3 := o_s6.1
                        have l_s6 : s6.1 = s3.1 + 1 := by rw [e_s6]; exact o_s6.2.2.1
                        have w_s3 : hv F n s3.1 s3.2 = lk F n s3.1 := if_pos q_s3
                        have o_s3 := sq_ok (F := F) (n := n) (A := [(123, 123)]) (s := s0) (by rw [← e_s3]; exact q_s3)
                        have q_s0 := o_s3.1
                        have l_s3 : s3.1 = s0.1 + 1 := by rw [e_s3]; exact o_s3.2.2.1
                        have w_s0 : hv F n s0.1 s0.2 = lk F n s0.1 := if_pos q_s0
                        have p_s3 : s3.1 = s0.1 + 1 := by omega
                        have p_s6 : s6.1 = s0.1 + 2 := by omega
                        have x_0 : hv F n (s6.1) s6.2 = lk F n (s0.1 + 2 + 0) := by rw [show hv F n (s6.1) s6.2 = lk F n (s6.1) from if_pos q8, show s6.1 = s0.1 + 2 + 0 from by omega]
                        have x_1 : hv F n (s6.1 + 1) s6.2 = lk F n (s0.1 + 2 + 1) := by rw [show hv F n (s6.1 + 1) s6.2 = lk F n (s6.1 + 1) from if_pos q8, show s6.1 + 1 = s0.1 + 2 + 1 from by omega]
                        have x_2 : hv F n (s6.1 + 2) s6.2 = lk F n (s0.1 + 2 + 2) := by rw [show hv F n (s6.1 + 2) s6.2 = lk F n (s6.1 + 2) from if_pos q8, show s6.1 + 2 = s0.1 + 2 + 2 from by omega]
                        have x_3 : hv F n (s6.1 + 3) s6.2 = lk F n (s0.1 + 2 + 3) := by rw [show hv F n (s6.1 + 3) s6.2 = lk F n (s6.1 + 3) from if_pos q8, show s6.1 + 3 = s0.1 + 2 + 3 from by omega]
                        have y_1 : hv F n s3.1 s3.2 = lk F n (s0.1 + 1) := by rw [w_s3, p_s3]
                        simp only [dgv]
                        rw [y_1, x_0, x_1, x_2, x_3]
                        try rfl
                      exact ev_lreturn d_Mo_takeFrames_74 rfl (by decide) (by decide) (⟨⟨_, rfl, hvv⟩, ⟨σ84, hm, f16, f17, fs⟩, fm⟩)
                    · refine ev_ldc2 (v := lZ 10) d_Mo_takeFrames_42 kc_Mo_130 ?_
                      refine ev_lload_n d_Mo_takeFrames_45 rfl rfl ?_
                      refine ez_lmul d_Mo_takeFrames_46 ?_
                      refine ev_aload_n d_Mo_takeFrames_47 rfl rfl ?_
                      refine ev_bipush (v := iZ 9) d_Mo_takeFrames_48 rfl ?_
                      have d_4 : 48 ≤ hv F n (s6.1 + 4) s6.2 ∧ hv F n (s6.1 + 4) s6.2 ≤ 57 := ⟨by omega, by omega⟩
                      have dp_4 := hv_p (F := F) (n := n) (p := s6.1 + 4) (ft := s6.2) (by omega)
                      rw [hf_p dp_4.2.1] at f17
                      refine ev_callV M_Mo_takeDigit (rm 1 30) _ (As := [.int (iZ 9)]) (c_Mo_takeDigit G h79 σ80 m bu n (s6.1 + 4) F s6.2 9 57 hm f0 f1 f16 f17 hbu hn (by omega) hF (by omega) (by decide) (by decide)) d_Mo_takeFrames_50 mk_Mo_takeDigit ml_Mo_121 mv_Mo_takeDigit hm rfl rfl rfl (Nat.le_of_ble_eq_true rfl) ⟨by decide, by decide⟩ ⟨by decide, by decide⟩ (fun r h85 hq => ?_)
                      obtain ⟨rfl, ⟨σ86, gm, g16, g17, gs⟩, fmc⟩ := hq
                      rw [sq_dig (by decide) (by omega) d_4] at g16 g17
                      have hbu := (fmc _ (ninc (cne hbu hm (by simp)) nin0)).trans hbu
                      have f0 := (gs 0 (by decide)).trans f0
                      have f1 := (gs 1 (by decide)).trans f1
                      have f2 := (gs 2 (by decide)).trans f2
                      have f3 := (gs 3 (by decide)).trans f3
                      have f16 := g16
                      have f17 := g17
                      have hm := gm
                      have fm := fm.call (by simp) fmc
                      have fs := fs.call (by simp) gs
                      replace f16 : σ86 16 = .int (iZ ((s6.1 + 5 : Nat) : Int)) := f16
                      replace f17 : σ86 17 = .int (iZ s6.2) := f17
                      refine ez_i2l (by omega) d_Mo_takeFrames_53 ?_
                      refine ez_ladd d_Mo_takeFrames_54 ?_
                      refine ev_lstore_n (L' := [(0, .ref m), (1, .long (lZ ((10 * ((10 * ((10 * ((10 * ((10 * (hv F n s3.1 s3.2 - 48)) + (hv F n (s6.1) s6.2 - 48))) + (hv F n (s6.1 + 1) s6.2 - 48))) + (hv F n (s6.1 + 2) s6.2 - 48))) + (hv F n (s6.1 + 3) s6.2 - 48))) + (hv F n (s6.1 + 4) s6.2 - 48)))), (3, .int (iZ 5)), (4, .int (iZ (hv F n (s6.1 + 4) s6.2)))]) d_Mo_takeFrames_55 rfl (by decide) rfl ?_
                      refine ez_iinc (L' := [(0, .ref m), (1, .long (lZ ((10 * ((10 * ((10 * ((10 * ((10 * (hv F n s3.1 s3.2 - 48)) + (hv F n (s6.1) s6.2 - 48))) + (hv F n (s6.1 + 1) s6.2 - 48))) + (hv F n (s6.1 + 2) s6.2 - 48))) + (hv F n (s6.1 + 3) s6.2 - 48))) + (hv F n (s6.1 + 4) s6.2 - 48)))), (3, .int (iZ 6)), (4, .int (iZ (hv F n (s6.1 + 4) s6.2)))]) d_Mo_takeFrames_56 rfl (by decide) rfl ?_
                      refine ev_goto (tgt := 16) d_Mo_takeFrames_59 rfl ?_
                      refine ev_iload_n d_Mo_takeFrames_16 rfl rfl ?_
                      refine ev_bipush (v := iZ 6) d_Mo_takeFrames_17 rfl ?_
                      refine ez_icmp_ge (tgt := 62) (by decide) (by decide) d_Mo_takeFrames_19 rfl (fun c19 => ?_) (fun c19 => absurd c19 (by omega))
                      refine ev_aload_n d_Mo_takeFrames_62 rfl rfl ?_
                      refine ev_bipush (v := iZ 125) d_Mo_takeFrames_63 rfl ?_
                      refine ev_callV M_Mo_takeByte (rm 1 30) _ (As := [.int (iZ 125)]) (c_Mo_takeByte G h85 σ86 m bu n (s6.1 + 5) F (s6.2) 125 hm f0 f1 f16 f17 hbu hn (by omega) hF (by omega) (by decide)) d_Mo_takeFrames_65 mk_Mo_takeByte ml_Mo_126 mv_Mo_takeByte hm rfl rfl rfl (Nat.le_of_ble_eq_true rfl) ⟨by decide, by decide⟩ ⟨by decide, by decide⟩ (fun r h87 hq => ?_)
                      obtain ⟨rfl, ⟨σ88, gm, g16, g17, gs⟩, fmc⟩ := hq
                      have hd9 : ∀ i, i < 5 → 48 ≤ hv F n (s6.1 + i) s6.2 ∧ hv F n (s6.1 + i) s6.2 ≤ 57 := by
                        intro i hi
                        rcases (show i = 0 ∨ i = 1 ∨ i = 2 ∨ i = 3 ∨ i = 4 from by omega) with rfl | rfl | rfl | rfl | rfl
                        · exact d_0
                        · exact d_1
                        · exact d_2
                        · exact d_3
                        · exact d_4
                      have fe := fq_end (F := F) (n := n) (j := 5) (s0 := s0) (s2 := s6) hs0.2.1 (by rw [sq_app, e_s6, e_s3]) (by decide) hd9 (fun hj => by omega)
                      rw [show sq F n [(125, 125)] (s6.1 + 5, s6.2) = fq F n s0 from fe.1] at g16 g17
                      have hbu := (fmc _ (ninc (cne hbu hm (by simp)) nin0)).trans hbu
                      have f0 := (gs 0 (by decide)).trans f0
                      have f1 := (gs 1 (by decide)).trans f1
                      have f2 := (gs 2 (by decide)).trans f2
                      have f3 := (gs 3 (by decide)).trans f3
                      have f16 := g16
                      have f17 := g17
                      have hm := gm
                      have fm := fm.call (by simp) fmc
                      have fs := fs.call (by simp) gs
                      refine ev_lload_n d_Mo_takeFrames_68 rfl rfl ?_
                      refine ev_aload_n d_Mo_takeFrames_69 rfl rfl ?_
                      refine ev_pV M_Mo_frame 0 0 (As := []) (c_Mo_frame G h87 σ88 m num den hm f2 f3 hnum hden) d_Mo_takeFrames_70 mk_Mo_frame ml_Mo_134 mv_Mo_frame hm rfl rfl rfl (Nat.le_of_ble_eq_true rfl) ⟨by decide, by decide⟩ ⟨by decide, by decide⟩ ?_
                      rw [← htk]
                      refine ez_lmul d_Mo_takeFrames_73 ?_
                      have hvv : (fq F n s0).2 < 0 → (((10 * ((10 * ((10 * ((10 * ((10 * (hv F n s3.1 s3.2 - 48)) + (hv F n (s6.1) s6.2 - 48))) + (hv F n (s6.1 + 1) s6.2 - 48))) + (hv F n (s6.1 + 2) s6.2 - 48))) + (hv F n (s6.1 + 3) s6.2 - 48))) + (hv F n (s6.1 + 4) s6.2 - 48)) * tk : Int) = frV F n s0.1 * tk := by
                        intro q9
                        rw [fe.2 q9]
                        have o3 := sq_ok (F := F) (n := n) (A := [(125, 125)]) (s := (s6.1 + 5, s6.2)) (by rw [show sq F n [(125, 125)] (s6.1 + 5, s6.2) = fq F n s0 from fe.1]; exact q9)
                        have q8 : s6.2 < 0 := o3.1
                        have o_s6 := sq_ok (F := F) (n := n) (A := [(48, 57)]) (s := s3) (by rw [← e_s6]; exact q8)
                        have q_s3 := o_s6.1
                        have l_s6 : s6.1 = s3.1 + 1 := by rw [e_s6]; exact o_s6.2.2.1
                        have w_s3 : hv F n s3.1 s3.2 = lk F n s3.1 := if_pos q_s3
                        have o_s3 := sq_ok (F := F) (n := n) (A := [(123, 123)]) (s := s0) (by rw [← e_s3]; exact q_s3)
                        have q_s0 := o_s3.1
                        have l_s3 : s3.1 = s0.1 + 1 := by rw [e_s3]; exact o_s3.2.2.1
                        have w_s0 : hv F n s0.1 s0.2 = lk F n s0.1 := if_pos q_s0
                        have p_s3 : s3.1 = s0.1 + 1 := by omega
                        have p_s6 : s6.1 = s0.1 + 2 := by omega
                        have x_0 : hv F n (s6.1) s6.2 = lk F n (s0.1 + 2 + 0) := by rw [show hv F n (s6.1) s6.2 = lk F n (s6.1) from if_pos q8, show s6.1 = s0.1 + 2 + 0 from by omega]
                        have x_1 : hv F n (s6.1 + 1) s6.2 = lk F n (s0.1 + 2 + 1) := by rw [show hv F n (s6.1 + 1) s6.2 = lk F n (s6.1 + 1) from if_pos q8, show s6.1 + 1 = s0.1 + 2 + 1 from by omega]
                        have x_2 : hv F n (s6.1 + 2) s6.2 = lk F n (s0.1 + 2 + 2) := by rw [show hv F n (s6.1 + 2) s6.2 = lk F n (s6.1 + 2) from if_pos q8, show s6.1 + 2 = s0.1 + 2 + 2 from by omega]
                        have x_3 : hv F n (s6.1 + 3) s6.2 = lk F n (s0.1 + 2 + 3) := by rw [show hv F n (s6.1 + 3) s6.2 = lk F n (s6.1 + 3) from if_pos q8, show s6.1 + 3 = s0.1 + 2 + 3 from by omega]
                        have x_4 : hv F n (s6.1 + 4) s6.2 = lk F n (s0.1 + 2 + 4) := by rw [show hv F n (s6.1 + 4) s6.2 = lk F n (s6.1 + 4) from if_pos q8, show s6.1 + 4 = s0.1 + 2 + 4 from by omega]
                        have y_1 : hv F n s3.1 s3.2 = lk F n (s0.1 + 1) := by rw [w_s3, p_s3]
                        simp only [dgv]
                        rw [y_1, x_0, x_1, x_2, x_3, x_4]
                        try rfl
                      exact ev_lreturn d_Mo_takeFrames_74 rfl (by decide) (by decide) (⟨⟨_, rfl, hvv⟩, ⟨σ88, hm, f16, f17, fs⟩, fm⟩)
