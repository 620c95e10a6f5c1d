theorem d_Re_takeSign_0 : decode M_Re_takeSign.2.1 0 = .ok (.aload_n 0, 1) := by decide +kernel
theorem d_Re_takeSign_1 : decode M_Re_takeSign.2.1 1 = .ok (.getfield 22, 3) := by decide +kernel
theorem d_Re_takeSign_4 : decode M_Re_takeSign.2.1 4 = .ok (.aload_n 0, 1) := by decide +kernel
theorem d_Re_takeSign_5 : decode M_Re_takeSign.2.1 5 = .ok (.getfield 34, 3) := by decide +kernel
theorem d_Re_takeSign_8 : decode M_Re_takeSign.2.1 8 = .ok (.invokevirtual 100, 3) := by decide +kernel
theorem d_Re_takeSign_11 : decode M_Re_takeSign.2.1 11 = .ok (.iload_n 1, 1) := by decide +kernel
theorem d_Re_takeSign_12 : decode M_Re_takeSign.2.1 12 = .ok (.if_icmp .eq 5, 3) := by decide +kernel
theorem d_Re_takeSign_15 : decode M_Re_takeSign.2.1 15 = .ok (.iconst 0, 1) := by decide +kernel
theorem d_Re_takeSign_16 : decode M_Re_takeSign.2.1 16 = .ok (.ireturn, 1) := by decide +kernel
theorem d_Re_takeSign_17 : decode M_Re_takeSign.2.1 17 = .ok (.aload_n 0, 1) := by decide +kernel
theorem d_Re_takeSign_18 : decode M_Re_takeSign.2.1 18 = .ok (.dup, 1) := by decide +kernel
theorem d_Re_takeSign_19 : decode M_Re_takeSign.2.1 19 = .ok (.getfield 34, 3) := by decide +kernel
theorem d_Re_takeSign_22 : decode M_Re_takeSign.2.1 22 = .ok (.iconst 1, 1) := by decide +kernel
theorem d_Re_takeSign_23 : decode M_Re_takeSign.2.1 23 = .ok (.iadd, 1) := by decide +kernel
theorem d_Re_takeSign_24 : decode M_Re_takeSign.2.1 24 = .ok (.putfield 34, 3) := by decide +kernel
theorem d_Re_takeSign_27 : decode M_Re_takeSign.2.1 27 = .ok (.iconst 1, 1) := by decide +kernel
theorem d_Re_takeSign_28 : decode M_Re_takeSign.2.1 28 = .ok (.ireturn, 1) := by decide +kernel
theorem d_Re_takeDigit_0 : decode M_Re_takeDigit.2.1 0 = .ok (.aload_n 0, 1) := by decide +kernel
theorem d_Re_takeDigit_1 : decode M_Re_takeDigit.2.1 1 = .ok (.getfield 22, 3) := by decide +kernel
theorem d_Re_takeDigit_4 : decode M_Re_takeDigit.2.1 4 = .ok (.aload_n 0, 1) := by decide +kernel
theorem d_Re_takeDigit_5 : decode M_Re_takeDigit.2.1 5 = .ok (.getfield 34, 3) := by decide +kernel
theorem d_Re_takeDigit_8 : decode M_Re_takeDigit.2.1 8 = .ok (.invokevirtual 100, 3) := by decide +kernel
theorem d_Re_takeDigit_11 : decode M_Re_takeDigit.2.1 11 = .ok (.istore_n 2, 1) := by decide +kernel
theorem d_Re_takeDigit_12 : decode M_Re_takeDigit.2.1 12 = .ok (.iload_n 2, 1) := by decide +kernel
theorem d_Re_takeDigit_13 : decode M_Re_takeDigit.2.1 13 = .ok (.bipush 48, 2) := by decide +kernel
theorem d_Re_takeDigit_15 : decode M_Re_takeDigit.2.1 15 = .ok (.if_icmp .lt 8, 3) := by decide +kernel
theorem d_Re_takeDigit_18 : decode M_Re_takeDigit.2.1 18 = .ok (.iload_n 2, 1) := by decide +kernel
theorem d_Re_takeDigit_19 : decode M_Re_takeDigit.2.1 19 = .ok (.iload_n 1, 1) := by decide +kernel
theorem d_Re_takeDigit_20 : decode M_Re_takeDigit.2.1 20 = .ok (.if_icmp .le 5, 3) := by decide +kernel
theorem d_Re_takeDigit_23 : decode M_Re_takeDigit.2.1 23 = .ok (.iconst 0, 1) := by decide +kernel
theorem d_Re_takeDigit_24 : decode M_Re_takeDigit.2.1 24 = .ok (.ireturn, 1) := by decide +kernel
theorem d_Re_takeDigit_25 : decode M_Re_takeDigit.2.1 25 = .ok (.aload_n 0, 1) := by decide +kernel
theorem d_Re_takeDigit_26 : decode M_Re_takeDigit.2.1 26 = .ok (.aload_n 0, 1) := by decide +kernel
theorem d_Re_takeDigit_27 : decode M_Re_takeDigit.2.1 27 = .ok (.getfield 84, 3) := by decide +kernel
theorem d_Re_takeDigit_30 : decode M_Re_takeDigit.2.1 30 = .ok (.ldc2_w 126, 3) := by decide +kernel
theorem d_Re_takeDigit_33 : decode M_Re_takeDigit.2.1 33 = .ok (.lmul, 1) := by decide +kernel
theorem d_Re_takeDigit_34 : decode M_Re_takeDigit.2.1 34 = .ok (.iload_n 2, 1) := by decide +kernel
theorem d_Re_takeDigit_35 : decode M_Re_takeDigit.2.1 35 = .ok (.bipush 48, 2) := by decide +kernel
theorem d_Re_takeDigit_37 : decode M_Re_takeDigit.2.1 37 = .ok (.isub, 1) := by decide +kernel
theorem d_Re_takeDigit_38 : decode M_Re_takeDigit.2.1 38 = .ok (.i2l, 1) := by decide +kernel
theorem d_Re_takeDigit_39 : decode M_Re_takeDigit.2.1 39 = .ok (.ladd, 1) := by decide +kernel
theorem d_Re_takeDigit_40 : decode M_Re_takeDigit.2.1 40 = .ok (.putfield 84, 3) := by decide +kernel
theorem d_Re_takeDigit_43 : decode M_Re_takeDigit.2.1 43 = .ok (.aload_n 0, 1) := by decide +kernel
theorem d_Re_takeDigit_44 : decode M_Re_takeDigit.2.1 44 = .ok (.dup, 1) := by decide +kernel
theorem d_Re_takeDigit_45 : decode M_Re_takeDigit.2.1 45 = .ok (.getfield 34, 3) := by decide +kernel
theorem d_Re_takeDigit_48 : decode M_Re_takeDigit.2.1 48 = .ok (.iconst 1, 1) := by decide +kernel
theorem d_Re_takeDigit_49 : decode M_Re_takeDigit.2.1 49 = .ok (.iadd, 1) := by decide +kernel
theorem d_Re_takeDigit_50 : decode M_Re_takeDigit.2.1 50 = .ok (.putfield 34, 3) := by decide +kernel
theorem d_Re_takeDigit_53 : decode M_Re_takeDigit.2.1 53 = .ok (.iconst 1, 1) := by decide +kernel
theorem d_Re_takeDigit_54 : decode M_Re_takeDigit.2.1 54 = .ok (.ireturn, 1) := by decide +kernel
theorem d_Re_takeSixty_0 : decode M_Re_takeSixty.2.1 0 = .ok (.aload_n 0, 1) := by decide +kernel
theorem d_Re_takeSixty_1 : decode M_Re_takeSixty.2.1 1 = .ok (.getfield 84, 3) := by decide +kernel
theorem d_Re_takeSixty_4 : decode M_Re_takeSixty.2.1 4 = .ok (.lstore_n 1, 1) := by decide +kernel
theorem d_Re_takeSixty_5 : decode M_Re_takeSixty.2.1 5 = .ok (.aload_n 0, 1) := by decide +kernel
theorem d_Re_takeSixty_6 : decode M_Re_takeSixty.2.1 6 = .ok (.lconst 0, 1) := by decide +kernel
theorem d_Re_takeSixty_7 : decode M_Re_takeSixty.2.1 7 = .ok (.putfield 84, 3) := by decide +kernel
theorem d_Re_takeSixty_10 : decode M_Re_takeSixty.2.1 10 = .ok (.aload_n 0, 1) := by decide +kernel
theorem d_Re_takeSixty_11 : decode M_Re_takeSixty.2.1 11 = .ok (.bipush 53, 2) := by decide +kernel
theorem d_Re_takeSixty_13 : decode M_Re_takeSixty.2.1 13 = .ok (.invokevirtual 93, 3) := by decide +kernel
theorem d_Re_takeSixty_16 : decode M_Re_takeSixty.2.1 16 = .ok (.ifCond .eq 12, 3) := by decide +kernel
theorem d_Re_takeSixty_19 : decode M_Re_takeSixty.2.1 19 = .ok (.aload_n 0, 1) := by decide +kernel
theorem d_Re_takeSixty_20 : decode M_Re_takeSixty.2.1 20 = .ok (.bipush 57, 2) := by decide +kernel
theorem d_Re_takeSixty_22 : decode M_Re_takeSixty.2.1 22 = .ok (.invokevirtual 93, 3) := by decide +kernel
theorem d_Re_takeSixty_25 : decode M_Re_takeSixty.2.1 25 = .ok (.ifCond .ne 5, 3) := by decide +kernel
theorem d_Re_takeSixty_28 : decode M_Re_takeSixty.2.1 28 = .ok (.iconst 0, 1) := by decide +kernel
theorem d_Re_takeSixty_29 : decode M_Re_takeSixty.2.1 29 = .ok (.ireturn, 1) := by decide +kernel
theorem d_Re_takeSixty_30 : decode M_Re_takeSixty.2.1 30 = .ok (.aload_n 0, 1) := by decide +kernel
theorem d_Re_takeSixty_31 : decode M_Re_takeSixty.2.1 31 = .ok (.dup, 1) := by decide +kernel
theorem d_Re_takeSixty_32 : decode M_Re_takeSixty.2.1 32 = .ok (.getfield 84, 3) := by decide +kernel
theorem d_Re_takeSixty_35 : decode M_Re_takeSixty.2.1 35 = .ok (.lload_n 1, 1) := by decide +kernel
theorem d_Re_takeSixty_36 : decode M_Re_takeSixty.2.1 36 = .ok (.ldc2_w 98, 3) := by decide +kernel
theorem d_Re_takeSixty_39 : decode M_Re_takeSixty.2.1 39 = .ok (.lmul, 1) := by decide +kernel
theorem d_Re_takeSixty_40 : decode M_Re_takeSixty.2.1 40 = .ok (.ladd, 1) := by decide +kernel
theorem d_Re_takeSixty_41 : decode M_Re_takeSixty.2.1 41 = .ok (.putfield 84, 3) := by decide +kernel
theorem d_Re_takeSixty_44 : decode M_Re_takeSixty.2.1 44 = .ok (.iconst 1, 1) := by decide +kernel
theorem d_Re_takeSixty_45 : decode M_Re_takeSixty.2.1 45 = .ok (.ireturn, 1) := by decide +kernel
theorem d_Re_takeBlockTime_0 : decode M_Re_takeBlockTime.2.1 0 = .ok (.aload_n 0, 1) := by decide +kernel
theorem d_Re_takeBlockTime_1 : decode M_Re_takeBlockTime.2.1 1 = .ok (.lconst 0, 1) := by decide +kernel
theorem d_Re_takeBlockTime_2 : decode M_Re_takeBlockTime.2.1 2 = .ok (.putfield 84, 3) := by decide +kernel
theorem d_Re_takeBlockTime_5 : decode M_Re_takeBlockTime.2.1 5 = .ok (.aload_n 0, 1) := by decide +kernel
theorem d_Re_takeBlockTime_6 : decode M_Re_takeBlockTime.2.1 6 = .ok (.invokevirtual 90, 3) := by decide +kernel
theorem d_Re_takeBlockTime_9 : decode M_Re_takeBlockTime.2.1 9 = .ok (.ifCond .eq 28, 3) := by decide +kernel
theorem d_Re_takeBlockTime_12 : decode M_Re_takeBlockTime.2.1 12 = .ok (.aload_n 0, 1) := by decide +kernel
theorem d_Re_takeBlockTime_13 : decode M_Re_takeBlockTime.2.1 13 = .ok (.bipush 58, 2) := by decide +kernel
theorem d_Re_takeBlockTime_15 : decode M_Re_takeBlockTime.2.1 15 = .ok (.invokevirtual 87, 3) := by decide +kernel
theorem d_Re_takeBlockTime_18 : decode M_Re_takeBlockTime.2.1 18 = .ok (.ifCond .eq 19, 3) := by decide +kernel
theorem d_Re_takeBlockTime_21 : decode M_Re_takeBlockTime.2.1 21 = .ok (.aload_n 0, 1) := by decide +kernel
theorem d_Re_takeBlockTime_22 : decode M_Re_takeBlockTime.2.1 22 = .ok (.invokevirtual 90, 3) := by decide +kernel
theorem d_Re_takeBlockTime_25 : decode M_Re_takeBlockTime.2.1 25 = .ok (.ifCond .eq 12, 3) := by decide +kernel
theorem d_Re_takeBlockTime_28 : decode M_Re_takeBlockTime.2.1 28 = .ok (.aload_n 0, 1) := by decide +kernel
theorem d_Re_takeBlockTime_29 : decode M_Re_takeBlockTime.2.1 29 = .ok (.bipush 58, 2) := by decide +kernel
theorem d_Re_takeBlockTime_31 : decode M_Re_takeBlockTime.2.1 31 = .ok (.invokevirtual 87, 3) := by decide +kernel
theorem d_Re_takeBlockTime_34 : decode M_Re_takeBlockTime.2.1 34 = .ok (.ifCond .ne 5, 3) := by decide +kernel
theorem d_Re_takeBlockTime_37 : decode M_Re_takeBlockTime.2.1 37 = .ok (.iconst 0, 1) := by decide +kernel
theorem d_Re_takeBlockTime_38 : decode M_Re_takeBlockTime.2.1 38 = .ok (.ireturn, 1) := by decide +kernel
theorem d_Re_takeBlockTime_39 : decode M_Re_takeBlockTime.2.1 39 = .ok (.aload_n 0, 1) := by decide +kernel
theorem d_Re_takeBlockTime_40 : decode M_Re_takeBlockTime.2.1 40 = .ok (.invokevirtual 90, 3) := by decide +kernel
theorem d_Re_takeBlockTime_43 : decode M_Re_takeBlockTime.2.1 43 = .ok (.ifCond .eq 12, 3) := by decide +kernel
theorem d_Re_takeBlockTime_46 : decode M_Re_takeBlockTime.2.1 46 = .ok (.aload_n 0, 1) := by decide +kernel
theorem d_Re_takeBlockTime_47 : decode M_Re_takeBlockTime.2.1 47 = .ok (.bipush 44, 2) := by decide +kernel
theorem d_Re_takeBlockTime_49 : decode M_Re_takeBlockTime.2.1 49 = .ok (.invokevirtual 87, 3) := by decide +kernel
theorem d_Re_takeBlockTime_52 : decode M_Re_takeBlockTime.2.1 52 = .ok (.ifCond .ne 5, 3) := by decide +kernel
theorem d_Re_takeBlockTime_55 : decode M_Re_takeBlockTime.2.1 55 = .ok (.iconst 0, 1) := by decide +kernel
theorem d_Re_takeBlockTime_56 : decode M_Re_takeBlockTime.2.1 56 = .ok (.ireturn, 1) := by decide +kernel
theorem d_Re_takeBlockTime_57 : decode M_Re_takeBlockTime.2.1 57 = .ok (.aload_n 0, 1) := by decide +kernel
theorem d_Re_takeBlockTime_58 : decode M_Re_takeBlockTime.2.1 58 = .ok (.bipush 57, 2) := by decide +kernel
theorem d_Re_takeBlockTime_60 : decode M_Re_takeBlockTime.2.1 60 = .ok (.invokevirtual 93, 3) := by decide +kernel
theorem d_Re_takeBlockTime_63 : decode M_Re_takeBlockTime.2.1 63 = .ok (.ifCond .eq 21, 3) := by decide +kernel
theorem d_Re_takeBlockTime_66 : decode M_Re_takeBlockTime.2.1 66 = .ok (.aload_n 0, 1) := by decide +kernel
theorem d_Re_takeBlockTime_67 : decode M_Re_takeBlockTime.2.1 67 = .ok (.bipush 57, 2) := by decide +kernel
theorem d_Re_takeBlockTime_69 : decode M_Re_takeBlockTime.2.1 69 = .ok (.invokevirtual 93, 3) := by decide +kernel
theorem d_Re_takeBlockTime_72 : decode M_Re_takeBlockTime.2.1 72 = .ok (.ifCond .eq 12, 3) := by decide +kernel
theorem d_Re_takeBlockTime_75 : decode M_Re_takeBlockTime.2.1 75 = .ok (.aload_n 0, 1) := by decide +kernel
theorem d_Re_takeBlockTime_76 : decode M_Re_takeBlockTime.2.1 76 = .ok (.bipush 57, 2) := by decide +kernel
theorem d_Re_takeBlockTime_78 : decode M_Re_takeBlockTime.2.1 78 = .ok (.invokevirtual 93, 3) := by decide +kernel
theorem d_Re_takeBlockTime_81 : decode M_Re_takeBlockTime.2.1 81 = .ok (.ifCond .ne 5, 3) := by decide +kernel
theorem d_Re_takeBlockTime_84 : decode M_Re_takeBlockTime.2.1 84 = .ok (.iconst 0, 1) := by decide +kernel
theorem d_Re_takeBlockTime_85 : decode M_Re_takeBlockTime.2.1 85 = .ok (.ireturn, 1) := by decide +kernel
theorem d_Re_takeBlockTime_86 : decode M_Re_takeBlockTime.2.1 86 = .ok (.aload_n 0, 1) := by decide +kernel
theorem d_Re_takeBlockTime_87 : decode M_Re_takeBlockTime.2.1 87 = .ok (.dup, 1) := by decide +kernel
theorem d_Re_takeBlockTime_88 : decode M_Re_takeBlockTime.2.1 88 = .ok (.getfield 84, 3) := by decide +kernel
theorem d_Re_takeBlockTime_91 : decode M_Re_takeBlockTime.2.1 91 = .ok (.ldc2_w 96, 3) := by decide +kernel
theorem d_Re_takeBlockTime_94 : decode M_Re_takeBlockTime.2.1 94 = .ok (.lmul, 1) := by decide +kernel
theorem d_Re_takeBlockTime_95 : decode M_Re_takeBlockTime.2.1 95 = .ok (.putfield 84, 3) := by decide +kernel
theorem d_Re_takeBlockTime_98 : decode M_Re_takeBlockTime.2.1 98 = .ok (.iconst 1, 1) := by decide +kernel
theorem d_Re_takeBlockTime_99 : decode M_Re_takeBlockTime.2.1 99 = .ok (.ireturn, 1) := by decide +kernel
theorem d_Re_takeBlockTimes_0 : decode M_Re_takeBlockTimes.2.1 0 = .ok (.aload_n 0, 1) := by decide +kernel
theorem d_Re_takeBlockTimes_1 : decode M_Re_takeBlockTimes.2.1 1 = .ok (.invokevirtual 81, 3) := by decide +kernel
theorem d_Re_takeBlockTimes_4 : decode M_Re_takeBlockTimes.2.1 4 = .ok (.ifCond .ne 5, 3) := by decide +kernel
theorem d_Re_takeBlockTimes_7 : decode M_Re_takeBlockTimes.2.1 7 = .ok (.iconst 0, 1) := by decide +kernel
theorem d_Re_takeBlockTimes_8 : decode M_Re_takeBlockTimes.2.1 8 = .ok (.ireturn, 1) := by decide +kernel
theorem d_Re_takeBlockTimes_9 : decode M_Re_takeBlockTimes.2.1 9 = .ok (.aload_n 0, 1) := by decide +kernel
theorem d_Re_takeBlockTimes_10 : decode M_Re_takeBlockTimes.2.1 10 = .ok (.aload_n 0, 1) := by decide +kernel
theorem d_Re_takeBlockTimes_11 : decode M_Re_takeBlockTimes.2.1 11 = .ok (.getfield 84, 3) := by decide +kernel
theorem d_Re_takeBlockTimes_14 : decode M_Re_takeBlockTimes.2.1 14 = .ok (.putfield 51, 3) := by decide +kernel
theorem d_Re_takeBlockTimes_17 : decode M_Re_takeBlockTimes.2.1 17 = .ok (.aload_n 0, 1) := by decide +kernel
theorem d_Re_takeBlockTimes_18 : decode M_Re_takeBlockTimes.2.1 18 = .ok (.bipush 32, 2) := by decide +kernel
theorem d_Re_takeBlockTimes_20 : decode M_Re_takeBlockTimes.2.1 20 = .ok (.invokevirtual 87, 3) := by decide +kernel
theorem d_Re_takeBlockTimes_23 : decode M_Re_takeBlockTimes.2.1 23 = .ok (.ifCond .eq 21, 3) := by decide +kernel
theorem d_Re_takeBlockTimes_26 : decode M_Re_takeBlockTimes.2.1 26 = .ok (.aload_n 0, 1) := by decide +kernel
theorem d_Re_takeBlockTimes_27 : decode M_Re_takeBlockTimes.2.1 27 = .ok (.bipush 62, 2) := by decide +kernel
theorem d_Re_takeBlockTimes_29 : decode M_Re_takeBlockTimes.2.1 29 = .ok (.invokevirtual 87, 3) := by decide +kernel
theorem d_Re_takeBlockTimes_32 : decode M_Re_takeBlockTimes.2.1 32 = .ok (.ifCond .eq 12, 3) := by decide +kernel
theorem d_Re_takeBlockTimes_35 : decode M_Re_takeBlockTimes.2.1 35 = .ok (.aload_n 0, 1) := by decide +kernel
theorem d_Re_takeBlockTimes_36 : decode M_Re_takeBlockTimes.2.1 36 = .ok (.bipush 32, 2) := by decide +kernel
theorem d_Re_takeBlockTimes_38 : decode M_Re_takeBlockTimes.2.1 38 = .ok (.invokevirtual 87, 3) := by decide +kernel
theorem d_Re_takeBlockTimes_41 : decode M_Re_takeBlockTimes.2.1 41 = .ok (.ifCond .ne 5, 3) := by decide +kernel
theorem d_Re_takeBlockTimes_44 : decode M_Re_takeBlockTimes.2.1 44 = .ok (.iconst 0, 1) := by decide +kernel
theorem d_Re_takeBlockTimes_45 : decode M_Re_takeBlockTimes.2.1 45 = .ok (.ireturn, 1) := by decide +kernel
theorem d_Re_takeBlockTimes_46 : decode M_Re_takeBlockTimes.2.1 46 = .ok (.aload_n 0, 1) := by decide +kernel
theorem d_Re_takeBlockTimes_47 : decode M_Re_takeBlockTimes.2.1 47 = .ok (.invokevirtual 81, 3) := by decide +kernel
theorem d_Re_takeBlockTimes_50 : decode M_Re_takeBlockTimes.2.1 50 = .ok (.ifCond .ne 5, 3) := by decide +kernel
theorem d_Re_takeBlockTimes_53 : decode M_Re_takeBlockTimes.2.1 53 = .ok (.iconst 0, 1) := by decide +kernel
theorem d_Re_takeBlockTimes_54 : decode M_Re_takeBlockTimes.2.1 54 = .ok (.ireturn, 1) := by decide +kernel
theorem d_Re_takeBlockTimes_55 : decode M_Re_takeBlockTimes.2.1 55 = .ok (.aload_n 0, 1) := by decide +kernel
theorem d_Re_takeBlockTimes_56 : decode M_Re_takeBlockTimes.2.1 56 = .ok (.aload_n 0, 1) := by decide +kernel
theorem d_Re_takeBlockTimes_57 : decode M_Re_takeBlockTimes.2.1 57 = .ok (.getfield 84, 3) := by decide +kernel
theorem d_Re_takeBlockTimes_60 : decode M_Re_takeBlockTimes.2.1 60 = .ok (.putfield 55, 3) := by decide +kernel
theorem d_Re_takeBlockTimes_63 : decode M_Re_takeBlockTimes.2.1 63 = .ok (.aload_n 0, 1) := by decide +kernel
theorem d_Re_takeBlockTimes_64 : decode M_Re_takeBlockTimes.2.1 64 = .ok (.bipush 10, 2) := by decide +kernel
theorem d_Re_takeBlockTimes_66 : decode M_Re_takeBlockTimes.2.1 66 = .ok (.invokevirtual 87, 3) := by decide +kernel
theorem d_Re_takeBlockTimes_69 : decode M_Re_takeBlockTimes.2.1 69 = .ok (.ireturn, 1) := by decide +kernel
theorem d_Re_takeFrames_0 : decode M_Re_takeFrames.2.1 0 = .ok (.aload_n 0, 1) := by decide +kernel
theorem d_Re_takeFrames_1 : decode M_Re_takeFrames.2.1 1 = .ok (.lconst 0, 1) := by decide +kernel
theorem d_Re_takeFrames_2 : decode M_Re_takeFrames.2.1 2 = .ok (.putfield 84, 3) := by decide +kernel
theorem d_Re_takeFrames_5 : decode M_Re_takeFrames.2.1 5 = .ok (.aload_n 0, 1) := by decide +kernel
theorem d_Re_takeFrames_6 : decode M_Re_takeFrames.2.1 6 = .ok (.bipush 123, 2) := by decide +kernel
theorem d_Re_takeFrames_8 : decode M_Re_takeFrames.2.1 8 = .ok (.invokevirtual 87, 3) := by decide +kernel
theorem d_Re_takeFrames_11 : decode M_Re_takeFrames.2.1 11 = .ok (.ifCond .eq 12, 3) := by decide +kernel
theorem d_Re_takeFrames_14 : decode M_Re_takeFrames.2.1 14 = .ok (.aload_n 0, 1) := by decide +kernel
theorem d_Re_takeFrames_15 : decode M_Re_takeFrames.2.1 15 = .ok (.bipush 57, 2) := by decide +kernel
theorem d_Re_takeFrames_17 : decode M_Re_takeFrames.2.1 17 = .ok (.invokevirtual 93, 3) := by decide +kernel
theorem d_Re_takeFrames_20 : decode M_Re_takeFrames.2.1 20 = .ok (.ifCond .ne 5, 3) := by decide +kernel
theorem d_Re_takeFrames_23 : decode M_Re_takeFrames.2.1 23 = .ok (.iconst 0, 1) := by decide +kernel
theorem d_Re_takeFrames_24 : decode M_Re_takeFrames.2.1 24 = .ok (.ireturn, 1) := by decide +kernel
theorem d_Re_takeFrames_25 : decode M_Re_takeFrames.2.1 25 = .ok (.iconst 1, 1) := by decide +kernel
theorem d_Re_takeFrames_26 : decode M_Re_takeFrames.2.1 26 = .ok (.istore_n 1, 1) := by decide +kernel
theorem d_Re_takeFrames_27 : decode M_Re_takeFrames.2.1 27 = .ok (.iload_n 1, 1) := by decide +kernel
theorem d_Re_takeFrames_28 : decode M_Re_takeFrames.2.1 28 = .ok (.bipush 6, 2) := by decide +kernel
theorem d_Re_takeFrames_30 : decode M_Re_takeFrames.2.1 30 = .ok (.if_icmp .ge 21, 3) := by decide +kernel
theorem d_Re_takeFrames_33 : decode M_Re_takeFrames.2.1 33 = .ok (.aload_n 0, 1) := by decide +kernel
theorem d_Re_takeFrames_34 : decode M_Re_takeFrames.2.1 34 = .ok (.bipush 57, 2) := by decide +kernel
theorem d_Re_takeFrames_36 : decode M_Re_takeFrames.2.1 36 = .ok (.invokevirtual 93, 3) := by decide +kernel
theorem d_Re_takeFrames_39 : decode M_Re_takeFrames.2.1 39 = .ok (.ifCond .ne 6, 3) := by decide +kernel
theorem d_Re_takeFrames_42 : decode M_Re_takeFrames.2.1 42 = .ok (.goto 9, 3) := by decide +kernel
theorem d_Re_takeFrames_45 : decode M_Re_takeFrames.2.1 45 = .ok (.iinc 1 1, 3) := by decide +kernel
theorem d_Re_takeFrames_48 : decode M_Re_takeFrames.2.1 48 = .ok (.goto (-21), 3) := by decide +kernel
theorem d_Re_takeFrames_51 : decode M_Re_takeFrames.2.1 51 = .ok (.aload_n 0, 1) := by decide +kernel
theorem d_Re_takeFrames_52 : decode M_Re_takeFrames.2.1 52 = .ok (.dup, 1) := by decide +kernel
theorem d_Re_takeFrames_53 : decode M_Re_takeFrames.2.1 53 = .ok (.getfield 84, 3) := by decide +kernel
theorem d_Re_takeFrames_56 : decode M_Re_takeFrames.2.1 56 = .ok (.aload_n 0, 1) := by decide +kernel
theorem d_Re_takeFrames_57 : decode M_Re_takeFrames.2.1 57 = .ok (.getfield 26, 3) := by decide +kernel
theorem d_Re_takeFrames_60 : decode M_Re_takeFrames.2.1 60 = .ok (.getfield 110, 3) := by decide +kernel
theorem d_Re_takeFrames_63 : decode M_Re_takeFrames.2.1 63 = .ok (.lmul, 1) := by decide +kernel
theorem d_Re_takeFrames_64 : decode M_Re_takeFrames.2.1 64 = .ok (.putfield 84, 3) := by decide +kernel
theorem d_Re_takeFrames_67 : decode M_Re_takeFrames.2.1 67 = .ok (.aload_n 0, 1) := by decide +kernel
theorem d_Re_takeFrames_68 : decode M_Re_takeFrames.2.1 68 = .ok (.bipush 125, 2) := by decide +kernel
theorem d_Re_takeFrames_70 : decode M_Re_takeFrames.2.1 70 = .ok (.invokevirtual 87, 3) := by decide +kernel
theorem d_Re_takeFrames_73 : decode M_Re_takeFrames.2.1 73 = .ok (.ireturn, 1) := by decide +kernel
def lk (F : Nat → Int) (n p : Nat) : Int := if p < n then F p else -1
theorem lk_in {F : Nat → Int} {n p : Nat} (h : p < n) : lk F n p = F p := if_pos h
theorem lk_out {F : Nat → Int} {n p : Nat} (h : n ≤ p) : lk F n p = -1 := if_neg (by omega)
theorem look_lk {F : Nat → Int} {n p : Nat} : lookZ F (n : Int) (p : Int) = lk F n p := by
  unfold lookZ lk
  by_cases q : p < n
  · rw [if_pos (by omega), if_pos q]; congr 1
  · rw [if_neg (by omega), if_neg q]
theorem lk_r {F : Nat → Int} {n : Nat} (h : ∀ k, 0 ≤ F k ∧ F k ≤ 255) (p : Nat) : -1 ≤ lk F n p ∧ lk F n p ≤ 255 := by
  unfold lk
  split
  · have := h p; omega
  · omega
theorem lk_p {F : Nat → Int} {n p : Nat} (h : 0 ≤ lk F n p) : p < n := by
  unfold lk at h
  split at h
  · assumption
  · omega
def mq (F : Nat → Int) (n : Nat) : List (Int × Int) → Nat → Nat × Bool
  | [], p => (p, true)
  | a :: t, p => if a.1 ≤ lk F n p ∧ lk F n p ≤ a.2 then mq F n t (p + 1) else (p, false)
theorem mq_len {F : Nat → Int} {n : Nat} : ∀ (A : List (Int × Int)) (p : Nat), (mq F n A p).2 = true → (mq F n A p).1 = p + A.length
  | [], p, _ => rfl
  | a :: t, p, h => by
    rw [mq] at h ⊢
    split at h
    · rename_i q
      rw [if_pos q, mq_len t (p + 1) h, List.length_cons]
      omega
    · cases h
theorem mq_app_ok {F : Nat → Int} {n : Nat} {B : List (Int × Int)} {k : Nat} : ∀ {A : List (Int × Int)} {p : Nat}, (mq F n A p).2 = true → A.length = k → mq F n (A ++ B) p = mq F n B (p + k) := by
  intro A
  induction A generalizing k with
  | nil => intro p _ hk; subst hk; rfl
  | cons a t ih =>
    intro p h hk
    rw [mq] at h
    split at h
    · rename_i q
      rw [List.cons_append, mq, if_pos q, ih h rfl, ← hk, List.length_cons, Nat.add_assoc, Nat.add_comm 1]
    · cases h
theorem mq_app_no {F : Nat → Int} {n : Nat} {B : List (Int × Int)} : ∀ {A : List (Int × Int)} {p : Nat}, (mq F n A p).2 = false → mq F n (A ++ B) p = mq F n A p := by
  intro A
  induction A with
  | nil => intro p h; cases h
  | cons a t ih =>
    intro p h
    rw [mq] at h
    rw [List.cons_append, mq, mq]
    split at h
    · rename_i q
      rw [if_pos q, if_pos q, ih h]
    · rename_i q
      rw [if_neg q, if_neg q]
theorem mq1_t {F : Nat → Int} {n p : Nat} {a : Int × Int} (h : a.1 ≤ lk F n p ∧ lk F n p ≤ a.2) : mq F n [a] p = (p + 1, true) := by rw [mq, if_pos h, mq]
theorem mq1_f {F : Nat → Int} {n p : Nat} {a : Int × Int} (h : ¬ (a.1 ≤ lk F n p ∧ lk F n p ≤ a.2)) : mq F n [a] p = (p, false) := by rw [mq, if_neg h]
theorem mq1_iff {F : Nat → Int} {n p : Nat} {a : Int × Int} : (mq F n [a] p).2 = true ↔ (a.1 ≤ lk F n p ∧ lk F n p ≤ a.2) := by
  by_cases q : a.1 ≤ lk F n p ∧ lk F n p ≤ a.2
  · rw [mq1_t q]; exact ⟨fun _ => q, fun _ => rfl⟩
  · rw [mq1_f q]; exact ⟨fun w => (Bool.false_ne_true w).elim, fun w => absurd w q⟩
theorem mq_le {F : Nat → Int} {n : Nat} : ∀ {A : List (Int × Int)} {p : Nat}, (∀ a ∈ A, 0 ≤ a.1) → p ≤ n → p ≤ (mq F n A p).1 ∧ (mq F n A p).1 ≤ n := by
  intro A
  induction A with
  | nil => intro p _ h; exact ⟨Nat.le_refl _, h⟩
  | cons a t ih =>
    intro p ha h
    rw [mq]
    split
    · rename_i q
      have q0 := ha a List.mem_cons_self
      have := lk_p (F := F) (n := n) (p := p) (by omega)
      have := ih (p := p + 1) (fun b hb => ha b (List.mem_cons_of_mem _ hb)) (by omega)
      omega
    · exact ⟨Nat.le_refl _, h⟩
abbrev sg (c : Int) : List (Int × Int) := [(c, c)]
abbrev dg9 : List (Int × Int) := [(48, 57)]
abbrev p60 : List (Int × Int) := [(48, 53)] ++ [(48, 57)]
abbrev ab : List (Int × Int) := [(0, 255)]
def patT : List (Int × Int) := p60 ++ (sg 58 ++ (p60 ++ (sg 58 ++ (p60 ++ (sg 44 ++ (dg9 ++ (dg9 ++ dg9)))))))
def pat0 : List (Int × Int) := patT ++ (sg 32 ++ (sg 62 ++ (sg 32 ++ (patT ++ sg 10))))
def pat6 : List (Int × Int) := ab ++ (ab ++ (ab ++ (ab ++ (ab ++ ab))))
def v60 (F : Nat → Int) (n p : Nat) (b : Int) : Int := (0 * 10 + (lk F n p - 48)) * 10 + (lk F n (p + 1) - 48) + b * 60
def clk (F : Nat → Int) (n p : Nat) : Int := (((v60 F n (p + 6) (v60 F n (p + 3) (v60 F n p 0)) * 10 + (lk F n (p + 9) - 48)) * 10 + (lk F n (p + 10) - 48)) * 10 + (lk F n (p + 11) - 48)) * 705600
def sxv (F : Nat → Int) (n : Nat) : Nat → Nat → Int → Int
  | 0, _, a => a
  | k + 1, p, a => sxv F n k (p + 1) (a * 256 + lk F n p)
def dn (F : Nat → Int) (n : Nat) : Nat → Nat → Nat
  | 0, _ => 0
  | k + 1, p => if (mq F n dg9 p).2 = true then dn F n k (p + 1) + 1 else 0
def dv (F : Nat → Int) (n : Nat) : Nat → Nat → Int → Int
  | 0, _, a => a
  | k + 1, p, a => if (mq F n dg9 p).2 = true then dv F n k (p + 1) (a * 10 + (lk F n p - 48)) else a
def frP (F : Nat → Int) (n p : Nat) : Nat × Bool := if (mq F n (sg 123 ++ dg9) p).2 = true then mq F n (sg 125) (p + 2 + dn F n 5 (p + 2)) else mq F n (sg 123 ++ dg9) p
def frV (F : Nat → Int) (n p : Nat) : Int := dv F n 5 (p + 2) (0 * 10 + (lk F n (p + 1) - 48))
/-- the head of a cue: where it ends, or is at fault, and its times -/
def hP (f : Int) (F : Nat → Int) (n p : Nat) : Nat × Bool := if f = 0 then mq F n pat0 p else if f = 1 then (if (frP F n p).2 = true then frP F n (frP F n p).1 else frP F n p) else mq F n (pat6 ++ pat6) p
def hS (f tk : Int) (F : Nat → Int) (n p : Nat) : Int := if f = 0 then clk F n p else if f = 1 then frV F n p * tk else sxv F n 6 p 0
def hE (f tk : Int) (F : Nat → Int) (n p : Nat) : Int := if f = 0 then clk F n (p + 15) else if f = 1 then frV F n (frP F n p).1 * tk else sxv F n 6 (p + 6) 0
abbrev isL (b : Int) : Prop := 32 ≤ b ∧ b ≠ 124 ∧ b ≠ 127
def bz (br : Bool) : Int := if br then 1 else 0
theorem bz_r (br : Bool) : bz br = 0 ∨ bz br = 1 := by cases br <;> simp [bz]
theorem bz_0 {br : Bool} (h : bz br = 0) : br = false := by cases br; rfl; cases h
theorem bz_1 {br : Bool} (h : bz br ≠ 0) : br = true := by cases br; exact absurd rfl h; rfl
abbrev lok (b : Int) (T : List Int) (br : Bool) : Prop := isL b ∧ T.length + (if br then 2 else 1) ≤ 64
def lad (T : List Int) (br : Bool) (b : Int) : List Int := T ++ (if br then [10, b] else [b])
theorem lad_l {T : List Int} {br : Bool} {b : Int} : ((lad T br b).length : Int) = (T.length : Int) + bz br + 1 := by
  cases br <;> simp [lad, bz]
  omega
abbrev ibk (T : List Int) (br : Bool) : Prop := T.length ≠ 0 ∧ br = false ∧ T.length + 2 ≤ 64
def tx0 (F : Nat → Int) (n : Nat) : Nat → Nat → List Int → Bool → Nat × Option (List Int)
  | 0, p, _, _ => (p, none)
  | g + 1, p, T, br => if lk F n p = 10 then (if T.length = 0 then (p, none) else if br = true then (p + 1, some T) else tx0 F n g (p + 1) T true) else if lok (lk F n p) T br then tx0 F n g (p + 1) (lad T br (lk F n p)) false else (p, none)
def tx1 (F : Nat → Int) (n : Nat) : Nat → Nat → List Int → Bool → Nat × Option (List Int)
  | 0, p, _, _ => (p, none)
  | g + 1, p, T, br => if lk F n p = 10 then (if T.length = 0 ∨ br = true then (p, none) else (p + 1, some T)) else if lk F n p = 124 then (if ibk T br then tx1 F n g (p + 1) T true else (p, none)) else if lok (lk F n p) T br then tx1 F n g (p + 1) (lad T br (lk F n p)) false else (p, none)
/-- a text of a told length: so many bytes are left, so many were told -/
def tx2 (F : Nat → Int) (n : Nat) (z : Int) : Nat → Int → Nat → List Int → Bool → Nat × Option (List Int)
  | 0, _, p, T, _ => (p, some T)
  | g + 1, k, p, T, br => if lk F n p = 10 then (if k ≠ z - 1 ∧ ibk T br then tx2 F n z g (k + 1) (p + 1) T true else (p, none)) else if lok (lk F n p) T br then tx2 F n z g (k + 1) (p + 1) (lad T br (lk F n p)) false else (p, none)
def tx2s (F : Nat → Int) (n p : Nat) : Nat × Option (List Int) := if 1 ≤ lk F n p ∧ lk F n p ≤ 64 then tx2 F n (lk F n p) (lk F n p).toNat 0 (p + 1) [] false else (p, none)
def txP (f : Int) (F : Nat → Int) (n p : Nat) : Nat × Option (List Int) := if f = 0 then tx0 F n (n + 1 - p) p [] false else if f = 1 then tx1 F n (n + 1 - p) p [] false else tx2s F n p
abbrev Qe : Type := Int × Int × List Int
/-- a cue: its place behind, or where it is at fault -/
def cuP (f tk : Int) (F : Nat → Int) (n p : Nat) : Nat × Option Qe := if (hP f F n p).2 = true then ((txP f F n (hP f F n p).1).1, (txP f F n (hP f F n p).1).2.map (fun T => (hS f tk F n p, hE f tk F n p, T))) else ((hP f F n p).1, none)
theorem mq1_f1 {F : Nat → Int} {n p : Nat} {a : Int × Int} (h : (mq F n [a] p).2 = false) : (mq F n [a] p).1 = p := by
  rw [mq1_f (fun w => by have := mq1_iff.mpr w; rw [h] at this; cases this)]
set_option maxHeartbeats 4000000 in
set_option maxRecDepth 100000 in
theorem c_Re_takeSign (G : GT) (h : HM) (xe b bb xf fo le n p : Nat) (F : Nat → Int) (sz br tm st en : Int) (c : Int) (he : h xe = some (.inr (3, [.ref b, .ref xf, .ref fo, .ref le, .int (iZ sz), .int (iZ br), .int (iZ (p : Int)), .long (lZ tm), .long (lZ st), .long (lZ en)]))) (hb : h b = some (.inr (1, [.ref bb, .int (iZ (n : Int))]))) (hbb : h bb = some (.inl (G_i G, 1000, .inl (iA F)))) (hn : n ≤ 1000) (hp : p ≤ n) (hF : ∀ k, 0 ≤ F k ∧ F k ≤ 255) (hc : 0 ≤ c ∧ c ≤ 255) : Rn G M_Re_takeSign (rm 1 22) [.ref xe, .int (iZ c)] h (fun r h' => ((mq F n (sg c) p).2 = true → r = some (.int (iZ 1)) ∧ h' xe = some (.inr (3, [.ref b, .ref xf, .ref fo, .ref le, .int (iZ sz), .int (iZ br), .int (iZ ((p + 1 : Nat) : Int)), .long (lZ tm), .long (lZ st), .long (lZ en)]))) ∧ ((mq F n (sg c) p).2 = false → r = some (.int (iZ 0)) ∧ h' xe = some (.inr (3, [.ref b, .ref xf, .ref fo, .ref le, .int (iZ sz), .int (iZ br), .int (iZ (p : Int)), .long (lZ tm), .long (lZ st), .long (lZ en)]))) ∧ Fm [xe] h h') := by
  refine rn_of (by decide) (Nat.le_of_ble_eq_true rfl) ?_
  show Ev G M_Re_takeSign _ _ 0 [(0, .ref xe), (1, .int (iZ c))] [] _ 0 0
  have fm : Fm [xe] h h := Fm.rf
  refine ev_aload_n d_Re_takeSign_0 rfl rfl ?_
  refine ev_get d_Re_takeSign_1 fl_Re_22 he rfl ?_
  refine ev_aload_n d_Re_takeSign_4 rfl rfl ?_
  refine ev_get d_Re_takeSign_5 fl_Re_34 he rfl ?_
  refine ev_pV M_Bu_look 0 0 (As := [.int (iZ (p : Int))]) (c_Bu_look G h b bb F n (p : Int) hb hbb (by omega) (by omega)) d_Re_takeSign_8 mk_Bu_look ml_Re_100 mv_Bu_look hb rfl rfl rfl (Nat.le_of_ble_eq_true rfl) ⟨by decide, by decide⟩ ⟨by decide, by decide⟩ ?_
  refine ev_top (lk F n p) (look_lk) ?_
  have rl := lk_r (n := n) hF (p)
  refine ev_iload_n d_Re_takeSign_11 rfl rfl ?_
  refine ez_icmp_eq (tgt := 17) (by omega) (by omega) d_Re_takeSign_12 rfl (fun c12 => ?_) (fun c12 => ?_)
  · refine ev_aload_n d_Re_takeSign_17 rfl rfl ?_
    refine ev_dup d_Re_takeSign_18 rfl ?_
    refine ev_get d_Re_takeSign_19 fl_Re_34 he rfl ?_
    refine ev_iconst (v := iZ 1) d_Re_takeSign_22 rfl ?_
    refine ez_iadd d_Re_takeSign_23 ?_
    rw [show ((p : Int) + 1 : Int) = ((p + 1 : Nat) : Int) from by omega]
    refine ev_put2 (fs' := [.ref b, .ref xf, .ref fo, .ref le, .int (iZ sz), .int (iZ br), .int (iZ ((p + 1 : Nat) : Int)), .long (lZ tm), .long (lZ st), .long (lZ en)]) d_Re_takeSign_24 fw_Re_34 (Or.inr (fun _ _ _ q => by cases q; rfl)) he (Nat.le_of_ble_eq_true rfl) rfl rfl rfl (fun h1 h1a h1o => ?_)
    have hb := (h1o _ (cne hb he (by simp))).trans hb
    have hbb := (h1o _ (cne hbb he (by simp))).trans hbb
    have he := h1a
    have fm := fm.step (by simp) h1o
    refine ev_iconst (v := iZ 1) d_Re_takeSign_27 rfl ?_
    exact ev_zreturn d_Re_takeSign_28 rfl (Or.inr rfl) (by decide) (by decide) (⟨fun _ => ⟨rfl, he⟩, fun q => absurd q (by rw [mq1_t (by show c ≤ lk F n p ∧ lk F n p ≤ c; omega)]; simp), fm⟩)
  · refine ev_iconst (v := iZ 0) d_Re_takeSign_15 rfl ?_
    exact ev_zreturn d_Re_takeSign_16 rfl (Or.inl rfl) (by decide) (by decide) (⟨fun q => absurd (mq1_iff.mp q) (by show ¬ (c ≤ lk F n p ∧ lk F n p ≤ c); omega), fun _ => ⟨rfl, he⟩, fm⟩)
set_option maxHeartbeats 4000000 in
set_option maxRecDepth 100000 in
theorem c_Re_takeDigit (G : GT) (h : HM) (xe b bb xf fo le n p : Nat) (F : Nat → Int) (sz br tm st en : Int) (c : Int) (he : h xe = some (.inr (3, [.ref b, .ref xf, .ref fo, .ref le, .int (iZ sz), .int (iZ br), .int (iZ (p : Int)), .long (lZ tm), .long (lZ st), .long (lZ en)]))) (hb : h b = some (.inr (1, [.ref bb, .int (iZ (n : Int))]))) (hbb : h bb = some (.inl (G_i G, 1000, .inl (iA F)))) (hn : n ≤ 1000) (hp : p ≤ n) (hF : ∀ k, 0 ≤ F k ∧ F k ≤ 255) (hc : 0 ≤ c ∧ c ≤ 255) : Rn G M_Re_takeDigit (rm 1 22) [.ref xe, .int (iZ c)] h (fun r h' => ((mq F n ([(48, c)]) p).2 = true → r = some (.int (iZ 1)) ∧ h' xe = some (.inr (3, [.ref b, .ref xf, .ref fo, .ref le, .int (iZ sz), .int (iZ br), .int (iZ ((p + 1 : Nat) : Int)), .long (lZ (tm * 10 + (lk F n p - 48))), .long (lZ st), .long (lZ en)]))) ∧ ((mq F n ([(48, c)]) p).2 = false → r = some (.int (iZ 0)) ∧ h' xe = some (.inr (3, [.ref b, .ref xf, .ref fo, .ref le, .int (iZ sz), .int (iZ br), .int (iZ (p : Int)), .long (lZ tm), .long (lZ st), .long (lZ en)]))) ∧ Fm [xe] h h') := by
  refine rn_of (by decide) (Nat.le_of_ble_eq_true rfl) ?_
  show Ev G M_Re_takeDigit _ _ 0 [(0, .ref xe), (1, .int (iZ c))] [] _ 0 0
  have fm : Fm [xe] h h := Fm.rf
  refine ev_aload_n d_Re_takeDigit_0 rfl rfl ?_
  refine ev_get d_Re_takeDigit_1 fl_Re_22 he rfl ?_
  refine ev_aload_n d_Re_takeDigit_4 rfl rfl ?_
  refine ev_get d_Re_takeDigit_5 fl_Re_34 he rfl ?_
  refine ev_pV M_Bu_look 0 0 (As := [.int (iZ (p : Int))]) (c_Bu_look G h b bb F n (p : Int) hb hbb (by omega) (by omega)) d_Re_takeDigit_8 mk_Bu_look ml_Re_100 mv_Bu_look hb rfl rfl rfl (Nat.le_of_ble_eq_true rfl) ⟨by decide, by decide⟩ ⟨by decide, by decide⟩ ?_
  refine ev_top (lk F n p) (look_lk) ?_
  have rl := lk_r (n := n) hF (p)
  refine ev_istore_n (L' := [(0, .ref xe), (1, .int (iZ c)), (2, .int (iZ (lk F n p)))]) d_Re_takeDigit_11 rfl (by decide) rfl ?_
  refine ev_iload_n d_Re_takeDigit_12 rfl rfl ?_
  refine ev_bipush (v := iZ 48) d_Re_takeDigit_13 rfl ?_
  refine ez_icmp_lt (tgt := 23) (by omega) (by decide) d_Re_takeDigit_15 rfl (fun c15 => ?_) (fun c15 => ?_)
  · refine ev_iconst (v := iZ 0) d_Re_takeDigit_23 rfl ?_
    exact ev_zreturn d_Re_takeDigit_24 rfl (Or.inl rfl) (by decide) (by decide) (⟨fun q => absurd (mq1_iff.mp q) (by show ¬ (48 ≤ lk F n p ∧ lk F n p ≤ c); omega), fun _ => ⟨rfl, he⟩, fm⟩)
  · refine ev_iload_n d_Re_takeDigit_18 rfl rfl ?_
    refine ev_iload_n d_Re_takeDigit_19 rfl rfl ?_
    refine ez_icmp_le (tgt := 25) (by omega) (by omega) d_Re_takeDigit_20 rfl (fun c20 => ?_) (fun c20 => ?_)
    · refine ev_aload_n d_Re_takeDigit_25 rfl rfl ?_
      refine ev_aload_n d_Re_takeDigit_26 rfl rfl ?_
      refine ev_get d_Re_takeDigit_27 fl_Re_84 he rfl ?_
      refine ev_ldc2 (v := lZ 10) d_Re_takeDigit_30 kc_Re_126 ?_
      refine ez_lmul d_Re_takeDigit_33 ?_
      refine ev_iload_n d_Re_takeDigit_34 rfl rfl ?_
      refine ev_bipush (v := iZ 48) d_Re_takeDigit_35 rfl ?_
      refine ez_isub d_Re_takeDigit_37 ?_
      refine ez_i2l (by omega) d_Re_takeDigit_38 ?_
      refine ez_ladd d_Re_takeDigit_39 ?_
      refine ev_put2 (fs' := [.ref b, .ref xf, .ref fo, .ref le, .int (iZ sz), .int (iZ br), .int (iZ (p : Int)), .long (lZ ((tm * 10) + ((lk F n p) - 48))), .long (lZ st), .long (lZ en)]) d_Re_takeDigit_40 fw_Re_84 (Or.inr (fun _ _ _ q => by cases q; rfl)) he (Nat.le_of_ble_eq_true rfl) rfl rfl rfl (fun h1 h1a h1o => ?_)
      have hb := (h1o _ (cne hb he (by simp))).trans hb
      have hbb := (h1o _ (cne hbb he (by simp))).trans hbb
      have he := h1a
      have fm := fm.step (by simp) h1o
      refine ev_aload_n d_Re_takeDigit_43 rfl rfl ?_
      refine ev_dup d_Re_takeDigit_44 rfl ?_
      refine ev_get d_Re_takeDigit_45 fl_Re_34 he rfl ?_
      refine ev_iconst (v := iZ 1) d_Re_takeDigit_48 rfl ?_
      refine ez_iadd d_Re_takeDigit_49 ?_
      rw [show ((p : Int) + 1 : Int) = ((p + 1 : Nat) : Int) from by omega]
      refine ev_put2 (fs' := [.ref b, .ref xf, .ref fo, .ref le, .int (iZ sz), .int (iZ br), .int (iZ ((p + 1 : Nat) : Int)), .long (lZ ((tm * 10) + ((lk F n p) - 48))), .long (lZ st), .long (lZ en)]) d_Re_takeDigit_50 fw_Re_34 (Or.inr (fun _ _ _ q => by cases q; rfl)) he (Nat.le_of_ble_eq_true rfl) rfl rfl rfl (fun h2 h2a h2o => ?_)
      have hb := (h2o _ (cne hb he (by simp))).trans hb
      have hbb := (h2o _ (cne hbb he (by simp))).trans hbb
      have he := h2a
      have fm := fm.step (by simp) h2o
      refine ev_iconst (v := iZ 1) d_Re_takeDigit_53 rfl ?_
      exact ev_zreturn d_Re_takeDigit_54 rfl (Or.inr rfl) (by decide) (by decide) (⟨fun _ => ⟨rfl, he⟩, fun q => absurd q (by rw [mq1_t (by show 48 ≤ lk F n p ∧ lk F n p ≤ c; omega)]; simp), fm⟩)
    · refine ev_iconst (v := iZ 0) d_Re_takeDigit_23 rfl ?_
      exact ev_zreturn d_Re_takeDigit_24 rfl (Or.inl rfl) (by decide) (by decide) (⟨fun q => absurd (mq1_iff.mp q) (by show ¬ (48 ≤ lk F n p ∧ lk F n p ≤ c); omega), fun _ => ⟨rfl, he⟩, fm⟩)
set_option maxHeartbeats 4000000 in
set_option maxRecDepth 100000 in
theorem c_Re_takeSixty (G : GT) (h : HM) (xe b bb xf fo le n p : Nat) (F : Nat → Int) (sz br tm st en : Int) (he : h xe = some (.inr (3, [.ref b, .ref xf, .ref fo, .ref le, .int (iZ sz), .int (iZ br), .int (iZ (p : Int)), .long (lZ tm), .long (lZ st), .long (lZ en)]))) (hb : h b = some (.inr (1, [.ref bb, .int (iZ (n : Int))]))) (hbb : h bb = some (.inl (G_i G, 1000, .inl (iA F)))) (hn : n ≤ 1000) (hp : p ≤ n) (hF : ∀ k, 0 ≤ F k ∧ F k ≤ 255) : Rn G M_Re_takeSixty (rm 2 45) [.ref xe] h (fun r h' => ((mq F n (p60) p).2 = true → r = some (.int (iZ 1)) ∧ h' xe = some (.inr (3, [.ref b, .ref xf, .ref fo, .ref le, .int (iZ sz), .int (iZ br), .int (iZ ((p + 2 : Nat) : Int)), .long (lZ (v60 F n p tm)), .long (lZ st), .long (lZ en)]))) ∧ ((mq F n (p60) p).2 = false → r = some (.int (iZ 0)) ∧ ∃ tm' st' en' : Int, h' xe = some (.inr (3, [.ref b, .ref xf, .ref fo, .ref le, .int (iZ sz), .int (iZ br), .int (iZ (((mq F n (p60) p).1 : Nat) : Int)), .long (lZ tm'), .long (lZ st'), .long (lZ en')]))) ∧ Fm [xe] h h') := by
  refine rn_of (by decide) (Nat.le_of_ble_eq_true rfl) ?_
  show Ev G M_Re_takeSixty _ _ 0 [(0, .ref xe)] [] _ 0 0
  have fm : Fm [xe] h h := Fm.rf
  refine ev_aload_n d_Re_takeSixty_0 rfl rfl ?_
  refine ev_get d_Re_takeSixty_1 fl_Re_84 he rfl ?_
  refine ev_lstore_n (L' := [(0, .ref xe), (1, .long (lZ tm))]) d_Re_takeSixty_4 rfl (by decide) rfl ?_
  refine ev_aload_n d_Re_takeSixty_5 rfl rfl ?_
  refine ev_lconst (v := lZ 0) d_Re_takeSixty_6 rfl ?_
  refine ev_put2 (fs' := [.ref b, .ref xf, .ref fo, .ref le, .int (iZ sz), .int (iZ br), .int (iZ (p : Int)), .long (lZ 0), .long (lZ st), .long (lZ en)]) d_Re_takeSixty_7 fw_Re_84 (Or.inr (fun _ _ _ q => by cases q; rfl)) he (Nat.le_of_ble_eq_true rfl) rfl rfl rfl (fun h1 h1a h1o => ?_)
  have hb := (h1o _ (cne hb he (by simp))).trans hb
  have hbb := (h1o _ (cne hbb he (by simp))).trans hbb
  have he := h1a
  have fm := fm.step (by simp) h1o
  refine ev_aload_n d_Re_takeSixty_10 rfl rfl ?_
  refine ev_bipush (v := iZ 53) d_Re_takeSixty_11 rfl ?_
  refine ev_callV M_Re_takeDigit (rm 1 22) _ (As := [.int (iZ 53)]) (c_Re_takeDigit G h1 xe b bb xf fo le n (p) F (sz) (br) (0) (st) (en) 53 he hb hbb hn (by omega) hF (by decide)) d_Re_takeSixty_13 mk_Re_takeDigit ml_Re_93 mv_Re_takeDigit he rfl rfl rfl (Nat.le_of_ble_eq_true rfl) ⟨by decide, by decide⟩ ⟨by decide, by decide⟩ (fun r h2 hq => ?_)
  obtain ⟨qy, qn, fmc⟩ := hq
  have hb := (fmc _ (ninc (cne hb he (by simp)) nin0)).trans hb
  have hbb := (fmc _ (ninc (cne hbb he (by simp)) nin0)).trans hbb
  have fm := fm.call (by simp) fmc
  by_cases m3 : (mq F n ([(48, 53)]) (p)).2 = true
  ·
    obtain ⟨rfl, he⟩ := qy m3
    have lm3 := mq_len _ _ m3
    have gm3 := (mq_le (F := F) (n := n) (A := [(48, 53)]) (p := p) (by decide) (by omega))
    rw [lm3] at gm3
    have lxm3 : ([(48, 53)]).length = 1 := rfl
    refine ez_if_eq (tgt := 28) (by decide) d_Re_takeSixty_16 rfl (fun c16 => absurd c16 (by omega)) (fun c16 => ?_)
    refine ev_aload_n d_Re_takeSixty_19 rfl rfl ?_
    refine ev_bipush (v := iZ 57) d_Re_takeSixty_20 rfl ?_
    refine ev_callV M_Re_takeDigit (rm 1 22) _ (As := [.int (iZ 57)]) (c_Re_takeDigit G h2 xe b bb xf fo le n (p + 1) F (sz) (br) (0 * 10 + (lk F n (p) - 48)) (st) (en) 57 he hb hbb hn (by omega) hF (by decide)) d_Re_takeSixty_22 mk_Re_takeDigit ml_Re_93 mv_Re_takeDigit he rfl rfl rfl (Nat.le_of_ble_eq_true rfl) ⟨by decide, by decide⟩ ⟨by decide, by decide⟩ (fun r h4 hq => ?_)
    obtain ⟨qy, qn, fmc⟩ := hq
    have hb := (fmc _ (ninc (cne hb he (by simp)) nin0)).trans hb
    have hbb := (fmc _ (ninc (cne hbb he (by simp)) nin0)).trans hbb
    have fm := fm.call (by simp) fmc
    by_cases m5 : (mq F n ([(48, 57)]) (p + 1)).2 = true
    ·
      obtain ⟨rfl, he⟩ := qy m5
      have lm5 := mq_len _ _ m5
      have gm5 := (mq_le (F := F) (n := n) (A := [(48, 57)]) (p := p + 1) (by decide) (by omega))
      rw [lm5] at gm5
      have lxm5 : ([(48, 57)]).length = 1 := rfl
      refine ez_if_ne (tgt := 30) (by decide) d_Re_takeSixty_25 rfl (fun c25 => ?_) (fun c25 => absurd c25 (by omega))
      refine ev_aload_n d_Re_takeSixty_30 rfl rfl ?_
      refine ev_dup d_Re_takeSixty_31 rfl ?_
      refine ev_get d_Re_takeSixty_32 fl_Re_84 he rfl ?_
      refine ev_lload_n d_Re_takeSixty_35 rfl rfl ?_
      refine ev_ldc2 (v := lZ 60) d_Re_takeSixty_36 kc_Re_98 ?_
      refine ez_lmul d_Re_takeSixty_39 ?_
      refine ez_ladd d_Re_takeSixty_40 ?_
      refine ev_put2 (fs' := [.ref b, .ref xf, .ref fo, .ref le, .int (iZ sz), .int (iZ br), .int (iZ ((p + 1 + 1 : Nat) : Int)), .long (lZ (((0 * 10 + (lk F n (p) - 48)) * 10 + (lk F n (p + 1) - 48)) + (tm * 60))), .long (lZ st), .long (lZ en)]) d_Re_takeSixty_41 fw_Re_84 (Or.inr (fun _ _ _ q => by cases q; rfl)) he (Nat.le_of_ble_eq_true rfl) rfl rfl rfl (fun h6 h6a h6o => ?_)
      have hb := (h6o _ (cne hb he (by simp))).trans hb
      have hbb := (h6o _ (cne hbb he (by simp))).trans hbb
      have he := h6a
      have fm := fm.step (by simp) h6o
      refine ev_iconst (v := iZ 1) d_Re_takeSixty_44 rfl ?_
      have hm : (mq F n (p60) p).2 = true := by rw [mq_app_ok (k := 1) m3 rfl]; exact m5
      exact ev_zreturn d_Re_takeSixty_45 rfl (Or.inr rfl) (by decide) (by decide) (⟨fun _ => ⟨rfl, he⟩, fun q => absurd q (by rw [hm]; decide), fm⟩)
    ·
      replace m5 := Bool.eq_false_iff.mpr m5
      obtain ⟨rfl, he⟩ := qn m5
      have he : h4 xe = some (.inr (3, [.ref b, .ref xf, .ref fo, .ref le, .int (iZ sz), .int (iZ br), .int (iZ (((mq F n ([(48, 57)]) (p + 1)).1 : Nat) : Int)), .long (lZ (0 * 10 + (lk F n (p) - 48))), .long (lZ st), .long (lZ en)])) := by rw [mq1_f1 m5]; exact he
      refine ez_if_ne (tgt := 30) (by decide) d_Re_takeSixty_25 rfl (fun c25 => absurd c25 (by omega)) (fun c25 => ?_)
      refine ev_iconst (v := iZ 0) d_Re_takeSixty_28 rfl ?_
      have hm : (mq F n (p60) p).2 = false := by rw [mq_app_ok (k := 1) m3 rfl]; exact m5
      skip
      exact ev_zreturn d_Re_takeSixty_29 rfl (Or.inl rfl) (by decide) (by decide) (⟨fun q => absurd q (by rw [hm]; decide), fun _ => ⟨rfl, 0 * 10 + (lk F n (p) - 48), st, en, by rw [mq_app_ok (k := 1) m3 rfl]; exact he⟩, fm⟩)
  ·
    replace m3 := Bool.eq_false_iff.mpr m3
    obtain ⟨rfl, he⟩ := qn m3
    have he : h2 xe = some (.inr (3, [.ref b, .ref xf, .ref fo, .ref le, .int (iZ sz), .int (iZ br), .int (iZ (((mq F n ([(48, 53)]) (p)).1 : Nat) : Int)), .long (lZ 0), .long (lZ st), .long (lZ en)])) := by rw [mq1_f1 m3]; exact he
    refine ez_if_eq (tgt := 28) (by decide) d_Re_takeSixty_16 rfl (fun c16 => ?_) (fun c16 => absurd c16 (by omega))
    refine ev_iconst (v := iZ 0) d_Re_takeSixty_28 rfl ?_
    have hm : (mq F n (p60) p).2 = false := by rw [mq_app_no m3]; exact m3
    skip
    exact ev_zreturn d_Re_takeSixty_29 rfl (Or.inl rfl) (by decide) (by decide) (⟨fun q => absurd q (by rw [hm]; decide), fun _ => ⟨rfl, 0, st, en, by rw [mq_app_no m3]; exact he⟩, fm⟩)
set_option maxHeartbeats 4000000 in
set_option maxRecDepth 100000 in
theorem c_Re_takeBlockTime (G : GT) (h : HM) (xe b bb xf fo le n p : Nat) (F : Nat → Int) (sz br tm st en : Int) (he : h xe = some (.inr (3, [.ref b, .ref xf, .ref fo, .ref le, .int (iZ sz), .int (iZ br), .int (iZ (p : Int)), .long (lZ tm), .long (lZ st), .long (lZ en)]))) (hb : h b = some (.inr (1, [.ref bb, .int (iZ (n : Int))]))) (hbb : h bb = some (.inl (G_i G, 1000, .inl (iA F)))) (hn : n ≤ 1000) (hp : p ≤ n) (hF : ∀ k, 0 ≤ F k ∧ F k ≤ 255) : Rn G M_Re_takeBlockTime (rm 3 68) [.ref xe] h (fun r h' => ((mq F n (patT) p).2 = true → r = some (.int (iZ 1)) ∧ h' xe = some (.inr (3, [.ref b, .ref xf, .ref fo, .ref le, .int (iZ sz), .int (iZ br), .int (iZ ((p + 12 : Nat) : Int)), .long (lZ (clk F n p)), .long (lZ st), .long (lZ en)]))) ∧ ((mq F n (patT) p).2 = false → r = some (.int (iZ 0)) ∧ ∃ tm' st' en' : Int, h' xe = some (.inr (3, [.ref b, .ref xf, .ref fo, .ref le, .int (iZ sz), .int (iZ br), .int (iZ (((mq F n (patT) p).1 : Nat) : Int)), .long (lZ tm'), .long (lZ st'), .long (lZ en')]))) ∧ Fm [xe] h h') := by
  refine rn_of (by decide) (Nat.le_of_ble_eq_true rfl) ?_
  show Ev G M_Re_takeBlockTime _ _ 0 [(0, .ref xe)] [] _ 0 0
  have fm : Fm [xe] h h := Fm.rf
  refine ev_aload_n d_Re_takeBlockTime_0 rfl rfl ?_
  refine ev_lconst (v := lZ 0) d_Re_takeBlockTime_1 rfl ?_
  refine ev_put2 (fs' := [.ref b, .ref xf, .ref fo, .ref le, .int (iZ sz), .int (iZ br), .int (iZ (p : Int)), .long (lZ 0), .long (lZ st), .long (lZ en)]) d_Re_takeBlockTime_2 fw_Re_84 (Or.inr (fun _ _ _ q => by cases q; rfl)) he (Nat.le_of_ble_eq_true rfl) rfl rfl rfl (fun h1 h1a h1o => ?_)
  have hb := (h1o _ (cne hb he (by simp))).trans hb
  have hbb := (h1o _ (cne hbb he (by simp))).trans hbb
  have he := h1a
  have fm := fm.step (by simp) h1o
  refine ev_aload_n d_Re_takeBlockTime_5 rfl rfl ?_
  refine ev_callV M_Re_takeSixty (rm 2 45) _ (As := []) (c_Re_takeSixty G h1 xe b bb xf fo le n (p) F (sz) (br) (0) (st) (en) he hb hbb hn (by omega) hF) d_Re_takeBlockTime_6 mk_Re_takeSixty ml_Re_90 mv_Re_takeSixty he rfl rfl rfl (Nat.le_of_ble_eq_true rfl) ⟨by decide, by decide⟩ ⟨by decide, by decide⟩ (fun r h2 hq => ?_)
  obtain ⟨qy, qn, fmc⟩ := hq
  have hb := (fmc _ (ninc (cne hb he (by simp)) nin0)).trans hb
  have hbb := (fmc _ (ninc (cne hbb he (by simp)) nin0)).trans hbb
  have fm := fm.call (by simp) fmc
  by_cases m3 : (mq F n (p60) (p)).2 = true
  ·
    obtain ⟨rfl, he⟩ := qy m3
    have lm3 := mq_len _ _ m3
    have gm3 := (mq_le (F := F) (n := n) (A := p60) (p := p) (by decide) (by omega))
    rw [lm3] at gm3
    have lxm3 : (p60).length = 2 := rfl
    refine ez_if_eq (tgt := 37) (by decide) d_Re_takeBlockTime_9 rfl (fun c9 => absurd c9 (by omega)) (fun c9 => ?_)
    refine ev_aload_n d_Re_takeBlockTime_12 rfl rfl ?_
    refine ev_bipush (v := iZ 58) d_Re_takeBlockTime_13 rfl ?_
    refine ev_callV M_Re_takeSign (rm 1 22) _ (As := [.int (iZ 58)]) (c_Re_takeSign G h2 xe b bb xf fo le n (p + 2) F (sz) (br) (v60 F n (p) (0)) (st) (en) 58 he hb hbb hn (by omega) hF (by decide)) d_Re_takeBlockTime_15 mk_Re_takeSign ml_Re_87 mv_Re_takeSign he rfl rfl rfl (Nat.le_of_ble_eq_true rfl) ⟨by decide, by decide⟩ ⟨by decide, by decide⟩ (fun r h4 hq => ?_)
    obtain ⟨qy, qn, fmc⟩ := hq
    have hb := (fmc _ (ninc (cne hb he (by simp)) nin0)).trans hb
    have hbb := (fmc _ (ninc (cne hbb he (by simp)) nin0)).trans hbb
    have fm := fm.call (by simp) fmc
    by_cases m5 : (mq F n (sg 58) (p + 2)).2 = true
    ·
      obtain ⟨rfl, he⟩ := qy m5
      have lm5 := mq_len _ _ m5
      have gm5 := (mq_le (F := F) (n := n) (A := sg 58) (p := p + 2) (by decide) (by omega))
      rw [lm5] at gm5
      have lxm5 : (sg 58).length = 1 := rfl
      refine ez_if_eq (tgt := 37) (by decide) d_Re_takeBlockTime_18 rfl (fun c18 => absurd c18 (by omega)) (fun c18 => ?_)
      refine ev_aload_n d_Re_takeBlockTime_21 rfl rfl ?_
      refine ev_callV M_Re_takeSixty (rm 2 45) _ (As := []) (c_Re_takeSixty G h4 xe b bb xf fo le n (p + 2 + 1) F (sz) (br) (v60 F n (p) (0)) (st) (en) he hb hbb hn (by omega) hF) d_Re_takeBlockTime_22 mk_Re_takeSixty ml_Re_90 mv_Re_takeSixty he rfl rfl rfl (Nat.le_of_ble_eq_true rfl) ⟨by decide, by decide⟩ ⟨by decide, by decide⟩ (fun r h6 hq => ?_)
      obtain ⟨qy, qn, fmc⟩ := hq
      have hb := (fmc _ (ninc (cne hb he (by simp)) nin0)).trans hb
      have hbb := (fmc _ (ninc (cne hbb he (by simp)) nin0)).trans hbb
      have fm := fm.call (by simp) fmc
      by_cases m7 : (mq F n (p60) (p + 2 + 1)).2 = true
      ·
        obtain ⟨rfl, he⟩ := qy m7
        have lm7 := mq_len _ _ m7
        have gm7 := (mq_le (F := F) (n := n) (A := p60) (p := p + 2 + 1) (by decide) (by omega))
        rw [lm7] at gm7
        have lxm7 : (p60).length = 2 := rfl
        refine ez_if_eq (tgt := 37) (by decide) d_Re_takeBlockTime_25 rfl (fun c25 => absurd c25 (by omega)) (fun c25 => ?_)
        refine ev_aload_n d_Re_takeBlockTime_28 rfl rfl ?_
        refine ev_bipush (v := iZ 58) d_Re_takeBlockTime_29 rfl ?_
        refine ev_callV M_Re_takeSign (rm 1 22) _ (As := [.int (iZ 58)]) (c_Re_takeSign G h6 xe b bb xf fo le n (p + 2 + 1 + 2) F (sz) (br) (v60 F n (p + 2 + 1) (v60 F n (p) (0))) (st) (en) 58 he hb hbb hn (by omega) hF (by decide)) d_Re_takeBlockTime_31 mk_Re_takeSign ml_Re_87 mv_Re_takeSign he rfl rfl rfl (Nat.le_of_ble_eq_true rfl) ⟨by decide, by decide⟩ ⟨by decide, by decide⟩ (fun r h8 hq => ?_)
        obtain ⟨qy, qn, fmc⟩ := hq
        have hb := (fmc _ (ninc (cne hb he (by simp)) nin0)).trans hb
        have hbb := (fmc _ (ninc (cne hbb he (by simp)) nin0)).trans hbb
        have fm := fm.call (by simp) fmc
        by_cases m9 : (mq F n (sg 58) (p + 2 + 1 + 2)).2 = true
        ·
          obtain ⟨rfl, he⟩ := qy m9
          have lm9 := mq_len _ _ m9
          have gm9 := (mq_le (F := F) (n := n) (A := sg 58) (p := p + 2 + 1 + 2) (by decide) (by omega))
          rw [lm9] at gm9
          have lxm9 : (sg 58).length = 1 := rfl
          refine ez_if_ne (tgt := 39) (by decide) d_Re_takeBlockTime_34 rfl (fun c34 => ?_) (fun c34 => absurd c34 (by omega))
          refine ev_aload_n d_Re_takeBlockTime_39 rfl rfl ?_
          refine ev_callV M_Re_takeSixty (rm 2 45) _ (As := []) (c_Re_takeSixty G h8 xe b bb xf fo le n (p + 2 + 1 + 2 + 1) F (sz) (br) (v60 F n (p + 2 + 1) (v60 F n (p) (0))) (st) (en) he hb hbb hn (by omega) hF) d_Re_takeBlockTime_40 mk_Re_takeSixty ml_Re_90 mv_Re_takeSixty he rfl rfl rfl (Nat.le_of_ble_eq_true rfl) ⟨by decide, by decide⟩ ⟨by decide, by decide⟩ (fun r h10 hq => ?_)
          obtain ⟨qy, qn, fmc⟩ := hq
          have hb := (fmc _ (ninc (cne hb he (by simp)) nin0)).trans hb
          have hbb := (fmc _ (ninc (cne hbb he (by simp)) nin0)).trans hbb
          have fm := fm.call (by simp) fmc
          by_cases m11 : (mq F n (p60) (p + 2 + 1 + 2 + 1)).2 = true
          ·
            obtain ⟨rfl, he⟩ := qy m11
            have lm11 := mq_len _ _ m11
            have gm11 := (mq_le (F := F) (n := n) (A := p60) (p := p + 2 + 1 + 2 + 1) (by decide) (by omega))
            rw [lm11] at gm11
            have lxm11 : (p60).length = 2 := rfl
            refine ez_if_eq (tgt := 55) (by decide) d_Re_takeBlockTime_43 rfl (fun c43 => absurd c43 (by omega)) (fun c43 => ?_)
            refine ev_aload_n d_Re_takeBlockTime_46 rfl rfl ?_
            refine ev_bipush (v := iZ 44) d_Re_takeBlockTime_47 rfl ?_
            refine ev_callV M_Re_takeSign (rm 1 22) _ (As := [.int (iZ 44)]) (c_Re_takeSign G h10 xe b bb xf fo le n (p + 2 + 1 + 2 + 1 + 2) F (sz) (br) (v60 F n (p + 2 + 1 + 2 + 1) (v60 F n (p + 2 + 1) (v60 F n (p) (0)))) (st) (en) 44 he hb hbb hn (by omega) hF (by decide)) d_Re_takeBlockTime_49 mk_Re_takeSign ml_Re_87 mv_Re_takeSign he rfl rfl rfl (Nat.le_of_ble_eq_true rfl) ⟨by decide, by decide⟩ ⟨by decide, by decide⟩ (fun r h12 hq => ?_)
            obtain ⟨qy, qn, fmc⟩ := hq
            have hb := (fmc _ (ninc (cne hb he (by simp)) nin0)).trans hb
            have hbb := (fmc _ (ninc (cne hbb he (by simp)) nin0)).trans hbb
            have fm := fm.call (by simp) fmc
            by_cases m13 : (mq F n (sg 44) (p + 2 + 1 + 2 + 1 + 2)).2 = true
            ·
              obtain ⟨rfl, he⟩ := qy m13
              have lm13 := mq_len _ _ m13
              have gm13 := (mq_le (F := F) (n := n) (A := sg 44) (p := p + 2 + 1 + 2 + 1 + 2) (by decide) (by omega))
              rw [lm13] at gm13
              have lxm13 : (sg 44).length = 1 := rfl
              refine ez_if_ne (tgt := 57) (by decide) d_Re_takeBlockTime_52 rfl (fun c52 => ?_) (fun c52 => absurd c52 (by omega))
              refine ev_aload_n d_Re_takeBlockTime_57 rfl rfl ?_
              refine ev_bipush (v := iZ 57) d_Re_takeBlockTime_58 rfl ?_
              refine ev_callV M_Re_takeDigit (rm 1 22) _ (As := [.int (iZ 57)]) (c_Re_takeDigit G h12 xe b bb xf fo le n (p + 2 + 1 + 2 + 1 + 2 + 1) F (sz) (br) (v60 F n (p + 2 + 1 + 2 + 1) (v60 F n (p + 2 + 1) (v60 F n (p) (0)))) (st) (en) 57 he hb hbb hn (by omega) hF (by decide)) d_Re_takeBlockTime_60 mk_Re_takeDigit ml_Re_93 mv_Re_takeDigit he rfl rfl rfl (Nat.le_of_ble_eq_true rfl) ⟨by decide, by decide⟩ ⟨by decide, by decide⟩ (fun r h14 hq => ?_)
              obtain ⟨qy, qn, fmc⟩ := hq
              have hb := (fmc _ (ninc (cne hb he (by simp)) nin0)).trans hb
              have hbb := (fmc _ (ninc (cne hbb he (by simp)) nin0)).trans hbb
              have fm := fm.call (by simp) fmc
              by_cases m15 : (mq F n ([(48, 57)]) (p + 2 + 1 + 2 + 1 + 2 + 1)).2 = true
              ·
                obtain ⟨rfl, he⟩ := qy m15
                have lm15 := mq_len _ _ m15
                have gm15 := (mq_le (F := F) (n := n) (A := [(48, 57)]) (p := p + 2 + 1 + 2 + 1 + 2 + 1) (by decide) (by omega))
                rw [lm15] at gm15
                have lxm15 : ([(48, 57)]).length = 1 := rfl
                refine ez_if_eq (tgt := 84) (by decide) d_Re_takeBlockTime_63 rfl (fun c63 => absurd c63 (by omega)) (fun c63 => ?_)
                refine ev_aload_n d_Re_takeBlockTime_66 rfl rfl ?_
                refine ev_bipush (v := iZ 57) d_Re_takeBlockTime_67 rfl ?_
                refine ev_callV M_Re_takeDigit (rm 1 22) _ (As := [.int (iZ 57)]) (c_Re_takeDigit G h14 xe b bb xf fo le n (p + 2 + 1 + 2 + 1 + 2 + 1 + 1) F (sz) (br) ((v60 F n (p + 2 + 1 + 2 + 1) (v60 F n (p + 2 + 1) (v60 F n (p) (0)))) * 10 + (lk F n (p + 2 + 1 + 2 + 1 + 2 + 1) - 48)) (st) (en) 57 he hb hbb hn (by omega) hF (by decide)) d_Re_takeBlockTime_69 mk_Re_takeDigit ml_Re_93 mv_Re_takeDigit he rfl rfl rfl (Nat.le_of_ble_eq_true rfl) ⟨by decide, by decide⟩ ⟨by decide, by decide⟩ (fun r h16 hq => ?_)
                obtain ⟨qy, qn, fmc⟩ := hq
                have hb := (fmc _ (ninc (cne hb he (by simp)) nin0)).trans hb
                have hbb := (fmc _ (ninc (cne hbb he (by simp)) nin0)).trans hbb
                have fm := fm.call (by simp) fmc
                by_cases m17 : (mq F n ([(48, 57)]) (p + 2 + 1 + 2 + 1 + 2 + 1 + 1)).2 = true
                ·
                  obtain ⟨rfl, he⟩ := qy m17
                  have lm17 := mq_len _ _ m17
                  have gm17 := (mq_le (F := F) (n := n) (A := [(48, 57)]) (p := p + 2 + 1 + 2 + 1 + 2 + 1 + 1) (by decide) (by omega))
                  rw [lm17] at gm17
                  have lxm17 : ([(48, 57)]).length = 1 := rfl
                  refine ez_if_eq (tgt := 84) (by decide) d_Re_takeBlockTime_72 rfl (fun c72 => absurd c72 (by omega)) (fun c72 => ?_)
                  refine ev_aload_n d_Re_takeBlockTime_75 rfl rfl ?_
                  refine ev_bipush (v := iZ 57) d_Re_takeBlockTime_76 rfl ?_
                  refine ev_callV M_Re_takeDigit (rm 1 22) _ (As := [.int (iZ 57)]) (c_Re_takeDigit G h16 xe b bb xf fo le n (p + 2 + 1 + 2 + 1 + 2 + 1 + 1 + 1) F (sz) (br) (((v60 F n (p + 2 + 1 + 2 + 1) (v60 F n (p + 2 + 1) (v60 F n (p) (0)))) * 10 + (lk F n (p + 2 + 1 + 2 + 1 + 2 + 1) - 48)) * 10 + (lk F n (p + 2 + 1 + 2 + 1 + 2 + 1 + 1) - 48)) (st) (en) 57 he hb hbb hn (by omega) hF (by decide)) d_Re_takeBlockTime_78 mk_Re_takeDigit ml_Re_93 mv_Re_takeDigit he rfl rfl rfl (Nat.le_of_ble_eq_true rfl) ⟨by decide, by decide⟩ ⟨by decide, by decide⟩ (fun r h18 hq => ?_)
                  obtain ⟨qy, qn, fmc⟩ := hq
                  have hb := (fmc _ (ninc (cne hb he (by simp)) nin0)).trans hb
                  have hbb := (fmc _ (ninc (cne hbb he (by simp)) nin0)).trans hbb
                  have fm := fm.call (by simp) fmc
                  by_cases m19 : (mq F n ([(48, 57)]) (p + 2 + 1 + 2 + 1 + 2 + 1 + 1 + 1)).2 = true
                  ·
                    obtain ⟨rfl, he⟩ := qy m19
                    have lm19 := mq_len _ _ m19
                    have gm19 := (mq_le (F := F) (n := n) (A := [(48, 57)]) (p := p + 2 + 1 + 2 + 1 + 2 + 1 + 1 + 1) (by decide) (by omega))
                    rw [lm19] at gm19
                    have lxm19 : ([(48, 57)]).length = 1 := rfl
                    refine ez_if_ne (tgt := 86) (by decide) d_Re_takeBlockTime_81 rfl (fun c81 => ?_) (fun c81 => absurd c81 (by omega))
                    refine ev_aload_n d_Re_takeBlockTime_86 rfl rfl ?_
                    refine ev_dup d_Re_takeBlockTime_87 rfl ?_
                    refine ev_get d_Re_takeBlockTime_88 fl_Re_84 he rfl ?_
                    refine ev_ldc2 (v := lZ 705600) d_Re_takeBlockTime_91 kc_Re_96 ?_
                    refine ez_lmul d_Re_takeBlockTime_94 ?_
                    refine ev_put2 (fs' := [.ref b, .ref xf, .ref fo, .ref le, .int (iZ sz), .int (iZ br), .int (iZ ((p + 2 + 1 + 2 + 1 + 2 + 1 + 1 + 1 + 1 : Nat) : Int)), .long (lZ (((((v60 F n (p + 2 + 1 + 2 + 1) (v60 F n (p + 2 + 1) (v60 F n (p) (0)))) * 10 + (lk F n (p + 2 + 1 + 2 + 1 + 2 + 1) - 48)) * 10 + (lk F n (p + 2 + 1 + 2 + 1 + 2 + 1 + 1) - 48)) * 10 + (lk F n (p + 2 + 1 + 2 + 1 + 2 + 1 + 1 + 1) - 48)) * 705600)), .long (lZ st), .long (lZ en)]) d_Re_takeBlockTime_95 fw_Re_84 (Or.inr (fun _ _ _ q => by cases q; rfl)) he (Nat.le_of_ble_eq_true rfl) rfl rfl rfl (fun h20 h20a h20o => ?_)
                    have hb := (h20o _ (cne hb he (by simp))).trans hb
                    have hbb := (h20o _ (cne hbb he (by simp))).trans hbb
                    have he := h20a
                    have fm := fm.step (by simp) h20o
                    refine ev_iconst (v := iZ 1) d_Re_takeBlockTime_98 rfl ?_
                    have hm : (mq F n (patT) p).2 = true := by rw [patT, mq_app_ok (k := 2) m3 rfl, mq_app_ok (k := 1) m5 rfl, mq_app_ok (k := 2) m7 rfl, mq_app_ok (k := 1) m9 rfl, mq_app_ok (k := 2) m11 rfl, mq_app_ok (k := 1) m13 rfl, mq_app_ok (k := 1) m15 rfl, mq_app_ok (k := 1) m17 rfl]; exact m19
                    exact ev_zreturn d_Re_takeBlockTime_99 rfl (Or.inr rfl) (by decide) (by decide) (⟨fun _ => ⟨rfl, he⟩, fun q => absurd q (by rw [hm]; decide), fm⟩)
                  ·
                    replace m19 := Bool.eq_false_iff.mpr m19
                    obtain ⟨rfl, he⟩ := qn m19
                    have he : h18 xe = some (.inr (3, [.ref b, .ref xf, .ref fo, .ref le, .int (iZ sz), .int (iZ br), .int (iZ (((mq F n ([(48, 57)]) (p + 2 + 1 + 2 + 1 + 2 + 1 + 1 + 1)).1 : Nat) : Int)), .long (lZ (((v60 F n (p + 2 + 1 + 2 + 1) (v60 F n (p + 2 + 1) (v60 F n (p) (0)))) * 10 + (lk F n (p + 2 + 1 + 2 + 1 + 2 + 1) - 48)) * 10 + (lk F n (p + 2 + 1 + 2 + 1 + 2 + 1 + 1) - 48))), .long (lZ st), .long (lZ en)])) := by rw [mq1_f1 m19]; exact he
                    refine ez_if_ne (tgt := 86) (by decide) d_Re_takeBlockTime_81 rfl (fun c81 => absurd c81 (by omega)) (fun c81 => ?_)
                    refine ev_iconst (v := iZ 0) d_Re_takeBlockTime_84 rfl ?_
                    have hm : (mq F n (patT) p).2 = false := by rw [patT, mq_app_ok (k := 2) m3 rfl, mq_app_ok (k := 1) m5 rfl, mq_app_ok (k := 2) m7 rfl, mq_app_ok (k := 1) m9 rfl, mq_app_ok (k := 2) m11 rfl, mq_app_ok (k := 1) m13 rfl, mq_app_ok (k := 1) m15 rfl, mq_app_ok (k := 1) m17 rfl]; exact m19
                    skip
                    exact ev_zreturn d_Re_takeBlockTime_85 rfl (Or.inl rfl) (by decide) (by decide) (⟨fun q => absurd q (by rw [hm]; decide), fun _ => ⟨rfl, ((v60 F n (p + 2 + 1 + 2 + 1) (v60 F n (p + 2 + 1) (v60 F n (p) (0)))) * 10 + (lk F n (p + 2 + 1 + 2 + 1 + 2 + 1) - 48)) * 10 + (lk F n (p + 2 + 1 + 2 + 1 + 2 + 1 + 1) - 48), st, en, by rw [patT, mq_app_ok (k := 2) m3 rfl, mq_app_ok (k := 1) m5 rfl, mq_app_ok (k := 2) m7 rfl, mq_app_ok (k := 1) m9 rfl, mq_app_ok (k := 2) m11 rfl, mq_app_ok (k := 1) m13 rfl, mq_app_ok (k := 1) m15 rfl, mq_app_ok (k := 1) m17 rfl]; exact he⟩, fm⟩)
                ·
                  replace m17 := Bool.eq_false_iff.mpr m17
                  obtain ⟨rfl, he⟩ := qn m17
                  have he : h16 xe = some (.inr (3, [.ref b, .ref xf, .ref fo, .ref le, .int (iZ sz), .int (iZ br), .int (iZ (((mq F n ([(48, 57)]) (p + 2 + 1 + 2 + 1 + 2 + 1 + 1)).1 : Nat) : Int)), .long (lZ ((v60 F n (p + 2 + 1 + 2 + 1) (v60 F n (p + 2 + 1) (v60 F n (p) (0)))) * 10 + (lk F n (p + 2 + 1 + 2 + 1 + 2 + 1) - 48))), .long (lZ st), .long (lZ en)])) := by rw [mq1_f1 m17]; exact he
                  refine ez_if_eq (tgt := 84) (by decide) d_Re_takeBlockTime_72 rfl (fun c72 => ?_) (fun c72 => absurd c72 (by omega))
                  refine ev_iconst (v := iZ 0) d_Re_takeBlockTime_84 rfl ?_
                  have hm : (mq F n (patT) p).2 = false := by rw [patT, mq_app_ok (k := 2) m3 rfl, mq_app_ok (k := 1) m5 rfl, mq_app_ok (k := 2) m7 rfl, mq_app_ok (k := 1) m9 rfl, mq_app_ok (k := 2) m11 rfl, mq_app_ok (k := 1) m13 rfl, mq_app_ok (k := 1) m15 rfl, mq_app_no m17]; exact m17
                  skip
                  exact ev_zreturn d_Re_takeBlockTime_85 rfl (Or.inl rfl) (by decide) (by decide) (⟨fun q => absurd q (by rw [hm]; decide), fun _ => ⟨rfl, (v60 F n (p + 2 + 1 + 2 + 1) (v60 F n (p + 2 + 1) (v60 F n (p) (0)))) * 10 + (lk F n (p + 2 + 1 + 2 + 1 + 2 + 1) - 48), st, en, by rw [patT, mq_app_ok (k := 2) m3 rfl, mq_app_ok (k := 1) m5 rfl, mq_app_ok (k := 2) m7 rfl, mq_app_ok (k := 1) m9 rfl, mq_app_ok (k := 2) m11 rfl, mq_app_ok (k := 1) m13 rfl, mq_app_ok (k := 1) m15 rfl, mq_app_no m17]; exact he⟩, fm⟩)
              ·
                replace m15 := Bool.eq_false_iff.mpr m15
                obtain ⟨rfl, he⟩ := qn m15
                have he : h14 xe = some (.inr (3, [.ref b, .ref xf, .ref fo, .ref le, .int (iZ sz), .int (iZ br), .int (iZ (((mq F n ([(48, 57)]) (p + 2 + 1 + 2 + 1 + 2 + 1)).1 : Nat) : Int)), .long (lZ (v60 F n (p + 2 + 1 + 2 + 1) (v60 F n (p + 2 + 1) (v60 F n (p) (0))))), .long (lZ st), .long (lZ en)])) := by rw [mq1_f1 m15]; exact he
                refine ez_if_eq (tgt := 84) (by decide) d_Re_takeBlockTime_63 rfl (fun c63 => ?_) (fun c63 => absurd c63 (by omega))
                refine ev_iconst (v := iZ 0) d_Re_takeBlockTime_84 rfl ?_
                have hm : (mq F n (patT) p).2 = false := by rw [patT, mq_app_ok (k := 2) m3 rfl, mq_app_ok (k := 1) m5 rfl, mq_app_ok (k := 2) m7 rfl, mq_app_ok (k := 1) m9 rfl, mq_app_ok (k := 2) m11 rfl, mq_app_ok (k := 1) m13 rfl, mq_app_no m15]; exact m15
                skip
                exact ev_zreturn d_Re_takeBlockTime_85 rfl (Or.inl rfl) (by decide) (by decide) (⟨fun q => absurd q (by rw [hm]; decide), fun _ => ⟨rfl, v60 F n (p + 2 + 1 + 2 + 1) (v60 F n (p + 2 + 1) (v60 F n (p) (0))), st, en, by rw [patT, mq_app_ok (k := 2) m3 rfl, mq_app_ok (k := 1) m5 rfl, mq_app_ok (k := 2) m7 rfl, mq_app_ok (k := 1) m9 rfl, mq_app_ok (k := 2) m11 rfl, mq_app_ok (k := 1) m13 rfl, mq_app_no m15]; exact he⟩, fm⟩)
            ·
              replace m13 := Bool.eq_false_iff.mpr m13
              obtain ⟨rfl, he⟩ := qn m13
              have he : h12 xe = some (.inr (3, [.ref b, .ref xf, .ref fo, .ref le, .int (iZ sz), .int (iZ br), .int (iZ (((mq F n (sg 44) (p + 2 + 1 + 2 + 1 + 2)).1 : Nat) : Int)), .long (lZ (v60 F n (p + 2 + 1 + 2 + 1) (v60 F n (p + 2 + 1) (v60 F n (p) (0))))), .long (lZ st), .long (lZ en)])) := by rw [mq1_f1 m13]; exact he
              refine ez_if_ne (tgt := 57) (by decide) d_Re_takeBlockTime_52 rfl (fun c52 => absurd c52 (by omega)) (fun c52 => ?_)
              refine ev_iconst (v := iZ 0) d_Re_takeBlockTime_55 rfl ?_
              have hm : (mq F n (patT) p).2 = false := by rw [patT, mq_app_ok (k := 2) m3 rfl, mq_app_ok (k := 1) m5 rfl, mq_app_ok (k := 2) m7 rfl, mq_app_ok (k := 1) m9 rfl, mq_app_ok (k := 2) m11 rfl, mq_app_no m13]; exact m13
              skip
              exact ev_zreturn d_Re_takeBlockTime_56 rfl (Or.inl rfl) (by decide) (by decide) (⟨fun q => absurd q (by rw [hm]; decide), fun _ => ⟨rfl, v60 F n (p + 2 + 1 + 2 + 1) (v60 F n (p + 2 + 1) (v60 F n (p) (0))), st, en, by rw [patT, mq_app_ok (k := 2) m3 rfl, mq_app_ok (k := 1) m5 rfl, mq_app_ok (k := 2) m7 rfl, mq_app_ok (k := 1) m9 rfl, mq_app_ok (k := 2) m11 rfl, mq_app_no m13]; exact he⟩, fm⟩)
          ·
            replace m11 := Bool.eq_false_iff.mpr m11
            obtain ⟨rfl, tm', st', en', he⟩ := qn m11
            refine ez_if_eq (tgt := 55) (by decide) d_Re_takeBlockTime_43 rfl (fun c43 => ?_) (fun c43 => absurd c43 (by omega))
            refine ev_iconst (v := iZ 0) d_Re_takeBlockTime_55 rfl ?_
            have hm : (mq F n (patT) p).2 = false := by rw [patT, mq_app_ok (k := 2) m3 rfl, mq_app_ok (k := 1) m5 rfl, mq_app_ok (k := 2) m7 rfl, mq_app_ok (k := 1) m9 rfl, mq_app_no m11]; exact m11
            skip
            exact ev_zreturn d_Re_takeBlockTime_56 rfl (Or.inl rfl) (by decide) (by decide) (⟨fun q => absurd q (by rw [hm]; decide), fun _ => ⟨rfl, tm', st', en', by rw [patT, mq_app_ok (k := 2) m3 rfl, mq_app_ok (k := 1) m5 rfl, mq_app_ok (k := 2) m7 rfl, mq_app_ok (k := 1) m9 rfl, mq_app_no m11]; exact he⟩, fm⟩)
        ·
          replace m9 := Bool.eq_false_iff.mpr m9
          obtain ⟨rfl, he⟩ := qn m9
          have he : h8 xe = some (.inr (3, [.ref b, .ref xf, .ref fo, .ref le, .int (iZ sz), .int (iZ br), .int (iZ (((mq F n (sg 58) (p + 2 + 1 + 2)).1 : Nat) : Int)), .long (lZ (v60 F n (p + 2 + 1) (v60 F n (p) (0)))), .long (lZ st), .long (lZ en)])) := by rw [mq1_f1 m9]; exact he
          refine ez_if_ne (tgt := 39) (by decide) d_Re_takeBlockTime_34 rfl (fun c34 => absurd c34 (by omega)) (fun c34 => ?_)
          refine ev_iconst (v := iZ 0) d_Re_takeBlockTime_37 rfl ?_
          have hm : (mq F n (patT) p).2 = false := by rw [patT, mq_app_ok (k := 2) m3 rfl, mq_app_ok (k := 1) m5 rfl, mq_app_ok (k := 2) m7 rfl, mq_app_no m9]; exact m9
          skip
          exact ev_zreturn d_Re_takeBlockTime_38 rfl (Or.inl rfl) (by decide) (by decide) (⟨fun q => absurd q (by rw [hm]; decide), fun _ => ⟨rfl, v60 F n (p + 2 + 1) (v60 F n (p) (0)), st, en, by rw [patT, mq_app_ok (k := 2) m3 rfl, mq_app_ok (k := 1) m5 rfl, mq_app_ok (k := 2) m7 rfl, mq_app_no m9]; exact he⟩, fm⟩)
      ·
        replace m7 := Bool.eq_false_iff.mpr m7
        obtain ⟨rfl, tm', st', en', he⟩ := qn m7
        refine ez_if_eq (tgt := 37) (by decide) d_Re_takeBlockTime_25 rfl (fun c25 => ?_) (fun c25 => absurd c25 (by omega))
        refine ev_iconst (v := iZ 0) d_Re_takeBlockTime_37 rfl ?_
        have hm : (mq F n (patT) p).2 = false := by rw [patT, mq_app_ok (k := 2) m3 rfl, mq_app_ok (k := 1) m5 rfl, mq_app_no m7]; exact m7
        skip
        exact ev_zreturn d_Re_takeBlockTime_38 rfl (Or.inl rfl) (by decide) (by decide) (⟨fun q => absurd q (by rw [hm]; decide), fun _ => ⟨rfl, tm', st', en', by rw [patT, mq_app_ok (k := 2) m3 rfl, mq_app_ok (k := 1) m5 rfl, mq_app_no m7]; exact he⟩, fm⟩)
    ·
      replace m5 := Bool.eq_false_iff.mpr m5
      obtain ⟨rfl, he⟩ := qn m5
      have he : h4 xe = some (.inr (3, [.ref b, .ref xf, .ref fo, .ref le, .int (iZ sz), .int (iZ br), .int (iZ (((mq F n (sg 58) (p + 2)).1 : Nat) : Int)), .long (lZ (v60 F n (p) (0))), .long (lZ st), .long (lZ en)])) := by rw [mq1_f1 m5]; exact he
      refine ez_if_eq (tgt := 37) (by decide) d_Re_takeBlockTime_18 rfl (fun c18 => ?_) (fun c18 => absurd c18 (by omega))
      refine ev_iconst (v := iZ 0) d_Re_takeBlockTime_37 rfl ?_
      have hm : (mq F n (patT) p).2 = false := by rw [patT, mq_app_ok (k := 2) m3 rfl, mq_app_no m5]; exact m5
      skip
      exact ev_zreturn d_Re_takeBlockTime_38 rfl (Or.inl rfl) (by decide) (by decide) (⟨fun q => absurd q (by rw [hm]; decide), fun _ => ⟨rfl, v60 F n (p) (0), st, en, by rw [patT, mq_app_ok (k := 2) m3 rfl, mq_app_no m5]; exact he⟩, fm⟩)
  ·
    replace m3 := Bool.eq_false_iff.mpr m3
    obtain ⟨rfl, tm', st', en', he⟩ := qn m3
    refine ez_if_eq (tgt := 37) (by decide) d_Re_takeBlockTime_9 rfl (fun c9 => ?_) (fun c9 => absurd c9 (by omega))
    refine ev_iconst (v := iZ 0) d_Re_takeBlockTime_37 rfl ?_
    have hm : (mq F n (patT) p).2 = false := by rw [patT, mq_app_no m3]; exact m3
    skip
    exact ev_zreturn d_Re_takeBlockTime_38 rfl (Or.inl rfl) (by decide) (by decide) (⟨fun q => absurd q (by rw [hm]; decide), fun _ => ⟨rfl, tm', st', en', by rw [patT, mq_app_no m3]; exact he⟩, fm⟩)
set_option maxHeartbeats 4000000 in
set_option maxRecDepth 100000 in
theorem c_Re_takeBlockTimes (G : GT) (h : HM) (xe b bb xf fo le n p : Nat) (F : Nat → Int) (sz br tm st en : Int) (he : h xe = some (.inr (3, [.ref b, .ref xf, .ref fo, .ref le, .int (iZ sz), .int (iZ br), .int (iZ (p : Int)), .long (lZ tm), .long (lZ st), .long (lZ en)]))) (hb : h b = some (.inr (1, [.ref bb, .int (iZ (n : Int))]))) (hbb : h bb = some (.inl (G_i G, 1000, .inl (iA F)))) (hn : n ≤ 1000) (hp : p ≤ n) (hF : ∀ k, 0 ≤ F k ∧ F k ≤ 255) : Rn G M_Re_takeBlockTimes (rm 4 91) [.ref xe] h (fun r h' => ((mq F n (pat0) p).2 = true → r = some (.int (iZ 1)) ∧ h' xe = some (.inr (3, [.ref b, .ref xf, .ref fo, .ref le, .int (iZ sz), .int (iZ br), .int (iZ ((p + 28 : Nat) : Int)), .long (lZ (clk F n (p + 15))), .long (lZ (clk F n p)), .long (lZ (clk F n (p + 15)))]))) ∧ ((mq F n (pat0) p).2 = false → r = some (.int (iZ 0)) ∧ ∃ tm' st' en' : Int, h' xe = some (.inr (3, [.ref b, .ref xf, .ref fo, .ref le, .int (iZ sz), .int (iZ br), .int (iZ (((mq F n (pat0) p).1 : Nat) : Int)), .long (lZ tm'), .long (lZ st'), .long (lZ en')]))) ∧ Fm [xe] h h') := by
  refine rn_of (by decide) (Nat.le_of_ble_eq_true rfl) ?_
  show Ev G M_Re_takeBlockTimes _ _ 0 [(0, .ref xe)] [] _ 0 0
  have fm : Fm [xe] h h := Fm.rf
  refine ev_aload_n d_Re_takeBlockTimes_0 rfl rfl ?_
  refine ev_callV M_Re_takeBlockTime (rm 3 68) _ (As := []) (c_Re_takeBlockTime G h xe b bb xf fo le n (p) F (sz) (br) (tm) (st) (en) he hb hbb hn (by omega) hF) d_Re_takeBlockTimes_1 mk_Re_takeBlockTime ml_Re_81 mv_Re_takeBlockTime he rfl rfl rfl (Nat.le_of_ble_eq_true rfl) ⟨by decide, by decide⟩ ⟨by decide, by decide⟩ (fun r h1 hq => ?_)
  obtain ⟨qy, qn, fmc⟩ := hq
  have hb := (fmc _ (ninc (cne hb he (by simp)) nin0)).trans hb
  have hbb := (fmc _ (ninc (cne hbb he (by simp)) nin0)).trans hbb
  have fm := fm.call (by simp) fmc
  by_cases m2 : (mq F n (patT) (p)).2 = true
  ·
    obtain ⟨rfl, he⟩ := qy m2
    have lm2 := mq_len _ _ m2
    have gm2 := (mq_le (F := F) (n := n) (A := patT) (p := p) (by decide) (by omega))
    rw [lm2] at gm2
    have lxm2 : (patT).length = 12 := rfl
    refine ez_if_ne (tgt := 9) (by decide) d_Re_takeBlockTimes_4 rfl (fun c4 => ?_) (fun c4 => absurd c4 (by omega))
    refine ev_aload_n d_Re_takeBlockTimes_9 rfl rfl ?_
    refine ev_aload_n d_Re_takeBlockTimes_10 rfl rfl ?_
    refine ev_get d_Re_takeBlockTimes_11 fl_Re_84 he rfl ?_
    refine ev_put2 (fs' := [.ref b, .ref xf, .ref fo, .ref le, .int (iZ sz), .int (iZ br), .int (iZ ((p + 12 : Nat) : Int)), .long (lZ (clk F n (p))), .long (lZ (clk F n (p))), .long (lZ en)]) d_Re_takeBlockTimes_14 fw_Re_51 (Or.inr (fun _ _ _ q => by cases q; rfl)) he (Nat.le_of_ble_eq_true rfl) rfl rfl rfl (fun h3 h3a h3o => ?_)
    have hb := (h3o _ (cne hb he (by simp))).trans hb
    have hbb := (h3o _ (cne hbb he (by simp))).trans hbb
    have he := h3a
    have fm := fm.step (by simp) h3o
    refine ev_aload_n d_Re_takeBlockTimes_17 rfl rfl ?_
    refine ev_bipush (v := iZ 32) d_Re_takeBlockTimes_18 rfl ?_
    refine ev_callV M_Re_takeSign (rm 1 22) _ (As := [.int (iZ 32)]) (c_Re_takeSign G h3 xe b bb xf fo le n (p + 12) F (sz) (br) (clk F n (p)) (clk F n (p)) (en) 32 he hb hbb hn (by omega) hF (by decide)) d_Re_takeBlockTimes_20 mk_Re_takeSign ml_Re_87 mv_Re_takeSign he rfl rfl rfl (Nat.le_of_ble_eq_true rfl) ⟨by decide, by decide⟩ ⟨by decide, by decide⟩ (fun r h4 hq => ?_)
    obtain ⟨qy, qn, fmc⟩ := hq
    have hb := (fmc _ (ninc (cne hb he (by simp)) nin0)).trans hb
    have hbb := (fmc _ (ninc (cne hbb he (by simp)) nin0)).trans hbb
    have fm := fm.call (by simp) fmc
    by_cases m5 : (mq F n (sg 32) (p + 12)).2 = true
    ·
      obtain ⟨rfl, he⟩ := qy m5
      have lm5 := mq_len _ _ m5
      have gm5 := (mq_le (F := F) (n := n) (A := sg 32) (p := p + 12) (by decide) (by omega))
      rw [lm5] at gm5
      have lxm5 : (sg 32).length = 1 := rfl
      refine ez_if_eq (tgt := 44) (by decide) d_Re_takeBlockTimes_23 rfl (fun c23 => absurd c23 (by omega)) (fun c23 => ?_)
      refine ev_aload_n d_Re_takeBlockTimes_26 rfl rfl ?_
      refine ev_bipush (v := iZ 62) d_Re_takeBlockTimes_27 rfl ?_
      refine ev_callV M_Re_takeSign (rm 1 22) _ (As := [.int (iZ 62)]) (c_Re_takeSign G h4 xe b bb xf fo le n (p + 12 + 1) F (sz) (br) (clk F n (p)) (clk F n (p)) (en) 62 he hb hbb hn (by omega) hF (by decide)) d_Re_takeBlockTimes_29 mk_Re_takeSign ml_Re_87 mv_Re_takeSign he rfl rfl rfl (Nat.le_of_ble_eq_true rfl) ⟨by decide, by decide⟩ ⟨by decide, by decide⟩ (fun r h6 hq => ?_)
      obtain ⟨qy, qn, fmc⟩ := hq
      have hb := (fmc _ (ninc (cne hb he (by simp)) nin0)).trans hb
      have hbb := (fmc _ (ninc (cne hbb he (by simp)) nin0)).trans hbb
      have fm := fm.call (by simp) fmc
      by_cases m7 : (mq F n (sg 62) (p + 12 + 1)).2 = true
      ·
        obtain ⟨rfl, he⟩ := qy m7
        have lm7 := mq_len _ _ m7
        have gm7 := (mq_le (F := F) (n := n) (A := sg 62) (p := p + 12 + 1) (by decide) (by omega))
        rw [lm7] at gm7
        have lxm7 : (sg 62).length = 1 := rfl
        refine ez_if_eq (tgt := 44) (by decide) d_Re_takeBlockTimes_32 rfl (fun c32 => absurd c32 (by omega)) (fun c32 => ?_)
        refine ev_aload_n d_Re_takeBlockTimes_35 rfl rfl ?_
        refine ev_bipush (v := iZ 32) d_Re_takeBlockTimes_36 rfl ?_
        refine ev_callV M_Re_takeSign (rm 1 22) _ (As := [.int (iZ 32)]) (c_Re_takeSign G h6 xe b bb xf fo le n (p + 12 + 1 + 1) F (sz) (br) (clk F n (p)) (clk F n (p)) (en) 32 he hb hbb hn (by omega) hF (by decide)) d_Re_takeBlockTimes_38 mk_Re_takeSign ml_Re_87 mv_Re_takeSign he rfl rfl rfl (Nat.le_of_ble_eq_true rfl) ⟨by decide, by decide⟩ ⟨by decide, by decide⟩ (fun r h8 hq => ?_)
        obtain ⟨qy, qn, fmc⟩ := hq
        have hb := (fmc _ (ninc (cne hb he (by simp)) nin0)).trans hb
        have hbb := (fmc _ (ninc (cne hbb he (by simp)) nin0)).trans hbb
        have fm := fm.call (by simp) fmc
        by_cases m9 : (mq F n (sg 32) (p + 12 + 1 + 1)).2 = true
        ·
          obtain ⟨rfl, he⟩ := qy m9
          have lm9 := mq_len _ _ m9
          have gm9 := (mq_le (F := F) (n := n) (A := sg 32) (p := p + 12 + 1 + 1) (by decide) (by omega))
          rw [lm9] at gm9
          have lxm9 : (sg 32).length = 1 := rfl
          refine ez_if_ne (tgt := 46) (by decide) d_Re_takeBlockTimes_41 rfl (fun c41 => ?_) (fun c41 => absurd c41 (by omega))
          refine ev_aload_n d_Re_takeBlockTimes_46 rfl rfl ?_
          refine ev_callV M_Re_takeBlockTime (rm 3 68) _ (As := []) (c_Re_takeBlockTime G h8 xe b bb xf fo le n (p + 12 + 1 + 1 + 1) F (sz) (br) (clk F n (p)) (clk F n (p)) (en) he hb hbb hn (by omega) hF) d_Re_takeBlockTimes_47 mk_Re_takeBlockTime ml_Re_81 mv_Re_takeBlockTime he rfl rfl rfl (Nat.le_of_ble_eq_true rfl) ⟨by decide, by decide⟩ ⟨by decide, by decide⟩ (fun r h10 hq => ?_)
          obtain ⟨qy, qn, fmc⟩ := hq
          have hb := (fmc _ (ninc (cne hb he (by simp)) nin0)).trans hb
          have hbb := (fmc _ (ninc (cne hbb he (by simp)) nin0)).trans hbb
          have fm := fm.call (by simp) fmc
          by_cases m11 : (mq F n (patT) (p + 12 + 1 + 1 + 1)).2 = true
          ·
            obtain ⟨rfl, he⟩ := qy m11
            have lm11 := mq_len _ _ m11
            have gm11 := (mq_le (F := F) (n := n) (A := patT) (p := p + 12 + 1 + 1 + 1) (by decide) (by omega))
            rw [lm11] at gm11
            have lxm11 : (patT).length = 12 := rfl
            refine ez_if_ne (tgt := 55) (by decide) d_Re_takeBlockTimes_50 rfl (fun c50 => ?_) (fun c50 => absurd c50 (by omega))
            refine ev_aload_n d_Re_takeBlockTimes_55 rfl rfl ?_
            refine ev_aload_n d_Re_takeBlockTimes_56 rfl rfl ?_
            refine ev_get d_Re_takeBlockTimes_57 fl_Re_84 he rfl ?_
            refine ev_put2 (fs' := [.ref b, .ref xf, .ref fo, .ref le, .int (iZ sz), .int (iZ br), .int (iZ ((p + 12 + 1 + 1 + 1 + 12 : Nat) : Int)), .long (lZ (clk F n (p + 12 + 1 + 1 + 1))), .long (lZ (clk F n (p))), .long (lZ (clk F n (p + 12 + 1 + 1 + 1)))]) d_Re_takeBlockTimes_60 fw_Re_55 (Or.inr (fun _ _ _ q => by cases q; rfl)) he (Nat.le_of_ble_eq_true rfl) rfl rfl rfl (fun h12 h12a h12o => ?_)
            have hb := (h12o _ (cne hb he (by simp))).trans hb
            have hbb := (h12o _ (cne hbb he (by simp))).trans hbb
            have he := h12a
            have fm := fm.step (by simp) h12o
            refine ev_aload_n d_Re_takeBlockTimes_63 rfl rfl ?_
            refine ev_bipush (v := iZ 10) d_Re_takeBlockTimes_64 rfl ?_
            refine ev_callV M_Re_takeSign (rm 1 22) _ (As := [.int (iZ 10)]) (c_Re_takeSign G h12 xe b bb xf fo le n (p + 12 + 1 + 1 + 1 + 12) F (sz) (br) (clk F n (p + 12 + 1 + 1 + 1)) (clk F n (p)) (clk F n (p + 12 + 1 + 1 + 1)) 10 he hb hbb hn (by omega) hF (by decide)) d_Re_takeBlockTimes_66 mk_Re_takeSign ml_Re_87 mv_Re_takeSign he rfl rfl rfl (Nat.le_of_ble_eq_true rfl) ⟨by decide, by decide⟩ ⟨by decide, by decide⟩ (fun r h13 hq => ?_)
            obtain ⟨qy, qn, fmc⟩ := hq
            have hb := (fmc _ (ninc (cne hb he (by simp)) nin0)).trans hb
            have hbb := (fmc _ (ninc (cne hbb he (by simp)) nin0)).trans hbb
            have fm := fm.call (by simp) fmc
            by_cases m14 : (mq F n (sg 10) (p + 12 + 1 + 1 + 1 + 12)).2 = true
            ·
              obtain ⟨rfl, he⟩ := qy m14
              have lm14 := mq_len _ _ m14
              have gm14 := (mq_le (F := F) (n := n) (A := sg 10) (p := p + 12 + 1 + 1 + 1 + 12) (by decide) (by omega))
              rw [lm14] at gm14
              have lxm14 : (sg 10).length = 1 := rfl
              have hm : (mq F n (pat0) p).2 = true := by rw [pat0, mq_app_ok (k := 12) m2 rfl, mq_app_ok (k := 1) m5 rfl, mq_app_ok (k := 1) m7 rfl, mq_app_ok (k := 1) m9 rfl, mq_app_ok (k := 12) m11 rfl]; exact m14
              exact ev_zreturn d_Re_takeBlockTimes_69 rfl (Or.inr rfl) (by decide) (by decide) (⟨fun _ => ⟨rfl, he⟩, fun q => absurd q (by rw [hm]; decide), fm⟩)
            ·
              replace m14 := Bool.eq_false_iff.mpr m14
              obtain ⟨rfl, he⟩ := qn m14
              have he : h13 xe = some (.inr (3, [.ref b, .ref xf, .ref fo, .ref le, .int (iZ sz), .int (iZ br), .int (iZ (((mq F n (sg 10) (p + 12 + 1 + 1 + 1 + 12)).1 : Nat) : Int)), .long (lZ (clk F n (p + 12 + 1 + 1 + 1))), .long (lZ (clk F n (p))), .long (lZ (clk F n (p + 12 + 1 + 1 + 1)))])) := by rw [mq1_f1 m14]; exact he
              have hm : (mq F n (pat0) p).2 = false := by rw [pat0, mq_app_ok (k := 12) m2 rfl, mq_app_ok (k := 1) m5 rfl, mq_app_ok (k := 1) m7 rfl, mq_app_ok (k := 1) m9 rfl, mq_app_ok (k := 12) m11 rfl]; exact m14
              skip
              exact ev_zreturn d_Re_takeBlockTimes_69 rfl (Or.inl rfl) (by decide) (by decide) (⟨fun q => absurd q (by rw [hm]; decide), fun _ => ⟨rfl, clk F n (p + 12 + 1 + 1 + 1), clk F n (p), clk F n (p + 12 + 1 + 1 + 1), by rw [pat0, mq_app_ok (k := 12) m2 rfl, mq_app_ok (k := 1) m5 rfl, mq_app_ok (k := 1) m7 rfl, mq_app_ok (k := 1) m9 rfl, mq_app_ok (k := 12) m11 rfl]; exact he⟩, fm⟩)
          ·
            replace m11 := Bool.eq_false_iff.mpr m11
            obtain ⟨rfl, tm', st', en', he⟩ := qn m11
            refine ez_if_ne (tgt := 55) (by decide) d_Re_takeBlockTimes_50 rfl (fun c50 => absurd c50 (by omega)) (fun c50 => ?_)
            refine ev_iconst (v := iZ 0) d_Re_takeBlockTimes_53 rfl ?_
            have hm : (mq F n (pat0) p).2 = false := by rw [pat0, mq_app_ok (k := 12) m2 rfl, mq_app_ok (k := 1) m5 rfl, mq_app_ok (k := 1) m7 rfl, mq_app_ok (k := 1) m9 rfl, mq_app_no m11]; exact m11
            skip
            exact ev_zreturn d_Re_takeBlockTimes_54 rfl (Or.inl rfl) (by decide) (by decide) (⟨fun q => absurd q (by rw [hm]; decide), fun _ => ⟨rfl, tm', st', en', by rw [pat0, mq_app_ok (k := 12) m2 rfl, mq_app_ok (k := 1) m5 rfl, mq_app_ok (k := 1) m7 rfl, mq_app_ok (k := 1) m9 rfl, mq_app_no m11]; exact he⟩, fm⟩)
        ·
          replace m9 := Bool.eq_false_iff.mpr m9
          obtain ⟨rfl, he⟩ := qn m9
          have he : h8 xe = some (.inr (3, [.ref b, .ref xf, .ref fo, .ref le, .int (iZ sz), .int (iZ br), .int (iZ (((mq F n (sg 32) (p + 12 + 1 + 1)).1 : Nat) : Int)), .long (lZ (clk F n (p))), .long (lZ (clk F n (p))), .long (lZ en)])) := by rw [mq1_f1 m9]; exact he
          refine ez_if_ne (tgt := 46) (by decide) d_Re_takeBlockTimes_41 rfl (fun c41 => absurd c41 (by omega)) (fun c41 => ?_)
          refine ev_iconst (v := iZ 0) d_Re_takeBlockTimes_44 rfl ?_
          have hm : (mq F n (pat0) p).2 = false := by rw [pat0, mq_app_ok (k := 12) m2 rfl, mq_app_ok (k := 1) m5 rfl, mq_app_ok (k := 1) m7 rfl, mq_app_no m9]; exact m9
          skip
          exact ev_zreturn d_Re_takeBlockTimes_45 rfl (Or.inl rfl) (by decide) (by decide) (⟨fun q => absurd q (by rw [hm]; decide), fun _ => ⟨rfl, clk F n (p), clk F n (p), en, by rw [pat0, mq_app_ok (k := 12) m2 rfl, mq_app_ok (k := 1) m5 rfl, mq_app_ok (k := 1) m7 rfl, mq_app_no m9]; exact he⟩, fm⟩)
      ·
        replace m7 := Bool.eq_false_iff.mpr m7
        obtain ⟨rfl, he⟩ := qn m7
        have he : h6 xe = some (.inr (3, [.ref b, .ref xf, .ref fo, .ref le, .int (iZ sz), .int (iZ br), .int (iZ (((mq F n (sg 62) (p + 12 + 1)).1 : Nat) : Int)), .long (lZ (clk F n (p))), .long (lZ (clk F n (p))), .long (lZ en)])) := by rw [mq1_f1 m7]; exact he
        refine ez_if_eq (tgt := 44) (by decide) d_Re_takeBlockTimes_32 rfl (fun c32 => ?_) (fun c32 => absurd c32 (by omega))
        refine ev_iconst (v := iZ 0) d_Re_takeBlockTimes_44 rfl ?_
        have hm : (mq F n (pat0) p).2 = false := by rw [pat0, mq_app_ok (k := 12) m2 rfl, mq_app_ok (k := 1) m5 rfl, mq_app_no m7]; exact m7
        skip
        exact ev_zreturn d_Re_takeBlockTimes_45 rfl (Or.inl rfl) (by decide) (by decide) (⟨fun q => absurd q (by rw [hm]; decide), fun _ => ⟨rfl, clk F n (p), clk F n (p), en, by rw [pat0, mq_app_ok (k := 12) m2 rfl, mq_app_ok (k := 1) m5 rfl, mq_app_no m7]; exact he⟩, fm⟩)
    ·
      replace m5 := Bool.eq_false_iff.mpr m5
      obtain ⟨rfl, he⟩ := qn m5
      have he : h4 xe = some (.inr (3, [.ref b, .ref xf, .ref fo, .ref le, .int (iZ sz), .int (iZ br), .int (iZ (((mq F n (sg 32) (p + 12)).1 : Nat) : Int)), .long (lZ (clk F n (p))), .long (lZ (clk F n (p))), .long (lZ en)])) := by rw [mq1_f1 m5]; exact he
      refine ez_if_eq (tgt := 44) (by decide) d_Re_takeBlockTimes_23 rfl (fun c23 => ?_) (fun c23 => absurd c23 (by omega))
      refine ev_iconst (v := iZ 0) d_Re_takeBlockTimes_44 rfl ?_
      have hm : (mq F n (pat0) p).2 = false := by rw [pat0, mq_app_ok (k := 12) m2 rfl, mq_app_no m5]; exact m5
      skip
      exact ev_zreturn d_Re_takeBlockTimes_45 rfl (Or.inl rfl) (by decide) (by decide) (⟨fun q => absurd q (by rw [hm]; decide), fun _ => ⟨rfl, clk F n (p), clk F n (p), en, by rw [pat0, mq_app_ok (k := 12) m2 rfl, mq_app_no m5]; exact he⟩, fm⟩)
  ·
    replace m2 := Bool.eq_false_iff.mpr m2
    obtain ⟨rfl, tm', st', en', he⟩ := qn m2
    refine ez_if_ne (tgt := 9) (by decide) d_Re_takeBlockTimes_4 rfl (fun c4 => absurd c4 (by omega)) (fun c4 => ?_)
    refine ev_iconst (v := iZ 0) d_Re_takeBlockTimes_7 rfl ?_
    have hm : (mq F n (pat0) p).2 = false := by rw [pat0, mq_app_no m2]; exact m2
    skip
    exact ev_zreturn d_Re_takeBlockTimes_8 rfl (Or.inl rfl) (by decide) (by decide) (⟨fun q => absurd q (by rw [hm]; decide), fun _ => ⟨rfl, tm', st', en', by rw [pat0, mq_app_no m2]; exact he⟩, fm⟩)
theorem ab_t {F : Nat → Int} {n p : Nat} (hF : ∀ k, 0 ≤ F k ∧ F k ≤ 255) (h : lk F n p ≠ -1) : (mq F n ab p).2 = true := mq1_iff.mpr (by have := lk_r (n := n) hF p; show 0 ≤ lk F n p ∧ lk F n p ≤ 255; omega)
theorem ab_f {F : Nat → Int} {n p : Nat} (h : lk F n p = -1) : (mq F n ab p).2 = false := by
  rw [mq1_f (by show ¬ (0 ≤ lk F n p ∧ lk F n p ≤ 255); omega)]
theorem ab_f1 {F : Nat → Int} {n p : Nat} (h : lk F n p = -1) : (mq F n ab p).1 = p := by
  rw [mq1_f (by show ¬ (0 ≤ lk F n p ∧ lk F n p ≤ 255); omega)]
theorem mq_b {F : Nat → Int} {n p : Nat} {A : List (Int × Int)} {q : Nat} {o : Bool} (h : mq F n A p = (q, o)) : (mq F n A p).1 = q ∧ (mq F n A p).2 = o := by rw [h]; exact ⟨rfl, rfl⟩
set_option maxHeartbeats 4000000 in
set_option maxRecDepth 100000 in
theorem c_Re_takeFrames (G : GT) (h : HM) (xe b bb xf fo le n p : Nat) (F : Nat → Int) (sz br tm st en : Int) (num den tk : Int) (he : h xe = some (.inr (3, [.ref b, .ref xf, .ref fo, .ref le, .int (iZ sz), .int (iZ br), .int (iZ (p : Int)), .long (lZ tm), .long (lZ st), .long (lZ en)]))) (hb : h b = some (.inr (1, [.ref bb, .int (iZ (n : Int))]))) (hbb : h bb = some (.inl (G_i G, 1000, .inl (iA F)))) (hf : h xf = some (.inr (5, [.int (iZ num), .int (iZ den), .long (lZ tk)]))) (hn : n ≤ 1000) (hp : p ≤ n) (hF : ∀ k, 0 ≤ F k ∧ F k ≤ 255) : Rn G M_Re_takeFrames (rm 2 45) [.ref xe] h (fun r h' => ((frP F n p).2 = true → r = some (.int (iZ 1)) ∧ h' xe = some (.inr (3, [.ref b, .ref xf, .ref fo, .ref le, .int (iZ sz), .int (iZ br), .int (iZ (((frP F n p).1 : Nat) : Int)), .long (lZ (frV F n p * tk)), .long (lZ st), .long (lZ en)]))) ∧ ((frP F n p).2 = false → r = some (.int (iZ 0)) ∧ ∃ tm' st' en' : Int, h' xe = some (.inr (3, [.ref b, .ref xf, .ref fo, .ref le, .int (iZ sz), .int (iZ br), .int (iZ (((frP F n p).1 : Nat) : Int)), .long (lZ tm'), .long (lZ st'), .long (lZ en')]))) ∧ Fm [xe] h h') := by
  refine rn_of (by decide) (Nat.le_of_ble_eq_true rfl) ?_
  show Ev G M_Re_takeFrames _ _ 0 [(0, .ref xe)] [] _ 0 0
  have fm : Fm [xe] h h := Fm.rf
  refine ev_aload_n d_Re_takeFrames_0 rfl rfl ?_
  refine ev_lconst (v := lZ 0) d_Re_takeFrames_1 rfl ?_
  refine ev_put2 (fs' := [.ref b, .ref xf, .ref fo, .ref le, .int (iZ sz), .int (iZ br), .int (iZ (p : Int)), .long (lZ 0), .long (lZ st), .long (lZ en)]) d_Re_takeFrames_2 fw_Re_84 (Or.inr (fun _ _ _ q => by cases q; rfl)) he (Nat.le_of_ble_eq_true rfl) rfl rfl rfl (fun h1 h1a h1o => ?_)
  have hb := (h1o _ (cne hb he (by simp))).trans hb
  have hbb := (h1o _ (cne hbb he (by simp))).trans hbb
  have hf := (h1o _ (cne hf he (by simp))).trans hf
  have he := h1a
  have fm := fm.step (by simp) h1o
  refine ev_aload_n d_Re_takeFrames_5 rfl rfl ?_
  refine ev_bipush (v := iZ 123) d_Re_takeFrames_6 rfl ?_
  refine ev_callV M_Re_takeSign (rm 1 22) _ (As := [.int (iZ 123)]) (c_Re_takeSign G h1 xe b bb xf fo le n (p) F (sz) (br) (0) (st) (en) 123 he hb hbb hn (by omega) hF (by decide)) d_Re_takeFrames_8 mk_Re_takeSign ml_Re_87 mv_Re_takeSign he rfl rfl rfl (Nat.le_of_ble_eq_true rfl) ⟨by decide, by decide⟩ ⟨by decide, by decide⟩ (fun r h2 hq => ?_)
  obtain ⟨qy, qn, fmc⟩ := hq
  have hb := (fmc _ (ninc (cne hb he (by simp)) nin0)).trans hb
  have hbb := (fmc _ (ninc (cne hbb he (by simp)) nin0)).trans hbb
  have hf := (fmc _ (ninc (cne hf he (by simp)) nin0)).trans hf
  have fm := fm.call (by simp) fmc
  by_cases m3 : (mq F n (sg 123) (p)).2 = true
  ·
    obtain ⟨rfl, he⟩ := qy m3
    have lm3 := mq_len _ _ m3
    have gm3 := (mq_le (F := F) (n := n) (A := sg 123) (p := p) (by decide) (by omega))
    rw [lm3] at gm3
    have lxm3 : (sg 123).length = 1 := rfl
    refine ez_if_eq (tgt := 23) (by decide) d_Re_takeFrames_11 rfl (fun c11 => absurd c11 (by omega)) (fun c11 => ?_)
    refine ev_aload_n d_Re_takeFrames_14 rfl rfl ?_
    refine ev_bipush (v := iZ 57) d_Re_takeFrames_15 rfl ?_
    refine ev_callV M_Re_takeDigit (rm 1 22) _ (As := [.int (iZ 57)]) (c_Re_takeDigit G h2 xe b bb xf fo le n (p + 1) F (sz) (br) (0) (st) (en) 57 he hb hbb hn (by omega) hF (by decide)) d_Re_takeFrames_17 mk_Re_takeDigit ml_Re_93 mv_Re_takeDigit he rfl rfl rfl (Nat.le_of_ble_eq_true rfl) ⟨by decide, by decide⟩ ⟨by decide, by decide⟩ (fun r h4 hq => ?_)
    obtain ⟨qy, qn, fmc⟩ := hq
    have hb := (fmc _ (ninc (cne hb he (by simp)) nin0)).trans hb
    have hbb := (fmc _ (ninc (cne hbb he (by simp)) nin0)).trans hbb
    have hf := (fmc _ (ninc (cne hf he (by simp)) nin0)).trans hf
    have fm := fm.call (by simp) fmc
    by_cases m5 : (mq F n ([(48, 57)]) (p + 1)).2 = true
    ·
      obtain ⟨rfl, he⟩ := qy m5
      have lm5 := mq_len _ _ m5
      have gm5 := (mq_le (F := F) (n := n) (A := [(48, 57)]) (p := p + 1) (by decide) (by omega))
      rw [lm5] at gm5
      have lxm5 : ([(48, 57)]).length = 1 := rfl
      refine ez_if_ne (tgt := 25) (by decide) d_Re_takeFrames_20 rfl (fun c20 => ?_) (fun c20 => absurd c20 (by omega))
      refine ev_iconst (v := iZ 1) d_Re_takeFrames_25 rfl ?_
      refine ev_istore_n (L' := [(0, .ref xe), (1, .int (iZ 1))]) d_Re_takeFrames_26 rfl (by decide) rfl ?_
      refine ev_iload_n d_Re_takeFrames_27 rfl rfl ?_
      refine ev_bipush (v := iZ 6) d_Re_takeFrames_28 rfl ?_
      refine ez_icmp_ge (tgt := 51) (by decide) (by decide) d_Re_takeFrames_30 rfl (fun c30 => absurd c30 (by omega)) (fun c30 => ?_)
      refine ev_aload_n d_Re_takeFrames_33 rfl rfl ?_
      refine ev_bipush (v := iZ 57) d_Re_takeFrames_34 rfl ?_
      refine ev_callV M_Re_takeDigit (rm 1 22) _ (As := [.int (iZ 57)]) (c_Re_takeDigit G h4 xe b bb xf fo le n (p + 1 + 1) F (sz) (br) (0 * 10 + (lk F n (p + 1) - 48)) (st) (en) 57 he hb hbb hn (by omega) hF (by decide)) d_Re_takeFrames_36 mk_Re_takeDigit ml_Re_93 mv_Re_takeDigit he rfl rfl rfl (Nat.le_of_ble_eq_true rfl) ⟨by decide, by decide⟩ ⟨by decide, by decide⟩ (fun r h6 hq => ?_)
      obtain ⟨qy, qn, fmc⟩ := hq
      have hb := (fmc _ (ninc (cne hb he (by simp)) nin0)).trans hb
      have hbb := (fmc _ (ninc (cne hbb he (by simp)) nin0)).trans hbb
      have hf := (fmc _ (ninc (cne hf he (by simp)) nin0)).trans hf
      have fm := fm.call (by simp) fmc
      by_cases m7 : (mq F n ([(48, 57)]) (p + 1 + 1)).2 = true
      ·
        obtain ⟨rfl, he⟩ := qy m7
        have lm7 := mq_len _ _ m7
        have gm7 := (mq_le (F := F) (n := n) (A := [(48, 57)]) (p := p + 1 + 1) (by decide) (by omega))
        rw [lm7] at gm7
        have lxm7 : ([(48, 57)]).length = 1 := rfl
        refine ez_if_ne (tgt := 45) (by decide) d_Re_takeFrames_39 rfl (fun c39 => ?_) (fun c39 => absurd c39 (by omega))
        refine ez_iinc (L' := [(0, .ref xe), (1, .int (iZ 2))]) d_Re_takeFrames_45 rfl (by decide) rfl ?_
        refine ev_goto (tgt := 27) d_Re_takeFrames_48 rfl ?_
        refine ev_iload_n d_Re_takeFrames_27 rfl rfl ?_
        refine ev_bipush (v := iZ 6) d_Re_takeFrames_28 rfl ?_
        refine ez_icmp_ge (tgt := 51) (by decide) (by decide) d_Re_takeFrames_30 rfl (fun c30 => absurd c30 (by omega)) (fun c30 => ?_)
        refine ev_aload_n d_Re_takeFrames_33 rfl rfl ?_
        refine ev_bipush (v := iZ 57) d_Re_takeFrames_34 rfl ?_
        refine ev_callV M_Re_takeDigit (rm 1 22) _ (As := [.int (iZ 57)]) (c_Re_takeDigit G h6 xe b bb xf fo le n (p + 1 + 1 + 1) F (sz) (br) ((0 * 10 + (lk F n (p + 1) - 48)) * 10 + (lk F n (p + 1 + 1) - 48)) (st) (en) 57 he hb hbb hn (by omega) hF (by decide)) d_Re_takeFrames_36 mk_Re_takeDigit ml_Re_93 mv_Re_takeDigit he rfl rfl rfl (Nat.le_of_ble_eq_true rfl) ⟨by decide, by decide⟩ ⟨by decide, by decide⟩ (fun r h8 hq => ?_)
        obtain ⟨qy, qn, fmc⟩ := hq
        have hb := (fmc _ (ninc (cne hb he (by simp)) nin0)).trans hb
        have hbb := (fmc _ (ninc (cne hbb he (by simp)) nin0)).trans hbb
        have hf := (fmc _ (ninc (cne hf he (by simp)) nin0)).trans hf
        have fm := fm.call (by simp) fmc
        by_cases m9 : (mq F n ([(48, 57)]) (p + 1 + 1 + 1)).2 = true
        ·
          obtain ⟨rfl, he⟩ := qy m9
          have lm9 := mq_len _ _ m9
          have gm9 := (mq_le (F := F) (n := n) (A := [(48, 57)]) (p := p + 1 + 1 + 1) (by decide) (by omega))
          rw [lm9] at gm9
          have lxm9 : ([(48, 57)]).length = 1 := rfl
          refine ez_if_ne (tgt := 45) (by decide) d_Re_takeFrames_39 rfl (fun c39 => ?_) (fun c39 => absurd c39 (by omega))
          refine ez_iinc (L' := [(0, .ref xe), (1, .int (iZ 3))]) d_Re_takeFrames_45 rfl (by decide) rfl ?_
          refine ev_goto (tgt := 27) d_Re_takeFrames_48 rfl ?_
          refine ev_iload_n d_Re_takeFrames_27 rfl rfl ?_
          refine ev_bipush (v := iZ 6) d_Re_takeFrames_28 rfl ?_
          refine ez_icmp_ge (tgt := 51) (by decide) (by decide) d_Re_takeFrames_30 rfl (fun c30 => absurd c30 (by omega)) (fun c30 => ?_)
          refine ev_aload_n d_Re_takeFrames_33 rfl rfl ?_
          refine ev_bipush (v := iZ 57) d_Re_takeFrames_34 rfl ?_
          refine ev_callV M_Re_takeDigit (rm 1 22) _ (As := [.int (iZ 57)]) (c_Re_takeDigit G h8 xe b bb xf fo le n (p + 1 + 1 + 1 + 1) F (sz) (br) (((0 * 10 + (lk F n (p + 1) - 48)) * 10 + (lk F n (p + 1 + 1) - 48)) * 10 + (lk F n (p + 1 + 1 + 1) - 48)) (st) (en) 57 he hb hbb hn (by omega) hF (by decide)) d_Re_takeFrames_36 mk_Re_takeDigit ml_Re_93 mv_Re_takeDigit he rfl rfl rfl (Nat.le_of_ble_eq_true rfl) ⟨by decide, by decide⟩ ⟨by decide, by decide⟩ (fun r h10 hq => ?_)
          obtain ⟨qy, qn, fmc⟩ := hq
          have hb := (fmc _ (ninc (cne hb he (by simp)) nin0)).trans hb
          have hbb := (fmc _ (ninc (cne hbb he (by simp)) nin0)).trans hbb
          have hf := (fmc _ (ninc (cne hf he (by simp)) nin0)).trans hf
          have fm := fm.call (by simp) fmc
          by_cases m11 : (mq F n ([(48, 57)]) (p + 1 + 1 + 1 + 1)).2 = true
          ·
            obtain ⟨rfl, he⟩ := qy m11
            have lm11 := mq_len _ _ m11
            have gm11 := (mq_le (F := F) (n := n) (A := [(48, 57)]) (p := p + 1 + 1 + 1 + 1) (by decide) (by omega))
            rw [lm11] at gm11
            have lxm11 : ([(48, 57)]).length = 1 := rfl
            refine ez_if_ne (tgt := 45) (by decide) d_Re_takeFrames_39 rfl (fun c39 => ?_) (fun c39 => absurd c39 (by omega))
            refine ez_iinc (L' := [(0, .ref xe), (1, .int (iZ 4))]) d_Re_takeFrames_45 rfl (by decide) rfl ?_
            refine ev_goto (tgt := 27) d_Re_takeFrames_48 rfl ?_
            refine ev_iload_n d_Re_takeFrames_27 rfl rfl ?_
            refine ev_bipush (v := iZ 6) d_Re_takeFrames_28 rfl ?_
            refine ez_icmp_ge (tgt := 51) (by decide) (by decide) d_Re_takeFrames_30 rfl (fun c30 => absurd c30 (by omega)) (fun c30 => ?_)
            refine ev_aload_n d_Re_takeFrames_33 rfl rfl ?_
            refine ev_bipush (v := iZ 57) d_Re_takeFrames_34 rfl ?_
            refine ev_callV M_Re_takeDigit (rm 1 22) _ (As := [.int (iZ 57)]) (c_Re_takeDigit G h10 xe b bb xf fo le n (p + 1 + 1 + 1 + 1 + 1) F (sz) (br) ((((0 * 10 + (lk F n (p + 1) - 48)) * 10 + (lk F n (p + 1 + 1) - 48)) * 10 + (lk F n (p + 1 + 1 + 1) - 48)) * 10 + (lk F n (p + 1 + 1 + 1 + 1) - 48)) (st) (en) 57 he hb hbb hn (by omega) hF (by decide)) d_Re_takeFrames_36 mk_Re_takeDigit ml_Re_93 mv_Re_takeDigit he rfl rfl rfl (Nat.le_of_ble_eq_true rfl) ⟨by decide, by decide⟩ ⟨by decide, by decide⟩ (fun r h12 hq => ?_)
            obtain ⟨qy, qn, fmc⟩ := hq
            have hb := (fmc _ (ninc (cne hb he (by simp)) nin0)).trans hb
            have hbb := (fmc _ (ninc (cne hbb he (by simp)) nin0)).trans hbb
            have hf := (fmc _ (ninc (cne hf he (by simp)) nin0)).trans hf
            have fm := fm.call (by simp) fmc
            by_cases m13 : (mq F n ([(48, 57)]) (p + 1 + 1 + 1 + 1 + 1)).2 = true
            ·
              obtain ⟨rfl, he⟩ := qy m13
              have lm13 := mq_len _ _ m13
              have gm13 := (mq_le (F := F) (n := n) (A := [(48, 57)]) (p := p + 1 + 1 + 1 + 1 + 1) (by decide) (by omega))
              rw [lm13] at gm13
              have lxm13 : ([(48, 57)]).length = 1 := rfl
              refine ez_if_ne (tgt := 45) (by decide) d_Re_takeFrames_39 rfl (fun c39 => ?_) (fun c39 => absurd c39 (by omega))
              refine ez_iinc (L' := [(0, .ref xe), (1, .int (iZ 5))]) d_Re_takeFrames_45 rfl (by decide) rfl ?_
              refine ev_goto (tgt := 27) d_Re_takeFrames_48 rfl ?_
              refine ev_iload_n d_Re_takeFrames_27 rfl rfl ?_
              refine ev_bipush (v := iZ 6) d_Re_takeFrames_28 rfl ?_
              refine ez_icmp_ge (tgt := 51) (by decide) (by decide) d_Re_takeFrames_30 rfl (fun c30 => absurd c30 (by omega)) (fun c30 => ?_)
              refine ev_aload_n d_Re_takeFrames_33 rfl rfl ?_
              refine ev_bipush (v := iZ 57) d_Re_takeFrames_34 rfl ?_
              refine ev_callV M_Re_takeDigit (rm 1 22) _ (As := [.int (iZ 57)]) (c_Re_takeDigit G h12 xe b bb xf fo le n (p + 1 + 1 + 1 + 1 + 1 + 1) F (sz) (br) (((((0 * 10 + (lk F n (p + 1) - 48)) * 10 + (lk F n (p + 1 + 1) - 48)) * 10 + (lk F n (p + 1 + 1 + 1) - 48)) * 10 + (lk F n (p + 1 + 1 + 1 + 1) - 48)) * 10 + (lk F n (p + 1 + 1 + 1 + 1 + 1) - 48)) (st) (en) 57 he hb hbb hn (by omega) hF (by decide)) d_Re_takeFrames_36 mk_Re_takeDigit ml_Re_93 mv_Re_takeDigit he rfl rfl rfl (Nat.le_of_ble_eq_true rfl) ⟨by decide, by decide⟩ ⟨by decide, by decide⟩ (fun r h14 hq => ?_)
              obtain ⟨qy, qn, fmc⟩ := hq
              have hb := (fmc _ (ninc (cne hb he (by simp)) nin0)).trans hb
              have hbb := (fmc _ (ninc (cne hbb he (by simp)) nin0)).trans hbb
              have hf := (fmc _ (ninc (cne hf he (by simp)) nin0)).trans hf
              have fm := fm.call (by simp) fmc
              by_cases m15 : (mq F n ([(48, 57)]) (p + 1 + 1 + 1 + 1 + 1 + 1)).2 = true
              ·
                obtain ⟨rfl, he⟩ := qy m15
                have lm15 := mq_len _ _ m15
                have gm15 := (mq_le (F := F) (n := n) (A := [(48, 57)]) (p := p + 1 + 1 + 1 + 1 + 1 + 1) (by decide) (by omega))
                rw [lm15] at gm15
                have lxm15 : ([(48, 57)]).length = 1 := rfl
                refine ez_if_ne (tgt := 45) (by decide) d_Re_takeFrames_39 rfl (fun c39 => ?_) (fun c39 => absurd c39 (by omega))
                refine ez_iinc (L' := [(0, .ref xe), (1, .int (iZ 6))]) d_Re_takeFrames_45 rfl (by decide) rfl ?_
                refine ev_goto (tgt := 27) d_Re_takeFrames_48 rfl ?_
                refine ev_iload_n d_Re_takeFrames_27 rfl rfl ?_
                refine ev_bipush (v := iZ 6) d_Re_takeFrames_28 rfl ?_
                refine ez_icmp_ge (tgt := 51) (by decide) (by decide) d_Re_takeFrames_30 rfl (fun c30 => ?_) (fun c30 => absurd c30 (by omega))
                refine ev_aload_n d_Re_takeFrames_51 rfl rfl ?_
                refine ev_dup d_Re_takeFrames_52 rfl ?_
                refine ev_get d_Re_takeFrames_53 fl_Re_84 he rfl ?_
                refine ev_aload_n d_Re_takeFrames_56 rfl rfl ?_
                refine ev_get d_Re_takeFrames_57 fl_Re_26 he rfl ?_
                refine ev_get d_Re_takeFrames_60 fl_Re_110 hf rfl ?_
                refine ez_lmul d_Re_takeFrames_63 ?_
                refine ev_put2 (fs' := [.ref b, .ref xf, .ref fo, .ref le, .int (iZ sz), .int (iZ br), .int (iZ ((p + 1 + 1 + 1 + 1 + 1 + 1 + 1 : Nat) : Int)), .long (lZ (((((((0 * 10 + (lk F n (p + 1) - 48)) * 10 + (lk F n (p + 1 + 1) - 48)) * 10 + (lk F n (p + 1 + 1 + 1) - 48)) * 10 + (lk F n (p + 1 + 1 + 1 + 1) - 48)) * 10 + (lk F n (p + 1 + 1 + 1 + 1 + 1) - 48)) * 10 + (lk F n (p + 1 + 1 + 1 + 1 + 1 + 1) - 48)) * tk)), .long (lZ st), .long (lZ en)]) d_Re_takeFrames_64 fw_Re_84 (Or.inr (fun _ _ _ q => by cases q; rfl)) he (Nat.le_of_ble_eq_true rfl) rfl rfl rfl (fun h16 h16a h16o => ?_)
                have hb := (h16o _ (cne hb he (by simp))).trans hb
                have hbb := (h16o _ (cne hbb he (by simp))).trans hbb
                have hf := (h16o _ (cne hf he (by simp))).trans hf
                have he := h16a
                have fm := fm.step (by simp) h16o
                refine ev_aload_n d_Re_takeFrames_67 rfl rfl ?_
                refine ev_bipush (v := iZ 125) d_Re_takeFrames_68 rfl ?_
                refine ev_callV M_Re_takeSign (rm 1 22) _ (As := [.int (iZ 125)]) (c_Re_takeSign G h16 xe b bb xf fo le n (p + 1 + 1 + 1 + 1 + 1 + 1 + 1) F (sz) (br) (((((((0 * 10 + (lk F n (p + 1) - 48)) * 10 + (lk F n (p + 1 + 1) - 48)) * 10 + (lk F n (p + 1 + 1 + 1) - 48)) * 10 + (lk F n (p + 1 + 1 + 1 + 1) - 48)) * 10 + (lk F n (p + 1 + 1 + 1 + 1 + 1) - 48)) * 10 + (lk F n (p + 1 + 1 + 1 + 1 + 1 + 1) - 48)) * tk) (st) (en) 125 he hb hbb hn (by omega) hF (by decide)) d_Re_takeFrames_70 mk_Re_takeSign ml_Re_87 mv_Re_takeSign he rfl rfl rfl (Nat.le_of_ble_eq_true rfl) ⟨by decide, by decide⟩ ⟨by decide, by decide⟩ (fun r h17 hq => ?_)
                obtain ⟨qy, qn, fmc⟩ := hq
                have hb := (fmc _ (ninc (cne hb he (by simp)) nin0)).trans hb
                have hbb := (fmc _ (ninc (cne hbb he (by simp)) nin0)).trans hbb
                have hf := (fmc _ (ninc (cne hf he (by simp)) nin0)).trans hf
                have fm := fm.call (by simp) fmc
                by_cases m18 : (mq F n (sg 125) (p + 1 + 1 + 1 + 1 + 1 + 1 + 1)).2 = true
                ·
                  obtain ⟨rfl, he⟩ := qy m18
                  have lm18 := mq_len _ _ m18
                  have gm18 := (mq_le (F := F) (n := n) (A := sg 125) (p := p + 1 + 1 + 1 + 1 + 1 + 1 + 1) (by decide) (by omega))
                  rw [lm18] at gm18
                  have lxm18 : (sg 125).length = 1 := rfl
                  have hm : (mq F n (sg 123 ++ dg9) p).2 = true := by rw [mq_app_ok (k := 1) m3 rfl]; exact m5
                  have hdn : dn F n 5 (p + 2) = 5 := by rw [dn, if_pos m7, dn, if_pos m9, dn, if_pos m11, dn, if_pos m13, dn, if_pos m15, dn]
                  have hf9 : frP F n p = mq F n (sg 125) (p + 2 + 5) := by rw [frP, if_pos hm, hdn]
                  have hv : frV F n p = ((((((0 * 10 + (lk F n (p + 1) - 48)) * 10 + (lk F n (p + 1 + 1) - 48)) * 10 + (lk F n (p + 1 + 1 + 1) - 48)) * 10 + (lk F n (p + 1 + 1 + 1 + 1) - 48)) * 10 + (lk F n (p + 1 + 1 + 1 + 1 + 1) - 48)) * 10 + (lk F n (p + 1 + 1 + 1 + 1 + 1 + 1) - 48)) := by rw [frV, dv, if_pos m7, dv, if_pos m9, dv, if_pos m11, dv, if_pos m13, dv, if_pos m15, dv]
                  have hq1 : (frP F n p).1 = p + 2 + 5 + 1 := by rw [hf9]; exact mq_len _ _ m18
                  exact ev_zreturn d_Re_takeFrames_73 rfl (Or.inr rfl) (by decide) (by decide) (⟨fun _ => ⟨rfl, by rw [hq1, hv]; exact he⟩, fun q => absurd q (by rw [hf9, m18]; decide), fm⟩)
                ·
                  replace m18 := Bool.eq_false_iff.mpr m18
                  obtain ⟨rfl, he⟩ := qn m18
                  have he : h17 xe = some (.inr (3, [.ref b, .ref xf, .ref fo, .ref le, .int (iZ sz), .int (iZ br), .int (iZ (((mq F n (sg 125) (p + 1 + 1 + 1 + 1 + 1 + 1 + 1)).1 : Nat) : Int)), .long (lZ (((((((0 * 10 + (lk F n (p + 1) - 48)) * 10 + (lk F n (p + 1 + 1) - 48)) * 10 + (lk F n (p + 1 + 1 + 1) - 48)) * 10 + (lk F n (p + 1 + 1 + 1 + 1) - 48)) * 10 + (lk F n (p + 1 + 1 + 1 + 1 + 1) - 48)) * 10 + (lk F n (p + 1 + 1 + 1 + 1 + 1 + 1) - 48)) * tk)), .long (lZ st), .long (lZ en)])) := by rw [mq1_f1 m18]; exact he
                  have hm : (mq F n (sg 123 ++ dg9) p).2 = true := by rw [mq_app_ok (k := 1) m3 rfl]; exact m5
                  have hdn : dn F n 5 (p + 2) = 5 := by rw [dn, if_pos m7, dn, if_pos m9, dn, if_pos m11, dn, if_pos m13, dn, if_pos m15, dn]
                  have hf9 : frP F n p = mq F n (sg 125) (p + 2 + 5) := by rw [frP, if_pos hm, hdn]
                  exact ev_zreturn d_Re_takeFrames_73 rfl (Or.inl rfl) (by decide) (by decide) (⟨fun q => absurd q (by rw [hf9]; exact fun w => by rw [m18] at w; cases w), fun _ => ⟨rfl, ((((((0 * 10 + (lk F n (p + 1) - 48)) * 10 + (lk F n (p + 1 + 1) - 48)) * 10 + (lk F n (p + 1 + 1 + 1) - 48)) * 10 + (lk F n (p + 1 + 1 + 1 + 1) - 48)) * 10 + (lk F n (p + 1 + 1 + 1 + 1 + 1) - 48)) * 10 + (lk F n (p + 1 + 1 + 1 + 1 + 1 + 1) - 48)) * tk, st, en, by rw [hf9]; exact he⟩, fm⟩)
              ·
                replace m15 := Bool.eq_false_iff.mpr m15
                obtain ⟨rfl, he⟩ := qn m15
                refine ez_if_ne (tgt := 45) (by decide) d_Re_takeFrames_39 rfl (fun c39 => absurd c39 (by omega)) (fun c39 => ?_)
                refine ev_goto (tgt := 51) d_Re_takeFrames_42 rfl ?_
                refine ev_aload_n d_Re_takeFrames_51 rfl rfl ?_
                refine ev_dup d_Re_takeFrames_52 rfl ?_
                refine ev_get d_Re_takeFrames_53 fl_Re_84 he rfl ?_
                refine ev_aload_n d_Re_takeFrames_56 rfl rfl ?_
                refine ev_get d_Re_takeFrames_57 fl_Re_26 he rfl ?_
                refine ev_get d_Re_takeFrames_60 fl_Re_110 hf rfl ?_
                refine ez_lmul d_Re_takeFrames_63 ?_
                refine ev_put2 (fs' := [.ref b, .ref xf, .ref fo, .ref le, .int (iZ sz), .int (iZ br), .int (iZ ((p + 1 + 1 + 1 + 1 + 1 + 1 : Nat) : Int)), .long (lZ ((((((0 * 10 + (lk F n (p + 1) - 48)) * 10 + (lk F n (p + 1 + 1) - 48)) * 10 + (lk F n (p + 1 + 1 + 1) - 48)) * 10 + (lk F n (p + 1 + 1 + 1 + 1) - 48)) * 10 + (lk F n (p + 1 + 1 + 1 + 1 + 1) - 48)) * tk)), .long (lZ st), .long (lZ en)]) d_Re_takeFrames_64 fw_Re_84 (Or.inr (fun _ _ _ q => by cases q; rfl)) he (Nat.le_of_ble_eq_true rfl) rfl rfl rfl (fun h19 h19a h19o => ?_)
                have hb := (h19o _ (cne hb he (by simp))).trans hb
                have hbb := (h19o _ (cne hbb he (by simp))).trans hbb
                have hf := (h19o _ (cne hf he (by simp))).trans hf
                have he := h19a
                have fm := fm.step (by simp) h19o
                refine ev_aload_n d_Re_takeFrames_67 rfl rfl ?_
                refine ev_bipush (v := iZ 125) d_Re_takeFrames_68 rfl ?_
                refine ev_callV M_Re_takeSign (rm 1 22) _ (As := [.int (iZ 125)]) (c_Re_takeSign G h19 xe b bb xf fo le n (p + 1 + 1 + 1 + 1 + 1 + 1) F (sz) (br) ((((((0 * 10 + (lk F n (p + 1) - 48)) * 10 + (lk F n (p + 1 + 1) - 48)) * 10 + (lk F n (p + 1 + 1 + 1) - 48)) * 10 + (lk F n (p + 1 + 1 + 1 + 1) - 48)) * 10 + (lk F n (p + 1 + 1 + 1 + 1 + 1) - 48)) * tk) (st) (en) 125 he hb hbb hn (by omega) hF (by decide)) d_Re_takeFrames_70 mk_Re_takeSign ml_Re_87 mv_Re_takeSign he rfl rfl rfl (Nat.le_of_ble_eq_true rfl) ⟨by decide, by decide⟩ ⟨by decide, by decide⟩ (fun r h20 hq => ?_)
                obtain ⟨qy, qn, fmc⟩ := hq
                have hb := (fmc _ (ninc (cne hb he (by simp)) nin0)).trans hb
                have hbb := (fmc _ (ninc (cne hbb he (by simp)) nin0)).trans hbb
                have hf := (fmc _ (ninc (cne hf he (by simp)) nin0)).trans hf
                have fm := fm.call (by simp) fmc
                by_cases m21 : (mq F n (sg 125) (p + 1 + 1 + 1 + 1 + 1 + 1)).2 = true
                ·
                  obtain ⟨rfl, he⟩ := qy m21
                  have lm21 := mq_len _ _ m21
                  have gm21 := (mq_le (F := F) (n := n) (A := sg 125) (p := p + 1 + 1 + 1 + 1 + 1 + 1) (by decide) (by omega))
                  rw [lm21] at gm21
                  have lxm21 : (sg 125).length = 1 := rfl
                  have hm : (mq F n (sg 123 ++ dg9) p).2 = true := by rw [mq_app_ok (k := 1) m3 rfl]; exact m5
                  have hdn : dn F n 5 (p + 2) = 4 := by rw [dn, if_pos m7, dn, if_pos m9, dn, if_pos m11, dn, if_pos m13, dn, if_neg (by rw [m15]; decide)]
                  have hf9 : frP F n p = mq F n (sg 125) (p + 2 + 4) := by rw [frP, if_pos hm, hdn]
                  have hv : frV F n p = (((((0 * 10 + (lk F n (p + 1) - 48)) * 10 + (lk F n (p + 1 + 1) - 48)) * 10 + (lk F n (p + 1 + 1 + 1) - 48)) * 10 + (lk F n (p + 1 + 1 + 1 + 1) - 48)) * 10 + (lk F n (p + 1 + 1 + 1 + 1 + 1) - 48)) := by rw [frV, dv, if_pos m7, dv, if_pos m9, dv, if_pos m11, dv, if_pos m13, dv, if_neg (by rw [m15]; decide)]
                  have hq1 : (frP F n p).1 = p + 2 + 4 + 1 := by rw [hf9]; exact mq_len _ _ m21
                  exact ev_zreturn d_Re_takeFrames_73 rfl (Or.inr rfl) (by decide) (by decide) (⟨fun _ => ⟨rfl, by rw [hq1, hv]; exact he⟩, fun q => absurd q (by rw [hf9, m21]; decide), fm⟩)
                ·
                  replace m21 := Bool.eq_false_iff.mpr m21
                  obtain ⟨rfl, he⟩ := qn m21
                  have he : h20 xe = some (.inr (3, [.ref b, .ref xf, .ref fo, .ref le, .int (iZ sz), .int (iZ br), .int (iZ (((mq F n (sg 125) (p + 1 + 1 + 1 + 1 + 1 + 1)).1 : Nat) : Int)), .long (lZ ((((((0 * 10 + (lk F n (p + 1) - 48)) * 10 + (lk F n (p + 1 + 1) - 48)) * 10 + (lk F n (p + 1 + 1 + 1) - 48)) * 10 + (lk F n (p + 1 + 1 + 1 + 1) - 48)) * 10 + (lk F n (p + 1 + 1 + 1 + 1 + 1) - 48)) * tk)), .long (lZ st), .long (lZ en)])) := by rw [mq1_f1 m21]; exact he
                  have hm : (mq F n (sg 123 ++ dg9) p).2 = true := by rw [mq_app_ok (k := 1) m3 rfl]; exact m5
                  have hdn : dn F n 5 (p + 2) = 4 := by rw [dn, if_pos m7, dn, if_pos m9, dn, if_pos m11, dn, if_pos m13, dn, if_neg (by rw [m15]; decide)]
                  have hf9 : frP F n p = mq F n (sg 125) (p + 2 + 4) := by rw [frP, if_pos hm, hdn]
                  exact ev_zreturn d_Re_takeFrames_73 rfl (Or.inl rfl) (by decide) (by decide) (⟨fun q => absurd q (by rw [hf9]; exact fun w => by rw [m21] at w; cases w), fun _ => ⟨rfl, (((((0 * 10 + (lk F n (p + 1) - 48)) * 10 + (lk F n (p + 1 + 1) - 48)) * 10 + (lk F n (p + 1 + 1 + 1) - 48)) * 10 + (lk F n (p + 1 + 1 + 1 + 1) - 48)) * 10 + (lk F n (p + 1 + 1 + 1 + 1 + 1) - 48)) * tk, st, en, by rw [hf9]; exact he⟩, fm⟩)
            ·
              replace m13 := Bool.eq_false_iff.mpr m13
              obtain ⟨rfl, he⟩ := qn m13
              refine ez_if_ne (tgt := 45) (by decide) d_Re_takeFrames_39 rfl (fun c39 => absurd c39 (by omega)) (fun c39 => ?_)
              refine ev_goto (tgt := 51) d_Re_takeFrames_42 rfl ?_
              refine ev_aload_n d_Re_takeFrames_51 rfl rfl ?_
              refine ev_dup d_Re_takeFrames_52 rfl ?_
              refine ev_get d_Re_takeFrames_53 fl_Re_84 he rfl ?_
              refine ev_aload_n d_Re_takeFrames_56 rfl rfl ?_
              refine ev_get d_Re_takeFrames_57 fl_Re_26 he rfl ?_
              refine ev_get d_Re_takeFrames_60 fl_Re_110 hf rfl ?_
              refine ez_lmul d_Re_takeFrames_63 ?_
              refine ev_put2 (fs' := [.ref b, .ref xf, .ref fo, .ref le, .int (iZ sz), .int (iZ br), .int (iZ ((p + 1 + 1 + 1 + 1 + 1 : Nat) : Int)), .long (lZ (((((0 * 10 + (lk F n (p + 1) - 48)) * 10 + (lk F n (p + 1 + 1) - 48)) * 10 + (lk F n (p + 1 + 1 + 1) - 48)) * 10 + (lk F n (p + 1 + 1 + 1 + 1) - 48)) * tk)), .long (lZ st), .long (lZ en)]) d_Re_takeFrames_64 fw_Re_84 (Or.inr (fun _ _ _ q => by cases q; rfl)) he (Nat.le_of_ble_eq_true rfl) rfl rfl rfl (fun h22 h22a h22o => ?_)
              have hb := (h22o _ (cne hb he (by simp))).trans hb
              have hbb := (h22o _ (cne hbb he (by simp))).trans hbb
              have hf := (h22o _ (cne hf he (by simp))).trans hf
              have he := h22a
              have fm := fm.step (by simp) h22o
              refine ev_aload_n d_Re_takeFrames_67 rfl rfl ?_
              refine ev_bipush (v := iZ 125) d_Re_takeFrames_68 rfl ?_
              refine ev_callV M_Re_takeSign (rm 1 22) _ (As := [.int (iZ 125)]) (c_Re_takeSign G h22 xe b bb xf fo le n (p + 1 + 1 + 1 + 1 + 1) F (sz) (br) (((((0 * 10 + (lk F n (p + 1) - 48)) * 10 + (lk F n (p + 1 + 1) - 48)) * 10 + (lk F n (p + 1 + 1 + 1) - 48)) * 10 + (lk F n (p + 1 + 1 + 1 + 1) - 48)) * tk) (st) (en) 125 he hb hbb hn (by omega) hF (by decide)) d_Re_takeFrames_70 mk_Re_takeSign ml_Re_87 mv_Re_takeSign he rfl rfl rfl (Nat.le_of_ble_eq_true rfl) ⟨by decide, by decide⟩ ⟨by decide, by decide⟩ (fun r h23 hq => ?_)
              obtain ⟨qy, qn, fmc⟩ := hq
              have hb := (fmc _ (ninc (cne hb he (by simp)) nin0)).trans hb
              have hbb := (fmc _ (ninc (cne hbb he (by simp)) nin0)).trans hbb
              have hf := (fmc _ (ninc (cne hf he (by simp)) nin0)).trans hf
              have fm := fm.call (by simp) fmc
              by_cases m24 : (mq F n (sg 125) (p + 1 + 1 + 1 + 1 + 1)).2 = true
              ·
                obtain ⟨rfl, he⟩ := qy m24
                have lm24 := mq_len _ _ m24
                have gm24 := (mq_le (F := F) (n := n) (A := sg 125) (p := p + 1 + 1 + 1 + 1 + 1) (by decide) (by omega))
                rw [lm24] at gm24
                have lxm24 : (sg 125).length = 1 := rfl
                have hm : (mq F n (sg 123 ++ dg9) p).2 = true := by rw [mq_app_ok (k := 1) m3 rfl]; exact m5
                have hdn : dn F n 5 (p + 2) = 3 := by rw [dn, if_pos m7, dn, if_pos m9, dn, if_pos m11, dn, if_neg (by rw [m13]; decide)]
                have hf9 : frP F n p = mq F n (sg 125) (p + 2 + 3) := by rw [frP, if_pos hm, hdn]
                have hv : frV F n p = ((((0 * 10 + (lk F n (p + 1) - 48)) * 10 + (lk F n (p + 1 + 1) - 48)) * 10 + (lk F n (p + 1 + 1 + 1) - 48)) * 10 + (lk F n (p + 1 + 1 + 1 + 1) - 48)) := by rw [frV, dv, if_pos m7, dv, if_pos m9, dv, if_pos m11, dv, if_neg (by rw [m13]; decide)]
                have hq1 : (frP F n p).1 = p + 2 + 3 + 1 := by rw [hf9]; exact mq_len _ _ m24
                exact ev_zreturn d_Re_takeFrames_73 rfl (Or.inr rfl) (by decide) (by decide) (⟨fun _ => ⟨rfl, by rw [hq1, hv]; exact he⟩, fun q => absurd q (by rw [hf9, m24]; decide), fm⟩)
              ·
                replace m24 := Bool.eq_false_iff.mpr m24
                obtain ⟨rfl, he⟩ := qn m24
                have he : h23 xe = some (.inr (3, [.ref b, .ref xf, .ref fo, .ref le, .int (iZ sz), .int (iZ br), .int (iZ (((mq F n (sg 125) (p + 1 + 1 + 1 + 1 + 1)).1 : Nat) : Int)), .long (lZ (((((0 * 10 + (lk F n (p + 1) - 48)) * 10 + (lk F n (p + 1 + 1) - 48)) * 10 + (lk F n (p + 1 + 1 + 1) - 48)) * 10 + (lk F n (p + 1 + 1 + 1 + 1) - 48)) * tk)), .long (lZ st), .long (lZ en)])) := by rw [mq1_f1 m24]; exact he
                have hm : (mq F n (sg 123 ++ dg9) p).2 = true := by rw [mq_app_ok (k := 1) m3 rfl]; exact m5
                have hdn : dn F n 5 (p + 2) = 3 := by rw [dn, if_pos m7, dn, if_pos m9, dn, if_pos m11, dn, if_neg (by rw [m13]; decide)]
                have hf9 : frP F n p = mq F n (sg 125) (p + 2 + 3) := by rw [frP, if_pos hm, hdn]
                exact ev_zreturn d_Re_takeFrames_73 rfl (Or.inl rfl) (by decide) (by decide) (⟨fun q => absurd q (by rw [hf9]; exact fun w => by rw [m24] at w; cases w), fun _ => ⟨rfl, ((((0 * 10 + (lk F n (p + 1) - 48)) * 10 + (lk F n (p + 1 + 1) - 48)) * 10 + (lk F n (p + 1 + 1 + 1) - 48)) * 10 + (lk F n (p + 1 + 1 + 1 + 1) - 48)) * tk, st, en, by rw [hf9]; exact he⟩, fm⟩)
          ·
            replace m11 := Bool.eq_false_iff.mpr m11
            obtain ⟨rfl, he⟩ := qn m11
            refine ez_if_ne (tgt := 45) (by decide) d_Re_takeFrames_39 rfl (fun c39 => absurd c39 (by omega)) (fun c39 => ?_)
            refine ev_goto (tgt := 51) d_Re_takeFrames_42 rfl ?_
            refine ev_aload_n d_Re_takeFrames_51 rfl rfl ?_
            refine ev_dup d_Re_takeFrames_52 rfl ?_
            refine ev_get d_Re_takeFrames_53 fl_Re_84 he rfl ?_
            refine ev_aload_n d_Re_takeFrames_56 rfl rfl ?_
            refine ev_get d_Re_takeFrames_57 fl_Re_26 he rfl ?_
            refine ev_get d_Re_takeFrames_60 fl_Re_110 hf rfl ?_
            refine ez_lmul d_Re_takeFrames_63 ?_
            refine ev_put2 (fs' := [.ref b, .ref xf, .ref fo, .ref le, .int (iZ sz), .int (iZ br), .int (iZ ((p + 1 + 1 + 1 + 1 : Nat) : Int)), .long (lZ ((((0 * 10 + (lk F n (p + 1) - 48)) * 10 + (lk F n (p + 1 + 1) - 48)) * 10 + (lk F n (p + 1 + 1 + 1) - 48)) * tk)), .long (lZ st), .long (lZ en)]) d_Re_takeFrames_64 fw_Re_84 (Or.inr (fun _ _ _ q => by cases q; rfl)) he (Nat.le_of_ble_eq_true rfl) rfl rfl rfl (fun h25 h25a h25o => ?_)
            have hb := (h25o _ (cne hb he (by simp))).trans hb
            have hbb := (h25o _ (cne hbb he (by simp))).trans hbb
            have hf := (h25o _ (cne hf he (by simp))).trans hf
            have he := h25a
            have fm := fm.step (by simp) h25o
            refine ev_aload_n d_Re_takeFrames_67 rfl rfl ?_
            refine ev_bipush (v := iZ 125) d_Re_takeFrames_68 rfl ?_
            refine ev_callV M_Re_takeSign (rm 1 22) _ (As := [.int (iZ 125)]) (c_Re_takeSign G h25 xe b bb xf fo le n (p + 1 + 1 + 1 + 1) F (sz) (br) ((((0 * 10 + (lk F n (p + 1) - 48)) * 10 + (lk F n (p + 1 + 1) - 48)) * 10 + (lk F n (p + 1 + 1 + 1) - 48)) * tk) (st) (en) 125 he hb hbb hn (by omega) hF (by decide)) d_Re_takeFrames_70 mk_Re_takeSign ml_Re_87 mv_Re_takeSign he rfl rfl rfl (Nat.le_of_ble_eq_true rfl) ⟨by decide, by decide⟩ ⟨by decide, by decide⟩ (fun r h26 hq => ?_)
            obtain ⟨qy, qn, fmc⟩ := hq
            have hb := (fmc _ (ninc (cne hb he (by simp)) nin0)).trans hb
            have hbb := (fmc _ (ninc (cne hbb he (by simp)) nin0)).trans hbb
            have hf := (fmc _ (ninc (cne hf he (by simp)) nin0)).trans hf
            have fm := fm.call (by simp) fmc
            by_cases m27 : (mq F n (sg 125) (p + 1 + 1 + 1 + 1)).2 = true
            ·
              obtain ⟨rfl, he⟩ := qy m27
              have lm27 := mq_len _ _ m27
              have gm27 := (mq_le (F := F) (n := n) (A := sg 125) (p := p + 1 + 1 + 1 + 1) (by decide) (by omega))
              rw [lm27] at gm27
              have lxm27 : (sg 125).length = 1 := rfl
              have hm : (mq F n (sg 123 ++ dg9) p).2 = true := by rw [mq_app_ok (k := 1) m3 rfl]; exact m5
              have hdn : dn F n 5 (p + 2) = 2 := by rw [dn, if_pos m7, dn, if_pos m9, dn, if_neg (by rw [m11]; decide)]
              have hf9 : frP F n p = mq F n (sg 125) (p + 2 + 2) := by rw [frP, if_pos hm, hdn]
              have hv : frV F n p = (((0 * 10 + (lk F n (p + 1) - 48)) * 10 + (lk F n (p + 1 + 1) - 48)) * 10 + (lk F n (p + 1 + 1 + 1) - 48)) := by rw [frV, dv, if_pos m7, dv, if_pos m9, dv, if_neg (by rw [m11]; decide)]
              have hq1 : (frP F n p).1 = p + 2 + 2 + 1 := by rw [hf9]; exact mq_len _ _ m27
              exact ev_zreturn d_Re_takeFrames_73 rfl (Or.inr rfl) (by decide) (by decide) (⟨fun _ => ⟨rfl, by rw [hq1, hv]; exact he⟩, fun q => absurd q (by rw [hf9, m27]; decide), fm⟩)
            ·
              replace m27 := Bool.eq_false_iff.mpr m27
              obtain ⟨rfl, he⟩ := qn m27
              have he : h26 xe = some (.inr (3, [.ref b, .ref xf, .ref fo, .ref le, .int (iZ sz), .int (iZ br), .int (iZ (((mq F n (sg 125) (p + 1 + 1 + 1 + 1)).1 : Nat) : Int)), .long (lZ ((((0 * 10 + (lk F n (p + 1) - 48)) * 10 + (lk F n (p + 1 + 1) - 48)) * 10 + (lk F n (p + 1 + 1 + 1) - 48)) * tk)), .long (lZ st), .long (lZ en)])) := by rw [mq1_f1 m27]; exact he
              have hm : (mq F n (sg 123 ++ dg9) p).2 = true := by rw [mq_app_ok (k := 1) m3 rfl]; exact m5
              have hdn : dn F n 5 (p + 2) = 2 := by rw [dn, if_pos m7, dn, if_pos m9, dn, if_neg (by rw [m11]; decide)]
              have hf9 : frP F n p = mq F n (sg 125) (p + 2 + 2) := by rw [frP, if_pos hm, hdn]
              exact ev_zreturn d_Re_takeFrames_73 rfl (Or.inl rfl) (by decide) (by decide) (⟨fun q => absurd q (by rw [hf9]; exact fun w => by rw [m27] at w; cases w), fun _ => ⟨rfl, (((0 * 10 + (lk F n (p + 1) - 48)) * 10 + (lk F n (p + 1 + 1) - 48)) * 10 + (lk F n (p + 1 + 1 + 1) - 48)) * tk, st, en, by rw [hf9]; exact he⟩, fm⟩)
        ·
          replace m9 := Bool.eq_false_iff.mpr m9
          obtain ⟨rfl, he⟩ := qn m9
          refine ez_if_ne (tgt := 45) (by decide) d_Re_takeFrames_39 rfl (fun c39 => absurd c39 (by omega)) (fun c39 => ?_)
          refine ev_goto (tgt := 51) d_Re_takeFrames_42 rfl ?_
          refine ev_aload_n d_Re_takeFrames_51 rfl rfl ?_
          refine ev_dup d_Re_takeFrames_52 rfl ?_
          refine ev_get d_Re_takeFrames_53 fl_Re_84 he rfl ?_
          refine ev_aload_n d_Re_takeFrames_56 rfl rfl ?_
          refine ev_get d_Re_takeFrames_57 fl_Re_26 he rfl ?_
          refine ev_get d_Re_takeFrames_60 fl_Re_110 hf rfl ?_
          refine ez_lmul d_Re_takeFrames_63 ?_
          refine ev_put2 (fs' := [.ref b, .ref xf, .ref fo, .ref le, .int (iZ sz), .int (iZ br), .int (iZ ((p + 1 + 1 + 1 : Nat) : Int)), .long (lZ (((0 * 10 + (lk F n (p + 1) - 48)) * 10 + (lk F n (p + 1 + 1) - 48)) * tk)), .long (lZ st), .long (lZ en)]) d_Re_takeFrames_64 fw_Re_84 (Or.inr (fun _ _ _ q => by cases q; rfl)) he (Nat.le_of_ble_eq_true rfl) rfl rfl rfl (fun h28 h28a h28o => ?_)
          have hb := (h28o _ (cne hb he (by simp))).trans hb
          have hbb := (h28o _ (cne hbb he (by simp))).trans hbb
          have hf := (h28o _ (cne hf he (by simp))).trans hf
          have he := h28a
          have fm := fm.step (by simp) h28o
          refine ev_aload_n d_Re_takeFrames_67 rfl rfl ?_
          refine ev_bipush (v := iZ 125) d_Re_takeFrames_68 rfl ?_
          refine ev_callV M_Re_takeSign (rm 1 22) _ (As := [.int (iZ 125)]) (c_Re_takeSign G h28 xe b bb xf fo le n (p + 1 + 1 + 1) F (sz) (br) (((0 * 10 + (lk F n (p + 1) - 48)) * 10 + (lk F n (p + 1 + 1) - 48)) * tk) (st) (en) 125 he hb hbb hn (by omega) hF (by decide)) d_Re_takeFrames_70 mk_Re_takeSign ml_Re_87 mv_Re_takeSign he rfl rfl rfl (Nat.le_of_ble_eq_true rfl) ⟨by decide, by decide⟩ ⟨by decide, by decide⟩ (fun r h29 hq => ?_)
          obtain ⟨qy, qn, fmc⟩ := hq
          have hb := (fmc _ (ninc (cne hb he (by simp)) nin0)).trans hb
          have hbb := (fmc _ (ninc (cne hbb he (by simp)) nin0)).trans hbb
          have hf := (fmc _ (ninc (cne hf he (by simp)) nin0)).trans hf
          have fm := fm.call (by simp) fmc
          by_cases m30 : (mq F n (sg 125) (p + 1 + 1 + 1)).2 = true
          ·
            obtain ⟨rfl, he⟩ := qy m30
            have lm30 := mq_len _ _ m30
            have gm30 := (mq_le (F := F) (n := n) (A := sg 125) (p := p + 1 + 1 + 1) (by decide) (by omega))
            rw [lm30] at gm30
            have lxm30 : (sg 125).length = 1 := rfl
            have hm : (mq F n (sg 123 ++ dg9) p).2 = true := by rw [mq_app_ok (k := 1) m3 rfl]; exact m5
            have hdn : dn F n 5 (p + 2) = 1 := by rw [dn, if_pos m7, dn, if_neg (by rw [m9]; decide)]
            have hf9 : frP F n p = mq F n (sg 125) (p + 2 + 1) := by rw [frP, if_pos hm, hdn]
            have hv : frV F n p = ((0 * 10 + (lk F n (p + 1) - 48)) * 10 + (lk F n (p + 1 + 1) - 48)) := by rw [frV, dv, if_pos m7, dv, if_neg (by rw [m9]; decide)]
            have hq1 : (frP F n p).1 = p + 2 + 1 + 1 := by rw [hf9]; exact mq_len _ _ m30
            exact ev_zreturn d_Re_takeFrames_73 rfl (Or.inr rfl) (by decide) (by decide) (⟨fun _ => ⟨rfl, by rw [hq1, hv]; exact he⟩, fun q => absurd q (by rw [hf9, m30]; decide), fm⟩)
          ·
            replace m30 := Bool.eq_false_iff.mpr m30
            obtain ⟨rfl, he⟩ := qn m30
            have he : h29 xe = some (.inr (3, [.ref b, .ref xf, .ref fo, .ref le, .int (iZ sz), .int (iZ br), .int (iZ (((mq F n (sg 125) (p + 1 + 1 + 1)).1 : Nat) : Int)), .long (lZ (((0 * 10 + (lk F n (p + 1) - 48)) * 10 + (lk F n (p + 1 + 1) - 48)) * tk)), .long (lZ st), .long (lZ en)])) := by rw [mq1_f1 m30]; exact he
            have hm : (mq F n (sg 123 ++ dg9) p).2 = true := by rw [mq_app_ok (k := 1) m3 rfl]; exact m5
            have hdn : dn F n 5 (p + 2) = 1 := by rw [dn, if_pos m7, dn, if_neg (by rw [m9]; decide)]
            have hf9 : frP F n p = mq F n (sg 125) (p + 2 + 1) := by rw [frP, if_pos hm, hdn]
            exact ev_zreturn d_Re_takeFrames_73 rfl (Or.inl rfl) (by decide) (by decide) (⟨fun q => absurd q (by rw [hf9]; exact fun w => by rw [m30] at w; cases w), fun _ => ⟨rfl, ((0 * 10 + (lk F n (p + 1) - 48)) * 10 + (lk F n (p + 1 + 1) - 48)) * tk, st, en, by rw [hf9]; exact he⟩, fm⟩)
      ·
        replace m7 := Bool.eq_false_iff.mpr m7
        obtain ⟨rfl, he⟩ := qn m7
        refine ez_if_ne (tgt := 45) (by decide) d_Re_takeFrames_39 rfl (fun c39 => absurd c39 (by omega)) (fun c39 => ?_)
        refine ev_goto (tgt := 51) d_Re_takeFrames_42 rfl ?_
        refine ev_aload_n d_Re_takeFrames_51 rfl rfl ?_
        refine ev_dup d_Re_takeFrames_52 rfl ?_
        refine ev_get d_Re_takeFrames_53 fl_Re_84 he rfl ?_
        refine ev_aload_n d_Re_takeFrames_56 rfl rfl ?_
        refine ev_get d_Re_takeFrames_57 fl_Re_26 he rfl ?_
        refine ev_get d_Re_takeFrames_60 fl_Re_110 hf rfl ?_
        refine ez_lmul d_Re_takeFrames_63 ?_
        refine ev_put2 (fs' := [.ref b, .ref xf, .ref fo, .ref le, .int (iZ sz), .int (iZ br), .int (iZ ((p + 1 + 1 : Nat) : Int)), .long (lZ ((0 * 10 + (lk F n (p + 1) - 48)) * tk)), .long (lZ st), .long (lZ en)]) d_Re_takeFrames_64 fw_Re_84 (Or.inr (fun _ _ _ q => by cases q; rfl)) he (Nat.le_of_ble_eq_true rfl) rfl rfl rfl (fun h31 h31a h31o => ?_)
        have hb := (h31o _ (cne hb he (by simp))).trans hb
        have hbb := (h31o _ (cne hbb he (by simp))).trans hbb
        have hf := (h31o _ (cne hf he (by simp))).trans hf
        have he := h31a
        have fm := fm.step (by simp) h31o
        refine ev_aload_n d_Re_takeFrames_67 rfl rfl ?_
        refine ev_bipush (v := iZ 125) d_Re_takeFrames_68 rfl ?_
        refine ev_callV M_Re_takeSign (rm 1 22) _ (As := [.int (iZ 125)]) (c_Re_takeSign G h31 xe b bb xf fo le n (p + 1 + 1) F (sz) (br) ((0 * 10 + (lk F n (p + 1) - 48)) * tk) (st) (en) 125 he hb hbb hn (by omega) hF (by decide)) d_Re_takeFrames_70 mk_Re_takeSign ml_Re_87 mv_Re_takeSign he rfl rfl rfl (Nat.le_of_ble_eq_true rfl) ⟨by decide, by decide⟩ ⟨by decide, by decide⟩ (fun r h32 hq => ?_)
        obtain ⟨qy, qn, fmc⟩ := hq
        have hb := (fmc _ (ninc (cne hb he (by simp)) nin0)).trans hb
        have hbb := (fmc _ (ninc (cne hbb he (by simp)) nin0)).trans hbb
        have hf := (fmc _ (ninc (cne hf he (by simp)) nin0)).trans hf
        have fm := fm.call (by simp) fmc
        by_cases m33 : (mq F n (sg 125) (p + 1 + 1)).2 = true
        ·
          obtain ⟨rfl, he⟩ := qy m33
          have lm33 := mq_len _ _ m33
          have gm33 := (mq_le (F := F) (n := n) (A := sg 125) (p := p + 1 + 1) (by decide) (by omega))
          rw [lm33] at gm33
          have lxm33 : (sg 125).length = 1 := rfl
          have hm : (mq F n (sg 123 ++ dg9) p).2 = true := by rw [mq_app_ok (k := 1) m3 rfl]; exact m5
          have hdn : dn F n 5 (p + 2) = 0 := by rw [dn, if_neg (by rw [m7]; decide)]
          have hf9 : frP F n p = mq F n (sg 125) (p + 2 + 0) := by rw [frP, if_pos hm, hdn]
          have hv : frV F n p = (0 * 10 + (lk F n (p + 1) - 48)) := by rw [frV, dv, if_neg (by rw [m7]; decide)]
          have hq1 : (frP F n p).1 = p + 2 + 0 + 1 := by rw [hf9]; exact mq_len _ _ m33
          exact ev_zreturn d_Re_takeFrames_73 rfl (Or.inr rfl) (by decide) (by decide) (⟨fun _ => ⟨rfl, by rw [hq1, hv]; exact he⟩, fun q => absurd q (by rw [hf9, m33]; decide), fm⟩)
        ·
          replace m33 := Bool.eq_false_iff.mpr m33
          obtain ⟨rfl, he⟩ := qn m33
          have he : h32 xe = some (.inr (3, [.ref b, .ref xf, .ref fo, .ref le, .int (iZ sz), .int (iZ br), .int (iZ (((mq F n (sg 125) (p + 1 + 1)).1 : Nat) : Int)), .long (lZ ((0 * 10 + (lk F n (p + 1) - 48)) * tk)), .long (lZ st), .long (lZ en)])) := by rw [mq1_f1 m33]; exact he
          have hm : (mq F n (sg 123 ++ dg9) p).2 = true := by rw [mq_app_ok (k := 1) m3 rfl]; exact m5
          have hdn : dn F n 5 (p + 2) = 0 := by rw [dn, if_neg (by rw [m7]; decide)]
          have hf9 : frP F n p = mq F n (sg 125) (p + 2 + 0) := by rw [frP, if_pos hm, hdn]
          exact ev_zreturn d_Re_takeFrames_73 rfl (Or.inl rfl) (by decide) (by decide) (⟨fun q => absurd q (by rw [hf9]; exact fun w => by rw [m33] at w; cases w), fun _ => ⟨rfl, (0 * 10 + (lk F n (p + 1) - 48)) * tk, st, en, by rw [hf9]; exact he⟩, fm⟩)
    ·
      replace m5 := Bool.eq_false_iff.mpr m5
      obtain ⟨rfl, he⟩ := qn m5
      have he : h4 xe = some (.inr (3, [.ref b, .ref xf, .ref fo, .ref le, .int (iZ sz), .int (iZ br), .int (iZ (((mq F n ([(48, 57)]) (p + 1)).1 : Nat) : Int)), .long (lZ 0), .long (lZ st), .long (lZ en)])) := by rw [mq1_f1 m5]; exact he
      refine ez_if_ne (tgt := 25) (by decide) d_Re_takeFrames_20 rfl (fun c20 => absurd c20 (by omega)) (fun c20 => ?_)
      refine ev_iconst (v := iZ 0) d_Re_takeFrames_23 rfl ?_
      have hm : (mq F n (sg 123 ++ dg9) p).2 = false := by rw [mq_app_ok (k := 1) m3 rfl]; exact m5
      have hf9 : frP F n p = mq F n (sg 123 ++ dg9) p := if_neg (by rw [hm]; decide)
      exact ev_zreturn d_Re_takeFrames_24 rfl (Or.inl rfl) (by decide) (by decide) (⟨fun q => absurd q (by rw [hf9, hm]; decide), fun _ => ⟨rfl, 0, st, en, by rw [hf9, mq_app_ok (k := 1) m3 rfl]; exact he⟩, fm⟩)
  ·
    replace m3 := Bool.eq_false_iff.mpr m3
    obtain ⟨rfl, he⟩ := qn m3
    have he : h2 xe = some (.inr (3, [.ref b, .ref xf, .ref fo, .ref le, .int (iZ sz), .int (iZ br), .int (iZ (((mq F n (sg 123) (p)).1 : Nat) : Int)), .long (lZ 0), .long (lZ st), .long (lZ en)])) := by rw [mq1_f1 m3]; exact he
    refine ez_if_eq (tgt := 23) (by decide) d_Re_takeFrames_11 rfl (fun c11 => ?_) (fun c11 => absurd c11 (by omega))
    refine ev_iconst (v := iZ 0) d_Re_takeFrames_23 rfl ?_
    have hm : (mq F n (sg 123 ++ dg9) p).2 = false := by rw [mq_app_no m3]; exact m3
    have hf9 : frP F n p = mq F n (sg 123 ++ dg9) p := if_neg (by rw [hm]; decide)
    exact ev_zreturn d_Re_takeFrames_24 rfl (Or.inl rfl) (by decide) (by decide) (⟨fun q => absurd q (by rw [hf9, hm]; decide), fun _ => ⟨rfl, 0, st, en, by rw [hf9, mq_app_no m3]; exact he⟩, fm⟩)
