theorem d_Re_takeFrameTimes_0 : decode M_Re_takeFrameTimes.2.1 0 = .ok (.aload_n 0, 1) := by decide +kernel
theorem d_Re_takeFrameTimes_1 : decode M_Re_takeFrameTimes.2.1 1 = .ok (.invokevirtual 107, 3) := by decide +kernel
theorem d_Re_takeFrameTimes_4 : decode M_Re_takeFrameTimes.2.1 4 = .ok (.ifCond .ne 5, 3) := by decide +kernel
theorem d_Re_takeFrameTimes_7 : decode M_Re_takeFrameTimes.2.1 7 = .ok (.iconst 0, 1) := by decide +kernel
theorem d_Re_takeFrameTimes_8 : decode M_Re_takeFrameTimes.2.1 8 = .ok (.ireturn, 1) := by decide +kernel
theorem d_Re_takeFrameTimes_9 : decode M_Re_takeFrameTimes.2.1 9 = .ok (.aload_n 0, 1) := by decide +kernel
theorem d_Re_takeFrameTimes_10 : decode M_Re_takeFrameTimes.2.1 10 = .ok (.aload_n 0, 1) := by decide +kernel
theorem d_Re_takeFrameTimes_11 : decode M_Re_takeFrameTimes.2.1 11 = .ok (.getfield 84, 3) := by decide +kernel
theorem d_Re_takeFrameTimes_14 : decode M_Re_takeFrameTimes.2.1 14 = .ok (.putfield 51, 3) := by decide +kernel
theorem d_Re_takeFrameTimes_17 : decode M_Re_takeFrameTimes.2.1 17 = .ok (.aload_n 0, 1) := by decide +kernel
theorem d_Re_takeFrameTimes_18 : decode M_Re_takeFrameTimes.2.1 18 = .ok (.invokevirtual 107, 3) := by decide +kernel
theorem d_Re_takeFrameTimes_21 : decode M_Re_takeFrameTimes.2.1 21 = .ok (.ifCond .ne 5, 3) := by decide +kernel
theorem d_Re_takeFrameTimes_24 : decode M_Re_takeFrameTimes.2.1 24 = .ok (.iconst 0, 1) := by decide +kernel
theorem d_Re_takeFrameTimes_25 : decode M_Re_takeFrameTimes.2.1 25 = .ok (.ireturn, 1) := by decide +kernel
theorem d_Re_takeFrameTimes_26 : decode M_Re_takeFrameTimes.2.1 26 = .ok (.aload_n 0, 1) := by decide +kernel
theorem d_Re_takeFrameTimes_27 : decode M_Re_takeFrameTimes.2.1 27 = .ok (.aload_n 0, 1) := by decide +kernel
theorem d_Re_takeFrameTimes_28 : decode M_Re_takeFrameTimes.2.1 28 = .ok (.getfield 84, 3) := by decide +kernel
theorem d_Re_takeFrameTimes_31 : decode M_Re_takeFrameTimes.2.1 31 = .ok (.putfield 55, 3) := by decide +kernel
theorem d_Re_takeFrameTimes_34 : decode M_Re_takeFrameTimes.2.1 34 = .ok (.iconst 1, 1) := by decide +kernel
theorem d_Re_takeFrameTimes_35 : decode M_Re_takeFrameTimes.2.1 35 = .ok (.ireturn, 1) := by decide +kernel
theorem d_Re_takeSixBytes_0 : decode M_Re_takeSixBytes.2.1 0 = .ok (.aload_n 0, 1) := by decide +kernel
theorem d_Re_takeSixBytes_1 : decode M_Re_takeSixBytes.2.1 1 = .ok (.lconst 0, 1) := by decide +kernel
theorem d_Re_takeSixBytes_2 : decode M_Re_takeSixBytes.2.1 2 = .ok (.putfield 84, 3) := by decide +kernel
theorem d_Re_takeSixBytes_5 : decode M_Re_takeSixBytes.2.1 5 = .ok (.iconst 0, 1) := by decide +kernel
theorem d_Re_takeSixBytes_6 : decode M_Re_takeSixBytes.2.1 6 = .ok (.istore_n 1, 1) := by decide +kernel
theorem d_Re_takeSixBytes_7 : decode M_Re_takeSixBytes.2.1 7 = .ok (.iload_n 1, 1) := by decide +kernel
theorem d_Re_takeSixBytes_8 : decode M_Re_takeSixBytes.2.1 8 = .ok (.bipush 6, 2) := by decide +kernel
theorem d_Re_takeSixBytes_10 : decode M_Re_takeSixBytes.2.1 10 = .ok (.if_icmp .ge 53, 3) := by decide +kernel
theorem d_Re_takeSixBytes_13 : decode M_Re_takeSixBytes.2.1 13 = .ok (.aload_n 0, 1) := by decide +kernel
theorem d_Re_takeSixBytes_14 : decode M_Re_takeSixBytes.2.1 14 = .ok (.getfield 22, 3) := by decide +kernel
theorem d_Re_takeSixBytes_17 : decode M_Re_takeSixBytes.2.1 17 = .ok (.aload_n 0, 1) := by decide +kernel
theorem d_Re_takeSixBytes_18 : decode M_Re_takeSixBytes.2.1 18 = .ok (.getfield 34, 3) := by decide +kernel
theorem d_Re_takeSixBytes_21 : decode M_Re_takeSixBytes.2.1 21 = .ok (.invokevirtual 100, 3) := by decide +kernel
theorem d_Re_takeSixBytes_24 : decode M_Re_takeSixBytes.2.1 24 = .ok (.istore_n 2, 1) := by decide +kernel
theorem d_Re_takeSixBytes_25 : decode M_Re_takeSixBytes.2.1 25 = .ok (.iload_n 2, 1) := by decide +kernel
theorem d_Re_takeSixBytes_26 : decode M_Re_takeSixBytes.2.1 26 = .ok (.iconst (-1), 1) := by decide +kernel
theorem d_Re_takeSixBytes_27 : decode M_Re_takeSixBytes.2.1 27 = .ok (.if_icmp .ne 5, 3) := by decide +kernel
theorem d_Re_takeSixBytes_30 : decode M_Re_takeSixBytes.2.1 30 = .ok (.iconst 0, 1) := by decide +kernel
theorem d_Re_takeSixBytes_31 : decode M_Re_takeSixBytes.2.1 31 = .ok (.ireturn, 1) := by decide +kernel
theorem d_Re_takeSixBytes_32 : decode M_Re_takeSixBytes.2.1 32 = .ok (.aload_n 0, 1) := by decide +kernel
theorem d_Re_takeSixBytes_33 : decode M_Re_takeSixBytes.2.1 33 = .ok (.aload_n 0, 1) := by decide +kernel
theorem d_Re_takeSixBytes_34 : decode M_Re_takeSixBytes.2.1 34 = .ok (.getfield 84, 3) := by decide +kernel
theorem d_Re_takeSixBytes_37 : decode M_Re_takeSixBytes.2.1 37 = .ok (.ldc2_w 121, 3) := by decide +kernel
theorem d_Re_takeSixBytes_40 : decode M_Re_takeSixBytes.2.1 40 = .ok (.lmul, 1) := by decide +kernel
theorem d_Re_takeSixBytes_41 : decode M_Re_takeSixBytes.2.1 41 = .ok (.iload_n 2, 1) := by decide +kernel
theorem d_Re_takeSixBytes_42 : decode M_Re_takeSixBytes.2.1 42 = .ok (.i2l, 1) := by decide +kernel
theorem d_Re_takeSixBytes_43 : decode M_Re_takeSixBytes.2.1 43 = .ok (.ladd, 1) := by decide +kernel
theorem d_Re_takeSixBytes_44 : decode M_Re_takeSixBytes.2.1 44 = .ok (.putfield 84, 3) := by decide +kernel
theorem d_Re_takeSixBytes_47 : decode M_Re_takeSixBytes.2.1 47 = .ok (.aload_n 0, 1) := by decide +kernel
theorem d_Re_takeSixBytes_48 : decode M_Re_takeSixBytes.2.1 48 = .ok (.dup, 1) := by decide +kernel
theorem d_Re_takeSixBytes_49 : decode M_Re_takeSixBytes.2.1 49 = .ok (.getfield 34, 3) := by decide +kernel
theorem d_Re_takeSixBytes_52 : decode M_Re_takeSixBytes.2.1 52 = .ok (.iconst 1, 1) := by decide +kernel
theorem d_Re_takeSixBytes_53 : decode M_Re_takeSixBytes.2.1 53 = .ok (.iadd, 1) := by decide +kernel
theorem d_Re_takeSixBytes_54 : decode M_Re_takeSixBytes.2.1 54 = .ok (.putfield 34, 3) := by decide +kernel
theorem d_Re_takeSixBytes_57 : decode M_Re_takeSixBytes.2.1 57 = .ok (.iinc 1 1, 3) := by decide +kernel
theorem d_Re_takeSixBytes_60 : decode M_Re_takeSixBytes.2.1 60 = .ok (.goto (-53), 3) := by decide +kernel
theorem d_Re_takeSixBytes_63 : decode M_Re_takeSixBytes.2.1 63 = .ok (.iconst 1, 1) := by decide +kernel
theorem d_Re_takeSixBytes_64 : decode M_Re_takeSixBytes.2.1 64 = .ok (.ireturn, 1) := by decide +kernel
theorem d_Re_takePackedTimes_0 : decode M_Re_takePackedTimes.2.1 0 = .ok (.aload_n 0, 1) := by decide +kernel
theorem d_Re_takePackedTimes_1 : decode M_Re_takePackedTimes.2.1 1 = .ok (.invokevirtual 118, 3) := by decide +kernel
theorem d_Re_takePackedTimes_4 : decode M_Re_takePackedTimes.2.1 4 = .ok (.ifCond .ne 5, 3) := by decide +kernel
theorem d_Re_takePackedTimes_7 : decode M_Re_takePackedTimes.2.1 7 = .ok (.iconst 0, 1) := by decide +kernel
theorem d_Re_takePackedTimes_8 : decode M_Re_takePackedTimes.2.1 8 = .ok (.ireturn, 1) := by decide +kernel
theorem d_Re_takePackedTimes_9 : decode M_Re_takePackedTimes.2.1 9 = .ok (.aload_n 0, 1) := by decide +kernel
theorem d_Re_takePackedTimes_10 : decode M_Re_takePackedTimes.2.1 10 = .ok (.aload_n 0, 1) := by decide +kernel
theorem d_Re_takePackedTimes_11 : decode M_Re_takePackedTimes.2.1 11 = .ok (.getfield 84, 3) := by decide +kernel
theorem d_Re_takePackedTimes_14 : decode M_Re_takePackedTimes.2.1 14 = .ok (.putfield 51, 3) := by decide +kernel
theorem d_Re_takePackedTimes_17 : decode M_Re_takePackedTimes.2.1 17 = .ok (.aload_n 0, 1) := by decide +kernel
theorem d_Re_takePackedTimes_18 : decode M_Re_takePackedTimes.2.1 18 = .ok (.invokevirtual 118, 3) := by decide +kernel
theorem d_Re_takePackedTimes_21 : decode M_Re_takePackedTimes.2.1 21 = .ok (.ifCond .ne 5, 3) := by decide +kernel
theorem d_Re_takePackedTimes_24 : decode M_Re_takePackedTimes.2.1 24 = .ok (.iconst 0, 1) := by decide +kernel
theorem d_Re_takePackedTimes_25 : decode M_Re_takePackedTimes.2.1 25 = .ok (.ireturn, 1) := by decide +kernel
theorem d_Re_takePackedTimes_26 : decode M_Re_takePackedTimes.2.1 26 = .ok (.aload_n 0, 1) := by decide +kernel
theorem d_Re_takePackedTimes_27 : decode M_Re_takePackedTimes.2.1 27 = .ok (.aload_n 0, 1) := by decide +kernel
theorem d_Re_takePackedTimes_28 : decode M_Re_takePackedTimes.2.1 28 = .ok (.getfield 84, 3) := by decide +kernel
theorem d_Re_takePackedTimes_31 : decode M_Re_takePackedTimes.2.1 31 = .ok (.putfield 55, 3) := by decide +kernel
theorem d_Re_takePackedTimes_34 : decode M_Re_takePackedTimes.2.1 34 = .ok (.iconst 1, 1) := by decide +kernel
theorem d_Re_takePackedTimes_35 : decode M_Re_takePackedTimes.2.1 35 = .ok (.ireturn, 1) := by decide +kernel
theorem d_Re_takeLetter_0 : decode M_Re_takeLetter.2.1 0 = .ok (.aload_n 0, 1) := by decide +kernel
theorem d_Re_takeLetter_1 : decode M_Re_takeLetter.2.1 1 = .ok (.getfield 22, 3) := by decide +kernel
theorem d_Re_takeLetter_4 : decode M_Re_takeLetter.2.1 4 = .ok (.aload_n 0, 1) := by decide +kernel
theorem d_Re_takeLetter_5 : decode M_Re_takeLetter.2.1 5 = .ok (.getfield 34, 3) := by decide +kernel
theorem d_Re_takeLetter_8 : decode M_Re_takeLetter.2.1 8 = .ok (.invokevirtual 100, 3) := by decide +kernel
theorem d_Re_takeLetter_11 : decode M_Re_takeLetter.2.1 11 = .ok (.istore_n 1, 1) := by decide +kernel
theorem d_Re_takeLetter_12 : decode M_Re_takeLetter.2.1 12 = .ok (.aload_n 0, 1) := by decide +kernel
theorem d_Re_takeLetter_13 : decode M_Re_takeLetter.2.1 13 = .ok (.getfield 43, 3) := by decide +kernel
theorem d_Re_takeLetter_16 : decode M_Re_takeLetter.2.1 16 = .ok (.ifCond .eq 7, 3) := by decide +kernel
theorem d_Re_takeLetter_19 : decode M_Re_takeLetter.2.1 19 = .ok (.iconst 2, 1) := by decide +kernel
theorem d_Re_takeLetter_20 : decode M_Re_takeLetter.2.1 20 = .ok (.goto 4, 3) := by decide +kernel
theorem d_Re_takeLetter_23 : decode M_Re_takeLetter.2.1 23 = .ok (.iconst 1, 1) := by decide +kernel
theorem d_Re_takeLetter_24 : decode M_Re_takeLetter.2.1 24 = .ok (.istore_n 2, 1) := by decide +kernel
theorem d_Re_takeLetter_25 : decode M_Re_takeLetter.2.1 25 = .ok (.iload_n 1, 1) := by decide +kernel
theorem d_Re_takeLetter_26 : decode M_Re_takeLetter.2.1 26 = .ok (.invokestatic 123, 3) := by decide +kernel
theorem d_Re_takeLetter_29 : decode M_Re_takeLetter.2.1 29 = .ok (.ifCond .eq 14, 3) := by decide +kernel
theorem d_Re_takeLetter_32 : decode M_Re_takeLetter.2.1 32 = .ok (.aload_n 0, 1) := by decide +kernel
theorem d_Re_takeLetter_33 : decode M_Re_takeLetter.2.1 33 = .ok (.getfield 42, 3) := by decide +kernel
theorem d_Re_takeLetter_36 : decode M_Re_takeLetter.2.1 36 = .ok (.iload_n 2, 1) := by decide +kernel
theorem d_Re_takeLetter_37 : decode M_Re_takeLetter.2.1 37 = .ok (.iadd, 1) := by decide +kernel
theorem d_Re_takeLetter_38 : decode M_Re_takeLetter.2.1 38 = .ok (.bipush 64, 2) := by decide +kernel
theorem d_Re_takeLetter_40 : decode M_Re_takeLetter.2.1 40 = .ok (.if_icmp .le 5, 3) := by decide +kernel
theorem d_Re_takeLetter_43 : decode M_Re_takeLetter.2.1 43 = .ok (.iconst 0, 1) := by decide +kernel
theorem d_Re_takeLetter_44 : decode M_Re_takeLetter.2.1 44 = .ok (.ireturn, 1) := by decide +kernel
theorem d_Re_takeLetter_45 : decode M_Re_takeLetter.2.1 45 = .ok (.aload_n 0, 1) := by decide +kernel
theorem d_Re_takeLetter_46 : decode M_Re_takeLetter.2.1 46 = .ok (.getfield 43, 3) := by decide +kernel
theorem d_Re_takeLetter_49 : decode M_Re_takeLetter.2.1 49 = .ok (.ifCond .eq 21, 3) := by decide +kernel
theorem d_Re_takeLetter_52 : decode M_Re_takeLetter.2.1 52 = .ok (.aload_n 0, 1) := by decide +kernel
theorem d_Re_takeLetter_53 : decode M_Re_takeLetter.2.1 53 = .ok (.getfield 18, 3) := by decide +kernel
theorem d_Re_takeLetter_56 : decode M_Re_takeLetter.2.1 56 = .ok (.aload_n 0, 1) := by decide +kernel
theorem d_Re_takeLetter_57 : decode M_Re_takeLetter.2.1 57 = .ok (.dup, 1) := by decide +kernel
theorem d_Re_takeLetter_58 : decode M_Re_takeLetter.2.1 58 = .ok (.getfield 42, 3) := by decide +kernel
theorem d_Re_takeLetter_61 : decode M_Re_takeLetter.2.1 61 = .ok (.dup_x1, 1) := by decide +kernel
theorem d_Re_takeLetter_62 : decode M_Re_takeLetter.2.1 62 = .ok (.iconst 1, 1) := by decide +kernel
theorem d_Re_takeLetter_63 : decode M_Re_takeLetter.2.1 63 = .ok (.iadd, 1) := by decide +kernel
theorem d_Re_takeLetter_64 : decode M_Re_takeLetter.2.1 64 = .ok (.putfield 42, 3) := by decide +kernel
theorem d_Re_takeLetter_67 : decode M_Re_takeLetter.2.1 67 = .ok (.bipush 10, 2) := by decide +kernel
theorem d_Re_takeLetter_69 : decode M_Re_takeLetter.2.1 69 = .ok (.iastore, 1) := by decide +kernel
theorem d_Re_takeLetter_70 : decode M_Re_takeLetter.2.1 70 = .ok (.aload_n 0, 1) := by decide +kernel
theorem d_Re_takeLetter_71 : decode M_Re_takeLetter.2.1 71 = .ok (.getfield 18, 3) := by decide +kernel
theorem d_Re_takeLetter_74 : decode M_Re_takeLetter.2.1 74 = .ok (.aload_n 0, 1) := by decide +kernel
theorem d_Re_takeLetter_75 : decode M_Re_takeLetter.2.1 75 = .ok (.dup, 1) := by decide +kernel
theorem d_Re_takeLetter_76 : decode M_Re_takeLetter.2.1 76 = .ok (.getfield 42, 3) := by decide +kernel
theorem d_Re_takeLetter_79 : decode M_Re_takeLetter.2.1 79 = .ok (.dup_x1, 1) := by decide +kernel
theorem d_Re_takeLetter_80 : decode M_Re_takeLetter.2.1 80 = .ok (.iconst 1, 1) := by decide +kernel
theorem d_Re_takeLetter_81 : decode M_Re_takeLetter.2.1 81 = .ok (.iadd, 1) := by decide +kernel
theorem d_Re_takeLetter_82 : decode M_Re_takeLetter.2.1 82 = .ok (.putfield 42, 3) := by decide +kernel
theorem d_Re_takeLetter_85 : decode M_Re_takeLetter.2.1 85 = .ok (.iload_n 1, 1) := by decide +kernel
theorem d_Re_takeLetter_86 : decode M_Re_takeLetter.2.1 86 = .ok (.iastore, 1) := by decide +kernel
theorem d_Re_takeLetter_87 : decode M_Re_takeLetter.2.1 87 = .ok (.aload_n 0, 1) := by decide +kernel
theorem d_Re_takeLetter_88 : decode M_Re_takeLetter.2.1 88 = .ok (.iconst 0, 1) := by decide +kernel
theorem d_Re_takeLetter_89 : decode M_Re_takeLetter.2.1 89 = .ok (.putfield 43, 3) := by decide +kernel
theorem d_Re_takeLetter_92 : decode M_Re_takeLetter.2.1 92 = .ok (.aload_n 0, 1) := by decide +kernel
theorem d_Re_takeLetter_93 : decode M_Re_takeLetter.2.1 93 = .ok (.dup, 1) := by decide +kernel
theorem d_Re_takeLetter_94 : decode M_Re_takeLetter.2.1 94 = .ok (.getfield 34, 3) := by decide +kernel
theorem d_Re_takeLetter_97 : decode M_Re_takeLetter.2.1 97 = .ok (.iconst 1, 1) := by decide +kernel
theorem d_Re_takeLetter_98 : decode M_Re_takeLetter.2.1 98 = .ok (.iadd, 1) := by decide +kernel
theorem d_Re_takeLetter_99 : decode M_Re_takeLetter.2.1 99 = .ok (.putfield 34, 3) := by decide +kernel
theorem d_Re_takeLetter_102 : decode M_Re_takeLetter.2.1 102 = .ok (.iconst 1, 1) := by decide +kernel
theorem d_Re_takeLetter_103 : decode M_Re_takeLetter.2.1 103 = .ok (.ireturn, 1) := by decide +kernel
theorem d_Re_takeInnerBreak_0 : decode M_Re_takeInnerBreak.2.1 0 = .ok (.aload_n 0, 1) := by decide +kernel
theorem d_Re_takeInnerBreak_1 : decode M_Re_takeInnerBreak.2.1 1 = .ok (.getfield 42, 3) := by decide +kernel
theorem d_Re_takeInnerBreak_4 : decode M_Re_takeInnerBreak.2.1 4 = .ok (.ifCond .eq 21, 3) := by decide +kernel
theorem d_Re_takeInnerBreak_7 : decode M_Re_takeInnerBreak.2.1 7 = .ok (.aload_n 0, 1) := by decide +kernel
theorem d_Re_takeInnerBreak_8 : decode M_Re_takeInnerBreak.2.1 8 = .ok (.getfield 43, 3) := by decide +kernel
theorem d_Re_takeInnerBreak_11 : decode M_Re_takeInnerBreak.2.1 11 = .ok (.ifCond .ne 14, 3) := by decide +kernel
theorem d_Re_takeInnerBreak_14 : decode M_Re_takeInnerBreak.2.1 14 = .ok (.aload_n 0, 1) := by decide +kernel
theorem d_Re_takeInnerBreak_15 : decode M_Re_takeInnerBreak.2.1 15 = .ok (.getfield 42, 3) := by decide +kernel
theorem d_Re_takeInnerBreak_18 : decode M_Re_takeInnerBreak.2.1 18 = .ok (.iconst 2, 1) := by decide +kernel
theorem d_Re_takeInnerBreak_19 : decode M_Re_takeInnerBreak.2.1 19 = .ok (.iadd, 1) := by decide +kernel
theorem d_Re_takeInnerBreak_20 : decode M_Re_takeInnerBreak.2.1 20 = .ok (.bipush 64, 2) := by decide +kernel
theorem d_Re_takeInnerBreak_22 : decode M_Re_takeInnerBreak.2.1 22 = .ok (.if_icmp .le 5, 3) := by decide +kernel
theorem d_Re_takeInnerBreak_25 : decode M_Re_takeInnerBreak.2.1 25 = .ok (.iconst 0, 1) := by decide +kernel
theorem d_Re_takeInnerBreak_26 : decode M_Re_takeInnerBreak.2.1 26 = .ok (.ireturn, 1) := by decide +kernel
theorem d_Re_takeInnerBreak_27 : decode M_Re_takeInnerBreak.2.1 27 = .ok (.aload_n 0, 1) := by decide +kernel
theorem d_Re_takeInnerBreak_28 : decode M_Re_takeInnerBreak.2.1 28 = .ok (.iconst 1, 1) := by decide +kernel
theorem d_Re_takeInnerBreak_29 : decode M_Re_takeInnerBreak.2.1 29 = .ok (.putfield 43, 3) := by decide +kernel
theorem d_Re_takeInnerBreak_32 : decode M_Re_takeInnerBreak.2.1 32 = .ok (.aload_n 0, 1) := by decide +kernel
theorem d_Re_takeInnerBreak_33 : decode M_Re_takeInnerBreak.2.1 33 = .ok (.dup, 1) := by decide +kernel
theorem d_Re_takeInnerBreak_34 : decode M_Re_takeInnerBreak.2.1 34 = .ok (.getfield 34, 3) := by decide +kernel
theorem d_Re_takeInnerBreak_37 : decode M_Re_takeInnerBreak.2.1 37 = .ok (.iconst 1, 1) := by decide +kernel
theorem d_Re_takeInnerBreak_38 : decode M_Re_takeInnerBreak.2.1 38 = .ok (.iadd, 1) := by decide +kernel
theorem d_Re_takeInnerBreak_39 : decode M_Re_takeInnerBreak.2.1 39 = .ok (.putfield 34, 3) := by decide +kernel
theorem d_Re_takeInnerBreak_42 : decode M_Re_takeInnerBreak.2.1 42 = .ok (.iconst 1, 1) := by decide +kernel
theorem d_Re_takeInnerBreak_43 : decode M_Re_takeInnerBreak.2.1 43 = .ok (.ireturn, 1) := by decide +kernel
theorem d_Re_takeBlockText_0 : decode M_Re_takeBlockText.2.1 0 = .ok (.iconst 0, 1) := by decide +kernel
theorem d_Re_takeBlockText_1 : decode M_Re_takeBlockText.2.1 1 = .ok (.istore_n 1, 1) := by decide +kernel
theorem d_Re_takeBlockText_2 : decode M_Re_takeBlockText.2.1 2 = .ok (.iload_n 1, 1) := by decide +kernel
theorem d_Re_takeBlockText_3 : decode M_Re_takeBlockText.2.1 3 = .ok (.sipush 128, 3) := by decide +kernel
theorem d_Re_takeBlockText_6 : decode M_Re_takeBlockText.2.1 6 = .ok (.if_icmp .ge 67, 3) := by decide +kernel
theorem d_Re_takeBlockText_9 : decode M_Re_takeBlockText.2.1 9 = .ok (.aload_n 0, 1) := by decide +kernel
theorem d_Re_takeBlockText_10 : decode M_Re_takeBlockText.2.1 10 = .ok (.getfield 22, 3) := by decide +kernel
theorem d_Re_takeBlockText_13 : decode M_Re_takeBlockText.2.1 13 = .ok (.aload_n 0, 1) := by decide +kernel
theorem d_Re_takeBlockText_14 : decode M_Re_takeBlockText.2.1 14 = .ok (.getfield 34, 3) := by decide +kernel
theorem d_Re_takeBlockText_17 : decode M_Re_takeBlockText.2.1 17 = .ok (.invokevirtual 100, 3) := by decide +kernel
theorem d_Re_takeBlockText_20 : decode M_Re_takeBlockText.2.1 20 = .ok (.bipush 10, 2) := by decide +kernel
theorem d_Re_takeBlockText_22 : decode M_Re_takeBlockText.2.1 22 = .ok (.if_icmp .eq 12, 3) := by decide +kernel
theorem d_Re_takeBlockText_25 : decode M_Re_takeBlockText.2.1 25 = .ok (.aload_n 0, 1) := by decide +kernel
theorem d_Re_takeBlockText_26 : decode M_Re_takeBlockText.2.1 26 = .ok (.invokevirtual 104, 3) := by decide +kernel
theorem d_Re_takeBlockText_29 : decode M_Re_takeBlockText.2.1 29 = .ok (.ifCond .ne 38, 3) := by decide +kernel
theorem d_Re_takeBlockText_32 : decode M_Re_takeBlockText.2.1 32 = .ok (.iconst 0, 1) := by decide +kernel
theorem d_Re_takeBlockText_33 : decode M_Re_takeBlockText.2.1 33 = .ok (.ireturn, 1) := by decide +kernel
theorem d_Re_takeBlockText_34 : decode M_Re_takeBlockText.2.1 34 = .ok (.aload_n 0, 1) := by decide +kernel
theorem d_Re_takeBlockText_35 : decode M_Re_takeBlockText.2.1 35 = .ok (.getfield 42, 3) := by decide +kernel
theorem d_Re_takeBlockText_38 : decode M_Re_takeBlockText.2.1 38 = .ok (.ifCond .ne 5, 3) := by decide +kernel
theorem d_Re_takeBlockText_41 : decode M_Re_takeBlockText.2.1 41 = .ok (.iconst 0, 1) := by decide +kernel
theorem d_Re_takeBlockText_42 : decode M_Re_takeBlockText.2.1 42 = .ok (.ireturn, 1) := by decide +kernel
theorem d_Re_takeBlockText_43 : decode M_Re_takeBlockText.2.1 43 = .ok (.aload_n 0, 1) := by decide +kernel
theorem d_Re_takeBlockText_44 : decode M_Re_takeBlockText.2.1 44 = .ok (.dup, 1) := by decide +kernel
theorem d_Re_takeBlockText_45 : decode M_Re_takeBlockText.2.1 45 = .ok (.getfield 34, 3) := by decide +kernel
theorem d_Re_takeBlockText_48 : decode M_Re_takeBlockText.2.1 48 = .ok (.iconst 1, 1) := by decide +kernel
theorem d_Re_takeBlockText_49 : decode M_Re_takeBlockText.2.1 49 = .ok (.iadd, 1) := by decide +kernel
theorem d_Re_takeBlockText_50 : decode M_Re_takeBlockText.2.1 50 = .ok (.putfield 34, 3) := by decide +kernel
theorem d_Re_takeBlockText_53 : decode M_Re_takeBlockText.2.1 53 = .ok (.aload_n 0, 1) := by decide +kernel
theorem d_Re_takeBlockText_54 : decode M_Re_takeBlockText.2.1 54 = .ok (.getfield 43, 3) := by decide +kernel
theorem d_Re_takeBlockText_57 : decode M_Re_takeBlockText.2.1 57 = .ok (.ifCond .eq 5, 3) := by decide +kernel
theorem d_Re_takeBlockText_60 : decode M_Re_takeBlockText.2.1 60 = .ok (.iconst 1, 1) := by decide +kernel
theorem d_Re_takeBlockText_61 : decode M_Re_takeBlockText.2.1 61 = .ok (.ireturn, 1) := by decide +kernel
theorem d_Re_takeBlockText_62 : decode M_Re_takeBlockText.2.1 62 = .ok (.aload_n 0, 1) := by decide +kernel
theorem d_Re_takeBlockText_63 : decode M_Re_takeBlockText.2.1 63 = .ok (.iconst 1, 1) := by decide +kernel
theorem d_Re_takeBlockText_64 : decode M_Re_takeBlockText.2.1 64 = .ok (.putfield 43, 3) := by decide +kernel
theorem d_Re_takeBlockText_67 : decode M_Re_takeBlockText.2.1 67 = .ok (.iinc 1 1, 3) := by decide +kernel
theorem d_Re_takeBlockText_70 : decode M_Re_takeBlockText.2.1 70 = .ok (.goto (-68), 3) := by decide +kernel
theorem d_Re_takeFrameText_0 : decode M_Re_takeFrameText.2.1 0 = .ok (.iconst 0, 1) := by decide +kernel
theorem d_Re_takeFrameText_1 : decode M_Re_takeFrameText.2.1 1 = .ok (.istore_n 1, 1) := by decide +kernel
theorem d_Re_takeFrameText_2 : decode M_Re_takeFrameText.2.1 2 = .ok (.iload_n 1, 1) := by decide +kernel
theorem d_Re_takeFrameText_3 : decode M_Re_takeFrameText.2.1 3 = .ok (.sipush 128, 3) := by decide +kernel
theorem d_Re_takeFrameText_6 : decode M_Re_takeFrameText.2.1 6 = .ok (.if_icmp .ge 80, 3) := by decide +kernel
theorem d_Re_takeFrameText_9 : decode M_Re_takeFrameText.2.1 9 = .ok (.aload_n 0, 1) := by decide +kernel
theorem d_Re_takeFrameText_10 : decode M_Re_takeFrameText.2.1 10 = .ok (.getfield 22, 3) := by decide +kernel
theorem d_Re_takeFrameText_13 : decode M_Re_takeFrameText.2.1 13 = .ok (.aload_n 0, 1) := by decide +kernel
theorem d_Re_takeFrameText_14 : decode M_Re_takeFrameText.2.1 14 = .ok (.getfield 34, 3) := by decide +kernel
theorem d_Re_takeFrameText_17 : decode M_Re_takeFrameText.2.1 17 = .ok (.invokevirtual 100, 3) := by decide +kernel
theorem d_Re_takeFrameText_20 : decode M_Re_takeFrameText.2.1 20 = .ok (.istore_n 2, 1) := by decide +kernel
theorem d_Re_takeFrameText_21 : decode M_Re_takeFrameText.2.1 21 = .ok (.iload_n 2, 1) := by decide +kernel
theorem d_Re_takeFrameText_22 : decode M_Re_takeFrameText.2.1 22 = .ok (.bipush 10, 2) := by decide +kernel
theorem d_Re_takeFrameText_24 : decode M_Re_takeFrameText.2.1 24 = .ok (.if_icmp .ne 31, 3) := by decide +kernel
theorem d_Re_takeFrameText_27 : decode M_Re_takeFrameText.2.1 27 = .ok (.aload_n 0, 1) := by decide +kernel
theorem d_Re_takeFrameText_28 : decode M_Re_takeFrameText.2.1 28 = .ok (.getfield 42, 3) := by decide +kernel
theorem d_Re_takeFrameText_31 : decode M_Re_takeFrameText.2.1 31 = .ok (.ifCond .eq 10, 3) := by decide +kernel
theorem d_Re_takeFrameText_34 : decode M_Re_takeFrameText.2.1 34 = .ok (.aload_n 0, 1) := by decide +kernel
theorem d_Re_takeFrameText_35 : decode M_Re_takeFrameText.2.1 35 = .ok (.getfield 43, 3) := by decide +kernel
theorem d_Re_takeFrameText_38 : decode M_Re_takeFrameText.2.1 38 = .ok (.ifCond .eq 5, 3) := by decide +kernel
theorem d_Re_takeFrameText_41 : decode M_Re_takeFrameText.2.1 41 = .ok (.iconst 0, 1) := by decide +kernel
theorem d_Re_takeFrameText_42 : decode M_Re_takeFrameText.2.1 42 = .ok (.ireturn, 1) := by decide +kernel
theorem d_Re_takeFrameText_43 : decode M_Re_takeFrameText.2.1 43 = .ok (.aload_n 0, 1) := by decide +kernel
theorem d_Re_takeFrameText_44 : decode M_Re_takeFrameText.2.1 44 = .ok (.dup, 1) := by decide +kernel
theorem d_Re_takeFrameText_45 : decode M_Re_takeFrameText.2.1 45 = .ok (.getfield 34, 3) := by decide +kernel
theorem d_Re_takeFrameText_48 : decode M_Re_takeFrameText.2.1 48 = .ok (.iconst 1, 1) := by decide +kernel
theorem d_Re_takeFrameText_49 : decode M_Re_takeFrameText.2.1 49 = .ok (.iadd, 1) := by decide +kernel
theorem d_Re_takeFrameText_50 : decode M_Re_takeFrameText.2.1 50 = .ok (.putfield 34, 3) := by decide +kernel
theorem d_Re_takeFrameText_53 : decode M_Re_takeFrameText.2.1 53 = .ok (.iconst 1, 1) := by decide +kernel
theorem d_Re_takeFrameText_54 : decode M_Re_takeFrameText.2.1 54 = .ok (.ireturn, 1) := by decide +kernel
theorem d_Re_takeFrameText_55 : decode M_Re_takeFrameText.2.1 55 = .ok (.iload_n 2, 1) := by decide +kernel
theorem d_Re_takeFrameText_56 : decode M_Re_takeFrameText.2.1 56 = .ok (.bipush 124, 2) := by decide +kernel
theorem d_Re_takeFrameText_58 : decode M_Re_takeFrameText.2.1 58 = .ok (.if_icmp .ne 13, 3) := by decide +kernel
theorem d_Re_takeFrameText_61 : decode M_Re_takeFrameText.2.1 61 = .ok (.aload_n 0, 1) := by decide +kernel
theorem d_Re_takeFrameText_62 : decode M_Re_takeFrameText.2.1 62 = .ok (.invokevirtual 115, 3) := by decide +kernel
theorem d_Re_takeFrameText_65 : decode M_Re_takeFrameText.2.1 65 = .ok (.ifCond .ne 15, 3) := by decide +kernel
theorem d_Re_takeFrameText_68 : decode M_Re_takeFrameText.2.1 68 = .ok (.goto 10, 3) := by decide +kernel
theorem d_Re_takeFrameText_71 : decode M_Re_takeFrameText.2.1 71 = .ok (.aload_n 0, 1) := by decide +kernel
theorem d_Re_takeFrameText_72 : decode M_Re_takeFrameText.2.1 72 = .ok (.invokevirtual 104, 3) := by decide +kernel
theorem d_Re_takeFrameText_75 : decode M_Re_takeFrameText.2.1 75 = .ok (.ifCond .ne 5, 3) := by decide +kernel
theorem d_Re_takeFrameText_78 : decode M_Re_takeFrameText.2.1 78 = .ok (.iconst 0, 1) := by decide +kernel
theorem d_Re_takeFrameText_79 : decode M_Re_takeFrameText.2.1 79 = .ok (.ireturn, 1) := by decide +kernel
theorem d_Re_takeFrameText_80 : decode M_Re_takeFrameText.2.1 80 = .ok (.iinc 1 1, 3) := by decide +kernel
theorem d_Re_takeFrameText_83 : decode M_Re_takeFrameText.2.1 83 = .ok (.goto (-81), 3) := by decide +kernel
theorem d_Re_takePackedText_0 : decode M_Re_takePackedText.2.1 0 = .ok (.aload_n 0, 1) := by decide +kernel
theorem d_Re_takePackedText_1 : decode M_Re_takePackedText.2.1 1 = .ok (.getfield 22, 3) := by decide +kernel
theorem d_Re_takePackedText_4 : decode M_Re_takePackedText.2.1 4 = .ok (.aload_n 0, 1) := by decide +kernel
theorem d_Re_takePackedText_5 : decode M_Re_takePackedText.2.1 5 = .ok (.getfield 34, 3) := by decide +kernel
theorem d_Re_takePackedText_8 : decode M_Re_takePackedText.2.1 8 = .ok (.invokevirtual 100, 3) := by decide +kernel
theorem d_Re_takePackedText_11 : decode M_Re_takePackedText.2.1 11 = .ok (.istore_n 1, 1) := by decide +kernel
theorem d_Re_takePackedText_12 : decode M_Re_takePackedText.2.1 12 = .ok (.iload_n 1, 1) := by decide +kernel
theorem d_Re_takePackedText_13 : decode M_Re_takePackedText.2.1 13 = .ok (.iconst 1, 1) := by decide +kernel
theorem d_Re_takePackedText_14 : decode M_Re_takePackedText.2.1 14 = .ok (.if_icmp .lt 9, 3) := by decide +kernel
theorem d_Re_takePackedText_17 : decode M_Re_takePackedText.2.1 17 = .ok (.iload_n 1, 1) := by decide +kernel
theorem d_Re_takePackedText_18 : decode M_Re_takePackedText.2.1 18 = .ok (.bipush 64, 2) := by decide +kernel
theorem d_Re_takePackedText_20 : decode M_Re_takePackedText.2.1 20 = .ok (.if_icmp .le 5, 3) := by decide +kernel
theorem d_Re_takePackedText_23 : decode M_Re_takePackedText.2.1 23 = .ok (.iconst 0, 1) := by decide +kernel
theorem d_Re_takePackedText_24 : decode M_Re_takePackedText.2.1 24 = .ok (.ireturn, 1) := by decide +kernel
theorem d_Re_takePackedText_25 : decode M_Re_takePackedText.2.1 25 = .ok (.aload_n 0, 1) := by decide +kernel
theorem d_Re_takePackedText_26 : decode M_Re_takePackedText.2.1 26 = .ok (.dup, 1) := by decide +kernel
theorem d_Re_takePackedText_27 : decode M_Re_takePackedText.2.1 27 = .ok (.getfield 34, 3) := by decide +kernel
theorem d_Re_takePackedText_30 : decode M_Re_takePackedText.2.1 30 = .ok (.iconst 1, 1) := by decide +kernel
theorem d_Re_takePackedText_31 : decode M_Re_takePackedText.2.1 31 = .ok (.iadd, 1) := by decide +kernel
theorem d_Re_takePackedText_32 : decode M_Re_takePackedText.2.1 32 = .ok (.putfield 34, 3) := by decide +kernel
theorem d_Re_takePackedText_35 : decode M_Re_takePackedText.2.1 35 = .ok (.iconst 0, 1) := by decide +kernel
theorem d_Re_takePackedText_36 : decode M_Re_takePackedText.2.1 36 = .ok (.istore_n 2, 1) := by decide +kernel
theorem d_Re_takePackedText_37 : decode M_Re_takePackedText.2.1 37 = .ok (.iload_n 2, 1) := by decide +kernel
theorem d_Re_takePackedText_38 : decode M_Re_takePackedText.2.1 38 = .ok (.iload_n 1, 1) := by decide +kernel
theorem d_Re_takePackedText_39 : decode M_Re_takePackedText.2.1 39 = .ok (.if_icmp .ge 50, 3) := by decide +kernel
theorem d_Re_takePackedText_42 : decode M_Re_takePackedText.2.1 42 = .ok (.aload_n 0, 1) := by decide +kernel
theorem d_Re_takePackedText_43 : decode M_Re_takePackedText.2.1 43 = .ok (.getfield 22, 3) := by decide +kernel
theorem d_Re_takePackedText_46 : decode M_Re_takePackedText.2.1 46 = .ok (.aload_n 0, 1) := by decide +kernel
theorem d_Re_takePackedText_47 : decode M_Re_takePackedText.2.1 47 = .ok (.getfield 34, 3) := by decide +kernel
theorem d_Re_takePackedText_50 : decode M_Re_takePackedText.2.1 50 = .ok (.invokevirtual 100, 3) := by decide +kernel
theorem d_Re_takePackedText_53 : decode M_Re_takePackedText.2.1 53 = .ok (.bipush 10, 2) := by decide +kernel
theorem d_Re_takePackedText_55 : decode M_Re_takePackedText.2.1 55 = .ok (.if_icmp .eq 12, 3) := by decide +kernel
theorem d_Re_takePackedText_58 : decode M_Re_takePackedText.2.1 58 = .ok (.aload_n 0, 1) := by decide +kernel
theorem d_Re_takePackedText_59 : decode M_Re_takePackedText.2.1 59 = .ok (.invokevirtual 104, 3) := by decide +kernel
theorem d_Re_takePackedText_62 : decode M_Re_takePackedText.2.1 62 = .ok (.ifCond .ne 21, 3) := by decide +kernel
theorem d_Re_takePackedText_65 : decode M_Re_takePackedText.2.1 65 = .ok (.iconst 0, 1) := by decide +kernel
theorem d_Re_takePackedText_66 : decode M_Re_takePackedText.2.1 66 = .ok (.ireturn, 1) := by decide +kernel
theorem d_Re_takePackedText_67 : decode M_Re_takePackedText.2.1 67 = .ok (.iload_n 2, 1) := by decide +kernel
theorem d_Re_takePackedText_68 : decode M_Re_takePackedText.2.1 68 = .ok (.iload_n 1, 1) := by decide +kernel
theorem d_Re_takePackedText_69 : decode M_Re_takePackedText.2.1 69 = .ok (.iconst 1, 1) := by decide +kernel
theorem d_Re_takePackedText_70 : decode M_Re_takePackedText.2.1 70 = .ok (.isub, 1) := by decide +kernel
theorem d_Re_takePackedText_71 : decode M_Re_takePackedText.2.1 71 = .ok (.if_icmp .eq 10, 3) := by decide +kernel
theorem d_Re_takePackedText_74 : decode M_Re_takePackedText.2.1 74 = .ok (.aload_n 0, 1) := by decide +kernel
theorem d_Re_takePackedText_75 : decode M_Re_takePackedText.2.1 75 = .ok (.invokevirtual 115, 3) := by decide +kernel
theorem d_Re_takePackedText_78 : decode M_Re_takePackedText.2.1 78 = .ok (.ifCond .ne 5, 3) := by decide +kernel
theorem d_Re_takePackedText_81 : decode M_Re_takePackedText.2.1 81 = .ok (.iconst 0, 1) := by decide +kernel
theorem d_Re_takePackedText_82 : decode M_Re_takePackedText.2.1 82 = .ok (.ireturn, 1) := by decide +kernel
theorem d_Re_takePackedText_83 : decode M_Re_takePackedText.2.1 83 = .ok (.iinc 2 1, 3) := by decide +kernel
theorem d_Re_takePackedText_86 : decode M_Re_takePackedText.2.1 86 = .ok (.goto (-49), 3) := by decide +kernel
theorem d_Re_takePackedText_89 : decode M_Re_takePackedText.2.1 89 = .ok (.iconst 1, 1) := by decide +kernel
theorem d_Re_takePackedText_90 : decode M_Re_takePackedText.2.1 90 = .ok (.ireturn, 1) := by decide +kernel
theorem d_Re_takeCue_0 : decode M_Re_takeCue.2.1 0 = .ok (.iload_n 1, 1) := by decide +kernel
theorem d_Re_takeCue_1 : decode M_Re_takeCue.2.1 1 = .ok (.ifCond .ne 23, 3) := by decide +kernel
theorem d_Re_takeCue_4 : decode M_Re_takeCue.2.1 4 = .ok (.aload_n 0, 1) := by decide +kernel
theorem d_Re_takeCue_5 : decode M_Re_takeCue.2.1 5 = .ok (.invokevirtual 62, 3) := by decide +kernel
theorem d_Re_takeCue_8 : decode M_Re_takeCue.2.1 8 = .ok (.ifCond .eq 14, 3) := by decide +kernel
theorem d_Re_takeCue_11 : decode M_Re_takeCue.2.1 11 = .ok (.aload_n 0, 1) := by decide +kernel
theorem d_Re_takeCue_12 : decode M_Re_takeCue.2.1 12 = .ok (.invokevirtual 66, 3) := by decide +kernel
theorem d_Re_takeCue_15 : decode M_Re_takeCue.2.1 15 = .ok (.ifCond .eq 7, 3) := by decide +kernel
theorem d_Re_takeCue_18 : decode M_Re_takeCue.2.1 18 = .ok (.iconst 1, 1) := by decide +kernel
theorem d_Re_takeCue_19 : decode M_Re_takeCue.2.1 19 = .ok (.goto 4, 3) := by decide +kernel
theorem d_Re_takeCue_22 : decode M_Re_takeCue.2.1 22 = .ok (.iconst 0, 1) := by decide +kernel
theorem d_Re_takeCue_23 : decode M_Re_takeCue.2.1 23 = .ok (.ireturn, 1) := by decide +kernel
theorem d_Re_takeCue_24 : decode M_Re_takeCue.2.1 24 = .ok (.iload_n 1, 1) := by decide +kernel
theorem d_Re_takeCue_25 : decode M_Re_takeCue.2.1 25 = .ok (.iconst 1, 1) := by decide +kernel
theorem d_Re_takeCue_26 : decode M_Re_takeCue.2.1 26 = .ok (.if_icmp .ne 23, 3) := by decide +kernel
theorem d_Re_takeCue_29 : decode M_Re_takeCue.2.1 29 = .ok (.aload_n 0, 1) := by decide +kernel
theorem d_Re_takeCue_30 : decode M_Re_takeCue.2.1 30 = .ok (.invokevirtual 69, 3) := by decide +kernel
theorem d_Re_takeCue_33 : decode M_Re_takeCue.2.1 33 = .ok (.ifCond .eq 14, 3) := by decide +kernel
theorem d_Re_takeCue_36 : decode M_Re_takeCue.2.1 36 = .ok (.aload_n 0, 1) := by decide +kernel
theorem d_Re_takeCue_37 : decode M_Re_takeCue.2.1 37 = .ok (.invokevirtual 72, 3) := by decide +kernel
theorem d_Re_takeCue_40 : decode M_Re_takeCue.2.1 40 = .ok (.ifCond .eq 7, 3) := by decide +kernel
theorem d_Re_takeCue_43 : decode M_Re_takeCue.2.1 43 = .ok (.iconst 1, 1) := by decide +kernel
theorem d_Re_takeCue_44 : decode M_Re_takeCue.2.1 44 = .ok (.goto 4, 3) := by decide +kernel
theorem d_Re_takeCue_47 : decode M_Re_takeCue.2.1 47 = .ok (.iconst 0, 1) := by decide +kernel
theorem d_Re_takeCue_48 : decode M_Re_takeCue.2.1 48 = .ok (.ireturn, 1) := by decide +kernel
theorem d_Re_takeCue_49 : decode M_Re_takeCue.2.1 49 = .ok (.aload_n 0, 1) := by decide +kernel
theorem d_Re_takeCue_50 : decode M_Re_takeCue.2.1 50 = .ok (.invokevirtual 75, 3) := by decide +kernel
theorem d_Re_takeCue_53 : decode M_Re_takeCue.2.1 53 = .ok (.ifCond .eq 14, 3) := by decide +kernel
theorem d_Re_takeCue_56 : decode M_Re_takeCue.2.1 56 = .ok (.aload_n 0, 1) := by decide +kernel
theorem d_Re_takeCue_57 : decode M_Re_takeCue.2.1 57 = .ok (.invokevirtual 78, 3) := by decide +kernel
theorem d_Re_takeCue_60 : decode M_Re_takeCue.2.1 60 = .ok (.ifCond .eq 7, 3) := by decide +kernel
theorem d_Re_takeCue_63 : decode M_Re_takeCue.2.1 63 = .ok (.iconst 1, 1) := by decide +kernel
theorem d_Re_takeCue_64 : decode M_Re_takeCue.2.1 64 = .ok (.goto 4, 3) := by decide +kernel
theorem d_Re_takeCue_67 : decode M_Re_takeCue.2.1 67 = .ok (.iconst 0, 1) := by decide +kernel
theorem d_Re_takeCue_68 : decode M_Re_takeCue.2.1 68 = .ok (.ireturn, 1) := by decide +kernel
theorem dn_le {F : Nat → Int} {n : Nat} : ∀ (k p : Nat), p ≤ n → p + dn F n k p ≤ n
  | 0, p, h => by rw [dn]; omega
  | k + 1, p, h => by
    rw [dn]
    split
    · rename_i q
      have q1 : 48 ≤ lk F n p ∧ lk F n p ≤ 57 := mq1_iff.mp q
      have l := lk_p (F := F) (n := n) (p := p) (by omega)
      have := dn_le (F := F) (n := n) k (p + 1) (by omega)
      omega
    · omega
theorem frP_le {F : Nat → Int} {n p : Nat} (h : p ≤ n) : p ≤ (frP F n p).1 ∧ (frP F n p).1 ≤ n := by
  unfold frP
  have g := mq_le (F := F) (n := n) (A := sg 123 ++ dg9) (p := p) (by decide) h
  split
  · rename_i q
    have l := mq_len _ _ q
    have e : (sg 123 ++ dg9).length = 2 := rfl
    have d := dn_le (F := F) (n := n) 5 (p + 2) (by omega)
    have m := mq_le (F := F) (n := n) (A := sg 125) (p := p + 2 + dn F n 5 (p + 2)) (by decide) d
    omega
  · exact g
theorem hP_0 {f : Int} {F : Nat → Int} {n p : Nat} (h : f = 0) : hP f F n p = mq F n pat0 p := if_pos h
theorem hP_1 {f : Int} {F : Nat → Int} {n p : Nat} (h : f = 1) : hP f F n p = if (frP F n p).2 = true then frP F n (frP F n p).1 else frP F n p := (if_neg (by omega)).trans (if_pos h)
theorem hP_2 {f : Int} {F : Nat → Int} {n p : Nat} (h : f ≠ 0) (h1 : f ≠ 1) : hP f F n p = mq F n (pat6 ++ pat6) p := (if_neg h).trans (if_neg h1)
theorem hS_0 {f tk : Int} {F : Nat → Int} {n p : Nat} (h : f = 0) : hS f tk F n p = clk F n p := if_pos h
theorem hS_1 {f tk : Int} {F : Nat → Int} {n p : Nat} (h : f = 1) : hS f tk F n p = frV F n p * tk := (if_neg (by omega)).trans (if_pos h)
theorem hS_2 {f tk : Int} {F : Nat → Int} {n p : Nat} (h : f ≠ 0) (h1 : f ≠ 1) : hS f tk F n p = sxv F n 6 p 0 := (if_neg h).trans (if_neg h1)
theorem hE_0 {f tk : Int} {F : Nat → Int} {n p : Nat} (h : f = 0) : hE f tk F n p = clk F n (p + 15) := if_pos h
theorem hE_1 {f tk : Int} {F : Nat → Int} {n p : Nat} (h : f = 1) : hE f tk F n p = frV F n (frP F n p).1 * tk := (if_neg (by omega)).trans (if_pos h)
theorem hE_2 {f tk : Int} {F : Nat → Int} {n p : Nat} (h : f ≠ 0) (h1 : f ≠ 1) : hE f tk F n p = sxv F n 6 (p + 6) 0 := (if_neg h).trans (if_neg h1)
theorem txP_0 {f : Int} {F : Nat → Int} {n p : Nat} (h : f = 0) : txP f F n p = tx0 F n (n + 1 - p) p [] false := if_pos h
theorem txP_1 {f : Int} {F : Nat → Int} {n p : Nat} (h : f = 1) : txP f F n p = tx1 F n (n + 1 - p) p [] false := (if_neg (by omega)).trans (if_pos h)
theorem txP_2 {f : Int} {F : Nat → Int} {n p : Nat} (h : f ≠ 0) (h1 : f ≠ 1) : txP f F n p = tx2s F n p := (if_neg h).trans (if_neg h1)
theorem cuP_no {f tk : Int} {F : Nat → Int} {n p q : Nat} (h : hP f F n p = (q, false)) : cuP f tk F n p = (q, none) := by
  unfold cuP
  rw [h]
  exact if_neg (fun w => Bool.false_ne_true w)
theorem cuP_ok {f tk : Int} {F : Nat → Int} {n p q : Nat} (h : hP f F n p = (q, true)) : cuP f tk F n p = ((txP f F n q).1, (txP f F n q).2.map (fun T => (hS f tk F n p, hE f tk F n p, T))) := by
  unfold cuP
  rw [h]
  exact if_pos rfl
theorem iL_r (b : Int) : isLetterZ b = 0 ∨ isLetterZ b = 1 := by
  unfold isLetterZ
  split <;> omega
theorem iL_0 {b : Int} (h : isLetterZ b = 0) : ¬ (32 ≤ b ∧ b ≠ 124 ∧ b ≠ 127) := by
  unfold isLetterZ at h
  split at h
  · omega
  · assumption
theorem iL_1 {b : Int} (h : isLetterZ b ≠ 0) : 32 ≤ b ∧ b ≠ 124 ∧ b ≠ 127 := by
  unfold isLetterZ at h
  split at h
  · assumption
  · omega
theorem lad_t {E : Nat → Int} {T : List Int} {b : Int} : pL E (lad T true b) = zup (zup (pL E T) T.length 10) (T.length + 1) b := by
  have e : (T ++ [10]).length = T.length + 1 := by simp
  rw [pL_s, ← e, pL_s, List.append_assoc]
  rfl
theorem lad_f {E : Nat → Int} {T : List Int} {b : Int} : pL E (lad T false b) = zup (pL E T) T.length b := pL_s.symm
theorem lok_l {T : List Int} {br : Bool} {b : Int} (h : lok b T br) : (lad T br b).length ≤ 64 := by
  obtain ⟨_, h2⟩ := h
  have := lad_l (T := T) (br := br) (b := b)
  cases br <;> simp [bz] at h2 this ⊢ <;> omega
set_option maxHeartbeats 4000000 in
set_option maxRecDepth 100000 in
theorem c_Re_takeFrameTimes (G : GT) (h : HM) (xe b bb xf fo le n p : Nat) (F : Nat → Int) (sz br tm st en : Int) (num den tk : Int) (he : h xe = some (.inr (3, [.ref b, .ref xf, .ref fo, .ref le, .int (iZ sz), .int (iZ br), .int (iZ (p : Int)), .long (lZ tm), .long (lZ st), .long (lZ en)]))) (hb : h b = some (.inr (1, [.ref bb, .int (iZ (n : Int))]))) (hbb : h bb = some (.inl (G_i G, 1000, .inl (iA F)))) (hf : h xf = some (.inr (5, [.int (iZ num), .int (iZ den), .long (lZ tk)]))) (hn : n ≤ 1000) (hp : p ≤ n) (hF : ∀ k, 0 ≤ F k ∧ F k ≤ 255) : Rn G M_Re_takeFrameTimes (rm 3 68) [.ref xe] h (fun r h' => ((hP 1 F n p).2 = true → r = some (.int (iZ 1)) ∧ h' xe = some (.inr (3, [.ref b, .ref xf, .ref fo, .ref le, .int (iZ sz), .int (iZ br), .int (iZ (((hP 1 F n p).1 : Nat) : Int)), .long (lZ (frV F n (frP F n p).1 * tk)), .long (lZ (frV F n p * tk)), .long (lZ (frV F n (frP F n p).1 * tk))]))) ∧ ((hP 1 F n p).2 = false → r = some (.int (iZ 0)) ∧ ∃ tm' st' en' : Int, h' xe = some (.inr (3, [.ref b, .ref xf, .ref fo, .ref le, .int (iZ sz), .int (iZ br), .int (iZ (((hP 1 F n p).1 : Nat) : Int)), .long (lZ tm'), .long (lZ st'), .long (lZ en')]))) ∧ Fm [xe] h h') := by
  refine rn_of (by decide) (Nat.le_of_ble_eq_true rfl) ?_
  show Ev G M_Re_takeFrameTimes _ _ 0 [(0, .ref xe)] [] _ 0 0
  have fm : Fm [xe] h h := Fm.rf
  refine ev_aload_n d_Re_takeFrameTimes_0 rfl rfl ?_
  refine ev_callV M_Re_takeFrames (rm 2 45) _ (As := []) (c_Re_takeFrames G h xe b bb xf fo le n (p) F (sz) (br) (tm) (st) (en) num den tk he hb hbb hf hn (by omega) hF) d_Re_takeFrameTimes_1 mk_Re_takeFrames ml_Re_107 mv_Re_takeFrames he rfl rfl rfl (Nat.le_of_ble_eq_true rfl) ⟨by decide, by decide⟩ ⟨by decide, by decide⟩ (fun r h1 hq => ?_)
  obtain ⟨qy, qn, fmc⟩ := hq
  have hb := (fmc _ (ninc (cne hb he (by simp)) nin0)).trans hb
  have hbb := (fmc _ (ninc (cne hbb he (by simp)) nin0)).trans hbb
  have hf := (fmc _ (ninc (cne hf he (by simp)) nin0)).trans hf
  have fm := fm.call (by simp) fmc
  have fl0 := frP_le (F := F) (n := n) (p := p) (by omega)
  by_cases m0 : (frP F n (p)).2 = true
  ·
    obtain ⟨rfl, he⟩ := qy m0
    refine ez_if_ne (tgt := 9) (by decide) d_Re_takeFrameTimes_4 rfl (fun c4 => ?_) (fun c4 => absurd c4 (by omega))
    refine ev_aload_n d_Re_takeFrameTimes_9 rfl rfl ?_
    refine ev_aload_n d_Re_takeFrameTimes_10 rfl rfl ?_
    refine ev_get d_Re_takeFrameTimes_11 fl_Re_84 he rfl ?_
    refine ev_put2 (fs' := [.ref b, .ref xf, .ref fo, .ref le, .int (iZ sz), .int (iZ br), .int (iZ (((frP F n (p)).1 : Nat) : Int)), .long (lZ (frV F n (p) * tk)), .long (lZ (frV F n (p) * tk)), .long (lZ en)]) d_Re_takeFrameTimes_14 fw_Re_51 (Or.inr (fun _ _ _ q => by cases q; rfl)) he (Nat.le_of_ble_eq_true rfl) rfl rfl rfl (fun h2 h2a h2o => ?_)
    have hb := (h2o _ (cne hb he (by simp))).trans hb
    have hbb := (h2o _ (cne hbb he (by simp))).trans hbb
    have hf := (h2o _ (cne hf he (by simp))).trans hf
    have he := h2a
    have fm := fm.step (by simp) h2o
    refine ev_aload_n d_Re_takeFrameTimes_17 rfl rfl ?_
    refine ev_callV M_Re_takeFrames (rm 2 45) _ (As := []) (c_Re_takeFrames G h2 xe b bb xf fo le n ((frP F n (p)).1) F (sz) (br) (frV F n (p) * tk) (frV F n (p) * tk) (en) num den tk he hb hbb hf hn (by omega) hF) d_Re_takeFrameTimes_18 mk_Re_takeFrames ml_Re_107 mv_Re_takeFrames he rfl rfl rfl (Nat.le_of_ble_eq_true rfl) ⟨by decide, by decide⟩ ⟨by decide, by decide⟩ (fun r h3 hq => ?_)
    obtain ⟨qy, qn, fmc⟩ := hq
    have hb := (fmc _ (ninc (cne hb he (by simp)) nin0)).trans hb
    have hbb := (fmc _ (ninc (cne hbb he (by simp)) nin0)).trans hbb
    have hf := (fmc _ (ninc (cne hf he (by simp)) nin0)).trans hf
    have fm := fm.call (by simp) fmc
    have fl1 := frP_le (F := F) (n := n) (p := (frP F n (p)).1) (by omega)
    by_cases m1 : (frP F n ((frP F n (p)).1)).2 = true
    ·
      obtain ⟨rfl, he⟩ := qy m1
      refine ez_if_ne (tgt := 26) (by decide) d_Re_takeFrameTimes_21 rfl (fun c21 => ?_) (fun c21 => absurd c21 (by omega))
      refine ev_aload_n d_Re_takeFrameTimes_26 rfl rfl ?_
      refine ev_aload_n d_Re_takeFrameTimes_27 rfl rfl ?_
      refine ev_get d_Re_takeFrameTimes_28 fl_Re_84 he rfl ?_
      refine ev_put2 (fs' := [.ref b, .ref xf, .ref fo, .ref le, .int (iZ sz), .int (iZ br), .int (iZ (((frP F n ((frP F n (p)).1)).1 : Nat) : Int)), .long (lZ (frV F n ((frP F n (p)).1) * tk)), .long (lZ (frV F n (p) * tk)), .long (lZ (frV F n ((frP F n (p)).1) * tk))]) d_Re_takeFrameTimes_31 fw_Re_55 (Or.inr (fun _ _ _ q => by cases q; rfl)) he (Nat.le_of_ble_eq_true rfl) rfl rfl rfl (fun h4 h4a h4o => ?_)
      have hb := (h4o _ (cne hb he (by simp))).trans hb
      have hbb := (h4o _ (cne hbb he (by simp))).trans hbb
      have hf := (h4o _ (cne hf he (by simp))).trans hf
      have he := h4a
      have fm := fm.step (by simp) h4o
      refine ev_iconst (v := iZ 1) d_Re_takeFrameTimes_34 rfl ?_
      have hh : hP 1 F n p = frP F n (frP F n p).1 := by rw [hP_1 rfl, if_pos m0]
      exact ev_zreturn d_Re_takeFrameTimes_35 rfl (Or.inr rfl) (by decide) (by decide) (⟨fun _ => ⟨rfl, by rw [hh]; exact he⟩, fun q => absurd q (by rw [hh, m1]; decide), fm⟩)
    ·
      replace m1 := Bool.eq_false_iff.mpr m1
      obtain ⟨rfl, tm', st', en', he⟩ := qn m1
      refine ez_if_ne (tgt := 26) (by decide) d_Re_takeFrameTimes_21 rfl (fun c21 => absurd c21 (by omega)) (fun c21 => ?_)
      refine ev_iconst (v := iZ 0) d_Re_takeFrameTimes_24 rfl ?_
      have hh : hP 1 F n p = frP F n (frP F n p).1 := by rw [hP_1 rfl, if_pos m0]
      exact ev_zreturn d_Re_takeFrameTimes_25 rfl (Or.inl rfl) (by decide) (by decide) (⟨fun q => absurd q (by rw [hh, m1]; decide), fun _ => ⟨rfl, tm', st', en', by rw [hh]; exact he⟩, fm⟩)
  ·
    replace m0 := Bool.eq_false_iff.mpr m0
    obtain ⟨rfl, tm', st', en', he⟩ := qn m0
    refine ez_if_ne (tgt := 9) (by decide) d_Re_takeFrameTimes_4 rfl (fun c4 => absurd c4 (by omega)) (fun c4 => ?_)
    refine ev_iconst (v := iZ 0) d_Re_takeFrameTimes_7 rfl ?_
    have hh : hP 1 F n p = frP F n p := by rw [hP_1 rfl, if_neg (by rw [m0]; decide)]
    exact ev_zreturn d_Re_takeFrameTimes_8 rfl (Or.inl rfl) (by decide) (by decide) (⟨fun q => absurd q (by rw [hh, m0]; decide), fun _ => ⟨rfl, tm', st', en', by rw [hh]; exact he⟩, fm⟩)
set_option maxHeartbeats 4000000 in
set_option maxRecDepth 100000 in
theorem c_Re_takeSixBytes (G : GT) (h : HM) (xe b bb xf fo le n p : Nat) (F : Nat → Int) (sz br tm st en : Int) (he : h xe = some (.inr (3, [.ref b, .ref xf, .ref fo, .ref le, .int (iZ sz), .int (iZ br), .int (iZ (p : Int)), .long (lZ tm), .long (lZ st), .long (lZ en)]))) (hb : h b = some (.inr (1, [.ref bb, .int (iZ (n : Int))]))) (hbb : h bb = some (.inl (G_i G, 1000, .inl (iA F)))) (hn : n ≤ 1000) (hp : p ≤ n) (hF : ∀ k, 0 ≤ F k ∧ F k ≤ 255) : Rn G M_Re_takeSixBytes (rm 1 22) [.ref xe] h (fun r h' => ((mq F n (pat6) p).2 = true → r = some (.int (iZ 1)) ∧ h' xe = some (.inr (3, [.ref b, .ref xf, .ref fo, .ref le, .int (iZ sz), .int (iZ br), .int (iZ ((p + 6 : Nat) : Int)), .long (lZ (sxv F n 6 p 0)), .long (lZ st), .long (lZ en)]))) ∧ ((mq F n (pat6) p).2 = false → r = some (.int (iZ 0)) ∧ ∃ tm' st' en' : Int, h' xe = some (.inr (3, [.ref b, .ref xf, .ref fo, .ref le, .int (iZ sz), .int (iZ br), .int (iZ (((mq F n (pat6) p).1 : Nat) : Int)), .long (lZ tm'), .long (lZ st'), .long (lZ en')]))) ∧ Fm [xe] h h') := by
  refine rn_of (by decide) (Nat.le_of_ble_eq_true rfl) ?_
  show Ev G M_Re_takeSixBytes _ _ 0 [(0, .ref xe)] [] _ 0 0
  have fm : Fm [xe] h h := Fm.rf
  refine ev_aload_n d_Re_takeSixBytes_0 rfl rfl ?_
  refine ev_lconst (v := lZ 0) d_Re_takeSixBytes_1 rfl ?_
  refine ev_put2 (fs' := [.ref b, .ref xf, .ref fo, .ref le, .int (iZ sz), .int (iZ br), .int (iZ (p : Int)), .long (lZ 0), .long (lZ st), .long (lZ en)]) d_Re_takeSixBytes_2 fw_Re_84 (Or.inr (fun _ _ _ q => by cases q; rfl)) he (Nat.le_of_ble_eq_true rfl) rfl rfl rfl (fun h1 h1a h1o => ?_)
  have hb := (h1o _ (cne hb he (by simp))).trans hb
  have hbb := (h1o _ (cne hbb he (by simp))).trans hbb
  have he := h1a
  have fm := fm.step (by simp) h1o
  refine ev_iconst (v := iZ 0) d_Re_takeSixBytes_5 rfl ?_
  refine ev_istore_n (L' := [(0, .ref xe), (1, .int (iZ 0))]) d_Re_takeSixBytes_6 rfl (by decide) rfl ?_
  refine ev_iload_n d_Re_takeSixBytes_7 rfl rfl ?_
  refine ev_bipush (v := iZ 6) d_Re_takeSixBytes_8 rfl ?_
  refine ez_icmp_ge (tgt := 63) (by decide) (by decide) d_Re_takeSixBytes_10 rfl (fun c10 => absurd c10 (by omega)) (fun c10 => ?_)
  refine ev_aload_n d_Re_takeSixBytes_13 rfl rfl ?_
  refine ev_get d_Re_takeSixBytes_14 fl_Re_22 he rfl ?_
  refine ev_aload_n d_Re_takeSixBytes_17 rfl rfl ?_
  refine ev_get d_Re_takeSixBytes_18 fl_Re_34 he rfl ?_
  refine ev_pV M_Bu_look 0 0 (As := [.int (iZ (p : Int))]) (c_Bu_look G h1 b bb F n (p : Int) hb hbb (by omega) (by omega)) d_Re_takeSixBytes_21 mk_Bu_look ml_Re_100 mv_Bu_look hb rfl rfl rfl (Nat.le_of_ble_eq_true rfl) ⟨by decide, by decide⟩ ⟨by decide, by decide⟩ ?_
  refine ev_top (lk F n p) (look_lk) ?_
  have rl := lk_r (n := n) hF (p)
  refine ev_istore_n (L' := [(0, .ref xe), (1, .int (iZ 0)), (2, .int (iZ (lk F n p)))]) d_Re_takeSixBytes_24 rfl (by decide) rfl ?_
  refine ev_iload_n d_Re_takeSixBytes_25 rfl rfl ?_
  refine ev_iconst (v := iZ (-1)) d_Re_takeSixBytes_26 rfl ?_
  refine ez_icmp_ne (tgt := 32) (by omega) (by decide) d_Re_takeSixBytes_27 rfl (fun c27 => ?_) (fun c27 => ?_)
  · have y0 := ab_t (F := F) (n := n) (p := p) hF c27
    refine ev_aload_n d_Re_takeSixBytes_32 rfl rfl ?_
    refine ev_aload_n d_Re_takeSixBytes_33 rfl rfl ?_
    refine ev_get d_Re_takeSixBytes_34 fl_Re_84 he rfl ?_
    refine ev_ldc2 (v := lZ 256) d_Re_takeSixBytes_37 kc_Re_121 ?_
    refine ez_lmul d_Re_takeSixBytes_40 ?_
    refine ev_iload_n d_Re_takeSixBytes_41 rfl rfl ?_
    refine ez_i2l (by omega) d_Re_takeSixBytes_42 ?_
    refine ez_ladd d_Re_takeSixBytes_43 ?_
    refine ev_put2 (fs' := [.ref b, .ref xf, .ref fo, .ref le, .int (iZ sz), .int (iZ br), .int (iZ (p : Int)), .long (lZ (0 + (lk F n p))), .long (lZ st), .long (lZ en)]) d_Re_takeSixBytes_44 fw_Re_84 (Or.inr (fun _ _ _ q => by cases q; rfl)) he (Nat.le_of_ble_eq_true rfl) rfl rfl rfl (fun h2 h2a h2o => ?_)
    have hb := (h2o _ (cne hb he (by simp))).trans hb
    have hbb := (h2o _ (cne hbb he (by simp))).trans hbb
    have he := h2a
    have fm := fm.step (by simp) h2o
    refine ev_aload_n d_Re_takeSixBytes_47 rfl rfl ?_
    refine ev_dup d_Re_takeSixBytes_48 rfl ?_
    refine ev_get d_Re_takeSixBytes_49 fl_Re_34 he rfl ?_
    refine ev_iconst (v := iZ 1) d_Re_takeSixBytes_52 rfl ?_
    refine ez_iadd d_Re_takeSixBytes_53 ?_
    rw [show ((p : Int) + 1 : Int) = ((p + 1 : Nat) : Int) from by omega]
    refine ev_put2 (fs' := [.ref b, .ref xf, .ref fo, .ref le, .int (iZ sz), .int (iZ br), .int (iZ ((p + 1 : Nat) : Int)), .long (lZ (0 + (lk F n p))), .long (lZ st), .long (lZ en)]) d_Re_takeSixBytes_54 fw_Re_34 (Or.inr (fun _ _ _ q => by cases q; rfl)) he (Nat.le_of_ble_eq_true rfl) rfl rfl rfl (fun h3 h3a h3o => ?_)
    have hb := (h3o _ (cne hb he (by simp))).trans hb
    have hbb := (h3o _ (cne hbb he (by simp))).trans hbb
    have he := h3a
    have fm := fm.step (by simp) h3o
    refine ez_iinc (L' := [(0, .ref xe), (1, .int (iZ 1)), (2, .int (iZ (lk F n p)))]) d_Re_takeSixBytes_57 rfl (by decide) rfl ?_
    refine ev_goto (tgt := 7) d_Re_takeSixBytes_60 rfl ?_
    refine ev_iload_n d_Re_takeSixBytes_7 rfl rfl ?_
    refine ev_bipush (v := iZ 6) d_Re_takeSixBytes_8 rfl ?_
    refine ez_icmp_ge (tgt := 63) (by decide) (by decide) d_Re_takeSixBytes_10 rfl (fun c10 => absurd c10 (by omega)) (fun c10 => ?_)
    refine ev_aload_n d_Re_takeSixBytes_13 rfl rfl ?_
    refine ev_get d_Re_takeSixBytes_14 fl_Re_22 he rfl ?_
    refine ev_aload_n d_Re_takeSixBytes_17 rfl rfl ?_
    refine ev_get d_Re_takeSixBytes_18 fl_Re_34 he rfl ?_
    refine ev_pV M_Bu_look 0 0 (As := [.int (iZ ((p + 1 : Nat) : Int))]) (c_Bu_look G h3 b bb F n ((p + 1 : Nat) : Int) hb hbb (by omega) (by omega)) d_Re_takeSixBytes_21 mk_Bu_look ml_Re_100 mv_Bu_look hb rfl rfl rfl (Nat.le_of_ble_eq_true rfl) ⟨by decide, by decide⟩ ⟨by decide, by decide⟩ ?_
    refine ev_top (lk F n ((p + 1))) (look_lk) ?_
    have rl := lk_r (n := n) hF ((p + 1))
    refine ev_istore_n (L' := [(0, .ref xe), (1, .int (iZ 1)), (2, .int (iZ (lk F n ((p + 1)))))]) d_Re_takeSixBytes_24 rfl (by decide) rfl ?_
    refine ev_iload_n d_Re_takeSixBytes_25 rfl rfl ?_
    refine ev_iconst (v := iZ (-1)) d_Re_takeSixBytes_26 rfl ?_
    refine ez_icmp_ne (tgt := 32) (by omega) (by decide) d_Re_takeSixBytes_27 rfl (fun c27 => ?_) (fun c27 => ?_)
    · have y1 := ab_t (F := F) (n := n) (p := p + 1) hF c27
      refine ev_aload_n d_Re_takeSixBytes_32 rfl rfl ?_
      refine ev_aload_n d_Re_takeSixBytes_33 rfl rfl ?_
      refine ev_get d_Re_takeSixBytes_34 fl_Re_84 he rfl ?_
      refine ev_ldc2 (v := lZ 256) d_Re_takeSixBytes_37 kc_Re_121 ?_
      refine ez_lmul d_Re_takeSixBytes_40 ?_
      refine ev_iload_n d_Re_takeSixBytes_41 rfl rfl ?_
      refine ez_i2l (by omega) d_Re_takeSixBytes_42 ?_
      refine ez_ladd d_Re_takeSixBytes_43 ?_
      refine ev_put2 (fs' := [.ref b, .ref xf, .ref fo, .ref le, .int (iZ sz), .int (iZ br), .int (iZ ((p + 1 : Nat) : Int)), .long (lZ (((0 + (lk F n p)) * 256) + (lk F n ((p + 1))))), .long (lZ st), .long (lZ en)]) d_Re_takeSixBytes_44 fw_Re_84 (Or.inr (fun _ _ _ q => by cases q; rfl)) he (Nat.le_of_ble_eq_true rfl) rfl rfl rfl (fun h4 h4a h4o => ?_)
      have hb := (h4o _ (cne hb he (by simp))).trans hb
      have hbb := (h4o _ (cne hbb he (by simp))).trans hbb
      have he := h4a
      have fm := fm.step (by simp) h4o
      refine ev_aload_n d_Re_takeSixBytes_47 rfl rfl ?_
      refine ev_dup d_Re_takeSixBytes_48 rfl ?_
      refine ev_get d_Re_takeSixBytes_49 fl_Re_34 he rfl ?_
      refine ev_iconst (v := iZ 1) d_Re_takeSixBytes_52 rfl ?_
      refine ez_iadd d_Re_takeSixBytes_53 ?_
      rw [show (((p + 1 : Nat) : Int) + 1 : Int) = ((p + 1 + 1 : Nat) : Int) from by omega]
      refine ev_put2 (fs' := [.ref b, .ref xf, .ref fo, .ref le, .int (iZ sz), .int (iZ br), .int (iZ ((p + 1 + 1 : Nat) : Int)), .long (lZ (((0 + (lk F n p)) * 256) + (lk F n ((p + 1))))), .long (lZ st), .long (lZ en)]) d_Re_takeSixBytes_54 fw_Re_34 (Or.inr (fun _ _ _ q => by cases q; rfl)) he (Nat.le_of_ble_eq_true rfl) rfl rfl rfl (fun h5 h5a h5o => ?_)
      have hb := (h5o _ (cne hb he (by simp))).trans hb
      have hbb := (h5o _ (cne hbb he (by simp))).trans hbb
      have he := h5a
      have fm := fm.step (by simp) h5o
      refine ez_iinc (L' := [(0, .ref xe), (1, .int (iZ 2)), (2, .int (iZ (lk F n ((p + 1)))))]) d_Re_takeSixBytes_57 rfl (by decide) rfl ?_
      refine ev_goto (tgt := 7) d_Re_takeSixBytes_60 rfl ?_
      refine ev_iload_n d_Re_takeSixBytes_7 rfl rfl ?_
      refine ev_bipush (v := iZ 6) d_Re_takeSixBytes_8 rfl ?_
      refine ez_icmp_ge (tgt := 63) (by decide) (by decide) d_Re_takeSixBytes_10 rfl (fun c10 => absurd c10 (by omega)) (fun c10 => ?_)
      refine ev_aload_n d_Re_takeSixBytes_13 rfl rfl ?_
      refine ev_get d_Re_takeSixBytes_14 fl_Re_22 he rfl ?_
      refine ev_aload_n d_Re_takeSixBytes_17 rfl rfl ?_
      refine ev_get d_Re_takeSixBytes_18 fl_Re_34 he rfl ?_
      refine ev_pV M_Bu_look 0 0 (As := [.int (iZ ((p + 1 + 1 : Nat) : Int))]) (c_Bu_look G h5 b bb F n ((p + 1 + 1 : Nat) : Int) hb hbb (by omega) (by omega)) d_Re_takeSixBytes_21 mk_Bu_look ml_Re_100 mv_Bu_look hb rfl rfl rfl (Nat.le_of_ble_eq_true rfl) ⟨by decide, by decide⟩ ⟨by decide, by decide⟩ ?_
      refine ev_top (lk F n ((p + 1 + 1))) (look_lk) ?_
      have rl := lk_r (n := n) hF ((p + 1 + 1))
      refine ev_istore_n (L' := [(0, .ref xe), (1, .int (iZ 2)), (2, .int (iZ (lk F n ((p + 1 + 1)))))]) d_Re_takeSixBytes_24 rfl (by decide) rfl ?_
      refine ev_iload_n d_Re_takeSixBytes_25 rfl rfl ?_
      refine ev_iconst (v := iZ (-1)) d_Re_takeSixBytes_26 rfl ?_
      refine ez_icmp_ne (tgt := 32) (by omega) (by decide) d_Re_takeSixBytes_27 rfl (fun c27 => ?_) (fun c27 => ?_)
      · have y2 := ab_t (F := F) (n := n) (p := p + 1 + 1) hF c27
        refine ev_aload_n d_Re_takeSixBytes_32 rfl rfl ?_
        refine ev_aload_n d_Re_takeSixBytes_33 rfl rfl ?_
        refine ev_get d_Re_takeSixBytes_34 fl_Re_84 he rfl ?_
        refine ev_ldc2 (v := lZ 256) d_Re_takeSixBytes_37 kc_Re_121 ?_
        refine ez_lmul d_Re_takeSixBytes_40 ?_
        refine ev_iload_n d_Re_takeSixBytes_41 rfl rfl ?_
        refine ez_i2l (by omega) d_Re_takeSixBytes_42 ?_
        refine ez_ladd d_Re_takeSixBytes_43 ?_
        refine ev_put2 (fs' := [.ref b, .ref xf, .ref fo, .ref le, .int (iZ sz), .int (iZ br), .int (iZ ((p + 1 + 1 : Nat) : Int)), .long (lZ (((((0 + (lk F n p)) * 256) + (lk F n ((p + 1)))) * 256) + (lk F n ((p + 1 + 1))))), .long (lZ st), .long (lZ en)]) d_Re_takeSixBytes_44 fw_Re_84 (Or.inr (fun _ _ _ q => by cases q; rfl)) he (Nat.le_of_ble_eq_true rfl) rfl rfl rfl (fun h6 h6a h6o => ?_)
        have hb := (h6o _ (cne hb he (by simp))).trans hb
        have hbb := (h6o _ (cne hbb he (by simp))).trans hbb
        have he := h6a
        have fm := fm.step (by simp) h6o
        refine ev_aload_n d_Re_takeSixBytes_47 rfl rfl ?_
        refine ev_dup d_Re_takeSixBytes_48 rfl ?_
        refine ev_get d_Re_takeSixBytes_49 fl_Re_34 he rfl ?_
        refine ev_iconst (v := iZ 1) d_Re_takeSixBytes_52 rfl ?_
        refine ez_iadd d_Re_takeSixBytes_53 ?_
        rw [show (((p + 1 + 1 : Nat) : Int) + 1 : Int) = ((p + 1 + 1 + 1 : Nat) : Int) from by omega]
        refine ev_put2 (fs' := [.ref b, .ref xf, .ref fo, .ref le, .int (iZ sz), .int (iZ br), .int (iZ ((p + 1 + 1 + 1 : Nat) : Int)), .long (lZ (((((0 + (lk F n p)) * 256) + (lk F n ((p + 1)))) * 256) + (lk F n ((p + 1 + 1))))), .long (lZ st), .long (lZ en)]) d_Re_takeSixBytes_54 fw_Re_34 (Or.inr (fun _ _ _ q => by cases q; rfl)) he (Nat.le_of_ble_eq_true rfl) rfl rfl rfl (fun h7 h7a h7o => ?_)
        have hb := (h7o _ (cne hb he (by simp))).trans hb
        have hbb := (h7o _ (cne hbb he (by simp))).trans hbb
        have he := h7a
        have fm := fm.step (by simp) h7o
        refine ez_iinc (L' := [(0, .ref xe), (1, .int (iZ 3)), (2, .int (iZ (lk F n ((p + 1 + 1)))))]) d_Re_takeSixBytes_57 rfl (by decide) rfl ?_
        refine ev_goto (tgt := 7) d_Re_takeSixBytes_60 rfl ?_
        refine ev_iload_n d_Re_takeSixBytes_7 rfl rfl ?_
        refine ev_bipush (v := iZ 6) d_Re_takeSixBytes_8 rfl ?_
        refine ez_icmp_ge (tgt := 63) (by decide) (by decide) d_Re_takeSixBytes_10 rfl (fun c10 => absurd c10 (by omega)) (fun c10 => ?_)
        refine ev_aload_n d_Re_takeSixBytes_13 rfl rfl ?_
        refine ev_get d_Re_takeSixBytes_14 fl_Re_22 he rfl ?_
        refine ev_aload_n d_Re_takeSixBytes_17 rfl rfl ?_
        refine ev_get d_Re_takeSixBytes_18 fl_Re_34 he rfl ?_
        refine ev_pV M_Bu_look 0 0 (As := [.int (iZ ((p + 1 + 1 + 1 : Nat) : Int))]) (c_Bu_look G h7 b bb F n ((p + 1 + 1 + 1 : Nat) : Int) hb hbb (by omega) (by omega)) d_Re_takeSixBytes_21 mk_Bu_look ml_Re_100 mv_Bu_look hb rfl rfl rfl (Nat.le_of_ble_eq_true rfl) ⟨by decide, by decide⟩ ⟨by decide, by decide⟩ ?_
        refine ev_top (lk F n ((p + 1 + 1 + 1))) (look_lk) ?_
        have rl := lk_r (n := n) hF ((p + 1 + 1 + 1))
        refine ev_istore_n (L' := [(0, .ref xe), (1, .int (iZ 3)), (2, .int (iZ (lk F n ((p + 1 + 1 + 1)))))]) d_Re_takeSixBytes_24 rfl (by decide) rfl ?_
        refine ev_iload_n d_Re_takeSixBytes_25 rfl rfl ?_
        refine ev_iconst (v := iZ (-1)) d_Re_takeSixBytes_26 rfl ?_
        refine ez_icmp_ne (tgt := 32) (by omega) (by decide) d_Re_takeSixBytes_27 rfl (fun c27 => ?_) (fun c27 => ?_)
        · have y3 := ab_t (F := F) (n := n) (p := p + 1 + 1 + 1) hF c27
          refine ev_aload_n d_Re_takeSixBytes_32 rfl rfl ?_
          refine ev_aload_n d_Re_takeSixBytes_33 rfl rfl ?_
          refine ev_get d_Re_takeSixBytes_34 fl_Re_84 he rfl ?_
          refine ev_ldc2 (v := lZ 256) d_Re_takeSixBytes_37 kc_Re_121 ?_
          refine ez_lmul d_Re_takeSixBytes_40 ?_
          refine ev_iload_n d_Re_takeSixBytes_41 rfl rfl ?_
          refine ez_i2l (by omega) d_Re_takeSixBytes_42 ?_
          refine ez_ladd d_Re_takeSixBytes_43 ?_
          refine ev_put2 (fs' := [.ref b, .ref xf, .ref fo, .ref le, .int (iZ sz), .int (iZ br), .int (iZ ((p + 1 + 1 + 1 : Nat) : Int)), .long (lZ (((((((0 + (lk F n p)) * 256) + (lk F n ((p + 1)))) * 256) + (lk F n ((p + 1 + 1)))) * 256) + (lk F n ((p + 1 + 1 + 1))))), .long (lZ st), .long (lZ en)]) d_Re_takeSixBytes_44 fw_Re_84 (Or.inr (fun _ _ _ q => by cases q; rfl)) he (Nat.le_of_ble_eq_true rfl) rfl rfl rfl (fun h8 h8a h8o => ?_)
          have hb := (h8o _ (cne hb he (by simp))).trans hb
          have hbb := (h8o _ (cne hbb he (by simp))).trans hbb
          have he := h8a
          have fm := fm.step (by simp) h8o
          refine ev_aload_n d_Re_takeSixBytes_47 rfl rfl ?_
          refine ev_dup d_Re_takeSixBytes_48 rfl ?_
          refine ev_get d_Re_takeSixBytes_49 fl_Re_34 he rfl ?_
          refine ev_iconst (v := iZ 1) d_Re_takeSixBytes_52 rfl ?_
          refine ez_iadd d_Re_takeSixBytes_53 ?_
          rw [show (((p + 1 + 1 + 1 : Nat) : Int) + 1 : Int) = ((p + 1 + 1 + 1 + 1 : Nat) : Int) from by omega]
          refine ev_put2 (fs' := [.ref b, .ref xf, .ref fo, .ref le, .int (iZ sz), .int (iZ br), .int (iZ ((p + 1 + 1 + 1 + 1 : Nat) : Int)), .long (lZ (((((((0 + (lk F n p)) * 256) + (lk F n ((p + 1)))) * 256) + (lk F n ((p + 1 + 1)))) * 256) + (lk F n ((p + 1 + 1 + 1))))), .long (lZ st), .long (lZ en)]) d_Re_takeSixBytes_54 fw_Re_34 (Or.inr (fun _ _ _ q => by cases q; rfl)) he (Nat.le_of_ble_eq_true rfl) rfl rfl rfl (fun h9 h9a h9o => ?_)
          have hb := (h9o _ (cne hb he (by simp))).trans hb
          have hbb := (h9o _ (cne hbb he (by simp))).trans hbb
          have he := h9a
          have fm := fm.step (by simp) h9o
          refine ez_iinc (L' := [(0, .ref xe), (1, .int (iZ 4)), (2, .int (iZ (lk F n ((p + 1 + 1 + 1)))))]) d_Re_takeSixBytes_57 rfl (by decide) rfl ?_
          refine ev_goto (tgt := 7) d_Re_takeSixBytes_60 rfl ?_
          refine ev_iload_n d_Re_takeSixBytes_7 rfl rfl ?_
          refine ev_bipush (v := iZ 6) d_Re_takeSixBytes_8 rfl ?_
          refine ez_icmp_ge (tgt := 63) (by decide) (by decide) d_Re_takeSixBytes_10 rfl (fun c10 => absurd c10 (by omega)) (fun c10 => ?_)
          refine ev_aload_n d_Re_takeSixBytes_13 rfl rfl ?_
          refine ev_get d_Re_takeSixBytes_14 fl_Re_22 he rfl ?_
          refine ev_aload_n d_Re_takeSixBytes_17 rfl rfl ?_
          refine ev_get d_Re_takeSixBytes_18 fl_Re_34 he rfl ?_
          refine ev_pV M_Bu_look 0 0 (As := [.int (iZ ((p + 1 + 1 + 1 + 1 : Nat) : Int))]) (c_Bu_look G h9 b bb F n ((p + 1 + 1 + 1 + 1 : Nat) : Int) hb hbb (by omega) (by omega)) d_Re_takeSixBytes_21 mk_Bu_look ml_Re_100 mv_Bu_look hb rfl rfl rfl (Nat.le_of_ble_eq_true rfl) ⟨by decide, by decide⟩ ⟨by decide, by decide⟩ ?_
          refine ev_top (lk F n ((p + 1 + 1 + 1 + 1))) (look_lk) ?_
          have rl := lk_r (n := n) hF ((p + 1 + 1 + 1 + 1))
          refine ev_istore_n (L' := [(0, .ref xe), (1, .int (iZ 4)), (2, .int (iZ (lk F n ((p + 1 + 1 + 1 + 1)))))]) d_Re_takeSixBytes_24 rfl (by decide) rfl ?_
          refine ev_iload_n d_Re_takeSixBytes_25 rfl rfl ?_
          refine ev_iconst (v := iZ (-1)) d_Re_takeSixBytes_26 rfl ?_
          refine ez_icmp_ne (tgt := 32) (by omega) (by decide) d_Re_takeSixBytes_27 rfl (fun c27 => ?_) (fun c27 => ?_)
          · have y4 := ab_t (F := F) (n := n) (p := p + 1 + 1 + 1 + 1) hF c27
            refine ev_aload_n d_Re_takeSixBytes_32 rfl rfl ?_
            refine ev_aload_n d_Re_takeSixBytes_33 rfl rfl ?_
            refine ev_get d_Re_takeSixBytes_34 fl_Re_84 he rfl ?_
            refine ev_ldc2 (v := lZ 256) d_Re_takeSixBytes_37 kc_Re_121 ?_
            refine ez_lmul d_Re_takeSixBytes_40 ?_
            refine ev_iload_n d_Re_takeSixBytes_41 rfl rfl ?_
            refine ez_i2l (by omega) d_Re_takeSixBytes_42 ?_
            refine ez_ladd d_Re_takeSixBytes_43 ?_
            refine ev_put2 (fs' := [.ref b, .ref xf, .ref fo, .ref le, .int (iZ sz), .int (iZ br), .int (iZ ((p + 1 + 1 + 1 + 1 : Nat) : Int)), .long (lZ (((((((((0 + (lk F n p)) * 256) + (lk F n ((p + 1)))) * 256) + (lk F n ((p + 1 + 1)))) * 256) + (lk F n ((p + 1 + 1 + 1)))) * 256) + (lk F n ((p + 1 + 1 + 1 + 1))))), .long (lZ st), .long (lZ en)]) d_Re_takeSixBytes_44 fw_Re_84 (Or.inr (fun _ _ _ q => by cases q; rfl)) he (Nat.le_of_ble_eq_true rfl) rfl rfl rfl (fun h10 h10a h10o => ?_)
            have hb := (h10o _ (cne hb he (by simp))).trans hb
            have hbb := (h10o _ (cne hbb he (by simp))).trans hbb
            have he := h10a
            have fm := fm.step (by simp) h10o
            refine ev_aload_n d_Re_takeSixBytes_47 rfl rfl ?_
            refine ev_dup d_Re_takeSixBytes_48 rfl ?_
            refine ev_get d_Re_takeSixBytes_49 fl_Re_34 he rfl ?_
            refine ev_iconst (v := iZ 1) d_Re_takeSixBytes_52 rfl ?_
            refine ez_iadd d_Re_takeSixBytes_53 ?_
            rw [show (((p + 1 + 1 + 1 + 1 : Nat) : Int) + 1 : Int) = ((p + 1 + 1 + 1 + 1 + 1 : Nat) : Int) from by omega]
            refine ev_put2 (fs' := [.ref b, .ref xf, .ref fo, .ref le, .int (iZ sz), .int (iZ br), .int (iZ ((p + 1 + 1 + 1 + 1 + 1 : Nat) : Int)), .long (lZ (((((((((0 + (lk F n p)) * 256) + (lk F n ((p + 1)))) * 256) + (lk F n ((p + 1 + 1)))) * 256) + (lk F n ((p + 1 + 1 + 1)))) * 256) + (lk F n ((p + 1 + 1 + 1 + 1))))), .long (lZ st), .long (lZ en)]) d_Re_takeSixBytes_54 fw_Re_34 (Or.inr (fun _ _ _ q => by cases q; rfl)) he (Nat.le_of_ble_eq_true rfl) rfl rfl rfl (fun h11 h11a h11o => ?_)
            have hb := (h11o _ (cne hb he (by simp))).trans hb
            have hbb := (h11o _ (cne hbb he (by simp))).trans hbb
            have he := h11a
            have fm := fm.step (by simp) h11o
            refine ez_iinc (L' := [(0, .ref xe), (1, .int (iZ 5)), (2, .int (iZ (lk F n ((p + 1 + 1 + 1 + 1)))))]) d_Re_takeSixBytes_57 rfl (by decide) rfl ?_
            refine ev_goto (tgt := 7) d_Re_takeSixBytes_60 rfl ?_
            refine ev_iload_n d_Re_takeSixBytes_7 rfl rfl ?_
            refine ev_bipush (v := iZ 6) d_Re_takeSixBytes_8 rfl ?_
            refine ez_icmp_ge (tgt := 63) (by decide) (by decide) d_Re_takeSixBytes_10 rfl (fun c10 => absurd c10 (by omega)) (fun c10 => ?_)
            refine ev_aload_n d_Re_takeSixBytes_13 rfl rfl ?_
            refine ev_get d_Re_takeSixBytes_14 fl_Re_22 he rfl ?_
            refine ev_aload_n d_Re_takeSixBytes_17 rfl rfl ?_
            refine ev_get d_Re_takeSixBytes_18 fl_Re_34 he rfl ?_
            refine ev_pV M_Bu_look 0 0 (As := [.int (iZ ((p + 1 + 1 + 1 + 1 + 1 : Nat) : Int))]) (c_Bu_look G h11 b bb F n ((p + 1 + 1 + 1 + 1 + 1 : Nat) : Int) hb hbb (by omega) (by omega)) d_Re_takeSixBytes_21 mk_Bu_look ml_Re_100 mv_Bu_look hb rfl rfl rfl (Nat.le_of_ble_eq_true rfl) ⟨by decide, by decide⟩ ⟨by decide, by decide⟩ ?_
            refine ev_top (lk F n ((p + 1 + 1 + 1 + 1 + 1))) (look_lk) ?_
            have rl := lk_r (n := n) hF ((p + 1 + 1 + 1 + 1 + 1))
            refine ev_istore_n (L' := [(0, .ref xe), (1, .int (iZ 5)), (2, .int (iZ (lk F n ((p + 1 + 1 + 1 + 1 + 1)))))]) d_Re_takeSixBytes_24 rfl (by decide) rfl ?_
            refine ev_iload_n d_Re_takeSixBytes_25 rfl rfl ?_
            refine ev_iconst (v := iZ (-1)) d_Re_takeSixBytes_26 rfl ?_
            refine ez_icmp_ne (tgt := 32) (by omega) (by decide) d_Re_takeSixBytes_27 rfl (fun c27 => ?_) (fun c27 => ?_)
            · have y5 := ab_t (F := F) (n := n) (p := p + 1 + 1 + 1 + 1 + 1) hF c27
              refine ev_aload_n d_Re_takeSixBytes_32 rfl rfl ?_
              refine ev_aload_n d_Re_takeSixBytes_33 rfl rfl ?_
              refine ev_get d_Re_takeSixBytes_34 fl_Re_84 he rfl ?_
              refine ev_ldc2 (v := lZ 256) d_Re_takeSixBytes_37 kc_Re_121 ?_
              refine ez_lmul d_Re_takeSixBytes_40 ?_
              refine ev_iload_n d_Re_takeSixBytes_41 rfl rfl ?_
              refine ez_i2l (by omega) d_Re_takeSixBytes_42 ?_
              refine ez_ladd d_Re_takeSixBytes_43 ?_
              refine ev_put2 (fs' := [.ref b, .ref xf, .ref fo, .ref le, .int (iZ sz), .int (iZ br), .int (iZ ((p + 1 + 1 + 1 + 1 + 1 : Nat) : Int)), .long (lZ (((((((((((0 + (lk F n p)) * 256) + (lk F n ((p + 1)))) * 256) + (lk F n ((p + 1 + 1)))) * 256) + (lk F n ((p + 1 + 1 + 1)))) * 256) + (lk F n ((p + 1 + 1 + 1 + 1)))) * 256) + (lk F n ((p + 1 + 1 + 1 + 1 + 1))))), .long (lZ st), .long (lZ en)]) d_Re_takeSixBytes_44 fw_Re_84 (Or.inr (fun _ _ _ q => by cases q; rfl)) he (Nat.le_of_ble_eq_true rfl) rfl rfl rfl (fun h12 h12a h12o => ?_)
              have hb := (h12o _ (cne hb he (by simp))).trans hb
              have hbb := (h12o _ (cne hbb he (by simp))).trans hbb
              have he := h12a
              have fm := fm.step (by simp) h12o
              refine ev_aload_n d_Re_takeSixBytes_47 rfl rfl ?_
              refine ev_dup d_Re_takeSixBytes_48 rfl ?_
              refine ev_get d_Re_takeSixBytes_49 fl_Re_34 he rfl ?_
              refine ev_iconst (v := iZ 1) d_Re_takeSixBytes_52 rfl ?_
              refine ez_iadd d_Re_takeSixBytes_53 ?_
              rw [show (((p + 1 + 1 + 1 + 1 + 1 : Nat) : Int) + 1 : Int) = ((p + 1 + 1 + 1 + 1 + 1 + 1 : Nat) : Int) from by omega]
              refine ev_put2 (fs' := [.ref b, .ref xf, .ref fo, .ref le, .int (iZ sz), .int (iZ br), .int (iZ ((p + 1 + 1 + 1 + 1 + 1 + 1 : Nat) : Int)), .long (lZ (((((((((((0 + (lk F n p)) * 256) + (lk F n ((p + 1)))) * 256) + (lk F n ((p + 1 + 1)))) * 256) + (lk F n ((p + 1 + 1 + 1)))) * 256) + (lk F n ((p + 1 + 1 + 1 + 1)))) * 256) + (lk F n ((p + 1 + 1 + 1 + 1 + 1))))), .long (lZ st), .long (lZ en)]) d_Re_takeSixBytes_54 fw_Re_34 (Or.inr (fun _ _ _ q => by cases q; rfl)) he (Nat.le_of_ble_eq_true rfl) rfl rfl rfl (fun h13 h13a h13o => ?_)
              have hb := (h13o _ (cne hb he (by simp))).trans hb
              have hbb := (h13o _ (cne hbb he (by simp))).trans hbb
              have he := h13a
              have fm := fm.step (by simp) h13o
              refine ez_iinc (L' := [(0, .ref xe), (1, .int (iZ 6)), (2, .int (iZ (lk F n ((p + 1 + 1 + 1 + 1 + 1)))))]) d_Re_takeSixBytes_57 rfl (by decide) rfl ?_
              refine ev_goto (tgt := 7) d_Re_takeSixBytes_60 rfl ?_
              refine ev_iload_n d_Re_takeSixBytes_7 rfl rfl ?_
              refine ev_bipush (v := iZ 6) d_Re_takeSixBytes_8 rfl ?_
              refine ez_icmp_ge (tgt := 63) (by decide) (by decide) d_Re_takeSixBytes_10 rfl (fun c10 => ?_) (fun c10 => absurd c10 (by omega))
              refine ev_iconst (v := iZ 1) d_Re_takeSixBytes_63 rfl ?_
              have hm : (mq F n (pat6) p).2 = true := by rw [pat6, mq_app_ok (k := 1) y0 rfl, mq_app_ok (k := 1) y1 rfl, mq_app_ok (k := 1) y2 rfl, mq_app_ok (k := 1) y3 rfl, mq_app_ok (k := 1) y4 rfl]; exact y5
              have hv : sxv F n 6 p 0 = ((((((((((0 + (lk F n p)) * 256) + (lk F n ((p + 1)))) * 256) + (lk F n ((p + 1 + 1)))) * 256) + (lk F n ((p + 1 + 1 + 1)))) * 256) + (lk F n ((p + 1 + 1 + 1 + 1)))) * 256) + (lk F n ((p + 1 + 1 + 1 + 1 + 1))) := by simp only [sxv]; rfl
              exact ev_zreturn d_Re_takeSixBytes_64 rfl (Or.inr rfl) (by decide) (by decide) (⟨fun _ => ⟨rfl, by rw [hv]; exact he⟩, fun q => absurd q (by rw [hm]; decide), fm⟩)
            · replace c27 : lk F n (p + 1 + 1 + 1 + 1 + 1) = -1 := by omega
              have y5 := ab_f (F := F) (n := n) (p := p + 1 + 1 + 1 + 1 + 1) c27
              have he : h11 xe = some (.inr (3, [.ref b, .ref xf, .ref fo, .ref le, .int (iZ sz), .int (iZ br), .int (iZ (((mq F n ab (p + 1 + 1 + 1 + 1 + 1)).1 : Nat) : Int)), .long (lZ (((((((((0 + (lk F n p)) * 256) + (lk F n ((p + 1)))) * 256) + (lk F n ((p + 1 + 1)))) * 256) + (lk F n ((p + 1 + 1 + 1)))) * 256) + (lk F n ((p + 1 + 1 + 1 + 1))))), .long (lZ st), .long (lZ en)])) := by rw [ab_f1 c27]; exact he
              refine ev_iconst (v := iZ 0) d_Re_takeSixBytes_30 rfl ?_
              have hm : (mq F n (pat6) p).2 = false := by rw [pat6, mq_app_ok (k := 1) y0 rfl, mq_app_ok (k := 1) y1 rfl, mq_app_ok (k := 1) y2 rfl, mq_app_ok (k := 1) y3 rfl, mq_app_ok (k := 1) y4 rfl]; exact y5
              skip
              exact ev_zreturn d_Re_takeSixBytes_31 rfl (Or.inl rfl) (by decide) (by decide) (⟨fun q => absurd q (by rw [hm]; decide), fun _ => ⟨rfl, ((((((((0 + (lk F n p)) * 256) + (lk F n ((p + 1)))) * 256) + (lk F n ((p + 1 + 1)))) * 256) + (lk F n ((p + 1 + 1 + 1)))) * 256) + (lk F n ((p + 1 + 1 + 1 + 1))), st, en, by rw [pat6, mq_app_ok (k := 1) y0 rfl, mq_app_ok (k := 1) y1 rfl, mq_app_ok (k := 1) y2 rfl, mq_app_ok (k := 1) y3 rfl, mq_app_ok (k := 1) y4 rfl]; exact he⟩, fm⟩)
          · replace c27 : lk F n (p + 1 + 1 + 1 + 1) = -1 := by omega
            have y4 := ab_f (F := F) (n := n) (p := p + 1 + 1 + 1 + 1) c27
            have he : h9 xe = some (.inr (3, [.ref b, .ref xf, .ref fo, .ref le, .int (iZ sz), .int (iZ br), .int (iZ (((mq F n ab (p + 1 + 1 + 1 + 1)).1 : Nat) : Int)), .long (lZ (((((((0 + (lk F n p)) * 256) + (lk F n ((p + 1)))) * 256) + (lk F n ((p + 1 + 1)))) * 256) + (lk F n ((p + 1 + 1 + 1))))), .long (lZ st), .long (lZ en)])) := by rw [ab_f1 c27]; exact he
            refine ev_iconst (v := iZ 0) d_Re_takeSixBytes_30 rfl ?_
            have hm : (mq F n (pat6) p).2 = false := by rw [pat6, mq_app_ok (k := 1) y0 rfl, mq_app_ok (k := 1) y1 rfl, mq_app_ok (k := 1) y2 rfl, mq_app_ok (k := 1) y3 rfl, mq_app_no y4]; exact y4
            skip
            exact ev_zreturn d_Re_takeSixBytes_31 rfl (Or.inl rfl) (by decide) (by decide) (⟨fun q => absurd q (by rw [hm]; decide), fun _ => ⟨rfl, ((((((0 + (lk F n p)) * 256) + (lk F n ((p + 1)))) * 256) + (lk F n ((p + 1 + 1)))) * 256) + (lk F n ((p + 1 + 1 + 1))), st, en, by rw [pat6, mq_app_ok (k := 1) y0 rfl, mq_app_ok (k := 1) y1 rfl, mq_app_ok (k := 1) y2 rfl, mq_app_ok (k := 1) y3 rfl, mq_app_no y4]; exact he⟩, fm⟩)
        · replace c27 : lk F n (p + 1 + 1 + 1) = -1 := by omega
          have y3 := ab_f (F := F) (n := n) (p := p + 1 + 1 + 1) c27
          have he : h7 xe = some (.inr (3, [.ref b, .ref xf, .ref fo, .ref le, .int (iZ sz), .int (iZ br), .int (iZ (((mq F n ab (p + 1 + 1 + 1)).1 : Nat) : Int)), .long (lZ (((((0 + (lk F n p)) * 256) + (lk F n ((p + 1)))) * 256) + (lk F n ((p + 1 + 1))))), .long (lZ st), .long (lZ en)])) := by rw [ab_f1 c27]; exact he
          refine ev_iconst (v := iZ 0) d_Re_takeSixBytes_30 rfl ?_
          have hm : (mq F n (pat6) p).2 = false := by rw [pat6, mq_app_ok (k := 1) y0 rfl, mq_app_ok (k := 1) y1 rfl, mq_app_ok (k := 1) y2 rfl, mq_app_no y3]; exact y3
          skip
          exact ev_zreturn d_Re_takeSixBytes_31 rfl (Or.inl rfl) (by decide) (by decide) (⟨fun q => absurd q (by rw [hm]; decide), fun _ => ⟨rfl, ((((0 + (lk F n p)) * 256) + (lk F n ((p + 1)))) * 256) + (lk F n ((p + 1 + 1))), st, en, by rw [pat6, mq_app_ok (k := 1) y0 rfl, mq_app_ok (k := 1) y1 rfl, mq_app_ok (k := 1) y2 rfl, mq_app_no y3]; exact he⟩, fm⟩)
      · replace c27 : lk F n (p + 1 + 1) = -1 := by omega
        have y2 := ab_f (F := F) (n := n) (p := p + 1 + 1) c27
        have he : h5 xe = some (.inr (3, [.ref b, .ref xf, .ref fo, .ref le, .int (iZ sz), .int (iZ br), .int (iZ (((mq F n ab (p + 1 + 1)).1 : Nat) : Int)), .long (lZ (((0 + (lk F n p)) * 256) + (lk F n ((p + 1))))), .long (lZ st), .long (lZ en)])) := by rw [ab_f1 c27]; exact he
        refine ev_iconst (v := iZ 0) d_Re_takeSixBytes_30 rfl ?_
        have hm : (mq F n (pat6) p).2 = false := by rw [pat6, mq_app_ok (k := 1) y0 rfl, mq_app_ok (k := 1) y1 rfl, mq_app_no y2]; exact y2
        skip
        exact ev_zreturn d_Re_takeSixBytes_31 rfl (Or.inl rfl) (by decide) (by decide) (⟨fun q => absurd q (by rw [hm]; decide), fun _ => ⟨rfl, ((0 + (lk F n p)) * 256) + (lk F n ((p + 1))), st, en, by rw [pat6, mq_app_ok (k := 1) y0 rfl, mq_app_ok (k := 1) y1 rfl, mq_app_no y2]; exact he⟩, fm⟩)
    · replace c27 : lk F n (p + 1) = -1 := by omega
      have y1 := ab_f (F := F) (n := n) (p := p + 1) c27
      have he : h3 xe = some (.inr (3, [.ref b, .ref xf, .ref fo, .ref le, .int (iZ sz), .int (iZ br), .int (iZ (((mq F n ab (p + 1)).1 : Nat) : Int)), .long (lZ (0 + (lk F n p))), .long (lZ st), .long (lZ en)])) := by rw [ab_f1 c27]; exact he
      refine ev_iconst (v := iZ 0) d_Re_takeSixBytes_30 rfl ?_
      have hm : (mq F n (pat6) p).2 = false := by rw [pat6, mq_app_ok (k := 1) y0 rfl, mq_app_no y1]; exact y1
      skip
      exact ev_zreturn d_Re_takeSixBytes_31 rfl (Or.inl rfl) (by decide) (by decide) (⟨fun q => absurd q (by rw [hm]; decide), fun _ => ⟨rfl, 0 + (lk F n p), st, en, by rw [pat6, mq_app_ok (k := 1) y0 rfl, mq_app_no y1]; exact he⟩, fm⟩)
  · replace c27 : lk F n (p) = -1 := by omega
    have y0 := ab_f (F := F) (n := n) (p := p) c27
    have he : h1 xe = some (.inr (3, [.ref b, .ref xf, .ref fo, .ref le, .int (iZ sz), .int (iZ br), .int (iZ (((mq F n ab (p)).1 : Nat) : Int)), .long (lZ 0), .long (lZ st), .long (lZ en)])) := by rw [ab_f1 c27]; exact he
    refine ev_iconst (v := iZ 0) d_Re_takeSixBytes_30 rfl ?_
    have hm : (mq F n (pat6) p).2 = false := by rw [pat6, mq_app_no y0]; exact y0
    skip
    exact ev_zreturn d_Re_takeSixBytes_31 rfl (Or.inl rfl) (by decide) (by decide) (⟨fun q => absurd q (by rw [hm]; decide), fun _ => ⟨rfl, 0, st, en, by rw [pat6, mq_app_no y0]; exact he⟩, fm⟩)
set_option maxHeartbeats 4000000 in
set_option maxRecDepth 100000 in
theorem c_Re_takePackedTimes (G : GT) (h : HM) (xe b bb xf fo le n p : Nat) (F : Nat → Int) (sz br tm st en : Int) (he : h xe = some (.inr (3, [.ref b, .ref xf, .ref fo, .ref le, .int (iZ sz), .int (iZ br), .int (iZ (p : Int)), .long (lZ tm), .long (lZ st), .long (lZ en)]))) (hb : h b = some (.inr (1, [.ref bb, .int (iZ (n : Int))]))) (hbb : h bb = some (.inl (G_i G, 1000, .inl (iA F)))) (hn : n ≤ 1000) (hp : p ≤ n) (hF : ∀ k, 0 ≤ F k ∧ F k ≤ 255) : Rn G M_Re_takePackedTimes (rm 2 45) [.ref xe] h (fun r h' => ((mq F n (pat6 ++ pat6) p).2 = true → r = some (.int (iZ 1)) ∧ h' xe = some (.inr (3, [.ref b, .ref xf, .ref fo, .ref le, .int (iZ sz), .int (iZ br), .int (iZ ((p + 12 : Nat) : Int)), .long (lZ (sxv F n 6 (p + 6) 0)), .long (lZ (sxv F n 6 p 0)), .long (lZ (sxv F n 6 (p + 6) 0))]))) ∧ ((mq F n (pat6 ++ pat6) p).2 = false → r = some (.int (iZ 0)) ∧ ∃ tm' st' en' : Int, h' xe = some (.inr (3, [.ref b, .ref xf, .ref fo, .ref le, .int (iZ sz), .int (iZ br), .int (iZ (((mq F n (pat6 ++ pat6) p).1 : Nat) : Int)), .long (lZ tm'), .long (lZ st'), .long (lZ en')]))) ∧ Fm [xe] h h') := by
  refine rn_of (by decide) (Nat.le_of_ble_eq_true rfl) ?_
  show Ev G M_Re_takePackedTimes _ _ 0 [(0, .ref xe)] [] _ 0 0
  have fm : Fm [xe] h h := Fm.rf
  refine ev_aload_n d_Re_takePackedTimes_0 rfl rfl ?_
  refine ev_callV M_Re_takeSixBytes (rm 1 22) _ (As := []) (c_Re_takeSixBytes G h xe b bb xf fo le n (p) F (sz) (br) (tm) (st) (en) he hb hbb hn (by omega) hF) d_Re_takePackedTimes_1 mk_Re_takeSixBytes ml_Re_118 mv_Re_takeSixBytes he rfl rfl rfl (Nat.le_of_ble_eq_true rfl) ⟨by decide, by decide⟩ ⟨by decide, by decide⟩ (fun r h1 hq => ?_)
  obtain ⟨qy, qn, fmc⟩ := hq
  have hb := (fmc _ (ninc (cne hb he (by simp)) nin0)).trans hb
  have hbb := (fmc _ (ninc (cne hbb he (by simp)) nin0)).trans hbb
  have fm := fm.call (by simp) fmc
  by_cases m2 : (mq F n (pat6) (p)).2 = true
  ·
    obtain ⟨rfl, he⟩ := qy m2
    have lm2 := mq_len _ _ m2
    have gm2 := (mq_le (F := F) (n := n) (A := pat6) (p := p) (by decide) (by omega))
    rw [lm2] at gm2
    have lxm2 : (pat6).length = 6 := rfl
    refine ez_if_ne (tgt := 9) (by decide) d_Re_takePackedTimes_4 rfl (fun c4 => ?_) (fun c4 => absurd c4 (by omega))
    refine ev_aload_n d_Re_takePackedTimes_9 rfl rfl ?_
    refine ev_aload_n d_Re_takePackedTimes_10 rfl rfl ?_
    refine ev_get d_Re_takePackedTimes_11 fl_Re_84 he rfl ?_
    refine ev_put2 (fs' := [.ref b, .ref xf, .ref fo, .ref le, .int (iZ sz), .int (iZ br), .int (iZ ((p + 6 : Nat) : Int)), .long (lZ (sxv F n 6 (p) 0)), .long (lZ (sxv F n 6 (p) 0)), .long (lZ en)]) d_Re_takePackedTimes_14 fw_Re_51 (Or.inr (fun _ _ _ q => by cases q; rfl)) he (Nat.le_of_ble_eq_true rfl) rfl rfl rfl (fun h3 h3a h3o => ?_)
    have hb := (h3o _ (cne hb he (by simp))).trans hb
    have hbb := (h3o _ (cne hbb he (by simp))).trans hbb
    have he := h3a
    have fm := fm.step (by simp) h3o
    refine ev_aload_n d_Re_takePackedTimes_17 rfl rfl ?_
    refine ev_callV M_Re_takeSixBytes (rm 1 22) _ (As := []) (c_Re_takeSixBytes G h3 xe b bb xf fo le n (p + 6) F (sz) (br) (sxv F n 6 (p) 0) (sxv F n 6 (p) 0) (en) he hb hbb hn (by omega) hF) d_Re_takePackedTimes_18 mk_Re_takeSixBytes ml_Re_118 mv_Re_takeSixBytes he rfl rfl rfl (Nat.le_of_ble_eq_true rfl) ⟨by decide, by decide⟩ ⟨by decide, by decide⟩ (fun r h4 hq => ?_)
    obtain ⟨qy, qn, fmc⟩ := hq
    have hb := (fmc _ (ninc (cne hb he (by simp)) nin0)).trans hb
    have hbb := (fmc _ (ninc (cne hbb he (by simp)) nin0)).trans hbb
    have fm := fm.call (by simp) fmc
    by_cases m5 : (mq F n (pat6) (p + 6)).2 = true
    ·
      obtain ⟨rfl, he⟩ := qy m5
      have lm5 := mq_len _ _ m5
      have gm5 := (mq_le (F := F) (n := n) (A := pat6) (p := p + 6) (by decide) (by omega))
      rw [lm5] at gm5
      have lxm5 : (pat6).length = 6 := rfl
      refine ez_if_ne (tgt := 26) (by decide) d_Re_takePackedTimes_21 rfl (fun c21 => ?_) (fun c21 => absurd c21 (by omega))
      refine ev_aload_n d_Re_takePackedTimes_26 rfl rfl ?_
      refine ev_aload_n d_Re_takePackedTimes_27 rfl rfl ?_
      refine ev_get d_Re_takePackedTimes_28 fl_Re_84 he rfl ?_
      refine ev_put2 (fs' := [.ref b, .ref xf, .ref fo, .ref le, .int (iZ sz), .int (iZ br), .int (iZ ((p + 6 + 6 : Nat) : Int)), .long (lZ (sxv F n 6 (p + 6) 0)), .long (lZ (sxv F n 6 (p) 0)), .long (lZ (sxv F n 6 (p + 6) 0))]) d_Re_takePackedTimes_31 fw_Re_55 (Or.inr (fun _ _ _ q => by cases q; rfl)) he (Nat.le_of_ble_eq_true rfl) rfl rfl rfl (fun h6 h6a h6o => ?_)
      have hb := (h6o _ (cne hb he (by simp))).trans hb
      have hbb := (h6o _ (cne hbb he (by simp))).trans hbb
      have he := h6a
      have fm := fm.step (by simp) h6o
      refine ev_iconst (v := iZ 1) d_Re_takePackedTimes_34 rfl ?_
      have hm : (mq F n (pat6 ++ pat6) p).2 = true := by rw [mq_app_ok (k := 6) m2 rfl]; exact m5
      exact ev_zreturn d_Re_takePackedTimes_35 rfl (Or.inr rfl) (by decide) (by decide) (⟨fun _ => ⟨rfl, he⟩, fun q => absurd q (by rw [hm]; decide), fm⟩)
    ·
      replace m5 := Bool.eq_false_iff.mpr m5
      obtain ⟨rfl, tm', st', en', he⟩ := qn m5
      refine ez_if_ne (tgt := 26) (by decide) d_Re_takePackedTimes_21 rfl (fun c21 => absurd c21 (by omega)) (fun c21 => ?_)
      refine ev_iconst (v := iZ 0) d_Re_takePackedTimes_24 rfl ?_
      have hm : (mq F n (pat6 ++ pat6) p).2 = false := by rw [mq_app_ok (k := 6) m2 rfl]; exact m5
      skip
      exact ev_zreturn d_Re_takePackedTimes_25 rfl (Or.inl rfl) (by decide) (by decide) (⟨fun q => absurd q (by rw [hm]; decide), fun _ => ⟨rfl, tm', st', en', by rw [mq_app_ok (k := 6) m2 rfl]; exact he⟩, fm⟩)
  ·
    replace m2 := Bool.eq_false_iff.mpr m2
    obtain ⟨rfl, tm', st', en', he⟩ := qn m2
    refine ez_if_ne (tgt := 9) (by decide) d_Re_takePackedTimes_4 rfl (fun c4 => absurd c4 (by omega)) (fun c4 => ?_)
    refine ev_iconst (v := iZ 0) d_Re_takePackedTimes_7 rfl ?_
    have hm : (mq F n (pat6 ++ pat6) p).2 = false := by rw [mq_app_no m2]; exact m2
    skip
    exact ev_zreturn d_Re_takePackedTimes_8 rfl (Or.inl rfl) (by decide) (by decide) (⟨fun q => absurd q (by rw [hm]; decide), fun _ => ⟨rfl, tm', st', en', by rw [mq_app_no m2]; exact he⟩, fm⟩)
set_option maxHeartbeats 4000000 in
set_option maxRecDepth 100000 in
theorem c_Re_takeLetter (G : GT) (h : HM) (xe b bb xf fo le n p : Nat) (F E : Nat → Int) (T : List Int) (br : Bool) (tm st en : Int) (he : h xe = some (.inr (3, [.ref b, .ref xf, .ref fo, .ref le, .int (iZ (T.length : Int)), .int (iZ (bz br)), .int (iZ (p : Int)), .long (lZ tm), .long (lZ st), .long (lZ en)]))) (hb : h b = some (.inr (1, [.ref bb, .int (iZ (n : Int))]))) (hbb : h bb = some (.inl (G_i G, 1000, .inl (iA F)))) (hl : h le = some (.inl (G_i G, 64, .inl (iA (pL E T))))) (hn : n ≤ 1000) (hp : p ≤ n) (hF : ∀ k, 0 ≤ F k ∧ F k ≤ 255) (hT : T.length ≤ 64) : Rn G M_Re_takeLetter (rm 1 22) [.ref xe] h (fun r h' => (lok (lk F n p) T br → r = some (.int (iZ 1)) ∧ h' xe = some (.inr (3, [.ref b, .ref xf, .ref fo, .ref le, .int (iZ ((lad T br (lk F n p)).length : Int)), .int (iZ (bz false)), .int (iZ ((p + 1 : Nat) : Int)), .long (lZ tm), .long (lZ st), .long (lZ en)])) ∧ h' le = some (.inl (G_i G, 64, .inl (iA (pL E (lad T br (lk F n p))))))) ∧ (¬ lok (lk F n p) T br → r = some (.int (iZ 0)) ∧ h' = h) ∧ Fm [xe, le] h h') := by
  refine rn_of (by decide) (Nat.le_of_ble_eq_true rfl) ?_
  show Ev G M_Re_takeLetter _ _ 0 [(0, .ref xe)] [] _ 0 0
  have fm : Fm [xe, le] h h := Fm.rf
  have hbz := bz_r br
  refine ev_aload_n d_Re_takeLetter_0 rfl rfl ?_
  refine ev_get d_Re_takeLetter_1 fl_Re_22 he rfl ?_
  refine ev_aload_n d_Re_takeLetter_4 rfl rfl ?_
  refine ev_get d_Re_takeLetter_5 fl_Re_34 he rfl ?_
  refine ev_pV M_Bu_look 0 0 (As := [.int (iZ (p : Int))]) (c_Bu_look G h b bb F n (p : Int) hb hbb (by omega) (by omega)) d_Re_takeLetter_8 mk_Bu_look ml_Re_100 mv_Bu_look hb rfl rfl rfl (Nat.le_of_ble_eq_true rfl) ⟨by decide, by decide⟩ ⟨by decide, by decide⟩ ?_
  refine ev_top (lk F n p) (look_lk) ?_
  have rl := lk_r (n := n) hF (p)
  refine ev_istore_n (L' := [(0, .ref xe), (1, .int (iZ (lk F n p)))]) d_Re_takeLetter_11 rfl (by decide) rfl ?_
  refine ev_aload_n d_Re_takeLetter_12 rfl rfl ?_
  refine ev_get d_Re_takeLetter_13 fl_Re_43 he rfl ?_
  refine ez_if_eq (tgt := 23) (by omega) d_Re_takeLetter_16 rfl (fun c16 => ?_) (fun c16 => ?_)
  · have e16 := bz_0 c16
    refine ev_iconst (v := iZ 1) d_Re_takeLetter_23 rfl ?_
    refine ev_istore_n (L' := [(0, .ref xe), (1, .int (iZ (lk F n p))), (2, .int (iZ 1))]) d_Re_takeLetter_24 rfl (by decide) rfl ?_
    refine ev_iload_n d_Re_takeLetter_25 rfl rfl ?_
    have il := iL_r (lk F n p)
    refine ev_pS M_Re_isLetter 0 0 (As := [.int (iZ (lk F n p))]) (c_Re_isLetter G h (lk F n p) (by omega)) d_Re_takeLetter_26 mk_Re_isLetter ml_Re_123 ms_Re_isLetter rfl rfl (Nat.le_of_ble_eq_true rfl) ⟨by decide, by decide⟩ ⟨by decide, by decide⟩ ?_
    refine ez_if_eq (tgt := 43) (by omega) d_Re_takeLetter_29 rfl (fun c29 => ?_) (fun c29 => ?_)
    · have z29 := iL_0 c29
      refine ev_iconst (v := iZ 0) d_Re_takeLetter_43 rfl ?_
      exact ev_zreturn d_Re_takeLetter_44 rfl (Or.inl rfl) (by decide) (by decide) (⟨fun q => absurd q (by subst e16; rintro ⟨⟨q1, q2, q3⟩, q4⟩; simp at q4; omega), fun _ => ⟨rfl, rfl⟩, fm⟩)
    · have z29 := iL_1 c29
      refine ev_aload_n d_Re_takeLetter_32 rfl rfl ?_
      refine ev_get d_Re_takeLetter_33 fl_Re_42 he rfl ?_
      refine ev_iload_n d_Re_takeLetter_36 rfl rfl ?_
      refine ez_iadd d_Re_takeLetter_37 ?_
      refine ev_bipush (v := iZ 64) d_Re_takeLetter_38 rfl ?_
      refine ez_icmp_le (tgt := 45) (by omega) (by decide) d_Re_takeLetter_40 rfl (fun c40 => ?_) (fun c40 => ?_)
      · refine ev_aload_n d_Re_takeLetter_45 rfl rfl ?_
        refine ev_get d_Re_takeLetter_46 fl_Re_43 he rfl ?_
        refine ez_if_eq (tgt := 70) (by omega) d_Re_takeLetter_49 rfl (fun c49 => ?_) (fun c49 => absurd c49 (by omega))
        refine ev_aload_n d_Re_takeLetter_70 rfl rfl ?_
        refine ev_get d_Re_takeLetter_71 fl_Re_18 he rfl ?_
        refine ev_aload_n d_Re_takeLetter_74 rfl rfl ?_
        refine ev_dup d_Re_takeLetter_75 rfl ?_
        refine ev_get d_Re_takeLetter_76 fl_Re_42 he rfl ?_
        refine ev_dup_x1 d_Re_takeLetter_79 rfl rfl ?_
        refine ev_iconst (v := iZ 1) d_Re_takeLetter_80 rfl ?_
        refine ez_iadd d_Re_takeLetter_81 ?_
        refine ev_put2 (fs' := [.ref b, .ref xf, .ref fo, .ref le, .int (iZ ((T.length : Int) + 1)), .int (iZ (bz br)), .int (iZ (p : Int)), .long (lZ tm), .long (lZ st), .long (lZ en)]) d_Re_takeLetter_82 fw_Re_42 (Or.inr (fun _ _ _ q => by cases q; rfl)) he (Nat.le_of_ble_eq_true rfl) rfl rfl rfl (fun h1 h1a h1o => ?_)
        have hb := (h1o _ (cne hb he (by simp))).trans hb
        have hbb := (h1o _ (cne hbb he (by simp))).trans hbb
        have hl := (h1o _ (cne hl he (by simp))).trans hl
        have he := h1a
        have fm := fm.step (by simp) h1o
        refine ev_iload_n d_Re_takeLetter_85 rfl rfl ?_
        refine ez_iastore (F' := zup (pL E T) T.length (lk F n p)) T.length d_Re_takeLetter_86 hl (by omega) (by omega) (by decide) rfl (fun h2 h2a h2o => ?_)
        have he := (h2o _ (cne he hl (by simp))).trans he
        have hb := (h2o _ (cne hb hl (by simp))).trans hb
        have hbb := (h2o _ (cne hbb hl (by simp))).trans hbb
        have hl := h2a
        have fm := fm.step (by simp) h2o
        refine ev_aload_n d_Re_takeLetter_87 rfl rfl ?_
        refine ev_iconst (v := iZ 0) d_Re_takeLetter_88 rfl ?_
        refine ev_put2 (fs' := [.ref b, .ref xf, .ref fo, .ref le, .int (iZ ((T.length : Int) + 1)), .int (iZ 0), .int (iZ (p : Int)), .long (lZ tm), .long (lZ st), .long (lZ en)]) d_Re_takeLetter_89 fw_Re_43 (Or.inr (fun _ _ _ q => by cases q; rfl)) he (Nat.le_of_ble_eq_true rfl) rfl rfl rfl (fun h3 h3a h3o => ?_)
        have hb := (h3o _ (cne hb he (by simp))).trans hb
        have hbb := (h3o _ (cne hbb he (by simp))).trans hbb
        have hl := (h3o _ (cne hl he (by simp))).trans hl
        have he := h3a
        have fm := fm.step (by simp) h3o
        refine ev_aload_n d_Re_takeLetter_92 rfl rfl ?_
        refine ev_dup d_Re_takeLetter_93 rfl ?_
        refine ev_get d_Re_takeLetter_94 fl_Re_34 he rfl ?_
        refine ev_iconst (v := iZ 1) d_Re_takeLetter_97 rfl ?_
        refine ez_iadd d_Re_takeLetter_98 ?_
        rw [show ((p : Int) + 1 : Int) = ((p + 1 : Nat) : Int) from by omega]
        refine ev_put2 (fs' := [.ref b, .ref xf, .ref fo, .ref le, .int (iZ ((T.length : Int) + 1)), .int (iZ 0), .int (iZ ((p + 1 : Nat) : Int)), .long (lZ tm), .long (lZ st), .long (lZ en)]) d_Re_takeLetter_99 fw_Re_34 (Or.inr (fun _ _ _ q => by cases q; rfl)) he (Nat.le_of_ble_eq_true rfl) rfl rfl rfl (fun h4 h4a h4o => ?_)
        have hb := (h4o _ (cne hb he (by simp))).trans hb
        have hbb := (h4o _ (cne hbb he (by simp))).trans hbb
        have hl := (h4o _ (cne hl he (by simp))).trans hl
        have he := h4a
        have fm := fm.step (by simp) h4o
        refine ev_iconst (v := iZ 1) d_Re_takeLetter_102 rfl ?_
        exact ev_zreturn d_Re_takeLetter_103 rfl (Or.inr rfl) (by decide) (by decide) (⟨fun _ => ⟨rfl, by rw [show (((lad T br (lk F n p)).length : Nat) : Int) = (T.length : Int) + 1 from by rw [lad_l, e16]; simp [bz]]; exact he, by rw [e16, lad_f]; exact hl⟩, fun q => absurd ⟨z29, by rw [e16]; simp; omega⟩ q, fm⟩)
      · refine ev_iconst (v := iZ 0) d_Re_takeLetter_43 rfl ?_
        exact ev_zreturn d_Re_takeLetter_44 rfl (Or.inl rfl) (by decide) (by decide) (⟨fun q => absurd q (by subst e16; rintro ⟨⟨q1, q2, q3⟩, q4⟩; simp at q4; omega), fun _ => ⟨rfl, rfl⟩, fm⟩)
  · have e16 := bz_1 c16
    refine ev_iconst (v := iZ 2) d_Re_takeLetter_19 rfl ?_
    refine ev_goto (tgt := 24) d_Re_takeLetter_20 rfl ?_
    refine ev_istore_n (L' := [(0, .ref xe), (1, .int (iZ (lk F n p))), (2, .int (iZ 2))]) d_Re_takeLetter_24 rfl (by decide) rfl ?_
    refine ev_iload_n d_Re_takeLetter_25 rfl rfl ?_
    have il := iL_r (lk F n p)
    refine ev_pS M_Re_isLetter 0 0 (As := [.int (iZ (lk F n p))]) (c_Re_isLetter G h (lk F n p) (by omega)) d_Re_takeLetter_26 mk_Re_isLetter ml_Re_123 ms_Re_isLetter rfl rfl (Nat.le_of_ble_eq_true rfl) ⟨by decide, by decide⟩ ⟨by decide, by decide⟩ ?_
    refine ez_if_eq (tgt := 43) (by omega) d_Re_takeLetter_29 rfl (fun c29 => ?_) (fun c29 => ?_)
    · have z29 := iL_0 c29
      refine ev_iconst (v := iZ 0) d_Re_takeLetter_43 rfl ?_
      exact ev_zreturn d_Re_takeLetter_44 rfl (Or.inl rfl) (by decide) (by decide) (⟨fun q => absurd q (by subst e16; rintro ⟨⟨q1, q2, q3⟩, q4⟩; simp at q4; omega), fun _ => ⟨rfl, rfl⟩, fm⟩)
    · have z29 := iL_1 c29
      refine ev_aload_n d_Re_takeLetter_32 rfl rfl ?_
      refine ev_get d_Re_takeLetter_33 fl_Re_42 he rfl ?_
      refine ev_iload_n d_Re_takeLetter_36 rfl rfl ?_
      refine ez_iadd d_Re_takeLetter_37 ?_
      refine ev_bipush (v := iZ 64) d_Re_takeLetter_38 rfl ?_
      refine ez_icmp_le (tgt := 45) (by omega) (by decide) d_Re_takeLetter_40 rfl (fun c40 => ?_) (fun c40 => ?_)
      · refine ev_aload_n d_Re_takeLetter_45 rfl rfl ?_
        refine ev_get d_Re_takeLetter_46 fl_Re_43 he rfl ?_
        refine ez_if_eq (tgt := 70) (by omega) d_Re_takeLetter_49 rfl (fun c49 => absurd c49 (by omega)) (fun c49 => ?_)
        refine ev_aload_n d_Re_takeLetter_52 rfl rfl ?_
        refine ev_get d_Re_takeLetter_53 fl_Re_18 he rfl ?_
        refine ev_aload_n d_Re_takeLetter_56 rfl rfl ?_
        refine ev_dup d_Re_takeLetter_57 rfl ?_
        refine ev_get d_Re_takeLetter_58 fl_Re_42 he rfl ?_
        refine ev_dup_x1 d_Re_takeLetter_61 rfl rfl ?_
        refine ev_iconst (v := iZ 1) d_Re_takeLetter_62 rfl ?_
        refine ez_iadd d_Re_takeLetter_63 ?_
        refine ev_put2 (fs' := [.ref b, .ref xf, .ref fo, .ref le, .int (iZ ((T.length : Int) + 1)), .int (iZ (bz br)), .int (iZ (p : Int)), .long (lZ tm), .long (lZ st), .long (lZ en)]) d_Re_takeLetter_64 fw_Re_42 (Or.inr (fun _ _ _ q => by cases q; rfl)) he (Nat.le_of_ble_eq_true rfl) rfl rfl rfl (fun h5 h5a h5o => ?_)
        have hb := (h5o _ (cne hb he (by simp))).trans hb
        have hbb := (h5o _ (cne hbb he (by simp))).trans hbb
        have hl := (h5o _ (cne hl he (by simp))).trans hl
        have he := h5a
        have fm := fm.step (by simp) h5o
        refine ev_bipush (v := iZ 10) d_Re_takeLetter_67 rfl ?_
        refine ez_iastore (F' := zup (pL E T) T.length 10) T.length d_Re_takeLetter_69 hl (by omega) (by omega) (by decide) rfl (fun h6 h6a h6o => ?_)
        have he := (h6o _ (cne he hl (by simp))).trans he
        have hb := (h6o _ (cne hb hl (by simp))).trans hb
        have hbb := (h6o _ (cne hbb hl (by simp))).trans hbb
        have hl := h6a
        have fm := fm.step (by simp) h6o
        refine ev_aload_n d_Re_takeLetter_70 rfl rfl ?_
        refine ev_get d_Re_takeLetter_71 fl_Re_18 he rfl ?_
        refine ev_aload_n d_Re_takeLetter_74 rfl rfl ?_
        refine ev_dup d_Re_takeLetter_75 rfl ?_
        refine ev_get d_Re_takeLetter_76 fl_Re_42 he rfl ?_
        refine ev_dup_x1 d_Re_takeLetter_79 rfl rfl ?_
        refine ev_iconst (v := iZ 1) d_Re_takeLetter_80 rfl ?_
        refine ez_iadd d_Re_takeLetter_81 ?_
        refine ev_put2 (fs' := [.ref b, .ref xf, .ref fo, .ref le, .int (iZ (((T.length : Int) + 1) + 1)), .int (iZ (bz br)), .int (iZ (p : Int)), .long (lZ tm), .long (lZ st), .long (lZ en)]) d_Re_takeLetter_82 fw_Re_42 (Or.inr (fun _ _ _ q => by cases q; rfl)) he (Nat.le_of_ble_eq_true rfl) rfl rfl rfl (fun h7 h7a h7o => ?_)
        have hb := (h7o _ (cne hb he (by simp))).trans hb
        have hbb := (h7o _ (cne hbb he (by simp))).trans hbb
        have hl := (h7o _ (cne hl he (by simp))).trans hl
        have he := h7a
        have fm := fm.step (by simp) h7o
        refine ev_iload_n d_Re_takeLetter_85 rfl rfl ?_
        refine ez_iastore (F' := zup (zup (pL E T) T.length 10) (T.length + 1) (lk F n p)) (T.length + 1) d_Re_takeLetter_86 hl (by omega) (by omega) (by decide) rfl (fun h8 h8a h8o => ?_)
        have he := (h8o _ (cne he hl (by simp))).trans he
        have hb := (h8o _ (cne hb hl (by simp))).trans hb
        have hbb := (h8o _ (cne hbb hl (by simp))).trans hbb
        have hl := h8a
        have fm := fm.step (by simp) h8o
        refine ev_aload_n d_Re_takeLetter_87 rfl rfl ?_
        refine ev_iconst (v := iZ 0) d_Re_takeLetter_88 rfl ?_
        refine ev_put2 (fs' := [.ref b, .ref xf, .ref fo, .ref le, .int (iZ (((T.length : Int) + 1) + 1)), .int (iZ 0), .int (iZ (p : Int)), .long (lZ tm), .long (lZ st), .long (lZ en)]) d_Re_takeLetter_89 fw_Re_43 (Or.inr (fun _ _ _ q => by cases q; rfl)) he (Nat.le_of_ble_eq_true rfl) rfl rfl rfl (fun h9 h9a h9o => ?_)
        have hb := (h9o _ (cne hb he (by simp))).trans hb
        have hbb := (h9o _ (cne hbb he (by simp))).trans hbb
        have hl := (h9o _ (cne hl he (by simp))).trans hl
        have he := h9a
        have fm := fm.step (by simp) h9o
        refine ev_aload_n d_Re_takeLetter_92 rfl rfl ?_
        refine ev_dup d_Re_takeLetter_93 rfl ?_
        refine ev_get d_Re_takeLetter_94 fl_Re_34 he rfl ?_
        refine ev_iconst (v := iZ 1) d_Re_takeLetter_97 rfl ?_
        refine ez_iadd d_Re_takeLetter_98 ?_
        rw [show ((p : Int) + 1 : Int) = ((p + 1 : Nat) : Int) from by omega]
        refine ev_put2 (fs' := [.ref b, .ref xf, .ref fo, .ref le, .int (iZ (((T.length : Int) + 1) + 1)), .int (iZ 0), .int (iZ ((p + 1 : Nat) : Int)), .long (lZ tm), .long (lZ st), .long (lZ en)]) d_Re_takeLetter_99 fw_Re_34 (Or.inr (fun _ _ _ q => by cases q; rfl)) he (Nat.le_of_ble_eq_true rfl) rfl rfl rfl (fun h10 h10a h10o => ?_)
        have hb := (h10o _ (cne hb he (by simp))).trans hb
        have hbb := (h10o _ (cne hbb he (by simp))).trans hbb
        have hl := (h10o _ (cne hl he (by simp))).trans hl
        have he := h10a
        have fm := fm.step (by simp) h10o
        refine ev_iconst (v := iZ 1) d_Re_takeLetter_102 rfl ?_
        exact ev_zreturn d_Re_takeLetter_103 rfl (Or.inr rfl) (by decide) (by decide) (⟨fun _ => ⟨rfl, by rw [show (((lad T br (lk F n p)).length : Nat) : Int) = (T.length : Int) + 1 + 1 from by rw [lad_l, e16]; simp [bz]]; exact he, by rw [e16, lad_t]; exact hl⟩, fun q => absurd ⟨z29, by rw [e16]; simp; omega⟩ q, fm⟩)
      · refine ev_iconst (v := iZ 0) d_Re_takeLetter_43 rfl ?_
        exact ev_zreturn d_Re_takeLetter_44 rfl (Or.inl rfl) (by decide) (by decide) (⟨fun q => absurd q (by subst e16; rintro ⟨⟨q1, q2, q3⟩, q4⟩; simp at q4; omega), fun _ => ⟨rfl, rfl⟩, fm⟩)
set_option maxHeartbeats 4000000 in
set_option maxRecDepth 100000 in
theorem c_Re_takeInnerBreak (G : GT) (h : HM) (xe b bb xf fo le n p : Nat) (F : Nat → Int) (T : List Int) (br : Bool) (tm st en : Int) (he : h xe = some (.inr (3, [.ref b, .ref xf, .ref fo, .ref le, .int (iZ (T.length : Int)), .int (iZ (bz br)), .int (iZ (p : Int)), .long (lZ tm), .long (lZ st), .long (lZ en)]))) (hn : n ≤ 1000) (hp : p ≤ n) (hT : T.length ≤ 64) : Rn G M_Re_takeInnerBreak (rm 0 0) [.ref xe] h (fun r h' => (ibk T br → r = some (.int (iZ 1)) ∧ h' xe = some (.inr (3, [.ref b, .ref xf, .ref fo, .ref le, .int (iZ (T.length : Int)), .int (iZ (bz true)), .int (iZ ((p + 1 : Nat) : Int)), .long (lZ tm), .long (lZ st), .long (lZ en)]))) ∧ (¬ ibk T br → r = some (.int (iZ 0)) ∧ h' = h) ∧ Fm [xe] h h') := by
  refine rn_of (by decide) (Nat.le_of_ble_eq_true rfl) ?_
  show Ev G M_Re_takeInnerBreak _ _ 0 [(0, .ref xe)] [] _ 0 0
  have fm : Fm [xe] h h := Fm.rf
  have hbz := bz_r br
  refine ev_aload_n d_Re_takeInnerBreak_0 rfl rfl ?_
  refine ev_get d_Re_takeInnerBreak_1 fl_Re_42 he rfl ?_
  refine ez_if_eq (tgt := 25) (by omega) d_Re_takeInnerBreak_4 rfl (fun c4 => ?_) (fun c4 => ?_)
  · refine ev_iconst (v := iZ 0) d_Re_takeInnerBreak_25 rfl ?_
    have nk : ¬ ibk T br := by
      rintro ⟨q1, q2, q3⟩
      have q4 : bz br = 0 := by rw [q2]; rfl
      omega
    exact ev_zreturn d_Re_takeInnerBreak_26 rfl (Or.inl rfl) (by decide) (by decide) (⟨fun q => absurd q nk, fun _ => ⟨rfl, rfl⟩, fm⟩)
  · refine ev_aload_n d_Re_takeInnerBreak_7 rfl rfl ?_
    refine ev_get d_Re_takeInnerBreak_8 fl_Re_43 he rfl ?_
    refine ez_if_ne (tgt := 25) (by omega) d_Re_takeInnerBreak_11 rfl (fun c11 => ?_) (fun c11 => ?_)
    · refine ev_iconst (v := iZ 0) d_Re_takeInnerBreak_25 rfl ?_
      have nk : ¬ ibk T br := by
        rintro ⟨q1, q2, q3⟩
        have q4 : bz br = 0 := by rw [q2]; rfl
        omega
      exact ev_zreturn d_Re_takeInnerBreak_26 rfl (Or.inl rfl) (by decide) (by decide) (⟨fun q => absurd q nk, fun _ => ⟨rfl, rfl⟩, fm⟩)
    · refine ev_aload_n d_Re_takeInnerBreak_14 rfl rfl ?_
      refine ev_get d_Re_takeInnerBreak_15 fl_Re_42 he rfl ?_
      refine ev_iconst (v := iZ 2) d_Re_takeInnerBreak_18 rfl ?_
      refine ez_iadd d_Re_takeInnerBreak_19 ?_
      refine ev_bipush (v := iZ 64) d_Re_takeInnerBreak_20 rfl ?_
      refine ez_icmp_le (tgt := 27) (by omega) (by decide) d_Re_takeInnerBreak_22 rfl (fun c22 => ?_) (fun c22 => ?_)
      · refine ev_aload_n d_Re_takeInnerBreak_27 rfl rfl ?_
        refine ev_iconst (v := iZ 1) d_Re_takeInnerBreak_28 rfl ?_
        refine ev_put2 (fs' := [.ref b, .ref xf, .ref fo, .ref le, .int (iZ (T.length : Int)), .int (iZ 1), .int (iZ (p : Int)), .long (lZ tm), .long (lZ st), .long (lZ en)]) d_Re_takeInnerBreak_29 fw_Re_43 (Or.inr (fun _ _ _ q => by cases q; rfl)) he (Nat.le_of_ble_eq_true rfl) rfl rfl rfl (fun h1 h1a h1o => ?_)
        have he := h1a
        have fm := fm.step (by simp) h1o
        refine ev_aload_n d_Re_takeInnerBreak_32 rfl rfl ?_
        refine ev_dup d_Re_takeInnerBreak_33 rfl ?_
        refine ev_get d_Re_takeInnerBreak_34 fl_Re_34 he rfl ?_
        refine ev_iconst (v := iZ 1) d_Re_takeInnerBreak_37 rfl ?_
        refine ez_iadd d_Re_takeInnerBreak_38 ?_
        rw [show ((p : Int) + 1 : Int) = ((p + 1 : Nat) : Int) from by omega]
        refine ev_put2 (fs' := [.ref b, .ref xf, .ref fo, .ref le, .int (iZ (T.length : Int)), .int (iZ 1), .int (iZ ((p + 1 : Nat) : Int)), .long (lZ tm), .long (lZ st), .long (lZ en)]) d_Re_takeInnerBreak_39 fw_Re_34 (Or.inr (fun _ _ _ q => by cases q; rfl)) he (Nat.le_of_ble_eq_true rfl) rfl rfl rfl (fun h2 h2a h2o => ?_)
        have he := h2a
        have fm := fm.step (by simp) h2o
        refine ev_iconst (v := iZ 1) d_Re_takeInnerBreak_42 rfl ?_
        exact ev_zreturn d_Re_takeInnerBreak_43 rfl (Or.inr rfl) (by decide) (by decide) (⟨fun _ => ⟨rfl, he⟩, fun q => absurd ⟨by omega, bz_0 (by omega), by omega⟩ q, fm⟩)
      · refine ev_iconst (v := iZ 0) d_Re_takeInnerBreak_25 rfl ?_
        have nk : ¬ ibk T br := by
          rintro ⟨q1, q2, q3⟩
          have q4 : bz br = 0 := by rw [q2]; rfl
          omega
        exact ev_zreturn d_Re_takeInnerBreak_26 rfl (Or.inl rfl) (by decide) (by decide) (⟨fun q => absurd q nk, fun _ => ⟨rfl, rfl⟩, fm⟩)
set_option maxHeartbeats 4000000 in
set_option maxRecDepth 100000 in
theorem lp_Re_blockText (G : GT) (h0 : HM) (xe b bb xf fo le n : Nat) (F E : Nat → Int) (tm st en : Int) (hn : n ≤ 1000) (hF : ∀ k, 0 ≤ F k ∧ F k ≤ 255) : ∀ (d : Nat) (p : Nat) (T : List Int) (br : Bool) (h : HM), n < d + p → p ≤ n → T.length ≤ 64 → h xe = some (.inr (3, [.ref b, .ref xf, .ref fo, .ref le, .int (iZ (T.length : Int)), .int (iZ (bz br)), .int (iZ (p : Int)), .long (lZ tm), .long (lZ st), .long (lZ en)])) → h b = some (.inr (1, [.ref bb, .int (iZ (n : Int))])) → h bb = some (.inl (G_i G, 1000, .inl (iA F))) → h le = some (.inl (G_i G, 64, .inl (iA (pL E T)))) → Fm [xe, le] h0 h → Ev G M_Re_takeBlockText (rm 2 45) (fun r h' => (∀ T', (tx0 F n d p T br).2 = some T' → r = some (.int (iZ 1)) ∧ (∃ br' : Int, h' xe = some (.inr (3, [.ref b, .ref xf, .ref fo, .ref le, .int (iZ (T'.length : Int)), .int (iZ br'), .int (iZ (((tx0 F n d p T br).1 : Nat) : Int)), .long (lZ tm), .long (lZ st), .long (lZ en)]))) ∧ h' le = some (.inl (G_i G, 64, .inl (iA (pL E T')))) ∧ T'.length ≤ 64) ∧ ((tx0 F n d p T br).2 = none → r = some (.int (iZ 0)) ∧ ∃ sz' br' : Int, ∃ E' : Nat → Int, h' xe = some (.inr (3, [.ref b, .ref xf, .ref fo, .ref le, .int (iZ sz'), .int (iZ br'), .int (iZ (((tx0 F n d p T br).1 : Nat) : Int)), .long (lZ tm), .long (lZ st), .long (lZ en)])) ∧ h' le = some (.inl (G_i G, 64, .inl (iA E')))) ∧ Fm [xe, le] h0 h') 2 [(0, .ref xe), (1, .int (iZ ((T.length : Int) + bz br)))] [] h 0 0 := by
  intro d
  induction d using Nat.strongRecOn with
  | ind d ih =>
  intro p T br h hd hp hT he hb hbb hl fm
  obtain ⟨g, rfl⟩ : ∃ g, d = g + 1 := ⟨d - 1, by omega⟩
  have hbz := bz_r br
  refine ev_iload_n d_Re_takeBlockText_2 rfl rfl ?_
  refine ev_sipush (v := iZ 128) d_Re_takeBlockText_3 rfl ?_
  refine ez_icmp_ge (tgt := 73) (by omega) (by decide) d_Re_takeBlockText_6 rfl (fun c6 => absurd c6 (by omega)) (fun c6 => ?_)
  refine ev_aload_n d_Re_takeBlockText_9 rfl rfl ?_
  refine ev_get d_Re_takeBlockText_10 fl_Re_22 he rfl ?_
  refine ev_aload_n d_Re_takeBlockText_13 rfl rfl ?_
  refine ev_get d_Re_takeBlockText_14 fl_Re_34 he rfl ?_
  refine ev_pV M_Bu_look 0 0 (As := [.int (iZ (p : Int))]) (c_Bu_look G h b bb F n (p : Int) hb hbb (by omega) (by omega)) d_Re_takeBlockText_17 mk_Bu_look ml_Re_100 mv_Bu_look hb rfl rfl rfl (Nat.le_of_ble_eq_true rfl) ⟨by decide, by decide⟩ ⟨by decide, by decide⟩ ?_
  refine ev_top (lk F n p) (look_lk) ?_
  have rl := lk_r (n := n) hF (p)
  refine ev_bipush (v := iZ 10) d_Re_takeBlockText_20 rfl ?_
  refine ez_icmp_eq (tgt := 34) (by omega) (by decide) d_Re_takeBlockText_22 rfl (fun c22 => ?_) (fun c22 => ?_)
  · refine ev_aload_n d_Re_takeBlockText_34 rfl rfl ?_
    refine ev_get d_Re_takeBlockText_35 fl_Re_42 he rfl ?_
    refine ez_if_ne (tgt := 43) (by omega) d_Re_takeBlockText_38 rfl (fun c38 => ?_) (fun c38 => ?_)
    · refine ev_aload_n d_Re_takeBlockText_43 rfl rfl ?_
      refine ev_dup d_Re_takeBlockText_44 rfl ?_
      refine ev_get d_Re_takeBlockText_45 fl_Re_34 he rfl ?_
      refine ev_iconst (v := iZ 1) d_Re_takeBlockText_48 rfl ?_
      have lp := lk_p (F := F) (n := n) (p := p) (by omega)
      refine ez_iadd d_Re_takeBlockText_49 ?_
      rw [show ((p : Int) + 1 : Int) = ((p + 1 : Nat) : Int) from by omega]
      refine ev_put2 (fs' := [.ref b, .ref xf, .ref fo, .ref le, .int (iZ (T.length : Int)), .int (iZ (bz br)), .int (iZ ((p + 1 : Nat) : Int)), .long (lZ tm), .long (lZ st), .long (lZ en)]) d_Re_takeBlockText_50 fw_Re_34 (Or.inr (fun _ _ _ q => by cases q; rfl)) he (Nat.le_of_ble_eq_true rfl) rfl rfl rfl (fun h1 h1a h1o => ?_)
      have hb := (h1o _ (cne hb he (by simp))).trans hb
      have hbb := (h1o _ (cne hbb he (by simp))).trans hbb
      have hl := (h1o _ (cne hl he (by simp))).trans hl
      have he := h1a
      have fm := fm.step (by simp) h1o
      refine ev_aload_n d_Re_takeBlockText_53 rfl rfl ?_
      refine ev_get d_Re_takeBlockText_54 fl_Re_43 he rfl ?_
      refine ez_if_eq (tgt := 62) (by omega) d_Re_takeBlockText_57 rfl (fun c57 => ?_) (fun c57 => ?_)
      · have e57 := bz_0 c57
        refine ev_aload_n d_Re_takeBlockText_62 rfl rfl ?_
        refine ev_iconst (v := iZ 1) d_Re_takeBlockText_63 rfl ?_
        refine ev_put2 (fs' := [.ref b, .ref xf, .ref fo, .ref le, .int (iZ (T.length : Int)), .int (iZ 1), .int (iZ ((p + 1 : Nat) : Int)), .long (lZ tm), .long (lZ st), .long (lZ en)]) d_Re_takeBlockText_64 fw_Re_43 (Or.inr (fun _ _ _ q => by cases q; rfl)) he (Nat.le_of_ble_eq_true rfl) rfl rfl rfl (fun h2 h2a h2o => ?_)
        have hb := (h2o _ (cne hb he (by simp))).trans hb
        have hbb := (h2o _ (cne hbb he (by simp))).trans hbb
        have hl := (h2o _ (cne hl he (by simp))).trans hl
        have he := h2a
        have fm := fm.step (by simp) h2o
        refine ez_iinc (L' := [(0, .ref xe), (1, .int (iZ ((T.length : Int) + bz br + 1)))]) d_Re_takeBlockText_67 rfl (by decide) rfl ?_
        refine ev_goto (tgt := 2) d_Re_takeBlockText_70 rfl ?_
        have e9 : tx0 F n (g + 1) p T br = tx0 F n g (p + 1) (T) true := by rw [tx0, if_pos (by omega), if_neg (by omega), if_neg (by rw [e57]; decide)]
        rw [e9]
        rw [show (T.length : Int) + bz br + 1 = (T.length : Int) + bz true from by rw [e57]; simp [bz]]
        exact ih g (by omega) (p + 1) (T) true h2 (by omega) (by omega) hT he hb hbb hl fm
      · have e57 := bz_1 c57
        refine ev_iconst (v := iZ 1) d_Re_takeBlockText_60 rfl ?_
        have e9 : tx0 F n (g + 1) p T br = (p + 1, some T) := by rw [tx0, if_pos (by omega), if_neg (by omega), if_pos e57]
        exact ev_zreturn d_Re_takeBlockText_61 rfl (Or.inr rfl) (by decide) (by decide) (⟨fun T' q => (by rw [e9] at q; cases q; rw [e9]; exact ⟨rfl, ⟨_, he⟩, hl, hT⟩), fun q => (by rw [e9] at q; cases q), fm⟩)
    · refine ev_iconst (v := iZ 0) d_Re_takeBlockText_41 rfl ?_
      have e9 : tx0 F n (g + 1) p T br = (p, none) := by rw [tx0, if_pos (by omega), if_pos (by omega)]
      exact ev_zreturn d_Re_takeBlockText_42 rfl (Or.inl rfl) (by decide) (by decide) (⟨fun T' q => (by rw [e9] at q; cases q), fun _ => by rw [e9]; exact ⟨rfl, _, _, _, he, hl⟩, fm⟩)
  · refine ev_aload_n d_Re_takeBlockText_25 rfl rfl ?_
    refine ev_callV M_Re_takeLetter (rm 1 22) _ (As := []) (c_Re_takeLetter G h xe b bb xf fo le n (p) F E T br tm st en he hb hbb hl hn (by omega) hF hT) d_Re_takeBlockText_26 mk_Re_takeLetter ml_Re_104 mv_Re_takeLetter he rfl rfl rfl (Nat.le_of_ble_eq_true rfl) ⟨by decide, by decide⟩ ⟨by decide, by decide⟩ (fun r h3 hq => ?_)
    obtain ⟨qy, qn, fmc⟩ := hq
    by_cases lo : lok (lk F n (p)) T br
    ·
      obtain ⟨rfl, ge, gl⟩ := qy lo
      have hb := (fmc _ (ninc (cne hb he (by simp)) (ninc (cne hb hl (by simp)) nin0))).trans hb
      have hbb := (fmc _ (ninc (cne hbb he (by simp)) (ninc (cne hbb hl (by simp)) nin0))).trans hbb
      have fm := fm.call (by simp) fmc
      have he := ge
      have hl := gl
      refine ez_if_ne (tgt := 67) (by decide) d_Re_takeBlockText_29 rfl (fun c29 => ?_) (fun c29 => absurd c29 (by omega))
      refine ez_iinc (L' := [(0, .ref xe), (1, .int (iZ ((T.length : Int) + bz br + 1)))]) d_Re_takeBlockText_67 rfl (by decide) rfl ?_
      refine ev_goto (tgt := 2) d_Re_takeBlockText_70 rfl ?_
      have lp := lk_p (F := F) (n := n) (p := p) (by have := lo.1.1; omega)
      have e9 : tx0 F n (g + 1) p T br = tx0 F n g (p + 1) (lad T br (lk F n p)) false := by rw [tx0, if_neg (by omega), if_pos lo]
      rw [e9]
      rw [show (T.length : Int) + bz br + 1 = ((lad T br (lk F n p)).length : Int) + bz false from by rw [lad_l]; simp [bz]]
      exact ih g (by omega) (p + 1) (lad T br (lk F n p)) false h3 (by omega) (by omega) (lok_l lo) he hb hbb hl fm
    ·
      obtain ⟨rfl, rfl⟩ := qn lo
      refine ez_if_ne (tgt := 67) (by decide) d_Re_takeBlockText_29 rfl (fun c29 => absurd c29 (by omega)) (fun c29 => ?_)
      refine ev_iconst (v := iZ 0) d_Re_takeBlockText_32 rfl ?_
      have e9 : tx0 F n (g + 1) p T br = (p, none) := by rw [tx0, if_neg (by omega), if_neg lo]
      exact ev_zreturn d_Re_takeBlockText_33 rfl (Or.inl rfl) (by decide) (by decide) (⟨fun T' q => (by rw [e9] at q; cases q), fun _ => by rw [e9]; exact ⟨rfl, _, _, _, he, hl⟩, fm⟩)
set_option maxHeartbeats 4000000 in
set_option maxRecDepth 100000 in
theorem c_Re_takeBlockText (G : GT) (h : HM) (xe b bb xf fo le n p : Nat) (F E : Nat → Int) (tm st en : Int) (he : h xe = some (.inr (3, [.ref b, .ref xf, .ref fo, .ref le, .int (iZ 0), .int (iZ 0), .int (iZ (p : Int)), .long (lZ tm), .long (lZ st), .long (lZ en)]))) (hb : h b = some (.inr (1, [.ref bb, .int (iZ (n : Int))]))) (hbb : h bb = some (.inl (G_i G, 1000, .inl (iA F)))) (hl : h le = some (.inl (G_i G, 64, .inl (iA E)))) (hn : n ≤ 1000) (hp : p ≤ n) (hF : ∀ k, 0 ≤ F k ∧ F k ≤ 255) : Rn G M_Re_takeBlockText (rm 2 45) [.ref xe] h (fun r h' => (∀ T', (tx0 F n (n + 1 - p) p [] false).2 = some T' → r = some (.int (iZ 1)) ∧ (∃ br' : Int, h' xe = some (.inr (3, [.ref b, .ref xf, .ref fo, .ref le, .int (iZ (T'.length : Int)), .int (iZ br'), .int (iZ (((tx0 F n (n + 1 - p) p [] false).1 : Nat) : Int)), .long (lZ tm), .long (lZ st), .long (lZ en)]))) ∧ h' le = some (.inl (G_i G, 64, .inl (iA (pL E T')))) ∧ T'.length ≤ 64) ∧ ((tx0 F n (n + 1 - p) p [] false).2 = none → r = some (.int (iZ 0)) ∧ ∃ sz' br' : Int, ∃ E' : Nat → Int, h' xe = some (.inr (3, [.ref b, .ref xf, .ref fo, .ref le, .int (iZ sz'), .int (iZ br'), .int (iZ (((tx0 F n (n + 1 - p) p [] false).1 : Nat) : Int)), .long (lZ tm), .long (lZ st), .long (lZ en)])) ∧ h' le = some (.inl (G_i G, 64, .inl (iA E')))) ∧ Fm [xe, le] h h') := by
  refine rn_of (by decide) (Nat.le_of_ble_eq_true rfl) ?_
  show Ev G M_Re_takeBlockText _ _ 0 [(0, .ref xe)] [] _ 0 0
  refine ev_iconst (v := iZ 0) d_Re_takeBlockText_0 rfl ?_
  refine ev_istore_n (L' := [(0, .ref xe), (1, .int (iZ 0))]) d_Re_takeBlockText_1 rfl (by decide) rfl ?_
  exact lp_Re_blockText G h xe b bb xf fo le n F E tm st en hn hF (n + 1 - p) p [] false h (by omega) hp (by decide) he hb hbb hl Fm.rf
set_option maxHeartbeats 4000000 in
set_option maxRecDepth 100000 in
theorem lp_Re_frameText (G : GT) (h0 : HM) (xe b bb xf fo le n : Nat) (F E : Nat → Int) (tm st en : Int) (hn : n ≤ 1000) (hF : ∀ k, 0 ≤ F k ∧ F k ≤ 255) : ∀ (d : Nat) (p : Nat) (T : List Int) (br : Bool) (h : HM), n < d + p → p ≤ n → T.length ≤ 64 → h xe = some (.inr (3, [.ref b, .ref xf, .ref fo, .ref le, .int (iZ (T.length : Int)), .int (iZ (bz br)), .int (iZ (p : Int)), .long (lZ tm), .long (lZ st), .long (lZ en)])) → h b = some (.inr (1, [.ref bb, .int (iZ (n : Int))])) → h bb = some (.inl (G_i G, 1000, .inl (iA F))) → h le = some (.inl (G_i G, 64, .inl (iA (pL E T)))) → Fm [xe, le] h0 h → Ev G M_Re_takeFrameText (rm 2 45) (fun r h' => (∀ T', (tx1 F n d p T br).2 = some T' → r = some (.int (iZ 1)) ∧ (∃ br' : Int, h' xe = some (.inr (3, [.ref b, .ref xf, .ref fo, .ref le, .int (iZ (T'.length : Int)), .int (iZ br'), .int (iZ (((tx1 F n d p T br).1 : Nat) : Int)), .long (lZ tm), .long (lZ st), .long (lZ en)]))) ∧ h' le = some (.inl (G_i G, 64, .inl (iA (pL E T')))) ∧ T'.length ≤ 64) ∧ ((tx1 F n d p T br).2 = none → r = some (.int (iZ 0)) ∧ ∃ sz' br' : Int, ∃ E' : Nat → Int, h' xe = some (.inr (3, [.ref b, .ref xf, .ref fo, .ref le, .int (iZ sz'), .int (iZ br'), .int (iZ (((tx1 F n d p T br).1 : Nat) : Int)), .long (lZ tm), .long (lZ st), .long (lZ en)])) ∧ h' le = some (.inl (G_i G, 64, .inl (iA E')))) ∧ Fm [xe, le] h0 h') 2 [(0, .ref xe), (1, .int (iZ ((T.length : Int) + bz br)))] [] h 0 0 := by
  intro d
  induction d using Nat.strongRecOn with
  | ind d ih =>
  intro p T br h hd hp hT he hb hbb hl fm
  obtain ⟨g, rfl⟩ : ∃ g, d = g + 1 := ⟨d - 1, by omega⟩
  have hbz := bz_r br
  refine ev_iload_n d_Re_takeFrameText_2 rfl rfl ?_
  refine ev_sipush (v := iZ 128) d_Re_takeFrameText_3 rfl ?_
  refine ez_icmp_ge (tgt := 86) (by omega) (by decide) d_Re_takeFrameText_6 rfl (fun c6 => absurd c6 (by omega)) (fun c6 => ?_)
  refine ev_aload_n d_Re_takeFrameText_9 rfl rfl ?_
  refine ev_get d_Re_takeFrameText_10 fl_Re_22 he rfl ?_
  refine ev_aload_n d_Re_takeFrameText_13 rfl rfl ?_
  refine ev_get d_Re_takeFrameText_14 fl_Re_34 he rfl ?_
  refine ev_pV M_Bu_look 0 0 (As := [.int (iZ (p : Int))]) (c_Bu_look G h b bb F n (p : Int) hb hbb (by omega) (by omega)) d_Re_takeFrameText_17 mk_Bu_look ml_Re_100 mv_Bu_look hb rfl rfl rfl (Nat.le_of_ble_eq_true rfl) ⟨by decide, by decide⟩ ⟨by decide, by decide⟩ ?_
  refine ev_top (lk F n p) (look_lk) ?_
  have rl := lk_r (n := n) hF (p)
  refine ev_istore_n (L' := [(0, .ref xe), (1, .int (iZ ((T.length : Int) + bz br))), (2, .int (iZ (lk F n p)))]) d_Re_takeFrameText_20 rfl (by decide) rfl ?_
  refine ev_iload_n d_Re_takeFrameText_21 rfl rfl ?_
  refine ev_bipush (v := iZ 10) d_Re_takeFrameText_22 rfl ?_
  refine ez_icmp_ne (tgt := 55) (by omega) (by decide) d_Re_takeFrameText_24 rfl (fun c24 => ?_) (fun c24 => ?_)
  · refine ev_iload_n d_Re_takeFrameText_55 rfl rfl ?_
    refine ev_bipush (v := iZ 124) d_Re_takeFrameText_56 rfl ?_
    refine ez_icmp_ne (tgt := 71) (by omega) (by decide) d_Re_takeFrameText_58 rfl (fun c58 => ?_) (fun c58 => ?_)
    · refine ev_aload_n d_Re_takeFrameText_71 rfl rfl ?_
      refine ev_callV M_Re_takeLetter (rm 1 22) _ (As := []) (c_Re_takeLetter G h xe b bb xf fo le n (p) F E T br tm st en he hb hbb hl hn (by omega) hF hT) d_Re_takeFrameText_72 mk_Re_takeLetter ml_Re_104 mv_Re_takeLetter he rfl rfl rfl (Nat.le_of_ble_eq_true rfl) ⟨by decide, by decide⟩ ⟨by decide, by decide⟩ (fun r h1 hq => ?_)
      obtain ⟨qy, qn, fmc⟩ := hq
      by_cases lo : lok (lk F n (p)) T br
      ·
        obtain ⟨rfl, ge, gl⟩ := qy lo
        have hb := (fmc _ (ninc (cne hb he (by simp)) (ninc (cne hb hl (by simp)) nin0))).trans hb
        have hbb := (fmc _ (ninc (cne hbb he (by simp)) (ninc (cne hbb hl (by simp)) nin0))).trans hbb
        have fm := fm.call (by simp) fmc
        have he := ge
        have hl := gl
        refine ez_if_ne (tgt := 80) (by decide) d_Re_takeFrameText_75 rfl (fun c75 => ?_) (fun c75 => absurd c75 (by omega))
        refine ez_iinc (L' := [(0, .ref xe), (1, .int (iZ ((T.length : Int) + bz br + 1))), (2, .int (iZ (lk F n p)))]) d_Re_takeFrameText_80 rfl (by decide) rfl ?_
        refine ev_goto (tgt := 2) d_Re_takeFrameText_83 rfl ?_
        have lp := lk_p (F := F) (n := n) (p := p) (by have := lo.1.1; omega)
        have e9 : tx1 F n (g + 1) p T br = tx1 F n g (p + 1) (lad T br (lk F n p)) false := by rw [tx1, if_neg (by omega), if_neg (by omega), if_pos lo]
        rw [e9]
        rw [show (T.length : Int) + bz br + 1 = ((lad T br (lk F n p)).length : Int) + bz false from by rw [lad_l]; simp [bz]]
        refine ev_loc [(0, .ref xe), (1, .int (iZ (((lad T br (lk F n p)).length : Int) + bz false)))] (by simp) ?_
        exact ih g (by omega) (p + 1) (lad T br (lk F n p)) false h1 (by omega) (by omega) (lok_l lo) he hb hbb hl fm
      ·
        obtain ⟨rfl, rfl⟩ := qn lo
        refine ez_if_ne (tgt := 80) (by decide) d_Re_takeFrameText_75 rfl (fun c75 => absurd c75 (by omega)) (fun c75 => ?_)
        refine ev_iconst (v := iZ 0) d_Re_takeFrameText_78 rfl ?_
        have e9 : tx1 F n (g + 1) p T br = (p, none) := by rw [tx1, if_neg (by omega), if_neg (by omega), if_neg lo]
        exact ev_zreturn d_Re_takeFrameText_79 rfl (Or.inl rfl) (by decide) (by decide) (⟨fun T' q => (by rw [e9] at q; cases q), fun _ => by rw [e9]; exact ⟨rfl, _, _, _, he, hl⟩, fm⟩)
    · refine ev_aload_n d_Re_takeFrameText_61 rfl rfl ?_
      refine ev_callV M_Re_takeInnerBreak (rm 0 0) _ (As := []) (c_Re_takeInnerBreak G h xe b bb xf fo le n (p) F T br tm st en he hn (by omega) hT) d_Re_takeFrameText_62 mk_Re_takeInnerBreak ml_Re_115 mv_Re_takeInnerBreak he rfl rfl rfl (Nat.le_of_ble_eq_true rfl) ⟨by decide, by decide⟩ ⟨by decide, by decide⟩ (fun r h2 hq => ?_)
      obtain ⟨qy, qn, fmc⟩ := hq
      by_cases lo : ibk T br
      ·
        obtain ⟨rfl, ge⟩ := qy lo
        have hb := (fmc _ (ninc (cne hb he (by simp)) nin0)).trans hb
        have hbb := (fmc _ (ninc (cne hbb he (by simp)) nin0)).trans hbb
        have hl := (fmc _ (ninc (cne hl he (by simp)) nin0)).trans hl
        have fm := fm.call (by simp) fmc
        have he := ge
        refine ez_if_ne (tgt := 80) (by decide) d_Re_takeFrameText_65 rfl (fun c65 => ?_) (fun c65 => absurd c65 (by omega))
        refine ez_iinc (L' := [(0, .ref xe), (1, .int (iZ ((T.length : Int) + bz br + 1))), (2, .int (iZ (lk F n p)))]) d_Re_takeFrameText_80 rfl (by decide) rfl ?_
        refine ev_goto (tgt := 2) d_Re_takeFrameText_83 rfl ?_
        have lp := lk_p (F := F) (n := n) (p := p) (by omega)
        have e9 : tx1 F n (g + 1) p T br = tx1 F n g (p + 1) (T) true := by rw [tx1, if_neg (by omega), if_pos (by omega), if_pos lo]
        rw [e9]
        rw [show (T.length : Int) + bz br + 1 = (T.length : Int) + bz true from by rw [lo.2.1]; simp [bz]]
        refine ev_loc [(0, .ref xe), (1, .int (iZ ((T.length : Int) + bz true)))] (by simp) ?_
        exact ih g (by omega) (p + 1) (T) true h2 (by omega) (by omega) hT he hb hbb hl fm
      ·
        obtain ⟨rfl, rfl⟩ := qn lo
        refine ez_if_ne (tgt := 80) (by decide) d_Re_takeFrameText_65 rfl (fun c65 => absurd c65 (by omega)) (fun c65 => ?_)
        refine ev_goto (tgt := 78) d_Re_takeFrameText_68 rfl ?_
        refine ev_iconst (v := iZ 0) d_Re_takeFrameText_78 rfl ?_
        have e9 : tx1 F n (g + 1) p T br = (p, none) := by rw [tx1, if_neg (by omega), if_pos (by omega), if_neg lo]
        exact ev_zreturn d_Re_takeFrameText_79 rfl (Or.inl rfl) (by decide) (by decide) (⟨fun T' q => (by rw [e9] at q; cases q), fun _ => by rw [e9]; exact ⟨rfl, _, _, _, he, hl⟩, fm⟩)
  · refine ev_aload_n d_Re_takeFrameText_27 rfl rfl ?_
    refine ev_get d_Re_takeFrameText_28 fl_Re_42 he rfl ?_
    refine ez_if_eq (tgt := 41) (by omega) d_Re_takeFrameText_31 rfl (fun c31 => ?_) (fun c31 => ?_)
    · refine ev_iconst (v := iZ 0) d_Re_takeFrameText_41 rfl ?_
      have e9 : tx1 F n (g + 1) p T br = (p, none) := by rw [tx1, if_pos (by omega), if_pos (Or.inl (by omega))]
      exact ev_zreturn d_Re_takeFrameText_42 rfl (Or.inl rfl) (by decide) (by decide) (⟨fun T' q => (by rw [e9] at q; cases q), fun _ => by rw [e9]; exact ⟨rfl, _, _, _, he, hl⟩, fm⟩)
    · refine ev_aload_n d_Re_takeFrameText_34 rfl rfl ?_
      refine ev_get d_Re_takeFrameText_35 fl_Re_43 he rfl ?_
      refine ez_if_eq (tgt := 43) (by omega) d_Re_takeFrameText_38 rfl (fun c38 => ?_) (fun c38 => ?_)
      · have e38 := bz_0 c38
        refine ev_aload_n d_Re_takeFrameText_43 rfl rfl ?_
        refine ev_dup d_Re_takeFrameText_44 rfl ?_
        refine ev_get d_Re_takeFrameText_45 fl_Re_34 he rfl ?_
        refine ev_iconst (v := iZ 1) d_Re_takeFrameText_48 rfl ?_
        have lp := lk_p (F := F) (n := n) (p := p) (by omega)
        refine ez_iadd d_Re_takeFrameText_49 ?_
        rw [show ((p : Int) + 1 : Int) = ((p + 1 : Nat) : Int) from by omega]
        refine ev_put2 (fs' := [.ref b, .ref xf, .ref fo, .ref le, .int (iZ (T.length : Int)), .int (iZ (bz br)), .int (iZ ((p + 1 : Nat) : Int)), .long (lZ tm), .long (lZ st), .long (lZ en)]) d_Re_takeFrameText_50 fw_Re_34 (Or.inr (fun _ _ _ q => by cases q; rfl)) he (Nat.le_of_ble_eq_true rfl) rfl rfl rfl (fun h3 h3a h3o => ?_)
        have hb := (h3o _ (cne hb he (by simp))).trans hb
        have hbb := (h3o _ (cne hbb he (by simp))).trans hbb
        have hl := (h3o _ (cne hl he (by simp))).trans hl
        have he := h3a
        have fm := fm.step (by simp) h3o
        refine ev_iconst (v := iZ 1) d_Re_takeFrameText_53 rfl ?_
        have e9 : tx1 F n (g + 1) p T br = (p + 1, some T) := by rw [tx1, if_pos (by omega), if_neg (by rw [e38]; rintro (q | q); omega; cases q)]
        exact ev_zreturn d_Re_takeFrameText_54 rfl (Or.inr rfl) (by decide) (by decide) (⟨fun T' q => (by rw [e9] at q; cases q; rw [e9]; exact ⟨rfl, ⟨_, he⟩, hl, hT⟩), fun q => (by rw [e9] at q; cases q), fm⟩)
      · have e38 := bz_1 c38
        refine ev_iconst (v := iZ 0) d_Re_takeFrameText_41 rfl ?_
        have e9 : tx1 F n (g + 1) p T br = (p, none) := by rw [tx1, if_pos (by omega), if_pos (Or.inr e38)]
        exact ev_zreturn d_Re_takeFrameText_42 rfl (Or.inl rfl) (by decide) (by decide) (⟨fun T' q => (by rw [e9] at q; cases q), fun _ => by rw [e9]; exact ⟨rfl, _, _, _, he, hl⟩, fm⟩)
set_option maxHeartbeats 4000000 in
set_option maxRecDepth 100000 in
theorem c_Re_takeFrameText (G : GT) (h : HM) (xe b bb xf fo le n p : Nat) (F E : Nat → Int) (tm st en : Int) (he : h xe = some (.inr (3, [.ref b, .ref xf, .ref fo, .ref le, .int (iZ 0), .int (iZ 0), .int (iZ (p : Int)), .long (lZ tm), .long (lZ st), .long (lZ en)]))) (hb : h b = some (.inr (1, [.ref bb, .int (iZ (n : Int))]))) (hbb : h bb = some (.inl (G_i G, 1000, .inl (iA F)))) (hl : h le = some (.inl (G_i G, 64, .inl (iA E)))) (hn : n ≤ 1000) (hp : p ≤ n) (hF : ∀ k, 0 ≤ F k ∧ F k ≤ 255) : Rn G M_Re_takeFrameText (rm 2 45) [.ref xe] h (fun r h' => (∀ T', (tx1 F n (n + 1 - p) p [] false).2 = some T' → r = some (.int (iZ 1)) ∧ (∃ br' : Int, h' xe = some (.inr (3, [.ref b, .ref xf, .ref fo, .ref le, .int (iZ (T'.length : Int)), .int (iZ br'), .int (iZ (((tx1 F n (n + 1 - p) p [] false).1 : Nat) : Int)), .long (lZ tm), .long (lZ st), .long (lZ en)]))) ∧ h' le = some (.inl (G_i G, 64, .inl (iA (pL E T')))) ∧ T'.length ≤ 64) ∧ ((tx1 F n (n + 1 - p) p [] false).2 = none → r = some (.int (iZ 0)) ∧ ∃ sz' br' : Int, ∃ E' : Nat → Int, h' xe = some (.inr (3, [.ref b, .ref xf, .ref fo, .ref le, .int (iZ sz'), .int (iZ br'), .int (iZ (((tx1 F n (n + 1 - p) p [] false).1 : Nat) : Int)), .long (lZ tm), .long (lZ st), .long (lZ en)])) ∧ h' le = some (.inl (G_i G, 64, .inl (iA E')))) ∧ Fm [xe, le] h h') := by
  refine rn_of (by decide) (Nat.le_of_ble_eq_true rfl) ?_
  show Ev G M_Re_takeFrameText _ _ 0 [(0, .ref xe)] [] _ 0 0
  refine ev_iconst (v := iZ 0) d_Re_takeFrameText_0 rfl ?_
  refine ev_istore_n (L' := [(0, .ref xe), (1, .int (iZ 0))]) d_Re_takeFrameText_1 rfl (by decide) rfl ?_
  exact lp_Re_frameText G h xe b bb xf fo le n F E tm st en hn hF (n + 1 - p) p [] false h (by omega) hp (by decide) he hb hbb hl Fm.rf
set_option maxHeartbeats 4000000 in
set_option maxRecDepth 100000 in
theorem lp_Re_packedText (G : GT) (h0 : HM) (xe b bb xf fo le n : Nat) (F E : Nat → Int) (tm st en : Int) (hn : n ≤ 1000) (hF : ∀ k, 0 ≤ F k ∧ F k ≤ 255) (z : Int) (hz : 1 ≤ z ∧ z ≤ 64) : ∀ (d : Nat) (i p : Nat) (T : List Int) (br : Bool) (h : HM), (i : Int) + d = z → p ≤ n → T.length ≤ 64 → h xe = some (.inr (3, [.ref b, .ref xf, .ref fo, .ref le, .int (iZ (T.length : Int)), .int (iZ (bz br)), .int (iZ (p : Int)), .long (lZ tm), .long (lZ st), .long (lZ en)])) → h b = some (.inr (1, [.ref bb, .int (iZ (n : Int))])) → h bb = some (.inl (G_i G, 1000, .inl (iA F))) → h le = some (.inl (G_i G, 64, .inl (iA (pL E T)))) → Fm [xe, le] h0 h → Ev G M_Re_takePackedText (rm 2 45) (fun r h' => (∀ T', (tx2 F n z d (i : Int) p T br).2 = some T' → r = some (.int (iZ 1)) ∧ (∃ br' : Int, h' xe = some (.inr (3, [.ref b, .ref xf, .ref fo, .ref le, .int (iZ (T'.length : Int)), .int (iZ br'), .int (iZ (((tx2 F n z d (i : Int) p T br).1 : Nat) : Int)), .long (lZ tm), .long (lZ st), .long (lZ en)]))) ∧ h' le = some (.inl (G_i G, 64, .inl (iA (pL E T')))) ∧ T'.length ≤ 64) ∧ ((tx2 F n z d (i : Int) p T br).2 = none → r = some (.int (iZ 0)) ∧ ∃ sz' br' : Int, ∃ E' : Nat → Int, h' xe = some (.inr (3, [.ref b, .ref xf, .ref fo, .ref le, .int (iZ sz'), .int (iZ br'), .int (iZ (((tx2 F n z d (i : Int) p T br).1 : Nat) : Int)), .long (lZ tm), .long (lZ st), .long (lZ en)])) ∧ h' le = some (.inl (G_i G, 64, .inl (iA E')))) ∧ Fm [xe, le] h0 h') 37 [(0, .ref xe), (1, .int (iZ z)), (2, .int (iZ (i : Int)))] [] h 0 0 := by
  intro d
  induction d using Nat.strongRecOn with
  | ind d ih =>
  intro i p T br h hd hp hT he hb hbb hl fm
  have hbz := bz_r br
  refine ev_iload_n d_Re_takePackedText_37 rfl rfl ?_
  refine ev_iload_n d_Re_takePackedText_38 rfl rfl ?_
  refine ez_icmp_ge (tgt := 89) (by omega) (by omega) d_Re_takePackedText_39 rfl (fun c39 => ?_) (fun c39 => ?_)
  · obtain rfl : d = 0 := by omega
    refine ev_iconst (v := iZ 1) d_Re_takePackedText_89 rfl ?_
    exact ev_zreturn d_Re_takePackedText_90 rfl (Or.inr rfl) (by decide) (by decide) (⟨fun T' q => (by cases q; exact ⟨rfl, ⟨_, he⟩, hl, hT⟩), fun q => (by cases q), fm⟩)
  · obtain ⟨g, rfl⟩ : ∃ g, d = g + 1 := ⟨d - 1, by omega⟩
    refine ev_aload_n d_Re_takePackedText_42 rfl rfl ?_
    refine ev_get d_Re_takePackedText_43 fl_Re_22 he rfl ?_
    refine ev_aload_n d_Re_takePackedText_46 rfl rfl ?_
    refine ev_get d_Re_takePackedText_47 fl_Re_34 he rfl ?_
    refine ev_pV M_Bu_look 0 0 (As := [.int (iZ (p : Int))]) (c_Bu_look G h b bb F n (p : Int) hb hbb (by omega) (by omega)) d_Re_takePackedText_50 mk_Bu_look ml_Re_100 mv_Bu_look hb rfl rfl rfl (Nat.le_of_ble_eq_true rfl) ⟨by decide, by decide⟩ ⟨by decide, by decide⟩ ?_
    refine ev_top (lk F n p) (look_lk) ?_
    have rl := lk_r (n := n) hF (p)
    refine ev_bipush (v := iZ 10) d_Re_takePackedText_53 rfl ?_
    refine ez_icmp_eq (tgt := 67) (by omega) (by decide) d_Re_takePackedText_55 rfl (fun c55 => ?_) (fun c55 => ?_)
    · refine ev_iload_n d_Re_takePackedText_67 rfl rfl ?_
      refine ev_iload_n d_Re_takePackedText_68 rfl rfl ?_
      refine ev_iconst (v := iZ 1) d_Re_takePackedText_69 rfl ?_
      refine ez_isub d_Re_takePackedText_70 ?_
      refine ez_icmp_eq (tgt := 81) (by omega) (by omega) d_Re_takePackedText_71 rfl (fun c71 => ?_) (fun c71 => ?_)
      · refine ev_iconst (v := iZ 0) d_Re_takePackedText_81 rfl ?_
        have e9 : tx2 F n z (g + 1) (i : Int) p T br = (p, none) := by rw [tx2, if_pos (by omega), if_neg (by rintro ⟨q, _⟩; omega)]
        exact ev_zreturn d_Re_takePackedText_82 rfl (Or.inl rfl) (by decide) (by decide) (⟨fun T' q => (by rw [e9] at q; cases q), fun _ => by rw [e9]; exact ⟨rfl, _, _, _, he, hl⟩, fm⟩)
      · refine ev_aload_n d_Re_takePackedText_74 rfl rfl ?_
        refine ev_callV M_Re_takeInnerBreak (rm 0 0) _ (As := []) (c_Re_takeInnerBreak G h xe b bb xf fo le n (p) F T br tm st en he hn (by omega) hT) d_Re_takePackedText_75 mk_Re_takeInnerBreak ml_Re_115 mv_Re_takeInnerBreak he rfl rfl rfl (Nat.le_of_ble_eq_true rfl) ⟨by decide, by decide⟩ ⟨by decide, by decide⟩ (fun r h1 hq => ?_)
        obtain ⟨qy, qn, fmc⟩ := hq
        by_cases lo : ibk T br
        ·
          obtain ⟨rfl, ge⟩ := qy lo
          have hb := (fmc _ (ninc (cne hb he (by simp)) nin0)).trans hb
          have hbb := (fmc _ (ninc (cne hbb he (by simp)) nin0)).trans hbb
          have hl := (fmc _ (ninc (cne hl he (by simp)) nin0)).trans hl
          have fm := fm.call (by simp) fmc
          have he := ge
          refine ez_if_ne (tgt := 83) (by decide) d_Re_takePackedText_78 rfl (fun c78 => ?_) (fun c78 => absurd c78 (by omega))
          refine ez_iinc (L' := [(0, .ref xe), (1, .int (iZ z)), (2, .int (iZ ((i + 1 : Nat) : Int)))]) d_Re_takePackedText_83 rfl (by decide) rfl ?_
          refine ev_goto (tgt := 37) d_Re_takePackedText_86 rfl ?_
          skip
          have lp := lk_p (F := F) (n := n) (p := p) (by omega)
          have e9 : tx2 F n z (g + 1) (i : Int) p T br = tx2 F n z g ((i : Int) + 1) (p + 1) (T) true := by rw [tx2, if_pos (by omega), if_pos ⟨by omega, lo⟩]
          rw [e9]
          exact ih g (by omega) (i + 1) (p + 1) (T) true h1 (by omega) (by omega) hT he hb hbb hl fm
        ·
          obtain ⟨rfl, rfl⟩ := qn lo
          refine ez_if_ne (tgt := 83) (by decide) d_Re_takePackedText_78 rfl (fun c78 => absurd c78 (by omega)) (fun c78 => ?_)
          refine ev_iconst (v := iZ 0) d_Re_takePackedText_81 rfl ?_
          have e9 : tx2 F n z (g + 1) (i : Int) p T br = (p, none) := by rw [tx2, if_pos (by omega), if_neg (fun q => lo q.2)]
          exact ev_zreturn d_Re_takePackedText_82 rfl (Or.inl rfl) (by decide) (by decide) (⟨fun T' q => (by rw [e9] at q; cases q), fun _ => by rw [e9]; exact ⟨rfl, _, _, _, he, hl⟩, fm⟩)
    · refine ev_aload_n d_Re_takePackedText_58 rfl rfl ?_
      refine ev_callV M_Re_takeLetter (rm 1 22) _ (As := []) (c_Re_takeLetter G h xe b bb xf fo le n (p) F E T br tm st en he hb hbb hl hn (by omega) hF hT) d_Re_takePackedText_59 mk_Re_takeLetter ml_Re_104 mv_Re_takeLetter he rfl rfl rfl (Nat.le_of_ble_eq_true rfl) ⟨by decide, by decide⟩ ⟨by decide, by decide⟩ (fun r h2 hq => ?_)
      obtain ⟨qy, qn, fmc⟩ := hq
      by_cases lo : lok (lk F n (p)) T br
      ·
        obtain ⟨rfl, ge, gl⟩ := qy lo
        have hb := (fmc _ (ninc (cne hb he (by simp)) (ninc (cne hb hl (by simp)) nin0))).trans hb
        have hbb := (fmc _ (ninc (cne hbb he (by simp)) (ninc (cne hbb hl (by simp)) nin0))).trans hbb
        have fm := fm.call (by simp) fmc
        have he := ge
        have hl := gl
        refine ez_if_ne (tgt := 83) (by decide) d_Re_takePackedText_62 rfl (fun c62 => ?_) (fun c62 => absurd c62 (by omega))
        refine ez_iinc (L' := [(0, .ref xe), (1, .int (iZ z)), (2, .int (iZ ((i + 1 : Nat) : Int)))]) d_Re_takePackedText_83 rfl (by decide) rfl ?_
        refine ev_goto (tgt := 37) d_Re_takePackedText_86 rfl ?_
        skip
        have lp := lk_p (F := F) (n := n) (p := p) (by have := lo.1.1; omega)
        have e9 : tx2 F n z (g + 1) (i : Int) p T br = tx2 F n z g ((i : Int) + 1) (p + 1) (lad T br (lk F n p)) false := by rw [tx2, if_neg (by omega), if_pos lo]
        rw [e9]
        exact ih g (by omega) (i + 1) (p + 1) (lad T br (lk F n p)) false h2 (by omega) (by omega) (lok_l lo) he hb hbb hl fm
      ·
        obtain ⟨rfl, rfl⟩ := qn lo
        refine ez_if_ne (tgt := 83) (by decide) d_Re_takePackedText_62 rfl (fun c62 => absurd c62 (by omega)) (fun c62 => ?_)
        refine ev_iconst (v := iZ 0) d_Re_takePackedText_65 rfl ?_
        have e9 : tx2 F n z (g + 1) (i : Int) p T br = (p, none) := by rw [tx2, if_neg (by omega), if_neg lo]
        exact ev_zreturn d_Re_takePackedText_66 rfl (Or.inl rfl) (by decide) (by decide) (⟨fun T' q => (by rw [e9] at q; cases q), fun _ => by rw [e9]; exact ⟨rfl, _, _, _, he, hl⟩, fm⟩)
set_option maxHeartbeats 4000000 in
set_option maxRecDepth 100000 in
theorem c_Re_takePackedText (G : GT) (h : HM) (xe b bb xf fo le n p : Nat) (F E : Nat → Int) (tm st en : Int) (he : h xe = some (.inr (3, [.ref b, .ref xf, .ref fo, .ref le, .int (iZ 0), .int (iZ 0), .int (iZ (p : Int)), .long (lZ tm), .long (lZ st), .long (lZ en)]))) (hb : h b = some (.inr (1, [.ref bb, .int (iZ (n : Int))]))) (hbb : h bb = some (.inl (G_i G, 1000, .inl (iA F)))) (hl : h le = some (.inl (G_i G, 64, .inl (iA E)))) (hn : n ≤ 1000) (hp : p ≤ n) (hF : ∀ k, 0 ≤ F k ∧ F k ≤ 255) : Rn G M_Re_takePackedText (rm 2 45) [.ref xe] h (fun r h' => (∀ T', (tx2s F n p).2 = some T' → r = some (.int (iZ 1)) ∧ (∃ br' : Int, h' xe = some (.inr (3, [.ref b, .ref xf, .ref fo, .ref le, .int (iZ (T'.length : Int)), .int (iZ br'), .int (iZ (((tx2s F n p).1 : Nat) : Int)), .long (lZ tm), .long (lZ st), .long (lZ en)]))) ∧ h' le = some (.inl (G_i G, 64, .inl (iA (pL E T')))) ∧ T'.length ≤ 64) ∧ ((tx2s F n p).2 = none → r = some (.int (iZ 0)) ∧ ∃ sz' br' : Int, ∃ E' : Nat → Int, h' xe = some (.inr (3, [.ref b, .ref xf, .ref fo, .ref le, .int (iZ sz'), .int (iZ br'), .int (iZ (((tx2s F n p).1 : Nat) : Int)), .long (lZ tm), .long (lZ st), .long (lZ en)])) ∧ h' le = some (.inl (G_i G, 64, .inl (iA E')))) ∧ Fm [xe, le] h h') := by
  refine rn_of (by decide) (Nat.le_of_ble_eq_true rfl) ?_
  show Ev G M_Re_takePackedText _ _ 0 [(0, .ref xe)] [] _ 0 0
  have fm : Fm [xe, le] h h := Fm.rf
  refine ev_aload_n d_Re_takePackedText_0 rfl rfl ?_
  refine ev_get d_Re_takePackedText_1 fl_Re_22 he rfl ?_
  refine ev_aload_n d_Re_takePackedText_4 rfl rfl ?_
  refine ev_get d_Re_takePackedText_5 fl_Re_34 he rfl ?_
  refine ev_pV M_Bu_look 0 0 (As := [.int (iZ (p : Int))]) (c_Bu_look G h b bb F n (p : Int) hb hbb (by omega) (by omega)) d_Re_takePackedText_8 mk_Bu_look ml_Re_100 mv_Bu_look hb rfl rfl rfl (Nat.le_of_ble_eq_true rfl) ⟨by decide, by decide⟩ ⟨by decide, by decide⟩ ?_
  refine ev_top (lk F n p) (look_lk) ?_
  have rl := lk_r (n := n) hF (p)
  refine ev_istore_n (L' := [(0, .ref xe), (1, .int (iZ (lk F n p)))]) d_Re_takePackedText_11 rfl (by decide) rfl ?_
  refine ev_iload_n d_Re_takePackedText_12 rfl rfl ?_
  refine ev_iconst (v := iZ 1) d_Re_takePackedText_13 rfl ?_
  refine ez_icmp_lt (tgt := 23) (by omega) (by decide) d_Re_takePackedText_14 rfl (fun c14 => ?_) (fun c14 => ?_)
  · refine ev_iconst (v := iZ 0) d_Re_takePackedText_23 rfl ?_
    have e9 : tx2s F n p = (p, none) := by rw [tx2s, if_neg (by omega)]
    exact ev_zreturn d_Re_takePackedText_24 rfl (Or.inl rfl) (by decide) (by decide) (⟨fun T' q => (by rw [e9] at q; cases q), fun _ => by rw [e9]; exact ⟨rfl, _, _, _, he, hl⟩, fm⟩)
  · refine ev_iload_n d_Re_takePackedText_17 rfl rfl ?_
    refine ev_bipush (v := iZ 64) d_Re_takePackedText_18 rfl ?_
    refine ez_icmp_le (tgt := 25) (by omega) (by decide) d_Re_takePackedText_20 rfl (fun c20 => ?_) (fun c20 => ?_)
    · refine ev_aload_n d_Re_takePackedText_25 rfl rfl ?_
      refine ev_dup d_Re_takePackedText_26 rfl ?_
      refine ev_get d_Re_takePackedText_27 fl_Re_34 he rfl ?_
      refine ev_iconst (v := iZ 1) d_Re_takePackedText_30 rfl ?_
      refine ez_iadd d_Re_takePackedText_31 ?_
      rw [show ((p : Int) + 1 : Int) = ((p + 1 : Nat) : Int) from by omega]
      refine ev_put2 (fs' := [.ref b, .ref xf, .ref fo, .ref le, .int (iZ 0), .int (iZ 0), .int (iZ ((p + 1 : Nat) : Int)), .long (lZ tm), .long (lZ st), .long (lZ en)]) d_Re_takePackedText_32 fw_Re_34 (Or.inr (fun _ _ _ q => by cases q; rfl)) he (Nat.le_of_ble_eq_true rfl) rfl rfl rfl (fun h1 h1a h1o => ?_)
      have hb := (h1o _ (cne hb he (by simp))).trans hb
      have hbb := (h1o _ (cne hbb he (by simp))).trans hbb
      have hl := (h1o _ (cne hl he (by simp))).trans hl
      have he := h1a
      have fm := fm.step (by simp) h1o
      refine ev_iconst (v := iZ 0) d_Re_takePackedText_35 rfl ?_
      refine ev_istore_n (L' := [(0, .ref xe), (1, .int (iZ (lk F n p))), (2, .int (iZ 0))]) d_Re_takePackedText_36 rfl (by decide) rfl ?_
      have lp := lk_p (F := F) (n := n) (p := p) (by omega)
      have e9 : tx2s F n p = tx2 F n (lk F n p) (lk F n p).toNat ((0 : Nat) : Int) (p + 1) [] false := by rw [tx2s, if_pos (by omega)]; rfl
      rw [e9]
      refine ev_mono ?_ (lp_Re_packedText G h1 xe b bb xf fo le n F E tm st en hn hF (lk F n p) (by omega) (lk F n p).toNat 0 (p + 1) [] false h1 (by omega) (by omega) (by decide) he hb hbb hl Fm.rf)
      rintro r h' ⟨q1, q2, q3⟩
      exact ⟨q1, q2, fm.call (fun _ w => w) q3⟩
    · refine ev_iconst (v := iZ 0) d_Re_takePackedText_23 rfl ?_
      have e9 : tx2s F n p = (p, none) := by rw [tx2s, if_neg (by omega)]
      exact ev_zreturn d_Re_takePackedText_24 rfl (Or.inl rfl) (by decide) (by decide) (⟨fun T' q => (by rw [e9] at q; cases q), fun _ => by rw [e9]; exact ⟨rfl, _, _, _, he, hl⟩, fm⟩)
theorem hP1_le {F : Nat → Int} {n p : Nat} (h : p ≤ n) : (hP 1 F n p).1 ≤ n := by
  rw [hP_1 rfl]
  have a := frP_le (F := F) (n := n) (p := p) h
  split
  · exact (frP_le (F := F) (n := n) (p := (frP F n p).1) a.2).2
  · exact a.2
set_option maxHeartbeats 4000000 in
set_option maxRecDepth 100000 in
theorem c_Re_takeCue (G : GT) (h : HM) (xe b bb xf fo le n p : Nat) (F E : Nat → Int) (tm st en : Int) (num den tk f : Int) (he : h xe = some (.inr (3, [.ref b, .ref xf, .ref fo, .ref le, .int (iZ 0), .int (iZ 0), .int (iZ (p : Int)), .long (lZ tm), .long (lZ st), .long (lZ en)]))) (hb : h b = some (.inr (1, [.ref bb, .int (iZ (n : Int))]))) (hbb : h bb = some (.inl (G_i G, 1000, .inl (iA F)))) (hl : h le = some (.inl (G_i G, 64, .inl (iA E)))) (hf : h xf = some (.inr (5, [.int (iZ num), .int (iZ den), .long (lZ tk)]))) (hn : n ≤ 1000) (hp : p ≤ n) (hF : ∀ k, 0 ≤ F k ∧ F k ≤ 255) (hfr : f = 0 ∨ f = 1 ∨ f = 2) : Rn G M_Re_takeCue (rm 5 114) [.ref xe, .int (iZ f)] h (fun r h' => (∀ S, (cuP f tk F n p).2 = some S → r = some (.int (iZ 1)) ∧ (∃ br' tm' : Int, h' xe = some (.inr (3, [.ref b, .ref xf, .ref fo, .ref le, .int (iZ (S.2.2.length : Int)), .int (iZ br'), .int (iZ (((cuP f tk F n p).1 : Nat) : Int)), .long (lZ tm'), .long (lZ S.1), .long (lZ S.2.1)]))) ∧ h' le = some (.inl (G_i G, 64, .inl (iA (pL E S.2.2)))) ∧ S.2.2.length ≤ 64) ∧ ((cuP f tk F n p).2 = none → r = some (.int (iZ 0)) ∧ ∃ sz' br' tm' st' en' : Int, ∃ E' : Nat → Int, h' xe = some (.inr (3, [.ref b, .ref xf, .ref fo, .ref le, .int (iZ sz'), .int (iZ br'), .int (iZ (((cuP f tk F n p).1 : Nat) : Int)), .long (lZ tm'), .long (lZ st'), .long (lZ en')])) ∧ h' le = some (.inl (G_i G, 64, .inl (iA E')))) ∧ Fm [xe, le] h h') := by
  refine rn_of (by decide) (Nat.le_of_ble_eq_true rfl) ?_
  show Ev G M_Re_takeCue _ _ 0 [(0, .ref xe), (1, .int (iZ f))] [] _ 0 0
  have fm : Fm [xe, le] h h := Fm.rf
  refine ev_iload_n d_Re_takeCue_0 rfl rfl ?_
  refine ez_if_ne (tgt := 24) (by omega) d_Re_takeCue_1 rfl (fun c1 => ?_) (fun c1 => ?_)
  · refine ev_iload_n d_Re_takeCue_24 rfl rfl ?_
    refine ev_iconst (v := iZ 1) d_Re_takeCue_25 rfl ?_
    refine ez_icmp_ne (tgt := 49) (by omega) (by decide) d_Re_takeCue_26 rfl (fun c26 => ?_) (fun c26 => ?_)
    · refine ev_aload_n d_Re_takeCue_49 rfl rfl ?_
      refine ev_callV M_Re_takePackedTimes (rm 2 45) _ (As := []) (c_Re_takePackedTimes G h xe b bb xf fo le n p F 0 0 tm st en he hb hbb hn hp hF) d_Re_takeCue_50 mk_Re_takePackedTimes ml_Re_75 mv_Re_takePackedTimes he rfl rfl rfl (Nat.le_of_ble_eq_true rfl) ⟨by decide, by decide⟩ ⟨by decide, by decide⟩ (fun r h2 hq => ?_)
      obtain ⟨qy, qn, fmc⟩ := hq
      have hb := (fmc _ (ninc (cne hb he (by simp)) nin0)).trans hb
      have hbb := (fmc _ (ninc (cne hbb he (by simp)) nin0)).trans hbb
      have hl := (fmc _ (ninc (cne hl he (by simp)) nin0)).trans hl
      have hf := (fmc _ (ninc (cne hf he (by simp)) nin0)).trans hf
      have fm := fm.call (by simp) fmc
      by_cases m0 : (mq F n (pat6 ++ pat6) p).2 = true
      ·
        obtain ⟨rfl, he⟩ := qy m0
        have hh : hP f F n p = (p + 12, true) := by rw [hP_2 c1 c26]; exact Prod.ext (mq_len _ _ m0) m0
        have ml := (mq_le (F := F) (n := n) (A := pat6 ++ pat6) (p := p) (by decide) hp).2
        rw [mq_len _ _ m0] at ml
        replace ml : p + 12 ≤ n := ml
        refine ez_if_eq (tgt := 67) (by decide) d_Re_takeCue_53 rfl (fun c53 => absurd c53 (by omega)) (fun c53 => ?_)
        refine ev_aload_n d_Re_takeCue_56 rfl rfl ?_
        refine ev_callV M_Re_takePackedText (rm 2 45) _ (As := []) (c_Re_takePackedText G h2 xe b bb xf fo le n (p + 12) F E (sxv F n 6 (p + 6) 0) (sxv F n 6 p 0) (sxv F n 6 (p + 6) 0) he hb hbb hl hn ml hF) d_Re_takeCue_57 mk_Re_takePackedText ml_Re_78 mv_Re_takePackedText he rfl rfl rfl (Nat.le_of_ble_eq_true rfl) ⟨by decide, by decide⟩ ⟨by decide, by decide⟩ (fun r h3 hq => ?_)
        obtain ⟨qy, qn, fmc⟩ := hq
        have fm := fm.call (by simp) fmc
        rcases hx : (tx2s F n (p + 12)).2 with _ | T1
        ·
          obtain ⟨rfl, sz1, br1, E1, he, hl⟩ := qn hx
          refine ez_if_eq (tgt := 67) (by decide) d_Re_takeCue_60 rfl (fun c60 => ?_) (fun c60 => absurd c60 (by omega))
          refine ev_iconst (v := iZ 0) d_Re_takeCue_67 rfl ?_
          have hcu : cuP f tk F n p = ((tx2s F n (p + 12)).1, none) := by rw [cuP_ok hh, txP_2 c1 c26, hx]; rfl
          exact ev_zreturn d_Re_takeCue_68 rfl (Or.inl rfl) (by decide) (by decide) (⟨fun S q => (by rw [hcu] at q; cases q), fun _ => by rw [hcu]; exact ⟨rfl, _, _, _, _, _, _, he, hl⟩, fm⟩)
        ·
          obtain ⟨rfl, ⟨br1, he⟩, hl, hl6⟩ := qy T1 hx
          refine ez_if_eq (tgt := 67) (by decide) d_Re_takeCue_60 rfl (fun c60 => absurd c60 (by omega)) (fun c60 => ?_)
          refine ev_iconst (v := iZ 1) d_Re_takeCue_63 rfl ?_
          refine ev_goto (tgt := 68) d_Re_takeCue_64 rfl ?_
          have hcu : cuP f tk F n p = ((tx2s F n (p + 12)).1, some (sxv F n 6 p 0, sxv F n 6 (p + 6) 0, T1)) := by
            rw [cuP_ok hh, txP_2 c1 c26, hx, hS_2 c1 c26, hE_2 c1 c26]
            rfl
          exact ev_zreturn d_Re_takeCue_68 rfl (Or.inr rfl) (by decide) (by decide) (⟨fun S q => (by rw [hcu] at q; cases q; rw [hcu]; exact ⟨rfl, ⟨_, _, he⟩, hl, hl6⟩), fun q => (by rw [hcu] at q; cases q), fm⟩)
      ·
        replace m0 := Bool.eq_false_iff.mpr m0
        obtain ⟨rfl, tm', st', en', he⟩ := qn m0
        have hh : hP f F n p = ((mq F n (pat6 ++ pat6) p).1, false) := by rw [hP_2 c1 c26]; exact Prod.ext rfl m0
        refine ez_if_eq (tgt := 67) (by decide) d_Re_takeCue_53 rfl (fun c53 => ?_) (fun c53 => absurd c53 (by omega))
        refine ev_iconst (v := iZ 0) d_Re_takeCue_67 rfl ?_
        have hcu : cuP f tk F n p = _ := cuP_no hh
        exact ev_zreturn d_Re_takeCue_68 rfl (Or.inl rfl) (by decide) (by decide) (⟨fun S q => (by rw [hcu] at q; cases q), fun _ => by rw [hcu]; exact ⟨rfl, _, _, _, _, _, _, he, hl⟩, fm⟩)
    · refine ev_aload_n d_Re_takeCue_29 rfl rfl ?_
      refine ev_callV M_Re_takeFrameTimes (rm 3 68) _ (As := []) (c_Re_takeFrameTimes G h xe b bb xf fo le n p F 0 0 tm st en num den tk he hb hbb hf hn hp hF) d_Re_takeCue_30 mk_Re_takeFrameTimes ml_Re_69 mv_Re_takeFrameTimes he rfl rfl rfl (Nat.le_of_ble_eq_true rfl) ⟨by decide, by decide⟩ ⟨by decide, by decide⟩ (fun r h2 hq => ?_)
      obtain ⟨qy, qn, fmc⟩ := hq
      have hb := (fmc _ (ninc (cne hb he (by simp)) nin0)).trans hb
      have hbb := (fmc _ (ninc (cne hbb he (by simp)) nin0)).trans hbb
      have hl := (fmc _ (ninc (cne hl he (by simp)) nin0)).trans hl
      have hf := (fmc _ (ninc (cne hf he (by simp)) nin0)).trans hf
      have fm := fm.call (by simp) fmc
      by_cases m0 : (hP 1 F n p).2 = true
      ·
        obtain ⟨rfl, he⟩ := qy m0
        have hh : hP f F n p = ((hP 1 F n p).1, true) := by rw [show f = 1 from c26]; exact Prod.ext rfl m0
        have ml : (hP 1 F n p).1 ≤ n := hP1_le hp
        refine ez_if_eq (tgt := 47) (by decide) d_Re_takeCue_33 rfl (fun c33 => absurd c33 (by omega)) (fun c33 => ?_)
        refine ev_aload_n d_Re_takeCue_36 rfl rfl ?_
        refine ev_callV M_Re_takeFrameText (rm 2 45) _ (As := []) (c_Re_takeFrameText G h2 xe b bb xf fo le n ((hP 1 F n p).1) F E (frV F n (frP F n p).1 * tk) (frV F n p * tk) (frV F n (frP F n p).1 * tk) he hb hbb hl hn ml hF) d_Re_takeCue_37 mk_Re_takeFrameText ml_Re_72 mv_Re_takeFrameText he rfl rfl rfl (Nat.le_of_ble_eq_true rfl) ⟨by decide, by decide⟩ ⟨by decide, by decide⟩ (fun r h3 hq => ?_)
        obtain ⟨qy, qn, fmc⟩ := hq
        have fm := fm.call (by simp) fmc
        rcases hx : (tx1 F n (n + 1 - ((hP 1 F n p).1)) ((hP 1 F n p).1) [] false).2 with _ | T1
        ·
          obtain ⟨rfl, sz1, br1, E1, he, hl⟩ := qn hx
          refine ez_if_eq (tgt := 47) (by decide) d_Re_takeCue_40 rfl (fun c40 => ?_) (fun c40 => absurd c40 (by omega))
          refine ev_iconst (v := iZ 0) d_Re_takeCue_47 rfl ?_
          have hcu : cuP f tk F n p = ((tx1 F n (n + 1 - ((hP 1 F n p).1)) ((hP 1 F n p).1) [] false).1, none) := by rw [cuP_ok hh, txP_1 c26, hx]; rfl
          exact ev_zreturn d_Re_takeCue_48 rfl (Or.inl rfl) (by decide) (by decide) (⟨fun S q => (by rw [hcu] at q; cases q), fun _ => by rw [hcu]; exact ⟨rfl, _, _, _, _, _, _, he, hl⟩, fm⟩)
        ·
          obtain ⟨rfl, ⟨br1, he⟩, hl, hl6⟩ := qy T1 hx
          refine ez_if_eq (tgt := 47) (by decide) d_Re_takeCue_40 rfl (fun c40 => absurd c40 (by omega)) (fun c40 => ?_)
          refine ev_iconst (v := iZ 1) d_Re_takeCue_43 rfl ?_
          refine ev_goto (tgt := 48) d_Re_takeCue_44 rfl ?_
          have hcu : cuP f tk F n p = ((tx1 F n (n + 1 - ((hP 1 F n p).1)) ((hP 1 F n p).1) [] false).1, some (frV F n p * tk, frV F n (frP F n p).1 * tk, T1)) := by
            rw [cuP_ok hh, txP_1 c26, hx, hS_1 c26, hE_1 c26]
            rfl
          exact ev_zreturn d_Re_takeCue_48 rfl (Or.inr rfl) (by decide) (by decide) (⟨fun S q => (by rw [hcu] at q; cases q; rw [hcu]; exact ⟨rfl, ⟨_, _, he⟩, hl, hl6⟩), fun q => (by rw [hcu] at q; cases q), fm⟩)
      ·
        replace m0 := Bool.eq_false_iff.mpr m0
        obtain ⟨rfl, tm', st', en', he⟩ := qn m0
        have hh : hP f F n p = ((hP 1 F n p).1, false) := by rw [show f = 1 from c26]; exact Prod.ext rfl m0
        refine ez_if_eq (tgt := 47) (by decide) d_Re_takeCue_33 rfl (fun c33 => ?_) (fun c33 => absurd c33 (by omega))
        refine ev_iconst (v := iZ 0) d_Re_takeCue_47 rfl ?_
        have hcu : cuP f tk F n p = _ := cuP_no hh
        exact ev_zreturn d_Re_takeCue_48 rfl (Or.inl rfl) (by decide) (by decide) (⟨fun S q => (by rw [hcu] at q; cases q), fun _ => by rw [hcu]; exact ⟨rfl, _, _, _, _, _, _, he, hl⟩, fm⟩)
  · refine ev_aload_n d_Re_takeCue_4 rfl rfl ?_
    refine ev_callV M_Re_takeBlockTimes (rm 4 91) _ (As := []) (c_Re_takeBlockTimes G h xe b bb xf fo le n p F 0 0 tm st en he hb hbb hn hp hF) d_Re_takeCue_5 mk_Re_takeBlockTimes ml_Re_62 mv_Re_takeBlockTimes he rfl rfl rfl (Nat.le_of_ble_eq_true rfl) ⟨by decide, by decide⟩ ⟨by decide, by decide⟩ (fun r h2 hq => ?_)
    obtain ⟨qy, qn, fmc⟩ := hq
    have hb := (fmc _ (ninc (cne hb he (by simp)) nin0)).trans hb
    have hbb := (fmc _ (ninc (cne hbb he (by simp)) nin0)).trans hbb
    have hl := (fmc _ (ninc (cne hl he (by simp)) nin0)).trans hl
    have hf := (fmc _ (ninc (cne hf he (by simp)) nin0)).trans hf
    have fm := fm.call (by simp) fmc
    by_cases m0 : (mq F n pat0 p).2 = true
    ·
      obtain ⟨rfl, he⟩ := qy m0
      have hh : hP f F n p = (p + 28, true) := by rw [hP_0 c1]; exact Prod.ext (mq_len _ _ m0) m0
      have ml := (mq_le (F := F) (n := n) (A := pat0) (p := p) (by decide) hp).2
      rw [mq_len _ _ m0] at ml
      replace ml : p + 28 ≤ n := ml
      refine ez_if_eq (tgt := 22) (by decide) d_Re_takeCue_8 rfl (fun c8 => absurd c8 (by omega)) (fun c8 => ?_)
      refine ev_aload_n d_Re_takeCue_11 rfl rfl ?_
      refine ev_callV M_Re_takeBlockText (rm 2 45) _ (As := []) (c_Re_takeBlockText G h2 xe b bb xf fo le n (p + 28) F E (clk F n (p + 15)) (clk F n p) (clk F n (p + 15)) he hb hbb hl hn ml hF) d_Re_takeCue_12 mk_Re_takeBlockText ml_Re_66 mv_Re_takeBlockText he rfl rfl rfl (Nat.le_of_ble_eq_true rfl) ⟨by decide, by decide⟩ ⟨by decide, by decide⟩ (fun r h3 hq => ?_)
      obtain ⟨qy, qn, fmc⟩ := hq
      have fm := fm.call (by simp) fmc
      rcases hx : (tx0 F n (n + 1 - (p + 28)) (p + 28) [] false).2 with _ | T1
      ·
        obtain ⟨rfl, sz1, br1, E1, he, hl⟩ := qn hx
        refine ez_if_eq (tgt := 22) (by decide) d_Re_takeCue_15 rfl (fun c15 => ?_) (fun c15 => absurd c15 (by omega))
        refine ev_iconst (v := iZ 0) d_Re_takeCue_22 rfl ?_
        have hcu : cuP f tk F n p = ((tx0 F n (n + 1 - (p + 28)) (p + 28) [] false).1, none) := by rw [cuP_ok hh, txP_0 c1, hx]; rfl
        exact ev_zreturn d_Re_takeCue_23 rfl (Or.inl rfl) (by decide) (by decide) (⟨fun S q => (by rw [hcu] at q; cases q), fun _ => by rw [hcu]; exact ⟨rfl, _, _, _, _, _, _, he, hl⟩, fm⟩)
      ·
        obtain ⟨rfl, ⟨br1, he⟩, hl, hl6⟩ := qy T1 hx
        refine ez_if_eq (tgt := 22) (by decide) d_Re_takeCue_15 rfl (fun c15 => absurd c15 (by omega)) (fun c15 => ?_)
        refine ev_iconst (v := iZ 1) d_Re_takeCue_18 rfl ?_
        refine ev_goto (tgt := 23) d_Re_takeCue_19 rfl ?_
        have hcu : cuP f tk F n p = ((tx0 F n (n + 1 - (p + 28)) (p + 28) [] false).1, some (clk F n p, clk F n (p + 15), T1)) := by
          rw [cuP_ok hh, txP_0 c1, hx, hS_0 c1, hE_0 c1]
          rfl
        exact ev_zreturn d_Re_takeCue_23 rfl (Or.inr rfl) (by decide) (by decide) (⟨fun S q => (by rw [hcu] at q; cases q; rw [hcu]; exact ⟨rfl, ⟨_, _, he⟩, hl, hl6⟩), fun q => (by rw [hcu] at q; cases q), fm⟩)
    ·
      replace m0 := Bool.eq_false_iff.mpr m0
      obtain ⟨rfl, tm', st', en', he⟩ := qn m0
      have hh : hP f F n p = ((mq F n pat0 p).1, false) := by rw [hP_0 c1]; exact Prod.ext rfl m0
      refine ez_if_eq (tgt := 22) (by decide) d_Re_takeCue_8 rfl (fun c8 => ?_) (fun c8 => absurd c8 (by omega))
      refine ev_iconst (v := iZ 0) d_Re_takeCue_22 rfl ?_
      have hcu : cuP f tk F n p = _ := cuP_no hh
      exact ev_zreturn d_Re_takeCue_23 rfl (Or.inl rfl) (by decide) (by decide) (⟨fun S q => (by rw [hcu] at q; cases q), fun _ => by rw [hcu]; exact ⟨rfl, _, _, _, _, _, _, he, hl⟩, fm⟩)
