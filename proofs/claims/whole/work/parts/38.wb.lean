theorem d_Mo_write1_0 : decode M_Mo_write1.2.1 0 = .ok (.aload_n 0, 1) := by decide +kernel
theorem d_Mo_write1_1 : decode M_Mo_write1.2.1 1 = .ok (.getfield 179, 3) := by decide +kernel
theorem d_Mo_write1_4 : decode M_Mo_write1.2.1 4 = .ok (.ifCond .ne 13, 3) := by decide +kernel
theorem d_Mo_write1_7 : decode M_Mo_write1.2.1 7 = .ok (.aload_n 0, 1) := by decide +kernel
theorem d_Mo_write1_8 : decode M_Mo_write1.2.1 8 = .ok (.getfield 7, 3) := by decide +kernel
theorem d_Mo_write1_11 : decode M_Mo_write1.2.1 11 = .ok (.aload_n 0, 1) := by decide +kernel
theorem d_Mo_write1_12 : decode M_Mo_write1.2.1 12 = .ok (.getfield 183, 3) := by decide +kernel
theorem d_Mo_write1_15 : decode M_Mo_write1.2.1 15 = .ok (.iload_n 1, 1) := by decide +kernel
theorem d_Mo_write1_16 : decode M_Mo_write1.2.1 16 = .ok (.iastore, 1) := by decide +kernel
theorem d_Mo_write1_17 : decode M_Mo_write1.2.1 17 = .ok (.aload_n 0, 1) := by decide +kernel
theorem d_Mo_write1_18 : decode M_Mo_write1.2.1 18 = .ok (.dup, 1) := by decide +kernel
theorem d_Mo_write1_19 : decode M_Mo_write1.2.1 19 = .ok (.getfield 183, 3) := by decide +kernel
theorem d_Mo_write1_22 : decode M_Mo_write1.2.1 22 = .ok (.iconst 1, 1) := by decide +kernel
theorem d_Mo_write1_23 : decode M_Mo_write1.2.1 23 = .ok (.iadd, 1) := by decide +kernel
theorem d_Mo_write1_24 : decode M_Mo_write1.2.1 24 = .ok (.putfield 183, 3) := by decide +kernel
theorem d_Mo_write1_27 : decode M_Mo_write1.2.1 27 = .ok (.return_, 1) := by decide +kernel
theorem d_Mo_writeDigits_0 : decode M_Mo_writeDigits.2.1 0 = .ok (.lconst 1, 1) := by decide +kernel
theorem d_Mo_writeDigits_1 : decode M_Mo_writeDigits.2.1 1 = .ok (.lstore 4, 2) := by decide +kernel
theorem d_Mo_writeDigits_3 : decode M_Mo_writeDigits.2.1 3 = .ok (.iconst 1, 1) := by decide +kernel
theorem d_Mo_writeDigits_4 : decode M_Mo_writeDigits.2.1 4 = .ok (.istore 6, 2) := by decide +kernel
theorem d_Mo_writeDigits_6 : decode M_Mo_writeDigits.2.1 6 = .ok (.iload 6, 2) := by decide +kernel
theorem d_Mo_writeDigits_8 : decode M_Mo_writeDigits.2.1 8 = .ok (.iload_n 3, 1) := by decide +kernel
theorem d_Mo_writeDigits_9 : decode M_Mo_writeDigits.2.1 9 = .ok (.if_icmp .ge 17, 3) := by decide +kernel
theorem d_Mo_writeDigits_12 : decode M_Mo_writeDigits.2.1 12 = .ok (.ldc2_w 130, 3) := by decide +kernel
theorem d_Mo_writeDigits_15 : decode M_Mo_writeDigits.2.1 15 = .ok (.lload 4, 2) := by decide +kernel
theorem d_Mo_writeDigits_17 : decode M_Mo_writeDigits.2.1 17 = .ok (.lmul, 1) := by decide +kernel
theorem d_Mo_writeDigits_18 : decode M_Mo_writeDigits.2.1 18 = .ok (.lstore 4, 2) := by decide +kernel
theorem d_Mo_writeDigits_20 : decode M_Mo_writeDigits.2.1 20 = .ok (.iinc 6 1, 3) := by decide +kernel
theorem d_Mo_writeDigits_23 : decode M_Mo_writeDigits.2.1 23 = .ok (.goto (-17), 3) := by decide +kernel
theorem d_Mo_writeDigits_26 : decode M_Mo_writeDigits.2.1 26 = .ok (.iconst 0, 1) := by decide +kernel
theorem d_Mo_writeDigits_27 : decode M_Mo_writeDigits.2.1 27 = .ok (.istore 6, 2) := by decide +kernel
theorem d_Mo_writeDigits_29 : decode M_Mo_writeDigits.2.1 29 = .ok (.iload 6, 2) := by decide +kernel
theorem d_Mo_writeDigits_31 : decode M_Mo_writeDigits.2.1 31 = .ok (.iload_n 3, 1) := by decide +kernel
theorem d_Mo_writeDigits_32 : decode M_Mo_writeDigits.2.1 32 = .ok (.if_icmp .ge 33, 3) := by decide +kernel
theorem d_Mo_writeDigits_35 : decode M_Mo_writeDigits.2.1 35 = .ok (.aload_n 0, 1) := by decide +kernel
theorem d_Mo_writeDigits_36 : decode M_Mo_writeDigits.2.1 36 = .ok (.bipush 48, 2) := by decide +kernel
theorem d_Mo_writeDigits_38 : decode M_Mo_writeDigits.2.1 38 = .ok (.lload_n 1, 1) := by decide +kernel
theorem d_Mo_writeDigits_39 : decode M_Mo_writeDigits.2.1 39 = .ok (.lload 4, 2) := by decide +kernel
theorem d_Mo_writeDigits_41 : decode M_Mo_writeDigits.2.1 41 = .ok (.ldiv, 1) := by decide +kernel
theorem d_Mo_writeDigits_42 : decode M_Mo_writeDigits.2.1 42 = .ok (.ldc2_w 130, 3) := by decide +kernel
theorem d_Mo_writeDigits_45 : decode M_Mo_writeDigits.2.1 45 = .ok (.lrem, 1) := by decide +kernel
theorem d_Mo_writeDigits_46 : decode M_Mo_writeDigits.2.1 46 = .ok (.l2i, 1) := by decide +kernel
theorem d_Mo_writeDigits_47 : decode M_Mo_writeDigits.2.1 47 = .ok (.iadd, 1) := by decide +kernel
theorem d_Mo_writeDigits_48 : decode M_Mo_writeDigits.2.1 48 = .ok (.invokevirtual 186, 3) := by decide +kernel
theorem d_Mo_writeDigits_51 : decode M_Mo_writeDigits.2.1 51 = .ok (.lload 4, 2) := by decide +kernel
theorem d_Mo_writeDigits_53 : decode M_Mo_writeDigits.2.1 53 = .ok (.ldc2_w 130, 3) := by decide +kernel
theorem d_Mo_writeDigits_56 : decode M_Mo_writeDigits.2.1 56 = .ok (.ldiv, 1) := by decide +kernel
theorem d_Mo_writeDigits_57 : decode M_Mo_writeDigits.2.1 57 = .ok (.lstore 4, 2) := by decide +kernel
theorem d_Mo_writeDigits_59 : decode M_Mo_writeDigits.2.1 59 = .ok (.iinc 6 1, 3) := by decide +kernel
theorem d_Mo_writeDigits_62 : decode M_Mo_writeDigits.2.1 62 = .ok (.goto (-33), 3) := by decide +kernel
theorem d_Mo_writeDigits_65 : decode M_Mo_writeDigits.2.1 65 = .ok (.return_, 1) := by decide +kernel
theorem d_Mo_writeClock_0 : decode M_Mo_writeClock.2.1 0 = .ok (.lload_n 1, 1) := by decide +kernel
theorem d_Mo_writeClock_1 : decode M_Mo_writeClock.2.1 1 = .ok (.ldc2_w 132, 3) := by decide +kernel
theorem d_Mo_writeClock_4 : decode M_Mo_writeClock.2.1 4 = .ok (.invokestatic 189, 3) := by decide +kernel
theorem d_Mo_writeClock_7 : decode M_Mo_writeClock.2.1 7 = .ok (.lstore_n 3, 1) := by decide +kernel
theorem d_Mo_writeClock_8 : decode M_Mo_writeClock.2.1 8 = .ok (.aload_n 0, 1) := by decide +kernel
theorem d_Mo_writeClock_9 : decode M_Mo_writeClock.2.1 9 = .ok (.lload_n 3, 1) := by decide +kernel
theorem d_Mo_writeClock_10 : decode M_Mo_writeClock.2.1 10 = .ok (.ldc2_w 193, 3) := by decide +kernel
theorem d_Mo_writeClock_13 : decode M_Mo_writeClock.2.1 13 = .ok (.ldiv, 1) := by decide +kernel
theorem d_Mo_writeClock_14 : decode M_Mo_writeClock.2.1 14 = .ok (.iconst 2, 1) := by decide +kernel
theorem d_Mo_writeClock_15 : decode M_Mo_writeClock.2.1 15 = .ok (.invokevirtual 195, 3) := by decide +kernel
theorem d_Mo_writeClock_18 : decode M_Mo_writeClock.2.1 18 = .ok (.aload_n 0, 1) := by decide +kernel
theorem d_Mo_writeClock_19 : decode M_Mo_writeClock.2.1 19 = .ok (.bipush 58, 2) := by decide +kernel
theorem d_Mo_writeClock_21 : decode M_Mo_writeClock.2.1 21 = .ok (.invokevirtual 186, 3) := by decide +kernel
theorem d_Mo_writeClock_24 : decode M_Mo_writeClock.2.1 24 = .ok (.aload_n 0, 1) := by decide +kernel
theorem d_Mo_writeClock_25 : decode M_Mo_writeClock.2.1 25 = .ok (.lload_n 3, 1) := by decide +kernel
theorem d_Mo_writeClock_26 : decode M_Mo_writeClock.2.1 26 = .ok (.ldc2_w 199, 3) := by decide +kernel
theorem d_Mo_writeClock_29 : decode M_Mo_writeClock.2.1 29 = .ok (.ldiv, 1) := by decide +kernel
theorem d_Mo_writeClock_30 : decode M_Mo_writeClock.2.1 30 = .ok (.ldc2_w 124, 3) := by decide +kernel
theorem d_Mo_writeClock_33 : decode M_Mo_writeClock.2.1 33 = .ok (.lrem, 1) := by decide +kernel
theorem d_Mo_writeClock_34 : decode M_Mo_writeClock.2.1 34 = .ok (.iconst 2, 1) := by decide +kernel
theorem d_Mo_writeClock_35 : decode M_Mo_writeClock.2.1 35 = .ok (.invokevirtual 195, 3) := by decide +kernel
theorem d_Mo_writeClock_38 : decode M_Mo_writeClock.2.1 38 = .ok (.aload_n 0, 1) := by decide +kernel
theorem d_Mo_writeClock_39 : decode M_Mo_writeClock.2.1 39 = .ok (.bipush 58, 2) := by decide +kernel
theorem d_Mo_writeClock_41 : decode M_Mo_writeClock.2.1 41 = .ok (.invokevirtual 186, 3) := by decide +kernel
theorem d_Mo_writeClock_44 : decode M_Mo_writeClock.2.1 44 = .ok (.aload_n 0, 1) := by decide +kernel
theorem d_Mo_writeClock_45 : decode M_Mo_writeClock.2.1 45 = .ok (.lload_n 3, 1) := by decide +kernel
theorem d_Mo_writeClock_46 : decode M_Mo_writeClock.2.1 46 = .ok (.ldc2_w 201, 3) := by decide +kernel
theorem d_Mo_writeClock_49 : decode M_Mo_writeClock.2.1 49 = .ok (.ldiv, 1) := by decide +kernel
theorem d_Mo_writeClock_50 : decode M_Mo_writeClock.2.1 50 = .ok (.ldc2_w 124, 3) := by decide +kernel
theorem d_Mo_writeClock_53 : decode M_Mo_writeClock.2.1 53 = .ok (.lrem, 1) := by decide +kernel
theorem d_Mo_writeClock_54 : decode M_Mo_writeClock.2.1 54 = .ok (.iconst 2, 1) := by decide +kernel
theorem d_Mo_writeClock_55 : decode M_Mo_writeClock.2.1 55 = .ok (.invokevirtual 195, 3) := by decide +kernel
theorem d_Mo_writeClock_58 : decode M_Mo_writeClock.2.1 58 = .ok (.aload_n 0, 1) := by decide +kernel
theorem d_Mo_writeClock_59 : decode M_Mo_writeClock.2.1 59 = .ok (.bipush 44, 2) := by decide +kernel
theorem d_Mo_writeClock_61 : decode M_Mo_writeClock.2.1 61 = .ok (.invokevirtual 186, 3) := by decide +kernel
theorem d_Mo_writeClock_64 : decode M_Mo_writeClock.2.1 64 = .ok (.aload_n 0, 1) := by decide +kernel
theorem d_Mo_writeClock_65 : decode M_Mo_writeClock.2.1 65 = .ok (.lload_n 3, 1) := by decide +kernel
theorem d_Mo_writeClock_66 : decode M_Mo_writeClock.2.1 66 = .ok (.ldc2_w 201, 3) := by decide +kernel
theorem d_Mo_writeClock_69 : decode M_Mo_writeClock.2.1 69 = .ok (.lrem, 1) := by decide +kernel
theorem d_Mo_writeClock_70 : decode M_Mo_writeClock.2.1 70 = .ok (.iconst 3, 1) := by decide +kernel
theorem d_Mo_writeClock_71 : decode M_Mo_writeClock.2.1 71 = .ok (.invokevirtual 195, 3) := by decide +kernel
theorem d_Mo_writeClock_74 : decode M_Mo_writeClock.2.1 74 = .ok (.return_, 1) := by decide +kernel
theorem d_Mo_writeFrames_0 : decode M_Mo_writeFrames.2.1 0 = .ok (.lload_n 1, 1) := by decide +kernel
theorem d_Mo_writeFrames_1 : decode M_Mo_writeFrames.2.1 1 = .ok (.aload_n 0, 1) := by decide +kernel
theorem d_Mo_writeFrames_2 : decode M_Mo_writeFrames.2.1 2 = .ok (.invokevirtual 134, 3) := by decide +kernel
theorem d_Mo_writeFrames_5 : decode M_Mo_writeFrames.2.1 5 = .ok (.invokestatic 189, 3) := by decide +kernel
theorem d_Mo_writeFrames_8 : decode M_Mo_writeFrames.2.1 8 = .ok (.lstore_n 3, 1) := by decide +kernel
theorem d_Mo_writeFrames_9 : decode M_Mo_writeFrames.2.1 9 = .ok (.iconst 1, 1) := by decide +kernel
theorem d_Mo_writeFrames_10 : decode M_Mo_writeFrames.2.1 10 = .ok (.istore 5, 2) := by decide +kernel
theorem d_Mo_writeFrames_12 : decode M_Mo_writeFrames.2.1 12 = .ok (.ldc2_w 130, 3) := by decide +kernel
theorem d_Mo_writeFrames_15 : decode M_Mo_writeFrames.2.1 15 = .ok (.lstore 6, 2) := by decide +kernel
theorem d_Mo_writeFrames_17 : decode M_Mo_writeFrames.2.1 17 = .ok (.lload 6, 2) := by decide +kernel
theorem d_Mo_writeFrames_19 : decode M_Mo_writeFrames.2.1 19 = .ok (.lload_n 3, 1) := by decide +kernel
theorem d_Mo_writeFrames_20 : decode M_Mo_writeFrames.2.1 20 = .ok (.lcmp, 1) := by decide +kernel
theorem d_Mo_writeFrames_21 : decode M_Mo_writeFrames.2.1 21 = .ok (.ifCond .gt 17, 3) := by decide +kernel
theorem d_Mo_writeFrames_24 : decode M_Mo_writeFrames.2.1 24 = .ok (.iinc 5 1, 3) := by decide +kernel
theorem d_Mo_writeFrames_27 : decode M_Mo_writeFrames.2.1 27 = .ok (.ldc2_w 130, 3) := by decide +kernel
theorem d_Mo_writeFrames_30 : decode M_Mo_writeFrames.2.1 30 = .ok (.lload 6, 2) := by decide +kernel
theorem d_Mo_writeFrames_32 : decode M_Mo_writeFrames.2.1 32 = .ok (.lmul, 1) := by decide +kernel
theorem d_Mo_writeFrames_33 : decode M_Mo_writeFrames.2.1 33 = .ok (.lstore 6, 2) := by decide +kernel
theorem d_Mo_writeFrames_35 : decode M_Mo_writeFrames.2.1 35 = .ok (.goto (-18), 3) := by decide +kernel
theorem d_Mo_writeFrames_38 : decode M_Mo_writeFrames.2.1 38 = .ok (.aload_n 0, 1) := by decide +kernel
theorem d_Mo_writeFrames_39 : decode M_Mo_writeFrames.2.1 39 = .ok (.bipush 123, 2) := by decide +kernel
theorem d_Mo_writeFrames_41 : decode M_Mo_writeFrames.2.1 41 = .ok (.invokevirtual 186, 3) := by decide +kernel
theorem d_Mo_writeFrames_44 : decode M_Mo_writeFrames.2.1 44 = .ok (.aload_n 0, 1) := by decide +kernel
theorem d_Mo_writeFrames_45 : decode M_Mo_writeFrames.2.1 45 = .ok (.lload_n 3, 1) := by decide +kernel
theorem d_Mo_writeFrames_46 : decode M_Mo_writeFrames.2.1 46 = .ok (.iload 5, 2) := by decide +kernel
theorem d_Mo_writeFrames_48 : decode M_Mo_writeFrames.2.1 48 = .ok (.invokevirtual 195, 3) := by decide +kernel
theorem d_Mo_writeFrames_51 : decode M_Mo_writeFrames.2.1 51 = .ok (.aload_n 0, 1) := by decide +kernel
theorem d_Mo_writeFrames_52 : decode M_Mo_writeFrames.2.1 52 = .ok (.bipush 125, 2) := by decide +kernel
theorem d_Mo_writeFrames_54 : decode M_Mo_writeFrames.2.1 54 = .ok (.invokevirtual 186, 3) := by decide +kernel
theorem d_Mo_writeFrames_57 : decode M_Mo_writeFrames.2.1 57 = .ok (.return_, 1) := by decide +kernel
theorem d_Mo_writeSix_0 : decode M_Mo_writeSix.2.1 0 = .ok (.bipush 40, 2) := by decide +kernel
theorem d_Mo_writeSix_2 : decode M_Mo_writeSix.2.1 2 = .ok (.istore_n 3, 1) := by decide +kernel
theorem d_Mo_writeSix_3 : decode M_Mo_writeSix.2.1 3 = .ok (.iload_n 3, 1) := by decide +kernel
theorem d_Mo_writeSix_4 : decode M_Mo_writeSix.2.1 4 = .ok (.ifCond .lt 21, 3) := by decide +kernel
theorem d_Mo_writeSix_7 : decode M_Mo_writeSix.2.1 7 = .ok (.aload_n 0, 1) := by decide +kernel
theorem d_Mo_writeSix_8 : decode M_Mo_writeSix.2.1 8 = .ok (.lload_n 1, 1) := by decide +kernel
theorem d_Mo_writeSix_9 : decode M_Mo_writeSix.2.1 9 = .ok (.iload_n 3, 1) := by decide +kernel
theorem d_Mo_writeSix_10 : decode M_Mo_writeSix.2.1 10 = .ok (.lshr, 1) := by decide +kernel
theorem d_Mo_writeSix_11 : decode M_Mo_writeSix.2.1 11 = .ok (.ldc2_w 98, 3) := by decide +kernel
theorem d_Mo_writeSix_14 : decode M_Mo_writeSix.2.1 14 = .ok (.land, 1) := by decide +kernel
theorem d_Mo_writeSix_15 : decode M_Mo_writeSix.2.1 15 = .ok (.l2i, 1) := by decide +kernel
theorem d_Mo_writeSix_16 : decode M_Mo_writeSix.2.1 16 = .ok (.invokevirtual 186, 3) := by decide +kernel
theorem d_Mo_writeSix_19 : decode M_Mo_writeSix.2.1 19 = .ok (.iinc 3 (-8), 3) := by decide +kernel
theorem d_Mo_writeSix_22 : decode M_Mo_writeSix.2.1 22 = .ok (.goto (-19), 3) := by decide +kernel
theorem d_Mo_writeSix_25 : decode M_Mo_writeSix.2.1 25 = .ok (.return_, 1) := by decide +kernel
theorem d_Mo_writeCue_0 : decode M_Mo_writeCue.2.1 0 = .ok (.iload_n 2, 1) := by decide +kernel
theorem d_Mo_writeCue_1 : decode M_Mo_writeCue.2.1 1 = .ok (.ifCond .ne 50, 3) := by decide +kernel
theorem d_Mo_writeCue_4 : decode M_Mo_writeCue.2.1 4 = .ok (.aload_n 0, 1) := by decide +kernel
theorem d_Mo_writeCue_5 : decode M_Mo_writeCue.2.1 5 = .ok (.aload_n 0, 1) := by decide +kernel
theorem d_Mo_writeCue_6 : decode M_Mo_writeCue.2.1 6 = .ok (.getfield 20, 3) := by decide +kernel
theorem d_Mo_writeCue_9 : decode M_Mo_writeCue.2.1 9 = .ok (.iload_n 1, 1) := by decide +kernel
theorem d_Mo_writeCue_10 : decode M_Mo_writeCue.2.1 10 = .ok (.laload, 1) := by decide +kernel
theorem d_Mo_writeCue_11 : decode M_Mo_writeCue.2.1 11 = .ok (.invokevirtual 203, 3) := by decide +kernel
theorem d_Mo_writeCue_14 : decode M_Mo_writeCue.2.1 14 = .ok (.aload_n 0, 1) := by decide +kernel
theorem d_Mo_writeCue_15 : decode M_Mo_writeCue.2.1 15 = .ok (.bipush 32, 2) := by decide +kernel
theorem d_Mo_writeCue_17 : decode M_Mo_writeCue.2.1 17 = .ok (.invokevirtual 186, 3) := by decide +kernel
theorem d_Mo_writeCue_20 : decode M_Mo_writeCue.2.1 20 = .ok (.aload_n 0, 1) := by decide +kernel
theorem d_Mo_writeCue_21 : decode M_Mo_writeCue.2.1 21 = .ok (.bipush 62, 2) := by decide +kernel
theorem d_Mo_writeCue_23 : decode M_Mo_writeCue.2.1 23 = .ok (.invokevirtual 186, 3) := by decide +kernel
theorem d_Mo_writeCue_26 : decode M_Mo_writeCue.2.1 26 = .ok (.aload_n 0, 1) := by decide +kernel
theorem d_Mo_writeCue_27 : decode M_Mo_writeCue.2.1 27 = .ok (.bipush 32, 2) := by decide +kernel
theorem d_Mo_writeCue_29 : decode M_Mo_writeCue.2.1 29 = .ok (.invokevirtual 186, 3) := by decide +kernel
theorem d_Mo_writeCue_32 : decode M_Mo_writeCue.2.1 32 = .ok (.aload_n 0, 1) := by decide +kernel
theorem d_Mo_writeCue_33 : decode M_Mo_writeCue.2.1 33 = .ok (.aload_n 0, 1) := by decide +kernel
theorem d_Mo_writeCue_34 : decode M_Mo_writeCue.2.1 34 = .ok (.getfield 24, 3) := by decide +kernel
theorem d_Mo_writeCue_37 : decode M_Mo_writeCue.2.1 37 = .ok (.iload_n 1, 1) := by decide +kernel
theorem d_Mo_writeCue_38 : decode M_Mo_writeCue.2.1 38 = .ok (.laload, 1) := by decide +kernel
theorem d_Mo_writeCue_39 : decode M_Mo_writeCue.2.1 39 = .ok (.invokevirtual 203, 3) := by decide +kernel
theorem d_Mo_writeCue_42 : decode M_Mo_writeCue.2.1 42 = .ok (.aload_n 0, 1) := by decide +kernel
theorem d_Mo_writeCue_43 : decode M_Mo_writeCue.2.1 43 = .ok (.bipush 10, 2) := by decide +kernel
theorem d_Mo_writeCue_45 : decode M_Mo_writeCue.2.1 45 = .ok (.invokevirtual 186, 3) := by decide +kernel
theorem d_Mo_writeCue_48 : decode M_Mo_writeCue.2.1 48 = .ok (.goto 61, 3) := by decide +kernel
theorem d_Mo_writeCue_51 : decode M_Mo_writeCue.2.1 51 = .ok (.iload_n 2, 1) := by decide +kernel
theorem d_Mo_writeCue_52 : decode M_Mo_writeCue.2.1 52 = .ok (.iconst 1, 1) := by decide +kernel
theorem d_Mo_writeCue_53 : decode M_Mo_writeCue.2.1 53 = .ok (.if_icmp .ne 26, 3) := by decide +kernel
theorem d_Mo_writeCue_56 : decode M_Mo_writeCue.2.1 56 = .ok (.aload_n 0, 1) := by decide +kernel
theorem d_Mo_writeCue_57 : decode M_Mo_writeCue.2.1 57 = .ok (.aload_n 0, 1) := by decide +kernel
theorem d_Mo_writeCue_58 : decode M_Mo_writeCue.2.1 58 = .ok (.getfield 20, 3) := by decide +kernel
theorem d_Mo_writeCue_61 : decode M_Mo_writeCue.2.1 61 = .ok (.iload_n 1, 1) := by decide +kernel
theorem d_Mo_writeCue_62 : decode M_Mo_writeCue.2.1 62 = .ok (.laload, 1) := by decide +kernel
theorem d_Mo_writeCue_63 : decode M_Mo_writeCue.2.1 63 = .ok (.invokevirtual 207, 3) := by decide +kernel
theorem d_Mo_writeCue_66 : decode M_Mo_writeCue.2.1 66 = .ok (.aload_n 0, 1) := by decide +kernel
theorem d_Mo_writeCue_67 : decode M_Mo_writeCue.2.1 67 = .ok (.aload_n 0, 1) := by decide +kernel
theorem d_Mo_writeCue_68 : decode M_Mo_writeCue.2.1 68 = .ok (.getfield 24, 3) := by decide +kernel
theorem d_Mo_writeCue_71 : decode M_Mo_writeCue.2.1 71 = .ok (.iload_n 1, 1) := by decide +kernel
theorem d_Mo_writeCue_72 : decode M_Mo_writeCue.2.1 72 = .ok (.laload, 1) := by decide +kernel
theorem d_Mo_writeCue_73 : decode M_Mo_writeCue.2.1 73 = .ok (.invokevirtual 207, 3) := by decide +kernel
theorem d_Mo_writeCue_76 : decode M_Mo_writeCue.2.1 76 = .ok (.goto 33, 3) := by decide +kernel
theorem d_Mo_writeCue_79 : decode M_Mo_writeCue.2.1 79 = .ok (.aload_n 0, 1) := by decide +kernel
theorem d_Mo_writeCue_80 : decode M_Mo_writeCue.2.1 80 = .ok (.aload_n 0, 1) := by decide +kernel
theorem d_Mo_writeCue_81 : decode M_Mo_writeCue.2.1 81 = .ok (.getfield 20, 3) := by decide +kernel
theorem d_Mo_writeCue_84 : decode M_Mo_writeCue.2.1 84 = .ok (.iload_n 1, 1) := by decide +kernel
theorem d_Mo_writeCue_85 : decode M_Mo_writeCue.2.1 85 = .ok (.laload, 1) := by decide +kernel
theorem d_Mo_writeCue_86 : decode M_Mo_writeCue.2.1 86 = .ok (.invokevirtual 210, 3) := by decide +kernel
theorem d_Mo_writeCue_89 : decode M_Mo_writeCue.2.1 89 = .ok (.aload_n 0, 1) := by decide +kernel
theorem d_Mo_writeCue_90 : decode M_Mo_writeCue.2.1 90 = .ok (.aload_n 0, 1) := by decide +kernel
theorem d_Mo_writeCue_91 : decode M_Mo_writeCue.2.1 91 = .ok (.getfield 24, 3) := by decide +kernel
theorem d_Mo_writeCue_94 : decode M_Mo_writeCue.2.1 94 = .ok (.iload_n 1, 1) := by decide +kernel
theorem d_Mo_writeCue_95 : decode M_Mo_writeCue.2.1 95 = .ok (.laload, 1) := by decide +kernel
theorem d_Mo_writeCue_96 : decode M_Mo_writeCue.2.1 96 = .ok (.invokevirtual 210, 3) := by decide +kernel
theorem d_Mo_writeCue_99 : decode M_Mo_writeCue.2.1 99 = .ok (.aload_n 0, 1) := by decide +kernel
theorem d_Mo_writeCue_100 : decode M_Mo_writeCue.2.1 100 = .ok (.aload_n 0, 1) := by decide +kernel
theorem d_Mo_writeCue_101 : decode M_Mo_writeCue.2.1 101 = .ok (.getfield 27, 3) := by decide +kernel
theorem d_Mo_writeCue_104 : decode M_Mo_writeCue.2.1 104 = .ok (.iload_n 1, 1) := by decide +kernel
theorem d_Mo_writeCue_105 : decode M_Mo_writeCue.2.1 105 = .ok (.iaload, 1) := by decide +kernel
theorem d_Mo_writeCue_106 : decode M_Mo_writeCue.2.1 106 = .ok (.invokevirtual 186, 3) := by decide +kernel
theorem d_Mo_writeCue_109 : decode M_Mo_writeCue.2.1 109 = .ok (.iconst 0, 1) := by decide +kernel
theorem d_Mo_writeCue_110 : decode M_Mo_writeCue.2.1 110 = .ok (.istore_n 3, 1) := by decide +kernel
theorem d_Mo_writeCue_111 : decode M_Mo_writeCue.2.1 111 = .ok (.iload_n 3, 1) := by decide +kernel
theorem d_Mo_writeCue_112 : decode M_Mo_writeCue.2.1 112 = .ok (.aload_n 0, 1) := by decide +kernel
theorem d_Mo_writeCue_113 : decode M_Mo_writeCue.2.1 113 = .ok (.getfield 27, 3) := by decide +kernel
theorem d_Mo_writeCue_116 : decode M_Mo_writeCue.2.1 116 = .ok (.iload_n 1, 1) := by decide +kernel
theorem d_Mo_writeCue_117 : decode M_Mo_writeCue.2.1 117 = .ok (.iaload, 1) := by decide +kernel
theorem d_Mo_writeCue_118 : decode M_Mo_writeCue.2.1 118 = .ok (.if_icmp .ge 45, 3) := by decide +kernel
theorem d_Mo_writeCue_121 : decode M_Mo_writeCue.2.1 121 = .ok (.aload_n 0, 1) := by decide +kernel
theorem d_Mo_writeCue_122 : decode M_Mo_writeCue.2.1 122 = .ok (.getfield 30, 3) := by decide +kernel
theorem d_Mo_writeCue_125 : decode M_Mo_writeCue.2.1 125 = .ok (.bipush 64, 2) := by decide +kernel
theorem d_Mo_writeCue_127 : decode M_Mo_writeCue.2.1 127 = .ok (.iload_n 1, 1) := by decide +kernel
theorem d_Mo_writeCue_128 : decode M_Mo_writeCue.2.1 128 = .ok (.imul, 1) := by decide +kernel
theorem d_Mo_writeCue_129 : decode M_Mo_writeCue.2.1 129 = .ok (.iload_n 3, 1) := by decide +kernel
theorem d_Mo_writeCue_130 : decode M_Mo_writeCue.2.1 130 = .ok (.iadd, 1) := by decide +kernel
theorem d_Mo_writeCue_131 : decode M_Mo_writeCue.2.1 131 = .ok (.iaload, 1) := by decide +kernel
theorem d_Mo_writeCue_132 : decode M_Mo_writeCue.2.1 132 = .ok (.istore 4, 2) := by decide +kernel
theorem d_Mo_writeCue_134 : decode M_Mo_writeCue.2.1 134 = .ok (.aload_n 0, 1) := by decide +kernel
theorem d_Mo_writeCue_135 : decode M_Mo_writeCue.2.1 135 = .ok (.iload_n 2, 1) := by decide +kernel
theorem d_Mo_writeCue_136 : decode M_Mo_writeCue.2.1 136 = .ok (.iconst 1, 1) := by decide +kernel
theorem d_Mo_writeCue_137 : decode M_Mo_writeCue.2.1 137 = .ok (.if_icmp .ne 15, 3) := by decide +kernel
theorem d_Mo_writeCue_140 : decode M_Mo_writeCue.2.1 140 = .ok (.iload 4, 2) := by decide +kernel
theorem d_Mo_writeCue_142 : decode M_Mo_writeCue.2.1 142 = .ok (.bipush 10, 2) := by decide +kernel
theorem d_Mo_writeCue_144 : decode M_Mo_writeCue.2.1 144 = .ok (.if_icmp .ne 8, 3) := by decide +kernel
theorem d_Mo_writeCue_147 : decode M_Mo_writeCue.2.1 147 = .ok (.bipush 124, 2) := by decide +kernel
theorem d_Mo_writeCue_149 : decode M_Mo_writeCue.2.1 149 = .ok (.goto 5, 3) := by decide +kernel
theorem d_Mo_writeCue_152 : decode M_Mo_writeCue.2.1 152 = .ok (.iload 4, 2) := by decide +kernel
theorem d_Mo_writeCue_154 : decode M_Mo_writeCue.2.1 154 = .ok (.invokevirtual 186, 3) := by decide +kernel
theorem d_Mo_writeCue_157 : decode M_Mo_writeCue.2.1 157 = .ok (.iinc 3 1, 3) := by decide +kernel
theorem d_Mo_writeCue_160 : decode M_Mo_writeCue.2.1 160 = .ok (.goto (-49), 3) := by decide +kernel
theorem d_Mo_writeCue_163 : decode M_Mo_writeCue.2.1 163 = .ok (.iload_n 2, 1) := by decide +kernel
theorem d_Mo_writeCue_164 : decode M_Mo_writeCue.2.1 164 = .ok (.iconst 2, 1) := by decide +kernel
theorem d_Mo_writeCue_165 : decode M_Mo_writeCue.2.1 165 = .ok (.if_icmp .eq 9, 3) := by decide +kernel
theorem d_Mo_writeCue_168 : decode M_Mo_writeCue.2.1 168 = .ok (.aload_n 0, 1) := by decide +kernel
theorem d_Mo_writeCue_169 : decode M_Mo_writeCue.2.1 169 = .ok (.bipush 10, 2) := by decide +kernel
theorem d_Mo_writeCue_171 : decode M_Mo_writeCue.2.1 171 = .ok (.invokevirtual 186, 3) := by decide +kernel
theorem d_Mo_writeCue_174 : decode M_Mo_writeCue.2.1 174 = .ok (.iload_n 2, 1) := by decide +kernel
theorem d_Mo_writeCue_175 : decode M_Mo_writeCue.2.1 175 = .ok (.ifCond .ne 9, 3) := by decide +kernel
theorem d_Mo_writeCue_178 : decode M_Mo_writeCue.2.1 178 = .ok (.aload_n 0, 1) := by decide +kernel
theorem d_Mo_writeCue_179 : decode M_Mo_writeCue.2.1 179 = .ok (.bipush 10, 2) := by decide +kernel
theorem d_Mo_writeCue_181 : decode M_Mo_writeCue.2.1 181 = .ok (.invokevirtual 186, 3) := by decide +kernel
theorem d_Mo_writeCue_184 : decode M_Mo_writeCue.2.1 184 = .ok (.return_, 1) := by decide +kernel
theorem d_Mo_write_0 : decode M_Mo_write.2.1 0 = .ok (.iload_n 1, 1) := by decide +kernel
theorem d_Mo_write_1 : decode M_Mo_write.2.1 1 = .ok (.ifCond .lt 8, 3) := by decide +kernel
theorem d_Mo_write_4 : decode M_Mo_write.2.1 4 = .ok (.iload_n 1, 1) := by decide +kernel
theorem d_Mo_write_5 : decode M_Mo_write.2.1 5 = .ok (.iconst 2, 1) := by decide +kernel
theorem d_Mo_write_6 : decode M_Mo_write.2.1 6 = .ok (.if_icmp .le 6, 3) := by decide +kernel
theorem d_Mo_write_9 : decode M_Mo_write.2.1 9 = .ok (.bipush (-2), 2) := by decide +kernel
theorem d_Mo_write_11 : decode M_Mo_write.2.1 11 = .ok (.ireturn, 1) := by decide +kernel
theorem d_Mo_write_12 : decode M_Mo_write.2.1 12 = .ok (.iconst 0, 1) := by decide +kernel
theorem d_Mo_write_13 : decode M_Mo_write.2.1 13 = .ok (.istore_n 2, 1) := by decide +kernel
theorem d_Mo_write_14 : decode M_Mo_write.2.1 14 = .ok (.iload_n 2, 1) := by decide +kernel
theorem d_Mo_write_15 : decode M_Mo_write.2.1 15 = .ok (.iconst 2, 1) := by decide +kernel
theorem d_Mo_write_16 : decode M_Mo_write.2.1 16 = .ok (.if_icmp .ge 62, 3) := by decide +kernel
theorem d_Mo_write_19 : decode M_Mo_write.2.1 19 = .ok (.aload_n 0, 1) := by decide +kernel
theorem d_Mo_write_20 : decode M_Mo_write.2.1 20 = .ok (.iload_n 2, 1) := by decide +kernel
theorem d_Mo_write_21 : decode M_Mo_write.2.1 21 = .ok (.ifCond .ne 7, 3) := by decide +kernel
theorem d_Mo_write_24 : decode M_Mo_write.2.1 24 = .ok (.iconst 1, 1) := by decide +kernel
theorem d_Mo_write_25 : decode M_Mo_write.2.1 25 = .ok (.goto 4, 3) := by decide +kernel
theorem d_Mo_write_28 : decode M_Mo_write.2.1 28 = .ok (.iconst 0, 1) := by decide +kernel
theorem d_Mo_write_29 : decode M_Mo_write.2.1 29 = .ok (.putfield 179, 3) := by decide +kernel
theorem d_Mo_write_32 : decode M_Mo_write.2.1 32 = .ok (.aload_n 0, 1) := by decide +kernel
theorem d_Mo_write_33 : decode M_Mo_write.2.1 33 = .ok (.iconst 0, 1) := by decide +kernel
theorem d_Mo_write_34 : decode M_Mo_write.2.1 34 = .ok (.putfield 183, 3) := by decide +kernel
theorem d_Mo_write_37 : decode M_Mo_write.2.1 37 = .ok (.iconst 0, 1) := by decide +kernel
theorem d_Mo_write_38 : decode M_Mo_write.2.1 38 = .ok (.istore_n 3, 1) := by decide +kernel
theorem d_Mo_write_39 : decode M_Mo_write.2.1 39 = .ok (.iload_n 3, 1) := by decide +kernel
theorem d_Mo_write_40 : decode M_Mo_write.2.1 40 = .ok (.aload_n 0, 1) := by decide +kernel
theorem d_Mo_write_41 : decode M_Mo_write.2.1 41 = .ok (.getfield 92, 3) := by decide +kernel
theorem d_Mo_write_44 : decode M_Mo_write.2.1 44 = .ok (.if_icmp .ge 15, 3) := by decide +kernel
theorem d_Mo_write_47 : decode M_Mo_write.2.1 47 = .ok (.aload_n 0, 1) := by decide +kernel
theorem d_Mo_write_48 : decode M_Mo_write.2.1 48 = .ok (.iload_n 3, 1) := by decide +kernel
theorem d_Mo_write_49 : decode M_Mo_write.2.1 49 = .ok (.iload_n 1, 1) := by decide +kernel
theorem d_Mo_write_50 : decode M_Mo_write.2.1 50 = .ok (.invokevirtual 213, 3) := by decide +kernel
theorem d_Mo_write_53 : decode M_Mo_write.2.1 53 = .ok (.iinc 3 1, 3) := by decide +kernel
theorem d_Mo_write_56 : decode M_Mo_write.2.1 56 = .ok (.goto (-17), 3) := by decide +kernel
theorem d_Mo_write_59 : decode M_Mo_write.2.1 59 = .ok (.aload_n 0, 1) := by decide +kernel
theorem d_Mo_write_60 : decode M_Mo_write.2.1 60 = .ok (.getfield 183, 3) := by decide +kernel
theorem d_Mo_write_63 : decode M_Mo_write.2.1 63 = .ok (.sipush 1000, 3) := by decide +kernel
theorem d_Mo_write_66 : decode M_Mo_write.2.1 66 = .ok (.if_icmp .le 6, 3) := by decide +kernel
theorem d_Mo_write_69 : decode M_Mo_write.2.1 69 = .ok (.bipush (-3), 2) := by decide +kernel
theorem d_Mo_write_71 : decode M_Mo_write.2.1 71 = .ok (.ireturn, 1) := by decide +kernel
theorem d_Mo_write_72 : decode M_Mo_write.2.1 72 = .ok (.iinc 2 1, 3) := by decide +kernel
theorem d_Mo_write_75 : decode M_Mo_write.2.1 75 = .ok (.goto (-61), 3) := by decide +kernel
theorem d_Mo_write_78 : decode M_Mo_write.2.1 78 = .ok (.aload_n 0, 1) := by decide +kernel
theorem d_Mo_write_79 : decode M_Mo_write.2.1 79 = .ok (.aload_n 0, 1) := by decide +kernel
theorem d_Mo_write_80 : decode M_Mo_write.2.1 80 = .ok (.getfield 183, 3) := by decide +kernel
theorem d_Mo_write_83 : decode M_Mo_write.2.1 83 = .ok (.putfield 95, 3) := by decide +kernel
theorem d_Mo_write_86 : decode M_Mo_write.2.1 86 = .ok (.aload_n 0, 1) := by decide +kernel
theorem d_Mo_write_87 : decode M_Mo_write.2.1 87 = .ok (.getfield 95, 3) := by decide +kernel
theorem d_Mo_write_90 : decode M_Mo_write.2.1 90 = .ok (.ireturn, 1) := by decide +kernel
def bufC (cn : Int) (F : Nat → Int) (L : List Int) : Nat → Int := if cn = 1 then F else pL F L
theorem bufC_1 {cn : Int} {F : Nat → Int} {L : List Int} (h : cn = 1) : bufC cn F L = F := if_pos h
theorem bufC_0 {cn : Int} {F : Nat → Int} {L : List Int} (h : cn ≠ 1) : bufC cn F L = pL F L := if_neg h
theorem tenZ_s {q : Nat} (h : q < 5) : 10 * tenZ q = tenZ (q + 1) := by
  have : q = 0 ∨ q = 1 ∨ q = 2 ∨ q = 3 ∨ q = 4 := by omega
  rcases this with rfl | rfl | rfl | rfl | rfl <;> rfl
theorem tenZ_d {q : Nat} (h0 : 1 ≤ q) (h : q < 6) : tenZ q / 10 = tenZ (q - 1) := by
  have : q = 1 ∨ q = 2 ∨ q = 3 ∨ q = 4 ∨ q = 5 := by omega
  rcases this with rfl | rfl | rfl | rfl | rfl <;> rfl
set_option maxHeartbeats 4000000 in
set_option maxRecDepth 100000 in
theorem c_Mo_write1 (G : GT) (h : HM) (σ : Nat → Value) (m bu : Nat) (F : Nat → Int) (cn : Int) (L : List Int) (x : Int) (hm : h m = some (.inr (11, fsN 34 σ))) (f1 : σ 1 = .ref bu) (f23 : σ 23 = .int (iZ ((L).length : Int))) (f24 : σ 24 = .int (iZ cn)) (hbu : h bu = some (.inl (G_i G, 1000, .inl (iA (bufC cn F (L)))))) (hcn : cn = 0 ∨ cn = 1) (hlen : (cn = 1 ∨ L.length + (1) ≤ 1000) ∧ L.length + (1) ≤ 2000) : Rn G M_Mo_write1 (rm 0 0) [.ref m, .int (iZ x)] h (fun r h' => r = none ∧ (∃ σ', h' m = some (.inr (11, fsN 34 σ')) ∧ σ' 23 = .int (iZ ((L ++ [x]).length : Int)) ∧ Fs [23] σ σ') ∧ h' bu = some (.inl (G_i G, 1000, .inl (iA (bufC cn F (L ++ [x]))))) ∧ Fm [m, bu] h h') := by
  refine rn_of (by decide) (Nat.le_of_ble_eq_true rfl) ?_
  show Ev G M_Mo_write1 _ _ 0 [(0, .ref m), (1, .int (iZ x))] [] _ 0 0
  have fm : Fm [m, bu] h h := Fm.rf
  have fs : Fs [23] σ σ := Fs.rf
  refine ev_aload_n d_Mo_write1_0 rfl rfl ?_
  refine ev_getF d_Mo_write1_1 fl_Mo_179 hm (by decide) f24 ?_
  refine ez_if_ne (tgt := 17) (by omega) d_Mo_write1_4 rfl (fun c4 => ?_) (fun c4 => ?_)
  · refine ev_aload_n d_Mo_write1_17 rfl rfl ?_
    refine ev_dup d_Mo_write1_18 rfl ?_
    refine ev_getF d_Mo_write1_19 fl_Mo_183 hm (by decide) f23 ?_
    refine ev_iconst (v := iZ 1) d_Mo_write1_22 rfl ?_
    refine ez_iadd d_Mo_write1_23 ?_
    rw [show (((L).length : Int) + 1 : Int) = ((L ++ [x]).length : Int) from by simp]
    refine ev_putF2 d_Mo_write1_24 fw_Mo_183 (Or.inr (fun _ _ _ q => by cases q; rfl)) hm (by decide) rfl rfl (fun h1 σ2 h1a σ2j σ2o h1o => ?_)
    have f1 := (σ2o 1 (by decide)).trans f1
    have f24 := (σ2o 24 (by decide)).trans f24
    have f23 := σ2j
    have fs := fs.step (by simp) σ2o
    have hbu := (h1o _ (cne hbu hm (by simp))).trans hbu
    have hm := h1a
    have fm := fm.step (by simp) h1o
    exact ev_return d_Mo_write1_27 rfl (by decide) (by decide) (⟨rfl, ⟨σ2, hm, f23, fs⟩, by rw [bufC_1 (by omega)]; rw [bufC_1 (by omega)] at hbu; exact hbu, fm⟩)
  · refine ev_aload_n d_Mo_write1_7 rfl rfl ?_
    refine ev_getF d_Mo_write1_8 fl_Mo_7 hm (by decide) f1 ?_
    refine ev_aload_n d_Mo_write1_11 rfl rfl ?_
    refine ev_getF d_Mo_write1_12 fl_Mo_183 hm (by decide) f23 ?_
    refine ev_iload_n d_Mo_write1_15 rfl rfl ?_
    refine ez_iastore (F' := zup (bufC cn F (L)) L.length x) L.length d_Mo_write1_16 hbu (by omega) (by omega) (by decide) rfl (fun h3 h3a h3o => ?_)
    have hm := (h3o _ (cne hm hbu (by simp))).trans hm
    have hbu := h3a
    have fm := fm.step (by simp) h3o
    refine ev_aload_n d_Mo_write1_17 rfl rfl ?_
    refine ev_dup d_Mo_write1_18 rfl ?_
    refine ev_getF d_Mo_write1_19 fl_Mo_183 hm (by decide) f23 ?_
    refine ev_iconst (v := iZ 1) d_Mo_write1_22 rfl ?_
    refine ez_iadd d_Mo_write1_23 ?_
    rw [show (((L).length : Int) + 1 : Int) = ((L ++ [x]).length : Int) from by simp]
    refine ev_putF2 d_Mo_write1_24 fw_Mo_183 (Or.inr (fun _ _ _ q => by cases q; rfl)) hm (by decide) rfl rfl (fun h4 σ5 h4a σ5j σ5o h4o => ?_)
    have f1 := (σ5o 1 (by decide)).trans f1
    have f24 := (σ5o 24 (by decide)).trans f24
    have f23 := σ5j
    have fs := fs.step (by simp) σ5o
    have hbu := (h4o _ (cne hbu hm (by simp))).trans hbu
    have hm := h4a
    have fm := fm.step (by simp) h4o
    exact ev_return d_Mo_write1_27 rfl (by decide) (by decide) (⟨rfl, ⟨σ5, hm, f23, fs⟩, by rw [bufC_0 (by omega), ← pL_s]; rw [bufC_0 (by omega)] at hbu; exact hbu, fm⟩)
set_option maxHeartbeats 4000000 in
set_option maxRecDepth 100000 in
theorem lp_Mo_wd1 (G : GT) (Q : Option Value → HM → Prop) (h : HM) (m : Nat) (v : Int) (d0 : Nat) (hd0 : d0 ≤ 6) (kk : ∀ q : Nat, q + 1 = d0 → Ev G M_Mo_writeDigits (rm 1 22) Q 26 [(0, .ref m), (1, .long (lZ v)), (3, .int (iZ (d0 : Int))), (4, .long (lZ (tenZ q))), (6, .int (iZ ((q + 1 : Nat) : Int)))] [] h 0 0) : ∀ (d : Nat) (q : Nat), q + 1 + d = d0 → Ev G M_Mo_writeDigits (rm 1 22) (Q) 6 [(0, .ref m), (1, .long (lZ v)), (3, .int (iZ (d0 : Int))), (4, .long (lZ (tenZ q))), (6, .int (iZ ((q + 1 : Nat) : Int)))] [] h 0 0 := by
  intro d
  induction d using Nat.strongRecOn with
  | ind d ih =>
  intro q hd
  refine ev_iload d_Mo_writeDigits_6 rfl ?_
  refine ev_iload_n d_Mo_writeDigits_8 rfl rfl ?_
  refine ez_icmp_ge (tgt := 26) (by omega) (by omega) d_Mo_writeDigits_9 rfl (fun c9 => ?_) (fun c9 => ?_)
  · exact kk q (by omega)
  · refine ev_ldc2 (v := lZ 10) d_Mo_writeDigits_12 kc_Mo_130 ?_
    refine ev_lload d_Mo_writeDigits_15 rfl ?_
    refine ez_lmul d_Mo_writeDigits_17 ?_
    rw [show (10 * (tenZ q) : Int) = tenZ (q + 1) from tenZ_s (by omega)]
    refine ev_lstore (L' := [(0, .ref m), (1, .long (lZ v)), (3, .int (iZ (d0 : Int))), (4, .long (lZ (tenZ (q + 1)))), (6, .int (iZ ((q + 1 : Nat) : Int)))]) d_Mo_writeDigits_18 (by decide) rfl ?_
    refine ez_iinc (L' := [(0, .ref m), (1, .long (lZ v)), (3, .int (iZ (d0 : Int))), (4, .long (lZ (tenZ (q + 1)))), (6, .int (iZ ((q + 1 + 1 : Nat) : Int)))]) d_Mo_writeDigits_20 rfl (by decide) rfl ?_
    refine ev_goto (tgt := 6) d_Mo_writeDigits_23 rfl ?_
    exact ih (d - 1) (by omega) (q + 1) (by omega)
set_option maxHeartbeats 4000000 in
set_option maxRecDepth 100000 in
theorem lp_Mo_wd2 (G : GT) (h0 : HM) (σ0 : Nat → Value) (m bu : Nat) (F : Nat → Int) (cn : Int) (L : List Int) (v : Int) (d0 : Nat) (hv : 0 ≤ v ∧ v ≤ 1000000000) (hd0 : d0 ≤ 6) (hcn : cn = 0 ∨ cn = 1) (hlen : (cn = 1 ∨ L.length + (d0) ≤ 1000) ∧ L.length + (d0) ≤ 2000) : ∀ (d : Nat) (r : Nat) (h : HM) (σ : Nat → Value) (LL : List Int) (tt : Int), r = d → r ≤ d0 → (1 ≤ r → tt = tenZ (r - 1)) → LL ++ dgL v r = L ++ dgL v d0 → h m = some (.inr (11, fsN 34 σ)) → σ 1 = .ref bu → σ 23 = .int (iZ ((LL).length : Int)) → σ 24 = .int (iZ cn) → h bu = some (.inl (G_i G, 1000, .inl (iA (bufC cn F (LL))))) → Fm [m, bu] h0 h → Fs [23] σ0 σ → Ev G M_Mo_writeDigits (rm 1 22) (fun r h' => r = none ∧ (∃ σ', h' m = some (.inr (11, fsN 34 σ')) ∧ σ' 23 = .int (iZ ((L ++ dgL v d0).length : Int)) ∧ Fs [23] σ0 σ') ∧ h' bu = some (.inl (G_i G, 1000, .inl (iA (bufC cn F (L ++ dgL v d0))))) ∧ Fm [m, bu] h0 h') 29 [(0, .ref m), (1, .long (lZ v)), (3, .int (iZ (d0 : Int))), (4, .long (lZ tt)), (6, .int (iZ ((d0 - r : Nat) : Int)))] [] h 0 0 := by
  intro d
  induction d using Nat.strongRecOn with
  | ind d ih =>
  intro r h σ LL tt hd hr htt hLL hm f1 f23 f24 hbu fm fs
  refine ev_iload d_Mo_writeDigits_29 rfl ?_
  refine ev_iload_n d_Mo_writeDigits_31 rfl rfl ?_
  refine ez_icmp_ge (tgt := 65) (by omega) (by omega) d_Mo_writeDigits_32 rfl (fun c32 => ?_) (fun c32 => ?_)
  · exact ev_return d_Mo_writeDigits_65 rfl (by decide) (by decide) (⟨rfl, ⟨σ, hm, by rw [show r = 0 by omega] at hLL; rw [← hLL]; simp only [dgL, List.append_nil]; exact f23, fs⟩, by rw [show r = 0 by omega] at hLL; rw [← hLL]; simp only [dgL, List.append_nil]; exact hbu, fm⟩)
  · obtain ⟨r, rfl⟩ : ∃ q : Nat, r = q + 1 := ⟨r - 1, by omega⟩
    have rt := tenZ_r r
    obtain rfl : tt = tenZ r := htt (by omega)
    have rq := Int.ediv_nonneg hv.1 (show 0 ≤ tenZ r by omega)
    have rq2 := Int.ediv_le_self (tenZ r) hv.1
    have hl9 := congrArg List.length hLL
    rw [dgL] at hLL
    simp only [List.length_append, dgL_l] at hl9
    refine ev_aload_n d_Mo_writeDigits_35 rfl rfl ?_
    refine ev_bipush (v := iZ 48) d_Mo_writeDigits_36 rfl ?_
    refine ev_lload_n d_Mo_writeDigits_38 rfl rfl ?_
    refine ev_lload d_Mo_writeDigits_39 rfl ?_
    refine ez_ldiv (by omega) (by omega) (by omega) (by omega) d_Mo_writeDigits_41 ?_
    refine ev_ldc2 (v := lZ 10) d_Mo_writeDigits_42 kc_Mo_130 ?_
    refine ez_lrem (by omega) (by omega) (by omega) (by omega) d_Mo_writeDigits_45 ?_
    refine ez_l2i d_Mo_writeDigits_46 ?_
    refine ez_iadd d_Mo_writeDigits_47 ?_
    refine ev_callV M_Mo_write1 (rm 0 0) _ (As := [.int (iZ (48 + ((v / (tenZ r)) % 10)))]) (c_Mo_write1 G h σ m bu F cn (LL) (48 + ((v / (tenZ r)) % 10)) hm f1 f23 f24 hbu hcn (by first | omega | (simp only [List.length_append, List.length_cons, List.length_nil, dgL_l, txL_l, oTime_l, oFr_l, sixL_l]; omega))) d_Mo_writeDigits_48 mk_Mo_write1 ml_Mo_186 mv_Mo_write1 hm rfl rfl rfl (Nat.le_of_ble_eq_true rfl) ⟨by decide, by decide⟩ ⟨by decide, by decide⟩ (fun r h1 hq => ?_)
    obtain ⟨rfl, ⟨σ2, gm, g23, gs⟩, gbu, fmc⟩ := hq
    have f1 := (gs 1 (by decide)).trans f1
    have f24 := (gs 24 (by decide)).trans f24
    have f23 := g23
    have hm := gm
    have hbu := gbu
    have fm := fm.call (by simp) fmc
    have fs := fs.call (by simp) gs
    refine ev_lload d_Mo_writeDigits_51 rfl ?_
    refine ev_ldc2 (v := lZ 10) d_Mo_writeDigits_53 kc_Mo_130 ?_
    refine ez_ldiv (by omega) (by omega) (by omega) (by omega) d_Mo_writeDigits_56 ?_
    refine ev_lstore (L' := [(0, .ref m), (1, .long (lZ v)), (3, .int (iZ (d0 : Int))), (4, .long (lZ ((tenZ r) / 10))), (6, .int (iZ ((d0 - (r + 1) : Nat) : Int)))]) d_Mo_writeDigits_57 (by decide) rfl ?_
    refine ez_iinc (L' := [(0, .ref m), (1, .long (lZ v)), (3, .int (iZ (d0 : Int))), (4, .long (lZ ((tenZ r) / 10))), (6, .int (iZ (((d0 - (r + 1) : Nat) : Int) + 1)))]) d_Mo_writeDigits_59 rfl (by decide) rfl ?_
    refine ev_goto (tgt := 29) d_Mo_writeDigits_62 rfl ?_
    rw [show ((d0 - (r + 1) : Nat) : Int) + 1 = ((d0 - r : Nat) : Int) from by omega]
    exact ih (d - 1) (by omega) r h1 σ2 (LL ++ [48 + ((v / (tenZ r)) % 10)]) (tenZ r / 10) (by omega) (by omega) (fun q => tenZ_d q (by omega)) (by rw [List.append_assoc]; exact hLL) hm f1 f23 f24 hbu fm fs
set_option maxHeartbeats 4000000 in
set_option maxRecDepth 100000 in
theorem c_Mo_writeDigits (G : GT) (h : HM) (σ : Nat → Value) (m bu : Nat) (F : Nat → Int) (cn : Int) (L : List Int) (v : Int) (d0 : Nat) (hm : h m = some (.inr (11, fsN 34 σ))) (f1 : σ 1 = .ref bu) (f23 : σ 23 = .int (iZ ((L).length : Int))) (f24 : σ 24 = .int (iZ cn)) (hbu : h bu = some (.inl (G_i G, 1000, .inl (iA (bufC cn F (L)))))) (hv : 0 ≤ v ∧ v ≤ 1000000000) (hd0 : 1 ≤ d0) (hd6 : d0 ≤ 6) (hcn : cn = 0 ∨ cn = 1) (hlen : (cn = 1 ∨ L.length + (d0) ≤ 1000) ∧ L.length + (d0) ≤ 2000) : Rn G M_Mo_writeDigits (rm 1 22) [.ref m, .long (lZ v), .int (iZ (d0 : Int))] h (fun r h' => r = none ∧ (∃ σ', h' m = some (.inr (11, fsN 34 σ')) ∧ σ' 23 = .int (iZ ((L ++ dgL v d0).length : Int)) ∧ Fs [23] σ σ') ∧ h' bu = some (.inl (G_i G, 1000, .inl (iA (bufC cn F (L ++ dgL v d0))))) ∧ Fm [m, bu] h h') := by
  refine rn_of (by decide) (Nat.le_of_ble_eq_true rfl) ?_
  show Ev G M_Mo_writeDigits _ _ 0 [(0, .ref m), (1, .long (lZ v)), (3, .int (iZ (d0 : Int)))] [] _ 0 0
  refine ev_lconst (v := lZ 1) d_Mo_writeDigits_0 rfl ?_
  refine ev_lstore (L' := [(0, .ref m), (1, .long (lZ v)), (3, .int (iZ (d0 : Int))), (4, .long (lZ 1))]) d_Mo_writeDigits_1 (by decide) rfl ?_
  refine ev_iconst (v := iZ 1) d_Mo_writeDigits_3 rfl ?_
  refine ev_istore (L' := [(0, .ref m), (1, .long (lZ v)), (3, .int (iZ (d0 : Int))), (4, .long (lZ 1)), (6, .int (iZ 1))]) d_Mo_writeDigits_4 (by decide) rfl ?_
  refine lp_Mo_wd1 G _ h m v d0 hd6 (fun q hq => ?_) (d0 - 1) 0 (by omega)
  refine ev_iconst (v := iZ 0) d_Mo_writeDigits_26 rfl ?_
  refine ev_istore (L' := [(0, .ref m), (1, .long (lZ v)), (3, .int (iZ (d0 : Int))), (4, .long (lZ (tenZ q))), (6, .int (iZ 0))]) d_Mo_writeDigits_27 (by decide) rfl ?_
  rw [show (0 : Int) = ((d0 - d0 : Nat) : Int) from by omega]
  exact lp_Mo_wd2 G h σ m bu F cn L v d0 hv hd6 hcn hlen d0 d0 h σ L (tenZ q) rfl (by omega) (fun _ => by rw [show d0 - 1 = q by omega]) rfl hm f1 f23 f24 hbu Fm.rf Fs.rf
set_option maxHeartbeats 4000000 in
set_option maxRecDepth 100000 in
theorem c_Mo_writeClock (G : GT) (h : HM) (σ : Nat → Value) (m bu : Nat) (F : Nat → Int) (cn : Int) (L : List Int) (t : Int) (hm : h m = some (.inr (11, fsN 34 σ))) (f1 : σ 1 = .ref bu) (f23 : σ 23 = .int (iZ ((L).length : Int))) (f24 : σ 24 = .int (iZ cn)) (hbu : h bu = some (.inl (G_i G, 1000, .inl (iA (bufC cn F (L)))))) (ht : 0 ≤ t ∧ t ≤ 2540160000000) (hcn : cn = 0 ∨ cn = 1) (hlen : (cn = 1 ∨ L.length + (12) ≤ 1000) ∧ L.length + (12) ≤ 2000) : Rn G M_Mo_writeClock (rm 2 60) [.ref m, .long (lZ t)] h (fun r h' => r = none ∧ (∃ σ', h' m = some (.inr (11, fsN 34 σ')) ∧ σ' 23 = .int (iZ ((L ++ oTime t).length : Int)) ∧ Fs [23] σ σ') ∧ h' bu = some (.inl (G_i G, 1000, .inl (iA (bufC cn F (L ++ oTime t))))) ∧ Fm [m, bu] h h') := by
  refine rn_of (by decide) (Nat.le_of_ble_eq_true rfl) ?_
  show Ev G M_Mo_writeClock _ _ 0 [(0, .ref m), (1, .long (lZ t))] [] _ 0 0
  have fm : Fm [m, bu] h h := Fm.rf
  have fs : Fs [23] σ σ := Fs.rf
  refine ev_lload_n d_Mo_writeClock_0 rfl rfl ?_
  refine ev_ldc2 (v := lZ 705600) d_Mo_writeClock_1 kc_Mo_132 ?_
  have rv := tho_r ht
  refine ev_pS M_Mo_nearest 0 0 (As := [.long (lZ t), .long (lZ 705600)]) (c_Mo_nearest G h t 705600 (by omega) (by omega)) d_Mo_writeClock_4 mk_Mo_nearest ml_Mo_189 ms_Mo_nearest rfl rfl (Nat.le_of_ble_eq_true rfl) ⟨by decide, by decide⟩ ⟨by decide, by decide⟩ ?_
  refine ev_lstore_n (L' := [(0, .ref m), (1, .long (lZ t)), (3, .long (lZ (nearZ t 705600)))]) d_Mo_writeClock_7 rfl (by decide) rfl ?_
  refine ev_aload_n d_Mo_writeClock_8 rfl rfl ?_
  refine ev_lload_n d_Mo_writeClock_9 rfl rfl ?_
  refine ev_ldc2 (v := lZ 3600000) d_Mo_writeClock_10 kc_Mo_193 ?_
  refine ez_ldiv (by omega) (by omega) (by omega) (by omega) d_Mo_writeClock_13 ?_
  refine ev_iconst (v := iZ 2) d_Mo_writeClock_14 rfl ?_
  refine ev_callV M_Mo_writeDigits (rm 1 22) _ (As := [.long (lZ ((nearZ t 705600) / 3600000)), .int (iZ 2)]) (c_Mo_writeDigits G h σ m bu F cn (L) ((nearZ t 705600) / 3600000) 2 hm f1 f23 f24 hbu (by omega) (by decide) (by decide) hcn (by first | omega | (simp only [List.length_append, List.length_cons, List.length_nil, dgL_l, txL_l, oTime_l, oFr_l, sixL_l]; omega))) d_Mo_writeClock_15 mk_Mo_writeDigits ml_Mo_195 mv_Mo_writeDigits hm rfl rfl rfl (Nat.le_of_ble_eq_true rfl) ⟨by decide, by decide⟩ ⟨by decide, by decide⟩ (fun r h1 hq => ?_)
  obtain ⟨rfl, ⟨σ2, gm, g23, gs⟩, gbu, fmc⟩ := hq
  have f1 := (gs 1 (by decide)).trans f1
  have f24 := (gs 24 (by decide)).trans f24
  have f23 := g23
  have hm := gm
  have hbu := gbu
  have fm := fm.call (by simp) fmc
  have fs := fs.call (by simp) gs
  refine ev_aload_n d_Mo_writeClock_18 rfl rfl ?_
  refine ev_bipush (v := iZ 58) d_Mo_writeClock_19 rfl ?_
  refine ev_callV M_Mo_write1 (rm 0 0) _ (As := [.int (iZ 58)]) (c_Mo_write1 G h1 σ2 m bu F cn (L ++ dgL ((nearZ t 705600) / 3600000) 2) (58) hm f1 f23 f24 hbu hcn (by first | omega | (simp only [List.length_append, List.length_cons, List.length_nil, dgL_l, txL_l, oTime_l, oFr_l, sixL_l]; omega))) d_Mo_writeClock_21 mk_Mo_write1 ml_Mo_186 mv_Mo_write1 hm rfl rfl rfl (Nat.le_of_ble_eq_true rfl) ⟨by decide, by decide⟩ ⟨by decide, by decide⟩ (fun r h3 hq => ?_)
  obtain ⟨rfl, ⟨σ4, gm, g23, gs⟩, gbu, fmc⟩ := hq
  have f1 := (gs 1 (by decide)).trans f1
  have f24 := (gs 24 (by decide)).trans f24
  have f23 := g23
  have hm := gm
  have hbu := gbu
  have fm := fm.call (by simp) fmc
  have fs := fs.call (by simp) gs
  refine ev_aload_n d_Mo_writeClock_24 rfl rfl ?_
  refine ev_lload_n d_Mo_writeClock_25 rfl rfl ?_
  refine ev_ldc2 (v := lZ 60000) d_Mo_writeClock_26 kc_Mo_199 ?_
  refine ez_ldiv (by omega) (by omega) (by omega) (by omega) d_Mo_writeClock_29 ?_
  refine ev_ldc2 (v := lZ 60) d_Mo_writeClock_30 kc_Mo_124 ?_
  refine ez_lrem (by omega) (by omega) (by omega) (by omega) d_Mo_writeClock_33 ?_
  refine ev_iconst (v := iZ 2) d_Mo_writeClock_34 rfl ?_
  refine ev_callV M_Mo_writeDigits (rm 1 22) _ (As := [.long (lZ (((nearZ t 705600) / 60000) % 60)), .int (iZ 2)]) (c_Mo_writeDigits G h3 σ4 m bu F cn (L ++ dgL ((nearZ t 705600) / 3600000) 2 ++ [58]) (((nearZ t 705600) / 60000) % 60) 2 hm f1 f23 f24 hbu (by omega) (by decide) (by decide) hcn (by first | omega | (simp only [List.length_append, List.length_cons, List.length_nil, dgL_l, txL_l, oTime_l, oFr_l, sixL_l]; omega))) d_Mo_writeClock_35 mk_Mo_writeDigits ml_Mo_195 mv_Mo_writeDigits hm rfl rfl rfl (Nat.le_of_ble_eq_true rfl) ⟨by decide, by decide⟩ ⟨by decide, by decide⟩ (fun r h5 hq => ?_)
  obtain ⟨rfl, ⟨σ6, gm, g23, gs⟩, gbu, fmc⟩ := hq
  have f1 := (gs 1 (by decide)).trans f1
  have f24 := (gs 24 (by decide)).trans f24
  have f23 := g23
  have hm := gm
  have hbu := gbu
  have fm := fm.call (by simp) fmc
  have fs := fs.call (by simp) gs
  refine ev_aload_n d_Mo_writeClock_38 rfl rfl ?_
  refine ev_bipush (v := iZ 58) d_Mo_writeClock_39 rfl ?_
  refine ev_callV M_Mo_write1 (rm 0 0) _ (As := [.int (iZ 58)]) (c_Mo_write1 G h5 σ6 m bu F cn (L ++ dgL ((nearZ t 705600) / 3600000) 2 ++ [58] ++ dgL (((nearZ t 705600) / 60000) % 60) 2) (58) hm f1 f23 f24 hbu hcn (by first | omega | (simp only [List.length_append, List.length_cons, List.length_nil, dgL_l, txL_l, oTime_l, oFr_l, sixL_l]; omega))) d_Mo_writeClock_41 mk_Mo_write1 ml_Mo_186 mv_Mo_write1 hm rfl rfl rfl (Nat.le_of_ble_eq_true rfl) ⟨by decide, by decide⟩ ⟨by decide, by decide⟩ (fun r h7 hq => ?_)
  obtain ⟨rfl, ⟨σ8, gm, g23, gs⟩, gbu, fmc⟩ := hq
  have f1 := (gs 1 (by decide)).trans f1
  have f24 := (gs 24 (by decide)).trans f24
  have f23 := g23
  have hm := gm
  have hbu := gbu
  have fm := fm.call (by simp) fmc
  have fs := fs.call (by simp) gs
  refine ev_aload_n d_Mo_writeClock_44 rfl rfl ?_
  refine ev_lload_n d_Mo_writeClock_45 rfl rfl ?_
  refine ev_ldc2 (v := lZ 1000) d_Mo_writeClock_46 kc_Mo_201 ?_
  refine ez_ldiv (by omega) (by omega) (by omega) (by omega) d_Mo_writeClock_49 ?_
  refine ev_ldc2 (v := lZ 60) d_Mo_writeClock_50 kc_Mo_124 ?_
  refine ez_lrem (by omega) (by omega) (by omega) (by omega) d_Mo_writeClock_53 ?_
  refine ev_iconst (v := iZ 2) d_Mo_writeClock_54 rfl ?_
  refine ev_callV M_Mo_writeDigits (rm 1 22) _ (As := [.long (lZ (((nearZ t 705600) / 1000) % 60)), .int (iZ 2)]) (c_Mo_writeDigits G h7 σ8 m bu F cn (L ++ dgL ((nearZ t 705600) / 3600000) 2 ++ [58] ++ dgL (((nearZ t 705600) / 60000) % 60) 2 ++ [58]) (((nearZ t 705600) / 1000) % 60) 2 hm f1 f23 f24 hbu (by omega) (by decide) (by decide) hcn (by first | omega | (simp only [List.length_append, List.length_cons, List.length_nil, dgL_l, txL_l, oTime_l, oFr_l, sixL_l]; omega))) d_Mo_writeClock_55 mk_Mo_writeDigits ml_Mo_195 mv_Mo_writeDigits hm rfl rfl rfl (Nat.le_of_ble_eq_true rfl) ⟨by decide, by decide⟩ ⟨by decide, by decide⟩ (fun r h9 hq => ?_)
  obtain ⟨rfl, ⟨σ10, gm, g23, gs⟩, gbu, fmc⟩ := hq
  have f1 := (gs 1 (by decide)).trans f1
  have f24 := (gs 24 (by decide)).trans f24
  have f23 := g23
  have hm := gm
  have hbu := gbu
  have fm := fm.call (by simp) fmc
  have fs := fs.call (by simp) gs
  refine ev_aload_n d_Mo_writeClock_58 rfl rfl ?_
  refine ev_bipush (v := iZ 44) d_Mo_writeClock_59 rfl ?_
  refine ev_callV M_Mo_write1 (rm 0 0) _ (As := [.int (iZ 44)]) (c_Mo_write1 G h9 σ10 m bu F cn (L ++ dgL ((nearZ t 705600) / 3600000) 2 ++ [58] ++ dgL (((nearZ t 705600) / 60000) % 60) 2 ++ [58] ++ dgL (((nearZ t 705600) / 1000) % 60) 2) (44) hm f1 f23 f24 hbu hcn (by first | omega | (simp only [List.length_append, List.length_cons, List.length_nil, dgL_l, txL_l, oTime_l, oFr_l, sixL_l]; omega))) d_Mo_writeClock_61 mk_Mo_write1 ml_Mo_186 mv_Mo_write1 hm rfl rfl rfl (Nat.le_of_ble_eq_true rfl) ⟨by decide, by decide⟩ ⟨by decide, by decide⟩ (fun r h11 hq => ?_)
  obtain ⟨rfl, ⟨σ12, gm, g23, gs⟩, gbu, fmc⟩ := hq
  have f1 := (gs 1 (by decide)).trans f1
  have f24 := (gs 24 (by decide)).trans f24
  have f23 := g23
  have hm := gm
  have hbu := gbu
  have fm := fm.call (by simp) fmc
  have fs := fs.call (by simp) gs
  refine ev_aload_n d_Mo_writeClock_64 rfl rfl ?_
  refine ev_lload_n d_Mo_writeClock_65 rfl rfl ?_
  refine ev_ldc2 (v := lZ 1000) d_Mo_writeClock_66 kc_Mo_201 ?_
  refine ez_lrem (by omega) (by omega) (by omega) (by omega) d_Mo_writeClock_69 ?_
  refine ev_iconst (v := iZ 3) d_Mo_writeClock_70 rfl ?_
  refine ev_callV M_Mo_writeDigits (rm 1 22) _ (As := [.long (lZ ((nearZ t 705600) % 1000)), .int (iZ 3)]) (c_Mo_writeDigits G h11 σ12 m bu F cn (L ++ dgL ((nearZ t 705600) / 3600000) 2 ++ [58] ++ dgL (((nearZ t 705600) / 60000) % 60) 2 ++ [58] ++ dgL (((nearZ t 705600) / 1000) % 60) 2 ++ [44]) ((nearZ t 705600) % 1000) 3 hm f1 f23 f24 hbu (by omega) (by decide) (by decide) hcn (by first | omega | (simp only [List.length_append, List.length_cons, List.length_nil, dgL_l, txL_l, oTime_l, oFr_l, sixL_l]; omega))) d_Mo_writeClock_71 mk_Mo_writeDigits ml_Mo_195 mv_Mo_writeDigits hm rfl rfl rfl (Nat.le_of_ble_eq_true rfl) ⟨by decide, by decide⟩ ⟨by decide, by decide⟩ (fun r h13 hq => ?_)
  obtain ⟨rfl, ⟨σ14, gm, g23, gs⟩, gbu, fmc⟩ := hq
  have f1 := (gs 1 (by decide)).trans f1
  have f24 := (gs 24 (by decide)).trans f24
  have f23 := g23
  have hm := gm
  have hbu := gbu
  have fm := fm.call (by simp) fmc
  have fs := fs.call (by simp) gs
  have e9 : L ++ dgL ((nearZ t 705600) / 3600000) 2 ++ [58] ++ dgL (((nearZ t 705600) / 60000) % 60) 2 ++ [58] ++ dgL (((nearZ t 705600) / 1000) % 60) 2 ++ [44] ++ dgL ((nearZ t 705600) % 1000) 3 = L ++ oTime t := by unfold oTime; simp only [List.append_assoc]
  exact ev_return d_Mo_writeClock_74 rfl (by decide) (by decide) (⟨rfl, ⟨σ14, hm, by rw [← e9]; exact f23, fs⟩, by rw [← e9]; exact hbu, fm⟩)
set_option maxHeartbeats 4000000 in
set_option maxRecDepth 100000 in
theorem c_Mo_writeFrames (G : GT) (h : HM) (σ : Nat → Value) (m bu : Nat) (F : Nat → Int) (cn : Int) (L : List Int) (num den tk t : Int) (hm : h m = some (.inr (11, fsN 34 σ))) (f1 : σ 1 = .ref bu) (f2 : σ 2 = .int (iZ num)) (f3 : σ 3 = .int (iZ den)) (f23 : σ 23 = .int (iZ ((L).length : Int))) (f24 : σ 24 = .int (iZ cn)) (hbu : h bu = some (.inl (G_i G, 1000, .inl (iA (bufC cn F (L)))))) (hnum : 1 ≤ num ∧ num ≤ 120000) (hden : 1 ≤ den ∧ den ≤ 1001) (htk : tk = 705600000 * den / num) (htr : 11760000 ≤ tk ∧ tk ≤ 705600000) (ht : 0 ≤ t ∧ t ≤ 2540160000000) (hcn : cn = 0 ∨ cn = 1) (hlen : (cn = 1 ∨ L.length + (2 + ndg (nearZ t tk)) ≤ 1000) ∧ L.length + (2 + ndg (nearZ t tk)) ≤ 2000) : Rn G M_Mo_writeFrames (rm 2 60) [.ref m, .long (lZ t)] h (fun r h' => r = none ∧ (∃ σ', h' m = some (.inr (11, fsN 34 σ')) ∧ σ' 23 = .int (iZ ((L ++ oFr tk t).length : Int)) ∧ Fs [23] σ σ') ∧ h' bu = some (.inl (G_i G, 1000, .inl (iA (bufC cn F (L ++ oFr tk t))))) ∧ Fm [m, bu] h h') := by
  refine rn_of (by decide) (Nat.le_of_ble_eq_true rfl) ?_
  show Ev G M_Mo_writeFrames _ _ 0 [(0, .ref m), (1, .long (lZ t))] [] _ 0 0
  have fm : Fm [m, bu] h h := Fm.rf
  have fs : Fs [23] σ σ := Fs.rf
  have rnd := ndg_r (nearZ t tk)
  refine ev_lload_n d_Mo_writeFrames_0 rfl rfl ?_
  refine ev_aload_n d_Mo_writeFrames_1 rfl rfl ?_
  refine ev_pV M_Mo_frame 0 0 (As := []) (c_Mo_frame G h σ m num den hm f2 f3 hnum hden) d_Mo_writeFrames_2 mk_Mo_frame ml_Mo_134 mv_Mo_frame hm rfl rfl rfl (Nat.le_of_ble_eq_true rfl) ⟨by decide, by decide⟩ ⟨by decide, by decide⟩ ?_
  rw [← htk]
  have rv := fra_r htr ht
  refine ev_pS M_Mo_nearest 0 0 (As := [.long (lZ t), .long (lZ tk)]) (c_Mo_nearest G h t tk (by omega) (by omega)) d_Mo_writeFrames_5 mk_Mo_nearest ml_Mo_189 ms_Mo_nearest rfl rfl (Nat.le_of_ble_eq_true rfl) ⟨by decide, by decide⟩ ⟨by decide, by decide⟩ ?_
  refine ev_lstore_n (L' := [(0, .ref m), (1, .long (lZ t)), (3, .long (lZ (nearZ t tk)))]) d_Mo_writeFrames_8 rfl (by decide) rfl ?_
  refine ev_iconst (v := iZ 1) d_Mo_writeFrames_9 rfl ?_
  refine ev_istore (L' := [(0, .ref m), (1, .long (lZ t)), (3, .long (lZ (nearZ t tk))), (5, .int (iZ 1))]) d_Mo_writeFrames_10 (by decide) rfl ?_
  refine ev_ldc2 (v := lZ 10) d_Mo_writeFrames_12 kc_Mo_130 ?_
  refine ev_lstore (L' := [(0, .ref m), (1, .long (lZ t)), (3, .long (lZ (nearZ t tk))), (5, .int (iZ 1)), (6, .long (lZ 10))]) d_Mo_writeFrames_15 (by decide) rfl ?_
  refine ev_lload d_Mo_writeFrames_17 rfl ?_
  refine ev_lload_n d_Mo_writeFrames_19 rfl rfl ?_
  refine ev_lcmp d_Mo_writeFrames_20 ?_
  refine ez_lif_gt (tgt := 38) (by decide) (by omega) d_Mo_writeFrames_21 rfl (fun c21 => ?_) (fun c21 => ?_)
  · have hnd : ndg (nearZ t tk) = 1 := by unfold ndg; (repeat' split) <;> omega
    refine ev_aload_n d_Mo_writeFrames_38 rfl rfl ?_
    refine ev_bipush (v := iZ 123) d_Mo_writeFrames_39 rfl ?_
    refine ev_callV M_Mo_write1 (rm 0 0) _ (As := [.int (iZ 123)]) (c_Mo_write1 G h σ m bu F cn (L) (123) hm f1 f23 f24 hbu hcn (by first | omega | (simp only [List.length_append, List.length_cons, List.length_nil, dgL_l, txL_l, oTime_l, oFr_l, sixL_l]; omega))) d_Mo_writeFrames_41 mk_Mo_write1 ml_Mo_186 mv_Mo_write1 hm rfl rfl rfl (Nat.le_of_ble_eq_true rfl) ⟨by decide, by decide⟩ ⟨by decide, by decide⟩ (fun r h1 hq => ?_)
    obtain ⟨rfl, ⟨σ2, gm, g23, gs⟩, gbu, fmc⟩ := hq
    have f1 := (gs 1 (by decide)).trans f1
    have f2 := (gs 2 (by decide)).trans f2
    have f3 := (gs 3 (by decide)).trans f3
    have f24 := (gs 24 (by decide)).trans f24
    have f23 := g23
    have hm := gm
    have hbu := gbu
    have fm := fm.call (by simp) fmc
    have fs := fs.call (by simp) gs
    refine ev_aload_n d_Mo_writeFrames_44 rfl rfl ?_
    refine ev_lload_n d_Mo_writeFrames_45 rfl rfl ?_
    refine ev_iload d_Mo_writeFrames_46 rfl ?_
    refine ev_callV M_Mo_writeDigits (rm 1 22) _ (As := [.long (lZ (nearZ t tk)), .int (iZ 1)]) (c_Mo_writeDigits G h1 σ2 m bu F cn (L ++ [123]) (nearZ t tk) 1 hm f1 f23 f24 hbu (by omega) (by decide) (by decide) hcn (by first | omega | (simp only [List.length_append, List.length_cons, List.length_nil, dgL_l, txL_l, oTime_l, oFr_l, sixL_l]; omega))) d_Mo_writeFrames_48 mk_Mo_writeDigits ml_Mo_195 mv_Mo_writeDigits hm rfl rfl rfl (Nat.le_of_ble_eq_true rfl) ⟨by decide, by decide⟩ ⟨by decide, by decide⟩ (fun r h3 hq => ?_)
    obtain ⟨rfl, ⟨σ4, gm, g23, gs⟩, gbu, fmc⟩ := hq
    have f1 := (gs 1 (by decide)).trans f1
    have f2 := (gs 2 (by decide)).trans f2
    have f3 := (gs 3 (by decide)).trans f3
    have f24 := (gs 24 (by decide)).trans f24
    have f23 := g23
    have hm := gm
    have hbu := gbu
    have fm := fm.call (by simp) fmc
    have fs := fs.call (by simp) gs
    refine ev_aload_n d_Mo_writeFrames_51 rfl rfl ?_
    refine ev_bipush (v := iZ 125) d_Mo_writeFrames_52 rfl ?_
    refine ev_callV M_Mo_write1 (rm 0 0) _ (As := [.int (iZ 125)]) (c_Mo_write1 G h3 σ4 m bu F cn (L ++ [123] ++ dgL (nearZ t tk) 1) (125) hm f1 f23 f24 hbu hcn (by first | omega | (simp only [List.length_append, List.length_cons, List.length_nil, dgL_l, txL_l, oTime_l, oFr_l, sixL_l]; omega))) d_Mo_writeFrames_54 mk_Mo_write1 ml_Mo_186 mv_Mo_write1 hm rfl rfl rfl (Nat.le_of_ble_eq_true rfl) ⟨by decide, by decide⟩ ⟨by decide, by decide⟩ (fun r h5 hq => ?_)
    obtain ⟨rfl, ⟨σ6, gm, g23, gs⟩, gbu, fmc⟩ := hq
    have f1 := (gs 1 (by decide)).trans f1
    have f2 := (gs 2 (by decide)).trans f2
    have f3 := (gs 3 (by decide)).trans f3
    have f24 := (gs 24 (by decide)).trans f24
    have f23 := g23
    have hm := gm
    have hbu := gbu
    have fm := fm.call (by simp) fmc
    have fs := fs.call (by simp) gs
    have e9 : L ++ [123] ++ dgL (nearZ t tk) 1 ++ [125] = L ++ oFr tk t := by unfold oFr; rw [hnd]; simp only [List.append_assoc]
    exact ev_return d_Mo_writeFrames_57 rfl (by decide) (by decide) (⟨rfl, ⟨σ6, hm, by rw [← e9]; exact f23, fs⟩, by rw [← e9]; exact hbu, fm⟩)
  · refine ez_iinc (L' := [(0, .ref m), (1, .long (lZ t)), (3, .long (lZ (nearZ t tk))), (5, .int (iZ 2)), (6, .long (lZ 10))]) d_Mo_writeFrames_24 rfl (by decide) rfl ?_
    refine ev_ldc2 (v := lZ 10) d_Mo_writeFrames_27 kc_Mo_130 ?_
    refine ev_lload d_Mo_writeFrames_30 rfl ?_
    refine ez_lmul d_Mo_writeFrames_32 ?_
    refine ev_lstore (L' := [(0, .ref m), (1, .long (lZ t)), (3, .long (lZ (nearZ t tk))), (5, .int (iZ 2)), (6, .long (lZ 100))]) d_Mo_writeFrames_33 (by decide) rfl ?_
    refine ev_goto (tgt := 17) d_Mo_writeFrames_35 rfl ?_
    refine ev_lload d_Mo_writeFrames_17 rfl ?_
    refine ev_lload_n d_Mo_writeFrames_19 rfl rfl ?_
    refine ev_lcmp d_Mo_writeFrames_20 ?_
    refine ez_lif_gt (tgt := 38) (by decide) (by omega) d_Mo_writeFrames_21 rfl (fun c21 => ?_) (fun c21 => ?_)
    · have hnd : ndg (nearZ t tk) = 2 := by unfold ndg; (repeat' split) <;> omega
      refine ev_aload_n d_Mo_writeFrames_38 rfl rfl ?_
      refine ev_bipush (v := iZ 123) d_Mo_writeFrames_39 rfl ?_
      refine ev_callV M_Mo_write1 (rm 0 0) _ (As := [.int (iZ 123)]) (c_Mo_write1 G h σ m bu F cn (L) (123) hm f1 f23 f24 hbu hcn (by first | omega | (simp only [List.length_append, List.length_cons, List.length_nil, dgL_l, txL_l, oTime_l, oFr_l, sixL_l]; omega))) d_Mo_writeFrames_41 mk_Mo_write1 ml_Mo_186 mv_Mo_write1 hm rfl rfl rfl (Nat.le_of_ble_eq_true rfl) ⟨by decide, by decide⟩ ⟨by decide, by decide⟩ (fun r h7 hq => ?_)
      obtain ⟨rfl, ⟨σ8, gm, g23, gs⟩, gbu, fmc⟩ := hq
      have f1 := (gs 1 (by decide)).trans f1
      have f2 := (gs 2 (by decide)).trans f2
      have f3 := (gs 3 (by decide)).trans f3
      have f24 := (gs 24 (by decide)).trans f24
      have f23 := g23
      have hm := gm
      have hbu := gbu
      have fm := fm.call (by simp) fmc
      have fs := fs.call (by simp) gs
      refine ev_aload_n d_Mo_writeFrames_44 rfl rfl ?_
      refine ev_lload_n d_Mo_writeFrames_45 rfl rfl ?_
      refine ev_iload d_Mo_writeFrames_46 rfl ?_
      refine ev_callV M_Mo_writeDigits (rm 1 22) _ (As := [.long (lZ (nearZ t tk)), .int (iZ 2)]) (c_Mo_writeDigits G h7 σ8 m bu F cn (L ++ [123]) (nearZ t tk) 2 hm f1 f23 f24 hbu (by omega) (by decide) (by decide) hcn (by first | omega | (simp only [List.length_append, List.length_cons, List.length_nil, dgL_l, txL_l, oTime_l, oFr_l, sixL_l]; omega))) d_Mo_writeFrames_48 mk_Mo_writeDigits ml_Mo_195 mv_Mo_writeDigits hm rfl rfl rfl (Nat.le_of_ble_eq_true rfl) ⟨by decide, by decide⟩ ⟨by decide, by decide⟩ (fun r h9 hq => ?_)
      obtain ⟨rfl, ⟨σ10, gm, g23, gs⟩, gbu, fmc⟩ := hq
      have f1 := (gs 1 (by decide)).trans f1
      have f2 := (gs 2 (by decide)).trans f2
      have f3 := (gs 3 (by decide)).trans f3
      have f24 := (gs 24 (by decide)).trans f24
      have f23 := g23
      have hm := gm
      have hbu := gbu
      have fm := fm.call (by simp) fmc
      have fs := fs.call (by simp) gs
      refine ev_aload_n d_Mo_writeFrames_51 rfl rfl ?_
      refine ev_bipush (v := iZ 125) d_Mo_writeFrames_52 rfl ?_
      refine ev_callV M_Mo_write1 (rm 0 0) _ (As := [.int (iZ 125)]) (c_Mo_write1 G h9 σ10 m bu F cn (L ++ [123] ++ dgL (nearZ t tk) 2) (125) hm f1 f23 f24 hbu hcn (by first | omega | (simp only [List.length_append, List.length_cons, List.length_nil, dgL_l, txL_l, oTime_l, oFr_l, sixL_l]; omega))) d_Mo_writeFrames_54 mk_Mo_write1 ml_Mo_186 mv_Mo_write1 hm rfl rfl rfl (Nat.le_of_ble_eq_true rfl) ⟨by decide, by decide⟩ ⟨by decide, by decide⟩ (fun r h11 hq => ?_)
      obtain ⟨rfl, ⟨σ12, gm, g23, gs⟩, gbu, fmc⟩ := hq
      have f1 := (gs 1 (by decide)).trans f1
      have f2 := (gs 2 (by decide)).trans f2
      have f3 := (gs 3 (by decide)).trans f3
      have f24 := (gs 24 (by decide)).trans f24
      have f23 := g23
      have hm := gm
      have hbu := gbu
      have fm := fm.call (by simp) fmc
      have fs := fs.call (by simp) gs
      have e9 : L ++ [123] ++ dgL (nearZ t tk) 2 ++ [125] = L ++ oFr tk t := by unfold oFr; rw [hnd]; simp only [List.append_assoc]
      exact ev_return d_Mo_writeFrames_57 rfl (by decide) (by decide) (⟨rfl, ⟨σ12, hm, by rw [← e9]; exact f23, fs⟩, by rw [← e9]; exact hbu, fm⟩)
    · refine ez_iinc (L' := [(0, .ref m), (1, .long (lZ t)), (3, .long (lZ (nearZ t tk))), (5, .int (iZ 3)), (6, .long (lZ 100))]) d_Mo_writeFrames_24 rfl (by decide) rfl ?_
      refine ev_ldc2 (v := lZ 10) d_Mo_writeFrames_27 kc_Mo_130 ?_
      refine ev_lload d_Mo_writeFrames_30 rfl ?_
      refine ez_lmul d_Mo_writeFrames_32 ?_
      refine ev_lstore (L' := [(0, .ref m), (1, .long (lZ t)), (3, .long (lZ (nearZ t tk))), (5, .int (iZ 3)), (6, .long (lZ 1000))]) d_Mo_writeFrames_33 (by decide) rfl ?_
      refine ev_goto (tgt := 17) d_Mo_writeFrames_35 rfl ?_
      refine ev_lload d_Mo_writeFrames_17 rfl ?_
      refine ev_lload_n d_Mo_writeFrames_19 rfl rfl ?_
      refine ev_lcmp d_Mo_writeFrames_20 ?_
      refine ez_lif_gt (tgt := 38) (by decide) (by omega) d_Mo_writeFrames_21 rfl (fun c21 => ?_) (fun c21 => ?_)
      · have hnd : ndg (nearZ t tk) = 3 := by unfold ndg; (repeat' split) <;> omega
        refine ev_aload_n d_Mo_writeFrames_38 rfl rfl ?_
        refine ev_bipush (v := iZ 123) d_Mo_writeFrames_39 rfl ?_
        refine ev_callV M_Mo_write1 (rm 0 0) _ (As := [.int (iZ 123)]) (c_Mo_write1 G h σ m bu F cn (L) (123) hm f1 f23 f24 hbu hcn (by first | omega | (simp only [List.length_append, List.length_cons, List.length_nil, dgL_l, txL_l, oTime_l, oFr_l, sixL_l]; omega))) d_Mo_writeFrames_41 mk_Mo_write1 ml_Mo_186 mv_Mo_write1 hm rfl rfl rfl (Nat.le_of_ble_eq_true rfl) ⟨by decide, by decide⟩ ⟨by decide, by decide⟩ (fun r h13 hq => ?_)
        obtain ⟨rfl, ⟨σ14, gm, g23, gs⟩, gbu, fmc⟩ := hq
        have f1 := (gs 1 (by decide)).trans f1
        have f2 := (gs 2 (by decide)).trans f2
        have f3 := (gs 3 (by decide)).trans f3
        have f24 := (gs 24 (by decide)).trans f24
        have f23 := g23
        have hm := gm
        have hbu := gbu
        have fm := fm.call (by simp) fmc
        have fs := fs.call (by simp) gs
        refine ev_aload_n d_Mo_writeFrames_44 rfl rfl ?_
        refine ev_lload_n d_Mo_writeFrames_45 rfl rfl ?_
        refine ev_iload d_Mo_writeFrames_46 rfl ?_
        refine ev_callV M_Mo_writeDigits (rm 1 22) _ (As := [.long (lZ (nearZ t tk)), .int (iZ 3)]) (c_Mo_writeDigits G h13 σ14 m bu F cn (L ++ [123]) (nearZ t tk) 3 hm f1 f23 f24 hbu (by omega) (by decide) (by decide) hcn (by first | omega | (simp only [List.length_append, List.length_cons, List.length_nil, dgL_l, txL_l, oTime_l, oFr_l, sixL_l]; omega))) d_Mo_writeFrames_48 mk_Mo_writeDigits ml_Mo_195 mv_Mo_writeDigits hm rfl rfl rfl (Nat.le_of_ble_eq_true rfl) ⟨by decide, by decide⟩ ⟨by decide, by decide⟩ (fun r h15 hq => ?_)
        obtain ⟨rfl, ⟨σ16, gm, g23, gs⟩, gbu, fmc⟩ := hq
        have f1 := (gs 1 (by decide)).trans f1
        have f2 := (gs 2 (by decide)).trans f2
        have f3 := (gs 3 (by decide)).trans f3
        have f24 := (gs 24 (by decide)).trans f24
        have f23 := g23
        have hm := gm
        have hbu := gbu
        have fm := fm.call (by simp) fmc
        have fs := fs.call (by simp) gs
        refine ev_aload_n d_Mo_writeFrames_51 rfl rfl ?_
        refine ev_bipush (v := iZ 125) d_Mo_writeFrames_52 rfl ?_
        refine ev_callV M_Mo_write1 (rm 0 0) _ (As := [.int (iZ 125)]) (c_Mo_write1 G h15 σ16 m bu F cn (L ++ [123] ++ dgL (nearZ t tk) 3) (125) hm f1 f23 f24 hbu hcn (by first | omega | (simp only [List.length_append, List.length_cons, List.length_nil, dgL_l, txL_l, oTime_l, oFr_l, sixL_l]; omega))) d_Mo_writeFrames_54 mk_Mo_write1 ml_Mo_186 mv_Mo_write1 hm rfl rfl rfl (Nat.le_of_ble_eq_true rfl) ⟨by decide, by decide⟩ ⟨by decide, by decide⟩ (fun r h17 hq => ?_)
        obtain ⟨rfl, ⟨σ18, gm, g23, gs⟩, gbu, fmc⟩ := hq
        have f1 := (gs 1 (by decide)).trans f1
        have f2 := (gs 2 (by decide)).trans f2
        have f3 := (gs 3 (by decide)).trans f3
        have f24 := (gs 24 (by decide)).trans f24
        have f23 := g23
        have hm := gm
        have hbu := gbu
        have fm := fm.call (by simp) fmc
        have fs := fs.call (by simp) gs
        have e9 : L ++ [123] ++ dgL (nearZ t tk) 3 ++ [125] = L ++ oFr tk t := by unfold oFr; rw [hnd]; simp only [List.append_assoc]
        exact ev_return d_Mo_writeFrames_57 rfl (by decide) (by decide) (⟨rfl, ⟨σ18, hm, by rw [← e9]; exact f23, fs⟩, by rw [← e9]; exact hbu, fm⟩)
      · refine ez_iinc (L' := [(0, .ref m), (1, .long (lZ t)), (3, .long (lZ (nearZ t tk))), (5, .int (iZ 4)), (6, .long (lZ 1000))]) d_Mo_writeFrames_24 rfl (by decide) rfl ?_
        refine ev_ldc2 (v := lZ 10) d_Mo_writeFrames_27 kc_Mo_130 ?_
        refine ev_lload d_Mo_writeFrames_30 rfl ?_
        refine ez_lmul d_Mo_writeFrames_32 ?_
        refine ev_lstore (L' := [(0, .ref m), (1, .long (lZ t)), (3, .long (lZ (nearZ t tk))), (5, .int (iZ 4)), (6, .long (lZ 10000))]) d_Mo_writeFrames_33 (by decide) rfl ?_
        refine ev_goto (tgt := 17) d_Mo_writeFrames_35 rfl ?_
        refine ev_lload d_Mo_writeFrames_17 rfl ?_
        refine ev_lload_n d_Mo_writeFrames_19 rfl rfl ?_
        refine ev_lcmp d_Mo_writeFrames_20 ?_
        refine ez_lif_gt (tgt := 38) (by decide) (by omega) d_Mo_writeFrames_21 rfl (fun c21 => ?_) (fun c21 => ?_)
        · have hnd : ndg (nearZ t tk) = 4 := by unfold ndg; (repeat' split) <;> omega
          refine ev_aload_n d_Mo_writeFrames_38 rfl rfl ?_
          refine ev_bipush (v := iZ 123) d_Mo_writeFrames_39 rfl ?_
          refine ev_callV M_Mo_write1 (rm 0 0) _ (As := [.int (iZ 123)]) (c_Mo_write1 G h σ m bu F cn (L) (123) hm f1 f23 f24 hbu hcn (by first | omega | (simp only [List.length_append, List.length_cons, List.length_nil, dgL_l, txL_l, oTime_l, oFr_l, sixL_l]; omega))) d_Mo_writeFrames_41 mk_Mo_write1 ml_Mo_186 mv_Mo_write1 hm rfl rfl rfl (Nat.le_of_ble_eq_true rfl) ⟨by decide, by decide⟩ ⟨by decide, by decide⟩ (fun r h19 hq => ?_)
          obtain ⟨rfl, ⟨σ20, gm, g23, gs⟩, gbu, fmc⟩ := hq
          have f1 := (gs 1 (by decide)).trans f1
          have f2 := (gs 2 (by decide)).trans f2
          have f3 := (gs 3 (by decide)).trans f3
          have f24 := (gs 24 (by decide)).trans f24
          have f23 := g23
          have hm := gm
          have hbu := gbu
          have fm := fm.call (by simp) fmc
          have fs := fs.call (by simp) gs
          refine ev_aload_n d_Mo_writeFrames_44 rfl rfl ?_
          refine ev_lload_n d_Mo_writeFrames_45 rfl rfl ?_
          refine ev_iload d_Mo_writeFrames_46 rfl ?_
          refine ev_callV M_Mo_writeDigits (rm 1 22) _ (As := [.long (lZ (nearZ t tk)), .int (iZ 4)]) (c_Mo_writeDigits G h19 σ20 m bu F cn (L ++ [123]) (nearZ t tk) 4 hm f1 f23 f24 hbu (by omega) (by decide) (by decide) hcn (by first | omega | (simp only [List.length_append, List.length_cons, List.length_nil, dgL_l, txL_l, oTime_l, oFr_l, sixL_l]; omega))) d_Mo_writeFrames_48 mk_Mo_writeDigits ml_Mo_195 mv_Mo_writeDigits hm rfl rfl rfl (Nat.le_of_ble_eq_true rfl) ⟨by decide, by decide⟩ ⟨by decide, by decide⟩ (fun r h21 hq => ?_)
          obtain ⟨rfl, ⟨σ22, gm, g23, gs⟩, gbu, fmc⟩ := hq
          have f1 := (gs 1 (by decide)).trans f1
          have f2 := (gs 2 (by decide)).trans f2
          have f3 := (gs 3 (by decide)).trans f3
          have f24 := (gs 24 (by decide)).trans f24
          have f23 := g23
          have hm := gm
          have hbu := gbu
          have fm := fm.call (by simp) fmc
          have fs := fs.call (by simp) gs
          refine ev_aload_n d_Mo_writeFrames_51 rfl rfl ?_
          refine ev_bipush (v := iZ 125) d_Mo_writeFrames_52 rfl ?_
          refine ev_callV M_Mo_write1 (rm 0 0) _ (As := [.int (iZ 125)]) (c_Mo_write1 G h21 σ22 m bu F cn (L ++ [123] ++ dgL (nearZ t tk) 4) (125) hm f1 f23 f24 hbu hcn (by first | omega | (simp only [List.length_append, List.length_cons, List.length_nil, dgL_l, txL_l, oTime_l, oFr_l, sixL_l]; omega))) d_Mo_writeFrames_54 mk_Mo_write1 ml_Mo_186 mv_Mo_write1 hm rfl rfl rfl (Nat.le_of_ble_eq_true rfl) ⟨by decide, by decide⟩ ⟨by decide, by decide⟩ (fun r h23 hq => ?_)
          obtain ⟨rfl, ⟨σ24, gm, g23, gs⟩, gbu, fmc⟩ := hq
          have f1 := (gs 1 (by decide)).trans f1
          have f2 := (gs 2 (by decide)).trans f2
          have f3 := (gs 3 (by decide)).trans f3
          have f24 := (gs 24 (by decide)).trans f24
          have f23 := g23
          have hm := gm
          have hbu := gbu
          have fm := fm.call (by simp) fmc
          have fs := fs.call (by simp) gs
          have e9 : L ++ [123] ++ dgL (nearZ t tk) 4 ++ [125] = L ++ oFr tk t := by unfold oFr; rw [hnd]; simp only [List.append_assoc]
          exact ev_return d_Mo_writeFrames_57 rfl (by decide) (by decide) (⟨rfl, ⟨σ24, hm, by rw [← e9]; exact f23, fs⟩, by rw [← e9]; exact hbu, fm⟩)
        · refine ez_iinc (L' := [(0, .ref m), (1, .long (lZ t)), (3, .long (lZ (nearZ t tk))), (5, .int (iZ 5)), (6, .long (lZ 10000))]) d_Mo_writeFrames_24 rfl (by decide) rfl ?_
          refine ev_ldc2 (v := lZ 10) d_Mo_writeFrames_27 kc_Mo_130 ?_
          refine ev_lload d_Mo_writeFrames_30 rfl ?_
          refine ez_lmul d_Mo_writeFrames_32 ?_
          refine ev_lstore (L' := [(0, .ref m), (1, .long (lZ t)), (3, .long (lZ (nearZ t tk))), (5, .int (iZ 5)), (6, .long (lZ 100000))]) d_Mo_writeFrames_33 (by decide) rfl ?_
          refine ev_goto (tgt := 17) d_Mo_writeFrames_35 rfl ?_
          refine ev_lload d_Mo_writeFrames_17 rfl ?_
          refine ev_lload_n d_Mo_writeFrames_19 rfl rfl ?_
          refine ev_lcmp d_Mo_writeFrames_20 ?_
          refine ez_lif_gt (tgt := 38) (by decide) (by omega) d_Mo_writeFrames_21 rfl (fun c21 => ?_) (fun c21 => ?_)
          · have hnd : ndg (nearZ t tk) = 5 := by unfold ndg; (repeat' split) <;> omega
            refine ev_aload_n d_Mo_writeFrames_38 rfl rfl ?_
            refine ev_bipush (v := iZ 123) d_Mo_writeFrames_39 rfl ?_
            refine ev_callV M_Mo_write1 (rm 0 0) _ (As := [.int (iZ 123)]) (c_Mo_write1 G h σ m bu F cn (L) (123) hm f1 f23 f24 hbu hcn (by first | omega | (simp only [List.length_append, List.length_cons, List.length_nil, dgL_l, txL_l, oTime_l, oFr_l, sixL_l]; omega))) d_Mo_writeFrames_41 mk_Mo_write1 ml_Mo_186 mv_Mo_write1 hm rfl rfl rfl (Nat.le_of_ble_eq_true rfl) ⟨by decide, by decide⟩ ⟨by decide, by decide⟩ (fun r h25 hq => ?_)
            obtain ⟨rfl, ⟨σ26, gm, g23, gs⟩, gbu, fmc⟩ := hq
            have f1 := (gs 1 (by decide)).trans f1
            have f2 := (gs 2 (by decide)).trans f2
            have f3 := (gs 3 (by decide)).trans f3
            have f24 := (gs 24 (by decide)).trans f24
            have f23 := g23
            have hm := gm
            have hbu := gbu
            have fm := fm.call (by simp) fmc
            have fs := fs.call (by simp) gs
            refine ev_aload_n d_Mo_writeFrames_44 rfl rfl ?_
            refine ev_lload_n d_Mo_writeFrames_45 rfl rfl ?_
            refine ev_iload d_Mo_writeFrames_46 rfl ?_
            refine ev_callV M_Mo_writeDigits (rm 1 22) _ (As := [.long (lZ (nearZ t tk)), .int (iZ 5)]) (c_Mo_writeDigits G h25 σ26 m bu F cn (L ++ [123]) (nearZ t tk) 5 hm f1 f23 f24 hbu (by omega) (by decide) (by decide) hcn (by first | omega | (simp only [List.length_append, List.length_cons, List.length_nil, dgL_l, txL_l, oTime_l, oFr_l, sixL_l]; omega))) d_Mo_writeFrames_48 mk_Mo_writeDigits ml_Mo_195 mv_Mo_writeDigits hm rfl rfl rfl (Nat.le_of_ble_eq_true rfl) ⟨by decide, by decide⟩ ⟨by decide, by decide⟩ (fun r h27 hq => ?_)
            obtain ⟨rfl, ⟨σ28, gm, g23, gs⟩, gbu, fmc⟩ := hq
            have f1 := (gs 1 (by decide)).trans f1
            have f2 := (gs 2 (by decide)).trans f2
            have f3 := (gs 3 (by decide)).trans f3
            have f24 := (gs 24 (by decide)).trans f24
            have f23 := g23
            have hm := gm
            have hbu := gbu
            have fm := fm.call (by simp) fmc
            have fs := fs.call (by simp) gs
            refine ev_aload_n d_Mo_writeFrames_51 rfl rfl ?_
            refine ev_bipush (v := iZ 125) d_Mo_writeFrames_52 rfl ?_
            refine ev_callV M_Mo_write1 (rm 0 0) _ (As := [.int (iZ 125)]) (c_Mo_write1 G h27 σ28 m bu F cn (L ++ [123] ++ dgL (nearZ t tk) 5) (125) hm f1 f23 f24 hbu hcn (by first | omega | (simp only [List.length_append, List.length_cons, List.length_nil, dgL_l, txL_l, oTime_l, oFr_l, sixL_l]; omega))) d_Mo_writeFrames_54 mk_Mo_write1 ml_Mo_186 mv_Mo_write1 hm rfl rfl rfl (Nat.le_of_ble_eq_true rfl) ⟨by decide, by decide⟩ ⟨by decide, by decide⟩ (fun r h29 hq => ?_)
            obtain ⟨rfl, ⟨σ30, gm, g23, gs⟩, gbu, fmc⟩ := hq
            have f1 := (gs 1 (by decide)).trans f1
            have f2 := (gs 2 (by decide)).trans f2
            have f3 := (gs 3 (by decide)).trans f3
            have f24 := (gs 24 (by decide)).trans f24
            have f23 := g23
            have hm := gm
            have hbu := gbu
            have fm := fm.call (by simp) fmc
            have fs := fs.call (by simp) gs
            have e9 : L ++ [123] ++ dgL (nearZ t tk) 5 ++ [125] = L ++ oFr tk t := by unfold oFr; rw [hnd]; simp only [List.append_assoc]
            exact ev_return d_Mo_writeFrames_57 rfl (by decide) (by decide) (⟨rfl, ⟨σ30, hm, by rw [← e9]; exact f23, fs⟩, by rw [← e9]; exact hbu, fm⟩)
          · refine ez_iinc (L' := [(0, .ref m), (1, .long (lZ t)), (3, .long (lZ (nearZ t tk))), (5, .int (iZ 6)), (6, .long (lZ 100000))]) d_Mo_writeFrames_24 rfl (by decide) rfl ?_
            refine ev_ldc2 (v := lZ 10) d_Mo_writeFrames_27 kc_Mo_130 ?_
            refine ev_lload d_Mo_writeFrames_30 rfl ?_
            refine ez_lmul d_Mo_writeFrames_32 ?_
            refine ev_lstore (L' := [(0, .ref m), (1, .long (lZ t)), (3, .long (lZ (nearZ t tk))), (5, .int (iZ 6)), (6, .long (lZ 1000000))]) d_Mo_writeFrames_33 (by decide) rfl ?_
            refine ev_goto (tgt := 17) d_Mo_writeFrames_35 rfl ?_
            refine ev_lload d_Mo_writeFrames_17 rfl ?_
            refine ev_lload_n d_Mo_writeFrames_19 rfl rfl ?_
            refine ev_lcmp d_Mo_writeFrames_20 ?_
            refine ez_lif_gt (tgt := 38) (by decide) (by omega) d_Mo_writeFrames_21 rfl (fun c21 => ?_) (fun c21 => absurd c21 (by omega))
            have hnd : ndg (nearZ t tk) = 6 := by unfold ndg; (repeat' split) <;> omega
            refine ev_aload_n d_Mo_writeFrames_38 rfl rfl ?_
            refine ev_bipush (v := iZ 123) d_Mo_writeFrames_39 rfl ?_
            refine ev_callV M_Mo_write1 (rm 0 0) _ (As := [.int (iZ 123)]) (c_Mo_write1 G h σ m bu F cn (L) (123) hm f1 f23 f24 hbu hcn (by first | omega | (simp only [List.length_append, List.length_cons, List.length_nil, dgL_l, txL_l, oTime_l, oFr_l, sixL_l]; omega))) d_Mo_writeFrames_41 mk_Mo_write1 ml_Mo_186 mv_Mo_write1 hm rfl rfl rfl (Nat.le_of_ble_eq_true rfl) ⟨by decide, by decide⟩ ⟨by decide, by decide⟩ (fun r h31 hq => ?_)
            obtain ⟨rfl, ⟨σ32, gm, g23, gs⟩, gbu, fmc⟩ := hq
            have f1 := (gs 1 (by decide)).trans f1
            have f2 := (gs 2 (by decide)).trans f2
            have f3 := (gs 3 (by decide)).trans f3
            have f24 := (gs 24 (by decide)).trans f24
            have f23 := g23
            have hm := gm
            have hbu := gbu
            have fm := fm.call (by simp) fmc
            have fs := fs.call (by simp) gs
            refine ev_aload_n d_Mo_writeFrames_44 rfl rfl ?_
            refine ev_lload_n d_Mo_writeFrames_45 rfl rfl ?_
            refine ev_iload d_Mo_writeFrames_46 rfl ?_
            refine ev_callV M_Mo_writeDigits (rm 1 22) _ (As := [.long (lZ (nearZ t tk)), .int (iZ 6)]) (c_Mo_writeDigits G h31 σ32 m bu F cn (L ++ [123]) (nearZ t tk) 6 hm f1 f23 f24 hbu (by omega) (by decide) (by decide) hcn (by first | omega | (simp only [List.length_append, List.length_cons, List.length_nil, dgL_l, txL_l, oTime_l, oFr_l, sixL_l]; omega))) d_Mo_writeFrames_48 mk_Mo_writeDigits ml_Mo_195 mv_Mo_writeDigits hm rfl rfl rfl (Nat.le_of_ble_eq_true rfl) ⟨by decide, by decide⟩ ⟨by decide, by decide⟩ (fun r h33 hq => ?_)
            obtain ⟨rfl, ⟨σ34, gm, g23, gs⟩, gbu, fmc⟩ := hq
            have f1 := (gs 1 (by decide)).trans f1
            have f2 := (gs 2 (by decide)).trans f2
            have f3 := (gs 3 (by decide)).trans f3
            have f24 := (gs 24 (by decide)).trans f24
            have f23 := g23
            have hm := gm
            have hbu := gbu
            have fm := fm.call (by simp) fmc
            have fs := fs.call (by simp) gs
            refine ev_aload_n d_Mo_writeFrames_51 rfl rfl ?_
            refine ev_bipush (v := iZ 125) d_Mo_writeFrames_52 rfl ?_
            refine ev_callV M_Mo_write1 (rm 0 0) _ (As := [.int (iZ 125)]) (c_Mo_write1 G h33 σ34 m bu F cn (L ++ [123] ++ dgL (nearZ t tk) 6) (125) hm f1 f23 f24 hbu hcn (by first | omega | (simp only [List.length_append, List.length_cons, List.length_nil, dgL_l, txL_l, oTime_l, oFr_l, sixL_l]; omega))) d_Mo_writeFrames_54 mk_Mo_write1 ml_Mo_186 mv_Mo_write1 hm rfl rfl rfl (Nat.le_of_ble_eq_true rfl) ⟨by decide, by decide⟩ ⟨by decide, by decide⟩ (fun r h35 hq => ?_)
            obtain ⟨rfl, ⟨σ36, gm, g23, gs⟩, gbu, fmc⟩ := hq
            have f1 := (gs 1 (by decide)).trans f1
            have f2 := (gs 2 (by decide)).trans f2
            have f3 := (gs 3 (by decide)).trans f3
            have f24 := (gs 24 (by decide)).trans f24
            have f23 := g23
            have hm := gm
            have hbu := gbu
            have fm := fm.call (by simp) fmc
            have fs := fs.call (by simp) gs
            have e9 : L ++ [123] ++ dgL (nearZ t tk) 6 ++ [125] = L ++ oFr tk t := by unfold oFr; rw [hnd]; simp only [List.append_assoc]
            exact ev_return d_Mo_writeFrames_57 rfl (by decide) (by decide) (⟨rfl, ⟨σ36, hm, by rw [← e9]; exact f23, fs⟩, by rw [← e9]; exact hbu, fm⟩)
set_option maxHeartbeats 4000000 in
set_option maxRecDepth 100000 in
theorem c_Mo_writeSix (G : GT) (h : HM) (σ : Nat → Value) (m bu : Nat) (F : Nat → Int) (cn : Int) (L : List Int) (t : Int) (hm : h m = some (.inr (11, fsN 34 σ))) (f1 : σ 1 = .ref bu) (f23 : σ 23 = .int (iZ ((L).length : Int))) (f24 : σ 24 = .int (iZ cn)) (hbu : h bu = some (.inl (G_i G, 1000, .inl (iA (bufC cn F (L)))))) (hcn : cn = 0 ∨ cn = 1) (hlen : (cn = 1 ∨ L.length + (6) ≤ 1000) ∧ L.length + (6) ≤ 2000) : Rn G M_Mo_writeSix (rm 1 22) [.ref m, .long (lZ t)] h (fun r h' => r = none ∧ (∃ σ', h' m = some (.inr (11, fsN 34 σ')) ∧ σ' 23 = .int (iZ ((L ++ sixL t 6).length : Int)) ∧ Fs [23] σ σ') ∧ h' bu = some (.inl (G_i G, 1000, .inl (iA (bufC cn F (L ++ sixL t 6))))) ∧ Fm [m, bu] h h') := by
  refine rn_of (by decide) (Nat.le_of_ble_eq_true rfl) ?_
  show Ev G M_Mo_writeSix _ _ 0 [(0, .ref m), (1, .long (lZ t))] [] _ 0 0
  have fm : Fm [m, bu] h h := Fm.rf
  have fs : Fs [23] σ σ := Fs.rf
  refine ev_bipush (v := iZ 40) d_Mo_writeSix_0 rfl ?_
  refine ev_istore_n (L' := [(0, .ref m), (1, .long (lZ t)), (3, .int (iZ 40))]) d_Mo_writeSix_2 rfl (by decide) rfl ?_
  refine ev_iload_n d_Mo_writeSix_3 rfl rfl ?_
  refine ez_if_lt (tgt := 25) (by decide) d_Mo_writeSix_4 rfl (fun c4 => absurd c4 (by omega)) (fun c4 => ?_)
  refine ev_aload_n d_Mo_writeSix_7 rfl rfl ?_
  refine ev_lload_n d_Mo_writeSix_8 rfl rfl ?_
  refine ev_iload_n d_Mo_writeSix_9 rfl rfl ?_
  refine ev_top (8 * ((5 : Nat) : Int)) (rfl) ?_
  refine ev_lshr d_Mo_writeSix_10 ?_
  refine ev_ldc2 (v := lZ 255) d_Mo_writeSix_11 kc_Mo_98 ?_
  refine ev_land d_Mo_writeSix_14 ?_
  refine ev_l2i d_Mo_writeSix_15 ?_
  rw [byte_s (by decide)]
  refine ev_callV M_Mo_write1 (rm 0 0) _ (As := [.int (iZ (byteZ t 5))]) (c_Mo_write1 G h σ m bu F cn (L) (byteZ t 5) hm f1 f23 f24 hbu hcn (by first | omega | (simp only [List.length_append, List.length_cons, List.length_nil, dgL_l, txL_l, oTime_l, oFr_l, sixL_l]; omega))) d_Mo_writeSix_16 mk_Mo_write1 ml_Mo_186 mv_Mo_write1 hm rfl rfl rfl (Nat.le_of_ble_eq_true rfl) ⟨by decide, by decide⟩ ⟨by decide, by decide⟩ (fun r h1 hq => ?_)
  obtain ⟨rfl, ⟨σ2, gm, g23, gs⟩, gbu, fmc⟩ := hq
  have f1 := (gs 1 (by decide)).trans f1
  have f24 := (gs 24 (by decide)).trans f24
  have f23 := g23
  have hm := gm
  have hbu := gbu
  have fm := fm.call (by simp) fmc
  have fs := fs.call (by simp) gs
  refine ez_iinc (L' := [(0, .ref m), (1, .long (lZ t)), (3, .int (iZ 32))]) d_Mo_writeSix_19 rfl (by decide) rfl ?_
  refine ev_goto (tgt := 3) d_Mo_writeSix_22 rfl ?_
  refine ev_iload_n d_Mo_writeSix_3 rfl rfl ?_
  refine ez_if_lt (tgt := 25) (by decide) d_Mo_writeSix_4 rfl (fun c4 => absurd c4 (by omega)) (fun c4 => ?_)
  refine ev_aload_n d_Mo_writeSix_7 rfl rfl ?_
  refine ev_lload_n d_Mo_writeSix_8 rfl rfl ?_
  refine ev_iload_n d_Mo_writeSix_9 rfl rfl ?_
  refine ev_top (8 * ((4 : Nat) : Int)) (rfl) ?_
  refine ev_lshr d_Mo_writeSix_10 ?_
  refine ev_ldc2 (v := lZ 255) d_Mo_writeSix_11 kc_Mo_98 ?_
  refine ev_land d_Mo_writeSix_14 ?_
  refine ev_l2i d_Mo_writeSix_15 ?_
  rw [byte_s (by decide)]
  refine ev_callV M_Mo_write1 (rm 0 0) _ (As := [.int (iZ (byteZ t 4))]) (c_Mo_write1 G h1 σ2 m bu F cn (L ++ [byteZ t 5]) (byteZ t 4) hm f1 f23 f24 hbu hcn (by first | omega | (simp only [List.length_append, List.length_cons, List.length_nil, dgL_l, txL_l, oTime_l, oFr_l, sixL_l]; omega))) d_Mo_writeSix_16 mk_Mo_write1 ml_Mo_186 mv_Mo_write1 hm rfl rfl rfl (Nat.le_of_ble_eq_true rfl) ⟨by decide, by decide⟩ ⟨by decide, by decide⟩ (fun r h3 hq => ?_)
  obtain ⟨rfl, ⟨σ4, gm, g23, gs⟩, gbu, fmc⟩ := hq
  have f1 := (gs 1 (by decide)).trans f1
  have f24 := (gs 24 (by decide)).trans f24
  have f23 := g23
  have hm := gm
  have hbu := gbu
  have fm := fm.call (by simp) fmc
  have fs := fs.call (by simp) gs
  refine ez_iinc (L' := [(0, .ref m), (1, .long (lZ t)), (3, .int (iZ 24))]) d_Mo_writeSix_19 rfl (by decide) rfl ?_
  refine ev_goto (tgt := 3) d_Mo_writeSix_22 rfl ?_
  refine ev_iload_n d_Mo_writeSix_3 rfl rfl ?_
  refine ez_if_lt (tgt := 25) (by decide) d_Mo_writeSix_4 rfl (fun c4 => absurd c4 (by omega)) (fun c4 => ?_)
  refine ev_aload_n d_Mo_writeSix_7 rfl rfl ?_
  refine ev_lload_n d_Mo_writeSix_8 rfl rfl ?_
  refine ev_iload_n d_Mo_writeSix_9 rfl rfl ?_
  refine ev_top (8 * ((3 : Nat) : Int)) (rfl) ?_
  refine ev_lshr d_Mo_writeSix_10 ?_
  refine ev_ldc2 (v := lZ 255) d_Mo_writeSix_11 kc_Mo_98 ?_
  refine ev_land d_Mo_writeSix_14 ?_
  refine ev_l2i d_Mo_writeSix_15 ?_
  rw [byte_s (by decide)]
  refine ev_callV M_Mo_write1 (rm 0 0) _ (As := [.int (iZ (byteZ t 3))]) (c_Mo_write1 G h3 σ4 m bu F cn (L ++ [byteZ t 5] ++ [byteZ t 4]) (byteZ t 3) hm f1 f23 f24 hbu hcn (by first | omega | (simp only [List.length_append, List.length_cons, List.length_nil, dgL_l, txL_l, oTime_l, oFr_l, sixL_l]; omega))) d_Mo_writeSix_16 mk_Mo_write1 ml_Mo_186 mv_Mo_write1 hm rfl rfl rfl (Nat.le_of_ble_eq_true rfl) ⟨by decide, by decide⟩ ⟨by decide, by decide⟩ (fun r h5 hq => ?_)
  obtain ⟨rfl, ⟨σ6, gm, g23, gs⟩, gbu, fmc⟩ := hq
  have f1 := (gs 1 (by decide)).trans f1
  have f24 := (gs 24 (by decide)).trans f24
  have f23 := g23
  have hm := gm
  have hbu := gbu
  have fm := fm.call (by simp) fmc
  have fs := fs.call (by simp) gs
  refine ez_iinc (L' := [(0, .ref m), (1, .long (lZ t)), (3, .int (iZ 16))]) d_Mo_writeSix_19 rfl (by decide) rfl ?_
  refine ev_goto (tgt := 3) d_Mo_writeSix_22 rfl ?_
  refine ev_iload_n d_Mo_writeSix_3 rfl rfl ?_
  refine ez_if_lt (tgt := 25) (by decide) d_Mo_writeSix_4 rfl (fun c4 => absurd c4 (by omega)) (fun c4 => ?_)
  refine ev_aload_n d_Mo_writeSix_7 rfl rfl ?_
  refine ev_lload_n d_Mo_writeSix_8 rfl rfl ?_
  refine ev_iload_n d_Mo_writeSix_9 rfl rfl ?_
  refine ev_top (8 * ((2 : Nat) : Int)) (rfl) ?_
  refine ev_lshr d_Mo_writeSix_10 ?_
  refine ev_ldc2 (v := lZ 255) d_Mo_writeSix_11 kc_Mo_98 ?_
  refine ev_land d_Mo_writeSix_14 ?_
  refine ev_l2i d_Mo_writeSix_15 ?_
  rw [byte_s (by decide)]
  refine ev_callV M_Mo_write1 (rm 0 0) _ (As := [.int (iZ (byteZ t 2))]) (c_Mo_write1 G h5 σ6 m bu F cn (L ++ [byteZ t 5] ++ [byteZ t 4] ++ [byteZ t 3]) (byteZ t 2) hm f1 f23 f24 hbu hcn (by first | omega | (simp only [List.length_append, List.length_cons, List.length_nil, dgL_l, txL_l, oTime_l, oFr_l, sixL_l]; omega))) d_Mo_writeSix_16 mk_Mo_write1 ml_Mo_186 mv_Mo_write1 hm rfl rfl rfl (Nat.le_of_ble_eq_true rfl) ⟨by decide, by decide⟩ ⟨by decide, by decide⟩ (fun r h7 hq => ?_)
  obtain ⟨rfl, ⟨σ8, gm, g23, gs⟩, gbu, fmc⟩ := hq
  have f1 := (gs 1 (by decide)).trans f1
  have f24 := (gs 24 (by decide)).trans f24
  have f23 := g23
  have hm := gm
  have hbu := gbu
  have fm := fm.call (by simp) fmc
  have fs := fs.call (by simp) gs
  refine ez_iinc (L' := [(0, .ref m), (1, .long (lZ t)), (3, .int (iZ 8))]) d_Mo_writeSix_19 rfl (by decide) rfl ?_
  refine ev_goto (tgt := 3) d_Mo_writeSix_22 rfl ?_
  refine ev_iload_n d_Mo_writeSix_3 rfl rfl ?_
  refine ez_if_lt (tgt := 25) (by decide) d_Mo_writeSix_4 rfl (fun c4 => absurd c4 (by omega)) (fun c4 => ?_)
  refine ev_aload_n d_Mo_writeSix_7 rfl rfl ?_
  refine ev_lload_n d_Mo_writeSix_8 rfl rfl ?_
  refine ev_iload_n d_Mo_writeSix_9 rfl rfl ?_
  refine ev_top (8 * ((1 : Nat) : Int)) (rfl) ?_
  refine ev_lshr d_Mo_writeSix_10 ?_
  refine ev_ldc2 (v := lZ 255) d_Mo_writeSix_11 kc_Mo_98 ?_
  refine ev_land d_Mo_writeSix_14 ?_
  refine ev_l2i d_Mo_writeSix_15 ?_
  rw [byte_s (by decide)]
  refine ev_callV M_Mo_write1 (rm 0 0) _ (As := [.int (iZ (byteZ t 1))]) (c_Mo_write1 G h7 σ8 m bu F cn (L ++ [byteZ t 5] ++ [byteZ t 4] ++ [byteZ t 3] ++ [byteZ t 2]) (byteZ t 1) hm f1 f23 f24 hbu hcn (by first | omega | (simp only [List.length_append, List.length_cons, List.length_nil, dgL_l, txL_l, oTime_l, oFr_l, sixL_l]; omega))) d_Mo_writeSix_16 mk_Mo_write1 ml_Mo_186 mv_Mo_write1 hm rfl rfl rfl (Nat.le_of_ble_eq_true rfl) ⟨by decide, by decide⟩ ⟨by decide, by decide⟩ (fun r h9 hq => ?_)
  obtain ⟨rfl, ⟨σ10, gm, g23, gs⟩, gbu, fmc⟩ := hq
  have f1 := (gs 1 (by decide)).trans f1
  have f24 := (gs 24 (by decide)).trans f24
  have f23 := g23
  have hm := gm
  have hbu := gbu
  have fm := fm.call (by simp) fmc
  have fs := fs.call (by simp) gs
  refine ez_iinc (L' := [(0, .ref m), (1, .long (lZ t)), (3, .int (iZ 0))]) d_Mo_writeSix_19 rfl (by decide) rfl ?_
  refine ev_goto (tgt := 3) d_Mo_writeSix_22 rfl ?_
  refine ev_iload_n d_Mo_writeSix_3 rfl rfl ?_
  refine ez_if_lt (tgt := 25) (by decide) d_Mo_writeSix_4 rfl (fun c4 => absurd c4 (by omega)) (fun c4 => ?_)
  refine ev_aload_n d_Mo_writeSix_7 rfl rfl ?_
  refine ev_lload_n d_Mo_writeSix_8 rfl rfl ?_
  refine ev_iload_n d_Mo_writeSix_9 rfl rfl ?_
  refine ev_top (8 * ((0 : Nat) : Int)) (rfl) ?_
  refine ev_lshr d_Mo_writeSix_10 ?_
  refine ev_ldc2 (v := lZ 255) d_Mo_writeSix_11 kc_Mo_98 ?_
  refine ev_land d_Mo_writeSix_14 ?_
  refine ev_l2i d_Mo_writeSix_15 ?_
  rw [byte_s (by decide)]
  refine ev_callV M_Mo_write1 (rm 0 0) _ (As := [.int (iZ (byteZ t 0))]) (c_Mo_write1 G h9 σ10 m bu F cn (L ++ [byteZ t 5] ++ [byteZ t 4] ++ [byteZ t 3] ++ [byteZ t 2] ++ [byteZ t 1]) (byteZ t 0) hm f1 f23 f24 hbu hcn (by first | omega | (simp only [List.length_append, List.length_cons, List.length_nil, dgL_l, txL_l, oTime_l, oFr_l, sixL_l]; omega))) d_Mo_writeSix_16 mk_Mo_write1 ml_Mo_186 mv_Mo_write1 hm rfl rfl rfl (Nat.le_of_ble_eq_true rfl) ⟨by decide, by decide⟩ ⟨by decide, by decide⟩ (fun r h11 hq => ?_)
  obtain ⟨rfl, ⟨σ12, gm, g23, gs⟩, gbu, fmc⟩ := hq
  have f1 := (gs 1 (by decide)).trans f1
  have f24 := (gs 24 (by decide)).trans f24
  have f23 := g23
  have hm := gm
  have hbu := gbu
  have fm := fm.call (by simp) fmc
  have fs := fs.call (by simp) gs
  refine ez_iinc (L' := [(0, .ref m), (1, .long (lZ t)), (3, .int (iZ (-8)))]) d_Mo_writeSix_19 rfl (by decide) rfl ?_
  refine ev_goto (tgt := 3) d_Mo_writeSix_22 rfl ?_
  refine ev_iload_n d_Mo_writeSix_3 rfl rfl ?_
  refine ez_if_lt (tgt := 25) (by decide) d_Mo_writeSix_4 rfl (fun c4 => ?_) (fun c4 => absurd c4 (by omega))
  have e9 : L ++ [byteZ t 5] ++ [byteZ t 4] ++ [byteZ t 3] ++ [byteZ t 2] ++ [byteZ t 1] ++ [byteZ t 0] = L ++ sixL t 6 := by simp only [sixL, List.append_assoc, List.cons_append, List.nil_append]
  exact ev_return d_Mo_writeSix_25 rfl (by decide) (by decide) (⟨rfl, ⟨σ12, hm, by rw [← e9]; exact f23, fs⟩, by rw [← e9]; exact hbu, fm⟩)
set_option maxHeartbeats 4000000 in
set_option maxRecDepth 100000 in
theorem lp_Mo_wc (G : GT) (Q : Option Value → HM → Prop) (h0 : HM) (σ0 : Nat → Value) (m bu s3 s4 i : Nat) (F S3 S4 : Nat → Int) (cn e f : Int) (L : List Int) (hi : i < 16) (hz : 0 ≤ S3 i ∧ S3 i ≤ 64) (hB : ∀ k, 0 ≤ S4 k ∧ S4 k ≤ 255) (hfo : f = 0 ∨ f = 1 ∨ f = 2) (he1 : f = 1 → e = 124) (he0 : f ≠ 1 → e = 10) (hcn : cn = 0 ∨ cn = 1) (hlen : (cn = 1 ∨ L.length + ((S3 i).toNat) ≤ 1000) ∧ L.length + ((S3 i).toNat) ≤ 2000) (kk : ∀ h σ, h m = some (.inr (11, fsN 34 σ)) → σ 1 = .ref bu → σ 7 = .ref s3 → σ 8 = .ref s4 → σ 23 = .int (iZ ((L ++ txL S4 (i * 64) e (S3 i).toNat).length : Int)) → σ 24 = .int (iZ cn) → h bu = some (.inl (G_i G, 1000, .inl (iA (bufC cn F (L ++ txL S4 (i * 64) e (S3 i).toNat))))) → h s3 = some (.inl (G_i G, 16, .inl (iA S3))) → h s4 = some (.inl (G_i G, 1024, .inl (iA S4))) → Fm [m, bu] h0 h → Fs [23] σ0 σ → Ev G M_Mo_writeCue (rm 3 90) Q 163 [(0, .ref m), (1, .int (iZ (i : Int))), (2, .int (iZ f)), (3, .int (iZ ((S3 i).toNat : Int)))] [] h 0 0) : ∀ (d : Nat) (j : Nat) (h : HM) (σ : Nat → Value), j + d = (S3 i).toNat → h m = some (.inr (11, fsN 34 σ)) → σ 1 = .ref bu → σ 7 = .ref s3 → σ 8 = .ref s4 → σ 23 = .int (iZ ((L ++ txL S4 (i * 64) e j).length : Int)) → σ 24 = .int (iZ cn) → h bu = some (.inl (G_i G, 1000, .inl (iA (bufC cn F (L ++ txL S4 (i * 64) e j))))) → h s3 = some (.inl (G_i G, 16, .inl (iA S3))) → h s4 = some (.inl (G_i G, 1024, .inl (iA S4))) → Fm [m, bu] h0 h → Fs [23] σ0 σ → Ev G M_Mo_writeCue (rm 3 90) (Q) 111 [(0, .ref m), (1, .int (iZ (i : Int))), (2, .int (iZ f)), (3, .int (iZ (j : Int)))] [] h 0 0 := by
  intro d
  induction d using Nat.strongRecOn with
  | ind d ih =>
  intro j h σ hd hm f1 f7 f8 f23 f24 hbu hs3 hs4 fm fs
  refine ev_iload_n d_Mo_writeCue_111 rfl rfl ?_
  refine ev_aload_n d_Mo_writeCue_112 rfl rfl ?_
  refine ev_getF d_Mo_writeCue_113 fl_Mo_27 hm (by decide) f7 ?_
  refine ev_iload_n d_Mo_writeCue_116 rfl rfl ?_
  refine ez_iaload i d_Mo_writeCue_117 hs3 (by omega) (by omega) (by decide) ?_
  refine ez_icmp_ge (tgt := 163) (by omega) (by omega) d_Mo_writeCue_118 rfl (fun c118 => ?_) (fun c118 => ?_)
  · have ej : j = (S3 i).toNat := by omega
    rw [ej] at f23 hbu ⊢
    exact kk h σ hm f1 f7 f8 f23 f24 hbu hs3 hs4 fm fs
  · refine ev_aload_n d_Mo_writeCue_121 rfl rfl ?_
    refine ev_getF d_Mo_writeCue_122 fl_Mo_30 hm (by decide) f8 ?_
    refine ev_bipush (v := iZ 64) d_Mo_writeCue_125 rfl ?_
    refine ev_iload_n d_Mo_writeCue_127 rfl rfl ?_
    refine ez_imul d_Mo_writeCue_128 ?_
    refine ev_iload_n d_Mo_writeCue_129 rfl rfl ?_
    refine ez_iadd d_Mo_writeCue_130 ?_
    refine ez_iaload (i * 64 + j) d_Mo_writeCue_131 hs4 (by omega) (by omega) (by decide) ?_
    have rb := hB (i * 64 + j)
    refine ev_istore (L' := [(0, .ref m), (1, .int (iZ (i : Int))), (2, .int (iZ f)), (3, .int (iZ (j : Int))), (4, .int (iZ (S4 (i * 64 + j))))]) d_Mo_writeCue_132 (by decide) rfl ?_
    refine ev_aload_n d_Mo_writeCue_134 rfl rfl ?_
    refine ev_iload_n d_Mo_writeCue_135 rfl rfl ?_
    refine ev_iconst (v := iZ 1) d_Mo_writeCue_136 rfl ?_
    refine ez_icmp_ne (tgt := 152) (by omega) (by decide) d_Mo_writeCue_137 rfl (fun c137 => ?_) (fun c137 => ?_)
    · refine ev_iload d_Mo_writeCue_152 rfl ?_
      refine ev_callV M_Mo_write1 (rm 0 0) _ (As := [.int (iZ (S4 (i * 64 + j)))]) (c_Mo_write1 G h σ m bu F cn (L ++ txL S4 (i * 64) e j) (S4 (i * 64 + j)) hm f1 f23 f24 hbu hcn (by first | omega | (simp only [List.length_append, List.length_cons, List.length_nil, dgL_l, txL_l, oTime_l, oFr_l, sixL_l]; omega))) d_Mo_writeCue_154 mk_Mo_write1 ml_Mo_186 mv_Mo_write1 hm rfl rfl rfl (Nat.le_of_ble_eq_true rfl) ⟨by decide, by decide⟩ ⟨by decide, by decide⟩ (fun r h1 hq => ?_)
      obtain ⟨rfl, ⟨σ2, gm, g23, gs⟩, gbu, fmc⟩ := hq
      have hs3 := (fmc _ (ninc (cne hs3 hm (by simp)) (ninc (cne hs3 hbu (by simp)) nin0))).trans hs3
      have hs4 := (fmc _ (ninc (cne hs4 hm (by simp)) (ninc (cne hs4 hbu (by simp)) nin0))).trans hs4
      have f1 := (gs 1 (by decide)).trans f1
      have f7 := (gs 7 (by decide)).trans f7
      have f8 := (gs 8 (by decide)).trans f8
      have f24 := (gs 24 (by decide)).trans f24
      have f23 := g23
      have hm := gm
      have hbu := gbu
      have fm := fm.call (by simp) fmc
      have fs := fs.call (by simp) gs
      refine ez_iinc (L' := [(0, .ref m), (1, .int (iZ (i : Int))), (2, .int (iZ f)), (3, .int (iZ ((j + 1 : Nat) : Int))), (4, .int (iZ (S4 (i * 64 + j))))]) d_Mo_writeCue_157 rfl (by decide) rfl ?_
      refine ev_goto (tgt := 111) d_Mo_writeCue_160 rfl ?_
      have hx9 : (if S4 (i * 64 + j) = 10 then e else S4 (i * 64 + j)) = S4 (i * 64 + j) := by split <;> omega
      have e9 : L ++ txL S4 (i * 64) e j ++ [S4 (i * 64 + j)] = L ++ txL S4 (i * 64) e (j + 1) := by rw [txL, hx9, List.append_assoc]
      refine ev_loc [(0, .ref m), (1, .int (iZ (i : Int))), (2, .int (iZ f)), (3, .int (iZ ((j + 1 : Nat) : Int)))] (by simp) ?_
      exact ih (d - 1) (by omega) (j + 1) h1 σ2 (by omega) hm f1 f7 f8 (by rw [← e9]; exact f23) f24 (by rw [← e9]; exact hbu) hs3 hs4 fm fs
    · refine ev_iload d_Mo_writeCue_140 rfl ?_
      refine ev_bipush (v := iZ 10) d_Mo_writeCue_142 rfl ?_
      refine ez_icmp_ne (tgt := 152) (by omega) (by decide) d_Mo_writeCue_144 rfl (fun c144 => ?_) (fun c144 => ?_)
      · refine ev_iload d_Mo_writeCue_152 rfl ?_
        refine ev_callV M_Mo_write1 (rm 0 0) _ (As := [.int (iZ (S4 (i * 64 + j)))]) (c_Mo_write1 G h σ m bu F cn (L ++ txL S4 (i * 64) e j) (S4 (i * 64 + j)) hm f1 f23 f24 hbu hcn (by first | omega | (simp only [List.length_append, List.length_cons, List.length_nil, dgL_l, txL_l, oTime_l, oFr_l, sixL_l]; omega))) d_Mo_writeCue_154 mk_Mo_write1 ml_Mo_186 mv_Mo_write1 hm rfl rfl rfl (Nat.le_of_ble_eq_true rfl) ⟨by decide, by decide⟩ ⟨by decide, by decide⟩ (fun r h3 hq => ?_)
        obtain ⟨rfl, ⟨σ4, gm, g23, gs⟩, gbu, fmc⟩ := hq
        have hs3 := (fmc _ (ninc (cne hs3 hm (by simp)) (ninc (cne hs3 hbu (by simp)) nin0))).trans hs3
        have hs4 := (fmc _ (ninc (cne hs4 hm (by simp)) (ninc (cne hs4 hbu (by simp)) nin0))).trans hs4
        have f1 := (gs 1 (by decide)).trans f1
        have f7 := (gs 7 (by decide)).trans f7
        have f8 := (gs 8 (by decide)).trans f8
        have f24 := (gs 24 (by decide)).trans f24
        have f23 := g23
        have hm := gm
        have hbu := gbu
        have fm := fm.call (by simp) fmc
        have fs := fs.call (by simp) gs
        refine ez_iinc (L' := [(0, .ref m), (1, .int (iZ (i : Int))), (2, .int (iZ f)), (3, .int (iZ ((j + 1 : Nat) : Int))), (4, .int (iZ (S4 (i * 64 + j))))]) d_Mo_writeCue_157 rfl (by decide) rfl ?_
        refine ev_goto (tgt := 111) d_Mo_writeCue_160 rfl ?_
        have hx9 : (if S4 (i * 64 + j) = 10 then e else S4 (i * 64 + j)) = S4 (i * 64 + j) := by split <;> omega
        have e9 : L ++ txL S4 (i * 64) e j ++ [S4 (i * 64 + j)] = L ++ txL S4 (i * 64) e (j + 1) := by rw [txL, hx9, List.append_assoc]
        refine ev_loc [(0, .ref m), (1, .int (iZ (i : Int))), (2, .int (iZ f)), (3, .int (iZ ((j + 1 : Nat) : Int)))] (by simp) ?_
        exact ih (d - 1) (by omega) (j + 1) h3 σ4 (by omega) hm f1 f7 f8 (by rw [← e9]; exact f23) f24 (by rw [← e9]; exact hbu) hs3 hs4 fm fs
      · refine ev_bipush (v := iZ 124) d_Mo_writeCue_147 rfl ?_
        refine ev_goto (tgt := 154) d_Mo_writeCue_149 rfl ?_
        refine ev_callV M_Mo_write1 (rm 0 0) _ (As := [.int (iZ 124)]) (c_Mo_write1 G h σ m bu F cn (L ++ txL S4 (i * 64) e j) (124) hm f1 f23 f24 hbu hcn (by first | omega | (simp only [List.length_append, List.length_cons, List.length_nil, dgL_l, txL_l, oTime_l, oFr_l, sixL_l]; omega))) d_Mo_writeCue_154 mk_Mo_write1 ml_Mo_186 mv_Mo_write1 hm rfl rfl rfl (Nat.le_of_ble_eq_true rfl) ⟨by decide, by decide⟩ ⟨by decide, by decide⟩ (fun r h5 hq => ?_)
        obtain ⟨rfl, ⟨σ6, gm, g23, gs⟩, gbu, fmc⟩ := hq
        have hs3 := (fmc _ (ninc (cne hs3 hm (by simp)) (ninc (cne hs3 hbu (by simp)) nin0))).trans hs3
        have hs4 := (fmc _ (ninc (cne hs4 hm (by simp)) (ninc (cne hs4 hbu (by simp)) nin0))).trans hs4
        have f1 := (gs 1 (by decide)).trans f1
        have f7 := (gs 7 (by decide)).trans f7
        have f8 := (gs 8 (by decide)).trans f8
        have f24 := (gs 24 (by decide)).trans f24
        have f23 := g23
        have hm := gm
        have hbu := gbu
        have fm := fm.call (by simp) fmc
        have fs := fs.call (by simp) gs
        refine ez_iinc (L' := [(0, .ref m), (1, .int (iZ (i : Int))), (2, .int (iZ f)), (3, .int (iZ ((j + 1 : Nat) : Int))), (4, .int (iZ (S4 (i * 64 + j))))]) d_Mo_writeCue_157 rfl (by decide) rfl ?_
        refine ev_goto (tgt := 111) d_Mo_writeCue_160 rfl ?_
        have hx9 : (if S4 (i * 64 + j) = 10 then e else S4 (i * 64 + j)) = 124 := by split <;> omega
        have e9 : L ++ txL S4 (i * 64) e j ++ [124] = L ++ txL S4 (i * 64) e (j + 1) := by rw [txL, hx9, List.append_assoc]
        refine ev_loc [(0, .ref m), (1, .int (iZ (i : Int))), (2, .int (iZ f)), (3, .int (iZ ((j + 1 : Nat) : Int)))] (by simp) ?_
        exact ih (d - 1) (by omega) (j + 1) h5 σ6 (by omega) hm f1 f7 f8 (by rw [← e9]; exact f23) f24 (by rw [← e9]; exact hbu) hs3 hs4 fm fs
set_option maxHeartbeats 4000000 in
set_option maxRecDepth 100000 in
theorem c_Mo_writeCue0 (G : GT) (h : HM) (σ : Nat → Value) (m bu : Nat) (F : Nat → Int) (cn : Int) (L : List Int) (s1 s2 s3 s4 i : Nat) (S1 S2 S3 S4 : Nat → Int) (num den tk : Int) (hm : h m = some (.inr (11, fsN 34 σ))) (f1 : σ 1 = .ref bu) (f2 : σ 2 = .int (iZ num)) (f3 : σ 3 = .int (iZ den)) (f5 : σ 5 = .ref s1) (f6 : σ 6 = .ref s2) (f7 : σ 7 = .ref s3) (f8 : σ 8 = .ref s4) (f23 : σ 23 = .int (iZ ((L).length : Int))) (f24 : σ 24 = .int (iZ cn)) (hbu : h bu = some (.inl (G_i G, 1000, .inl (iA (bufC cn F (L)))))) (hs1 : h s1 = some (.inl (G_j G, 16, .inr (.inl (lA S1))))) (hs2 : h s2 = some (.inl (G_j G, 16, .inr (.inl (lA S2))))) (hs3 : h s3 = some (.inl (G_i G, 16, .inl (iA S3)))) (hs4 : h s4 = some (.inl (G_i G, 1024, .inl (iA S4)))) (hnum : 1 ≤ num ∧ num ≤ 120000) (hden : 1 ≤ den ∧ den ≤ 1001) (htk : tk = 705600000 * den / num) (htr : 11760000 ≤ tk ∧ tk ≤ 705600000) (hT : ∀ k, 0 ≤ S1 k ∧ S1 k ≤ 2540160000000) (hE : ∀ k, 0 ≤ S2 k ∧ S2 k ≤ 2540160000000) (hZ : ∀ k, 0 ≤ S3 k ∧ S3 k ≤ 64) (hB : ∀ k, 0 ≤ S4 k ∧ S4 k ≤ 255) (hi : i < 16) (hcn : cn = 0 ∨ cn = 1) (hlen : (cn = 1 ∨ L.length + (30 + (S3 i).toNat) ≤ 1000) ∧ L.length + (30 + (S3 i).toNat) ≤ 2000) : Rn G M_Mo_writeCue (rm 3 90) [.ref m, .int (iZ (i : Int)), .int (iZ 0)] h (fun r h' => r = none ∧ (∃ σ', h' m = some (.inr (11, fsN 34 σ')) ∧ σ' 23 = .int (iZ ((L ++ (oBlk S1 S2 S3 S4 i)).length : Int)) ∧ Fs [23] σ σ') ∧ h' bu = some (.inl (G_i G, 1000, .inl (iA (bufC cn F (L ++ (oBlk S1 S2 S3 S4 i)))))) ∧ Fm [m, bu] h h') := by
  refine rn_of (by decide) (Nat.le_of_ble_eq_true rfl) ?_
  show Ev G M_Mo_writeCue _ _ 0 [(0, .ref m), (1, .int (iZ (i : Int))), (2, .int (iZ 0))] [] _ 0 0
  have fm : Fm [m, bu] h h := Fm.rf
  have fs : Fs [23] σ σ := Fs.rf
  have t0 := hT i
  have e0 := hE i
  have z0 := hZ i
  have rn1 := ndg_r (nearZ (S1 i) tk)
  have rn2 := ndg_r (nearZ (S2 i) tk)
  refine ev_iload_n d_Mo_writeCue_0 rfl rfl ?_
  refine ez_if_ne (tgt := 51) (by decide) d_Mo_writeCue_1 rfl (fun c1 => absurd c1 (by omega)) (fun c1 => ?_)
  refine ev_aload_n d_Mo_writeCue_4 rfl rfl ?_
  refine ev_aload_n d_Mo_writeCue_5 rfl rfl ?_
  refine ev_getF d_Mo_writeCue_6 fl_Mo_20 hm (by decide) f5 ?_
  refine ev_iload_n d_Mo_writeCue_9 rfl rfl ?_
  refine ez_laload i d_Mo_writeCue_10 hs1 (by omega) (by omega) (by decide) ?_
  refine ev_callV M_Mo_writeClock (rm 2 60) _ (As := [.long (lZ (S1 i))]) (c_Mo_writeClock G h σ m bu F cn (L) (S1 i) hm f1 f23 f24 hbu (by omega) hcn (by first | omega | (simp only [List.length_append, List.length_cons, List.length_nil, dgL_l, txL_l, oTime_l, oFr_l, sixL_l]; omega))) d_Mo_writeCue_11 mk_Mo_writeClock ml_Mo_203 mv_Mo_writeClock hm rfl rfl rfl (Nat.le_of_ble_eq_true rfl) ⟨by decide, by decide⟩ ⟨by decide, by decide⟩ (fun r h1 hq => ?_)
  obtain ⟨rfl, ⟨σ2, gm, g23, gs⟩, gbu, fmc⟩ := hq
  have hs1 := (fmc _ (ninc (cne hs1 hm (by simp)) (ninc (cne hs1 hbu (by simp)) nin0))).trans hs1
  have hs2 := (fmc _ (ninc (cne hs2 hm (by simp)) (ninc (cne hs2 hbu (by simp)) nin0))).trans hs2
  have hs3 := (fmc _ (ninc (cne hs3 hm (by simp)) (ninc (cne hs3 hbu (by simp)) nin0))).trans hs3
  have hs4 := (fmc _ (ninc (cne hs4 hm (by simp)) (ninc (cne hs4 hbu (by simp)) nin0))).trans hs4
  have f1 := (gs 1 (by decide)).trans f1
  have f2 := (gs 2 (by decide)).trans f2
  have f3 := (gs 3 (by decide)).trans f3
  have f5 := (gs 5 (by decide)).trans f5
  have f6 := (gs 6 (by decide)).trans f6
  have f7 := (gs 7 (by decide)).trans f7
  have f8 := (gs 8 (by decide)).trans f8
  have f24 := (gs 24 (by decide)).trans f24
  have f23 := g23
  have hm := gm
  have hbu := gbu
  have fm := fm.call (by simp) fmc
  have fs := fs.call (by simp) gs
  refine ev_aload_n d_Mo_writeCue_14 rfl rfl ?_
  refine ev_bipush (v := iZ 32) d_Mo_writeCue_15 rfl ?_
  refine ev_callV M_Mo_write1 (rm 0 0) _ (As := [.int (iZ 32)]) (c_Mo_write1 G h1 σ2 m bu F cn (L ++ oTime (S1 i)) (32) hm f1 f23 f24 hbu hcn (by first | omega | (simp only [List.length_append, List.length_cons, List.length_nil, dgL_l, txL_l, oTime_l, oFr_l, sixL_l]; omega))) d_Mo_writeCue_17 mk_Mo_write1 ml_Mo_186 mv_Mo_write1 hm rfl rfl rfl (Nat.le_of_ble_eq_true rfl) ⟨by decide, by decide⟩ ⟨by decide, by decide⟩ (fun r h3 hq => ?_)
  obtain ⟨rfl, ⟨σ4, gm, g23, gs⟩, gbu, fmc⟩ := hq
  have hs1 := (fmc _ (ninc (cne hs1 hm (by simp)) (ninc (cne hs1 hbu (by simp)) nin0))).trans hs1
  have hs2 := (fmc _ (ninc (cne hs2 hm (by simp)) (ninc (cne hs2 hbu (by simp)) nin0))).trans hs2
  have hs3 := (fmc _ (ninc (cne hs3 hm (by simp)) (ninc (cne hs3 hbu (by simp)) nin0))).trans hs3
  have hs4 := (fmc _ (ninc (cne hs4 hm (by simp)) (ninc (cne hs4 hbu (by simp)) nin0))).trans hs4
  have f1 := (gs 1 (by decide)).trans f1
  have f2 := (gs 2 (by decide)).trans f2
  have f3 := (gs 3 (by decide)).trans f3
  have f5 := (gs 5 (by decide)).trans f5
  have f6 := (gs 6 (by decide)).trans f6
  have f7 := (gs 7 (by decide)).trans f7
  have f8 := (gs 8 (by decide)).trans f8
  have f24 := (gs 24 (by decide)).trans f24
  have f23 := g23
  have hm := gm
  have hbu := gbu
  have fm := fm.call (by simp) fmc
  have fs := fs.call (by simp) gs
  refine ev_aload_n d_Mo_writeCue_20 rfl rfl ?_
  refine ev_bipush (v := iZ 62) d_Mo_writeCue_21 rfl ?_
  refine ev_callV M_Mo_write1 (rm 0 0) _ (As := [.int (iZ 62)]) (c_Mo_write1 G h3 σ4 m bu F cn (L ++ oTime (S1 i) ++ [32]) (62) hm f1 f23 f24 hbu hcn (by first | omega | (simp only [List.length_append, List.length_cons, List.length_nil, dgL_l, txL_l, oTime_l, oFr_l, sixL_l]; omega))) d_Mo_writeCue_23 mk_Mo_write1 ml_Mo_186 mv_Mo_write1 hm rfl rfl rfl (Nat.le_of_ble_eq_true rfl) ⟨by decide, by decide⟩ ⟨by decide, by decide⟩ (fun r h5 hq => ?_)
  obtain ⟨rfl, ⟨σ6, gm, g23, gs⟩, gbu, fmc⟩ := hq
  have hs1 := (fmc _ (ninc (cne hs1 hm (by simp)) (ninc (cne hs1 hbu (by simp)) nin0))).trans hs1
  have hs2 := (fmc _ (ninc (cne hs2 hm (by simp)) (ninc (cne hs2 hbu (by simp)) nin0))).trans hs2
  have hs3 := (fmc _ (ninc (cne hs3 hm (by simp)) (ninc (cne hs3 hbu (by simp)) nin0))).trans hs3
  have hs4 := (fmc _ (ninc (cne hs4 hm (by simp)) (ninc (cne hs4 hbu (by simp)) nin0))).trans hs4
  have f1 := (gs 1 (by decide)).trans f1
  have f2 := (gs 2 (by decide)).trans f2
  have f3 := (gs 3 (by decide)).trans f3
  have f5 := (gs 5 (by decide)).trans f5
  have f6 := (gs 6 (by decide)).trans f6
  have f7 := (gs 7 (by decide)).trans f7
  have f8 := (gs 8 (by decide)).trans f8
  have f24 := (gs 24 (by decide)).trans f24
  have f23 := g23
  have hm := gm
  have hbu := gbu
  have fm := fm.call (by simp) fmc
  have fs := fs.call (by simp) gs
  refine ev_aload_n d_Mo_writeCue_26 rfl rfl ?_
  refine ev_bipush (v := iZ 32) d_Mo_writeCue_27 rfl ?_
  refine ev_callV M_Mo_write1 (rm 0 0) _ (As := [.int (iZ 32)]) (c_Mo_write1 G h5 σ6 m bu F cn (L ++ oTime (S1 i) ++ [32] ++ [62]) (32) hm f1 f23 f24 hbu hcn (by first | omega | (simp only [List.length_append, List.length_cons, List.length_nil, dgL_l, txL_l, oTime_l, oFr_l, sixL_l]; omega))) d_Mo_writeCue_29 mk_Mo_write1 ml_Mo_186 mv_Mo_write1 hm rfl rfl rfl (Nat.le_of_ble_eq_true rfl) ⟨by decide, by decide⟩ ⟨by decide, by decide⟩ (fun r h7 hq => ?_)
  obtain ⟨rfl, ⟨σ8, gm, g23, gs⟩, gbu, fmc⟩ := hq
  have hs1 := (fmc _ (ninc (cne hs1 hm (by simp)) (ninc (cne hs1 hbu (by simp)) nin0))).trans hs1
  have hs2 := (fmc _ (ninc (cne hs2 hm (by simp)) (ninc (cne hs2 hbu (by simp)) nin0))).trans hs2
  have hs3 := (fmc _ (ninc (cne hs3 hm (by simp)) (ninc (cne hs3 hbu (by simp)) nin0))).trans hs3
  have hs4 := (fmc _ (ninc (cne hs4 hm (by simp)) (ninc (cne hs4 hbu (by simp)) nin0))).trans hs4
  have f1 := (gs 1 (by decide)).trans f1
  have f2 := (gs 2 (by decide)).trans f2
  have f3 := (gs 3 (by decide)).trans f3
  have f5 := (gs 5 (by decide)).trans f5
  have f6 := (gs 6 (by decide)).trans f6
  have f7 := (gs 7 (by decide)).trans f7
  have f8 := (gs 8 (by decide)).trans f8
  have f24 := (gs 24 (by decide)).trans f24
  have f23 := g23
  have hm := gm
  have hbu := gbu
  have fm := fm.call (by simp) fmc
  have fs := fs.call (by simp) gs
  refine ev_aload_n d_Mo_writeCue_32 rfl rfl ?_
  refine ev_aload_n d_Mo_writeCue_33 rfl rfl ?_
  refine ev_getF d_Mo_writeCue_34 fl_Mo_24 hm (by decide) f6 ?_
  refine ev_iload_n d_Mo_writeCue_37 rfl rfl ?_
  refine ez_laload i d_Mo_writeCue_38 hs2 (by omega) (by omega) (by decide) ?_
  refine ev_callV M_Mo_writeClock (rm 2 60) _ (As := [.long (lZ (S2 i))]) (c_Mo_writeClock G h7 σ8 m bu F cn (L ++ oTime (S1 i) ++ [32] ++ [62] ++ [32]) (S2 i) hm f1 f23 f24 hbu (by omega) hcn (by first | omega | (simp only [List.length_append, List.length_cons, List.length_nil, dgL_l, txL_l, oTime_l, oFr_l, sixL_l]; omega))) d_Mo_writeCue_39 mk_Mo_writeClock ml_Mo_203 mv_Mo_writeClock hm rfl rfl rfl (Nat.le_of_ble_eq_true rfl) ⟨by decide, by decide⟩ ⟨by decide, by decide⟩ (fun r h9 hq => ?_)
  obtain ⟨rfl, ⟨σ10, gm, g23, gs⟩, gbu, fmc⟩ := hq
  have hs1 := (fmc _ (ninc (cne hs1 hm (by simp)) (ninc (cne hs1 hbu (by simp)) nin0))).trans hs1
  have hs2 := (fmc _ (ninc (cne hs2 hm (by simp)) (ninc (cne hs2 hbu (by simp)) nin0))).trans hs2
  have hs3 := (fmc _ (ninc (cne hs3 hm (by simp)) (ninc (cne hs3 hbu (by simp)) nin0))).trans hs3
  have hs4 := (fmc _ (ninc (cne hs4 hm (by simp)) (ninc (cne hs4 hbu (by simp)) nin0))).trans hs4
  have f1 := (gs 1 (by decide)).trans f1
  have f2 := (gs 2 (by decide)).trans f2
  have f3 := (gs 3 (by decide)).trans f3
  have f5 := (gs 5 (by decide)).trans f5
  have f6 := (gs 6 (by decide)).trans f6
  have f7 := (gs 7 (by decide)).trans f7
  have f8 := (gs 8 (by decide)).trans f8
  have f24 := (gs 24 (by decide)).trans f24
  have f23 := g23
  have hm := gm
  have hbu := gbu
  have fm := fm.call (by simp) fmc
  have fs := fs.call (by simp) gs
  refine ev_aload_n d_Mo_writeCue_42 rfl rfl ?_
  refine ev_bipush (v := iZ 10) d_Mo_writeCue_43 rfl ?_
  refine ev_callV M_Mo_write1 (rm 0 0) _ (As := [.int (iZ 10)]) (c_Mo_write1 G h9 σ10 m bu F cn (L ++ oTime (S1 i) ++ [32] ++ [62] ++ [32] ++ oTime (S2 i)) (10) hm f1 f23 f24 hbu hcn (by first | omega | (simp only [List.length_append, List.length_cons, List.length_nil, dgL_l, txL_l, oTime_l, oFr_l, sixL_l]; omega))) d_Mo_writeCue_45 mk_Mo_write1 ml_Mo_186 mv_Mo_write1 hm rfl rfl rfl (Nat.le_of_ble_eq_true rfl) ⟨by decide, by decide⟩ ⟨by decide, by decide⟩ (fun r h11 hq => ?_)
  obtain ⟨rfl, ⟨σ12, gm, g23, gs⟩, gbu, fmc⟩ := hq
  have hs1 := (fmc _ (ninc (cne hs1 hm (by simp)) (ninc (cne hs1 hbu (by simp)) nin0))).trans hs1
  have hs2 := (fmc _ (ninc (cne hs2 hm (by simp)) (ninc (cne hs2 hbu (by simp)) nin0))).trans hs2
  have hs3 := (fmc _ (ninc (cne hs3 hm (by simp)) (ninc (cne hs3 hbu (by simp)) nin0))).trans hs3
  have hs4 := (fmc _ (ninc (cne hs4 hm (by simp)) (ninc (cne hs4 hbu (by simp)) nin0))).trans hs4
  have f1 := (gs 1 (by decide)).trans f1
  have f2 := (gs 2 (by decide)).trans f2
  have f3 := (gs 3 (by decide)).trans f3
  have f5 := (gs 5 (by decide)).trans f5
  have f6 := (gs 6 (by decide)).trans f6
  have f7 := (gs 7 (by decide)).trans f7
  have f8 := (gs 8 (by decide)).trans f8
  have f24 := (gs 24 (by decide)).trans f24
  have f23 := g23
  have hm := gm
  have hbu := gbu
  have fm := fm.call (by simp) fmc
  have fs := fs.call (by simp) gs
  refine ev_goto (tgt := 109) d_Mo_writeCue_48 rfl ?_
  refine ev_iconst (v := iZ 0) d_Mo_writeCue_109 rfl ?_
  refine ev_istore_n (L' := [(0, .ref m), (1, .int (iZ (i : Int))), (2, .int (iZ 0)), (3, .int (iZ 0))]) d_Mo_writeCue_110 rfl (by decide) rfl ?_
  refine lp_Mo_wc G _ h11 σ12 m bu s3 s4 i F S3 S4 cn 10 0 (L ++ oTime (S1 i) ++ [32] ++ [62] ++ [32] ++ oTime (S2 i) ++ [10]) hi (hZ i) hB (by decide) (by decide) (by decide) hcn (by first | omega | (simp only [List.length_append, List.length_cons, List.length_nil, dgL_l, txL_l, oTime_l, oFr_l, sixL_l]; omega)) ?_ (S3 i).toNat 0 h11 σ12 (by omega) hm f1 f7 f8 (by rw [txL, List.append_nil]; exact f23) f24 (by rw [txL, List.append_nil]; exact hbu) hs3 hs4 Fm.rf Fs.rf
  have jm := hm
  have jbu := hbu
  have js1 := hs1
  have js2 := hs2
  have js3 := hs3
  have js4 := hs4
  intro h99 σ99 hm f1 f7 f8 f23 f24 hbu hs3 hs4 fm2 fs2
  have fm := fm.call (by simp) fm2
  have fs := fs.call (by simp) fs2
  refine ev_iload_n d_Mo_writeCue_163 rfl rfl ?_
  refine ev_iconst (v := iZ 2) d_Mo_writeCue_164 rfl ?_
  refine ez_icmp_eq (tgt := 174) (by decide) (by decide) d_Mo_writeCue_165 rfl (fun c165 => absurd c165 (by omega)) (fun c165 => ?_)
  refine ev_aload_n d_Mo_writeCue_168 rfl rfl ?_
  refine ev_bipush (v := iZ 10) d_Mo_writeCue_169 rfl ?_
  refine ev_callV M_Mo_write1 (rm 0 0) _ (As := [.int (iZ 10)]) (c_Mo_write1 G h99 σ99 m bu F cn (L ++ oTime (S1 i) ++ [32] ++ [62] ++ [32] ++ oTime (S2 i) ++ [10] ++ txL S4 (i * 64) 10 (S3 i).toNat) (10) hm f1 f23 f24 hbu hcn (by first | omega | (simp only [List.length_append, List.length_cons, List.length_nil, dgL_l, txL_l, oTime_l, oFr_l, sixL_l]; omega))) d_Mo_writeCue_171 mk_Mo_write1 ml_Mo_186 mv_Mo_write1 hm rfl rfl rfl (Nat.le_of_ble_eq_true rfl) ⟨by decide, by decide⟩ ⟨by decide, by decide⟩ (fun r h13 hq => ?_)
  obtain ⟨rfl, ⟨σ14, gm, g23, gs⟩, gbu, fmc⟩ := hq
  have hs3 := (fmc _ (ninc (cne hs3 hm (by simp)) (ninc (cne hs3 hbu (by simp)) nin0))).trans hs3
  have hs4 := (fmc _ (ninc (cne hs4 hm (by simp)) (ninc (cne hs4 hbu (by simp)) nin0))).trans hs4
  have f1 := (gs 1 (by decide)).trans f1
  have f7 := (gs 7 (by decide)).trans f7
  have f8 := (gs 8 (by decide)).trans f8
  have f24 := (gs 24 (by decide)).trans f24
  have f23 := g23
  have hm := gm
  have hbu := gbu
  have fm := fm.call (by simp) fmc
  have fs := fs.call (by simp) gs
  refine ev_iload_n d_Mo_writeCue_174 rfl rfl ?_
  refine ez_if_ne (tgt := 184) (by decide) d_Mo_writeCue_175 rfl (fun c175 => absurd c175 (by omega)) (fun c175 => ?_)
  refine ev_aload_n d_Mo_writeCue_178 rfl rfl ?_
  refine ev_bipush (v := iZ 10) d_Mo_writeCue_179 rfl ?_
  refine ev_callV M_Mo_write1 (rm 0 0) _ (As := [.int (iZ 10)]) (c_Mo_write1 G h13 σ14 m bu F cn (L ++ oTime (S1 i) ++ [32] ++ [62] ++ [32] ++ oTime (S2 i) ++ [10] ++ txL S4 (i * 64) 10 (S3 i).toNat ++ [10]) (10) hm f1 f23 f24 hbu hcn (by first | omega | (simp only [List.length_append, List.length_cons, List.length_nil, dgL_l, txL_l, oTime_l, oFr_l, sixL_l]; omega))) d_Mo_writeCue_181 mk_Mo_write1 ml_Mo_186 mv_Mo_write1 hm rfl rfl rfl (Nat.le_of_ble_eq_true rfl) ⟨by decide, by decide⟩ ⟨by decide, by decide⟩ (fun r h15 hq => ?_)
  obtain ⟨rfl, ⟨σ16, gm, g23, gs⟩, gbu, fmc⟩ := hq
  have hs3 := (fmc _ (ninc (cne hs3 hm (by simp)) (ninc (cne hs3 hbu (by simp)) nin0))).trans hs3
  have hs4 := (fmc _ (ninc (cne hs4 hm (by simp)) (ninc (cne hs4 hbu (by simp)) nin0))).trans hs4
  have f1 := (gs 1 (by decide)).trans f1
  have f7 := (gs 7 (by decide)).trans f7
  have f8 := (gs 8 (by decide)).trans f8
  have f24 := (gs 24 (by decide)).trans f24
  have f23 := g23
  have hm := gm
  have hbu := gbu
  have fm := fm.call (by simp) fmc
  have fs := fs.call (by simp) gs
  have e9 : L ++ oTime (S1 i) ++ [32] ++ [62] ++ [32] ++ oTime (S2 i) ++ [10] ++ txL S4 (i * 64) 10 (S3 i).toNat ++ [10] ++ [10] = L ++ (oBlk S1 S2 S3 S4 i) := by unfold oBlk; simp only [List.append_assoc]
  exact ev_return d_Mo_writeCue_184 rfl (by decide) (by decide) (⟨rfl, ⟨σ16, hm, by rw [← e9]; exact f23, fs⟩, by rw [← e9]; exact hbu, fm⟩)
set_option maxHeartbeats 4000000 in
set_option maxRecDepth 100000 in
theorem c_Mo_writeCue1 (G : GT) (h : HM) (σ : Nat → Value) (m bu : Nat) (F : Nat → Int) (cn : Int) (L : List Int) (s1 s2 s3 s4 i : Nat) (S1 S2 S3 S4 : Nat → Int) (num den tk : Int) (hm : h m = some (.inr (11, fsN 34 σ))) (f1 : σ 1 = .ref bu) (f2 : σ 2 = .int (iZ num)) (f3 : σ 3 = .int (iZ den)) (f5 : σ 5 = .ref s1) (f6 : σ 6 = .ref s2) (f7 : σ 7 = .ref s3) (f8 : σ 8 = .ref s4) (f23 : σ 23 = .int (iZ ((L).length : Int))) (f24 : σ 24 = .int (iZ cn)) (hbu : h bu = some (.inl (G_i G, 1000, .inl (iA (bufC cn F (L)))))) (hs1 : h s1 = some (.inl (G_j G, 16, .inr (.inl (lA S1))))) (hs2 : h s2 = some (.inl (G_j G, 16, .inr (.inl (lA S2))))) (hs3 : h s3 = some (.inl (G_i G, 16, .inl (iA S3)))) (hs4 : h s4 = some (.inl (G_i G, 1024, .inl (iA S4)))) (hnum : 1 ≤ num ∧ num ≤ 120000) (hden : 1 ≤ den ∧ den ≤ 1001) (htk : tk = 705600000 * den / num) (htr : 11760000 ≤ tk ∧ tk ≤ 705600000) (hT : ∀ k, 0 ≤ S1 k ∧ S1 k ≤ 2540160000000) (hE : ∀ k, 0 ≤ S2 k ∧ S2 k ≤ 2540160000000) (hZ : ∀ k, 0 ≤ S3 k ∧ S3 k ≤ 64) (hB : ∀ k, 0 ≤ S4 k ∧ S4 k ≤ 255) (hi : i < 16) (hcn : cn = 0 ∨ cn = 1) (hlen : (cn = 1 ∨ L.length + (5 + ndg (nearZ (S1 i) tk) + ndg (nearZ (S2 i) tk) + (S3 i).toNat) ≤ 1000) ∧ L.length + (5 + ndg (nearZ (S1 i) tk) + ndg (nearZ (S2 i) tk) + (S3 i).toNat) ≤ 2000) : Rn G M_Mo_writeCue (rm 3 90) [.ref m, .int (iZ (i : Int)), .int (iZ 1)] h (fun r h' => r = none ∧ (∃ σ', h' m = some (.inr (11, fsN 34 σ')) ∧ σ' 23 = .int (iZ ((L ++ (oFra tk S1 S2 S3 S4 i)).length : Int)) ∧ Fs [23] σ σ') ∧ h' bu = some (.inl (G_i G, 1000, .inl (iA (bufC cn F (L ++ (oFra tk S1 S2 S3 S4 i)))))) ∧ Fm [m, bu] h h') := by
  refine rn_of (by decide) (Nat.le_of_ble_eq_true rfl) ?_
  show Ev G M_Mo_writeCue _ _ 0 [(0, .ref m), (1, .int (iZ (i : Int))), (2, .int (iZ 1))] [] _ 0 0
  have fm : Fm [m, bu] h h := Fm.rf
  have fs : Fs [23] σ σ := Fs.rf
  have t0 := hT i
  have e0 := hE i
  have z0 := hZ i
  have rn1 := ndg_r (nearZ (S1 i) tk)
  have rn2 := ndg_r (nearZ (S2 i) tk)
  refine ev_iload_n d_Mo_writeCue_0 rfl rfl ?_
  refine ez_if_ne (tgt := 51) (by decide) d_Mo_writeCue_1 rfl (fun c1 => ?_) (fun c1 => absurd c1 (by omega))
  refine ev_iload_n d_Mo_writeCue_51 rfl rfl ?_
  refine ev_iconst (v := iZ 1) d_Mo_writeCue_52 rfl ?_
  refine ez_icmp_ne (tgt := 79) (by decide) (by decide) d_Mo_writeCue_53 rfl (fun c53 => absurd c53 (by omega)) (fun c53 => ?_)
  refine ev_aload_n d_Mo_writeCue_56 rfl rfl ?_
  refine ev_aload_n d_Mo_writeCue_57 rfl rfl ?_
  refine ev_getF d_Mo_writeCue_58 fl_Mo_20 hm (by decide) f5 ?_
  refine ev_iload_n d_Mo_writeCue_61 rfl rfl ?_
  refine ez_laload i d_Mo_writeCue_62 hs1 (by omega) (by omega) (by decide) ?_
  refine ev_callV M_Mo_writeFrames (rm 2 60) _ (As := [.long (lZ (S1 i))]) (c_Mo_writeFrames G h σ m bu F cn (L) num den tk (S1 i) hm f1 f2 f3 f23 f24 hbu hnum hden htk htr (by omega) hcn (by first | omega | (simp only [List.length_append, List.length_cons, List.length_nil, dgL_l, txL_l, oTime_l, oFr_l, sixL_l]; omega))) d_Mo_writeCue_63 mk_Mo_writeFrames ml_Mo_207 mv_Mo_writeFrames hm rfl rfl rfl (Nat.le_of_ble_eq_true rfl) ⟨by decide, by decide⟩ ⟨by decide, by decide⟩ (fun r h1 hq => ?_)
  obtain ⟨rfl, ⟨σ2, gm, g23, gs⟩, gbu, fmc⟩ := hq
  have hs1 := (fmc _ (ninc (cne hs1 hm (by simp)) (ninc (cne hs1 hbu (by simp)) nin0))).trans hs1
  have hs2 := (fmc _ (ninc (cne hs2 hm (by simp)) (ninc (cne hs2 hbu (by simp)) nin0))).trans hs2
  have hs3 := (fmc _ (ninc (cne hs3 hm (by simp)) (ninc (cne hs3 hbu (by simp)) nin0))).trans hs3
  have hs4 := (fmc _ (ninc (cne hs4 hm (by simp)) (ninc (cne hs4 hbu (by simp)) nin0))).trans hs4
  have f1 := (gs 1 (by decide)).trans f1
  have f2 := (gs 2 (by decide)).trans f2
  have f3 := (gs 3 (by decide)).trans f3
  have f5 := (gs 5 (by decide)).trans f5
  have f6 := (gs 6 (by decide)).trans f6
  have f7 := (gs 7 (by decide)).trans f7
  have f8 := (gs 8 (by decide)).trans f8
  have f24 := (gs 24 (by decide)).trans f24
  have f23 := g23
  have hm := gm
  have hbu := gbu
  have fm := fm.call (by simp) fmc
  have fs := fs.call (by simp) gs
  refine ev_aload_n d_Mo_writeCue_66 rfl rfl ?_
  refine ev_aload_n d_Mo_writeCue_67 rfl rfl ?_
  refine ev_getF d_Mo_writeCue_68 fl_Mo_24 hm (by decide) f6 ?_
  refine ev_iload_n d_Mo_writeCue_71 rfl rfl ?_
  refine ez_laload i d_Mo_writeCue_72 hs2 (by omega) (by omega) (by decide) ?_
  refine ev_callV M_Mo_writeFrames (rm 2 60) _ (As := [.long (lZ (S2 i))]) (c_Mo_writeFrames G h1 σ2 m bu F cn (L ++ oFr tk (S1 i)) num den tk (S2 i) hm f1 f2 f3 f23 f24 hbu hnum hden htk htr (by omega) hcn (by first | omega | (simp only [List.length_append, List.length_cons, List.length_nil, dgL_l, txL_l, oTime_l, oFr_l, sixL_l]; omega))) d_Mo_writeCue_73 mk_Mo_writeFrames ml_Mo_207 mv_Mo_writeFrames hm rfl rfl rfl (Nat.le_of_ble_eq_true rfl) ⟨by decide, by decide⟩ ⟨by decide, by decide⟩ (fun r h3 hq => ?_)
  obtain ⟨rfl, ⟨σ4, gm, g23, gs⟩, gbu, fmc⟩ := hq
  have hs1 := (fmc _ (ninc (cne hs1 hm (by simp)) (ninc (cne hs1 hbu (by simp)) nin0))).trans hs1
  have hs2 := (fmc _ (ninc (cne hs2 hm (by simp)) (ninc (cne hs2 hbu (by simp)) nin0))).trans hs2
  have hs3 := (fmc _ (ninc (cne hs3 hm (by simp)) (ninc (cne hs3 hbu (by simp)) nin0))).trans hs3
  have hs4 := (fmc _ (ninc (cne hs4 hm (by simp)) (ninc (cne hs4 hbu (by simp)) nin0))).trans hs4
  have f1 := (gs 1 (by decide)).trans f1
  have f2 := (gs 2 (by decide)).trans f2
  have f3 := (gs 3 (by decide)).trans f3
  have f5 := (gs 5 (by decide)).trans f5
  have f6 := (gs 6 (by decide)).trans f6
  have f7 := (gs 7 (by decide)).trans f7
  have f8 := (gs 8 (by decide)).trans f8
  have f24 := (gs 24 (by decide)).trans f24
  have f23 := g23
  have hm := gm
  have hbu := gbu
  have fm := fm.call (by simp) fmc
  have fs := fs.call (by simp) gs
  refine ev_goto (tgt := 109) d_Mo_writeCue_76 rfl ?_
  refine ev_iconst (v := iZ 0) d_Mo_writeCue_109 rfl ?_
  refine ev_istore_n (L' := [(0, .ref m), (1, .int (iZ (i : Int))), (2, .int (iZ 1)), (3, .int (iZ 0))]) d_Mo_writeCue_110 rfl (by decide) rfl ?_
  refine lp_Mo_wc G _ h3 σ4 m bu s3 s4 i F S3 S4 cn 124 1 (L ++ oFr tk (S1 i) ++ oFr tk (S2 i)) hi (hZ i) hB (by decide) (by decide) (by decide) hcn (by first | omega | (simp only [List.length_append, List.length_cons, List.length_nil, dgL_l, txL_l, oTime_l, oFr_l, sixL_l]; omega)) ?_ (S3 i).toNat 0 h3 σ4 (by omega) hm f1 f7 f8 (by rw [txL, List.append_nil]; exact f23) f24 (by rw [txL, List.append_nil]; exact hbu) hs3 hs4 Fm.rf Fs.rf
  have jm := hm
  have jbu := hbu
  have js1 := hs1
  have js2 := hs2
  have js3 := hs3
  have js4 := hs4
  intro h99 σ99 hm f1 f7 f8 f23 f24 hbu hs3 hs4 fm2 fs2
  have fm := fm.call (by simp) fm2
  have fs := fs.call (by simp) fs2
  refine ev_iload_n d_Mo_writeCue_163 rfl rfl ?_
  refine ev_iconst (v := iZ 2) d_Mo_writeCue_164 rfl ?_
  refine ez_icmp_eq (tgt := 174) (by decide) (by decide) d_Mo_writeCue_165 rfl (fun c165 => absurd c165 (by omega)) (fun c165 => ?_)
  refine ev_aload_n d_Mo_writeCue_168 rfl rfl ?_
  refine ev_bipush (v := iZ 10) d_Mo_writeCue_169 rfl ?_
  refine ev_callV M_Mo_write1 (rm 0 0) _ (As := [.int (iZ 10)]) (c_Mo_write1 G h99 σ99 m bu F cn (L ++ oFr tk (S1 i) ++ oFr tk (S2 i) ++ txL S4 (i * 64) 124 (S3 i).toNat) (10) hm f1 f23 f24 hbu hcn (by first | omega | (simp only [List.length_append, List.length_cons, List.length_nil, dgL_l, txL_l, oTime_l, oFr_l, sixL_l]; omega))) d_Mo_writeCue_171 mk_Mo_write1 ml_Mo_186 mv_Mo_write1 hm rfl rfl rfl (Nat.le_of_ble_eq_true rfl) ⟨by decide, by decide⟩ ⟨by decide, by decide⟩ (fun r h5 hq => ?_)
  obtain ⟨rfl, ⟨σ6, gm, g23, gs⟩, gbu, fmc⟩ := hq
  have hs3 := (fmc _ (ninc (cne hs3 hm (by simp)) (ninc (cne hs3 hbu (by simp)) nin0))).trans hs3
  have hs4 := (fmc _ (ninc (cne hs4 hm (by simp)) (ninc (cne hs4 hbu (by simp)) nin0))).trans hs4
  have f1 := (gs 1 (by decide)).trans f1
  have f7 := (gs 7 (by decide)).trans f7
  have f8 := (gs 8 (by decide)).trans f8
  have f24 := (gs 24 (by decide)).trans f24
  have f23 := g23
  have hm := gm
  have hbu := gbu
  have fm := fm.call (by simp) fmc
  have fs := fs.call (by simp) gs
  refine ev_iload_n d_Mo_writeCue_174 rfl rfl ?_
  refine ez_if_ne (tgt := 184) (by decide) d_Mo_writeCue_175 rfl (fun c175 => ?_) (fun c175 => absurd c175 (by omega))
  have e9 : L ++ oFr tk (S1 i) ++ oFr tk (S2 i) ++ txL S4 (i * 64) 124 (S3 i).toNat ++ [10] = L ++ (oFra tk S1 S2 S3 S4 i) := by unfold oFra; simp only [List.append_assoc]
  exact ev_return d_Mo_writeCue_184 rfl (by decide) (by decide) (⟨rfl, ⟨σ6, hm, by rw [← e9]; exact f23, fs⟩, by rw [← e9]; exact hbu, fm⟩)
set_option maxHeartbeats 4000000 in
set_option maxRecDepth 100000 in
theorem c_Mo_writeCue2 (G : GT) (h : HM) (σ : Nat → Value) (m bu : Nat) (F : Nat → Int) (cn : Int) (L : List Int) (s1 s2 s3 s4 i : Nat) (S1 S2 S3 S4 : Nat → Int) (num den tk : Int) (hm : h m = some (.inr (11, fsN 34 σ))) (f1 : σ 1 = .ref bu) (f2 : σ 2 = .int (iZ num)) (f3 : σ 3 = .int (iZ den)) (f5 : σ 5 = .ref s1) (f6 : σ 6 = .ref s2) (f7 : σ 7 = .ref s3) (f8 : σ 8 = .ref s4) (f23 : σ 23 = .int (iZ ((L).length : Int))) (f24 : σ 24 = .int (iZ cn)) (hbu : h bu = some (.inl (G_i G, 1000, .inl (iA (bufC cn F (L)))))) (hs1 : h s1 = some (.inl (G_j G, 16, .inr (.inl (lA S1))))) (hs2 : h s2 = some (.inl (G_j G, 16, .inr (.inl (lA S2))))) (hs3 : h s3 = some (.inl (G_i G, 16, .inl (iA S3)))) (hs4 : h s4 = some (.inl (G_i G, 1024, .inl (iA S4)))) (hnum : 1 ≤ num ∧ num ≤ 120000) (hden : 1 ≤ den ∧ den ≤ 1001) (htk : tk = 705600000 * den / num) (htr : 11760000 ≤ tk ∧ tk ≤ 705600000) (hT : ∀ k, 0 ≤ S1 k ∧ S1 k ≤ 2540160000000) (hE : ∀ k, 0 ≤ S2 k ∧ S2 k ≤ 2540160000000) (hZ : ∀ k, 0 ≤ S3 k ∧ S3 k ≤ 64) (hB : ∀ k, 0 ≤ S4 k ∧ S4 k ≤ 255) (hi : i < 16) (hcn : cn = 0 ∨ cn = 1) (hlen : (cn = 1 ∨ L.length + (13 + (S3 i).toNat) ≤ 1000) ∧ L.length + (13 + (S3 i).toNat) ≤ 2000) : Rn G M_Mo_writeCue (rm 3 90) [.ref m, .int (iZ (i : Int)), .int (iZ 2)] h (fun r h' => r = none ∧ (∃ σ', h' m = some (.inr (11, fsN 34 σ')) ∧ σ' 23 = .int (iZ ((L ++ (oPac S1 S2 S3 S4 i)).length : Int)) ∧ Fs [23] σ σ') ∧ h' bu = some (.inl (G_i G, 1000, .inl (iA (bufC cn F (L ++ (oPac S1 S2 S3 S4 i)))))) ∧ Fm [m, bu] h h') := by
  refine rn_of (by decide) (Nat.le_of_ble_eq_true rfl) ?_
  show Ev G M_Mo_writeCue _ _ 0 [(0, .ref m), (1, .int (iZ (i : Int))), (2, .int (iZ 2))] [] _ 0 0
  have fm : Fm [m, bu] h h := Fm.rf
  have fs : Fs [23] σ σ := Fs.rf
  have t0 := hT i
  have e0 := hE i
  have z0 := hZ i
  have rn1 := ndg_r (nearZ (S1 i) tk)
  have rn2 := ndg_r (nearZ (S2 i) tk)
  refine ev_iload_n d_Mo_writeCue_0 rfl rfl ?_
  refine ez_if_ne (tgt := 51) (by decide) d_Mo_writeCue_1 rfl (fun c1 => ?_) (fun c1 => absurd c1 (by omega))
  refine ev_iload_n d_Mo_writeCue_51 rfl rfl ?_
  refine ev_iconst (v := iZ 1) d_Mo_writeCue_52 rfl ?_
  refine ez_icmp_ne (tgt := 79) (by decide) (by decide) d_Mo_writeCue_53 rfl (fun c53 => ?_) (fun c53 => absurd c53 (by omega))
  refine ev_aload_n d_Mo_writeCue_79 rfl rfl ?_
  refine ev_aload_n d_Mo_writeCue_80 rfl rfl ?_
  refine ev_getF d_Mo_writeCue_81 fl_Mo_20 hm (by decide) f5 ?_
  refine ev_iload_n d_Mo_writeCue_84 rfl rfl ?_
  refine ez_laload i d_Mo_writeCue_85 hs1 (by omega) (by omega) (by decide) ?_
  refine ev_callV M_Mo_writeSix (rm 1 22) _ (As := [.long (lZ (S1 i))]) (c_Mo_writeSix G h σ m bu F cn (L) (S1 i) hm f1 f23 f24 hbu hcn (by first | omega | (simp only [List.length_append, List.length_cons, List.length_nil, dgL_l, txL_l, oTime_l, oFr_l, sixL_l]; omega))) d_Mo_writeCue_86 mk_Mo_writeSix ml_Mo_210 mv_Mo_writeSix hm rfl rfl rfl (Nat.le_of_ble_eq_true rfl) ⟨by decide, by decide⟩ ⟨by decide, by decide⟩ (fun r h1 hq => ?_)
  obtain ⟨rfl, ⟨σ2, gm, g23, gs⟩, gbu, fmc⟩ := hq
  have hs1 := (fmc _ (ninc (cne hs1 hm (by simp)) (ninc (cne hs1 hbu (by simp)) nin0))).trans hs1
  have hs2 := (fmc _ (ninc (cne hs2 hm (by simp)) (ninc (cne hs2 hbu (by simp)) nin0))).trans hs2
  have hs3 := (fmc _ (ninc (cne hs3 hm (by simp)) (ninc (cne hs3 hbu (by simp)) nin0))).trans hs3
  have hs4 := (fmc _ (ninc (cne hs4 hm (by simp)) (ninc (cne hs4 hbu (by simp)) nin0))).trans hs4
  have f1 := (gs 1 (by decide)).trans f1
  have f2 := (gs 2 (by decide)).trans f2
  have f3 := (gs 3 (by decide)).trans f3
  have f5 := (gs 5 (by decide)).trans f5
  have f6 := (gs 6 (by decide)).trans f6
  have f7 := (gs 7 (by decide)).trans f7
  have f8 := (gs 8 (by decide)).trans f8
  have f24 := (gs 24 (by decide)).trans f24
  have f23 := g23
  have hm := gm
  have hbu := gbu
  have fm := fm.call (by simp) fmc
  have fs := fs.call (by simp) gs
  refine ev_aload_n d_Mo_writeCue_89 rfl rfl ?_
  refine ev_aload_n d_Mo_writeCue_90 rfl rfl ?_
  refine ev_getF d_Mo_writeCue_91 fl_Mo_24 hm (by decide) f6 ?_
  refine ev_iload_n d_Mo_writeCue_94 rfl rfl ?_
  refine ez_laload i d_Mo_writeCue_95 hs2 (by omega) (by omega) (by decide) ?_
  refine ev_callV M_Mo_writeSix (rm 1 22) _ (As := [.long (lZ (S2 i))]) (c_Mo_writeSix G h1 σ2 m bu F cn (L ++ sixL (S1 i) 6) (S2 i) hm f1 f23 f24 hbu hcn (by first | omega | (simp only [List.length_append, List.length_cons, List.length_nil, dgL_l, txL_l, oTime_l, oFr_l, sixL_l]; omega))) d_Mo_writeCue_96 mk_Mo_writeSix ml_Mo_210 mv_Mo_writeSix hm rfl rfl rfl (Nat.le_of_ble_eq_true rfl) ⟨by decide, by decide⟩ ⟨by decide, by decide⟩ (fun r h3 hq => ?_)
  obtain ⟨rfl, ⟨σ4, gm, g23, gs⟩, gbu, fmc⟩ := hq
  have hs1 := (fmc _ (ninc (cne hs1 hm (by simp)) (ninc (cne hs1 hbu (by simp)) nin0))).trans hs1
  have hs2 := (fmc _ (ninc (cne hs2 hm (by simp)) (ninc (cne hs2 hbu (by simp)) nin0))).trans hs2
  have hs3 := (fmc _ (ninc (cne hs3 hm (by simp)) (ninc (cne hs3 hbu (by simp)) nin0))).trans hs3
  have hs4 := (fmc _ (ninc (cne hs4 hm (by simp)) (ninc (cne hs4 hbu (by simp)) nin0))).trans hs4
  have f1 := (gs 1 (by decide)).trans f1
  have f2 := (gs 2 (by decide)).trans f2
  have f3 := (gs 3 (by decide)).trans f3
  have f5 := (gs 5 (by decide)).trans f5
  have f6 := (gs 6 (by decide)).trans f6
  have f7 := (gs 7 (by decide)).trans f7
  have f8 := (gs 8 (by decide)).trans f8
  have f24 := (gs 24 (by decide)).trans f24
  have f23 := g23
  have hm := gm
  have hbu := gbu
  have fm := fm.call (by simp) fmc
  have fs := fs.call (by simp) gs
  refine ev_aload_n d_Mo_writeCue_99 rfl rfl ?_
  refine ev_aload_n d_Mo_writeCue_100 rfl rfl ?_
  refine ev_getF d_Mo_writeCue_101 fl_Mo_27 hm (by decide) f7 ?_
  refine ev_iload_n d_Mo_writeCue_104 rfl rfl ?_
  refine ez_iaload i d_Mo_writeCue_105 hs3 (by omega) (by omega) (by decide) ?_
  refine ev_callV M_Mo_write1 (rm 0 0) _ (As := [.int (iZ (S3 i))]) (c_Mo_write1 G h3 σ4 m bu F cn (L ++ sixL (S1 i) 6 ++ sixL (S2 i) 6) (S3 i) hm f1 f23 f24 hbu hcn (by first | omega | (simp only [List.length_append, List.length_cons, List.length_nil, dgL_l, txL_l, oTime_l, oFr_l, sixL_l]; omega))) d_Mo_writeCue_106 mk_Mo_write1 ml_Mo_186 mv_Mo_write1 hm rfl rfl rfl (Nat.le_of_ble_eq_true rfl) ⟨by decide, by decide⟩ ⟨by decide, by decide⟩ (fun r h5 hq => ?_)
  obtain ⟨rfl, ⟨σ6, gm, g23, gs⟩, gbu, fmc⟩ := hq
  have hs1 := (fmc _ (ninc (cne hs1 hm (by simp)) (ninc (cne hs1 hbu (by simp)) nin0))).trans hs1
  have hs2 := (fmc _ (ninc (cne hs2 hm (by simp)) (ninc (cne hs2 hbu (by simp)) nin0))).trans hs2
  have hs3 := (fmc _ (ninc (cne hs3 hm (by simp)) (ninc (cne hs3 hbu (by simp)) nin0))).trans hs3
  have hs4 := (fmc _ (ninc (cne hs4 hm (by simp)) (ninc (cne hs4 hbu (by simp)) nin0))).trans hs4
  have f1 := (gs 1 (by decide)).trans f1
  have f2 := (gs 2 (by decide)).trans f2
  have f3 := (gs 3 (by decide)).trans f3
  have f5 := (gs 5 (by decide)).trans f5
  have f6 := (gs 6 (by decide)).trans f6
  have f7 := (gs 7 (by decide)).trans f7
  have f8 := (gs 8 (by decide)).trans f8
  have f24 := (gs 24 (by decide)).trans f24
  have f23 := g23
  have hm := gm
  have hbu := gbu
  have fm := fm.call (by simp) fmc
  have fs := fs.call (by simp) gs
  refine ev_iconst (v := iZ 0) d_Mo_writeCue_109 rfl ?_
  refine ev_istore_n (L' := [(0, .ref m), (1, .int (iZ (i : Int))), (2, .int (iZ 2)), (3, .int (iZ 0))]) d_Mo_writeCue_110 rfl (by decide) rfl ?_
  refine lp_Mo_wc G _ h5 σ6 m bu s3 s4 i F S3 S4 cn 10 2 (L ++ sixL (S1 i) 6 ++ sixL (S2 i) 6 ++ [S3 i]) hi (hZ i) hB (by decide) (by decide) (by decide) hcn (by first | omega | (simp only [List.length_append, List.length_cons, List.length_nil, dgL_l, txL_l, oTime_l, oFr_l, sixL_l]; omega)) ?_ (S3 i).toNat 0 h5 σ6 (by omega) hm f1 f7 f8 (by rw [txL, List.append_nil]; exact f23) f24 (by rw [txL, List.append_nil]; exact hbu) hs3 hs4 Fm.rf Fs.rf
  have jm := hm
  have jbu := hbu
  have js1 := hs1
  have js2 := hs2
  have js3 := hs3
  have js4 := hs4
  intro h99 σ99 hm f1 f7 f8 f23 f24 hbu hs3 hs4 fm2 fs2
  have fm := fm.call (by simp) fm2
  have fs := fs.call (by simp) fs2
  refine ev_iload_n d_Mo_writeCue_163 rfl rfl ?_
  refine ev_iconst (v := iZ 2) d_Mo_writeCue_164 rfl ?_
  refine ez_icmp_eq (tgt := 174) (by decide) (by decide) d_Mo_writeCue_165 rfl (fun c165 => ?_) (fun c165 => absurd c165 (by omega))
  refine ev_iload_n d_Mo_writeCue_174 rfl rfl ?_
  refine ez_if_ne (tgt := 184) (by decide) d_Mo_writeCue_175 rfl (fun c175 => ?_) (fun c175 => absurd c175 (by omega))
  have e9 : L ++ sixL (S1 i) 6 ++ sixL (S2 i) 6 ++ [S3 i] ++ txL S4 (i * 64) 10 (S3 i).toNat = L ++ (oPac S1 S2 S3 S4 i) := by unfold oPac; simp only [List.append_assoc]
  exact ev_return d_Mo_writeCue_184 rfl (by decide) (by decide) (⟨rfl, ⟨σ99, hm, by rw [← e9]; exact f23, fs⟩, by rw [← e9]; exact hbu, fm⟩)
theorem c_Mo_writeCue (G : GT) (h : HM) (σ : Nat → Value) (m bu : Nat) (F : Nat → Int) (cn : Int) (L : List Int) (s1 s2 s3 s4 i : Nat) (S1 S2 S3 S4 : Nat → Int) (num den tk : Int) (f : Int) (hm : h m = some (.inr (11, fsN 34 σ))) (f1 : σ 1 = .ref bu) (f2 : σ 2 = .int (iZ num)) (f3 : σ 3 = .int (iZ den)) (f5 : σ 5 = .ref s1) (f6 : σ 6 = .ref s2) (f7 : σ 7 = .ref s3) (f8 : σ 8 = .ref s4) (f23 : σ 23 = .int (iZ ((L).length : Int))) (f24 : σ 24 = .int (iZ cn)) (hbu : h bu = some (.inl (G_i G, 1000, .inl (iA (bufC cn F (L)))))) (hs1 : h s1 = some (.inl (G_j G, 16, .inr (.inl (lA S1))))) (hs2 : h s2 = some (.inl (G_j G, 16, .inr (.inl (lA S2))))) (hs3 : h s3 = some (.inl (G_i G, 16, .inl (iA S3)))) (hs4 : h s4 = some (.inl (G_i G, 1024, .inl (iA S4)))) (hnum : 1 ≤ num ∧ num ≤ 120000) (hden : 1 ≤ den ∧ den ≤ 1001) (htk : tk = 705600000 * den / num) (htr : 11760000 ≤ tk ∧ tk ≤ 705600000) (hT : ∀ k, 0 ≤ S1 k ∧ S1 k ≤ 2540160000000) (hE : ∀ k, 0 ≤ S2 k ∧ S2 k ≤ 2540160000000) (hZ : ∀ k, 0 ≤ S3 k ∧ S3 k ≤ 64) (hB : ∀ k, 0 ≤ S4 k ∧ S4 k ≤ 255) (hi : i < 16) (hcn : cn = 0 ∨ cn = 1) (hfo : f = 0 ∨ f = 1 ∨ f = 2) (hlen : (cn = 1 ∨ L.length + (lenT f tk S1 S2 i + (S3 i).toNat) ≤ 1000) ∧ L.length + (lenT f tk S1 S2 i + (S3 i).toNat) ≤ 2000) : Rn G M_Mo_writeCue (rm 3 90) [.ref m, .int (iZ (i : Int)), .int (iZ f)] h (fun r h' => r = none ∧ (∃ σ', h' m = some (.inr (11, fsN 34 σ')) ∧ σ' 23 = .int (iZ ((L ++ (oCue f tk S1 S2 S3 S4 i)).length : Int)) ∧ Fs [23] σ σ') ∧ h' bu = some (.inl (G_i G, 1000, .inl (iA (bufC cn F (L ++ (oCue f tk S1 S2 S3 S4 i)))))) ∧ Fm [m, bu] h h') := by
  rcases hfo with rfl | rfl | rfl
  · rw [show oCue 0 tk S1 S2 S3 S4 i = (oBlk S1 S2 S3 S4 i) from if_pos rfl]
    exact c_Mo_writeCue0 G h σ m bu F cn L s1 s2 s3 s4 i S1 S2 S3 S4 num den tk hm f1 f2 f3 f5 f6 f7 f8 f23 f24 hbu hs1 hs2 hs3 hs4 hnum hden htk htr hT hE hZ hB hi hcn hlen
  · rw [show oCue 1 tk S1 S2 S3 S4 i = (oFra tk S1 S2 S3 S4 i) from (if_neg (by decide)).trans (if_pos rfl)]
    exact c_Mo_writeCue1 G h σ m bu F cn L s1 s2 s3 s4 i S1 S2 S3 S4 num den tk hm f1 f2 f3 f5 f6 f7 f8 f23 f24 hbu hs1 hs2 hs3 hs4 hnum hden htk htr hT hE hZ hB hi hcn hlen
  · rw [show oCue 2 tk S1 S2 S3 S4 i = (oPac S1 S2 S3 S4 i) from (if_neg (by decide)).trans (if_neg (by decide))]
    exact c_Mo_writeCue2 G h σ m bu F cn L s1 s2 s3 s4 i S1 S2 S3 S4 num den tk hm f1 f2 f3 f5 f6 f7 f8 f23 f24 hbu hs1 hs2 hs3 hs4 hnum hden htk htr hT hE hZ hB hi hcn hlen
set_option maxHeartbeats 4000000 in
set_option maxRecDepth 100000 in
theorem lp_Mo_wr (G : GT) (Q : Option Value → HM → Prop) (h0 : HM) (σ0 : Nat → Value) (m bu : Nat) (F : Nat → Int) (cn rd f : Int) (n : Nat) (s1 s2 s3 s4 : Nat) (S1 S2 S3 S4 : Nat → Int) (num den tk : Int) (hnum : 1 ≤ num ∧ num ≤ 120000) (hden : 1 ≤ den ∧ den ≤ 1001) (htk : tk = 705600000 * den / num) (htr : 11760000 ≤ tk ∧ tk ≤ 705600000) (hT : ∀ k, 0 ≤ S1 k ∧ S1 k ≤ 2540160000000) (hE : ∀ k, 0 ≤ S2 k ∧ S2 k ≤ 2540160000000) (hZ : ∀ k, 0 ≤ S3 k ∧ S3 k ≤ 64) (hB : ∀ k, 0 ≤ S4 k ∧ S4 k ≤ 255) (hn : n ≤ 16) (hfo : f = 0 ∨ f = 1 ∨ f = 2) (hcn : cn = 0 ∨ cn = 1) (hlen : (cn = 1 ∨ (outs f tk S1 S2 S3 S4 n).length ≤ 1000) ∧ (outs f tk S1 S2 S3 S4 n).length ≤ 2000) (kk : ∀ h σ, h m = some (.inr (11, fsN 34 σ)) → σ 1 = .ref bu → σ 2 = .int (iZ num) → σ 3 = .int (iZ den) → σ 4 = .int (iZ (n : Int)) → σ 5 = .ref s1 → σ 6 = .ref s2 → σ 7 = .ref s3 → σ 8 = .ref s4 → σ 23 = .int (iZ (((outs f tk S1 S2 S3 S4 n)).length : Int)) → σ 24 = .int (iZ cn) → h bu = some (.inl (G_i G, 1000, .inl (iA (bufC cn F ((outs f tk S1 S2 S3 S4 n)))))) → h s1 = some (.inl (G_j G, 16, .inr (.inl (lA S1)))) → h s2 = some (.inl (G_j G, 16, .inr (.inl (lA S2)))) → h s3 = some (.inl (G_i G, 16, .inl (iA S3))) → h s4 = some (.inl (G_i G, 1024, .inl (iA S4))) → Fm [m, bu] h0 h → Fs [23] σ0 σ → Ev G M_Mo_write (rm 4 120) Q 59 [(0, .ref m), (1, .int (iZ f)), (2, .int (iZ rd)), (3, .int (iZ (n : Int)))] [] h 0 0) : ∀ (d : Nat) (i : Nat) (h : HM) (σ : Nat → Value), i + d = n → h m = some (.inr (11, fsN 34 σ)) → σ 1 = .ref bu → σ 2 = .int (iZ num) → σ 3 = .int (iZ den) → σ 4 = .int (iZ (n : Int)) → σ 5 = .ref s1 → σ 6 = .ref s2 → σ 7 = .ref s3 → σ 8 = .ref s4 → σ 23 = .int (iZ (((outs f tk S1 S2 S3 S4 i)).length : Int)) → σ 24 = .int (iZ cn) → h bu = some (.inl (G_i G, 1000, .inl (iA (bufC cn F ((outs f tk S1 S2 S3 S4 i)))))) → h s1 = some (.inl (G_j G, 16, .inr (.inl (lA S1)))) → h s2 = some (.inl (G_j G, 16, .inr (.inl (lA S2)))) → h s3 = some (.inl (G_i G, 16, .inl (iA S3))) → h s4 = some (.inl (G_i G, 1024, .inl (iA S4))) → Fm [m, bu] h0 h → Fs [23] σ0 σ → Ev G M_Mo_write (rm 4 120) (Q) 39 [(0, .ref m), (1, .int (iZ f)), (2, .int (iZ rd)), (3, .int (iZ (i : Int)))] [] h 0 0 := by
  intro d
  induction d using Nat.strongRecOn with
  | ind d ih =>
  intro i h σ hd hm f1 f2 f3 f4 f5 f6 f7 f8 f23 f24 hbu hs1 hs2 hs3 hs4 fm fs
  refine ev_iload_n d_Mo_write_39 rfl rfl ?_
  refine ev_aload_n d_Mo_write_40 rfl rfl ?_
  refine ev_getF d_Mo_write_41 fl_Mo_92 hm (by decide) f4 ?_
  refine ez_icmp_ge (tgt := 59) (by omega) (by omega) d_Mo_write_44 rfl (fun c44 => ?_) (fun c44 => ?_)
  · obtain rfl : i = n := by omega
    exact kk h σ hm f1 f2 f3 f4 f5 f6 f7 f8 f23 f24 hbu hs1 hs2 hs3 hs4 fm fs
  · have hln : (outs f tk S1 S2 S3 S4 (i + 1)).length ≤ (outs f tk S1 S2 S3 S4 n).length := by have := outs_mono (f := f) (tk := tk) (K1 := S1) (K2 := S2) (K3 := S3) (K4 := S4) (a := i + 1) (n - (i + 1)); rw [show i + 1 + (n - (i + 1)) = n by omega] at this; exact this
    rw [outs, List.length_append, oCue_l hfo] at hln
    refine ev_aload_n d_Mo_write_47 rfl rfl ?_
    refine ev_iload_n d_Mo_write_48 rfl rfl ?_
    refine ev_iload_n d_Mo_write_49 rfl rfl ?_
    refine ev_callV M_Mo_writeCue (rm 3 90) _ (As := [.int (iZ (i : Int)), .int (iZ f)]) (c_Mo_writeCue G h σ m bu F cn (outs f tk S1 S2 S3 S4 i) s1 s2 s3 s4 i S1 S2 S3 S4 num den tk f hm f1 f2 f3 f5 f6 f7 f8 f23 f24 hbu hs1 hs2 hs3 hs4 hnum hden htk htr hT hE hZ hB (by omega) hcn hfo (by omega)) d_Mo_write_50 mk_Mo_writeCue ml_Mo_213 mv_Mo_writeCue hm rfl rfl rfl (Nat.le_of_ble_eq_true rfl) ⟨by decide, by decide⟩ ⟨by decide, by decide⟩ (fun r h1 hq => ?_)
    obtain ⟨rfl, ⟨σ2, gm, g23, gs⟩, gbu, fmc⟩ := hq
    have hs1 := (fmc _ (ninc (cne hs1 hm (by simp)) (ninc (cne hs1 hbu (by simp)) nin0))).trans hs1
    have hs2 := (fmc _ (ninc (cne hs2 hm (by simp)) (ninc (cne hs2 hbu (by simp)) nin0))).trans hs2
    have hs3 := (fmc _ (ninc (cne hs3 hm (by simp)) (ninc (cne hs3 hbu (by simp)) nin0))).trans hs3
    have hs4 := (fmc _ (ninc (cne hs4 hm (by simp)) (ninc (cne hs4 hbu (by simp)) nin0))).trans hs4
    have f1 := (gs 1 (by decide)).trans f1
    have f4 := (gs 4 (by decide)).trans f4
    have f2 := (gs 2 (by decide)).trans f2
    have f3 := (gs 3 (by decide)).trans f3
    have f5 := (gs 5 (by decide)).trans f5
    have f6 := (gs 6 (by decide)).trans f6
    have f7 := (gs 7 (by decide)).trans f7
    have f8 := (gs 8 (by decide)).trans f8
    have f24 := (gs 24 (by decide)).trans f24
    have f23 := g23
    have hm := gm
    have hbu := gbu
    have fm := fm.call (by simp) fmc
    have fs := fs.call (by simp) gs
    refine ez_iinc (L' := [(0, .ref m), (1, .int (iZ f)), (2, .int (iZ rd)), (3, .int (iZ ((i + 1 : Nat) : Int)))]) d_Mo_write_53 rfl (by decide) rfl ?_
    refine ev_goto (tgt := 39) d_Mo_write_56 rfl ?_
    exact ih (d - 1) (by omega) (i + 1) h1 σ2 (by omega) hm f1 f2 f3 f4 f5 f6 f7 f8 f23 f24 hbu hs1 hs2 hs3 hs4 fm fs
set_option maxHeartbeats 4000000 in
set_option maxRecDepth 100000 in
theorem c_Mo_writeB (G : GT) (h : HM) (m : Nat) (f : Int) (hif : iR f) (hno : ¬ (f = 0 ∨ f = 1 ∨ f = 2)) : Rn G M_Mo_write (rm 1 30) [.ref m, .int (iZ f)] h (Pu (.int (iZ (-2))) h) := by
  refine rn_of (by decide) (Nat.le_of_ble_eq_true rfl) ?_
  show Ev G M_Mo_write _ _ 0 [(0, .ref m), (1, .int (iZ f))] [] _ 0 0
  refine ev_iload_n d_Mo_write_0 rfl rfl ?_
  refine ez_if_lt (tgt := 9) (by omega) d_Mo_write_1 rfl (fun c1 => ?_) (fun c1 => ?_)
  · refine ev_bipush (v := iZ (-2)) d_Mo_write_9 rfl ?_
    exact ev_ireturn d_Mo_write_11 rfl (by decide) (by decide) (⟨rfl, rfl⟩)
  · refine ev_iload_n d_Mo_write_4 rfl rfl ?_
    refine ev_iconst (v := iZ 2) d_Mo_write_5 rfl ?_
    refine ez_icmp_le (tgt := 12) (by omega) (by decide) d_Mo_write_6 rfl (fun c6 => absurd c6 (by omega)) (fun c6 => ?_)
    refine ev_bipush (v := iZ (-2)) d_Mo_write_9 rfl ?_
    exact ev_ireturn d_Mo_write_11 rfl (by decide) (by decide) (⟨rfl, rfl⟩)
set_option maxHeartbeats 4000000 in
set_option maxRecDepth 100000 in
theorem c_Mo_write (G : GT) (h : HM) (σ : Nat → Value) (m bu : Nat) (F : Nat → Int) (n : Nat) (s1 s2 s3 s4 : Nat) (S1 S2 S3 S4 : Nat → Int) (num den tk : Int) (f : Int) (hm : h m = some (.inr (11, fsN 34 σ))) (f1 : σ 1 = .ref bu) (f4 : σ 4 = .int (iZ (n : Int))) (f2 : σ 2 = .int (iZ num)) (f3 : σ 3 = .int (iZ den)) (f5 : σ 5 = .ref s1) (f6 : σ 6 = .ref s2) (f7 : σ 7 = .ref s3) (f8 : σ 8 = .ref s4) (hbu : h bu = some (.inl (G_i G, 1000, .inl (iA F)))) (hs1 : h s1 = some (.inl (G_j G, 16, .inr (.inl (lA S1))))) (hs2 : h s2 = some (.inl (G_j G, 16, .inr (.inl (lA S2))))) (hs3 : h s3 = some (.inl (G_i G, 16, .inl (iA S3)))) (hs4 : h s4 = some (.inl (G_i G, 1024, .inl (iA S4)))) (hnum : 1 ≤ num ∧ num ≤ 120000) (hden : 1 ≤ den ∧ den ≤ 1001) (htk : tk = 705600000 * den / num) (htr : 11760000 ≤ tk ∧ tk ≤ 705600000) (hT : ∀ k, 0 ≤ S1 k ∧ S1 k ≤ 2540160000000) (hE : ∀ k, 0 ≤ S2 k ∧ S2 k ≤ 2540160000000) (hZ : ∀ k, 0 ≤ S3 k ∧ S3 k ≤ 64) (hB : ∀ k, 0 ≤ S4 k ∧ S4 k ≤ 255) (hn : n ≤ 16) (hfo : f = 0 ∨ f = 1 ∨ f = 2) (n_s : s1 ≠ s2) : Rn G M_Mo_write (rm 4 120) [.ref m, .int (iZ f)] h (fun r h' => (1000 < (outs f tk S1 S2 S3 S4 n).length → r = some (.int (iZ (-3))) ∧ (∃ σ', h' m = some (.inr (11, fsN 34 σ')) ∧ Fs [23, 24] σ σ') ∧ h' bu = some (.inl (G_i G, 1000, .inl (iA F))) ∧ Fm [m, bu] h h') ∧ ((outs f tk S1 S2 S3 S4 n).length ≤ 1000 → r = some (.int (iZ ((outs f tk S1 S2 S3 S4 n).length : Int))) ∧ (∃ σ', h' m = some (.inr (11, fsN 34 σ')) ∧ σ' 0 = .int (iZ ((outs f tk S1 S2 S3 S4 n).length : Int)) ∧ Fs [0, 23, 24] σ σ') ∧ h' bu = some (.inl (G_i G, 1000, .inl (iA (pL F (outs f tk S1 S2 S3 S4 n))))) ∧ Fm [m, bu] h h')) := by
  refine rn_of (by decide) (Nat.le_of_ble_eq_true rfl) ?_
  show Ev G M_Mo_write _ _ 0 [(0, .ref m), (1, .int (iZ f))] [] _ 0 0
  have fm : Fm [m, bu] h h := Fm.rf
  have fs : Fs [23, 24] σ σ := Fs.rf
  have rl := outs_b (tk := tk) (K1 := S1) (K2 := S2) (K4 := S4) hfo hZ n
  refine ev_iload_n d_Mo_write_0 rfl rfl ?_
  refine ez_if_lt (tgt := 9) (by omega) d_Mo_write_1 rfl (fun c1 => absurd c1 (by omega)) (fun c1 => ?_)
  refine ev_iload_n d_Mo_write_4 rfl rfl ?_
  refine ev_iconst (v := iZ 2) d_Mo_write_5 rfl ?_
  refine ez_icmp_le (tgt := 12) (by omega) (by decide) d_Mo_write_6 rfl (fun c6 => ?_) (fun c6 => absurd c6 (by omega))
  refine ev_iconst (v := iZ 0) d_Mo_write_12 rfl ?_
  refine ev_istore_n (L' := [(0, .ref m), (1, .int (iZ f)), (2, .int (iZ 0))]) d_Mo_write_13 rfl (by decide) rfl ?_
  refine ev_iload_n d_Mo_write_14 rfl rfl ?_
  refine ev_iconst (v := iZ 2) d_Mo_write_15 rfl ?_
  refine ez_icmp_ge (tgt := 78) (by decide) (by decide) d_Mo_write_16 rfl (fun c16 => absurd c16 (by omega)) (fun c16 => ?_)
  refine ev_aload_n d_Mo_write_19 rfl rfl ?_
  refine ev_iload_n d_Mo_write_20 rfl rfl ?_
  refine ez_if_ne (tgt := 28) (by decide) d_Mo_write_21 rfl (fun c21 => absurd c21 (by omega)) (fun c21 => ?_)
  refine ev_iconst (v := iZ 1) d_Mo_write_24 rfl ?_
  refine ev_goto (tgt := 29) d_Mo_write_25 rfl ?_
  refine ev_putF2 d_Mo_write_29 fw_Mo_179 (Or.inr (fun _ _ _ q => by cases q; rfl)) hm (by decide) rfl rfl (fun h1 σ2 h1a σ2j σ2o h1o => ?_)
  have f1 := (σ2o 1 (by decide)).trans f1
  have f2 := (σ2o 2 (by decide)).trans f2
  have f3 := (σ2o 3 (by decide)).trans f3
  have f4 := (σ2o 4 (by decide)).trans f4
  have f5 := (σ2o 5 (by decide)).trans f5
  have f6 := (σ2o 6 (by decide)).trans f6
  have f7 := (σ2o 7 (by decide)).trans f7
  have f8 := (σ2o 8 (by decide)).trans f8
  have f24 := σ2j
  have fs := fs.step (by simp) σ2o
  have hbu := (h1o _ (cne hbu hm (by simp))).trans hbu
  have hs1 := (h1o _ (cne hs1 hm (by simp))).trans hs1
  have hs2 := (h1o _ (cne hs2 hm (by simp))).trans hs2
  have hs3 := (h1o _ (cne hs3 hm (by simp))).trans hs3
  have hs4 := (h1o _ (cne hs4 hm (by simp))).trans hs4
  have hm := h1a
  have fm := fm.step (by simp) h1o
  refine ev_aload_n d_Mo_write_32 rfl rfl ?_
  refine ev_iconst (v := iZ 0) d_Mo_write_33 rfl ?_
  refine ev_putF2 d_Mo_write_34 fw_Mo_183 (Or.inr (fun _ _ _ q => by cases q; rfl)) hm (by decide) rfl rfl (fun h3 σ4 h3a σ4j σ4o h3o => ?_)
  have f1 := (σ4o 1 (by decide)).trans f1
  have f2 := (σ4o 2 (by decide)).trans f2
  have f3 := (σ4o 3 (by decide)).trans f3
  have f4 := (σ4o 4 (by decide)).trans f4
  have f5 := (σ4o 5 (by decide)).trans f5
  have f6 := (σ4o 6 (by decide)).trans f6
  have f7 := (σ4o 7 (by decide)).trans f7
  have f8 := (σ4o 8 (by decide)).trans f8
  have f24 := (σ4o 24 (by decide)).trans f24
  have f23 := σ4j
  have fs := fs.step (by simp) σ4o
  have hbu := (h3o _ (cne hbu hm (by simp))).trans hbu
  have hs1 := (h3o _ (cne hs1 hm (by simp))).trans hs1
  have hs2 := (h3o _ (cne hs2 hm (by simp))).trans hs2
  have hs3 := (h3o _ (cne hs3 hm (by simp))).trans hs3
  have hs4 := (h3o _ (cne hs4 hm (by simp))).trans hs4
  have hm := h3a
  have fm := fm.step (by simp) h3o
  refine ev_iconst (v := iZ 0) d_Mo_write_37 rfl ?_
  refine ev_istore_n (L' := [(0, .ref m), (1, .int (iZ f)), (2, .int (iZ 0)), (3, .int (iZ 0))]) d_Mo_write_38 rfl (by decide) rfl ?_
  refine lp_Mo_wr G _ h3 σ4 m bu F 1 0 f n s1 s2 s3 s4 S1 S2 S3 S4 num den tk hnum hden htk htr hT hE hZ hB hn hfo (by decide) ⟨Or.inl rfl, by omega⟩ ?_ n 0 h3 σ4 (by omega) hm f1 f2 f3 f4 f5 f6 f7 f8 f23 f24 (by rw [bufC_1 rfl]; exact hbu) hs1 hs2 hs3 hs4 Fm.rf Fs.rf
  intro h90 σ90 hm f1 f2 f3 f4 f5 f6 f7 f8 f23 f24 hbu hs1 hs2 hs3 hs4 fm2 fs2
  have fm := fm.call (by simp) fm2
  have fs := fs.call (by simp) fs2
  rw [bufC_1 rfl] at hbu
  refine ev_aload_n d_Mo_write_59 rfl rfl ?_
  refine ev_getF d_Mo_write_60 fl_Mo_183 hm (by decide) f23 ?_
  refine ev_sipush (v := iZ 1000) d_Mo_write_63 rfl ?_
  refine ez_icmp_le (tgt := 72) (by omega) (by decide) d_Mo_write_66 rfl (fun c66 => ?_) (fun c66 => ?_)
  · refine ez_iinc (L' := [(0, .ref m), (1, .int (iZ f)), (2, .int (iZ 1)), (3, .int (iZ (n : Int)))]) d_Mo_write_72 rfl (by decide) rfl ?_
    refine ev_goto (tgt := 14) d_Mo_write_75 rfl ?_
    refine ev_iload_n d_Mo_write_14 rfl rfl ?_
    refine ev_iconst (v := iZ 2) d_Mo_write_15 rfl ?_
    refine ez_icmp_ge (tgt := 78) (by decide) (by decide) d_Mo_write_16 rfl (fun c16 => absurd c16 (by omega)) (fun c16 => ?_)
    refine ev_aload_n d_Mo_write_19 rfl rfl ?_
    refine ev_iload_n d_Mo_write_20 rfl rfl ?_
    refine ez_if_ne (tgt := 28) (by decide) d_Mo_write_21 rfl (fun c21 => ?_) (fun c21 => absurd c21 (by omega))
    refine ev_iconst (v := iZ 0) d_Mo_write_28 rfl ?_
    refine ev_putF2 d_Mo_write_29 fw_Mo_179 (Or.inr (fun _ _ _ q => by cases q; rfl)) hm (by decide) rfl rfl (fun h5 σ6 h5a σ6j σ6o h5o => ?_)
    have f1 := (σ6o 1 (by decide)).trans f1
    have f2 := (σ6o 2 (by decide)).trans f2
    have f3 := (σ6o 3 (by decide)).trans f3
    have f4 := (σ6o 4 (by decide)).trans f4
    have f5 := (σ6o 5 (by decide)).trans f5
    have f6 := (σ6o 6 (by decide)).trans f6
    have f7 := (σ6o 7 (by decide)).trans f7
    have f8 := (σ6o 8 (by decide)).trans f8
    have f23 := (σ6o 23 (by decide)).trans f23
    have f24 := σ6j
    have fs := fs.step (by simp) σ6o
    have hbu := (h5o _ (cne hbu hm (by simp))).trans hbu
    have hs1 := (h5o _ (cne hs1 hm (by simp))).trans hs1
    have hs2 := (h5o _ (cne hs2 hm (by simp))).trans hs2
    have hs3 := (h5o _ (cne hs3 hm (by simp))).trans hs3
    have hs4 := (h5o _ (cne hs4 hm (by simp))).trans hs4
    have hm := h5a
    have fm := fm.step (by simp) h5o
    refine ev_aload_n d_Mo_write_32 rfl rfl ?_
    refine ev_iconst (v := iZ 0) d_Mo_write_33 rfl ?_
    refine ev_putF2 d_Mo_write_34 fw_Mo_183 (Or.inr (fun _ _ _ q => by cases q; rfl)) hm (by decide) rfl rfl (fun h7 σ8 h7a σ8j σ8o h7o => ?_)
    have f1 := (σ8o 1 (by decide)).trans f1
    have f2 := (σ8o 2 (by decide)).trans f2
    have f3 := (σ8o 3 (by decide)).trans f3
    have f4 := (σ8o 4 (by decide)).trans f4
    have f5 := (σ8o 5 (by decide)).trans f5
    have f6 := (σ8o 6 (by decide)).trans f6
    have f7 := (σ8o 7 (by decide)).trans f7
    have f8 := (σ8o 8 (by decide)).trans f8
    have f24 := (σ8o 24 (by decide)).trans f24
    have f23 := σ8j
    have fs := fs.step (by simp) σ8o
    have hbu := (h7o _ (cne hbu hm (by simp))).trans hbu
    have hs1 := (h7o _ (cne hs1 hm (by simp))).trans hs1
    have hs2 := (h7o _ (cne hs2 hm (by simp))).trans hs2
    have hs3 := (h7o _ (cne hs3 hm (by simp))).trans hs3
    have hs4 := (h7o _ (cne hs4 hm (by simp))).trans hs4
    have hm := h7a
    have fm := fm.step (by simp) h7o
    refine ev_iconst (v := iZ 0) d_Mo_write_37 rfl ?_
    refine ev_istore_n (L' := [(0, .ref m), (1, .int (iZ f)), (2, .int (iZ 1)), (3, .int (iZ 0))]) d_Mo_write_38 rfl (by decide) rfl ?_
    refine lp_Mo_wr G _ h7 σ8 m bu F 0 1 f n s1 s2 s3 s4 S1 S2 S3 S4 num den tk hnum hden htk htr hT hE hZ hB hn hfo (by decide) ⟨Or.inr (by omega), by omega⟩ ?_ n 0 h7 σ8 (by omega) hm f1 f2 f3 f4 f5 f6 f7 f8 f23 f24 (by rw [bufC_0 (by decide)]; exact hbu) hs1 hs2 hs3 hs4 Fm.rf Fs.rf
    intro h91 σ91 hm f1 f2 f3 f4 f5 f6 f7 f8 f23 f24 hbu hs1 hs2 hs3 hs4 fm2 fs2
    have fm := fm.call (by simp) fm2
    have fs := fs.call (by simp) fs2
    rw [bufC_0 (by decide)] at hbu
    refine ev_aload_n d_Mo_write_59 rfl rfl ?_
    refine ev_getF d_Mo_write_60 fl_Mo_183 hm (by decide) f23 ?_
    refine ev_sipush (v := iZ 1000) d_Mo_write_63 rfl ?_
    refine ez_icmp_le (tgt := 72) (by omega) (by decide) d_Mo_write_66 rfl (fun c66 => ?_) (fun c66 => absurd c66 (by omega))
    refine ez_iinc (L' := [(0, .ref m), (1, .int (iZ f)), (2, .int (iZ 2)), (3, .int (iZ (n : Int)))]) d_Mo_write_72 rfl (by decide) rfl ?_
    refine ev_goto (tgt := 14) d_Mo_write_75 rfl ?_
    refine ev_iload_n d_Mo_write_14 rfl rfl ?_
    refine ev_iconst (v := iZ 2) d_Mo_write_15 rfl ?_
    refine ez_icmp_ge (tgt := 78) (by decide) (by decide) d_Mo_write_16 rfl (fun c16 => ?_) (fun c16 => absurd c16 (by omega))
    have fs0 : Fs [0, 23, 24] σ σ91 := Fs.call Fs.rf (by simp) fs
    refine ev_aload_n d_Mo_write_78 rfl rfl ?_
    refine ev_aload_n d_Mo_write_79 rfl rfl ?_
    refine ev_getF d_Mo_write_80 fl_Mo_183 hm (by decide) f23 ?_
    refine ev_putF2 d_Mo_write_83 fw_Mo_95 (Or.inr (fun _ _ _ q => by cases q; rfl)) hm (by decide) rfl rfl (fun h9 σ10 h9a σ10j σ10o h9o => ?_)
    have f1 := (σ10o 1 (by decide)).trans f1
    have f2 := (σ10o 2 (by decide)).trans f2
    have f3 := (σ10o 3 (by decide)).trans f3
    have f4 := (σ10o 4 (by decide)).trans f4
    have f5 := (σ10o 5 (by decide)).trans f5
    have f6 := (σ10o 6 (by decide)).trans f6
    have f7 := (σ10o 7 (by decide)).trans f7
    have f8 := (σ10o 8 (by decide)).trans f8
    have f23 := (σ10o 23 (by decide)).trans f23
    have f24 := (σ10o 24 (by decide)).trans f24
    have f0 := σ10j
    have hbu := (h9o _ (cne hbu hm (by simp))).trans hbu
    have hs1 := (h9o _ (cne hs1 hm (by simp))).trans hs1
    have hs2 := (h9o _ (cne hs2 hm (by simp))).trans hs2
    have hs3 := (h9o _ (cne hs3 hm (by simp))).trans hs3
    have hs4 := (h9o _ (cne hs4 hm (by simp))).trans hs4
    have hm := h9a
    have fm := fm.step (by simp) h9o
    have fs0 := fs0.step (by simp) σ10o
    refine ev_aload_n d_Mo_write_86 rfl rfl ?_
    refine ev_getF d_Mo_write_87 fl_Mo_95 hm (by decide) f0 ?_
    exact ev_ireturn d_Mo_write_90 rfl (by decide) (by decide) (⟨fun q => absurd q (by omega), fun _ => ⟨rfl, ⟨σ10, hm, f0, fs0⟩, hbu, fm⟩⟩)
  · refine ev_bipush (v := iZ (-3)) d_Mo_write_69 rfl ?_
    exact ev_ireturn d_Mo_write_71 rfl (by decide) (by decide) (⟨fun _ => ⟨rfl, ⟨σ90, hm, fs⟩, hbu, fm⟩, fun q => absurd q (by omega)⟩)
