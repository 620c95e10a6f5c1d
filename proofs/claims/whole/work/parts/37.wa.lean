theorem d_Wr_addNumber_0 : decode M_Wr_addNumber.2.1 0 = .ok (.iload_n 2, 1) := by decide +kernel
theorem d_Wr_addNumber_1 : decode M_Wr_addNumber.2.1 1 = .ok (.iconst 1, 1) := by decide +kernel
theorem d_Wr_addNumber_2 : decode M_Wr_addNumber.2.1 2 = .ok (.isub, 1) := by decide +kernel
theorem d_Wr_addNumber_3 : decode M_Wr_addNumber.2.1 3 = .ok (.istore_n 3, 1) := by decide +kernel
theorem d_Wr_addNumber_4 : decode M_Wr_addNumber.2.1 4 = .ok (.iload_n 3, 1) := by decide +kernel
theorem d_Wr_addNumber_5 : decode M_Wr_addNumber.2.1 5 = .ok (.ifCond .lt 29, 3) := by decide +kernel
theorem d_Wr_addNumber_8 : decode M_Wr_addNumber.2.1 8 = .ok (.aload_n 0, 1) := by decide +kernel
theorem d_Wr_addNumber_9 : decode M_Wr_addNumber.2.1 9 = .ok (.getfield 9, 3) := by decide +kernel
theorem d_Wr_addNumber_12 : decode M_Wr_addNumber.2.1 12 = .ok (.bipush 48, 2) := by decide +kernel
theorem d_Wr_addNumber_14 : decode M_Wr_addNumber.2.1 14 = .ok (.iload_n 1, 1) := by decide +kernel
theorem d_Wr_addNumber_15 : decode M_Wr_addNumber.2.1 15 = .ok (.getstatic 54, 3) := by decide +kernel
theorem d_Wr_addNumber_18 : decode M_Wr_addNumber.2.1 18 = .ok (.iload_n 3, 1) := by decide +kernel
theorem d_Wr_addNumber_19 : decode M_Wr_addNumber.2.1 19 = .ok (.iaload, 1) := by decide +kernel
theorem d_Wr_addNumber_20 : decode M_Wr_addNumber.2.1 20 = .ok (.idiv, 1) := by decide +kernel
theorem d_Wr_addNumber_21 : decode M_Wr_addNumber.2.1 21 = .ok (.bipush 10, 2) := by decide +kernel
theorem d_Wr_addNumber_23 : decode M_Wr_addNumber.2.1 23 = .ok (.irem, 1) := by decide +kernel
theorem d_Wr_addNumber_24 : decode M_Wr_addNumber.2.1 24 = .ok (.iadd, 1) := by decide +kernel
theorem d_Wr_addNumber_25 : decode M_Wr_addNumber.2.1 25 = .ok (.invokevirtual 76, 3) := by decide +kernel
theorem d_Wr_addNumber_28 : decode M_Wr_addNumber.2.1 28 = .ok (.iinc 3 (-1), 3) := by decide +kernel
theorem d_Wr_addNumber_31 : decode M_Wr_addNumber.2.1 31 = .ok (.goto (-27), 3) := by decide +kernel
theorem d_Wr_addNumber_34 : decode M_Wr_addNumber.2.1 34 = .ok (.return_, 1) := by decide +kernel
theorem d_Wr_addSixBytes_0 : decode M_Wr_addSixBytes.2.1 0 = .ok (.iconst 5, 1) := by decide +kernel
theorem d_Wr_addSixBytes_1 : decode M_Wr_addSixBytes.2.1 1 = .ok (.istore_n 3, 1) := by decide +kernel
theorem d_Wr_addSixBytes_2 : decode M_Wr_addSixBytes.2.1 2 = .ok (.iload_n 3, 1) := by decide +kernel
theorem d_Wr_addSixBytes_3 : decode M_Wr_addSixBytes.2.1 3 = .ok (.ifCond .lt 27, 3) := by decide +kernel
theorem d_Wr_addSixBytes_6 : decode M_Wr_addSixBytes.2.1 6 = .ok (.aload_n 0, 1) := by decide +kernel
theorem d_Wr_addSixBytes_7 : decode M_Wr_addSixBytes.2.1 7 = .ok (.getfield 9, 3) := by decide +kernel
theorem d_Wr_addSixBytes_10 : decode M_Wr_addSixBytes.2.1 10 = .ok (.lload_n 1, 1) := by decide +kernel
theorem d_Wr_addSixBytes_11 : decode M_Wr_addSixBytes.2.1 11 = .ok (.bipush 8, 2) := by decide +kernel
theorem d_Wr_addSixBytes_13 : decode M_Wr_addSixBytes.2.1 13 = .ok (.iload_n 3, 1) := by decide +kernel
theorem d_Wr_addSixBytes_14 : decode M_Wr_addSixBytes.2.1 14 = .ok (.imul, 1) := by decide +kernel
theorem d_Wr_addSixBytes_15 : decode M_Wr_addSixBytes.2.1 15 = .ok (.lushr, 1) := by decide +kernel
theorem d_Wr_addSixBytes_16 : decode M_Wr_addSixBytes.2.1 16 = .ok (.l2i, 1) := by decide +kernel
theorem d_Wr_addSixBytes_17 : decode M_Wr_addSixBytes.2.1 17 = .ok (.sipush 255, 3) := by decide +kernel
theorem d_Wr_addSixBytes_20 : decode M_Wr_addSixBytes.2.1 20 = .ok (.iand, 1) := by decide +kernel
theorem d_Wr_addSixBytes_21 : decode M_Wr_addSixBytes.2.1 21 = .ok (.invokevirtual 76, 3) := by decide +kernel
theorem d_Wr_addSixBytes_24 : decode M_Wr_addSixBytes.2.1 24 = .ok (.iinc 3 (-1), 3) := by decide +kernel
theorem d_Wr_addSixBytes_27 : decode M_Wr_addSixBytes.2.1 27 = .ok (.goto (-25), 3) := by decide +kernel
theorem d_Wr_addSixBytes_30 : decode M_Wr_addSixBytes.2.1 30 = .ok (.return_, 1) := by decide +kernel
theorem d_Wr_addText_0 : decode M_Wr_addText.2.1 0 = .ok (.iconst 0, 1) := by decide +kernel
theorem d_Wr_addText_1 : decode M_Wr_addText.2.1 1 = .ok (.istore_n 3, 1) := by decide +kernel
theorem d_Wr_addText_2 : decode M_Wr_addText.2.1 2 = .ok (.iload_n 3, 1) := by decide +kernel
theorem d_Wr_addText_3 : decode M_Wr_addText.2.1 3 = .ok (.aload_n 0, 1) := by decide +kernel
theorem d_Wr_addText_4 : decode M_Wr_addText.2.1 4 = .ok (.getfield 19, 3) := by decide +kernel
theorem d_Wr_addText_7 : decode M_Wr_addText.2.1 7 = .ok (.getfield 33, 3) := by decide +kernel
theorem d_Wr_addText_10 : decode M_Wr_addText.2.1 10 = .ok (.iload_n 1, 1) := by decide +kernel
theorem d_Wr_addText_11 : decode M_Wr_addText.2.1 11 = .ok (.iaload, 1) := by decide +kernel
theorem d_Wr_addText_12 : decode M_Wr_addText.2.1 12 = .ok (.if_icmp .ge 40, 3) := by decide +kernel
theorem d_Wr_addText_15 : decode M_Wr_addText.2.1 15 = .ok (.aload_n 0, 1) := by decide +kernel
theorem d_Wr_addText_16 : decode M_Wr_addText.2.1 16 = .ok (.getfield 19, 3) := by decide +kernel
theorem d_Wr_addText_19 : decode M_Wr_addText.2.1 19 = .ok (.iload_n 1, 1) := by decide +kernel
theorem d_Wr_addText_20 : decode M_Wr_addText.2.1 20 = .ok (.iload_n 3, 1) := by decide +kernel
theorem d_Wr_addText_21 : decode M_Wr_addText.2.1 21 = .ok (.invokevirtual 100, 3) := by decide +kernel
theorem d_Wr_addText_24 : decode M_Wr_addText.2.1 24 = .ok (.istore 4, 2) := by decide +kernel
theorem d_Wr_addText_26 : decode M_Wr_addText.2.1 26 = .ok (.aload_n 0, 1) := by decide +kernel
theorem d_Wr_addText_27 : decode M_Wr_addText.2.1 27 = .ok (.getfield 9, 3) := by decide +kernel
theorem d_Wr_addText_30 : decode M_Wr_addText.2.1 30 = .ok (.iload 4, 2) := by decide +kernel
theorem d_Wr_addText_32 : decode M_Wr_addText.2.1 32 = .ok (.bipush 10, 2) := by decide +kernel
theorem d_Wr_addText_34 : decode M_Wr_addText.2.1 34 = .ok (.if_icmp .ne 7, 3) := by decide +kernel
theorem d_Wr_addText_37 : decode M_Wr_addText.2.1 37 = .ok (.iload_n 2, 1) := by decide +kernel
theorem d_Wr_addText_38 : decode M_Wr_addText.2.1 38 = .ok (.goto 5, 3) := by decide +kernel
theorem d_Wr_addText_41 : decode M_Wr_addText.2.1 41 = .ok (.iload 4, 2) := by decide +kernel
theorem d_Wr_addText_43 : decode M_Wr_addText.2.1 43 = .ok (.invokevirtual 76, 3) := by decide +kernel
theorem d_Wr_addText_46 : decode M_Wr_addText.2.1 46 = .ok (.iinc 3 1, 3) := by decide +kernel
theorem d_Wr_addText_49 : decode M_Wr_addText.2.1 49 = .ok (.goto (-47), 3) := by decide +kernel
theorem d_Wr_addText_52 : decode M_Wr_addText.2.1 52 = .ok (.return_, 1) := by decide +kernel
theorem d_Wr_digits_0 : decode M_Wr_digits.2.1 0 = .ok (.iconst 1, 1) := by decide +kernel
theorem d_Wr_digits_1 : decode M_Wr_digits.2.1 1 = .ok (.istore_n 1, 1) := by decide +kernel
theorem d_Wr_digits_2 : decode M_Wr_digits.2.1 2 = .ok (.iload_n 1, 1) := by decide +kernel
theorem d_Wr_digits_3 : decode M_Wr_digits.2.1 3 = .ok (.getstatic 54, 3) := by decide +kernel
theorem d_Wr_digits_6 : decode M_Wr_digits.2.1 6 = .ok (.arraylength, 1) := by decide +kernel
theorem d_Wr_digits_7 : decode M_Wr_digits.2.1 7 = .ok (.if_icmp .ge 18, 3) := by decide +kernel
theorem d_Wr_digits_10 : decode M_Wr_digits.2.1 10 = .ok (.iload_n 0, 1) := by decide +kernel
theorem d_Wr_digits_11 : decode M_Wr_digits.2.1 11 = .ok (.getstatic 54, 3) := by decide +kernel
theorem d_Wr_digits_14 : decode M_Wr_digits.2.1 14 = .ok (.iload_n 1, 1) := by decide +kernel
theorem d_Wr_digits_15 : decode M_Wr_digits.2.1 15 = .ok (.iaload, 1) := by decide +kernel
theorem d_Wr_digits_16 : decode M_Wr_digits.2.1 16 = .ok (.if_icmp .lt 9, 3) := by decide +kernel
theorem d_Wr_digits_19 : decode M_Wr_digits.2.1 19 = .ok (.iinc 1 1, 3) := by decide +kernel
theorem d_Wr_digits_22 : decode M_Wr_digits.2.1 22 = .ok (.goto (-20), 3) := by decide +kernel
theorem d_Wr_digits_25 : decode M_Wr_digits.2.1 25 = .ok (.iload_n 1, 1) := by decide +kernel
theorem d_Wr_digits_26 : decode M_Wr_digits.2.1 26 = .ok (.ireturn, 1) := by decide +kernel
theorem d_Wr_lengthOfTimes_0 : decode M_Wr_lengthOfTimes.2.1 0 = .ok (.iload_n 1, 1) := by decide +kernel
theorem d_Wr_lengthOfTimes_1 : decode M_Wr_lengthOfTimes.2.1 1 = .ok (.ifCond .ne 6, 3) := by decide +kernel
theorem d_Wr_lengthOfTimes_4 : decode M_Wr_lengthOfTimes.2.1 4 = .ok (.bipush 30, 2) := by decide +kernel
theorem d_Wr_lengthOfTimes_6 : decode M_Wr_lengthOfTimes.2.1 6 = .ok (.ireturn, 1) := by decide +kernel
theorem d_Wr_lengthOfTimes_7 : decode M_Wr_lengthOfTimes.2.1 7 = .ok (.iload_n 1, 1) := by decide +kernel
theorem d_Wr_lengthOfTimes_8 : decode M_Wr_lengthOfTimes.2.1 8 = .ok (.iconst 2, 1) := by decide +kernel
theorem d_Wr_lengthOfTimes_9 : decode M_Wr_lengthOfTimes.2.1 9 = .ok (.if_icmp .ne 6, 3) := by decide +kernel
theorem d_Wr_lengthOfTimes_12 : decode M_Wr_lengthOfTimes.2.1 12 = .ok (.bipush 13, 2) := by decide +kernel
theorem d_Wr_lengthOfTimes_14 : decode M_Wr_lengthOfTimes.2.1 14 = .ok (.ireturn, 1) := by decide +kernel
theorem d_Wr_lengthOfTimes_15 : decode M_Wr_lengthOfTimes.2.1 15 = .ok (.iconst 5, 1) := by decide +kernel
theorem d_Wr_lengthOfTimes_16 : decode M_Wr_lengthOfTimes.2.1 16 = .ok (.aload_n 0, 1) := by decide +kernel
theorem d_Wr_lengthOfTimes_17 : decode M_Wr_lengthOfTimes.2.1 17 = .ok (.getfield 15, 3) := by decide +kernel
theorem d_Wr_lengthOfTimes_20 : decode M_Wr_lengthOfTimes.2.1 20 = .ok (.aload_n 0, 1) := by decide +kernel
theorem d_Wr_lengthOfTimes_21 : decode M_Wr_lengthOfTimes.2.1 21 = .ok (.getfield 19, 3) := by decide +kernel
theorem d_Wr_lengthOfTimes_24 : decode M_Wr_lengthOfTimes.2.1 24 = .ok (.getfield 37, 3) := by decide +kernel
theorem d_Wr_lengthOfTimes_27 : decode M_Wr_lengthOfTimes.2.1 27 = .ok (.iload_n 2, 1) := by decide +kernel
theorem d_Wr_lengthOfTimes_28 : decode M_Wr_lengthOfTimes.2.1 28 = .ok (.laload, 1) := by decide +kernel
theorem d_Wr_lengthOfTimes_29 : decode M_Wr_lengthOfTimes.2.1 29 = .ok (.invokevirtual 41, 3) := by decide +kernel
theorem d_Wr_lengthOfTimes_32 : decode M_Wr_lengthOfTimes.2.1 32 = .ok (.invokestatic 47, 3) := by decide +kernel
theorem d_Wr_lengthOfTimes_35 : decode M_Wr_lengthOfTimes.2.1 35 = .ok (.iadd, 1) := by decide +kernel
theorem d_Wr_lengthOfTimes_36 : decode M_Wr_lengthOfTimes.2.1 36 = .ok (.aload_n 0, 1) := by decide +kernel
theorem d_Wr_lengthOfTimes_37 : decode M_Wr_lengthOfTimes.2.1 37 = .ok (.getfield 15, 3) := by decide +kernel
theorem d_Wr_lengthOfTimes_40 : decode M_Wr_lengthOfTimes.2.1 40 = .ok (.aload_n 0, 1) := by decide +kernel
theorem d_Wr_lengthOfTimes_41 : decode M_Wr_lengthOfTimes.2.1 41 = .ok (.getfield 19, 3) := by decide +kernel
theorem d_Wr_lengthOfTimes_44 : decode M_Wr_lengthOfTimes.2.1 44 = .ok (.getfield 51, 3) := by decide +kernel
theorem d_Wr_lengthOfTimes_47 : decode M_Wr_lengthOfTimes.2.1 47 = .ok (.iload_n 2, 1) := by decide +kernel
theorem d_Wr_lengthOfTimes_48 : decode M_Wr_lengthOfTimes.2.1 48 = .ok (.laload, 1) := by decide +kernel
theorem d_Wr_lengthOfTimes_49 : decode M_Wr_lengthOfTimes.2.1 49 = .ok (.invokevirtual 41, 3) := by decide +kernel
theorem d_Wr_lengthOfTimes_52 : decode M_Wr_lengthOfTimes.2.1 52 = .ok (.invokestatic 47, 3) := by decide +kernel
theorem d_Wr_lengthOfTimes_55 : decode M_Wr_lengthOfTimes.2.1 55 = .ok (.iadd, 1) := by decide +kernel
theorem d_Wr_lengthOfTimes_56 : decode M_Wr_lengthOfTimes.2.1 56 = .ok (.ireturn, 1) := by decide +kernel
theorem d_Wr_length_0 : decode M_Wr_length.2.1 0 = .ok (.iconst 0, 1) := by decide +kernel
theorem d_Wr_length_1 : decode M_Wr_length.2.1 1 = .ok (.istore_n 2, 1) := by decide +kernel
theorem d_Wr_length_2 : decode M_Wr_length.2.1 2 = .ok (.iconst 0, 1) := by decide +kernel
theorem d_Wr_length_3 : decode M_Wr_length.2.1 3 = .ok (.istore_n 3, 1) := by decide +kernel
theorem d_Wr_length_4 : decode M_Wr_length.2.1 4 = .ok (.iload_n 3, 1) := by decide +kernel
theorem d_Wr_length_5 : decode M_Wr_length.2.1 5 = .ok (.aload_n 0, 1) := by decide +kernel
theorem d_Wr_length_6 : decode M_Wr_length.2.1 6 = .ok (.getfield 19, 3) := by decide +kernel
theorem d_Wr_length_9 : decode M_Wr_length.2.1 9 = .ok (.getfield 23, 3) := by decide +kernel
theorem d_Wr_length_12 : decode M_Wr_length.2.1 12 = .ok (.if_icmp .ge 28, 3) := by decide +kernel
theorem d_Wr_length_15 : decode M_Wr_length.2.1 15 = .ok (.iload_n 2, 1) := by decide +kernel
theorem d_Wr_length_16 : decode M_Wr_length.2.1 16 = .ok (.aload_n 0, 1) := by decide +kernel
theorem d_Wr_length_17 : decode M_Wr_length.2.1 17 = .ok (.iload_n 1, 1) := by decide +kernel
theorem d_Wr_length_18 : decode M_Wr_length.2.1 18 = .ok (.iload_n 3, 1) := by decide +kernel
theorem d_Wr_length_19 : decode M_Wr_length.2.1 19 = .ok (.invokevirtual 29, 3) := by decide +kernel
theorem d_Wr_length_22 : decode M_Wr_length.2.1 22 = .ok (.aload_n 0, 1) := by decide +kernel
theorem d_Wr_length_23 : decode M_Wr_length.2.1 23 = .ok (.getfield 19, 3) := by decide +kernel
theorem d_Wr_length_26 : decode M_Wr_length.2.1 26 = .ok (.getfield 33, 3) := by decide +kernel
theorem d_Wr_length_29 : decode M_Wr_length.2.1 29 = .ok (.iload_n 3, 1) := by decide +kernel
theorem d_Wr_length_30 : decode M_Wr_length.2.1 30 = .ok (.iaload, 1) := by decide +kernel
theorem d_Wr_length_31 : decode M_Wr_length.2.1 31 = .ok (.iadd, 1) := by decide +kernel
theorem d_Wr_length_32 : decode M_Wr_length.2.1 32 = .ok (.iadd, 1) := by decide +kernel
theorem d_Wr_length_33 : decode M_Wr_length.2.1 33 = .ok (.istore_n 2, 1) := by decide +kernel
theorem d_Wr_length_34 : decode M_Wr_length.2.1 34 = .ok (.iinc 3 1, 3) := by decide +kernel
theorem d_Wr_length_37 : decode M_Wr_length.2.1 37 = .ok (.goto (-33), 3) := by decide +kernel
theorem d_Wr_length_40 : decode M_Wr_length.2.1 40 = .ok (.iload_n 2, 1) := by decide +kernel
theorem d_Wr_length_41 : decode M_Wr_length.2.1 41 = .ok (.ireturn, 1) := by decide +kernel
theorem d_Wr_addBlockTime_0 : decode M_Wr_addBlockTime.2.1 0 = .ok (.lload_n 1, 1) := by decide +kernel
theorem d_Wr_addBlockTime_1 : decode M_Wr_addBlockTime.2.1 1 = .ok (.ldc2_w 83, 3) := by decide +kernel
theorem d_Wr_addBlockTime_4 : decode M_Wr_addBlockTime.2.1 4 = .ok (.invokestatic 85, 3) := by decide +kernel
theorem d_Wr_addBlockTime_7 : decode M_Wr_addBlockTime.2.1 7 = .ok (.l2i, 1) := by decide +kernel
theorem d_Wr_addBlockTime_8 : decode M_Wr_addBlockTime.2.1 8 = .ok (.istore_n 3, 1) := by decide +kernel
theorem d_Wr_addBlockTime_9 : decode M_Wr_addBlockTime.2.1 9 = .ok (.aload_n 0, 1) := by decide +kernel
theorem d_Wr_addBlockTime_10 : decode M_Wr_addBlockTime.2.1 10 = .ok (.iload_n 3, 1) := by decide +kernel
theorem d_Wr_addBlockTime_11 : decode M_Wr_addBlockTime.2.1 11 = .ok (.ldc 89, 2) := by decide +kernel
theorem d_Wr_addBlockTime_13 : decode M_Wr_addBlockTime.2.1 13 = .ok (.idiv, 1) := by decide +kernel
theorem d_Wr_addBlockTime_14 : decode M_Wr_addBlockTime.2.1 14 = .ok (.iconst 2, 1) := by decide +kernel
theorem d_Wr_addBlockTime_15 : decode M_Wr_addBlockTime.2.1 15 = .ok (.invokevirtual 90, 3) := by decide +kernel
theorem d_Wr_addBlockTime_18 : decode M_Wr_addBlockTime.2.1 18 = .ok (.aload_n 0, 1) := by decide +kernel
theorem d_Wr_addBlockTime_19 : decode M_Wr_addBlockTime.2.1 19 = .ok (.getfield 9, 3) := by decide +kernel
theorem d_Wr_addBlockTime_22 : decode M_Wr_addBlockTime.2.1 22 = .ok (.bipush 58, 2) := by decide +kernel
theorem d_Wr_addBlockTime_24 : decode M_Wr_addBlockTime.2.1 24 = .ok (.invokevirtual 76, 3) := by decide +kernel
theorem d_Wr_addBlockTime_27 : decode M_Wr_addBlockTime.2.1 27 = .ok (.aload_n 0, 1) := by decide +kernel
theorem d_Wr_addBlockTime_28 : decode M_Wr_addBlockTime.2.1 28 = .ok (.iload_n 3, 1) := by decide +kernel
theorem d_Wr_addBlockTime_29 : decode M_Wr_addBlockTime.2.1 29 = .ok (.ldc 93, 2) := by decide +kernel
theorem d_Wr_addBlockTime_31 : decode M_Wr_addBlockTime.2.1 31 = .ok (.idiv, 1) := by decide +kernel
theorem d_Wr_addBlockTime_32 : decode M_Wr_addBlockTime.2.1 32 = .ok (.bipush 60, 2) := by decide +kernel
theorem d_Wr_addBlockTime_34 : decode M_Wr_addBlockTime.2.1 34 = .ok (.irem, 1) := by decide +kernel
theorem d_Wr_addBlockTime_35 : decode M_Wr_addBlockTime.2.1 35 = .ok (.iconst 2, 1) := by decide +kernel
theorem d_Wr_addBlockTime_36 : decode M_Wr_addBlockTime.2.1 36 = .ok (.invokevirtual 90, 3) := by decide +kernel
theorem d_Wr_addBlockTime_39 : decode M_Wr_addBlockTime.2.1 39 = .ok (.aload_n 0, 1) := by decide +kernel
theorem d_Wr_addBlockTime_40 : decode M_Wr_addBlockTime.2.1 40 = .ok (.getfield 9, 3) := by decide +kernel
theorem d_Wr_addBlockTime_43 : decode M_Wr_addBlockTime.2.1 43 = .ok (.bipush 58, 2) := by decide +kernel
theorem d_Wr_addBlockTime_45 : decode M_Wr_addBlockTime.2.1 45 = .ok (.invokevirtual 76, 3) := by decide +kernel
theorem d_Wr_addBlockTime_48 : decode M_Wr_addBlockTime.2.1 48 = .ok (.aload_n 0, 1) := by decide +kernel
theorem d_Wr_addBlockTime_49 : decode M_Wr_addBlockTime.2.1 49 = .ok (.iload_n 3, 1) := by decide +kernel
theorem d_Wr_addBlockTime_50 : decode M_Wr_addBlockTime.2.1 50 = .ok (.sipush 1000, 3) := by decide +kernel
theorem d_Wr_addBlockTime_53 : decode M_Wr_addBlockTime.2.1 53 = .ok (.idiv, 1) := by decide +kernel
theorem d_Wr_addBlockTime_54 : decode M_Wr_addBlockTime.2.1 54 = .ok (.bipush 60, 2) := by decide +kernel
theorem d_Wr_addBlockTime_56 : decode M_Wr_addBlockTime.2.1 56 = .ok (.irem, 1) := by decide +kernel
theorem d_Wr_addBlockTime_57 : decode M_Wr_addBlockTime.2.1 57 = .ok (.iconst 2, 1) := by decide +kernel
theorem d_Wr_addBlockTime_58 : decode M_Wr_addBlockTime.2.1 58 = .ok (.invokevirtual 90, 3) := by decide +kernel
theorem d_Wr_addBlockTime_61 : decode M_Wr_addBlockTime.2.1 61 = .ok (.aload_n 0, 1) := by decide +kernel
theorem d_Wr_addBlockTime_62 : decode M_Wr_addBlockTime.2.1 62 = .ok (.getfield 9, 3) := by decide +kernel
theorem d_Wr_addBlockTime_65 : decode M_Wr_addBlockTime.2.1 65 = .ok (.bipush 44, 2) := by decide +kernel
theorem d_Wr_addBlockTime_67 : decode M_Wr_addBlockTime.2.1 67 = .ok (.invokevirtual 76, 3) := by decide +kernel
theorem d_Wr_addBlockTime_70 : decode M_Wr_addBlockTime.2.1 70 = .ok (.aload_n 0, 1) := by decide +kernel
theorem d_Wr_addBlockTime_71 : decode M_Wr_addBlockTime.2.1 71 = .ok (.iload_n 3, 1) := by decide +kernel
theorem d_Wr_addBlockTime_72 : decode M_Wr_addBlockTime.2.1 72 = .ok (.sipush 1000, 3) := by decide +kernel
theorem d_Wr_addBlockTime_75 : decode M_Wr_addBlockTime.2.1 75 = .ok (.irem, 1) := by decide +kernel
theorem d_Wr_addBlockTime_76 : decode M_Wr_addBlockTime.2.1 76 = .ok (.iconst 3, 1) := by decide +kernel
theorem d_Wr_addBlockTime_77 : decode M_Wr_addBlockTime.2.1 77 = .ok (.invokevirtual 90, 3) := by decide +kernel
theorem d_Wr_addBlockTime_80 : decode M_Wr_addBlockTime.2.1 80 = .ok (.return_, 1) := by decide +kernel
theorem d_Wr_addFrame_0 : decode M_Wr_addFrame.2.1 0 = .ok (.aload_n 0, 1) := by decide +kernel
theorem d_Wr_addFrame_1 : decode M_Wr_addFrame.2.1 1 = .ok (.getfield 15, 3) := by decide +kernel
theorem d_Wr_addFrame_4 : decode M_Wr_addFrame.2.1 4 = .ok (.lload_n 1, 1) := by decide +kernel
theorem d_Wr_addFrame_5 : decode M_Wr_addFrame.2.1 5 = .ok (.invokevirtual 41, 3) := by decide +kernel
theorem d_Wr_addFrame_8 : decode M_Wr_addFrame.2.1 8 = .ok (.istore_n 3, 1) := by decide +kernel
theorem d_Wr_addFrame_9 : decode M_Wr_addFrame.2.1 9 = .ok (.aload_n 0, 1) := by decide +kernel
theorem d_Wr_addFrame_10 : decode M_Wr_addFrame.2.1 10 = .ok (.getfield 9, 3) := by decide +kernel
theorem d_Wr_addFrame_13 : decode M_Wr_addFrame.2.1 13 = .ok (.bipush 123, 2) := by decide +kernel
theorem d_Wr_addFrame_15 : decode M_Wr_addFrame.2.1 15 = .ok (.invokevirtual 76, 3) := by decide +kernel
theorem d_Wr_addFrame_18 : decode M_Wr_addFrame.2.1 18 = .ok (.aload_n 0, 1) := by decide +kernel
theorem d_Wr_addFrame_19 : decode M_Wr_addFrame.2.1 19 = .ok (.iload_n 3, 1) := by decide +kernel
theorem d_Wr_addFrame_20 : decode M_Wr_addFrame.2.1 20 = .ok (.iload_n 3, 1) := by decide +kernel
theorem d_Wr_addFrame_21 : decode M_Wr_addFrame.2.1 21 = .ok (.invokestatic 47, 3) := by decide +kernel
theorem d_Wr_addFrame_24 : decode M_Wr_addFrame.2.1 24 = .ok (.invokevirtual 90, 3) := by decide +kernel
theorem d_Wr_addFrame_27 : decode M_Wr_addFrame.2.1 27 = .ok (.aload_n 0, 1) := by decide +kernel
theorem d_Wr_addFrame_28 : decode M_Wr_addFrame.2.1 28 = .ok (.getfield 9, 3) := by decide +kernel
theorem d_Wr_addFrame_31 : decode M_Wr_addFrame.2.1 31 = .ok (.bipush 125, 2) := by decide +kernel
theorem d_Wr_addFrame_33 : decode M_Wr_addFrame.2.1 33 = .ok (.invokevirtual 76, 3) := by decide +kernel
theorem d_Wr_addFrame_36 : decode M_Wr_addFrame.2.1 36 = .ok (.return_, 1) := by decide +kernel
theorem d_Wr_addBlock_0 : decode M_Wr_addBlock.2.1 0 = .ok (.aload_n 0, 1) := by decide +kernel
theorem d_Wr_addBlock_1 : decode M_Wr_addBlock.2.1 1 = .ok (.aload_n 0, 1) := by decide +kernel
theorem d_Wr_addBlock_2 : decode M_Wr_addBlock.2.1 2 = .ok (.getfield 19, 3) := by decide +kernel
theorem d_Wr_addBlock_5 : decode M_Wr_addBlock.2.1 5 = .ok (.getfield 37, 3) := by decide +kernel
theorem d_Wr_addBlock_8 : decode M_Wr_addBlock.2.1 8 = .ok (.iload_n 1, 1) := by decide +kernel
theorem d_Wr_addBlock_9 : decode M_Wr_addBlock.2.1 9 = .ok (.laload, 1) := by decide +kernel
theorem d_Wr_addBlock_10 : decode M_Wr_addBlock.2.1 10 = .ok (.invokevirtual 72, 3) := by decide +kernel
theorem d_Wr_addBlock_13 : decode M_Wr_addBlock.2.1 13 = .ok (.aload_n 0, 1) := by decide +kernel
theorem d_Wr_addBlock_14 : decode M_Wr_addBlock.2.1 14 = .ok (.getfield 9, 3) := by decide +kernel
theorem d_Wr_addBlock_17 : decode M_Wr_addBlock.2.1 17 = .ok (.bipush 32, 2) := by decide +kernel
theorem d_Wr_addBlock_19 : decode M_Wr_addBlock.2.1 19 = .ok (.invokevirtual 76, 3) := by decide +kernel
theorem d_Wr_addBlock_22 : decode M_Wr_addBlock.2.1 22 = .ok (.aload_n 0, 1) := by decide +kernel
theorem d_Wr_addBlock_23 : decode M_Wr_addBlock.2.1 23 = .ok (.getfield 9, 3) := by decide +kernel
theorem d_Wr_addBlock_26 : decode M_Wr_addBlock.2.1 26 = .ok (.bipush 62, 2) := by decide +kernel
theorem d_Wr_addBlock_28 : decode M_Wr_addBlock.2.1 28 = .ok (.invokevirtual 76, 3) := by decide +kernel
theorem d_Wr_addBlock_31 : decode M_Wr_addBlock.2.1 31 = .ok (.aload_n 0, 1) := by decide +kernel
theorem d_Wr_addBlock_32 : decode M_Wr_addBlock.2.1 32 = .ok (.getfield 9, 3) := by decide +kernel
theorem d_Wr_addBlock_35 : decode M_Wr_addBlock.2.1 35 = .ok (.bipush 32, 2) := by decide +kernel
theorem d_Wr_addBlock_37 : decode M_Wr_addBlock.2.1 37 = .ok (.invokevirtual 76, 3) := by decide +kernel
theorem d_Wr_addBlock_40 : decode M_Wr_addBlock.2.1 40 = .ok (.aload_n 0, 1) := by decide +kernel
theorem d_Wr_addBlock_41 : decode M_Wr_addBlock.2.1 41 = .ok (.aload_n 0, 1) := by decide +kernel
theorem d_Wr_addBlock_42 : decode M_Wr_addBlock.2.1 42 = .ok (.getfield 19, 3) := by decide +kernel
theorem d_Wr_addBlock_45 : decode M_Wr_addBlock.2.1 45 = .ok (.getfield 51, 3) := by decide +kernel
theorem d_Wr_addBlock_48 : decode M_Wr_addBlock.2.1 48 = .ok (.iload_n 1, 1) := by decide +kernel
theorem d_Wr_addBlock_49 : decode M_Wr_addBlock.2.1 49 = .ok (.laload, 1) := by decide +kernel
theorem d_Wr_addBlock_50 : decode M_Wr_addBlock.2.1 50 = .ok (.invokevirtual 72, 3) := by decide +kernel
theorem d_Wr_addBlock_53 : decode M_Wr_addBlock.2.1 53 = .ok (.aload_n 0, 1) := by decide +kernel
theorem d_Wr_addBlock_54 : decode M_Wr_addBlock.2.1 54 = .ok (.getfield 9, 3) := by decide +kernel
theorem d_Wr_addBlock_57 : decode M_Wr_addBlock.2.1 57 = .ok (.bipush 10, 2) := by decide +kernel
theorem d_Wr_addBlock_59 : decode M_Wr_addBlock.2.1 59 = .ok (.invokevirtual 76, 3) := by decide +kernel
theorem d_Wr_addBlock_62 : decode M_Wr_addBlock.2.1 62 = .ok (.aload_n 0, 1) := by decide +kernel
theorem d_Wr_addBlock_63 : decode M_Wr_addBlock.2.1 63 = .ok (.iload_n 1, 1) := by decide +kernel
theorem d_Wr_addBlock_64 : decode M_Wr_addBlock.2.1 64 = .ok (.bipush 10, 2) := by decide +kernel
theorem d_Wr_addBlock_66 : decode M_Wr_addBlock.2.1 66 = .ok (.invokevirtual 79, 3) := by decide +kernel
theorem d_Wr_addBlock_69 : decode M_Wr_addBlock.2.1 69 = .ok (.aload_n 0, 1) := by decide +kernel
theorem d_Wr_addBlock_70 : decode M_Wr_addBlock.2.1 70 = .ok (.getfield 9, 3) := by decide +kernel
theorem d_Wr_addBlock_73 : decode M_Wr_addBlock.2.1 73 = .ok (.bipush 10, 2) := by decide +kernel
theorem d_Wr_addBlock_75 : decode M_Wr_addBlock.2.1 75 = .ok (.invokevirtual 76, 3) := by decide +kernel
theorem d_Wr_addBlock_78 : decode M_Wr_addBlock.2.1 78 = .ok (.aload_n 0, 1) := by decide +kernel
theorem d_Wr_addBlock_79 : decode M_Wr_addBlock.2.1 79 = .ok (.getfield 9, 3) := by decide +kernel
theorem d_Wr_addBlock_82 : decode M_Wr_addBlock.2.1 82 = .ok (.bipush 10, 2) := by decide +kernel
theorem d_Wr_addBlock_84 : decode M_Wr_addBlock.2.1 84 = .ok (.invokevirtual 76, 3) := by decide +kernel
theorem d_Wr_addBlock_87 : decode M_Wr_addBlock.2.1 87 = .ok (.return_, 1) := by decide +kernel
theorem d_Wr_addFrames_0 : decode M_Wr_addFrames.2.1 0 = .ok (.aload_n 0, 1) := by decide +kernel
theorem d_Wr_addFrames_1 : decode M_Wr_addFrames.2.1 1 = .ok (.aload_n 0, 1) := by decide +kernel
theorem d_Wr_addFrames_2 : decode M_Wr_addFrames.2.1 2 = .ok (.getfield 19, 3) := by decide +kernel
theorem d_Wr_addFrames_5 : decode M_Wr_addFrames.2.1 5 = .ok (.getfield 37, 3) := by decide +kernel
theorem d_Wr_addFrames_8 : decode M_Wr_addFrames.2.1 8 = .ok (.iload_n 1, 1) := by decide +kernel
theorem d_Wr_addFrames_9 : decode M_Wr_addFrames.2.1 9 = .ok (.laload, 1) := by decide +kernel
theorem d_Wr_addFrames_10 : decode M_Wr_addFrames.2.1 10 = .ok (.invokevirtual 94, 3) := by decide +kernel
theorem d_Wr_addFrames_13 : decode M_Wr_addFrames.2.1 13 = .ok (.aload_n 0, 1) := by decide +kernel
theorem d_Wr_addFrames_14 : decode M_Wr_addFrames.2.1 14 = .ok (.aload_n 0, 1) := by decide +kernel
theorem d_Wr_addFrames_15 : decode M_Wr_addFrames.2.1 15 = .ok (.getfield 19, 3) := by decide +kernel
theorem d_Wr_addFrames_18 : decode M_Wr_addFrames.2.1 18 = .ok (.getfield 51, 3) := by decide +kernel
theorem d_Wr_addFrames_21 : decode M_Wr_addFrames.2.1 21 = .ok (.iload_n 1, 1) := by decide +kernel
theorem d_Wr_addFrames_22 : decode M_Wr_addFrames.2.1 22 = .ok (.laload, 1) := by decide +kernel
theorem d_Wr_addFrames_23 : decode M_Wr_addFrames.2.1 23 = .ok (.invokevirtual 94, 3) := by decide +kernel
theorem d_Wr_addFrames_26 : decode M_Wr_addFrames.2.1 26 = .ok (.aload_n 0, 1) := by decide +kernel
theorem d_Wr_addFrames_27 : decode M_Wr_addFrames.2.1 27 = .ok (.iload_n 1, 1) := by decide +kernel
theorem d_Wr_addFrames_28 : decode M_Wr_addFrames.2.1 28 = .ok (.bipush 124, 2) := by decide +kernel
theorem d_Wr_addFrames_30 : decode M_Wr_addFrames.2.1 30 = .ok (.invokevirtual 79, 3) := by decide +kernel
theorem d_Wr_addFrames_33 : decode M_Wr_addFrames.2.1 33 = .ok (.aload_n 0, 1) := by decide +kernel
theorem d_Wr_addFrames_34 : decode M_Wr_addFrames.2.1 34 = .ok (.getfield 9, 3) := by decide +kernel
theorem d_Wr_addFrames_37 : decode M_Wr_addFrames.2.1 37 = .ok (.bipush 10, 2) := by decide +kernel
theorem d_Wr_addFrames_39 : decode M_Wr_addFrames.2.1 39 = .ok (.invokevirtual 76, 3) := by decide +kernel
theorem d_Wr_addFrames_42 : decode M_Wr_addFrames.2.1 42 = .ok (.return_, 1) := by decide +kernel
theorem d_Wr_addPacked_0 : decode M_Wr_addPacked.2.1 0 = .ok (.aload_n 0, 1) := by decide +kernel
theorem d_Wr_addPacked_1 : decode M_Wr_addPacked.2.1 1 = .ok (.aload_n 0, 1) := by decide +kernel
theorem d_Wr_addPacked_2 : decode M_Wr_addPacked.2.1 2 = .ok (.getfield 19, 3) := by decide +kernel
theorem d_Wr_addPacked_5 : decode M_Wr_addPacked.2.1 5 = .ok (.getfield 37, 3) := by decide +kernel
theorem d_Wr_addPacked_8 : decode M_Wr_addPacked.2.1 8 = .ok (.iload_n 1, 1) := by decide +kernel
theorem d_Wr_addPacked_9 : decode M_Wr_addPacked.2.1 9 = .ok (.laload, 1) := by decide +kernel
theorem d_Wr_addPacked_10 : decode M_Wr_addPacked.2.1 10 = .ok (.invokevirtual 97, 3) := by decide +kernel
theorem d_Wr_addPacked_13 : decode M_Wr_addPacked.2.1 13 = .ok (.aload_n 0, 1) := by decide +kernel
theorem d_Wr_addPacked_14 : decode M_Wr_addPacked.2.1 14 = .ok (.aload_n 0, 1) := by decide +kernel
theorem d_Wr_addPacked_15 : decode M_Wr_addPacked.2.1 15 = .ok (.getfield 19, 3) := by decide +kernel
theorem d_Wr_addPacked_18 : decode M_Wr_addPacked.2.1 18 = .ok (.getfield 51, 3) := by decide +kernel
theorem d_Wr_addPacked_21 : decode M_Wr_addPacked.2.1 21 = .ok (.iload_n 1, 1) := by decide +kernel
theorem d_Wr_addPacked_22 : decode M_Wr_addPacked.2.1 22 = .ok (.laload, 1) := by decide +kernel
theorem d_Wr_addPacked_23 : decode M_Wr_addPacked.2.1 23 = .ok (.invokevirtual 97, 3) := by decide +kernel
theorem d_Wr_addPacked_26 : decode M_Wr_addPacked.2.1 26 = .ok (.aload_n 0, 1) := by decide +kernel
theorem d_Wr_addPacked_27 : decode M_Wr_addPacked.2.1 27 = .ok (.getfield 9, 3) := by decide +kernel
theorem d_Wr_addPacked_30 : decode M_Wr_addPacked.2.1 30 = .ok (.aload_n 0, 1) := by decide +kernel
theorem d_Wr_addPacked_31 : decode M_Wr_addPacked.2.1 31 = .ok (.getfield 19, 3) := by decide +kernel
theorem d_Wr_addPacked_34 : decode M_Wr_addPacked.2.1 34 = .ok (.getfield 33, 3) := by decide +kernel
theorem d_Wr_addPacked_37 : decode M_Wr_addPacked.2.1 37 = .ok (.iload_n 1, 1) := by decide +kernel
theorem d_Wr_addPacked_38 : decode M_Wr_addPacked.2.1 38 = .ok (.iaload, 1) := by decide +kernel
theorem d_Wr_addPacked_39 : decode M_Wr_addPacked.2.1 39 = .ok (.invokevirtual 76, 3) := by decide +kernel
theorem d_Wr_addPacked_42 : decode M_Wr_addPacked.2.1 42 = .ok (.aload_n 0, 1) := by decide +kernel
theorem d_Wr_addPacked_43 : decode M_Wr_addPacked.2.1 43 = .ok (.iload_n 1, 1) := by decide +kernel
theorem d_Wr_addPacked_44 : decode M_Wr_addPacked.2.1 44 = .ok (.bipush 10, 2) := by decide +kernel
theorem d_Wr_addPacked_46 : decode M_Wr_addPacked.2.1 46 = .ok (.invokevirtual 79, 3) := by decide +kernel
theorem d_Wr_addPacked_49 : decode M_Wr_addPacked.2.1 49 = .ok (.return_, 1) := by decide +kernel
theorem d_Wr_fill_0 : decode M_Wr_fill.2.1 0 = .ok (.aload_n 0, 1) := by decide +kernel
theorem d_Wr_fill_1 : decode M_Wr_fill.2.1 1 = .ok (.getfield 9, 3) := by decide +kernel
theorem d_Wr_fill_4 : decode M_Wr_fill.2.1 4 = .ok (.iconst 0, 1) := by decide +kernel
theorem d_Wr_fill_5 : decode M_Wr_fill.2.1 5 = .ok (.putfield 57, 3) := by decide +kernel
theorem d_Wr_fill_8 : decode M_Wr_fill.2.1 8 = .ok (.iconst 0, 1) := by decide +kernel
theorem d_Wr_fill_9 : decode M_Wr_fill.2.1 9 = .ok (.istore_n 2, 1) := by decide +kernel
theorem d_Wr_fill_10 : decode M_Wr_fill.2.1 10 = .ok (.iload_n 2, 1) := by decide +kernel
theorem d_Wr_fill_11 : decode M_Wr_fill.2.1 11 = .ok (.aload_n 0, 1) := by decide +kernel
theorem d_Wr_fill_12 : decode M_Wr_fill.2.1 12 = .ok (.getfield 19, 3) := by decide +kernel
theorem d_Wr_fill_15 : decode M_Wr_fill.2.1 15 = .ok (.getfield 23, 3) := by decide +kernel
theorem d_Wr_fill_18 : decode M_Wr_fill.2.1 18 = .ok (.if_icmp .ge 39, 3) := by decide +kernel
theorem d_Wr_fill_21 : decode M_Wr_fill.2.1 21 = .ok (.iload_n 1, 1) := by decide +kernel
theorem d_Wr_fill_22 : decode M_Wr_fill.2.1 22 = .ok (.ifCond .ne 11, 3) := by decide +kernel
theorem d_Wr_fill_25 : decode M_Wr_fill.2.1 25 = .ok (.aload_n 0, 1) := by decide +kernel
theorem d_Wr_fill_26 : decode M_Wr_fill.2.1 26 = .ok (.iload_n 2, 1) := by decide +kernel
theorem d_Wr_fill_27 : decode M_Wr_fill.2.1 27 = .ok (.invokevirtual 62, 3) := by decide +kernel
theorem d_Wr_fill_30 : decode M_Wr_fill.2.1 30 = .ok (.goto 21, 3) := by decide +kernel
theorem d_Wr_fill_33 : decode M_Wr_fill.2.1 33 = .ok (.iload_n 1, 1) := by decide +kernel
theorem d_Wr_fill_34 : decode M_Wr_fill.2.1 34 = .ok (.iconst 1, 1) := by decide +kernel
theorem d_Wr_fill_35 : decode M_Wr_fill.2.1 35 = .ok (.if_icmp .ne 11, 3) := by decide +kernel
theorem d_Wr_fill_38 : decode M_Wr_fill.2.1 38 = .ok (.aload_n 0, 1) := by decide +kernel
theorem d_Wr_fill_39 : decode M_Wr_fill.2.1 39 = .ok (.iload_n 2, 1) := by decide +kernel
theorem d_Wr_fill_40 : decode M_Wr_fill.2.1 40 = .ok (.invokevirtual 66, 3) := by decide +kernel
theorem d_Wr_fill_43 : decode M_Wr_fill.2.1 43 = .ok (.goto 8, 3) := by decide +kernel
theorem d_Wr_fill_46 : decode M_Wr_fill.2.1 46 = .ok (.aload_n 0, 1) := by decide +kernel
theorem d_Wr_fill_47 : decode M_Wr_fill.2.1 47 = .ok (.iload_n 2, 1) := by decide +kernel
theorem d_Wr_fill_48 : decode M_Wr_fill.2.1 48 = .ok (.invokevirtual 69, 3) := by decide +kernel
theorem d_Wr_fill_51 : decode M_Wr_fill.2.1 51 = .ok (.iinc 2 1, 3) := by decide +kernel
theorem d_Wr_fill_54 : decode M_Wr_fill.2.1 54 = .ok (.goto (-44), 3) := by decide +kernel
theorem d_Wr_fill_57 : decode M_Wr_fill.2.1 57 = .ok (.return_, 1) := by decide +kernel
theorem d_CB_write_0 : decode M_CB_write.2.1 0 = .ok (.iload_n 1, 1) := by decide +kernel
theorem d_CB_write_1 : decode M_CB_write.2.1 1 = .ok (.invokestatic 96, 3) := by decide +kernel
theorem d_CB_write_4 : decode M_CB_write.2.1 4 = .ok (.ifCond .ne 6, 3) := by decide +kernel
theorem d_CB_write_7 : decode M_CB_write.2.1 7 = .ok (.bipush (-2), 2) := by decide +kernel
theorem d_CB_write_9 : decode M_CB_write.2.1 9 = .ok (.ireturn, 1) := by decide +kernel
theorem d_CB_write_10 : decode M_CB_write.2.1 10 = .ok (.aload_n 0, 1) := by decide +kernel
theorem d_CB_write_11 : decode M_CB_write.2.1 11 = .ok (.getfield 58, 3) := by decide +kernel
theorem d_CB_write_14 : decode M_CB_write.2.1 14 = .ok (.iload_n 1, 1) := by decide +kernel
theorem d_CB_write_15 : decode M_CB_write.2.1 15 = .ok (.invokevirtual 115, 3) := by decide +kernel
theorem d_CB_write_18 : decode M_CB_write.2.1 18 = .ok (.sipush 1000, 3) := by decide +kernel
theorem d_CB_write_21 : decode M_CB_write.2.1 21 = .ok (.if_icmp .le 6, 3) := by decide +kernel
theorem d_CB_write_24 : decode M_CB_write.2.1 24 = .ok (.bipush (-3), 2) := by decide +kernel
theorem d_CB_write_26 : decode M_CB_write.2.1 26 = .ok (.ireturn, 1) := by decide +kernel
theorem d_CB_write_27 : decode M_CB_write.2.1 27 = .ok (.aload_n 0, 1) := by decide +kernel
theorem d_CB_write_28 : decode M_CB_write.2.1 28 = .ok (.getfield 58, 3) := by decide +kernel
theorem d_CB_write_31 : decode M_CB_write.2.1 31 = .ok (.iload_n 1, 1) := by decide +kernel
theorem d_CB_write_32 : decode M_CB_write.2.1 32 = .ok (.invokevirtual 118, 3) := by decide +kernel
theorem d_CB_write_35 : decode M_CB_write.2.1 35 = .ok (.aload_n 0, 1) := by decide +kernel
theorem d_CB_write_36 : decode M_CB_write.2.1 36 = .ok (.getfield 10, 3) := by decide +kernel
theorem d_CB_write_39 : decode M_CB_write.2.1 39 = .ok (.getfield 80, 3) := by decide +kernel
theorem d_CB_write_42 : decode M_CB_write.2.1 42 = .ok (.ireturn, 1) := by decide +kernel
def pL (F : Nat → Int) (L : List Int) : Nat → Int := fun j => (L[j]?).getD (F j)
theorem pL_nil {F : Nat → Int} : pL F [] = F := rfl
theorem pL_s {F : Nat → Int} {L : List Int} {x : Int} : zup (pL F L) L.length x = pL F (L ++ [x]) := by
  funext j
  show (if j = L.length then x else (L[j]?).getD (F j)) = ((L ++ [x])[j]?).getD (F j)
  by_cases q : j < L.length
  · rw [if_neg (by omega), List.getElem?_append_left q]
  · rw [List.getElem?_append_right (by omega)]
    by_cases q2 : j = L.length
    · rw [if_pos q2, q2, Nat.sub_self]; rfl
    · rw [if_neg q2, List.getElem?_eq_none (by omega), List.getElem?_eq_none (by simp; omega)]
theorem pL_e {F K : Nat → Int} {L : List Int} {j : Nat} (h : j < L.length) : pL F L j = pL K L j := by
  unfold pL
  rw [List.getElem?_eq_getElem h]
  rfl
theorem pL_r {F : Nat → Int} {L : List Int} (hF : ∀ j, 0 ≤ F j ∧ F j ≤ 255) (hL : ∀ x ∈ L, 0 ≤ x ∧ x ≤ 255) (j : Nat) : 0 ≤ pL F L j ∧ pL F L j ≤ 255 := by
  unfold pL
  by_cases q : j < L.length
  · rw [List.getElem?_eq_getElem q]
    exact hL _ (List.getElem_mem q)
  · rw [List.getElem?_eq_none (by omega)]
    exact hF j
def tenZ : Nat → Int
  | 0 => 1
  | 1 => 10
  | 2 => 100
  | 3 => 1000
  | 4 => 10000
  | _ => 100000
theorem tenZ_r (k : Nat) : 1 ≤ tenZ k ∧ tenZ k ≤ 100000 := by
  unfold tenZ
  split <;> omega
theorem tens_at {k : Nat} (h : k < 6) : vp_in (iZ (k : Int)) 6 ∧ tensV (iZ (k : Int)).toNatClampNeg = .int (iZ (tenZ k)) := by
  refine ⟨iZ_in rfl h (by decide), ?_⟩
  have : k = 0 ∨ k = 1 ∨ k = 2 ∨ k = 3 ∨ k = 4 ∨ k = 5 := by omega
  rcases this with rfl | rfl | rfl | rfl | rfl | rfl <;> rfl
def dgL (v : Int) : Nat → List Int
  | 0 => []
  | d + 1 => (48 + v / tenZ d % 10) :: dgL v d
theorem dgL_l (v : Int) : ∀ d : Nat, (dgL v d).length = d
  | 0 => rfl
  | d + 1 => by rw [dgL, List.length_cons, dgL_l v d]
theorem dgL_r (v : Int) : ∀ d : Nat, ∀ x ∈ dgL v d, 0 ≤ x ∧ x ≤ 255
  | 0 => by simp [dgL]
  | d + 1 => by
    intro x hx
    rw [dgL, List.mem_cons] at hx
    rcases hx with rfl | hx
    · omega
    · exact dgL_r v d x hx
def ndg (v : Int) : Nat := if v < 10 then 1 else if v < 100 then 2 else if v < 1000 then 3 else if v < 10000 then 4 else if v < 100000 then 5 else 6
theorem ndg_r (v : Int) : 1 ≤ ndg v ∧ ndg v ≤ 6 := by
  unfold ndg
  (repeat' split) <;> omega
def txL (F : Nat → Int) (o : Nat) (e : Int) : Nat → List Int
  | 0 => []
  | j + 1 => txL F o e j ++ [if F (o + j) = 10 then e else F (o + j)]
theorem txL_l (F : Nat → Int) (o : Nat) (e : Int) : ∀ z : Nat, (txL F o e z).length = z
  | 0 => rfl
  | z + 1 => by rw [txL, List.length_append, txL_l F o e z]; rfl
theorem txL_e {F K : Nat → Int} {o p : Nat} {e : Int} : ∀ z : Nat, (∀ j, j < z → F (o + j) = K (p + j)) → txL F o e z = txL K p e z
  | 0, _ => rfl
  | z + 1, h => by rw [txL, txL, txL_e z (fun j hj => h j (by omega)), h z (by omega)]
theorem txL_r {F : Nat → Int} {o : Nat} {e : Int} (hF : ∀ k, 0 ≤ F k ∧ F k ≤ 255) (he : 0 ≤ e ∧ e ≤ 255) : ∀ z : Nat, ∀ x ∈ txL F o e z, 0 ≤ x ∧ x ≤ 255
  | 0 => by simp [txL]
  | z + 1 => by
    intro x hx
    rw [txL, List.mem_append] at hx
    rcases hx with hx | hx
    · exact txL_r hF he z x hx
    · rw [List.mem_singleton] at hx
      subst hx
      split
      · exact he
      · exact hF _
def oTime (t : Int) : List Int := dgL (nearZ t 705600 / 3600000) 2 ++ ([58] ++ (dgL (nearZ t 705600 / 60000 % 60) 2 ++ ([58] ++ (dgL (nearZ t 705600 / 1000 % 60) 2 ++ ([44] ++ dgL (nearZ t 705600 % 1000) 3)))))
theorem oTime_l (t : Int) : (oTime t).length = 12 := by
  unfold oTime
  simp only [List.length_append, List.length_cons, List.length_nil, dgL_l]
def oFr (tk t : Int) : List Int := [123] ++ (dgL (nearZ t tk) (ndg (nearZ t tk)) ++ [125])
theorem oFr_l (tk t : Int) : (oFr tk t).length = 2 + ndg (nearZ t tk) := by
  unfold oFr
  simp only [List.length_append, List.length_cons, List.length_nil, dgL_l]
  omega
def sixL (t : Int) : Nat → List Int
  | 0 => []
  | k + 1 => byteZ t k :: sixL t k
theorem sixL_l (t : Int) : ∀ k : Nat, (sixL t k).length = k
  | 0 => rfl
  | k + 1 => by rw [sixL, List.length_cons, sixL_l t k]
theorem sixL_r (t : Int) : ∀ k : Nat, ∀ x ∈ sixL t k, 0 ≤ x ∧ x ≤ 255
  | 0 => by simp [sixL]
  | k + 1 => by
    intro x hx
    rw [sixL, List.mem_cons] at hx
    rcases hx with rfl | hx
    · exact byteZ_r t k
    · exact sixL_r t k x hx
def oBlk (K1 K2 K3 K4 : Nat → Int) (i : Nat) : List Int := oTime (K1 i) ++ ([32] ++ ([62] ++ ([32] ++ (oTime (K2 i) ++ ([10] ++ (txL K4 (i * 64) 10 (K3 i).toNat ++ ([10] ++ [10])))))))
def oFra (tk : Int) (K1 K2 K3 K4 : Nat → Int) (i : Nat) : List Int := oFr tk (K1 i) ++ (oFr tk (K2 i) ++ (txL K4 (i * 64) 124 (K3 i).toNat ++ [10]))
def oPac (K1 K2 K3 K4 : Nat → Int) (i : Nat) : List Int := sixL (K1 i) 6 ++ (sixL (K2 i) 6 ++ ([K3 i] ++ txL K4 (i * 64) 10 (K3 i).toNat))
def oCue (f tk : Int) (K1 K2 K3 K4 : Nat → Int) (i : Nat) : List Int := if f = 0 then oBlk K1 K2 K3 K4 i else if f = 1 then oFra tk K1 K2 K3 K4 i else oPac K1 K2 K3 K4 i
def outs (f tk : Int) (K1 K2 K3 K4 : Nat → Int) : Nat → List Int
  | 0 => []
  | i + 1 => outs f tk K1 K2 K3 K4 i ++ oCue f tk K1 K2 K3 K4 i
def lenT (f tk : Int) (K1 K2 : Nat → Int) (i : Nat) : Nat := if f = 0 then 30 else if f = 2 then 13 else 5 + ndg (nearZ (K1 i) tk) + ndg (nearZ (K2 i) tk)
theorem oCue_l {f tk : Int} {K1 K2 K3 K4 : Nat → Int} {i : Nat} (hf : f = 0 ∨ f = 1 ∨ f = 2) : (oCue f tk K1 K2 K3 K4 i).length = lenT f tk K1 K2 i + (K3 i).toNat := by
  unfold oCue lenT
  rcases hf with rfl | rfl | rfl
  · rw [if_pos rfl, if_pos rfl]
    unfold oBlk
    simp only [List.length_append, List.length_cons, List.length_nil, oTime_l, txL_l]
    omega
  · rw [if_neg (by decide), if_pos rfl, if_neg (by decide), if_neg (by decide)]
    unfold oFra
    simp only [List.length_append, List.length_cons, List.length_nil, oFr_l, txL_l]
    omega
  · rw [if_neg (by decide), if_neg (by decide), if_neg (by decide), if_pos rfl]
    unfold oPac
    simp only [List.length_append, List.length_cons, List.length_nil, sixL_l, txL_l]
    omega
theorem lenT_r (f tk : Int) (K1 K2 : Nat → Int) (i : Nat) : lenT f tk K1 K2 i ≤ 30 := by
  have h1 := ndg_r (nearZ (K1 i) tk)
  have h2 := ndg_r (nearZ (K2 i) tk)
  unfold lenT
  (repeat' split) <;> omega
theorem outs_mono {f tk : Int} {K1 K2 K3 K4 : Nat → Int} {a : Nat} : ∀ d : Nat, (outs f tk K1 K2 K3 K4 a).length ≤ (outs f tk K1 K2 K3 K4 (a + d)).length
  | 0 => Nat.le_refl _
  | d + 1 => by
    have := outs_mono (f := f) (tk := tk) (K1 := K1) (K2 := K2) (K3 := K3) (K4 := K4) (a := a) d
    show _ ≤ (outs f tk K1 K2 K3 K4 (a + d) ++ _).length
    rw [List.length_append]
    omega
theorem nearZ_r {t b M : Int} (hb : 0 < b) (ht : 0 ≤ t ∧ t ≤ M * b) : 0 ≤ nearZ t b ∧ nearZ t b ≤ M := by
  have h0 := Int.ediv_nonneg ht.1 (show 0 ≤ b by omega)
  have h1 : t / b ≤ M := Int.ediv_le_of_le_mul hb ht.2
  have e := Int.emod_add_mul_ediv t b
  have m0 := Int.emod_nonneg t (show b ≠ 0 by omega)
  unfold nearZ
  split
  · rename_i q
    refine ⟨by omega, ?_⟩
    by_cases w : t / b = M
    · have : b * (t / b) = M * b := by rw [w, Int.mul_comm]
      omega
    · omega
  · omega
theorem fra_r {t tk : Int} (htk : 11760000 ≤ tk ∧ tk ≤ 705600000) (ht : 0 ≤ t ∧ t ≤ 2540160000000) : 0 ≤ nearZ t tk ∧ nearZ t tk ≤ 216000 := by
  refine nearZ_r (by omega) ⟨ht.1, ?_⟩
  have := Int.mul_le_mul_of_nonneg_left htk.1 (show (0 : Int) ≤ 216000 by decide)
  omega
theorem tho_r {t : Int} (ht : 0 ≤ t ∧ t ≤ 2540160000000) : 0 ≤ nearZ t 705600 ∧ nearZ t 705600 ≤ 3600000 := nearZ_r (by decide) ⟨ht.1, by omega⟩
theorem c_Bu_app (G : GT) (h : HM) (b bb : Nat) (F : Nat → Int) (L : List Int) (x : Int) (hb : h b = some (.inr (1, [.ref bb, .int (iZ (L.length : Int))]))) (hbb : h bb = some (.inl (G_i G, 1000, .inl (iA (pL F L))))) (hl : L.length < 1000) : Rn G M_Bu_add (rm 0 0) [.ref b, .int (iZ x)] h (fun r h' => r = none ∧ h' b = some (.inr (1, [.ref bb, .int (iZ ((L ++ [x]).length : Int))])) ∧ h' bb = some (.inl (G_i G, 1000, .inl (iA (pL F (L ++ [x]))))) ∧ Fm [b, bb] h h') := by
  refine rn_mono (c_Bu_add G h b bb (pL F L) (L.length : Int) x hb hbb (by omega)) ?_
  rintro r h' ⟨rfl, q1, q2, q3⟩
  refine ⟨rfl, ?_, ?_, q3⟩
  · rw [List.length_append]
    rw [addN_t (by omega)] at q1
    exact q1
  · rw [addF_t (by omega), Int.toNat_natCast, pL_s] at q2
    exact q2
set_option maxHeartbeats 4000000 in
set_option maxRecDepth 100000 in
theorem lp_Wr_addNumber (G : GT) (Q : Option Value → HM → Prop) (h0 : HM) (xw xf xo b bb : Nat) (F : Nat → Int) (L : List Int) (v : Int) (d0 : Nat) (hv : 0 ≤ v ∧ v ≤ 1000000) (hd0 : d0 ≤ 6) (hlen : L.length + d0 ≤ 1000) (kk : ∀ h, h b = some (.inr (1, [.ref bb, .int (iZ ((L ++ dgL v d0).length : Int))])) → h bb = some (.inl (G_i G, 1000, .inl (iA (pL F (L ++ dgL v d0))))) → Fm [b, bb] h0 h → Q none h) : ∀ (d : Nat) (k : Nat) (h : HM) (LL : List Int), k + (d0 - k) = d0 ∧ k = d → LL ++ dgL v k = L ++ dgL v d0 → h xw = some (.inr (4, [.ref b, .ref xf, .ref xo])) → h b = some (.inr (1, [.ref bb, .int (iZ ((LL).length : Int))])) → h bb = some (.inl (G_i G, 1000, .inl (iA (pL F (LL))))) → Fm [b, bb] h0 h → Ev G M_Wr_addNumber (rm 1 22) (Q) 4 [(0, .ref xw), (1, .int (iZ v)), (2, .int (iZ (d0 : Int))), (3, .int (iZ ((k : Int) - 1)))] [] h 0 0 := by
  intro d
  induction d using Nat.strongRecOn with
  | ind d ih =>
  intro k h LL hd hLL hw hb hbb fm
  refine ev_iload_n d_Wr_addNumber_4 rfl rfl ?_
  refine ez_if_lt (tgt := 34) (by omega) d_Wr_addNumber_5 rfl (fun c5 => ?_) (fun c5 => ?_)
  · exact ev_return d_Wr_addNumber_34 rfl (by decide) (by decide) (kk h (by rw [show k = 0 by omega] at hLL; rw [← hLL]; simp only [dgL, List.append_nil]; exact hb) (by rw [show k = 0 by omega] at hLL; rw [← hLL]; simp only [dgL, List.append_nil]; exact hbb) fm)
  · obtain ⟨k, rfl⟩ : ∃ q : Nat, k = q + 1 := ⟨k - 1, by omega⟩
    have rt := tenZ_r k
    have rq := Int.ediv_nonneg hv.1 (show 0 ≤ tenZ k by omega)
    have rq2 := Int.ediv_le_self (tenZ k) hv.1
    have hl9 := congrArg List.length hLL
    rw [dgL] at hLL
    simp only [List.length_append, dgL_l] at hl9
    refine ev_aload_n d_Wr_addNumber_8 rfl rfl ?_
    refine ev_get d_Wr_addNumber_9 fl_Wr_9 hw rfl ?_
    refine ev_bipush (v := iZ 48) d_Wr_addNumber_12 rfl ?_
    refine ev_iload_n d_Wr_addNumber_14 rfl rfl ?_
    refine ev_tens 54 d_Wr_addNumber_15 wl_tens_54 ?_
    refine ev_iload_n d_Wr_addNumber_18 rfl rfl ?_
    refine ev_top ((k : Int)) (by omega) ?_
    skip
    refine ev_tensLd (v := iZ (tenZ k)) d_Wr_addNumber_19 ((tens_at (by omega)).1) ((tens_at (by omega)).2) ?_
    refine ez_idiv (by omega) (by omega) (by omega) (by omega) d_Wr_addNumber_20 ?_
    refine ev_bipush (v := iZ 10) d_Wr_addNumber_21 rfl ?_
    refine ez_irem (by omega) (by omega) (by omega) (by omega) d_Wr_addNumber_23 ?_
    refine ez_iadd d_Wr_addNumber_24 ?_
    refine ev_callV M_Bu_add (rm 0 0) _ (As := [.int (iZ (48 + ((v / (tenZ k)) % 10)))]) (c_Bu_app G h b bb F (LL) (48 + ((v / (tenZ k)) % 10)) hb hbb (by first | omega | (simp only [List.length_append, List.length_cons, List.length_nil, dgL_l, txL_l, oTime_l, oFr_l, sixL_l]; omega))) d_Wr_addNumber_25 mk_Bu_add ml_Wr_76 mv_Bu_add hb rfl rfl rfl (Nat.le_of_ble_eq_true rfl) ⟨by decide, by decide⟩ ⟨by decide, by decide⟩ (fun r h1 hq => ?_)
    obtain ⟨rfl, gb, gbb, fmc⟩ := hq
    have hw := (fmc _ (ninc (cne hw hb (by simp)) (ninc (cne hw hbb (by simp)) nin0))).trans hw
    have hb := gb
    have hbb := gbb
    have fm := fm.call (by simp) fmc
    refine ez_iinc (L' := [(0, .ref xw), (1, .int (iZ v)), (2, .int (iZ (d0 : Int))), (3, .int (iZ (((k + 1 : Nat) : Int) - 1 + (-1))))]) d_Wr_addNumber_28 rfl (by decide) rfl ?_
    refine ev_goto (tgt := 4) d_Wr_addNumber_31 rfl ?_
    rw [show (((k + 1 : Nat) : Int) - 1 + (-1)) = (k : Int) - 1 from by omega]
    exact ih (d - 1) (by omega) k h1 (LL ++ [48 + ((v / (tenZ k)) % 10)]) (by omega) (by rw [List.append_assoc]; exact hLL) hw hb hbb fm
set_option maxHeartbeats 4000000 in
set_option maxRecDepth 100000 in
theorem c_Wr_addNumber (G : GT) (h : HM) (xw xf xo : Nat) (b bb : Nat) (F : Nat → Int) (L : List Int) (v : Int) (d0 : Nat) (hw : h xw = some (.inr (4, [.ref b, .ref xf, .ref xo]))) (hb : h b = some (.inr (1, [.ref bb, .int (iZ ((L).length : Int))]))) (hbb : h bb = some (.inl (G_i G, 1000, .inl (iA (pL F (L)))))) (hv : 0 ≤ v ∧ v ≤ 1000000) (hd0 : d0 ≤ 6) (hlen : L.length + d0 ≤ 1000) : Rn G M_Wr_addNumber (rm 1 22) [.ref xw, .int (iZ v), .int (iZ (d0 : Int))] h (fun r h' => r = none ∧ h' b = some (.inr (1, [.ref bb, .int (iZ ((L ++ dgL v d0).length : Int))])) ∧ h' bb = some (.inl (G_i G, 1000, .inl (iA (pL F (L ++ dgL v d0))))) ∧ Fm [b, bb] h h') := by
  refine rn_of (by decide) (Nat.le_of_ble_eq_true rfl) ?_
  show Ev G M_Wr_addNumber _ _ 0 [(0, .ref xw), (1, .int (iZ v)), (2, .int (iZ (d0 : Int)))] [] _ 0 0
  refine ev_iload_n d_Wr_addNumber_0 rfl rfl ?_
  refine ev_iconst (v := iZ 1) d_Wr_addNumber_1 rfl ?_
  refine ez_isub d_Wr_addNumber_2 ?_
  refine ev_istore_n (L' := [(0, .ref xw), (1, .int (iZ v)), (2, .int (iZ (d0 : Int))), (3, .int (iZ ((d0 : Int) - 1)))]) d_Wr_addNumber_3 rfl (by decide) rfl ?_
  exact lp_Wr_addNumber G _ h xw xf xo b bb F L v d0 hv hd0 hlen (fun h2 gb gbb fm => ⟨rfl, gb, gbb, fm⟩) d0 d0 h L ⟨by omega, rfl⟩ rfl hw hb hbb Fm.rf
set_option maxHeartbeats 4000000 in
set_option maxRecDepth 100000 in
theorem lp_Wr_addSix (G : GT) (h0 : HM) (xw xf xo b bb : Nat) (F : Nat → Int) (L : List Int) (t : Int) (hlen : L.length + 6 ≤ 1000) : ∀ (d : Nat) (k : Nat) (h : HM) (LL : List Int), k = d → k ≤ 6 → LL ++ sixL t k = L ++ sixL t 6 → h xw = some (.inr (4, [.ref b, .ref xf, .ref xo])) → h b = some (.inr (1, [.ref bb, .int (iZ ((LL).length : Int))])) → h bb = some (.inl (G_i G, 1000, .inl (iA (pL F (LL))))) → Fm [b, bb] h0 h → Ev G M_Wr_addSixBytes (rm 1 22) (fun r h' => r = none ∧ h' b = some (.inr (1, [.ref bb, .int (iZ ((L ++ sixL t 6).length : Int))])) ∧ h' bb = some (.inl (G_i G, 1000, .inl (iA (pL F (L ++ sixL t 6))))) ∧ Fm [b, bb] h0 h') 2 [(0, .ref xw), (1, .long (lZ t)), (3, .int (iZ ((k : Int) - 1)))] [] h 0 0 := by
  intro d
  induction d using Nat.strongRecOn with
  | ind d ih =>
  intro k h LL hd hk6 hLL hw hb hbb fm
  refine ev_iload_n d_Wr_addSixBytes_2 rfl rfl ?_
  refine ez_if_lt (tgt := 30) (by omega) d_Wr_addSixBytes_3 rfl (fun c3 => ?_) (fun c3 => ?_)
  · exact ev_return d_Wr_addSixBytes_30 rfl (by decide) (by decide) (⟨rfl, by rw [show k = 0 by omega] at hLL; rw [← hLL]; simp only [sixL, List.append_nil]; exact hb, by rw [show k = 0 by omega] at hLL; rw [← hLL]; simp only [sixL, List.append_nil]; exact hbb, fm⟩)
  · obtain ⟨k, rfl⟩ : ∃ q : Nat, k = q + 1 := ⟨k - 1, by omega⟩
    have hl9 := congrArg List.length hLL
    rw [sixL] at hLL
    simp only [List.length_append, sixL_l] at hl9
    refine ev_aload_n d_Wr_addSixBytes_6 rfl rfl ?_
    refine ev_get d_Wr_addSixBytes_7 fl_Wr_9 hw rfl ?_
    refine ev_lload_n d_Wr_addSixBytes_10 rfl rfl ?_
    refine ev_bipush (v := iZ 8) d_Wr_addSixBytes_11 rfl ?_
    refine ev_iload_n d_Wr_addSixBytes_13 rfl rfl ?_
    refine ez_imul d_Wr_addSixBytes_14 ?_
    rw [show (8 * (((k + 1 : Nat) : Int) - 1) : Int) = 8 * (k : Int) from by omega]
    refine ev_lushr d_Wr_addSixBytes_15 ?_
    refine ev_l2i d_Wr_addSixBytes_16 ?_
    refine ev_sipush (v := iZ 255) d_Wr_addSixBytes_17 rfl ?_
    refine ev_iand d_Wr_addSixBytes_20 ?_
    rw [byte_u (by omega)]
    refine ev_callV M_Bu_add (rm 0 0) _ (As := [.int (iZ (byteZ t k))]) (c_Bu_app G h b bb F (LL) (byteZ t k) hb hbb (by first | omega | (simp only [List.length_append, List.length_cons, List.length_nil, dgL_l, txL_l, oTime_l, oFr_l, sixL_l]; omega))) d_Wr_addSixBytes_21 mk_Bu_add ml_Wr_76 mv_Bu_add hb rfl rfl rfl (Nat.le_of_ble_eq_true rfl) ⟨by decide, by decide⟩ ⟨by decide, by decide⟩ (fun r h1 hq => ?_)
    obtain ⟨rfl, gb, gbb, fmc⟩ := hq
    have hw := (fmc _ (ninc (cne hw hb (by simp)) (ninc (cne hw hbb (by simp)) nin0))).trans hw
    have hb := gb
    have hbb := gbb
    have fm := fm.call (by simp) fmc
    refine ez_iinc (L' := [(0, .ref xw), (1, .long (lZ t)), (3, .int (iZ (((k + 1 : Nat) : Int) - 1 + (-1))))]) d_Wr_addSixBytes_24 rfl (by decide) rfl ?_
    refine ev_goto (tgt := 2) d_Wr_addSixBytes_27 rfl ?_
    rw [show (((k + 1 : Nat) : Int) - 1 + (-1)) = (k : Int) - 1 from by omega]
    exact ih (d - 1) (by omega) k h1 (LL ++ [byteZ t k]) (by omega) (by omega) (by rw [List.append_assoc]; exact hLL) hw hb hbb fm
set_option maxHeartbeats 4000000 in
set_option maxRecDepth 100000 in
theorem c_Wr_addSix (G : GT) (h : HM) (xw xf xo : Nat) (b bb : Nat) (F : Nat → Int) (L : List Int) (t : Int) (hw : h xw = some (.inr (4, [.ref b, .ref xf, .ref xo]))) (hb : h b = some (.inr (1, [.ref bb, .int (iZ ((L).length : Int))]))) (hbb : h bb = some (.inl (G_i G, 1000, .inl (iA (pL F (L)))))) (hlen : L.length + 6 ≤ 1000) : Rn G M_Wr_addSixBytes (rm 1 22) [.ref xw, .long (lZ t)] h (fun r h' => r = none ∧ h' b = some (.inr (1, [.ref bb, .int (iZ ((L ++ sixL t 6).length : Int))])) ∧ h' bb = some (.inl (G_i G, 1000, .inl (iA (pL F (L ++ sixL t 6))))) ∧ Fm [b, bb] h h') := by
  refine rn_of (by decide) (Nat.le_of_ble_eq_true rfl) ?_
  show Ev G M_Wr_addSixBytes _ _ 0 [(0, .ref xw), (1, .long (lZ t))] [] _ 0 0
  refine ev_iconst (v := iZ 5) d_Wr_addSixBytes_0 rfl ?_
  refine ev_istore_n (L' := [(0, .ref xw), (1, .long (lZ t)), (3, .int (iZ 5))]) d_Wr_addSixBytes_1 rfl (by decide) rfl ?_
  exact lp_Wr_addSix G h xw xf xo b bb F L t hlen 6 6 h L rfl (by omega) rfl hw hb hbb Fm.rf
set_option maxHeartbeats 4000000 in
set_option maxRecDepth 100000 in
theorem lp_Wr_addText (G : GT) (h0 : HM) (xw xf xo b bb : Nat) (F : Nat → Int) (L : List Int) (o1 o2 o3 o4 n : Nat) (K3 K4 : Nat → Int) (i : Nat) (e : Int) (hi : i < 16) (hz : 0 ≤ K3 i ∧ K3 i ≤ 64) (hB : ∀ k, 0 ≤ K4 k ∧ K4 k ≤ 255) (hlen : L.length + (K3 i).toNat ≤ 1000) : ∀ (d : Nat) (j : Nat) (h : HM), j + d = (K3 i).toNat → h xw = some (.inr (4, [.ref b, .ref xf, .ref xo])) → h xo = some (.inr (2, [.ref o1, .ref o2, .ref o3, .ref o4, .int (iZ (n : Int))])) → h o3 = some (.inl (G_i G, 16, .inl (iA K3))) → h o4 = some (.inl (G_i G, 1024, .inl (iA K4))) → h b = some (.inr (1, [.ref bb, .int (iZ ((L ++ txL K4 (i * 64) e j).length : Int))])) → h bb = some (.inl (G_i G, 1000, .inl (iA (pL F (L ++ txL K4 (i * 64) e j))))) → Fm [b, bb] h0 h → Ev G M_Wr_addText (rm 1 22) (fun r h' => r = none ∧ h' b = some (.inr (1, [.ref bb, .int (iZ ((L ++ txL K4 (i * 64) e (K3 i).toNat).length : Int))])) ∧ h' bb = some (.inl (G_i G, 1000, .inl (iA (pL F (L ++ txL K4 (i * 64) e (K3 i).toNat))))) ∧ Fm [b, bb] h0 h') 2 [(0, .ref xw), (1, .int (iZ (i : Int))), (2, .int (iZ e)), (3, .int (iZ (j : Int)))] [] h 0 0 := by
  intro d
  induction d using Nat.strongRecOn with
  | ind d ih =>
  intro j h hd hw ho ho3 ho4 hb hbb fm
  refine ev_iload_n d_Wr_addText_2 rfl rfl ?_
  refine ev_aload_n d_Wr_addText_3 rfl rfl ?_
  refine ev_get d_Wr_addText_4 fl_Wr_19 hw rfl ?_
  refine ev_get d_Wr_addText_7 fl_Wr_33 ho rfl ?_
  refine ev_iload_n d_Wr_addText_10 rfl rfl ?_
  refine ez_iaload i d_Wr_addText_11 ho3 (by omega) (by omega) (by decide) ?_
  refine ez_icmp_ge (tgt := 52) (by omega) (by omega) d_Wr_addText_12 rfl (fun c12 => ?_) (fun c12 => ?_)
  · exact ev_return d_Wr_addText_52 rfl (by decide) (by decide) (⟨rfl, by rw [show (K3 i).toNat = j by omega]; exact hb, by rw [show (K3 i).toNat = j by omega]; exact hbb, fm⟩)
  · refine ev_aload_n d_Wr_addText_15 rfl rfl ?_
    refine ev_get d_Wr_addText_16 fl_Wr_19 hw rfl ?_
    refine ev_iload_n d_Wr_addText_19 rfl rfl ?_
    refine ev_iload_n d_Wr_addText_20 rfl rfl ?_
    refine ev_pV M_Ro_byteAt 0 0 (As := [.int (iZ (i : Int)), .int (iZ (j : Int))]) (c_Ro_byteAt G h xo o1 o2 o3 o4 n K4 i j ho ho4 (by omega)) d_Wr_addText_21 mk_Ro_byteAt ml_Wr_100 mv_Ro_byteAt ho rfl rfl rfl (Nat.le_of_ble_eq_true rfl) ⟨by decide, by decide⟩ ⟨by decide, by decide⟩ ?_
    have rb := hB (i * 64 + j)
    refine ev_istore (L' := [(0, .ref xw), (1, .int (iZ (i : Int))), (2, .int (iZ e)), (3, .int (iZ (j : Int))), (4, .int (iZ (K4 (i * 64 + j))))]) d_Wr_addText_24 (by decide) rfl ?_
    refine ev_aload_n d_Wr_addText_26 rfl rfl ?_
    refine ev_get d_Wr_addText_27 fl_Wr_9 hw rfl ?_
    refine ev_iload d_Wr_addText_30 rfl ?_
    refine ev_bipush (v := iZ 10) d_Wr_addText_32 rfl ?_
    refine ez_icmp_ne (tgt := 41) (by omega) (by decide) d_Wr_addText_34 rfl (fun c34 => ?_) (fun c34 => ?_)
    · refine ev_iload d_Wr_addText_41 rfl ?_
      refine ev_callV M_Bu_add (rm 0 0) _ (As := [.int (iZ (K4 (i * 64 + j)))]) (c_Bu_app G h b bb F (L ++ txL K4 (i * 64) e j) (K4 (i * 64 + j)) hb hbb (by first | omega | (simp only [List.length_append, List.length_cons, List.length_nil, dgL_l, txL_l, oTime_l, oFr_l, sixL_l]; omega))) d_Wr_addText_43 mk_Bu_add ml_Wr_76 mv_Bu_add hb rfl rfl rfl (Nat.le_of_ble_eq_true rfl) ⟨by decide, by decide⟩ ⟨by decide, by decide⟩ (fun r h1 hq => ?_)
      obtain ⟨rfl, gb, gbb, fmc⟩ := hq
      have hw := (fmc _ (ninc (cne hw hb (by simp)) (ninc (cne hw hbb (by simp)) nin0))).trans hw
      have ho := (fmc _ (ninc (cne ho hb (by simp)) (ninc (cne ho hbb (by simp)) nin0))).trans ho
      have ho3 := (fmc _ (ninc (cne ho3 hb (by simp)) (ninc (cne ho3 hbb (by simp)) nin0))).trans ho3
      have ho4 := (fmc _ (ninc (cne ho4 hb (by simp)) (ninc (cne ho4 hbb (by simp)) nin0))).trans ho4
      have hb := gb
      have hbb := gbb
      have fm := fm.call (by simp) fmc
      refine ez_iinc (L' := [(0, .ref xw), (1, .int (iZ (i : Int))), (2, .int (iZ e)), (3, .int (iZ ((j + 1 : Nat) : Int))), (4, .int (iZ (K4 (i * 64 + j))))]) d_Wr_addText_46 rfl (by decide) rfl ?_
      refine ev_goto (tgt := 2) d_Wr_addText_49 rfl ?_
      have e9 : L ++ txL K4 (i * 64) e j ++ [K4 (i * 64 + j)] = L ++ txL K4 (i * 64) e (j + 1) := by rw [txL, if_neg (by omega), List.append_assoc]
      refine ev_loc [(0, .ref xw), (1, .int (iZ (i : Int))), (2, .int (iZ e)), (3, .int (iZ ((j + 1 : Nat) : Int)))] (by simp) ?_
      exact ih (d - 1) (by omega) (j + 1) h1 (by omega) hw ho ho3 ho4 (by rw [← e9]; exact hb) (by rw [← e9]; exact hbb) fm
    · refine ev_iload_n d_Wr_addText_37 rfl rfl ?_
      refine ev_goto (tgt := 43) d_Wr_addText_38 rfl ?_
      refine ev_callV M_Bu_add (rm 0 0) _ (As := [.int (iZ e)]) (c_Bu_app G h b bb F (L ++ txL K4 (i * 64) e j) (e) hb hbb (by first | omega | (simp only [List.length_append, List.length_cons, List.length_nil, dgL_l, txL_l, oTime_l, oFr_l, sixL_l]; omega))) d_Wr_addText_43 mk_Bu_add ml_Wr_76 mv_Bu_add hb rfl rfl rfl (Nat.le_of_ble_eq_true rfl) ⟨by decide, by decide⟩ ⟨by decide, by decide⟩ (fun r h2 hq => ?_)
      obtain ⟨rfl, gb, gbb, fmc⟩ := hq
      have hw := (fmc _ (ninc (cne hw hb (by simp)) (ninc (cne hw hbb (by simp)) nin0))).trans hw
      have ho := (fmc _ (ninc (cne ho hb (by simp)) (ninc (cne ho hbb (by simp)) nin0))).trans ho
      have ho3 := (fmc _ (ninc (cne ho3 hb (by simp)) (ninc (cne ho3 hbb (by simp)) nin0))).trans ho3
      have ho4 := (fmc _ (ninc (cne ho4 hb (by simp)) (ninc (cne ho4 hbb (by simp)) nin0))).trans ho4
      have hb := gb
      have hbb := gbb
      have fm := fm.call (by simp) fmc
      refine ez_iinc (L' := [(0, .ref xw), (1, .int (iZ (i : Int))), (2, .int (iZ e)), (3, .int (iZ ((j + 1 : Nat) : Int))), (4, .int (iZ (K4 (i * 64 + j))))]) d_Wr_addText_46 rfl (by decide) rfl ?_
      refine ev_goto (tgt := 2) d_Wr_addText_49 rfl ?_
      have e9 : L ++ txL K4 (i * 64) e j ++ [e] = L ++ txL K4 (i * 64) e (j + 1) := by rw [txL, if_pos (by omega), List.append_assoc]
      refine ev_loc [(0, .ref xw), (1, .int (iZ (i : Int))), (2, .int (iZ e)), (3, .int (iZ ((j + 1 : Nat) : Int)))] (by simp) ?_
      exact ih (d - 1) (by omega) (j + 1) h2 (by omega) hw ho ho3 ho4 (by rw [← e9]; exact hb) (by rw [← e9]; exact hbb) fm
set_option maxHeartbeats 4000000 in
set_option maxRecDepth 100000 in
theorem c_Wr_addText (G : GT) (h : HM) (xw xf xo : Nat) (b bb : Nat) (F : Nat → Int) (L : List Int) (o1 o2 o3 o4 n : Nat) (K3 K4 : Nat → Int) (i : Nat) (e : Int) (hw : h xw = some (.inr (4, [.ref b, .ref xf, .ref xo]))) (ho : h xo = some (.inr (2, [.ref o1, .ref o2, .ref o3, .ref o4, .int (iZ (n : Int))]))) (ho3 : h o3 = some (.inl (G_i G, 16, .inl (iA K3)))) (ho4 : h o4 = some (.inl (G_i G, 1024, .inl (iA K4)))) (hb : h b = some (.inr (1, [.ref bb, .int (iZ ((L).length : Int))]))) (hbb : h bb = some (.inl (G_i G, 1000, .inl (iA (pL F (L)))))) (hi : i < 16) (hz : 0 ≤ K3 i ∧ K3 i ≤ 64) (hB : ∀ k, 0 ≤ K4 k ∧ K4 k ≤ 255) (hlen : L.length + (K3 i).toNat ≤ 1000) : Rn G M_Wr_addText (rm 1 22) [.ref xw, .int (iZ (i : Int)), .int (iZ e)] h (fun r h' => r = none ∧ h' b = some (.inr (1, [.ref bb, .int (iZ ((L ++ txL K4 (i * 64) e (K3 i).toNat).length : Int))])) ∧ h' bb = some (.inl (G_i G, 1000, .inl (iA (pL F (L ++ txL K4 (i * 64) e (K3 i).toNat))))) ∧ Fm [b, bb] h h') := by
  refine rn_of (by decide) (Nat.le_of_ble_eq_true rfl) ?_
  show Ev G M_Wr_addText _ _ 0 [(0, .ref xw), (1, .int (iZ (i : Int))), (2, .int (iZ e))] [] _ 0 0
  refine ev_iconst (v := iZ 0) d_Wr_addText_0 rfl ?_
  refine ev_istore_n (L' := [(0, .ref xw), (1, .int (iZ (i : Int))), (2, .int (iZ e)), (3, .int (iZ 0))]) d_Wr_addText_1 rfl (by decide) rfl ?_
  exact lp_Wr_addText G h xw xf xo b bb F L o1 o2 o3 o4 n K3 K4 i e hi hz hB hlen (K3 i).toNat 0 h (by omega) hw ho ho3 ho4 (by rw [txL, List.append_nil]; exact hb) (by rw [txL, List.append_nil]; exact hbb) Fm.rf
theorem outs_b {f tk : Int} {K1 K2 K3 K4 : Nat → Int} (hf : f = 0 ∨ f = 1 ∨ f = 2) (hZ : ∀ k, 0 ≤ K3 k ∧ K3 k ≤ 64) : ∀ i : Nat, (outs f tk K1 K2 K3 K4 i).length ≤ 94 * i
  | 0 => by simp [outs]
  | i + 1 => by
    have := outs_b (tk := tk) (K1 := K1) (K2 := K2) (K4 := K4) hf hZ i
    have := lenT_r f tk K1 K2 i
    have := hZ i
    rw [outs, List.length_append, oCue_l hf]
    omega
theorem isF_0 {f : Int} (h : isFormZ f = 0) : ¬ (f = 0 ∨ f = 1 ∨ f = 2) := by
  unfold isFormZ at h
  split at h
  · omega
  · assumption
theorem isF_1 {f : Int} (h : isFormZ f ≠ 0) : f = 0 ∨ f = 1 ∨ f = 2 := by
  unfold isFormZ at h
  split at h
  · assumption
  · omega
theorem isF_r (f : Int) : isFormZ f = 0 ∨ isFormZ f = 1 := by
  unfold isFormZ
  split <;> omega
set_option maxHeartbeats 4000000 in
set_option maxRecDepth 100000 in
theorem c_Wr_digits (G : GT) (h : HM) (v : Int) (hv : 0 ≤ v ∧ v ≤ 1000000) : Rn G M_Wr_digits (rm 0 0) [.int (iZ v)] h (Pu (.int (iZ ((ndg v : Nat) : Int))) h) := by
  refine rn_of (by decide) (Nat.le_of_ble_eq_true rfl) ?_
  show Ev G M_Wr_digits _ _ 0 [(0, .int (iZ v))] [] _ 0 0
  refine ev_iconst (v := iZ 1) d_Wr_digits_0 rfl ?_
  refine ev_istore_n (L' := [(0, .int (iZ v)), (1, .int (iZ 1))]) d_Wr_digits_1 rfl (by decide) rfl ?_
  refine ev_iload_n d_Wr_digits_2 rfl rfl ?_
  refine ev_tens 54 d_Wr_digits_3 wl_tens_54 ?_
  refine ev_tensLen (d_Wr_digits_6) ?_
  show Ev _ _ _ _ _ _ (.int (iZ 6) :: _) _ _ _
  refine ez_icmp_ge (tgt := 25) (by decide) (by decide) d_Wr_digits_7 rfl (fun c7 => absurd c7 (by omega)) (fun c7 => ?_)
  refine ev_iload_n d_Wr_digits_10 rfl rfl ?_
  refine ev_tens 54 d_Wr_digits_11 wl_tens_54 ?_
  refine ev_iload_n d_Wr_digits_14 rfl rfl ?_
  refine ev_tensLd (v := iZ 10) d_Wr_digits_15 ((tens_at (k := 1) (by decide)).1) ((tens_at (k := 1) (by decide)).2) ?_
  refine ez_icmp_lt (tgt := 25) (by omega) (by decide) d_Wr_digits_16 rfl (fun c16 => ?_) (fun c16 => ?_)
  · refine ev_iload_n d_Wr_digits_25 rfl rfl ?_
    exact ev_ireturn d_Wr_digits_26 rfl (by decide) (by decide) (⟨by rw [show ((ndg v : Nat) : Int) = 1 from by unfold ndg; (repeat' split) <;> omega], rfl⟩)
  · refine ez_iinc (L' := [(0, .int (iZ v)), (1, .int (iZ 2))]) d_Wr_digits_19 rfl (by decide) rfl ?_
    refine ev_goto (tgt := 2) d_Wr_digits_22 rfl ?_
    refine ev_iload_n d_Wr_digits_2 rfl rfl ?_
    refine ev_tens 54 d_Wr_digits_3 wl_tens_54 ?_
    refine ev_tensLen (d_Wr_digits_6) ?_
    show Ev _ _ _ _ _ _ (.int (iZ 6) :: _) _ _ _
    refine ez_icmp_ge (tgt := 25) (by decide) (by decide) d_Wr_digits_7 rfl (fun c7 => absurd c7 (by omega)) (fun c7 => ?_)
    refine ev_iload_n d_Wr_digits_10 rfl rfl ?_
    refine ev_tens 54 d_Wr_digits_11 wl_tens_54 ?_
    refine ev_iload_n d_Wr_digits_14 rfl rfl ?_
    refine ev_tensLd (v := iZ 100) d_Wr_digits_15 ((tens_at (k := 2) (by decide)).1) ((tens_at (k := 2) (by decide)).2) ?_
    refine ez_icmp_lt (tgt := 25) (by omega) (by decide) d_Wr_digits_16 rfl (fun c16 => ?_) (fun c16 => ?_)
    · refine ev_iload_n d_Wr_digits_25 rfl rfl ?_
      exact ev_ireturn d_Wr_digits_26 rfl (by decide) (by decide) (⟨by rw [show ((ndg v : Nat) : Int) = 2 from by unfold ndg; (repeat' split) <;> omega], rfl⟩)
    · refine ez_iinc (L' := [(0, .int (iZ v)), (1, .int (iZ 3))]) d_Wr_digits_19 rfl (by decide) rfl ?_
      refine ev_goto (tgt := 2) d_Wr_digits_22 rfl ?_
      refine ev_iload_n d_Wr_digits_2 rfl rfl ?_
      refine ev_tens 54 d_Wr_digits_3 wl_tens_54 ?_
      refine ev_tensLen (d_Wr_digits_6) ?_
      show Ev _ _ _ _ _ _ (.int (iZ 6) :: _) _ _ _
      refine ez_icmp_ge (tgt := 25) (by decide) (by decide) d_Wr_digits_7 rfl (fun c7 => absurd c7 (by omega)) (fun c7 => ?_)
      refine ev_iload_n d_Wr_digits_10 rfl rfl ?_
      refine ev_tens 54 d_Wr_digits_11 wl_tens_54 ?_
      refine ev_iload_n d_Wr_digits_14 rfl rfl ?_
      refine ev_tensLd (v := iZ 1000) d_Wr_digits_15 ((tens_at (k := 3) (by decide)).1) ((tens_at (k := 3) (by decide)).2) ?_
      refine ez_icmp_lt (tgt := 25) (by omega) (by decide) d_Wr_digits_16 rfl (fun c16 => ?_) (fun c16 => ?_)
      · refine ev_iload_n d_Wr_digits_25 rfl rfl ?_
        exact ev_ireturn d_Wr_digits_26 rfl (by decide) (by decide) (⟨by rw [show ((ndg v : Nat) : Int) = 3 from by unfold ndg; (repeat' split) <;> omega], rfl⟩)
      · refine ez_iinc (L' := [(0, .int (iZ v)), (1, .int (iZ 4))]) d_Wr_digits_19 rfl (by decide) rfl ?_
        refine ev_goto (tgt := 2) d_Wr_digits_22 rfl ?_
        refine ev_iload_n d_Wr_digits_2 rfl rfl ?_
        refine ev_tens 54 d_Wr_digits_3 wl_tens_54 ?_
        refine ev_tensLen (d_Wr_digits_6) ?_
        show Ev _ _ _ _ _ _ (.int (iZ 6) :: _) _ _ _
        refine ez_icmp_ge (tgt := 25) (by decide) (by decide) d_Wr_digits_7 rfl (fun c7 => absurd c7 (by omega)) (fun c7 => ?_)
        refine ev_iload_n d_Wr_digits_10 rfl rfl ?_
        refine ev_tens 54 d_Wr_digits_11 wl_tens_54 ?_
        refine ev_iload_n d_Wr_digits_14 rfl rfl ?_
        refine ev_tensLd (v := iZ 10000) d_Wr_digits_15 ((tens_at (k := 4) (by decide)).1) ((tens_at (k := 4) (by decide)).2) ?_
        refine ez_icmp_lt (tgt := 25) (by omega) (by decide) d_Wr_digits_16 rfl (fun c16 => ?_) (fun c16 => ?_)
        · refine ev_iload_n d_Wr_digits_25 rfl rfl ?_
          exact ev_ireturn d_Wr_digits_26 rfl (by decide) (by decide) (⟨by rw [show ((ndg v : Nat) : Int) = 4 from by unfold ndg; (repeat' split) <;> omega], rfl⟩)
        · refine ez_iinc (L' := [(0, .int (iZ v)), (1, .int (iZ 5))]) d_Wr_digits_19 rfl (by decide) rfl ?_
          refine ev_goto (tgt := 2) d_Wr_digits_22 rfl ?_
          refine ev_iload_n d_Wr_digits_2 rfl rfl ?_
          refine ev_tens 54 d_Wr_digits_3 wl_tens_54 ?_
          refine ev_tensLen (d_Wr_digits_6) ?_
          show Ev _ _ _ _ _ _ (.int (iZ 6) :: _) _ _ _
          refine ez_icmp_ge (tgt := 25) (by decide) (by decide) d_Wr_digits_7 rfl (fun c7 => absurd c7 (by omega)) (fun c7 => ?_)
          refine ev_iload_n d_Wr_digits_10 rfl rfl ?_
          refine ev_tens 54 d_Wr_digits_11 wl_tens_54 ?_
          refine ev_iload_n d_Wr_digits_14 rfl rfl ?_
          refine ev_tensLd (v := iZ 100000) d_Wr_digits_15 ((tens_at (k := 5) (by decide)).1) ((tens_at (k := 5) (by decide)).2) ?_
          refine ez_icmp_lt (tgt := 25) (by omega) (by decide) d_Wr_digits_16 rfl (fun c16 => ?_) (fun c16 => ?_)
          · refine ev_iload_n d_Wr_digits_25 rfl rfl ?_
            exact ev_ireturn d_Wr_digits_26 rfl (by decide) (by decide) (⟨by rw [show ((ndg v : Nat) : Int) = 5 from by unfold ndg; (repeat' split) <;> omega], rfl⟩)
          · refine ez_iinc (L' := [(0, .int (iZ v)), (1, .int (iZ 6))]) d_Wr_digits_19 rfl (by decide) rfl ?_
            refine ev_goto (tgt := 2) d_Wr_digits_22 rfl ?_
            refine ev_iload_n d_Wr_digits_2 rfl rfl ?_
            refine ev_tens 54 d_Wr_digits_3 wl_tens_54 ?_
            refine ev_tensLen (d_Wr_digits_6) ?_
            show Ev _ _ _ _ _ _ (.int (iZ 6) :: _) _ _ _
            refine ez_icmp_ge (tgt := 25) (by decide) (by decide) d_Wr_digits_7 rfl (fun c7 => ?_) (fun c7 => absurd c7 (by omega))
            refine ev_iload_n d_Wr_digits_25 rfl rfl ?_
            exact ev_ireturn d_Wr_digits_26 rfl (by decide) (by decide) (⟨by rw [show ((ndg v : Nat) : Int) = 6 from by unfold ndg; (repeat' split) <;> omega], rfl⟩)
set_option maxHeartbeats 4000000 in
set_option maxRecDepth 100000 in
theorem c_Wr_lengthOfTimes (G : GT) (h : HM) (xw b xf xo : Nat) (o1 o2 o3 o4 n : Nat) (K1 K2 : Nat → Int) (num den tk : Int) (f : Int) (i : Nat) (hw : h xw = some (.inr (4, [.ref b, .ref xf, .ref xo]))) (hf : h xf = some (.inr (5, [.int (iZ num), .int (iZ den), .long (lZ tk)]))) (ho : h xo = some (.inr (2, [.ref o1, .ref o2, .ref o3, .ref o4, .int (iZ (n : Int))]))) (ho1 : h o1 = some (.inl (G_j G, 16, .inr (.inl (lA K1))))) (ho2 : h o2 = some (.inl (G_j G, 16, .inr (.inl (lA K2))))) (htk : 11760000 ≤ tk ∧ tk ≤ 705600000) (hT : ∀ k, 0 ≤ K1 k ∧ K1 k ≤ 2540160000000) (hE : ∀ k, 0 ≤ K2 k ∧ K2 k ≤ 2540160000000) (hi : i < 16) (hfo : f = 0 ∨ f = 1 ∨ f = 2) : Rn G M_Wr_lengthOfTimes (rm 3 90) [.ref xw, .int (iZ f), .int (iZ (i : Int))] h (Pu (.int (iZ ((lenT f tk K1 K2 i : Nat) : Int))) h) := by
  refine rn_of (by decide) (Nat.le_of_ble_eq_true rfl) ?_
  show Ev G M_Wr_lengthOfTimes _ _ 0 [(0, .ref xw), (1, .int (iZ f)), (2, .int (iZ (i : Int)))] [] _ 0 0
  have t0 := hT i
  have e0 := hE i
  refine ev_iload_n d_Wr_lengthOfTimes_0 rfl rfl ?_
  refine ez_if_ne (tgt := 7) (by omega) d_Wr_lengthOfTimes_1 rfl (fun c1 => ?_) (fun c1 => ?_)
  · refine ev_iload_n d_Wr_lengthOfTimes_7 rfl rfl ?_
    refine ev_iconst (v := iZ 2) d_Wr_lengthOfTimes_8 rfl ?_
    refine ez_icmp_ne (tgt := 15) (by omega) (by decide) d_Wr_lengthOfTimes_9 rfl (fun c9 => ?_) (fun c9 => ?_)
    · refine ev_iconst (v := iZ 5) d_Wr_lengthOfTimes_15 rfl ?_
      refine ev_aload_n d_Wr_lengthOfTimes_16 rfl rfl ?_
      refine ev_get d_Wr_lengthOfTimes_17 fl_Wr_15 hw rfl ?_
      refine ev_aload_n d_Wr_lengthOfTimes_20 rfl rfl ?_
      refine ev_get d_Wr_lengthOfTimes_21 fl_Wr_19 hw rfl ?_
      refine ev_get d_Wr_lengthOfTimes_24 fl_Wr_37 ho rfl ?_
      refine ev_iload_n d_Wr_lengthOfTimes_27 rfl rfl ?_
      refine ez_laload i d_Wr_lengthOfTimes_28 ho1 (by omega) (by omega) (by decide) ?_
      have rn29 := fra_r htk (show 0 ≤ K1 i ∧ K1 i ≤ 2540160000000 from by omega)
      refine ev_pV M_Fr_nearestFrame 2 60 (As := [.long (lZ (K1 i))]) (c_Fr_nearestFrame G h xf num den tk (K1 i) hf (by omega) (by omega)) d_Wr_lengthOfTimes_29 mk_Fr_nearestFrame ml_Wr_41 mv_Fr_nearestFrame hf rfl rfl rfl (Nat.le_of_ble_eq_true rfl) ⟨by decide, by decide⟩ ⟨by decide, by decide⟩ ?_
      refine ev_pS M_Wr_digits 0 0 (As := [.int (iZ (nearZ (K1 i) tk))]) (c_Wr_digits G h (nearZ (K1 i) tk) (by omega)) d_Wr_lengthOfTimes_32 mk_Wr_digits ml_Wr_47 ms_Wr_digits rfl rfl (Nat.le_of_ble_eq_true rfl) ⟨by decide, by decide⟩ ⟨by decide, by decide⟩ ?_
      refine ez_iadd d_Wr_lengthOfTimes_35 ?_
      refine ev_aload_n d_Wr_lengthOfTimes_36 rfl rfl ?_
      refine ev_get d_Wr_lengthOfTimes_37 fl_Wr_15 hw rfl ?_
      refine ev_aload_n d_Wr_lengthOfTimes_40 rfl rfl ?_
      refine ev_get d_Wr_lengthOfTimes_41 fl_Wr_19 hw rfl ?_
      refine ev_get d_Wr_lengthOfTimes_44 fl_Wr_51 ho rfl ?_
      refine ev_iload_n d_Wr_lengthOfTimes_47 rfl rfl ?_
      refine ez_laload i d_Wr_lengthOfTimes_48 ho2 (by omega) (by omega) (by decide) ?_
      have rn49 := fra_r htk (show 0 ≤ K2 i ∧ K2 i ≤ 2540160000000 from by omega)
      refine ev_pV M_Fr_nearestFrame 2 60 (As := [.long (lZ (K2 i))]) (c_Fr_nearestFrame G h xf num den tk (K2 i) hf (by omega) (by omega)) d_Wr_lengthOfTimes_49 mk_Fr_nearestFrame ml_Wr_41 mv_Fr_nearestFrame hf rfl rfl rfl (Nat.le_of_ble_eq_true rfl) ⟨by decide, by decide⟩ ⟨by decide, by decide⟩ ?_
      refine ev_pS M_Wr_digits 0 0 (As := [.int (iZ (nearZ (K2 i) tk))]) (c_Wr_digits G h (nearZ (K2 i) tk) (by omega)) d_Wr_lengthOfTimes_52 mk_Wr_digits ml_Wr_47 ms_Wr_digits rfl rfl (Nat.le_of_ble_eq_true rfl) ⟨by decide, by decide⟩ ⟨by decide, by decide⟩ ?_
      refine ez_iadd d_Wr_lengthOfTimes_55 ?_
      exact ev_ireturn d_Wr_lengthOfTimes_56 rfl (by decide) (by decide) (⟨by rw [show lenT f tk K1 K2 i = 5 + ndg (nearZ (K1 i) tk) + ndg (nearZ (K2 i) tk) from (if_neg (by omega)).trans (if_neg (by omega))]; rfl, rfl⟩)
    · refine ev_bipush (v := iZ 13) d_Wr_lengthOfTimes_12 rfl ?_
      exact ev_ireturn d_Wr_lengthOfTimes_14 rfl (by decide) (by decide) (⟨by rw [show lenT f tk K1 K2 i = 13 from (if_neg (by omega)).trans (if_pos (by omega))]; rfl, rfl⟩)
  · refine ev_bipush (v := iZ 30) d_Wr_lengthOfTimes_4 rfl ?_
    exact ev_ireturn d_Wr_lengthOfTimes_6 rfl (by decide) (by decide) (⟨by rw [show lenT f tk K1 K2 i = 30 from if_pos (by omega)]; rfl, rfl⟩)
set_option maxHeartbeats 4000000 in
set_option maxRecDepth 100000 in
theorem lp_Wr_length (G : GT) (h : HM) (xw b xf xo : Nat) (o1 o2 o3 o4 n : Nat) (K1 K2 K3 K4 : Nat → Int) (num den tk : Int) (f : Int) (hw : h xw = some (.inr (4, [.ref b, .ref xf, .ref xo]))) (hf : h xf = some (.inr (5, [.int (iZ num), .int (iZ den), .long (lZ tk)]))) (ho : h xo = some (.inr (2, [.ref o1, .ref o2, .ref o3, .ref o4, .int (iZ (n : Int))]))) (ho1 : h o1 = some (.inl (G_j G, 16, .inr (.inl (lA K1))))) (ho2 : h o2 = some (.inl (G_j G, 16, .inr (.inl (lA K2))))) (ho3 : h o3 = some (.inl (G_i G, 16, .inl (iA K3)))) (htk : 11760000 ≤ tk ∧ tk ≤ 705600000) (hT : ∀ k, 0 ≤ K1 k ∧ K1 k ≤ 2540160000000) (hE : ∀ k, 0 ≤ K2 k ∧ K2 k ≤ 2540160000000) (hZ : ∀ k, 0 ≤ K3 k ∧ K3 k ≤ 64) (hn : n ≤ 16) (hfo : f = 0 ∨ f = 1 ∨ f = 2) : ∀ (d : Nat) (i : Nat) (acc : Int), i + d = n → acc = ((outs f tk K1 K2 K3 K4 i).length : Int) → Ev G M_Wr_length (rm 4 120) (Pu (.int (iZ ((outs f tk K1 K2 K3 K4 n).length : Int))) h) 4 [(0, .ref xw), (1, .int (iZ f)), (2, .int (iZ acc)), (3, .int (iZ (i : Int)))] [] h 0 0 := by
  intro d
  induction d using Nat.strongRecOn with
  | ind d ih =>
  intro i acc hd hacc
  refine ev_iload_n d_Wr_length_4 rfl rfl ?_
  refine ev_aload_n d_Wr_length_5 rfl rfl ?_
  refine ev_get d_Wr_length_6 fl_Wr_19 hw rfl ?_
  refine ev_get d_Wr_length_9 fl_Wr_23 ho rfl ?_
  refine ez_icmp_ge (tgt := 40) (by omega) (by omega) d_Wr_length_12 rfl (fun c12 => ?_) (fun c12 => ?_)
  · refine ev_iload_n d_Wr_length_40 rfl rfl ?_
    exact ev_ireturn d_Wr_length_41 rfl (by decide) (by decide) (⟨by rw [hacc, show i = n by omega], rfl⟩)
  · refine ev_iload_n d_Wr_length_15 rfl rfl ?_
    refine ev_aload_n d_Wr_length_16 rfl rfl ?_
    refine ev_iload_n d_Wr_length_17 rfl rfl ?_
    refine ev_iload_n d_Wr_length_18 rfl rfl ?_
    refine ev_pV M_Wr_lengthOfTimes 3 90 (As := [.int (iZ f), .int (iZ (i : Int))]) (c_Wr_lengthOfTimes G h xw b xf xo o1 o2 o3 o4 n K1 K2 num den tk f i hw hf ho ho1 ho2 htk hT hE (by omega) hfo) d_Wr_length_19 mk_Wr_lengthOfTimes ml_Wr_29 mv_Wr_lengthOfTimes hw rfl rfl rfl (Nat.le_of_ble_eq_true rfl) ⟨by decide, by decide⟩ ⟨by decide, by decide⟩ ?_
    refine ev_aload_n d_Wr_length_22 rfl rfl ?_
    refine ev_get d_Wr_length_23 fl_Wr_19 hw rfl ?_
    refine ev_get d_Wr_length_26 fl_Wr_33 ho rfl ?_
    refine ev_iload_n d_Wr_length_29 rfl rfl ?_
    refine ez_iaload i d_Wr_length_30 ho3 (by omega) (by omega) (by decide) ?_
    refine ez_iadd d_Wr_length_31 ?_
    refine ez_iadd d_Wr_length_32 ?_
    refine ev_istore_n (L' := [(0, .ref xw), (1, .int (iZ f)), (2, .int (iZ (acc + (((lenT f tk K1 K2 i : Nat) : Int) + (K3 i))))), (3, .int (iZ (i : Int)))]) d_Wr_length_33 rfl (by decide) rfl ?_
    refine ez_iinc (L' := [(0, .ref xw), (1, .int (iZ f)), (2, .int (iZ (acc + (((lenT f tk K1 K2 i : Nat) : Int) + (K3 i))))), (3, .int (iZ ((i + 1 : Nat) : Int)))]) d_Wr_length_34 rfl (by decide) rfl ?_
    refine ev_goto (tgt := 4) d_Wr_length_37 rfl ?_
    exact ih (d - 1) (by omega) (i + 1) _ (by omega) (by rw [outs, List.length_append, oCue_l hfo, hacc]; have := hZ i; omega)
set_option maxHeartbeats 4000000 in
set_option maxRecDepth 100000 in
theorem c_Wr_length (G : GT) (h : HM) (xw b xf xo : Nat) (o1 o2 o3 o4 n : Nat) (K1 K2 K3 K4 : Nat → Int) (num den tk : Int) (f : Int) (hw : h xw = some (.inr (4, [.ref b, .ref xf, .ref xo]))) (hf : h xf = some (.inr (5, [.int (iZ num), .int (iZ den), .long (lZ tk)]))) (ho : h xo = some (.inr (2, [.ref o1, .ref o2, .ref o3, .ref o4, .int (iZ (n : Int))]))) (ho1 : h o1 = some (.inl (G_j G, 16, .inr (.inl (lA K1))))) (ho2 : h o2 = some (.inl (G_j G, 16, .inr (.inl (lA K2))))) (ho3 : h o3 = some (.inl (G_i G, 16, .inl (iA K3)))) (htk : 11760000 ≤ tk ∧ tk ≤ 705600000) (hT : ∀ k, 0 ≤ K1 k ∧ K1 k ≤ 2540160000000) (hE : ∀ k, 0 ≤ K2 k ∧ K2 k ≤ 2540160000000) (hZ : ∀ k, 0 ≤ K3 k ∧ K3 k ≤ 64) (hn : n ≤ 16) (hfo : f = 0 ∨ f = 1 ∨ f = 2) : Rn G M_Wr_length (rm 4 120) [.ref xw, .int (iZ f)] h (Pu (.int (iZ ((outs f tk K1 K2 K3 K4 n).length : Int))) h) := by
  refine rn_of (by decide) (Nat.le_of_ble_eq_true rfl) ?_
  show Ev G M_Wr_length _ _ 0 [(0, .ref xw), (1, .int (iZ f))] [] _ 0 0
  refine ev_iconst (v := iZ 0) d_Wr_length_0 rfl ?_
  refine ev_istore_n (L' := [(0, .ref xw), (1, .int (iZ f)), (2, .int (iZ 0))]) d_Wr_length_1 rfl (by decide) rfl ?_
  refine ev_iconst (v := iZ 0) d_Wr_length_2 rfl ?_
  refine ev_istore_n (L' := [(0, .ref xw), (1, .int (iZ f)), (2, .int (iZ 0)), (3, .int (iZ 0))]) d_Wr_length_3 rfl (by decide) rfl ?_
  exact lp_Wr_length G h xw b xf xo o1 o2 o3 o4 n K1 K2 K3 K4 num den tk f hw hf ho ho1 ho2 ho3 htk hT hE hZ hn hfo n 0 0 (by omega) rfl
set_option maxHeartbeats 4000000 in
set_option maxRecDepth 100000 in
theorem c_Wr_addBlockTime (G : GT) (h : HM) (xw xf xo : Nat) (b bb : Nat) (F : Nat → Int) (L : List Int) (t : Int) (hw : h xw = some (.inr (4, [.ref b, .ref xf, .ref xo]))) (hb : h b = some (.inr (1, [.ref bb, .int (iZ ((L).length : Int))]))) (hbb : h bb = some (.inl (G_i G, 1000, .inl (iA (pL F (L)))))) (ht : 0 ≤ t ∧ t ≤ 2540160000000) (hlen : L.length + 12 ≤ 1000) : Rn G M_Wr_addBlockTime (rm 2 60) [.ref xw, .long (lZ t)] h (fun r h' => r = none ∧ h' b = some (.inr (1, [.ref bb, .int (iZ ((L ++ oTime t).length : Int))])) ∧ h' bb = some (.inl (G_i G, 1000, .inl (iA (pL F (L ++ oTime t))))) ∧ Fm [b, bb] h h') := by
  refine rn_of (by decide) (Nat.le_of_ble_eq_true rfl) ?_
  show Ev G M_Wr_addBlockTime _ _ 0 [(0, .ref xw), (1, .long (lZ t))] [] _ 0 0
  have fm : Fm [b, bb] h h := Fm.rf
  refine ev_lload_n d_Wr_addBlockTime_0 rfl rfl ?_
  refine ev_ldc2 (v := lZ 705600) d_Wr_addBlockTime_1 kc_Wr_83 ?_
  have rv := tho_r ht
  refine ev_pS M_CB_nearest 1 30 (As := [.long (lZ t), .long (lZ 705600)]) (c_CB_nearest G h t 705600 (by omega) (by omega)) d_Wr_addBlockTime_4 mk_CB_nearest ml_Wr_85 ms_CB_nearest rfl rfl (Nat.le_of_ble_eq_true rfl) ⟨by decide, by decide⟩ ⟨by decide, by decide⟩ ?_
  refine ez_l2i d_Wr_addBlockTime_7 ?_
  refine ev_istore_n (L' := [(0, .ref xw), (1, .long (lZ t)), (3, .int (iZ (nearZ t 705600)))]) d_Wr_addBlockTime_8 rfl (by decide) rfl ?_
  refine ev_aload_n d_Wr_addBlockTime_9 rfl rfl ?_
  refine ev_iload_n d_Wr_addBlockTime_10 rfl rfl ?_
  refine ev_ldc (v := iZ 3600000) d_Wr_addBlockTime_11 kc_Wr_89 ?_
  refine ez_idiv (by omega) (by omega) (by omega) (by omega) d_Wr_addBlockTime_13 ?_
  refine ev_iconst (v := iZ 2) d_Wr_addBlockTime_14 rfl ?_
  refine ev_callV M_Wr_addNumber (rm 1 22) _ (As := [.int (iZ ((nearZ t 705600) / 3600000)), .int (iZ 2)]) (c_Wr_addNumber G h xw xf xo b bb F (L) ((nearZ t 705600) / 3600000) (2) hw hb hbb (by omega) (by decide) (by first | omega | (simp only [List.length_append, List.length_cons, List.length_nil, dgL_l, txL_l, oTime_l, oFr_l, sixL_l]; omega))) d_Wr_addBlockTime_15 mk_Wr_addNumber ml_Wr_90 mv_Wr_addNumber hw rfl rfl rfl (Nat.le_of_ble_eq_true rfl) ⟨by decide, by decide⟩ ⟨by decide, by decide⟩ (fun r h1 hq => ?_)
  obtain ⟨rfl, gb, gbb, fmc⟩ := hq
  have hw := (fmc _ (ninc (cne hw hb (by simp)) (ninc (cne hw hbb (by simp)) nin0))).trans hw
  have hb := gb
  have hbb := gbb
  have fm := fm.call (by simp) fmc
  refine ev_aload_n d_Wr_addBlockTime_18 rfl rfl ?_
  refine ev_get d_Wr_addBlockTime_19 fl_Wr_9 hw rfl ?_
  refine ev_bipush (v := iZ 58) d_Wr_addBlockTime_22 rfl ?_
  refine ev_callV M_Bu_add (rm 0 0) _ (As := [.int (iZ 58)]) (c_Bu_app G h1 b bb F (L ++ dgL ((nearZ t 705600) / 3600000) 2) (58) hb hbb (by first | omega | (simp only [List.length_append, List.length_cons, List.length_nil, dgL_l, txL_l, oTime_l, oFr_l, sixL_l]; omega))) d_Wr_addBlockTime_24 mk_Bu_add ml_Wr_76 mv_Bu_add hb rfl rfl rfl (Nat.le_of_ble_eq_true rfl) ⟨by decide, by decide⟩ ⟨by decide, by decide⟩ (fun r h2 hq => ?_)
  obtain ⟨rfl, gb, gbb, fmc⟩ := hq
  have hw := (fmc _ (ninc (cne hw hb (by simp)) (ninc (cne hw hbb (by simp)) nin0))).trans hw
  have hb := gb
  have hbb := gbb
  have fm := fm.call (by simp) fmc
  refine ev_aload_n d_Wr_addBlockTime_27 rfl rfl ?_
  refine ev_iload_n d_Wr_addBlockTime_28 rfl rfl ?_
  refine ev_ldc (v := iZ 60000) d_Wr_addBlockTime_29 kc_Wr_93 ?_
  refine ez_idiv (by omega) (by omega) (by omega) (by omega) d_Wr_addBlockTime_31 ?_
  refine ev_bipush (v := iZ 60) d_Wr_addBlockTime_32 rfl ?_
  refine ez_irem (by omega) (by omega) (by omega) (by omega) d_Wr_addBlockTime_34 ?_
  refine ev_iconst (v := iZ 2) d_Wr_addBlockTime_35 rfl ?_
  refine ev_callV M_Wr_addNumber (rm 1 22) _ (As := [.int (iZ (((nearZ t 705600) / 60000) % 60)), .int (iZ 2)]) (c_Wr_addNumber G h2 xw xf xo b bb F (L ++ dgL ((nearZ t 705600) / 3600000) 2 ++ [58]) (((nearZ t 705600) / 60000) % 60) (2) hw hb hbb (by omega) (by decide) (by first | omega | (simp only [List.length_append, List.length_cons, List.length_nil, dgL_l, txL_l, oTime_l, oFr_l, sixL_l]; omega))) d_Wr_addBlockTime_36 mk_Wr_addNumber ml_Wr_90 mv_Wr_addNumber hw rfl rfl rfl (Nat.le_of_ble_eq_true rfl) ⟨by decide, by decide⟩ ⟨by decide, by decide⟩ (fun r h3 hq => ?_)
  obtain ⟨rfl, gb, gbb, fmc⟩ := hq
  have hw := (fmc _ (ninc (cne hw hb (by simp)) (ninc (cne hw hbb (by simp)) nin0))).trans hw
  have hb := gb
  have hbb := gbb
  have fm := fm.call (by simp) fmc
  refine ev_aload_n d_Wr_addBlockTime_39 rfl rfl ?_
  refine ev_get d_Wr_addBlockTime_40 fl_Wr_9 hw rfl ?_
  refine ev_bipush (v := iZ 58) d_Wr_addBlockTime_43 rfl ?_
  refine ev_callV M_Bu_add (rm 0 0) _ (As := [.int (iZ 58)]) (c_Bu_app G h3 b bb F (L ++ dgL ((nearZ t 705600) / 3600000) 2 ++ [58] ++ dgL (((nearZ t 705600) / 60000) % 60) 2) (58) hb hbb (by first | omega | (simp only [List.length_append, List.length_cons, List.length_nil, dgL_l, txL_l, oTime_l, oFr_l, sixL_l]; omega))) d_Wr_addBlockTime_45 mk_Bu_add ml_Wr_76 mv_Bu_add hb rfl rfl rfl (Nat.le_of_ble_eq_true rfl) ⟨by decide, by decide⟩ ⟨by decide, by decide⟩ (fun r h4 hq => ?_)
  obtain ⟨rfl, gb, gbb, fmc⟩ := hq
  have hw := (fmc _ (ninc (cne hw hb (by simp)) (ninc (cne hw hbb (by simp)) nin0))).trans hw
  have hb := gb
  have hbb := gbb
  have fm := fm.call (by simp) fmc
  refine ev_aload_n d_Wr_addBlockTime_48 rfl rfl ?_
  refine ev_iload_n d_Wr_addBlockTime_49 rfl rfl ?_
  refine ev_sipush (v := iZ 1000) d_Wr_addBlockTime_50 rfl ?_
  refine ez_idiv (by omega) (by omega) (by omega) (by omega) d_Wr_addBlockTime_53 ?_
  refine ev_bipush (v := iZ 60) d_Wr_addBlockTime_54 rfl ?_
  refine ez_irem (by omega) (by omega) (by omega) (by omega) d_Wr_addBlockTime_56 ?_
  refine ev_iconst (v := iZ 2) d_Wr_addBlockTime_57 rfl ?_
  refine ev_callV M_Wr_addNumber (rm 1 22) _ (As := [.int (iZ (((nearZ t 705600) / 1000) % 60)), .int (iZ 2)]) (c_Wr_addNumber G h4 xw xf xo b bb F (L ++ dgL ((nearZ t 705600) / 3600000) 2 ++ [58] ++ dgL (((nearZ t 705600) / 60000) % 60) 2 ++ [58]) (((nearZ t 705600) / 1000) % 60) (2) hw hb hbb (by omega) (by decide) (by first | omega | (simp only [List.length_append, List.length_cons, List.length_nil, dgL_l, txL_l, oTime_l, oFr_l, sixL_l]; omega))) d_Wr_addBlockTime_58 mk_Wr_addNumber ml_Wr_90 mv_Wr_addNumber hw rfl rfl rfl (Nat.le_of_ble_eq_true rfl) ⟨by decide, by decide⟩ ⟨by decide, by decide⟩ (fun r h5 hq => ?_)
  obtain ⟨rfl, gb, gbb, fmc⟩ := hq
  have hw := (fmc _ (ninc (cne hw hb (by simp)) (ninc (cne hw hbb (by simp)) nin0))).trans hw
  have hb := gb
  have hbb := gbb
  have fm := fm.call (by simp) fmc
  refine ev_aload_n d_Wr_addBlockTime_61 rfl rfl ?_
  refine ev_get d_Wr_addBlockTime_62 fl_Wr_9 hw rfl ?_
  refine ev_bipush (v := iZ 44) d_Wr_addBlockTime_65 rfl ?_
  refine ev_callV M_Bu_add (rm 0 0) _ (As := [.int (iZ 44)]) (c_Bu_app G h5 b bb F (L ++ dgL ((nearZ t 705600) / 3600000) 2 ++ [58] ++ dgL (((nearZ t 705600) / 60000) % 60) 2 ++ [58] ++ dgL (((nearZ t 705600) / 1000) % 60) 2) (44) hb hbb (by first | omega | (simp only [List.length_append, List.length_cons, List.length_nil, dgL_l, txL_l, oTime_l, oFr_l, sixL_l]; omega))) d_Wr_addBlockTime_67 mk_Bu_add ml_Wr_76 mv_Bu_add hb rfl rfl rfl (Nat.le_of_ble_eq_true rfl) ⟨by decide, by decide⟩ ⟨by decide, by decide⟩ (fun r h6 hq => ?_)
  obtain ⟨rfl, gb, gbb, fmc⟩ := hq
  have hw := (fmc _ (ninc (cne hw hb (by simp)) (ninc (cne hw hbb (by simp)) nin0))).trans hw
  have hb := gb
  have hbb := gbb
  have fm := fm.call (by simp) fmc
  refine ev_aload_n d_Wr_addBlockTime_70 rfl rfl ?_
  refine ev_iload_n d_Wr_addBlockTime_71 rfl rfl ?_
  refine ev_sipush (v := iZ 1000) d_Wr_addBlockTime_72 rfl ?_
  refine ez_irem (by omega) (by omega) (by omega) (by omega) d_Wr_addBlockTime_75 ?_
  refine ev_iconst (v := iZ 3) d_Wr_addBlockTime_76 rfl ?_
  refine ev_callV M_Wr_addNumber (rm 1 22) _ (As := [.int (iZ ((nearZ t 705600) % 1000)), .int (iZ 3)]) (c_Wr_addNumber G h6 xw xf xo b bb F (L ++ dgL ((nearZ t 705600) / 3600000) 2 ++ [58] ++ dgL (((nearZ t 705600) / 60000) % 60) 2 ++ [58] ++ dgL (((nearZ t 705600) / 1000) % 60) 2 ++ [44]) ((nearZ t 705600) % 1000) (3) hw hb hbb (by omega) (by decide) (by first | omega | (simp only [List.length_append, List.length_cons, List.length_nil, dgL_l, txL_l, oTime_l, oFr_l, sixL_l]; omega))) d_Wr_addBlockTime_77 mk_Wr_addNumber ml_Wr_90 mv_Wr_addNumber hw rfl rfl rfl (Nat.le_of_ble_eq_true rfl) ⟨by decide, by decide⟩ ⟨by decide, by decide⟩ (fun r h7 hq => ?_)
  obtain ⟨rfl, gb, gbb, fmc⟩ := hq
  have hw := (fmc _ (ninc (cne hw hb (by simp)) (ninc (cne hw hbb (by simp)) nin0))).trans hw
  have hb := gb
  have hbb := gbb
  have fm := fm.call (by simp) fmc
  have e9 : L ++ dgL ((nearZ t 705600) / 3600000) 2 ++ [58] ++ dgL (((nearZ t 705600) / 60000) % 60) 2 ++ [58] ++ dgL (((nearZ t 705600) / 1000) % 60) 2 ++ [44] ++ dgL ((nearZ t 705600) % 1000) 3 = L ++ oTime t := by unfold oTime; simp only [List.append_assoc]
  exact ev_return d_Wr_addBlockTime_80 rfl (by decide) (by decide) (⟨rfl, by rw [← e9]; exact hb, by rw [← e9]; exact hbb, fm⟩)
set_option maxHeartbeats 4000000 in
set_option maxRecDepth 100000 in
theorem c_Wr_addFrame (G : GT) (h : HM) (xw xf xo : Nat) (b bb : Nat) (F : Nat → Int) (L : List Int) (num den tk : Int) (t : Int) (hw : h xw = some (.inr (4, [.ref b, .ref xf, .ref xo]))) (hf : h xf = some (.inr (5, [.int (iZ num), .int (iZ den), .long (lZ tk)]))) (hb : h b = some (.inr (1, [.ref bb, .int (iZ ((L).length : Int))]))) (hbb : h bb = some (.inl (G_i G, 1000, .inl (iA (pL F (L)))))) (htk : 11760000 ≤ tk ∧ tk ≤ 705600000) (ht : 0 ≤ t ∧ t ≤ 2540160000000) (hlen : L.length + (2 + ndg (nearZ t tk)) ≤ 1000) : Rn G M_Wr_addFrame (rm 3 90) [.ref xw, .long (lZ t)] h (fun r h' => r = none ∧ h' b = some (.inr (1, [.ref bb, .int (iZ ((L ++ oFr tk t).length : Int))])) ∧ h' bb = some (.inl (G_i G, 1000, .inl (iA (pL F (L ++ oFr tk t))))) ∧ Fm [b, bb] h h') := by
  refine rn_of (by decide) (Nat.le_of_ble_eq_true rfl) ?_
  show Ev G M_Wr_addFrame _ _ 0 [(0, .ref xw), (1, .long (lZ t))] [] _ 0 0
  have fm : Fm [b, bb] h h := Fm.rf
  have rnd := ndg_r (nearZ t tk)
  refine ev_aload_n d_Wr_addFrame_0 rfl rfl ?_
  refine ev_get d_Wr_addFrame_1 fl_Wr_15 hw rfl ?_
  refine ev_lload_n d_Wr_addFrame_4 rfl rfl ?_
  have rn5 := fra_r htk (show 0 ≤ t ∧ t ≤ 2540160000000 from by omega)
  refine ev_pV M_Fr_nearestFrame 2 60 (As := [.long (lZ t)]) (c_Fr_nearestFrame G h xf num den tk (t) hf (by omega) (by omega)) d_Wr_addFrame_5 mk_Fr_nearestFrame ml_Wr_41 mv_Fr_nearestFrame hf rfl rfl rfl (Nat.le_of_ble_eq_true rfl) ⟨by decide, by decide⟩ ⟨by decide, by decide⟩ ?_
  refine ev_istore_n (L' := [(0, .ref xw), (1, .long (lZ t)), (3, .int (iZ (nearZ t tk)))]) d_Wr_addFrame_8 rfl (by decide) rfl ?_
  refine ev_aload_n d_Wr_addFrame_9 rfl rfl ?_
  refine ev_get d_Wr_addFrame_10 fl_Wr_9 hw rfl ?_
  refine ev_bipush (v := iZ 123) d_Wr_addFrame_13 rfl ?_
  refine ev_callV M_Bu_add (rm 0 0) _ (As := [.int (iZ 123)]) (c_Bu_app G h b bb F (L) (123) hb hbb (by first | omega | (simp only [List.length_append, List.length_cons, List.length_nil, dgL_l, txL_l, oTime_l, oFr_l, sixL_l]; omega))) d_Wr_addFrame_15 mk_Bu_add ml_Wr_76 mv_Bu_add hb rfl rfl rfl (Nat.le_of_ble_eq_true rfl) ⟨by decide, by decide⟩ ⟨by decide, by decide⟩ (fun r h1 hq => ?_)
  obtain ⟨rfl, gb, gbb, fmc⟩ := hq
  have hw := (fmc _ (ninc (cne hw hb (by simp)) (ninc (cne hw hbb (by simp)) nin0))).trans hw
  have hf := (fmc _ (ninc (cne hf hb (by simp)) (ninc (cne hf hbb (by simp)) nin0))).trans hf
  have hb := gb
  have hbb := gbb
  have fm := fm.call (by simp) fmc
  refine ev_aload_n d_Wr_addFrame_18 rfl rfl ?_
  refine ev_iload_n d_Wr_addFrame_19 rfl rfl ?_
  refine ev_iload_n d_Wr_addFrame_20 rfl rfl ?_
  refine ev_pS M_Wr_digits 0 0 (As := [.int (iZ (nearZ t tk))]) (c_Wr_digits G h1 (nearZ t tk) (by omega)) d_Wr_addFrame_21 mk_Wr_digits ml_Wr_47 ms_Wr_digits rfl rfl (Nat.le_of_ble_eq_true rfl) ⟨by decide, by decide⟩ ⟨by decide, by decide⟩ ?_
  refine ev_callV M_Wr_addNumber (rm 1 22) _ (As := [.int (iZ (nearZ t tk)), .int (iZ ((ndg (nearZ t tk) : Nat) : Int))]) (c_Wr_addNumber G h1 xw xf xo b bb F (L ++ [123]) (nearZ t tk) (ndg (nearZ t tk)) hw hb hbb (by omega) (ndg_r _).2 (by first | omega | (simp only [List.length_append, List.length_cons, List.length_nil, dgL_l, txL_l, oTime_l, oFr_l, sixL_l]; omega))) d_Wr_addFrame_24 mk_Wr_addNumber ml_Wr_90 mv_Wr_addNumber hw rfl rfl rfl (Nat.le_of_ble_eq_true rfl) ⟨by decide, by decide⟩ ⟨by decide, by decide⟩ (fun r h2 hq => ?_)
  obtain ⟨rfl, gb, gbb, fmc⟩ := hq
  have hw := (fmc _ (ninc (cne hw hb (by simp)) (ninc (cne hw hbb (by simp)) nin0))).trans hw
  have hf := (fmc _ (ninc (cne hf hb (by simp)) (ninc (cne hf hbb (by simp)) nin0))).trans hf
  have hb := gb
  have hbb := gbb
  have fm := fm.call (by simp) fmc
  refine ev_aload_n d_Wr_addFrame_27 rfl rfl ?_
  refine ev_get d_Wr_addFrame_28 fl_Wr_9 hw rfl ?_
  refine ev_bipush (v := iZ 125) d_Wr_addFrame_31 rfl ?_
  refine ev_callV M_Bu_add (rm 0 0) _ (As := [.int (iZ 125)]) (c_Bu_app G h2 b bb F (L ++ [123] ++ dgL (nearZ t tk) (ndg (nearZ t tk))) (125) hb hbb (by first | omega | (simp only [List.length_append, List.length_cons, List.length_nil, dgL_l, txL_l, oTime_l, oFr_l, sixL_l]; omega))) d_Wr_addFrame_33 mk_Bu_add ml_Wr_76 mv_Bu_add hb rfl rfl rfl (Nat.le_of_ble_eq_true rfl) ⟨by decide, by decide⟩ ⟨by decide, by decide⟩ (fun r h3 hq => ?_)
  obtain ⟨rfl, gb, gbb, fmc⟩ := hq
  have hw := (fmc _ (ninc (cne hw hb (by simp)) (ninc (cne hw hbb (by simp)) nin0))).trans hw
  have hf := (fmc _ (ninc (cne hf hb (by simp)) (ninc (cne hf hbb (by simp)) nin0))).trans hf
  have hb := gb
  have hbb := gbb
  have fm := fm.call (by simp) fmc
  have e9 : L ++ [123] ++ dgL (nearZ t tk) (ndg (nearZ t tk)) ++ [125] = L ++ oFr tk t := by unfold oFr; simp only [List.append_assoc]
  exact ev_return d_Wr_addFrame_36 rfl (by decide) (by decide) (⟨rfl, by rw [← e9]; exact hb, by rw [← e9]; exact hbb, fm⟩)
set_option maxHeartbeats 4000000 in
set_option maxRecDepth 100000 in
theorem c_Wr_addBlock (G : GT) (h : HM) (xw xf xo : Nat) (b bb : Nat) (F : Nat → Int) (L : List Int) (o1 o2 o3 o4 n : Nat) (K1 K2 K3 K4 : Nat → Int) (i : Nat) (hw : h xw = some (.inr (4, [.ref b, .ref xf, .ref xo]))) (ho : h xo = some (.inr (2, [.ref o1, .ref o2, .ref o3, .ref o4, .int (iZ (n : Int))]))) (ho1 : h o1 = some (.inl (G_j G, 16, .inr (.inl (lA K1))))) (ho2 : h o2 = some (.inl (G_j G, 16, .inr (.inl (lA K2))))) (ho3 : h o3 = some (.inl (G_i G, 16, .inl (iA K3)))) (ho4 : h o4 = some (.inl (G_i G, 1024, .inl (iA K4)))) (hb : h b = some (.inr (1, [.ref bb, .int (iZ ((L).length : Int))]))) (hbb : h bb = some (.inl (G_i G, 1000, .inl (iA (pL F (L)))))) (hT : ∀ k, 0 ≤ K1 k ∧ K1 k ≤ 2540160000000) (hE : ∀ k, 0 ≤ K2 k ∧ K2 k ≤ 2540160000000) (hZ : ∀ k, 0 ≤ K3 k ∧ K3 k ≤ 64) (hB : ∀ k, 0 ≤ K4 k ∧ K4 k ≤ 255) (hi : i < 16) (hlen : L.length + (30 + (K3 i).toNat) ≤ 1000) : Rn G M_Wr_addBlock (rm 3 90) [.ref xw, .int (iZ (i : Int))] h (fun r h' => r = none ∧ h' b = some (.inr (1, [.ref bb, .int (iZ ((L ++ (oBlk K1 K2 K3 K4 i)).length : Int))])) ∧ h' bb = some (.inl (G_i G, 1000, .inl (iA (pL F (L ++ (oBlk K1 K2 K3 K4 i)))))) ∧ Fm [b, bb] h h') := by
  refine rn_of (by decide) (Nat.le_of_ble_eq_true rfl) ?_
  show Ev G M_Wr_addBlock _ _ 0 [(0, .ref xw), (1, .int (iZ (i : Int)))] [] _ 0 0
  have fm : Fm [b, bb] h h := Fm.rf
  have t0 := hT i
  have e0 := hE i
  have z0 := hZ i
  refine ev_aload_n d_Wr_addBlock_0 rfl rfl ?_
  refine ev_aload_n d_Wr_addBlock_1 rfl rfl ?_
  refine ev_get d_Wr_addBlock_2 fl_Wr_19 hw rfl ?_
  refine ev_get d_Wr_addBlock_5 fl_Wr_37 ho rfl ?_
  refine ev_iload_n d_Wr_addBlock_8 rfl rfl ?_
  refine ez_laload i d_Wr_addBlock_9 ho1 (by omega) (by omega) (by decide) ?_
  refine ev_callV M_Wr_addBlockTime (rm 2 60) _ (As := [.long (lZ (K1 i))]) (c_Wr_addBlockTime G h xw xf xo b bb F (L) (K1 i) hw hb hbb (by omega) (by first | omega | (simp only [List.length_append, List.length_cons, List.length_nil, dgL_l, txL_l, oTime_l, oFr_l, sixL_l]; omega))) d_Wr_addBlock_10 mk_Wr_addBlockTime ml_Wr_72 mv_Wr_addBlockTime hw rfl rfl rfl (Nat.le_of_ble_eq_true rfl) ⟨by decide, by decide⟩ ⟨by decide, by decide⟩ (fun r h1 hq => ?_)
  obtain ⟨rfl, gb, gbb, fmc⟩ := hq
  have hw := (fmc _ (ninc (cne hw hb (by simp)) (ninc (cne hw hbb (by simp)) nin0))).trans hw
  have ho := (fmc _ (ninc (cne ho hb (by simp)) (ninc (cne ho hbb (by simp)) nin0))).trans ho
  have ho1 := (fmc _ (ninc (cne ho1 hb (by simp)) (ninc (cne ho1 hbb (by simp)) nin0))).trans ho1
  have ho2 := (fmc _ (ninc (cne ho2 hb (by simp)) (ninc (cne ho2 hbb (by simp)) nin0))).trans ho2
  have ho3 := (fmc _ (ninc (cne ho3 hb (by simp)) (ninc (cne ho3 hbb (by simp)) nin0))).trans ho3
  have ho4 := (fmc _ (ninc (cne ho4 hb (by simp)) (ninc (cne ho4 hbb (by simp)) nin0))).trans ho4
  have hb := gb
  have hbb := gbb
  have fm := fm.call (by simp) fmc
  refine ev_aload_n d_Wr_addBlock_13 rfl rfl ?_
  refine ev_get d_Wr_addBlock_14 fl_Wr_9 hw rfl ?_
  refine ev_bipush (v := iZ 32) d_Wr_addBlock_17 rfl ?_
  refine ev_callV M_Bu_add (rm 0 0) _ (As := [.int (iZ 32)]) (c_Bu_app G h1 b bb F (L ++ oTime (K1 i)) (32) hb hbb (by first | omega | (simp only [List.length_append, List.length_cons, List.length_nil, dgL_l, txL_l, oTime_l, oFr_l, sixL_l]; omega))) d_Wr_addBlock_19 mk_Bu_add ml_Wr_76 mv_Bu_add hb rfl rfl rfl (Nat.le_of_ble_eq_true rfl) ⟨by decide, by decide⟩ ⟨by decide, by decide⟩ (fun r h2 hq => ?_)
  obtain ⟨rfl, gb, gbb, fmc⟩ := hq
  have hw := (fmc _ (ninc (cne hw hb (by simp)) (ninc (cne hw hbb (by simp)) nin0))).trans hw
  have ho := (fmc _ (ninc (cne ho hb (by simp)) (ninc (cne ho hbb (by simp)) nin0))).trans ho
  have ho1 := (fmc _ (ninc (cne ho1 hb (by simp)) (ninc (cne ho1 hbb (by simp)) nin0))).trans ho1
  have ho2 := (fmc _ (ninc (cne ho2 hb (by simp)) (ninc (cne ho2 hbb (by simp)) nin0))).trans ho2
  have ho3 := (fmc _ (ninc (cne ho3 hb (by simp)) (ninc (cne ho3 hbb (by simp)) nin0))).trans ho3
  have ho4 := (fmc _ (ninc (cne ho4 hb (by simp)) (ninc (cne ho4 hbb (by simp)) nin0))).trans ho4
  have hb := gb
  have hbb := gbb
  have fm := fm.call (by simp) fmc
  refine ev_aload_n d_Wr_addBlock_22 rfl rfl ?_
  refine ev_get d_Wr_addBlock_23 fl_Wr_9 hw rfl ?_
  refine ev_bipush (v := iZ 62) d_Wr_addBlock_26 rfl ?_
  refine ev_callV M_Bu_add (rm 0 0) _ (As := [.int (iZ 62)]) (c_Bu_app G h2 b bb F (L ++ oTime (K1 i) ++ [32]) (62) hb hbb (by first | omega | (simp only [List.length_append, List.length_cons, List.length_nil, dgL_l, txL_l, oTime_l, oFr_l, sixL_l]; omega))) d_Wr_addBlock_28 mk_Bu_add ml_Wr_76 mv_Bu_add hb rfl rfl rfl (Nat.le_of_ble_eq_true rfl) ⟨by decide, by decide⟩ ⟨by decide, by decide⟩ (fun r h3 hq => ?_)
  obtain ⟨rfl, gb, gbb, fmc⟩ := hq
  have hw := (fmc _ (ninc (cne hw hb (by simp)) (ninc (cne hw hbb (by simp)) nin0))).trans hw
  have ho := (fmc _ (ninc (cne ho hb (by simp)) (ninc (cne ho hbb (by simp)) nin0))).trans ho
  have ho1 := (fmc _ (ninc (cne ho1 hb (by simp)) (ninc (cne ho1 hbb (by simp)) nin0))).trans ho1
  have ho2 := (fmc _ (ninc (cne ho2 hb (by simp)) (ninc (cne ho2 hbb (by simp)) nin0))).trans ho2
  have ho3 := (fmc _ (ninc (cne ho3 hb (by simp)) (ninc (cne ho3 hbb (by simp)) nin0))).trans ho3
  have ho4 := (fmc _ (ninc (cne ho4 hb (by simp)) (ninc (cne ho4 hbb (by simp)) nin0))).trans ho4
  have hb := gb
  have hbb := gbb
  have fm := fm.call (by simp) fmc
  refine ev_aload_n d_Wr_addBlock_31 rfl rfl ?_
  refine ev_get d_Wr_addBlock_32 fl_Wr_9 hw rfl ?_
  refine ev_bipush (v := iZ 32) d_Wr_addBlock_35 rfl ?_
  refine ev_callV M_Bu_add (rm 0 0) _ (As := [.int (iZ 32)]) (c_Bu_app G h3 b bb F (L ++ oTime (K1 i) ++ [32] ++ [62]) (32) hb hbb (by first | omega | (simp only [List.length_append, List.length_cons, List.length_nil, dgL_l, txL_l, oTime_l, oFr_l, sixL_l]; omega))) d_Wr_addBlock_37 mk_Bu_add ml_Wr_76 mv_Bu_add hb rfl rfl rfl (Nat.le_of_ble_eq_true rfl) ⟨by decide, by decide⟩ ⟨by decide, by decide⟩ (fun r h4 hq => ?_)
  obtain ⟨rfl, gb, gbb, fmc⟩ := hq
  have hw := (fmc _ (ninc (cne hw hb (by simp)) (ninc (cne hw hbb (by simp)) nin0))).trans hw
  have ho := (fmc _ (ninc (cne ho hb (by simp)) (ninc (cne ho hbb (by simp)) nin0))).trans ho
  have ho1 := (fmc _ (ninc (cne ho1 hb (by simp)) (ninc (cne ho1 hbb (by simp)) nin0))).trans ho1
  have ho2 := (fmc _ (ninc (cne ho2 hb (by simp)) (ninc (cne ho2 hbb (by simp)) nin0))).trans ho2
  have ho3 := (fmc _ (ninc (cne ho3 hb (by simp)) (ninc (cne ho3 hbb (by simp)) nin0))).trans ho3
  have ho4 := (fmc _ (ninc (cne ho4 hb (by simp)) (ninc (cne ho4 hbb (by simp)) nin0))).trans ho4
  have hb := gb
  have hbb := gbb
  have fm := fm.call (by simp) fmc
  refine ev_aload_n d_Wr_addBlock_40 rfl rfl ?_
  refine ev_aload_n d_Wr_addBlock_41 rfl rfl ?_
  refine ev_get d_Wr_addBlock_42 fl_Wr_19 hw rfl ?_
  refine ev_get d_Wr_addBlock_45 fl_Wr_51 ho rfl ?_
  refine ev_iload_n d_Wr_addBlock_48 rfl rfl ?_
  refine ez_laload i d_Wr_addBlock_49 ho2 (by omega) (by omega) (by decide) ?_
  refine ev_callV M_Wr_addBlockTime (rm 2 60) _ (As := [.long (lZ (K2 i))]) (c_Wr_addBlockTime G h4 xw xf xo b bb F (L ++ oTime (K1 i) ++ [32] ++ [62] ++ [32]) (K2 i) hw hb hbb (by omega) (by first | omega | (simp only [List.length_append, List.length_cons, List.length_nil, dgL_l, txL_l, oTime_l, oFr_l, sixL_l]; omega))) d_Wr_addBlock_50 mk_Wr_addBlockTime ml_Wr_72 mv_Wr_addBlockTime hw rfl rfl rfl (Nat.le_of_ble_eq_true rfl) ⟨by decide, by decide⟩ ⟨by decide, by decide⟩ (fun r h5 hq => ?_)
  obtain ⟨rfl, gb, gbb, fmc⟩ := hq
  have hw := (fmc _ (ninc (cne hw hb (by simp)) (ninc (cne hw hbb (by simp)) nin0))).trans hw
  have ho := (fmc _ (ninc (cne ho hb (by simp)) (ninc (cne ho hbb (by simp)) nin0))).trans ho
  have ho1 := (fmc _ (ninc (cne ho1 hb (by simp)) (ninc (cne ho1 hbb (by simp)) nin0))).trans ho1
  have ho2 := (fmc _ (ninc (cne ho2 hb (by simp)) (ninc (cne ho2 hbb (by simp)) nin0))).trans ho2
  have ho3 := (fmc _ (ninc (cne ho3 hb (by simp)) (ninc (cne ho3 hbb (by simp)) nin0))).trans ho3
  have ho4 := (fmc _ (ninc (cne ho4 hb (by simp)) (ninc (cne ho4 hbb (by simp)) nin0))).trans ho4
  have hb := gb
  have hbb := gbb
  have fm := fm.call (by simp) fmc
  refine ev_aload_n d_Wr_addBlock_53 rfl rfl ?_
  refine ev_get d_Wr_addBlock_54 fl_Wr_9 hw rfl ?_
  refine ev_bipush (v := iZ 10) d_Wr_addBlock_57 rfl ?_
  refine ev_callV M_Bu_add (rm 0 0) _ (As := [.int (iZ 10)]) (c_Bu_app G h5 b bb F (L ++ oTime (K1 i) ++ [32] ++ [62] ++ [32] ++ oTime (K2 i)) (10) hb hbb (by first | omega | (simp only [List.length_append, List.length_cons, List.length_nil, dgL_l, txL_l, oTime_l, oFr_l, sixL_l]; omega))) d_Wr_addBlock_59 mk_Bu_add ml_Wr_76 mv_Bu_add hb rfl rfl rfl (Nat.le_of_ble_eq_true rfl) ⟨by decide, by decide⟩ ⟨by decide, by decide⟩ (fun r h6 hq => ?_)
  obtain ⟨rfl, gb, gbb, fmc⟩ := hq
  have hw := (fmc _ (ninc (cne hw hb (by simp)) (ninc (cne hw hbb (by simp)) nin0))).trans hw
  have ho := (fmc _ (ninc (cne ho hb (by simp)) (ninc (cne ho hbb (by simp)) nin0))).trans ho
  have ho1 := (fmc _ (ninc (cne ho1 hb (by simp)) (ninc (cne ho1 hbb (by simp)) nin0))).trans ho1
  have ho2 := (fmc _ (ninc (cne ho2 hb (by simp)) (ninc (cne ho2 hbb (by simp)) nin0))).trans ho2
  have ho3 := (fmc _ (ninc (cne ho3 hb (by simp)) (ninc (cne ho3 hbb (by simp)) nin0))).trans ho3
  have ho4 := (fmc _ (ninc (cne ho4 hb (by simp)) (ninc (cne ho4 hbb (by simp)) nin0))).trans ho4
  have hb := gb
  have hbb := gbb
  have fm := fm.call (by simp) fmc
  refine ev_aload_n d_Wr_addBlock_62 rfl rfl ?_
  refine ev_iload_n d_Wr_addBlock_63 rfl rfl ?_
  refine ev_bipush (v := iZ 10) d_Wr_addBlock_64 rfl ?_
  refine ev_callV M_Wr_addText (rm 1 22) _ (As := [.int (iZ (i : Int)), .int (iZ 10)]) (c_Wr_addText G h6 xw xf xo b bb F (L ++ oTime (K1 i) ++ [32] ++ [62] ++ [32] ++ oTime (K2 i) ++ [10]) o1 o2 o3 o4 n K3 K4 i 10 hw ho ho3 ho4 hb hbb hi (hZ i) hB (by first | omega | (simp only [List.length_append, List.length_cons, List.length_nil, dgL_l, txL_l, oTime_l, oFr_l, sixL_l]; omega))) d_Wr_addBlock_66 mk_Wr_addText ml_Wr_79 mv_Wr_addText hw rfl rfl rfl (Nat.le_of_ble_eq_true rfl) ⟨by decide, by decide⟩ ⟨by decide, by decide⟩ (fun r h7 hq => ?_)
  obtain ⟨rfl, gb, gbb, fmc⟩ := hq
  have hw := (fmc _ (ninc (cne hw hb (by simp)) (ninc (cne hw hbb (by simp)) nin0))).trans hw
  have ho := (fmc _ (ninc (cne ho hb (by simp)) (ninc (cne ho hbb (by simp)) nin0))).trans ho
  have ho1 := (fmc _ (ninc (cne ho1 hb (by simp)) (ninc (cne ho1 hbb (by simp)) nin0))).trans ho1
  have ho2 := (fmc _ (ninc (cne ho2 hb (by simp)) (ninc (cne ho2 hbb (by simp)) nin0))).trans ho2
  have ho3 := (fmc _ (ninc (cne ho3 hb (by simp)) (ninc (cne ho3 hbb (by simp)) nin0))).trans ho3
  have ho4 := (fmc _ (ninc (cne ho4 hb (by simp)) (ninc (cne ho4 hbb (by simp)) nin0))).trans ho4
  have hb := gb
  have hbb := gbb
  have fm := fm.call (by simp) fmc
  refine ev_aload_n d_Wr_addBlock_69 rfl rfl ?_
  refine ev_get d_Wr_addBlock_70 fl_Wr_9 hw rfl ?_
  refine ev_bipush (v := iZ 10) d_Wr_addBlock_73 rfl ?_
  refine ev_callV M_Bu_add (rm 0 0) _ (As := [.int (iZ 10)]) (c_Bu_app G h7 b bb F (L ++ oTime (K1 i) ++ [32] ++ [62] ++ [32] ++ oTime (K2 i) ++ [10] ++ txL K4 (i * 64) 10 (K3 i).toNat) (10) hb hbb (by first | omega | (simp only [List.length_append, List.length_cons, List.length_nil, dgL_l, txL_l, oTime_l, oFr_l, sixL_l]; omega))) d_Wr_addBlock_75 mk_Bu_add ml_Wr_76 mv_Bu_add hb rfl rfl rfl (Nat.le_of_ble_eq_true rfl) ⟨by decide, by decide⟩ ⟨by decide, by decide⟩ (fun r h8 hq => ?_)
  obtain ⟨rfl, gb, gbb, fmc⟩ := hq
  have hw := (fmc _ (ninc (cne hw hb (by simp)) (ninc (cne hw hbb (by simp)) nin0))).trans hw
  have ho := (fmc _ (ninc (cne ho hb (by simp)) (ninc (cne ho hbb (by simp)) nin0))).trans ho
  have ho1 := (fmc _ (ninc (cne ho1 hb (by simp)) (ninc (cne ho1 hbb (by simp)) nin0))).trans ho1
  have ho2 := (fmc _ (ninc (cne ho2 hb (by simp)) (ninc (cne ho2 hbb (by simp)) nin0))).trans ho2
  have ho3 := (fmc _ (ninc (cne ho3 hb (by simp)) (ninc (cne ho3 hbb (by simp)) nin0))).trans ho3
  have ho4 := (fmc _ (ninc (cne ho4 hb (by simp)) (ninc (cne ho4 hbb (by simp)) nin0))).trans ho4
  have hb := gb
  have hbb := gbb
  have fm := fm.call (by simp) fmc
  refine ev_aload_n d_Wr_addBlock_78 rfl rfl ?_
  refine ev_get d_Wr_addBlock_79 fl_Wr_9 hw rfl ?_
  refine ev_bipush (v := iZ 10) d_Wr_addBlock_82 rfl ?_
  refine ev_callV M_Bu_add (rm 0 0) _ (As := [.int (iZ 10)]) (c_Bu_app G h8 b bb F (L ++ oTime (K1 i) ++ [32] ++ [62] ++ [32] ++ oTime (K2 i) ++ [10] ++ txL K4 (i * 64) 10 (K3 i).toNat ++ [10]) (10) hb hbb (by first | omega | (simp only [List.length_append, List.length_cons, List.length_nil, dgL_l, txL_l, oTime_l, oFr_l, sixL_l]; omega))) d_Wr_addBlock_84 mk_Bu_add ml_Wr_76 mv_Bu_add hb rfl rfl rfl (Nat.le_of_ble_eq_true rfl) ⟨by decide, by decide⟩ ⟨by decide, by decide⟩ (fun r h9 hq => ?_)
  obtain ⟨rfl, gb, gbb, fmc⟩ := hq
  have hw := (fmc _ (ninc (cne hw hb (by simp)) (ninc (cne hw hbb (by simp)) nin0))).trans hw
  have ho := (fmc _ (ninc (cne ho hb (by simp)) (ninc (cne ho hbb (by simp)) nin0))).trans ho
  have ho1 := (fmc _ (ninc (cne ho1 hb (by simp)) (ninc (cne ho1 hbb (by simp)) nin0))).trans ho1
  have ho2 := (fmc _ (ninc (cne ho2 hb (by simp)) (ninc (cne ho2 hbb (by simp)) nin0))).trans ho2
  have ho3 := (fmc _ (ninc (cne ho3 hb (by simp)) (ninc (cne ho3 hbb (by simp)) nin0))).trans ho3
  have ho4 := (fmc _ (ninc (cne ho4 hb (by simp)) (ninc (cne ho4 hbb (by simp)) nin0))).trans ho4
  have hb := gb
  have hbb := gbb
  have fm := fm.call (by simp) fmc
  have e9 : L ++ oTime (K1 i) ++ [32] ++ [62] ++ [32] ++ oTime (K2 i) ++ [10] ++ txL K4 (i * 64) 10 (K3 i).toNat ++ [10] ++ [10] = L ++ (oBlk K1 K2 K3 K4 i) := by unfold oBlk; simp only [List.append_assoc]
  exact ev_return d_Wr_addBlock_87 rfl (by decide) (by decide) (⟨rfl, by rw [← e9]; exact hb, by rw [← e9]; exact hbb, fm⟩)
set_option maxHeartbeats 4000000 in
set_option maxRecDepth 100000 in
theorem c_Wr_addFrames (G : GT) (h : HM) (xw xf xo : Nat) (b bb : Nat) (F : Nat → Int) (L : List Int) (o1 o2 o3 o4 n : Nat) (K1 K2 K3 K4 : Nat → Int) (num den tk : Int) (i : Nat) (hw : h xw = some (.inr (4, [.ref b, .ref xf, .ref xo]))) (hf : h xf = some (.inr (5, [.int (iZ num), .int (iZ den), .long (lZ tk)]))) (ho : h xo = some (.inr (2, [.ref o1, .ref o2, .ref o3, .ref o4, .int (iZ (n : Int))]))) (ho1 : h o1 = some (.inl (G_j G, 16, .inr (.inl (lA K1))))) (ho2 : h o2 = some (.inl (G_j G, 16, .inr (.inl (lA K2))))) (ho3 : h o3 = some (.inl (G_i G, 16, .inl (iA K3)))) (ho4 : h o4 = some (.inl (G_i G, 1024, .inl (iA K4)))) (hb : h b = some (.inr (1, [.ref bb, .int (iZ ((L).length : Int))]))) (hbb : h bb = some (.inl (G_i G, 1000, .inl (iA (pL F (L)))))) (htk : 11760000 ≤ tk ∧ tk ≤ 705600000) (hT : ∀ k, 0 ≤ K1 k ∧ K1 k ≤ 2540160000000) (hE : ∀ k, 0 ≤ K2 k ∧ K2 k ≤ 2540160000000) (hZ : ∀ k, 0 ≤ K3 k ∧ K3 k ≤ 64) (hB : ∀ k, 0 ≤ K4 k ∧ K4 k ≤ 255) (hi : i < 16) (hlen : L.length + (5 + ndg (nearZ (K1 i) tk) + ndg (nearZ (K2 i) tk) + (K3 i).toNat) ≤ 1000) : Rn G M_Wr_addFrames (rm 4 120) [.ref xw, .int (iZ (i : Int))] h (fun r h' => r = none ∧ h' b = some (.inr (1, [.ref bb, .int (iZ ((L ++ (oFra tk K1 K2 K3 K4 i)).length : Int))])) ∧ h' bb = some (.inl (G_i G, 1000, .inl (iA (pL F (L ++ (oFra tk K1 K2 K3 K4 i)))))) ∧ Fm [b, bb] h h') := by
  refine rn_of (by decide) (Nat.le_of_ble_eq_true rfl) ?_
  show Ev G M_Wr_addFrames _ _ 0 [(0, .ref xw), (1, .int (iZ (i : Int)))] [] _ 0 0
  have fm : Fm [b, bb] h h := Fm.rf
  have t0 := hT i
  have e0 := hE i
  have z0 := hZ i
  have rn1 := ndg_r (nearZ (K1 i) tk)
  have rn2 := ndg_r (nearZ (K2 i) tk)
  refine ev_aload_n d_Wr_addFrames_0 rfl rfl ?_
  refine ev_aload_n d_Wr_addFrames_1 rfl rfl ?_
  refine ev_get d_Wr_addFrames_2 fl_Wr_19 hw rfl ?_
  refine ev_get d_Wr_addFrames_5 fl_Wr_37 ho rfl ?_
  refine ev_iload_n d_Wr_addFrames_8 rfl rfl ?_
  refine ez_laload i d_Wr_addFrames_9 ho1 (by omega) (by omega) (by decide) ?_
  refine ev_callV M_Wr_addFrame (rm 3 90) _ (As := [.long (lZ (K1 i))]) (c_Wr_addFrame G h xw xf xo b bb F (L) num den tk (K1 i) hw hf hb hbb htk (by omega) (by first | omega | (simp only [List.length_append, List.length_cons, List.length_nil, dgL_l, txL_l, oTime_l, oFr_l, sixL_l]; omega))) d_Wr_addFrames_10 mk_Wr_addFrame ml_Wr_94 mv_Wr_addFrame hw rfl rfl rfl (Nat.le_of_ble_eq_true rfl) ⟨by decide, by decide⟩ ⟨by decide, by decide⟩ (fun r h1 hq => ?_)
  obtain ⟨rfl, gb, gbb, fmc⟩ := hq
  have hw := (fmc _ (ninc (cne hw hb (by simp)) (ninc (cne hw hbb (by simp)) nin0))).trans hw
  have hf := (fmc _ (ninc (cne hf hb (by simp)) (ninc (cne hf hbb (by simp)) nin0))).trans hf
  have ho := (fmc _ (ninc (cne ho hb (by simp)) (ninc (cne ho hbb (by simp)) nin0))).trans ho
  have ho1 := (fmc _ (ninc (cne ho1 hb (by simp)) (ninc (cne ho1 hbb (by simp)) nin0))).trans ho1
  have ho2 := (fmc _ (ninc (cne ho2 hb (by simp)) (ninc (cne ho2 hbb (by simp)) nin0))).trans ho2
  have ho3 := (fmc _ (ninc (cne ho3 hb (by simp)) (ninc (cne ho3 hbb (by simp)) nin0))).trans ho3
  have ho4 := (fmc _ (ninc (cne ho4 hb (by simp)) (ninc (cne ho4 hbb (by simp)) nin0))).trans ho4
  have hb := gb
  have hbb := gbb
  have fm := fm.call (by simp) fmc
  refine ev_aload_n d_Wr_addFrames_13 rfl rfl ?_
  refine ev_aload_n d_Wr_addFrames_14 rfl rfl ?_
  refine ev_get d_Wr_addFrames_15 fl_Wr_19 hw rfl ?_
  refine ev_get d_Wr_addFrames_18 fl_Wr_51 ho rfl ?_
  refine ev_iload_n d_Wr_addFrames_21 rfl rfl ?_
  refine ez_laload i d_Wr_addFrames_22 ho2 (by omega) (by omega) (by decide) ?_
  refine ev_callV M_Wr_addFrame (rm 3 90) _ (As := [.long (lZ (K2 i))]) (c_Wr_addFrame G h1 xw xf xo b bb F (L ++ oFr tk (K1 i)) num den tk (K2 i) hw hf hb hbb htk (by omega) (by first | omega | (simp only [List.length_append, List.length_cons, List.length_nil, dgL_l, txL_l, oTime_l, oFr_l, sixL_l]; omega))) d_Wr_addFrames_23 mk_Wr_addFrame ml_Wr_94 mv_Wr_addFrame hw rfl rfl rfl (Nat.le_of_ble_eq_true rfl) ⟨by decide, by decide⟩ ⟨by decide, by decide⟩ (fun r h2 hq => ?_)
  obtain ⟨rfl, gb, gbb, fmc⟩ := hq
  have hw := (fmc _ (ninc (cne hw hb (by simp)) (ninc (cne hw hbb (by simp)) nin0))).trans hw
  have hf := (fmc _ (ninc (cne hf hb (by simp)) (ninc (cne hf hbb (by simp)) nin0))).trans hf
  have ho := (fmc _ (ninc (cne ho hb (by simp)) (ninc (cne ho hbb (by simp)) nin0))).trans ho
  have ho1 := (fmc _ (ninc (cne ho1 hb (by simp)) (ninc (cne ho1 hbb (by simp)) nin0))).trans ho1
  have ho2 := (fmc _ (ninc (cne ho2 hb (by simp)) (ninc (cne ho2 hbb (by simp)) nin0))).trans ho2
  have ho3 := (fmc _ (ninc (cne ho3 hb (by simp)) (ninc (cne ho3 hbb (by simp)) nin0))).trans ho3
  have ho4 := (fmc _ (ninc (cne ho4 hb (by simp)) (ninc (cne ho4 hbb (by simp)) nin0))).trans ho4
  have hb := gb
  have hbb := gbb
  have fm := fm.call (by simp) fmc
  refine ev_aload_n d_Wr_addFrames_26 rfl rfl ?_
  refine ev_iload_n d_Wr_addFrames_27 rfl rfl ?_
  refine ev_bipush (v := iZ 124) d_Wr_addFrames_28 rfl ?_
  refine ev_callV M_Wr_addText (rm 1 22) _ (As := [.int (iZ (i : Int)), .int (iZ 124)]) (c_Wr_addText G h2 xw xf xo b bb F (L ++ oFr tk (K1 i) ++ oFr tk (K2 i)) o1 o2 o3 o4 n K3 K4 i 124 hw ho ho3 ho4 hb hbb hi (hZ i) hB (by first | omega | (simp only [List.length_append, List.length_cons, List.length_nil, dgL_l, txL_l, oTime_l, oFr_l, sixL_l]; omega))) d_Wr_addFrames_30 mk_Wr_addText ml_Wr_79 mv_Wr_addText hw rfl rfl rfl (Nat.le_of_ble_eq_true rfl) ⟨by decide, by decide⟩ ⟨by decide, by decide⟩ (fun r h3 hq => ?_)
  obtain ⟨rfl, gb, gbb, fmc⟩ := hq
  have hw := (fmc _ (ninc (cne hw hb (by simp)) (ninc (cne hw hbb (by simp)) nin0))).trans hw
  have hf := (fmc _ (ninc (cne hf hb (by simp)) (ninc (cne hf hbb (by simp)) nin0))).trans hf
  have ho := (fmc _ (ninc (cne ho hb (by simp)) (ninc (cne ho hbb (by simp)) nin0))).trans ho
  have ho1 := (fmc _ (ninc (cne ho1 hb (by simp)) (ninc (cne ho1 hbb (by simp)) nin0))).trans ho1
  have ho2 := (fmc _ (ninc (cne ho2 hb (by simp)) (ninc (cne ho2 hbb (by simp)) nin0))).trans ho2
  have ho3 := (fmc _ (ninc (cne ho3 hb (by simp)) (ninc (cne ho3 hbb (by simp)) nin0))).trans ho3
  have ho4 := (fmc _ (ninc (cne ho4 hb (by simp)) (ninc (cne ho4 hbb (by simp)) nin0))).trans ho4
  have hb := gb
  have hbb := gbb
  have fm := fm.call (by simp) fmc
  refine ev_aload_n d_Wr_addFrames_33 rfl rfl ?_
  refine ev_get d_Wr_addFrames_34 fl_Wr_9 hw rfl ?_
  refine ev_bipush (v := iZ 10) d_Wr_addFrames_37 rfl ?_
  refine ev_callV M_Bu_add (rm 0 0) _ (As := [.int (iZ 10)]) (c_Bu_app G h3 b bb F (L ++ oFr tk (K1 i) ++ oFr tk (K2 i) ++ txL K4 (i * 64) 124 (K3 i).toNat) (10) hb hbb (by first | omega | (simp only [List.length_append, List.length_cons, List.length_nil, dgL_l, txL_l, oTime_l, oFr_l, sixL_l]; omega))) d_Wr_addFrames_39 mk_Bu_add ml_Wr_76 mv_Bu_add hb rfl rfl rfl (Nat.le_of_ble_eq_true rfl) ⟨by decide, by decide⟩ ⟨by decide, by decide⟩ (fun r h4 hq => ?_)
  obtain ⟨rfl, gb, gbb, fmc⟩ := hq
  have hw := (fmc _ (ninc (cne hw hb (by simp)) (ninc (cne hw hbb (by simp)) nin0))).trans hw
  have hf := (fmc _ (ninc (cne hf hb (by simp)) (ninc (cne hf hbb (by simp)) nin0))).trans hf
  have ho := (fmc _ (ninc (cne ho hb (by simp)) (ninc (cne ho hbb (by simp)) nin0))).trans ho
  have ho1 := (fmc _ (ninc (cne ho1 hb (by simp)) (ninc (cne ho1 hbb (by simp)) nin0))).trans ho1
  have ho2 := (fmc _ (ninc (cne ho2 hb (by simp)) (ninc (cne ho2 hbb (by simp)) nin0))).trans ho2
  have ho3 := (fmc _ (ninc (cne ho3 hb (by simp)) (ninc (cne ho3 hbb (by simp)) nin0))).trans ho3
  have ho4 := (fmc _ (ninc (cne ho4 hb (by simp)) (ninc (cne ho4 hbb (by simp)) nin0))).trans ho4
  have hb := gb
  have hbb := gbb
  have fm := fm.call (by simp) fmc
  have e9 : L ++ oFr tk (K1 i) ++ oFr tk (K2 i) ++ txL K4 (i * 64) 124 (K3 i).toNat ++ [10] = L ++ (oFra tk K1 K2 K3 K4 i) := by unfold oFra; simp only [List.append_assoc]
  exact ev_return d_Wr_addFrames_42 rfl (by decide) (by decide) (⟨rfl, by rw [← e9]; exact hb, by rw [← e9]; exact hbb, fm⟩)
set_option maxHeartbeats 4000000 in
set_option maxRecDepth 100000 in
theorem c_Wr_addPacked (G : GT) (h : HM) (xw xf xo : Nat) (b bb : Nat) (F : Nat → Int) (L : List Int) (o1 o2 o3 o4 n : Nat) (K1 K2 K3 K4 : Nat → Int) (i : Nat) (hw : h xw = some (.inr (4, [.ref b, .ref xf, .ref xo]))) (ho : h xo = some (.inr (2, [.ref o1, .ref o2, .ref o3, .ref o4, .int (iZ (n : Int))]))) (ho1 : h o1 = some (.inl (G_j G, 16, .inr (.inl (lA K1))))) (ho2 : h o2 = some (.inl (G_j G, 16, .inr (.inl (lA K2))))) (ho3 : h o3 = some (.inl (G_i G, 16, .inl (iA K3)))) (ho4 : h o4 = some (.inl (G_i G, 1024, .inl (iA K4)))) (hb : h b = some (.inr (1, [.ref bb, .int (iZ ((L).length : Int))]))) (hbb : h bb = some (.inl (G_i G, 1000, .inl (iA (pL F (L)))))) (hT : ∀ k, 0 ≤ K1 k ∧ K1 k ≤ 2540160000000) (hE : ∀ k, 0 ≤ K2 k ∧ K2 k ≤ 2540160000000) (hZ : ∀ k, 0 ≤ K3 k ∧ K3 k ≤ 64) (hB : ∀ k, 0 ≤ K4 k ∧ K4 k ≤ 255) (hi : i < 16) (hlen : L.length + (13 + (K3 i).toNat) ≤ 1000) : Rn G M_Wr_addPacked (rm 2 60) [.ref xw, .int (iZ (i : Int))] h (fun r h' => r = none ∧ h' b = some (.inr (1, [.ref bb, .int (iZ ((L ++ (oPac K1 K2 K3 K4 i)).length : Int))])) ∧ h' bb = some (.inl (G_i G, 1000, .inl (iA (pL F (L ++ (oPac K1 K2 K3 K4 i)))))) ∧ Fm [b, bb] h h') := by
  refine rn_of (by decide) (Nat.le_of_ble_eq_true rfl) ?_
  show Ev G M_Wr_addPacked _ _ 0 [(0, .ref xw), (1, .int (iZ (i : Int)))] [] _ 0 0
  have fm : Fm [b, bb] h h := Fm.rf
  have t0 := hT i
  have e0 := hE i
  have z0 := hZ i
  refine ev_aload_n d_Wr_addPacked_0 rfl rfl ?_
  refine ev_aload_n d_Wr_addPacked_1 rfl rfl ?_
  refine ev_get d_Wr_addPacked_2 fl_Wr_19 hw rfl ?_
  refine ev_get d_Wr_addPacked_5 fl_Wr_37 ho rfl ?_
  refine ev_iload_n d_Wr_addPacked_8 rfl rfl ?_
  refine ez_laload i d_Wr_addPacked_9 ho1 (by omega) (by omega) (by decide) ?_
  refine ev_callV M_Wr_addSixBytes (rm 1 22) _ (As := [.long (lZ (K1 i))]) (c_Wr_addSix G h xw xf xo b bb F (L) (K1 i) hw hb hbb (by first | omega | (simp only [List.length_append, List.length_cons, List.length_nil, dgL_l, txL_l, oTime_l, oFr_l, sixL_l]; omega))) d_Wr_addPacked_10 mk_Wr_addSixBytes ml_Wr_97 mv_Wr_addSixBytes hw rfl rfl rfl (Nat.le_of_ble_eq_true rfl) ⟨by decide, by decide⟩ ⟨by decide, by decide⟩ (fun r h1 hq => ?_)
  obtain ⟨rfl, gb, gbb, fmc⟩ := hq
  have hw := (fmc _ (ninc (cne hw hb (by simp)) (ninc (cne hw hbb (by simp)) nin0))).trans hw
  have ho := (fmc _ (ninc (cne ho hb (by simp)) (ninc (cne ho hbb (by simp)) nin0))).trans ho
  have ho1 := (fmc _ (ninc (cne ho1 hb (by simp)) (ninc (cne ho1 hbb (by simp)) nin0))).trans ho1
  have ho2 := (fmc _ (ninc (cne ho2 hb (by simp)) (ninc (cne ho2 hbb (by simp)) nin0))).trans ho2
  have ho3 := (fmc _ (ninc (cne ho3 hb (by simp)) (ninc (cne ho3 hbb (by simp)) nin0))).trans ho3
  have ho4 := (fmc _ (ninc (cne ho4 hb (by simp)) (ninc (cne ho4 hbb (by simp)) nin0))).trans ho4
  have hb := gb
  have hbb := gbb
  have fm := fm.call (by simp) fmc
  refine ev_aload_n d_Wr_addPacked_13 rfl rfl ?_
  refine ev_aload_n d_Wr_addPacked_14 rfl rfl ?_
  refine ev_get d_Wr_addPacked_15 fl_Wr_19 hw rfl ?_
  refine ev_get d_Wr_addPacked_18 fl_Wr_51 ho rfl ?_
  refine ev_iload_n d_Wr_addPacked_21 rfl rfl ?_
  refine ez_laload i d_Wr_addPacked_22 ho2 (by omega) (by omega) (by decide) ?_
  refine ev_callV M_Wr_addSixBytes (rm 1 22) _ (As := [.long (lZ (K2 i))]) (c_Wr_addSix G h1 xw xf xo b bb F (L ++ sixL (K1 i) 6) (K2 i) hw hb hbb (by first | omega | (simp only [List.length_append, List.length_cons, List.length_nil, dgL_l, txL_l, oTime_l, oFr_l, sixL_l]; omega))) d_Wr_addPacked_23 mk_Wr_addSixBytes ml_Wr_97 mv_Wr_addSixBytes hw rfl rfl rfl (Nat.le_of_ble_eq_true rfl) ⟨by decide, by decide⟩ ⟨by decide, by decide⟩ (fun r h2 hq => ?_)
  obtain ⟨rfl, gb, gbb, fmc⟩ := hq
  have hw := (fmc _ (ninc (cne hw hb (by simp)) (ninc (cne hw hbb (by simp)) nin0))).trans hw
  have ho := (fmc _ (ninc (cne ho hb (by simp)) (ninc (cne ho hbb (by simp)) nin0))).trans ho
  have ho1 := (fmc _ (ninc (cne ho1 hb (by simp)) (ninc (cne ho1 hbb (by simp)) nin0))).trans ho1
  have ho2 := (fmc _ (ninc (cne ho2 hb (by simp)) (ninc (cne ho2 hbb (by simp)) nin0))).trans ho2
  have ho3 := (fmc _ (ninc (cne ho3 hb (by simp)) (ninc (cne ho3 hbb (by simp)) nin0))).trans ho3
  have ho4 := (fmc _ (ninc (cne ho4 hb (by simp)) (ninc (cne ho4 hbb (by simp)) nin0))).trans ho4
  have hb := gb
  have hbb := gbb
  have fm := fm.call (by simp) fmc
  refine ev_aload_n d_Wr_addPacked_26 rfl rfl ?_
  refine ev_get d_Wr_addPacked_27 fl_Wr_9 hw rfl ?_
  refine ev_aload_n d_Wr_addPacked_30 rfl rfl ?_
  refine ev_get d_Wr_addPacked_31 fl_Wr_19 hw rfl ?_
  refine ev_get d_Wr_addPacked_34 fl_Wr_33 ho rfl ?_
  refine ev_iload_n d_Wr_addPacked_37 rfl rfl ?_
  refine ez_iaload i d_Wr_addPacked_38 ho3 (by omega) (by omega) (by decide) ?_
  refine ev_callV M_Bu_add (rm 0 0) _ (As := [.int (iZ (K3 i))]) (c_Bu_app G h2 b bb F (L ++ sixL (K1 i) 6 ++ sixL (K2 i) 6) (K3 i) hb hbb (by first | omega | (simp only [List.length_append, List.length_cons, List.length_nil, dgL_l, txL_l, oTime_l, oFr_l, sixL_l]; omega))) d_Wr_addPacked_39 mk_Bu_add ml_Wr_76 mv_Bu_add hb rfl rfl rfl (Nat.le_of_ble_eq_true rfl) ⟨by decide, by decide⟩ ⟨by decide, by decide⟩ (fun r h3 hq => ?_)
  obtain ⟨rfl, gb, gbb, fmc⟩ := hq
  have hw := (fmc _ (ninc (cne hw hb (by simp)) (ninc (cne hw hbb (by simp)) nin0))).trans hw
  have ho := (fmc _ (ninc (cne ho hb (by simp)) (ninc (cne ho hbb (by simp)) nin0))).trans ho
  have ho1 := (fmc _ (ninc (cne ho1 hb (by simp)) (ninc (cne ho1 hbb (by simp)) nin0))).trans ho1
  have ho2 := (fmc _ (ninc (cne ho2 hb (by simp)) (ninc (cne ho2 hbb (by simp)) nin0))).trans ho2
  have ho3 := (fmc _ (ninc (cne ho3 hb (by simp)) (ninc (cne ho3 hbb (by simp)) nin0))).trans ho3
  have ho4 := (fmc _ (ninc (cne ho4 hb (by simp)) (ninc (cne ho4 hbb (by simp)) nin0))).trans ho4
  have hb := gb
  have hbb := gbb
  have fm := fm.call (by simp) fmc
  refine ev_aload_n d_Wr_addPacked_42 rfl rfl ?_
  refine ev_iload_n d_Wr_addPacked_43 rfl rfl ?_
  refine ev_bipush (v := iZ 10) d_Wr_addPacked_44 rfl ?_
  refine ev_callV M_Wr_addText (rm 1 22) _ (As := [.int (iZ (i : Int)), .int (iZ 10)]) (c_Wr_addText G h3 xw xf xo b bb F (L ++ sixL (K1 i) 6 ++ sixL (K2 i) 6 ++ [K3 i]) o1 o2 o3 o4 n K3 K4 i 10 hw ho ho3 ho4 hb hbb hi (hZ i) hB (by first | omega | (simp only [List.length_append, List.length_cons, List.length_nil, dgL_l, txL_l, oTime_l, oFr_l, sixL_l]; omega))) d_Wr_addPacked_46 mk_Wr_addText ml_Wr_79 mv_Wr_addText hw rfl rfl rfl (Nat.le_of_ble_eq_true rfl) ⟨by decide, by decide⟩ ⟨by decide, by decide⟩ (fun r h4 hq => ?_)
  obtain ⟨rfl, gb, gbb, fmc⟩ := hq
  have hw := (fmc _ (ninc (cne hw hb (by simp)) (ninc (cne hw hbb (by simp)) nin0))).trans hw
  have ho := (fmc _ (ninc (cne ho hb (by simp)) (ninc (cne ho hbb (by simp)) nin0))).trans ho
  have ho1 := (fmc _ (ninc (cne ho1 hb (by simp)) (ninc (cne ho1 hbb (by simp)) nin0))).trans ho1
  have ho2 := (fmc _ (ninc (cne ho2 hb (by simp)) (ninc (cne ho2 hbb (by simp)) nin0))).trans ho2
  have ho3 := (fmc _ (ninc (cne ho3 hb (by simp)) (ninc (cne ho3 hbb (by simp)) nin0))).trans ho3
  have ho4 := (fmc _ (ninc (cne ho4 hb (by simp)) (ninc (cne ho4 hbb (by simp)) nin0))).trans ho4
  have hb := gb
  have hbb := gbb
  have fm := fm.call (by simp) fmc
  have e9 : L ++ sixL (K1 i) 6 ++ sixL (K2 i) 6 ++ [K3 i] ++ txL K4 (i * 64) 10 (K3 i).toNat = L ++ (oPac K1 K2 K3 K4 i) := by unfold oPac; simp only [List.append_assoc]
  exact ev_return d_Wr_addPacked_49 rfl (by decide) (by decide) (⟨rfl, by rw [← e9]; exact hb, by rw [← e9]; exact hbb, fm⟩)
set_option maxHeartbeats 4000000 in
set_option maxRecDepth 100000 in
theorem lp_Wr_fill (G : GT) (h0 : HM) (xw xf xo b bb : Nat) (F : Nat → Int) (o1 o2 o3 o4 n : Nat) (K1 K2 K3 K4 : Nat → Int) (num den tk : Int) (f : Int) (htk : 11760000 ≤ tk ∧ tk ≤ 705600000) (hT : ∀ k, 0 ≤ K1 k ∧ K1 k ≤ 2540160000000) (hE : ∀ k, 0 ≤ K2 k ∧ K2 k ≤ 2540160000000) (hZ : ∀ k, 0 ≤ K3 k ∧ K3 k ≤ 64) (hB : ∀ k, 0 ≤ K4 k ∧ K4 k ≤ 255) (hn : n ≤ 16) (hfo : f = 0 ∨ f = 1 ∨ f = 2) (hln0 : (outs f tk K1 K2 K3 K4 n).length ≤ 1000) : ∀ (d : Nat) (i : Nat) (h : HM), i + d = n → h xw = some (.inr (4, [.ref b, .ref xf, .ref xo])) → h xf = some (.inr (5, [.int (iZ num), .int (iZ den), .long (lZ tk)])) → h xo = some (.inr (2, [.ref o1, .ref o2, .ref o3, .ref o4, .int (iZ (n : Int))])) → h o1 = some (.inl (G_j G, 16, .inr (.inl (lA K1)))) → h o2 = some (.inl (G_j G, 16, .inr (.inl (lA K2)))) → h o3 = some (.inl (G_i G, 16, .inl (iA K3))) → h o4 = some (.inl (G_i G, 1024, .inl (iA K4))) → h b = some (.inr (1, [.ref bb, .int (iZ (((outs f tk K1 K2 K3 K4 i)).length : Int))])) → h bb = some (.inl (G_i G, 1000, .inl (iA (pL F ((outs f tk K1 K2 K3 K4 i)))))) → Fm [b, bb] h0 h → Ev G M_Wr_fill (rm 5 150) (fun r h' => r = none ∧ h' b = some (.inr (1, [.ref bb, .int (iZ ((outs f tk K1 K2 K3 K4 n).length : Int))])) ∧ h' bb = some (.inl (G_i G, 1000, .inl (iA (pL F (outs f tk K1 K2 K3 K4 n))))) ∧ Fm [b, bb] h0 h') 10 [(0, .ref xw), (1, .int (iZ f)), (2, .int (iZ (i : Int)))] [] h 0 0 := by
  intro d
  induction d using Nat.strongRecOn with
  | ind d ih =>
  intro i h hd hw hf ho ho1 ho2 ho3 ho4 hb hbb fm
  refine ev_iload_n d_Wr_fill_10 rfl rfl ?_
  refine ev_aload_n d_Wr_fill_11 rfl rfl ?_
  refine ev_get d_Wr_fill_12 fl_Wr_19 hw rfl ?_
  refine ev_get d_Wr_fill_15 fl_Wr_23 ho rfl ?_
  refine ez_icmp_ge (tgt := 57) (by omega) (by omega) d_Wr_fill_18 rfl (fun c18 => ?_) (fun c18 => ?_)
  · exact ev_return d_Wr_fill_57 rfl (by decide) (by decide) (⟨rfl, by rw [show n = i by omega]; exact hb, by rw [show n = i by omega]; exact hbb, fm⟩)
  · have hln : (outs f tk K1 K2 K3 K4 (i + 1)).length ≤ (outs f tk K1 K2 K3 K4 n).length := by have := outs_mono (f := f) (tk := tk) (K1 := K1) (K2 := K2) (K3 := K3) (K4 := K4) (a := i + 1) (n - (i + 1)); rw [show i + 1 + (n - (i + 1)) = n by omega] at this; exact this
    rw [outs, List.length_append, oCue_l hfo] at hln
    refine ev_iload_n d_Wr_fill_21 rfl rfl ?_
    refine ez_if_ne (tgt := 33) (by omega) d_Wr_fill_22 rfl (fun c22 => ?_) (fun c22 => ?_)
    · refine ev_iload_n d_Wr_fill_33 rfl rfl ?_
      refine ev_iconst (v := iZ 1) d_Wr_fill_34 rfl ?_
      refine ez_icmp_ne (tgt := 46) (by omega) (by decide) d_Wr_fill_35 rfl (fun c35 => ?_) (fun c35 => ?_)
      · refine ev_aload_n d_Wr_fill_46 rfl rfl ?_
        refine ev_iload_n d_Wr_fill_47 rfl rfl ?_
        have hlt : lenT f tk K1 K2 i = 13 := (if_neg (by omega)).trans (if_pos (by omega))
        refine ev_callV M_Wr_addPacked (rm 2 60) _ (As := [.int (iZ (i : Int))]) (c_Wr_addPacked G h xw xf xo b bb F ((outs f tk K1 K2 K3 K4 i)) o1 o2 o3 o4 n K1 K2 K3 K4 i hw ho ho1 ho2 ho3 ho4 hb hbb hT hE hZ hB (by omega) (by omega)) d_Wr_fill_48 mk_Wr_addPacked ml_Wr_69 mv_Wr_addPacked hw rfl rfl rfl (Nat.le_of_ble_eq_true rfl) ⟨by decide, by decide⟩ ⟨by decide, by decide⟩ (fun r h1 hq => ?_)
        obtain ⟨rfl, gb, gbb, fmc⟩ := hq
        have hw := (fmc _ (ninc (cne hw hb (by simp)) (ninc (cne hw hbb (by simp)) nin0))).trans hw
        have hf := (fmc _ (ninc (cne hf hb (by simp)) (ninc (cne hf hbb (by simp)) nin0))).trans hf
        have ho := (fmc _ (ninc (cne ho hb (by simp)) (ninc (cne ho hbb (by simp)) nin0))).trans ho
        have ho1 := (fmc _ (ninc (cne ho1 hb (by simp)) (ninc (cne ho1 hbb (by simp)) nin0))).trans ho1
        have ho2 := (fmc _ (ninc (cne ho2 hb (by simp)) (ninc (cne ho2 hbb (by simp)) nin0))).trans ho2
        have ho3 := (fmc _ (ninc (cne ho3 hb (by simp)) (ninc (cne ho3 hbb (by simp)) nin0))).trans ho3
        have ho4 := (fmc _ (ninc (cne ho4 hb (by simp)) (ninc (cne ho4 hbb (by simp)) nin0))).trans ho4
        have hb := gb
        have hbb := gbb
        have fm := fm.call (by simp) fmc
        have e9 : (outs f tk K1 K2 K3 K4 i) ++ (oPac K1 K2 K3 K4 i) = (outs f tk K1 K2 K3 K4 (i + 1)) := by rw [outs, oCue, if_neg (by omega), if_neg (by omega)]
        refine ez_iinc (L' := [(0, .ref xw), (1, .int (iZ f)), (2, .int (iZ ((i + 1 : Nat) : Int)))]) d_Wr_fill_51 rfl (by decide) rfl ?_
        refine ev_goto (tgt := 10) d_Wr_fill_54 rfl ?_
        exact ih (d - 1) (by omega) (i + 1) h1 (by omega) hw hf ho ho1 ho2 ho3 ho4 (by rw [← e9]; exact hb) (by rw [← e9]; exact hbb) fm
      · refine ev_aload_n d_Wr_fill_38 rfl rfl ?_
        refine ev_iload_n d_Wr_fill_39 rfl rfl ?_
        have hlt : lenT f tk K1 K2 i = 5 + ndg (nearZ (K1 i) tk) + ndg (nearZ (K2 i) tk) := (if_neg (by omega)).trans (if_neg (by omega))
        refine ev_callV M_Wr_addFrames (rm 4 120) _ (As := [.int (iZ (i : Int))]) (c_Wr_addFrames G h xw xf xo b bb F ((outs f tk K1 K2 K3 K4 i)) o1 o2 o3 o4 n K1 K2 K3 K4 num den tk i hw hf ho ho1 ho2 ho3 ho4 hb hbb htk hT hE hZ hB (by omega) (by omega)) d_Wr_fill_40 mk_Wr_addFrames ml_Wr_66 mv_Wr_addFrames hw rfl rfl rfl (Nat.le_of_ble_eq_true rfl) ⟨by decide, by decide⟩ ⟨by decide, by decide⟩ (fun r h2 hq => ?_)
        obtain ⟨rfl, gb, gbb, fmc⟩ := hq
        have hw := (fmc _ (ninc (cne hw hb (by simp)) (ninc (cne hw hbb (by simp)) nin0))).trans hw
        have hf := (fmc _ (ninc (cne hf hb (by simp)) (ninc (cne hf hbb (by simp)) nin0))).trans hf
        have ho := (fmc _ (ninc (cne ho hb (by simp)) (ninc (cne ho hbb (by simp)) nin0))).trans ho
        have ho1 := (fmc _ (ninc (cne ho1 hb (by simp)) (ninc (cne ho1 hbb (by simp)) nin0))).trans ho1
        have ho2 := (fmc _ (ninc (cne ho2 hb (by simp)) (ninc (cne ho2 hbb (by simp)) nin0))).trans ho2
        have ho3 := (fmc _ (ninc (cne ho3 hb (by simp)) (ninc (cne ho3 hbb (by simp)) nin0))).trans ho3
        have ho4 := (fmc _ (ninc (cne ho4 hb (by simp)) (ninc (cne ho4 hbb (by simp)) nin0))).trans ho4
        have hb := gb
        have hbb := gbb
        have fm := fm.call (by simp) fmc
        have e9 : (outs f tk K1 K2 K3 K4 i) ++ (oFra tk K1 K2 K3 K4 i) = (outs f tk K1 K2 K3 K4 (i + 1)) := by rw [outs, oCue, if_neg (by omega), if_pos (by omega)]
        refine ev_goto (tgt := 51) d_Wr_fill_43 rfl ?_
        refine ez_iinc (L' := [(0, .ref xw), (1, .int (iZ f)), (2, .int (iZ ((i + 1 : Nat) : Int)))]) d_Wr_fill_51 rfl (by decide) rfl ?_
        refine ev_goto (tgt := 10) d_Wr_fill_54 rfl ?_
        exact ih (d - 1) (by omega) (i + 1) h2 (by omega) hw hf ho ho1 ho2 ho3 ho4 (by rw [← e9]; exact hb) (by rw [← e9]; exact hbb) fm
    · refine ev_aload_n d_Wr_fill_25 rfl rfl ?_
      refine ev_iload_n d_Wr_fill_26 rfl rfl ?_
      have hlt : lenT f tk K1 K2 i = 30 := if_pos (by omega)
      refine ev_callV M_Wr_addBlock (rm 3 90) _ (As := [.int (iZ (i : Int))]) (c_Wr_addBlock G h xw xf xo b bb F ((outs f tk K1 K2 K3 K4 i)) o1 o2 o3 o4 n K1 K2 K3 K4 i hw ho ho1 ho2 ho3 ho4 hb hbb hT hE hZ hB (by omega) (by omega)) d_Wr_fill_27 mk_Wr_addBlock ml_Wr_62 mv_Wr_addBlock hw rfl rfl rfl (Nat.le_of_ble_eq_true rfl) ⟨by decide, by decide⟩ ⟨by decide, by decide⟩ (fun r h3 hq => ?_)
      obtain ⟨rfl, gb, gbb, fmc⟩ := hq
      have hw := (fmc _ (ninc (cne hw hb (by simp)) (ninc (cne hw hbb (by simp)) nin0))).trans hw
      have hf := (fmc _ (ninc (cne hf hb (by simp)) (ninc (cne hf hbb (by simp)) nin0))).trans hf
      have ho := (fmc _ (ninc (cne ho hb (by simp)) (ninc (cne ho hbb (by simp)) nin0))).trans ho
      have ho1 := (fmc _ (ninc (cne ho1 hb (by simp)) (ninc (cne ho1 hbb (by simp)) nin0))).trans ho1
      have ho2 := (fmc _ (ninc (cne ho2 hb (by simp)) (ninc (cne ho2 hbb (by simp)) nin0))).trans ho2
      have ho3 := (fmc _ (ninc (cne ho3 hb (by simp)) (ninc (cne ho3 hbb (by simp)) nin0))).trans ho3
      have ho4 := (fmc _ (ninc (cne ho4 hb (by simp)) (ninc (cne ho4 hbb (by simp)) nin0))).trans ho4
      have hb := gb
      have hbb := gbb
      have fm := fm.call (by simp) fmc
      have e9 : (outs f tk K1 K2 K3 K4 i) ++ (oBlk K1 K2 K3 K4 i) = (outs f tk K1 K2 K3 K4 (i + 1)) := by rw [outs, oCue, if_pos (by omega)]
      refine ev_goto (tgt := 51) d_Wr_fill_30 rfl ?_
      refine ez_iinc (L' := [(0, .ref xw), (1, .int (iZ f)), (2, .int (iZ ((i + 1 : Nat) : Int)))]) d_Wr_fill_51 rfl (by decide) rfl ?_
      refine ev_goto (tgt := 10) d_Wr_fill_54 rfl ?_
      exact ih (d - 1) (by omega) (i + 1) h3 (by omega) hw hf ho ho1 ho2 ho3 ho4 (by rw [← e9]; exact hb) (by rw [← e9]; exact hbb) fm
set_option maxHeartbeats 4000000 in
set_option maxRecDepth 100000 in
theorem c_Wr_fill (G : GT) (h : HM) (xw xf xo b bb : Nat) (F : Nat → Int) (o1 o2 o3 o4 n : Nat) (K1 K2 K3 K4 : Nat → Int) (num den tk : Int) (f : Int) (k0 : Int) (hw : h xw = some (.inr (4, [.ref b, .ref xf, .ref xo]))) (hf : h xf = some (.inr (5, [.int (iZ num), .int (iZ den), .long (lZ tk)]))) (ho : h xo = some (.inr (2, [.ref o1, .ref o2, .ref o3, .ref o4, .int (iZ (n : Int))]))) (ho1 : h o1 = some (.inl (G_j G, 16, .inr (.inl (lA K1))))) (ho2 : h o2 = some (.inl (G_j G, 16, .inr (.inl (lA K2))))) (ho3 : h o3 = some (.inl (G_i G, 16, .inl (iA K3)))) (ho4 : h o4 = some (.inl (G_i G, 1024, .inl (iA K4)))) (hb : h b = some (.inr (1, [.ref bb, .int (iZ k0)]))) (hbb : h bb = some (.inl (G_i G, 1000, .inl (iA F)))) (htk : 11760000 ≤ tk ∧ tk ≤ 705600000) (hT : ∀ k, 0 ≤ K1 k ∧ K1 k ≤ 2540160000000) (hE : ∀ k, 0 ≤ K2 k ∧ K2 k ≤ 2540160000000) (hZ : ∀ k, 0 ≤ K3 k ∧ K3 k ≤ 64) (hB : ∀ k, 0 ≤ K4 k ∧ K4 k ≤ 255) (hn : n ≤ 16) (hfo : f = 0 ∨ f = 1 ∨ f = 2) (hln0 : (outs f tk K1 K2 K3 K4 n).length ≤ 1000) : Rn G M_Wr_fill (rm 5 150) [.ref xw, .int (iZ f)] h (fun r h' => r = none ∧ h' b = some (.inr (1, [.ref bb, .int (iZ ((outs f tk K1 K2 K3 K4 n).length : Int))])) ∧ h' bb = some (.inl (G_i G, 1000, .inl (iA (pL F (outs f tk K1 K2 K3 K4 n))))) ∧ Fm [b, bb] h h') := by
  refine rn_of (by decide) (Nat.le_of_ble_eq_true rfl) ?_
  show Ev G M_Wr_fill _ _ 0 [(0, .ref xw), (1, .int (iZ f))] [] _ 0 0
  have fm : Fm [b, bb] h h := Fm.rf
  refine ev_aload_n d_Wr_fill_0 rfl rfl ?_
  refine ev_get d_Wr_fill_1 fl_Wr_9 hw rfl ?_
  refine ev_iconst (v := iZ 0) d_Wr_fill_4 rfl ?_
  refine ev_put2 (fs' := [.ref bb, .int (iZ 0)]) d_Wr_fill_5 fw_Wr_57 (Or.inr (fun _ _ _ q => by cases q; rfl)) hb (Nat.le_of_ble_eq_true rfl) rfl rfl rfl (fun h1 h1a h1o => ?_)
  have hw := (h1o _ (cne hw hb (by simp))).trans hw
  have hf := (h1o _ (cne hf hb (by simp))).trans hf
  have ho := (h1o _ (cne ho hb (by simp))).trans ho
  have ho1 := (h1o _ (cne ho1 hb (by simp))).trans ho1
  have ho2 := (h1o _ (cne ho2 hb (by simp))).trans ho2
  have ho3 := (h1o _ (cne ho3 hb (by simp))).trans ho3
  have ho4 := (h1o _ (cne ho4 hb (by simp))).trans ho4
  have hbb := (h1o _ (cne hbb hb (by simp))).trans hbb
  have hb := h1a
  have fm := fm.step (by simp) h1o
  refine ev_iconst (v := iZ 0) d_Wr_fill_8 rfl ?_
  refine ev_istore_n (L' := [(0, .ref xw), (1, .int (iZ f)), (2, .int (iZ 0))]) d_Wr_fill_9 rfl (by decide) rfl ?_
  exact lp_Wr_fill G h xw xf xo b bb F o1 o2 o3 o4 n K1 K2 K3 K4 num den tk f htk hT hE hZ hB hn hfo hln0 n 0 h1 (by omega) hw hf ho ho1 ho2 ho3 ho4 hb hbb fm
set_option maxHeartbeats 4000000 in
set_option maxRecDepth 100000 in
theorem c_CB_writeB (G : GT) (h : HM) (x : Nat) (f : Int) (hif : iR f) (hno : ¬ (f = 0 ∨ f = 1 ∨ f = 2)) : Rn G M_CB_write (rm 1 30) [.ref x, .int (iZ f)] h (Pu (.int (iZ (-2))) h) := by
  refine rn_of (by decide) (Nat.le_of_ble_eq_true rfl) ?_
  show Ev G M_CB_write _ _ 0 [(0, .ref x), (1, .int (iZ f))] [] _ 0 0
  refine ev_iload_n d_CB_write_0 rfl rfl ?_
  have hif := isF_r f
  refine ev_pS M_CB_isForm 0 0 (As := [.int (iZ f)]) (c_CB_isForm G h f (by omega)) d_CB_write_1 mk_CB_isForm ml_CB_96 ms_CB_isForm rfl rfl (Nat.le_of_ble_eq_true rfl) ⟨by decide, by decide⟩ ⟨by decide, by decide⟩ ?_
  refine ez_if_ne (tgt := 10) (by omega) d_CB_write_4 rfl (fun c4 => ?_) (fun c4 => ?_)
  · exact absurd (isF_1 c4) hno
  · refine ev_bipush (v := iZ (-2)) d_CB_write_7 rfl ?_
    exact ev_ireturn d_CB_write_9 rfl (by decide) (by decide) (⟨rfl, rfl⟩)
set_option maxHeartbeats 4000000 in
set_option maxRecDepth 100000 in
theorem c_CB_write (G : GT) (h : HM) (x b xf xu xo xp xe xw xl xr : Nat) (bb : Nat) (F : Nat → Int) (o1 o2 o3 o4 n : Nat) (K1 K2 K3 K4 : Nat → Int) (num den tk : Int) (f k0 : Int) (hx : h x = some (.inr (0, [.ref b, .ref xf, .ref xu, .ref xo, .ref xp, .ref xe, .ref xw, .ref xl, .ref xr]))) (hw : h xw = some (.inr (4, [.ref b, .ref xf, .ref xo]))) (hf : h xf = some (.inr (5, [.int (iZ num), .int (iZ den), .long (lZ tk)]))) (ho : h xo = some (.inr (2, [.ref o1, .ref o2, .ref o3, .ref o4, .int (iZ (n : Int))]))) (ho1 : h o1 = some (.inl (G_j G, 16, .inr (.inl (lA K1))))) (ho2 : h o2 = some (.inl (G_j G, 16, .inr (.inl (lA K2))))) (ho3 : h o3 = some (.inl (G_i G, 16, .inl (iA K3)))) (ho4 : h o4 = some (.inl (G_i G, 1024, .inl (iA K4)))) (hb : h b = some (.inr (1, [.ref bb, .int (iZ k0)]))) (hbb : h bb = some (.inl (G_i G, 1000, .inl (iA F)))) (htk : 11760000 ≤ tk ∧ tk ≤ 705600000) (hT : ∀ k, 0 ≤ K1 k ∧ K1 k ≤ 2540160000000) (hE : ∀ k, 0 ≤ K2 k ∧ K2 k ≤ 2540160000000) (hZ : ∀ k, 0 ≤ K3 k ∧ K3 k ≤ 64) (hB : ∀ k, 0 ≤ K4 k ∧ K4 k ≤ 255) (hn : n ≤ 16) (hfo : f = 0 ∨ f = 1 ∨ f = 2) : Rn G M_CB_write (rm 6 180) [.ref x, .int (iZ f)] h (fun r h' => (1000 < (outs f tk K1 K2 K3 K4 n).length → r = some (.int (iZ (-3))) ∧ h' = h) ∧ ((outs f tk K1 K2 K3 K4 n).length ≤ 1000 → r = some (.int (iZ ((outs f tk K1 K2 K3 K4 n).length : Int))) ∧ h' b = some (.inr (1, [.ref bb, .int (iZ ((outs f tk K1 K2 K3 K4 n).length : Int))])) ∧ h' bb = some (.inl (G_i G, 1000, .inl (iA (pL F (outs f tk K1 K2 K3 K4 n))))) ∧ Fm [b, bb] h h')) := by
  refine rn_of (by decide) (Nat.le_of_ble_eq_true rfl) ?_
  show Ev G M_CB_write _ _ 0 [(0, .ref x), (1, .int (iZ f))] [] _ 0 0
  refine ev_iload_n d_CB_write_0 rfl rfl ?_
  have hif := isF_r f
  refine ev_pS M_CB_isForm 0 0 (As := [.int (iZ f)]) (c_CB_isForm G h f (by omega)) d_CB_write_1 mk_CB_isForm ml_CB_96 ms_CB_isForm rfl rfl (Nat.le_of_ble_eq_true rfl) ⟨by decide, by decide⟩ ⟨by decide, by decide⟩ ?_
  refine ez_if_ne (tgt := 10) (by omega) d_CB_write_4 rfl (fun c4 => ?_) (fun c4 => ?_)
  · refine ev_aload_n d_CB_write_10 rfl rfl ?_
    refine ev_get d_CB_write_11 fl_CB_58 hx rfl ?_
    refine ev_iload_n d_CB_write_14 rfl rfl ?_
    refine ev_pV M_Wr_length 4 120 (As := [.int (iZ f)]) (c_Wr_length G h xw b xf xo o1 o2 o3 o4 n K1 K2 K3 K4 num den tk f hw hf ho ho1 ho2 ho3 htk hT hE hZ hn hfo) d_CB_write_15 mk_Wr_length ml_CB_115 mv_Wr_length hw rfl rfl rfl (Nat.le_of_ble_eq_true rfl) ⟨by decide, by decide⟩ ⟨by decide, by decide⟩ ?_
    have rl := outs_b (tk := tk) (K1 := K1) (K2 := K2) (K4 := K4) hfo hZ n
    refine ev_sipush (v := iZ 1000) d_CB_write_18 rfl ?_
    refine ez_icmp_le (tgt := 27) (by omega) (by decide) d_CB_write_21 rfl (fun c21 => ?_) (fun c21 => ?_)
    · refine ev_aload_n d_CB_write_27 rfl rfl ?_
      refine ev_get d_CB_write_28 fl_CB_58 hx rfl ?_
      refine ev_iload_n d_CB_write_31 rfl rfl ?_
      refine ev_callV M_Wr_fill (rm 5 150) _ (As := [.int (iZ f)]) (c_Wr_fill G h xw xf xo b bb F o1 o2 o3 o4 n K1 K2 K3 K4 num den tk f k0 hw hf ho ho1 ho2 ho3 ho4 hb hbb htk hT hE hZ hB hn hfo (by omega)) d_CB_write_32 mk_Wr_fill ml_CB_118 mv_Wr_fill hw rfl rfl rfl (Nat.le_of_ble_eq_true rfl) ⟨by decide, by decide⟩ ⟨by decide, by decide⟩ (fun r h9 hq => ?_)
      obtain ⟨rfl, gb, gbb, fm⟩ := hq
      have hx := (fm _ (ninc (cne hx hb (by simp)) (ninc (cne hx hbb (by simp)) nin0))).trans hx
      have hb := gb
      have hbb := gbb
      refine ev_aload_n d_CB_write_35 rfl rfl ?_
      refine ev_get d_CB_write_36 fl_CB_10 hx rfl ?_
      refine ev_get d_CB_write_39 fl_CB_80 hb rfl ?_
      exact ev_ireturn d_CB_write_42 rfl (by decide) (by decide) (⟨fun q => absurd q (by omega), fun _ => ⟨rfl, hb, hbb, fm⟩⟩)
    · refine ev_bipush (v := iZ (-3)) d_CB_write_24 rfl ?_
      exact ev_ireturn d_CB_write_26 rfl (by decide) (by decide) (⟨fun _ => ⟨rfl, rfl⟩, fun q => absurd q (by omega)⟩)
  · exact absurd hfo (isF_0 c4)
