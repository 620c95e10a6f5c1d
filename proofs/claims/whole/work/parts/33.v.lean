theorem d_Ro_timeBefore_0 : decode M_Ro_timeBefore.2.1 0 = .ok (.aload_n 0, 1) := by decide +kernel
theorem d_Ro_timeBefore_1 : decode M_Ro_timeBefore.2.1 1 = .ok (.iload_n 1, 1) := by decide +kernel
theorem d_Ro_timeBefore_2 : decode M_Ro_timeBefore.2.1 2 = .ok (.iconst 0, 1) := by decide +kernel
theorem d_Ro_timeBefore_3 : decode M_Ro_timeBefore.2.1 3 = .ok (.iload_n 2, 1) := by decide +kernel
theorem d_Ro_timeBefore_4 : decode M_Ro_timeBefore.2.1 4 = .ok (.invokevirtual 37, 3) := by decide +kernel
theorem d_Ro_timeBefore_7 : decode M_Ro_timeBefore.2.1 7 = .ok (.i2l, 1) := by decide +kernel
theorem d_Ro_timeBefore_8 : decode M_Ro_timeBefore.2.1 8 = .ok (.lstore_n 3, 1) := by decide +kernel
theorem d_Ro_timeBefore_9 : decode M_Ro_timeBefore.2.1 9 = .ok (.aload_n 0, 1) := by decide +kernel
theorem d_Ro_timeBefore_10 : decode M_Ro_timeBefore.2.1 10 = .ok (.iload_n 1, 1) := by decide +kernel
theorem d_Ro_timeBefore_11 : decode M_Ro_timeBefore.2.1 11 = .ok (.iconst 0, 1) := by decide +kernel
theorem d_Ro_timeBefore_12 : decode M_Ro_timeBefore.2.1 12 = .ok (.aload_n 0, 1) := by decide +kernel
theorem d_Ro_timeBefore_13 : decode M_Ro_timeBefore.2.1 13 = .ok (.getfield 18, 3) := by decide +kernel
theorem d_Ro_timeBefore_16 : decode M_Ro_timeBefore.2.1 16 = .ok (.iload_n 1, 1) := by decide +kernel
theorem d_Ro_timeBefore_17 : decode M_Ro_timeBefore.2.1 17 = .ok (.iaload, 1) := by decide +kernel
theorem d_Ro_timeBefore_18 : decode M_Ro_timeBefore.2.1 18 = .ok (.invokevirtual 37, 3) := by decide +kernel
theorem d_Ro_timeBefore_21 : decode M_Ro_timeBefore.2.1 21 = .ok (.i2l, 1) := by decide +kernel
theorem d_Ro_timeBefore_22 : decode M_Ro_timeBefore.2.1 22 = .ok (.lstore 5, 2) := by decide +kernel
theorem d_Ro_timeBefore_24 : decode M_Ro_timeBefore.2.1 24 = .ok (.lload 5, 2) := by decide +kernel
theorem d_Ro_timeBefore_26 : decode M_Ro_timeBefore.2.1 26 = .ok (.lconst 0, 1) := by decide +kernel
theorem d_Ro_timeBefore_27 : decode M_Ro_timeBefore.2.1 27 = .ok (.lcmp, 1) := by decide +kernel
theorem d_Ro_timeBefore_28 : decode M_Ro_timeBefore.2.1 28 = .ok (.ifCond .ne 10, 3) := by decide +kernel
theorem d_Ro_timeBefore_31 : decode M_Ro_timeBefore.2.1 31 = .ok (.lconst 1, 1) := by decide +kernel
theorem d_Ro_timeBefore_32 : decode M_Ro_timeBefore.2.1 32 = .ok (.lstore_n 3, 1) := by decide +kernel
theorem d_Ro_timeBefore_33 : decode M_Ro_timeBefore.2.1 33 = .ok (.ldc2_w 62, 3) := by decide +kernel
theorem d_Ro_timeBefore_36 : decode M_Ro_timeBefore.2.1 36 = .ok (.lstore 5, 2) := by decide +kernel
theorem d_Ro_timeBefore_38 : decode M_Ro_timeBefore.2.1 38 = .ok (.aload_n 0, 1) := by decide +kernel
theorem d_Ro_timeBefore_39 : decode M_Ro_timeBefore.2.1 39 = .ok (.getfield 9, 3) := by decide +kernel
theorem d_Ro_timeBefore_42 : decode M_Ro_timeBefore.2.1 42 = .ok (.iload_n 1, 1) := by decide +kernel
theorem d_Ro_timeBefore_43 : decode M_Ro_timeBefore.2.1 43 = .ok (.laload, 1) := by decide +kernel
theorem d_Ro_timeBefore_44 : decode M_Ro_timeBefore.2.1 44 = .ok (.lload 5, 2) := by decide +kernel
theorem d_Ro_timeBefore_46 : decode M_Ro_timeBefore.2.1 46 = .ok (.lmul, 1) := by decide +kernel
theorem d_Ro_timeBefore_47 : decode M_Ro_timeBefore.2.1 47 = .ok (.aload_n 0, 1) := by decide +kernel
theorem d_Ro_timeBefore_48 : decode M_Ro_timeBefore.2.1 48 = .ok (.getfield 15, 3) := by decide +kernel
theorem d_Ro_timeBefore_51 : decode M_Ro_timeBefore.2.1 51 = .ok (.iload_n 1, 1) := by decide +kernel
theorem d_Ro_timeBefore_52 : decode M_Ro_timeBefore.2.1 52 = .ok (.laload, 1) := by decide +kernel
theorem d_Ro_timeBefore_53 : decode M_Ro_timeBefore.2.1 53 = .ok (.aload_n 0, 1) := by decide +kernel
theorem d_Ro_timeBefore_54 : decode M_Ro_timeBefore.2.1 54 = .ok (.getfield 9, 3) := by decide +kernel
theorem d_Ro_timeBefore_57 : decode M_Ro_timeBefore.2.1 57 = .ok (.iload_n 1, 1) := by decide +kernel
theorem d_Ro_timeBefore_58 : decode M_Ro_timeBefore.2.1 58 = .ok (.laload, 1) := by decide +kernel
theorem d_Ro_timeBefore_59 : decode M_Ro_timeBefore.2.1 59 = .ok (.lsub, 1) := by decide +kernel
theorem d_Ro_timeBefore_60 : decode M_Ro_timeBefore.2.1 60 = .ok (.lload_n 3, 1) := by decide +kernel
theorem d_Ro_timeBefore_61 : decode M_Ro_timeBefore.2.1 61 = .ok (.lmul, 1) := by decide +kernel
theorem d_Ro_timeBefore_62 : decode M_Ro_timeBefore.2.1 62 = .ok (.ladd, 1) := by decide +kernel
theorem d_Ro_timeBefore_63 : decode M_Ro_timeBefore.2.1 63 = .ok (.lload 5, 2) := by decide +kernel
theorem d_Ro_timeBefore_65 : decode M_Ro_timeBefore.2.1 65 = .ok (.invokestatic 64, 3) := by decide +kernel
theorem d_Ro_timeBefore_68 : decode M_Ro_timeBefore.2.1 68 = .ok (.lreturn, 1) := by decide +kernel
theorem d_Ro_part_0 : decode M_Ro_part.2.1 0 = .ok (.aload_n 0, 1) := by decide +kernel
theorem d_Ro_part_1 : decode M_Ro_part.2.1 1 = .ok (.iload_n 1, 1) := by decide +kernel
theorem d_Ro_part_2 : decode M_Ro_part.2.1 2 = .ok (.iload_n 2, 1) := by decide +kernel
theorem d_Ro_part_3 : decode M_Ro_part.2.1 3 = .ok (.invokevirtual 29, 3) := by decide +kernel
theorem d_Ro_part_6 : decode M_Ro_part.2.1 6 = .ok (.bipush 10, 2) := by decide +kernel
theorem d_Ro_part_8 : decode M_Ro_part.2.1 8 = .ok (.if_icmp .ne 9, 3) := by decide +kernel
theorem d_Ro_part_11 : decode M_Ro_part.2.1 11 = .ok (.iload_n 2, 1) := by decide +kernel
theorem d_Ro_part_12 : decode M_Ro_part.2.1 12 = .ok (.iconst 1, 1) := by decide +kernel
theorem d_Ro_part_13 : decode M_Ro_part.2.1 13 = .ok (.iadd, 1) := by decide +kernel
theorem d_Ro_part_14 : decode M_Ro_part.2.1 14 = .ok (.goto 4, 3) := by decide +kernel
theorem d_Ro_part_17 : decode M_Ro_part.2.1 17 = .ok (.iload_n 2, 1) := by decide +kernel
theorem d_Ro_part_18 : decode M_Ro_part.2.1 18 = .ok (.istore 5, 2) := by decide +kernel
theorem d_Ro_part_20 : decode M_Ro_part.2.1 20 = .ok (.aload_n 0, 1) := by decide +kernel
theorem d_Ro_part_21 : decode M_Ro_part.2.1 21 = .ok (.getfield 18, 3) := by decide +kernel
theorem d_Ro_part_24 : decode M_Ro_part.2.1 24 = .ok (.iload_n 1, 1) := by decide +kernel
theorem d_Ro_part_25 : decode M_Ro_part.2.1 25 = .ok (.iaload, 1) := by decide +kernel
theorem d_Ro_part_26 : decode M_Ro_part.2.1 26 = .ok (.iload 5, 2) := by decide +kernel
theorem d_Ro_part_28 : decode M_Ro_part.2.1 28 = .ok (.isub, 1) := by decide +kernel
theorem d_Ro_part_29 : decode M_Ro_part.2.1 29 = .ok (.istore 6, 2) := by decide +kernel
theorem d_Ro_part_31 : decode M_Ro_part.2.1 31 = .ok (.aload_n 0, 1) := by decide +kernel
theorem d_Ro_part_32 : decode M_Ro_part.2.1 32 = .ok (.iload_n 1, 1) := by decide +kernel
theorem d_Ro_part_33 : decode M_Ro_part.2.1 33 = .ok (.iconst 1, 1) := by decide +kernel
theorem d_Ro_part_34 : decode M_Ro_part.2.1 34 = .ok (.iadd, 1) := by decide +kernel
theorem d_Ro_part_35 : decode M_Ro_part.2.1 35 = .ok (.iload_n 1, 1) := by decide +kernel
theorem d_Ro_part_36 : decode M_Ro_part.2.1 36 = .ok (.iconst 2, 1) := by decide +kernel
theorem d_Ro_part_37 : decode M_Ro_part.2.1 37 = .ok (.iadd, 1) := by decide +kernel
theorem d_Ro_part_38 : decode M_Ro_part.2.1 38 = .ok (.invokevirtual 58, 3) := by decide +kernel
theorem d_Ro_part_41 : decode M_Ro_part.2.1 41 = .ok (.aload_n 0, 1) := by decide +kernel
theorem d_Ro_part_42 : decode M_Ro_part.2.1 42 = .ok (.dup, 1) := by decide +kernel
theorem d_Ro_part_43 : decode M_Ro_part.2.1 43 = .ok (.getfield 25, 3) := by decide +kernel
theorem d_Ro_part_46 : decode M_Ro_part.2.1 46 = .ok (.iconst 1, 1) := by decide +kernel
theorem d_Ro_part_47 : decode M_Ro_part.2.1 47 = .ok (.iadd, 1) := by decide +kernel
theorem d_Ro_part_48 : decode M_Ro_part.2.1 48 = .ok (.putfield 25, 3) := by decide +kernel
theorem d_Ro_part_51 : decode M_Ro_part.2.1 51 = .ok (.aload_n 0, 1) := by decide +kernel
theorem d_Ro_part_52 : decode M_Ro_part.2.1 52 = .ok (.getfield 9, 3) := by decide +kernel
theorem d_Ro_part_55 : decode M_Ro_part.2.1 55 = .ok (.iload_n 1, 1) := by decide +kernel
theorem d_Ro_part_56 : decode M_Ro_part.2.1 56 = .ok (.iconst 1, 1) := by decide +kernel
theorem d_Ro_part_57 : decode M_Ro_part.2.1 57 = .ok (.iadd, 1) := by decide +kernel
theorem d_Ro_part_58 : decode M_Ro_part.2.1 58 = .ok (.lload_n 3, 1) := by decide +kernel
theorem d_Ro_part_59 : decode M_Ro_part.2.1 59 = .ok (.lastore, 1) := by decide +kernel
theorem d_Ro_part_60 : decode M_Ro_part.2.1 60 = .ok (.aload_n 0, 1) := by decide +kernel
theorem d_Ro_part_61 : decode M_Ro_part.2.1 61 = .ok (.getfield 15, 3) := by decide +kernel
theorem d_Ro_part_64 : decode M_Ro_part.2.1 64 = .ok (.iload_n 1, 1) := by decide +kernel
theorem d_Ro_part_65 : decode M_Ro_part.2.1 65 = .ok (.iconst 1, 1) := by decide +kernel
theorem d_Ro_part_66 : decode M_Ro_part.2.1 66 = .ok (.iadd, 1) := by decide +kernel
theorem d_Ro_part_67 : decode M_Ro_part.2.1 67 = .ok (.aload_n 0, 1) := by decide +kernel
theorem d_Ro_part_68 : decode M_Ro_part.2.1 68 = .ok (.getfield 15, 3) := by decide +kernel
theorem d_Ro_part_71 : decode M_Ro_part.2.1 71 = .ok (.iload_n 1, 1) := by decide +kernel
theorem d_Ro_part_72 : decode M_Ro_part.2.1 72 = .ok (.laload, 1) := by decide +kernel
theorem d_Ro_part_73 : decode M_Ro_part.2.1 73 = .ok (.lastore, 1) := by decide +kernel
theorem d_Ro_part_74 : decode M_Ro_part.2.1 74 = .ok (.aload_n 0, 1) := by decide +kernel
theorem d_Ro_part_75 : decode M_Ro_part.2.1 75 = .ok (.getfield 18, 3) := by decide +kernel
theorem d_Ro_part_78 : decode M_Ro_part.2.1 78 = .ok (.iload_n 1, 1) := by decide +kernel
theorem d_Ro_part_79 : decode M_Ro_part.2.1 79 = .ok (.iconst 1, 1) := by decide +kernel
theorem d_Ro_part_80 : decode M_Ro_part.2.1 80 = .ok (.iadd, 1) := by decide +kernel
theorem d_Ro_part_81 : decode M_Ro_part.2.1 81 = .ok (.iload 6, 2) := by decide +kernel
theorem d_Ro_part_83 : decode M_Ro_part.2.1 83 = .ok (.iastore, 1) := by decide +kernel
theorem d_Ro_part_84 : decode M_Ro_part.2.1 84 = .ok (.aload_n 0, 1) := by decide +kernel
theorem d_Ro_part_85 : decode M_Ro_part.2.1 85 = .ok (.getfield 22, 3) := by decide +kernel
theorem d_Ro_part_88 : decode M_Ro_part.2.1 88 = .ok (.iload_n 1, 1) := by decide +kernel
theorem d_Ro_part_89 : decode M_Ro_part.2.1 89 = .ok (.bipush 64, 2) := by decide +kernel
theorem d_Ro_part_91 : decode M_Ro_part.2.1 91 = .ok (.imul, 1) := by decide +kernel
theorem d_Ro_part_92 : decode M_Ro_part.2.1 92 = .ok (.iload 5, 2) := by decide +kernel
theorem d_Ro_part_94 : decode M_Ro_part.2.1 94 = .ok (.iadd, 1) := by decide +kernel
theorem d_Ro_part_95 : decode M_Ro_part.2.1 95 = .ok (.aload_n 0, 1) := by decide +kernel
theorem d_Ro_part_96 : decode M_Ro_part.2.1 96 = .ok (.getfield 22, 3) := by decide +kernel
theorem d_Ro_part_99 : decode M_Ro_part.2.1 99 = .ok (.iload_n 1, 1) := by decide +kernel
theorem d_Ro_part_100 : decode M_Ro_part.2.1 100 = .ok (.iconst 1, 1) := by decide +kernel
theorem d_Ro_part_101 : decode M_Ro_part.2.1 101 = .ok (.iadd, 1) := by decide +kernel
theorem d_Ro_part_102 : decode M_Ro_part.2.1 102 = .ok (.bipush 64, 2) := by decide +kernel
theorem d_Ro_part_104 : decode M_Ro_part.2.1 104 = .ok (.imul, 1) := by decide +kernel
theorem d_Ro_part_105 : decode M_Ro_part.2.1 105 = .ok (.iload 6, 2) := by decide +kernel
theorem d_Ro_part_107 : decode M_Ro_part.2.1 107 = .ok (.invokestatic 44, 3) := by decide +kernel
theorem d_Ro_part_110 : decode M_Ro_part.2.1 110 = .ok (.aload_n 0, 1) := by decide +kernel
theorem d_Ro_part_111 : decode M_Ro_part.2.1 111 = .ok (.getfield 15, 3) := by decide +kernel
theorem d_Ro_part_114 : decode M_Ro_part.2.1 114 = .ok (.iload_n 1, 1) := by decide +kernel
theorem d_Ro_part_115 : decode M_Ro_part.2.1 115 = .ok (.lload_n 3, 1) := by decide +kernel
theorem d_Ro_part_116 : decode M_Ro_part.2.1 116 = .ok (.lastore, 1) := by decide +kernel
theorem d_Ro_part_117 : decode M_Ro_part.2.1 117 = .ok (.aload_n 0, 1) := by decide +kernel
theorem d_Ro_part_118 : decode M_Ro_part.2.1 118 = .ok (.getfield 18, 3) := by decide +kernel
theorem d_Ro_part_121 : decode M_Ro_part.2.1 121 = .ok (.iload_n 1, 1) := by decide +kernel
theorem d_Ro_part_122 : decode M_Ro_part.2.1 122 = .ok (.iload_n 2, 1) := by decide +kernel
theorem d_Ro_part_123 : decode M_Ro_part.2.1 123 = .ok (.iastore, 1) := by decide +kernel
theorem d_Ro_part_124 : decode M_Ro_part.2.1 124 = .ok (.return_, 1) := by decide +kernel
theorem d_CB_split_0 : decode M_CB_split.2.1 0 = .ok (.aload_n 0, 1) := by decide +kernel
theorem d_CB_split_1 : decode M_CB_split.2.1 1 = .ok (.getfield 33, 3) := by decide +kernel
theorem d_CB_split_4 : decode M_CB_split.2.1 4 = .ok (.iload_n 1, 1) := by decide +kernel
theorem d_CB_split_5 : decode M_CB_split.2.1 5 = .ok (.invokevirtual 121, 3) := by decide +kernel
theorem d_CB_split_8 : decode M_CB_split.2.1 8 = .ok (.ifCond .eq 21, 3) := by decide +kernel
theorem d_CB_split_11 : decode M_CB_split.2.1 11 = .ok (.iload_n 2, 1) := by decide +kernel
theorem d_CB_split_12 : decode M_CB_split.2.1 12 = .ok (.iconst 1, 1) := by decide +kernel
theorem d_CB_split_13 : decode M_CB_split.2.1 13 = .ok (.if_icmp .lt 16, 3) := by decide +kernel
theorem d_CB_split_16 : decode M_CB_split.2.1 16 = .ok (.iload_n 2, 1) := by decide +kernel
theorem d_CB_split_17 : decode M_CB_split.2.1 17 = .ok (.aload_n 0, 1) := by decide +kernel
theorem d_CB_split_18 : decode M_CB_split.2.1 18 = .ok (.getfield 33, 3) := by decide +kernel
theorem d_CB_split_21 : decode M_CB_split.2.1 21 = .ok (.getfield 133, 3) := by decide +kernel
theorem d_CB_split_24 : decode M_CB_split.2.1 24 = .ok (.iload_n 1, 1) := by decide +kernel
theorem d_CB_split_25 : decode M_CB_split.2.1 25 = .ok (.iaload, 1) := by decide +kernel
theorem d_CB_split_26 : decode M_CB_split.2.1 26 = .ok (.if_icmp .lt 6, 3) := by decide +kernel
theorem d_CB_split_29 : decode M_CB_split.2.1 29 = .ok (.bipush (-2), 2) := by decide +kernel
theorem d_CB_split_31 : decode M_CB_split.2.1 31 = .ok (.ireturn, 1) := by decide +kernel
theorem d_CB_split_32 : decode M_CB_split.2.1 32 = .ok (.aload_n 0, 1) := by decide +kernel
theorem d_CB_split_33 : decode M_CB_split.2.1 33 = .ok (.getfield 33, 3) := by decide +kernel
theorem d_CB_split_36 : decode M_CB_split.2.1 36 = .ok (.iload_n 1, 1) := by decide +kernel
theorem d_CB_split_37 : decode M_CB_split.2.1 37 = .ok (.iload_n 2, 1) := by decide +kernel
theorem d_CB_split_38 : decode M_CB_split.2.1 38 = .ok (.iconst 1, 1) := by decide +kernel
theorem d_CB_split_39 : decode M_CB_split.2.1 39 = .ok (.isub, 1) := by decide +kernel
theorem d_CB_split_40 : decode M_CB_split.2.1 40 = .ok (.invokevirtual 144, 3) := by decide +kernel
theorem d_CB_split_43 : decode M_CB_split.2.1 43 = .ok (.bipush 10, 2) := by decide +kernel
theorem d_CB_split_45 : decode M_CB_split.2.1 45 = .ok (.if_icmp .ne 6, 3) := by decide +kernel
theorem d_CB_split_48 : decode M_CB_split.2.1 48 = .ok (.bipush (-2), 2) := by decide +kernel
theorem d_CB_split_50 : decode M_CB_split.2.1 50 = .ok (.ireturn, 1) := by decide +kernel
theorem d_CB_split_51 : decode M_CB_split.2.1 51 = .ok (.aload_n 0, 1) := by decide +kernel
theorem d_CB_split_52 : decode M_CB_split.2.1 52 = .ok (.getfield 33, 3) := by decide +kernel
theorem d_CB_split_55 : decode M_CB_split.2.1 55 = .ok (.iload_n 1, 1) := by decide +kernel
theorem d_CB_split_56 : decode M_CB_split.2.1 56 = .ok (.iload_n 2, 1) := by decide +kernel
theorem d_CB_split_57 : decode M_CB_split.2.1 57 = .ok (.invokevirtual 201, 3) := by decide +kernel
theorem d_CB_split_60 : decode M_CB_split.2.1 60 = .ok (.lstore_n 3, 1) := by decide +kernel
theorem d_CB_split_61 : decode M_CB_split.2.1 61 = .ok (.lload_n 3, 1) := by decide +kernel
theorem d_CB_split_62 : decode M_CB_split.2.1 62 = .ok (.aload_n 0, 1) := by decide +kernel
theorem d_CB_split_63 : decode M_CB_split.2.1 63 = .ok (.getfield 33, 3) := by decide +kernel
theorem d_CB_split_66 : decode M_CB_split.2.1 66 = .ok (.getfield 126, 3) := by decide +kernel
theorem d_CB_split_69 : decode M_CB_split.2.1 69 = .ok (.iload_n 1, 1) := by decide +kernel
theorem d_CB_split_70 : decode M_CB_split.2.1 70 = .ok (.laload, 1) := by decide +kernel
theorem d_CB_split_71 : decode M_CB_split.2.1 71 = .ok (.lcmp, 1) := by decide +kernel
theorem d_CB_split_72 : decode M_CB_split.2.1 72 = .ok (.ifCond .le 17, 3) := by decide +kernel
theorem d_CB_split_75 : decode M_CB_split.2.1 75 = .ok (.lload_n 3, 1) := by decide +kernel
theorem d_CB_split_76 : decode M_CB_split.2.1 76 = .ok (.aload_n 0, 1) := by decide +kernel
theorem d_CB_split_77 : decode M_CB_split.2.1 77 = .ok (.getfield 33, 3) := by decide +kernel
theorem d_CB_split_80 : decode M_CB_split.2.1 80 = .ok (.getfield 130, 3) := by decide +kernel
theorem d_CB_split_83 : decode M_CB_split.2.1 83 = .ok (.iload_n 1, 1) := by decide +kernel
theorem d_CB_split_84 : decode M_CB_split.2.1 84 = .ok (.laload, 1) := by decide +kernel
theorem d_CB_split_85 : decode M_CB_split.2.1 85 = .ok (.lcmp, 1) := by decide +kernel
theorem d_CB_split_86 : decode M_CB_split.2.1 86 = .ok (.ifCond .lt 6, 3) := by decide +kernel
theorem d_CB_split_89 : decode M_CB_split.2.1 89 = .ok (.bipush (-2), 2) := by decide +kernel
theorem d_CB_split_91 : decode M_CB_split.2.1 91 = .ok (.ireturn, 1) := by decide +kernel
theorem d_CB_split_92 : decode M_CB_split.2.1 92 = .ok (.iload_n 1, 1) := by decide +kernel
theorem d_CB_split_93 : decode M_CB_split.2.1 93 = .ok (.iconst 1, 1) := by decide +kernel
theorem d_CB_split_94 : decode M_CB_split.2.1 94 = .ok (.iadd, 1) := by decide +kernel
theorem d_CB_split_95 : decode M_CB_split.2.1 95 = .ok (.aload_n 0, 1) := by decide +kernel
theorem d_CB_split_96 : decode M_CB_split.2.1 96 = .ok (.getfield 33, 3) := by decide +kernel
theorem d_CB_split_99 : decode M_CB_split.2.1 99 = .ok (.getfield 112, 3) := by decide +kernel
theorem d_CB_split_102 : decode M_CB_split.2.1 102 = .ok (.if_icmp .ge 22, 3) := by decide +kernel
theorem d_CB_split_105 : decode M_CB_split.2.1 105 = .ok (.aload_n 0, 1) := by decide +kernel
theorem d_CB_split_106 : decode M_CB_split.2.1 106 = .ok (.getfield 33, 3) := by decide +kernel
theorem d_CB_split_109 : decode M_CB_split.2.1 109 = .ok (.getfield 126, 3) := by decide +kernel
theorem d_CB_split_112 : decode M_CB_split.2.1 112 = .ok (.iload_n 1, 1) := by decide +kernel
theorem d_CB_split_113 : decode M_CB_split.2.1 113 = .ok (.iconst 1, 1) := by decide +kernel
theorem d_CB_split_114 : decode M_CB_split.2.1 114 = .ok (.iadd, 1) := by decide +kernel
theorem d_CB_split_115 : decode M_CB_split.2.1 115 = .ok (.laload, 1) := by decide +kernel
theorem d_CB_split_116 : decode M_CB_split.2.1 116 = .ok (.lload_n 3, 1) := by decide +kernel
theorem d_CB_split_117 : decode M_CB_split.2.1 117 = .ok (.lcmp, 1) := by decide +kernel
theorem d_CB_split_118 : decode M_CB_split.2.1 118 = .ok (.ifCond .ge 6, 3) := by decide +kernel
theorem d_CB_split_121 : decode M_CB_split.2.1 121 = .ok (.bipush (-2), 2) := by decide +kernel
theorem d_CB_split_123 : decode M_CB_split.2.1 123 = .ok (.ireturn, 1) := by decide +kernel
theorem d_CB_split_124 : decode M_CB_split.2.1 124 = .ok (.aload_n 0, 1) := by decide +kernel
theorem d_CB_split_125 : decode M_CB_split.2.1 125 = .ok (.getfield 33, 3) := by decide +kernel
theorem d_CB_split_128 : decode M_CB_split.2.1 128 = .ok (.getfield 112, 3) := by decide +kernel
theorem d_CB_split_131 : decode M_CB_split.2.1 131 = .ok (.bipush 16, 2) := by decide +kernel
theorem d_CB_split_133 : decode M_CB_split.2.1 133 = .ok (.if_icmp .ne 6, 3) := by decide +kernel
theorem d_CB_split_136 : decode M_CB_split.2.1 136 = .ok (.bipush (-3), 2) := by decide +kernel
theorem d_CB_split_138 : decode M_CB_split.2.1 138 = .ok (.ireturn, 1) := by decide +kernel
theorem d_CB_split_139 : decode M_CB_split.2.1 139 = .ok (.aload_n 0, 1) := by decide +kernel
theorem d_CB_split_140 : decode M_CB_split.2.1 140 = .ok (.getfield 40, 3) := by decide +kernel
theorem d_CB_split_143 : decode M_CB_split.2.1 143 = .ok (.aload_n 0, 1) := by decide +kernel
theorem d_CB_split_144 : decode M_CB_split.2.1 144 = .ok (.getfield 33, 3) := by decide +kernel
theorem d_CB_split_147 : decode M_CB_split.2.1 147 = .ok (.invokevirtual 103, 3) := by decide +kernel
theorem d_CB_split_150 : decode M_CB_split.2.1 150 = .ok (.aload_n 0, 1) := by decide +kernel
theorem d_CB_split_151 : decode M_CB_split.2.1 151 = .ok (.getfield 33, 3) := by decide +kernel
theorem d_CB_split_154 : decode M_CB_split.2.1 154 = .ok (.iload_n 1, 1) := by decide +kernel
theorem d_CB_split_155 : decode M_CB_split.2.1 155 = .ok (.iload_n 2, 1) := by decide +kernel
theorem d_CB_split_156 : decode M_CB_split.2.1 156 = .ok (.lload_n 3, 1) := by decide +kernel
theorem d_CB_split_157 : decode M_CB_split.2.1 157 = .ok (.invokevirtual 205, 3) := by decide +kernel
theorem d_CB_split_160 : decode M_CB_split.2.1 160 = .ok (.aload_n 0, 1) := by decide +kernel
theorem d_CB_split_161 : decode M_CB_split.2.1 161 = .ok (.getfield 33, 3) := by decide +kernel
theorem d_CB_split_164 : decode M_CB_split.2.1 164 = .ok (.getfield 112, 3) := by decide +kernel
theorem d_CB_split_167 : decode M_CB_split.2.1 167 = .ok (.ireturn, 1) := by decide +kernel
theorem ev_top {G : GT} {M : MT} {R : Room} {Q : Option Value → HM → Prop} {pc : Nat} {L : List (Nat × Value)} {st : List Value} {h : HM} {k n : Nat} {a : Int} (b : Int) (e : a = b) (kk : Ev G M R Q pc L (.int (iZ b) :: st) h k n) : Ev G M R Q pc L (.int (iZ a) :: st) h k n := by
  subst e
  exact kk
theorem ev_topl {G : GT} {M : MT} {R : Room} {Q : Option Value → HM → Prop} {pc : Nat} {L : List (Nat × Value)} {st : List Value} {h : HM} {k n : Nat} {a : Int} (b : Int) (e : a = b) (kk : Ev G M R Q pc L (.long (lZ b) :: st) h k n) : Ev G M R Q pc L (.long (lZ a) :: st) h k n := by
  subst e
  exact kk
def splT (a e f w : Int) : Int := if w = 0 then nearZ (a * 2 + (e - a) * 1) 2 else nearZ (a * w + (e - a) * f) w
def spTm (K1 K2 K3 K4 : Nat → Int) (i j : Nat) : Int := splT (K1 i) (K2 i) (cellsN K4 (i * 64) j) (cellsN K4 (i * 64) (K3 i).toNat)
def spBad (K1 K2 K3 K4 : Nat → Int) (n i j : Nat) : Prop := K4 (i * 64 + (j - 1)) = 10 ∨ spTm K1 K2 K3 K4 i j ≤ K1 i ∨ K2 i ≤ spTm K1 K2 K3 K4 i j ∨ (i + 1 < n ∧ K1 (i + 1) < spTm K1 K2 K3 K4 i j)
def spF (K4 : Nat → Int) (i j : Nat) : Nat := if K4 (i * 64 + j) = 10 then j + 1 else j
theorem spF_r (K4 : Nat → Int) (i j : Nat) : j ≤ spF K4 i j ∧ spF K4 i j ≤ j + 1 := by
  unfold spF
  split <;> omega
theorem splT_r {a e f w : Int} (ha : 0 ≤ a ∧ a ≤ 2540160000000) (he : 0 ≤ e ∧ e ≤ 2540160000000) (hf : 0 ≤ f ∧ f ≤ 128) (hw : 0 ≤ w ∧ w ≤ 128) : -1000000000000000 ≤ splT a e f w ∧ splT a e f w ≤ 1000000000000000 := by
  unfold splT
  split
  · have := near_b (a := a * 2 + (e - a) * 1) (b := 2) (by decide)
    omega
  · have m1 := mulB (x := a) (y := w) (L := 2540160000000) (M := 128) (by omega) (by omega) (by omega) (by omega)
    have m2 := mulB (x := e - a) (y := f) (L := 2540160000000) (M := 128) (by omega) (by omega) (by omega) (by omega)
    have n := near_b (a := a * w + (e - a) * f) (b := w) (by omega)
    have := mul_sm (x := nearZ (a * w + (e - a) * f) w) (k := 1) (b := w) (L := 700000000000000) (by decide) (by omega) (by omega) (by omega)
    omega
set_option maxHeartbeats 4000000 in
set_option maxRecDepth 100000 in
theorem c_Ro_timeBefore (G : GT) (h : HM) (i j : Nat) (o o1 o2 o3 o4 n : Nat) (K1 K2 K3 K4 : Nat → Int) (ho : h o = some (.inr (2, [.ref o1, .ref o2, .ref o3, .ref o4, .int (iZ (n : Int))]))) (ho1 : h o1 = some (.inl (G_j G, 16, .inr (.inl (lA K1))))) (ho2 : h o2 = some (.inl (G_j G, 16, .inr (.inl (lA K2))))) (ho3 : h o3 = some (.inl (G_i G, 16, .inl (iA K3)))) (ho4 : h o4 = some (.inl (G_i G, 1024, .inl (iA K4)))) (hn : n ≤ 16) (hT : ∀ k, 0 ≤ K1 k ∧ K1 k ≤ 2540160000000) (hE : ∀ k, 0 ≤ K2 k ∧ K2 k ≤ 2540160000000) (hZ : ∀ k, 0 ≤ K3 k ∧ K3 k ≤ 64) (hB : ∀ k, 0 ≤ K4 k ∧ K4 k ≤ 255) (hi : i < 16) (hj : j ≤ 64) : Rn G M_Ro_timeBefore (rm 2 60) [.ref o, .int (iZ (i : Int)), .int (iZ (j : Int))] h (Pu (.long (lZ (spTm K1 K2 K3 K4 i j))) h) := by
  refine rn_of (by decide) (Nat.le_of_ble_eq_true rfl) ?_
  show Ev G M_Ro_timeBefore _ _ 0 [(0, .ref o), (1, .int (iZ (i : Int))), (2, .int (iZ (j : Int)))] [] _ 0 0
  have t0 := hT i
  have e0 := hE i
  have z0 := hZ i
  refine ev_aload_n d_Ro_timeBefore_0 rfl rfl ?_
  refine ev_iload_n d_Ro_timeBefore_1 rfl rfl ?_
  refine ev_iconst (v := iZ 0) d_Ro_timeBefore_2 rfl ?_
  refine ev_iload_n d_Ro_timeBefore_3 rfl rfl ?_
  refine ev_pV M_Ro_cells 1 22 (As := [.int (iZ (i : Int)), .int (iZ 0), .int (iZ (j : Int))]) (c_Ro_cells G h o o1 o2 o3 o4 n K4 ho ho4 i 0 j (by omega) (by omega) hB) d_Ro_timeBefore_4 mk_Ro_cells ml_Ro_37 mv_Ro_cells ho rfl rfl rfl (Nat.le_of_ble_eq_true rfl) ⟨by decide, by decide⟩ ⟨by decide, by decide⟩ ?_
  refine ev_top (cellsN K4 (i * 64) j) (rfl) ?_
  have rl4 := cellsN_r K4 (i * 64) j
  refine ez_i2l (by omega) d_Ro_timeBefore_7 ?_
  refine ev_lstore_n (L' := [(0, .ref o), (1, .int (iZ (i : Int))), (2, .int (iZ (j : Int))), (3, .long (lZ (cellsN K4 (i * 64) j)))]) d_Ro_timeBefore_8 rfl (by decide) rfl ?_
  refine ev_aload_n d_Ro_timeBefore_9 rfl rfl ?_
  refine ev_iload_n d_Ro_timeBefore_10 rfl rfl ?_
  refine ev_iconst (v := iZ 0) d_Ro_timeBefore_11 rfl ?_
  refine ev_aload_n d_Ro_timeBefore_12 rfl rfl ?_
  refine ev_get d_Ro_timeBefore_13 fl_Ro_18 ho rfl ?_
  refine ev_iload_n d_Ro_timeBefore_16 rfl rfl ?_
  refine ez_iaload i d_Ro_timeBefore_17 ho3 (by omega) (by omega) (by decide) ?_
  refine ev_top (((K3 i).toNat : Int)) (by omega) ?_
  refine ev_pV M_Ro_cells 1 22 (As := [.int (iZ (i : Int)), .int (iZ 0), .int (iZ ((K3 i).toNat : Int))]) (c_Ro_cells G h o o1 o2 o3 o4 n K4 ho ho4 i 0 (K3 i).toNat (by omega) (by omega) hB) d_Ro_timeBefore_18 mk_Ro_cells ml_Ro_37 mv_Ro_cells ho rfl rfl rfl (Nat.le_of_ble_eq_true rfl) ⟨by decide, by decide⟩ ⟨by decide, by decide⟩ ?_
  refine ev_top (cellsN K4 (i * 64) (K3 i).toNat) (rfl) ?_
  have rl18 := cellsN_r K4 (i * 64) (K3 i).toNat
  refine ez_i2l (by omega) d_Ro_timeBefore_21 ?_
  refine ev_lstore (L' := [(0, .ref o), (1, .int (iZ (i : Int))), (2, .int (iZ (j : Int))), (3, .long (lZ (cellsN K4 (i * 64) j))), (5, .long (lZ (cellsN K4 (i * 64) (K3 i).toNat)))]) d_Ro_timeBefore_22 (by decide) rfl ?_
  refine ev_lload d_Ro_timeBefore_24 rfl ?_
  refine ev_lconst (v := lZ 0) d_Ro_timeBefore_26 rfl ?_
  refine ev_lcmp d_Ro_timeBefore_27 ?_
  refine ez_lif_ne (tgt := 38) (by omega) (by decide) d_Ro_timeBefore_28 rfl (fun c28 => ?_) (fun c28 => ?_)
  · refine ev_aload_n d_Ro_timeBefore_38 rfl rfl ?_
    refine ev_get d_Ro_timeBefore_39 fl_Ro_9 ho rfl ?_
    refine ev_iload_n d_Ro_timeBefore_42 rfl rfl ?_
    refine ez_laload i d_Ro_timeBefore_43 ho1 (by omega) (by omega) (by decide) ?_
    refine ev_lload d_Ro_timeBefore_44 rfl ?_
    refine ez_lmul d_Ro_timeBefore_46 ?_
    refine ev_aload_n d_Ro_timeBefore_47 rfl rfl ?_
    refine ev_get d_Ro_timeBefore_48 fl_Ro_15 ho rfl ?_
    refine ev_iload_n d_Ro_timeBefore_51 rfl rfl ?_
    refine ez_laload i d_Ro_timeBefore_52 ho2 (by omega) (by omega) (by decide) ?_
    refine ev_aload_n d_Ro_timeBefore_53 rfl rfl ?_
    refine ev_get d_Ro_timeBefore_54 fl_Ro_9 ho rfl ?_
    refine ev_iload_n d_Ro_timeBefore_57 rfl rfl ?_
    refine ez_laload i d_Ro_timeBefore_58 ho1 (by omega) (by omega) (by decide) ?_
    refine ez_lsub d_Ro_timeBefore_59 ?_
    refine ev_lload_n d_Ro_timeBefore_60 rfl rfl ?_
    refine ez_lmul d_Ro_timeBefore_61 ?_
    refine ez_ladd d_Ro_timeBefore_62 ?_
    refine ev_lload d_Ro_timeBefore_63 rfl ?_
    have m1 := mulB (x := K1 i) (y := cellsN K4 (i * 64) (K3 i).toNat) (L := 2540160000000) (M := 128) (by omega) (by omega) (by omega) (by omega)
    have m2 := mulB (x := K2 i - K1 i) (y := cellsN K4 (i * 64) j) (L := 2540160000000) (M := 128) (by omega) (by omega) (by omega) (by omega)
    refine ev_pS M_CB_nearest 1 30 (As := [.long (lZ (((K1 i) * (cellsN K4 (i * 64) (K3 i).toNat)) + (((K2 i) - (K1 i)) * (cellsN K4 (i * 64) j)))), .long (lZ (cellsN K4 (i * 64) (K3 i).toNat))]) (c_CB_nearest G h _ _ (by omega) (by omega)) d_Ro_timeBefore_65 mk_CB_nearest ml_Ro_64 ms_CB_nearest rfl rfl (Nat.le_of_ble_eq_true rfl) ⟨by decide, by decide⟩ ⟨by decide, by decide⟩ ?_
    exact ev_lreturn d_Ro_timeBefore_68 rfl (by decide) (by decide) (⟨by rw [show spTm K1 K2 K3 K4 i j = nearZ (((K1 i) * (cellsN K4 (i * 64) (K3 i).toNat)) + (((K2 i) - (K1 i)) * (cellsN K4 (i * 64) j))) (cellsN K4 (i * 64) (K3 i).toNat) from if_neg (by omega)], rfl⟩)
  · refine ev_lconst (v := lZ 1) d_Ro_timeBefore_31 rfl ?_
    refine ev_lstore_n (L' := [(0, .ref o), (1, .int (iZ (i : Int))), (2, .int (iZ (j : Int))), (3, .long (lZ 1)), (5, .long (lZ (cellsN K4 (i * 64) (K3 i).toNat)))]) d_Ro_timeBefore_32 rfl (by decide) rfl ?_
    refine ev_ldc2 (v := lZ 2) d_Ro_timeBefore_33 kc_Ro_62 ?_
    refine ev_lstore (L' := [(0, .ref o), (1, .int (iZ (i : Int))), (2, .int (iZ (j : Int))), (3, .long (lZ 1)), (5, .long (lZ 2))]) d_Ro_timeBefore_36 (by decide) rfl ?_
    refine ev_aload_n d_Ro_timeBefore_38 rfl rfl ?_
    refine ev_get d_Ro_timeBefore_39 fl_Ro_9 ho rfl ?_
    refine ev_iload_n d_Ro_timeBefore_42 rfl rfl ?_
    refine ez_laload i d_Ro_timeBefore_43 ho1 (by omega) (by omega) (by decide) ?_
    refine ev_lload d_Ro_timeBefore_44 rfl ?_
    refine ez_lmul d_Ro_timeBefore_46 ?_
    refine ev_aload_n d_Ro_timeBefore_47 rfl rfl ?_
    refine ev_get d_Ro_timeBefore_48 fl_Ro_15 ho rfl ?_
    refine ev_iload_n d_Ro_timeBefore_51 rfl rfl ?_
    refine ez_laload i d_Ro_timeBefore_52 ho2 (by omega) (by omega) (by decide) ?_
    refine ev_aload_n d_Ro_timeBefore_53 rfl rfl ?_
    refine ev_get d_Ro_timeBefore_54 fl_Ro_9 ho rfl ?_
    refine ev_iload_n d_Ro_timeBefore_57 rfl rfl ?_
    refine ez_laload i d_Ro_timeBefore_58 ho1 (by omega) (by omega) (by decide) ?_
    refine ez_lsub d_Ro_timeBefore_59 ?_
    refine ev_lload_n d_Ro_timeBefore_60 rfl rfl ?_
    refine ez_lmul d_Ro_timeBefore_61 ?_
    refine ez_ladd d_Ro_timeBefore_62 ?_
    refine ev_lload d_Ro_timeBefore_63 rfl ?_
    have m1 := mulB (x := K1 i) (y := 2) (L := 2540160000000) (M := 128) (by omega) (by omega) (by omega) (by omega)
    have m2 := mulB (x := K2 i - K1 i) (y := 1) (L := 2540160000000) (M := 128) (by omega) (by omega) (by omega) (by omega)
    refine ev_pS M_CB_nearest 1 30 (As := [.long (lZ (((K1 i) * 2) + (((K2 i) - (K1 i)) * 1))), .long (lZ 2)]) (c_CB_nearest G h _ _ (by omega) (by omega)) d_Ro_timeBefore_65 mk_CB_nearest ml_Ro_64 ms_CB_nearest rfl rfl (Nat.le_of_ble_eq_true rfl) ⟨by decide, by decide⟩ ⟨by decide, by decide⟩ ?_
    exact ev_lreturn d_Ro_timeBefore_68 rfl (by decide) (by decide) (⟨by rw [show spTm K1 K2 K3 K4 i j = nearZ (((K1 i) * 2) + (((K2 i) - (K1 i)) * 1)) 2 from if_pos (by omega)], rfl⟩)
def spC (c : Cu) (i j : Nat) (t : Int) : Cu := (c.1 + 1, zup (va_cpy c.2.1 c.2.1 ((i + 1)) ((i + 2)) ((c.1 - (i + 1)))) (i + 1) t, zup (zup (va_cpy c.2.2.1 c.2.2.1 ((i + 1)) ((i + 2)) ((c.1 - (i + 1)))) (i + 1) ((va_cpy c.2.2.1 c.2.2.1 ((i + 1)) ((i + 2)) ((c.1 - (i + 1)))) i)) i t, zup (zup (va_cpy c.2.2.2.1 c.2.2.2.1 ((i + 1)) ((i + 2)) ((c.1 - (i + 1)))) (i + 1) ((c.2.2.2.1 i) - ((spF c.2.2.2.2 i j : Nat) : Int))) i (j : Int), va_cpy (va_cpy c.2.2.2.2 c.2.2.2.2 ((i + 1) * 64) ((i + 2) * 64) ((c.1 - (i + 1)) * 64)) (va_cpy c.2.2.2.2 c.2.2.2.2 ((i + 1) * 64) ((i + 2) * 64) ((c.1 - (i + 1)) * 64)) (i * 64 + spF c.2.2.2.2 i j) ((i + 1) * 64) ((c.2.2.2.1 i).toNat - spF c.2.2.2.2 i j))
set_option maxHeartbeats 4000000 in
set_option maxRecDepth 100000 in
theorem c_Ro_part (G : GT) (h : HM) (i j : Nat) (t : Int) (o o1 o2 o3 o4 n : Nat) (K1 K2 K3 K4 : Nat → Int) (ho : h o = some (.inr (2, [.ref o1, .ref o2, .ref o3, .ref o4, .int (iZ (n : Int))]))) (ho1 : h o1 = some (.inl (G_j G, 16, .inr (.inl (lA K1))))) (ho2 : h o2 = some (.inl (G_j G, 16, .inr (.inl (lA K2))))) (ho3 : h o3 = some (.inl (G_i G, 16, .inl (iA K3)))) (ho4 : h o4 = some (.inl (G_i G, 1024, .inl (iA K4)))) (n_o : o1 ≠ o2) (hn : n < 16) (hi : i < n) (hj : (j : Int) < K3 i) (hz : K3 i ≤ 64) (hB : ∀ k, 0 ≤ K4 k ∧ K4 k ≤ 255) : Rn G M_Ro_part (rm 2 70) [.ref o, .int (iZ (i : Int)), .int (iZ (j : Int)), .long (lZ t)] h (fun r h' => r = none ∧ h' o = some (.inr (2, [.ref o1, .ref o2, .ref o3, .ref o4, .int (iZ ((n + 1 : Nat) : Int))])) ∧ h' o1 = some (.inl (G_j G, 16, .inr (.inl (lA (zup (va_cpy K1 K1 ((i + 1)) ((i + 2)) ((n - (i + 1)))) (i + 1) t))))) ∧ h' o2 = some (.inl (G_j G, 16, .inr (.inl (lA (zup (zup (va_cpy K2 K2 ((i + 1)) ((i + 2)) ((n - (i + 1)))) (i + 1) ((va_cpy K2 K2 ((i + 1)) ((i + 2)) ((n - (i + 1)))) i)) i t))))) ∧ h' o3 = some (.inl (G_i G, 16, .inl (iA (zup (zup (va_cpy K3 K3 ((i + 1)) ((i + 2)) ((n - (i + 1)))) (i + 1) ((K3 i) - ((spF K4 i j : Nat) : Int))) i (j : Int))))) ∧ h' o4 = some (.inl (G_i G, 1024, .inl (iA (va_cpy (va_cpy K4 K4 ((i + 1) * 64) ((i + 2) * 64) ((n - (i + 1)) * 64)) (va_cpy K4 K4 ((i + 1) * 64) ((i + 2) * 64) ((n - (i + 1)) * 64)) (i * 64 + spF K4 i j) ((i + 1) * 64) ((K3 i).toNat - spF K4 i j))))) ∧ Fm [o, o1, o2, o3, o4] h h') := by
  refine rn_of (by decide) (Nat.le_of_ble_eq_true rfl) ?_
  show Ev G M_Ro_part _ _ 0 [(0, .ref o), (1, .int (iZ (i : Int))), (2, .int (iZ (j : Int))), (3, .long (lZ t))] [] _ 0 0
  have fm : Fm [o, o1, o2, o3, o4] h h := Fm.rf
  have sr := spF_r K4 i j
  refine ev_aload_n d_Ro_part_0 rfl rfl ?_
  refine ev_iload_n d_Ro_part_1 rfl rfl ?_
  refine ev_iload_n d_Ro_part_2 rfl rfl ?_
  refine ev_pV M_Ro_byteAt 0 0 (As := [.int (iZ (i : Int)), .int (iZ (j : Int))]) (c_Ro_byteAt G h o o1 o2 o3 o4 n K4 i j ho ho4 (by omega)) d_Ro_part_3 mk_Ro_byteAt ml_Ro_29 mv_Ro_byteAt ho rfl rfl rfl (Nat.le_of_ble_eq_true rfl) ⟨by decide, by decide⟩ ⟨by decide, by decide⟩ ?_
  have rb3 := hB (i * 64 + j)
  refine ev_bipush (v := iZ 10) d_Ro_part_6 rfl ?_
  refine ez_icmp_ne (tgt := 17) (by omega) (by decide) d_Ro_part_8 rfl (fun c8 => ?_) (fun c8 => ?_)
  · refine ev_iload_n d_Ro_part_17 rfl rfl ?_
    have e9 : spF K4 i j = j := if_neg (by omega)
    refine ev_top (((spF K4 i j : Nat) : Int)) (by omega) ?_
    refine ev_istore (L' := [(0, .ref o), (1, .int (iZ (i : Int))), (2, .int (iZ (j : Int))), (3, .long (lZ t)), (5, .int (iZ ((spF K4 i j : Nat) : Int)))]) d_Ro_part_18 (by decide) rfl ?_
    refine ev_aload_n d_Ro_part_20 rfl rfl ?_
    refine ev_get d_Ro_part_21 fl_Ro_18 ho rfl ?_
    refine ev_iload_n d_Ro_part_24 rfl rfl ?_
    refine ez_iaload i d_Ro_part_25 ho3 (by omega) (by omega) (by decide) ?_
    refine ev_iload d_Ro_part_26 rfl ?_
    refine ez_isub d_Ro_part_28 ?_
    refine ev_istore (L' := [(0, .ref o), (1, .int (iZ (i : Int))), (2, .int (iZ (j : Int))), (3, .long (lZ t)), (5, .int (iZ ((spF K4 i j : Nat) : Int))), (6, .int (iZ ((K3 i) - ((spF K4 i j : Nat) : Int))))]) d_Ro_part_29 (by decide) rfl ?_
    refine ev_aload_n d_Ro_part_31 rfl rfl ?_
    refine ev_iload_n d_Ro_part_32 rfl rfl ?_
    refine ev_iconst (v := iZ 1) d_Ro_part_33 rfl ?_
    refine ez_iadd d_Ro_part_34 ?_
    rw [show ((i : Int) + 1 : Int) = ((i + 1 : Nat) : Int) from by omega]
    refine ev_iload_n d_Ro_part_35 rfl rfl ?_
    refine ev_iconst (v := iZ 2) d_Ro_part_36 rfl ?_
    refine ez_iadd d_Ro_part_37 ?_
    rw [show ((i : Int) + 2 : Int) = ((i + 2 : Nat) : Int) from by omega]
    refine ev_callV M_Ro_move (rm 1 40) _ (As := [.int (iZ ((i + 1 : Nat) : Int)), .int (iZ ((i + 2 : Nat) : Int))]) (c_Ro_move G h (i + 1) (i + 2) o o1 o2 o3 o4 n K1 K2 K3 K4 ho ho1 ho2 ho3 ho4 n_o (by omega) (by omega) (by omega)) d_Ro_part_38 mk_Ro_move ml_Ro_58 mv_Ro_move ho rfl rfl rfl (Nat.le_of_ble_eq_true rfl) ⟨by decide, by decide⟩ ⟨by decide, by decide⟩ (fun r h9 hq => ?_)
    obtain ⟨rfl, ho, ho1, ho2, ho3, ho4, fmv⟩ := hq
    have fm := fm.call (by simp) fmv
    refine ev_aload_n d_Ro_part_41 rfl rfl ?_
    refine ev_dup d_Ro_part_42 rfl ?_
    refine ev_get d_Ro_part_43 fl_Ro_25 ho rfl ?_
    refine ev_iconst (v := iZ 1) d_Ro_part_46 rfl ?_
    refine ez_iadd d_Ro_part_47 ?_
    rw [show ((n : Int) + 1 : Int) = ((n + 1 : Nat) : Int) from by omega]
    refine ev_put2 (fs' := [.ref o1, .ref o2, .ref o3, .ref o4, .int (iZ ((n + 1 : Nat) : Int))]) d_Ro_part_48 fw_Ro_25 (Or.inr (fun _ _ _ q => by cases q; rfl)) ho (Nat.le_of_ble_eq_true rfl) rfl rfl rfl (fun h1 h1a h1o => ?_)
    have ho1 := (h1o _ (cne ho1 ho (by simp))).trans ho1
    have ho2 := (h1o _ (cne ho2 ho (by simp))).trans ho2
    have ho3 := (h1o _ (cne ho3 ho (by simp))).trans ho3
    have ho4 := (h1o _ (cne ho4 ho (by simp))).trans ho4
    have ho := h1a
    have fm := fm.step (by simp) h1o
    refine ev_aload_n d_Ro_part_51 rfl rfl ?_
    refine ev_get d_Ro_part_52 fl_Ro_9 ho rfl ?_
    refine ev_iload_n d_Ro_part_55 rfl rfl ?_
    refine ev_iconst (v := iZ 1) d_Ro_part_56 rfl ?_
    refine ez_iadd d_Ro_part_57 ?_
    refine ev_lload_n d_Ro_part_58 rfl rfl ?_
    refine ez_lastore (F' := zup (va_cpy K1 K1 ((i + 1)) ((i + 2)) ((n - (i + 1)))) (i + 1) t) (i + 1) d_Ro_part_59 ho1 (by omega) (by omega) (by decide) rfl (fun h2 h2a h2o => ?_)
    have ho := (h2o _ (cne ho ho1 (by simp))).trans ho
    have ho2 := (h2o _ (Ne.symm n_o)).trans ho2
    have ho3 := (h2o _ (cne ho3 ho1 (by simp))).trans ho3
    have ho4 := (h2o _ (cne ho4 ho1 (by simp))).trans ho4
    have ho1 := h2a
    have fm := fm.step (by simp) h2o
    refine ev_aload_n d_Ro_part_60 rfl rfl ?_
    refine ev_get d_Ro_part_61 fl_Ro_15 ho rfl ?_
    refine ev_iload_n d_Ro_part_64 rfl rfl ?_
    refine ev_iconst (v := iZ 1) d_Ro_part_65 rfl ?_
    refine ez_iadd d_Ro_part_66 ?_
    refine ev_aload_n d_Ro_part_67 rfl rfl ?_
    refine ev_get d_Ro_part_68 fl_Ro_15 ho rfl ?_
    refine ev_iload_n d_Ro_part_71 rfl rfl ?_
    refine ez_laload i d_Ro_part_72 ho2 (by omega) (by omega) (by decide) ?_
    refine ez_lastore (F' := zup (va_cpy K2 K2 ((i + 1)) ((i + 2)) ((n - (i + 1)))) (i + 1) ((va_cpy K2 K2 ((i + 1)) ((i + 2)) ((n - (i + 1)))) i)) (i + 1) d_Ro_part_73 ho2 (by omega) (by omega) (by decide) rfl (fun h3 h3a h3o => ?_)
    have ho := (h3o _ (cne ho ho2 (by simp))).trans ho
    have ho1 := (h3o _ n_o).trans ho1
    have ho3 := (h3o _ (cne ho3 ho2 (by simp))).trans ho3
    have ho4 := (h3o _ (cne ho4 ho2 (by simp))).trans ho4
    have ho2 := h3a
    have fm := fm.step (by simp) h3o
    refine ev_aload_n d_Ro_part_74 rfl rfl ?_
    refine ev_get d_Ro_part_75 fl_Ro_18 ho rfl ?_
    refine ev_iload_n d_Ro_part_78 rfl rfl ?_
    refine ev_iconst (v := iZ 1) d_Ro_part_79 rfl ?_
    refine ez_iadd d_Ro_part_80 ?_
    refine ev_iload d_Ro_part_81 rfl ?_
    refine ez_iastore (F' := zup (va_cpy K3 K3 ((i + 1)) ((i + 2)) ((n - (i + 1)))) (i + 1) ((K3 i) - ((spF K4 i j : Nat) : Int))) (i + 1) d_Ro_part_83 ho3 (by omega) (by omega) (by decide) rfl (fun h4 h4a h4o => ?_)
    have ho := (h4o _ (cne ho ho3 (by simp))).trans ho
    have ho1 := (h4o _ (cne ho1 ho3 (by simp))).trans ho1
    have ho2 := (h4o _ (cne ho2 ho3 (by simp))).trans ho2
    have ho4 := (h4o _ (cne ho4 ho3 (by simp))).trans ho4
    have ho3 := h4a
    have fm := fm.step (by simp) h4o
    refine ev_aload_n d_Ro_part_84 rfl rfl ?_
    refine ev_get d_Ro_part_85 fl_Ro_22 ho rfl ?_
    refine ev_iload_n d_Ro_part_88 rfl rfl ?_
    refine ev_bipush (v := iZ 64) d_Ro_part_89 rfl ?_
    refine ez_imul d_Ro_part_91 ?_
    refine ev_iload d_Ro_part_92 rfl ?_
    refine ez_iadd d_Ro_part_94 ?_
    refine ev_aload_n d_Ro_part_95 rfl rfl ?_
    refine ev_get d_Ro_part_96 fl_Ro_22 ho rfl ?_
    refine ev_iload_n d_Ro_part_99 rfl rfl ?_
    refine ev_iconst (v := iZ 1) d_Ro_part_100 rfl ?_
    refine ez_iadd d_Ro_part_101 ?_
    refine ev_bipush (v := iZ 64) d_Ro_part_102 rfl ?_
    refine ez_imul d_Ro_part_104 ?_
    refine ev_iload d_Ro_part_105 rfl ?_
    refine ez_copyi (F' := va_cpy (va_cpy K4 K4 ((i + 1) * 64) ((i + 2) * 64) ((n - (i + 1)) * 64)) (va_cpy K4 K4 ((i + 1) * 64) ((i + 2) * 64) ((n - (i + 1)) * 64)) (i * 64 + spF K4 i j) ((i + 1) * 64) ((K3 i).toNat - spF K4 i j)) (i * 64 + spF K4 i j) ((i + 1) * 64) ((K3 i).toNat - spF K4 i j) d_Ro_part_107 ml_Ro_44 nat_copy sta_copy in_System ho4 ho4 (by omega) (by omega) (by omega) (by omega) (by omega) (by decide) (by decide) (by decide) (by decide) rfl (fun h5 h5a h5o => ?_)
    have ho := (h5o _ (cne ho ho4 (by simp))).trans ho
    have ho1 := (h5o _ (cne ho1 ho4 (by simp))).trans ho1
    have ho2 := (h5o _ (cne ho2 ho4 (by simp))).trans ho2
    have ho3 := (h5o _ (cne ho3 ho4 (by simp))).trans ho3
    have ho4 := h5a
    have fm := fm.step (by simp) h5o
    refine ev_aload_n d_Ro_part_110 rfl rfl ?_
    refine ev_get d_Ro_part_111 fl_Ro_15 ho rfl ?_
    refine ev_iload_n d_Ro_part_114 rfl rfl ?_
    refine ev_lload_n d_Ro_part_115 rfl rfl ?_
    refine ez_lastore (F' := zup (zup (va_cpy K2 K2 ((i + 1)) ((i + 2)) ((n - (i + 1)))) (i + 1) ((va_cpy K2 K2 ((i + 1)) ((i + 2)) ((n - (i + 1)))) i)) i t) i d_Ro_part_116 ho2 (by omega) (by omega) (by decide) rfl (fun h6 h6a h6o => ?_)
    have ho := (h6o _ (cne ho ho2 (by simp))).trans ho
    have ho1 := (h6o _ n_o).trans ho1
    have ho3 := (h6o _ (cne ho3 ho2 (by simp))).trans ho3
    have ho4 := (h6o _ (cne ho4 ho2 (by simp))).trans ho4
    have ho2 := h6a
    have fm := fm.step (by simp) h6o
    refine ev_aload_n d_Ro_part_117 rfl rfl ?_
    refine ev_get d_Ro_part_118 fl_Ro_18 ho rfl ?_
    refine ev_iload_n d_Ro_part_121 rfl rfl ?_
    refine ev_iload_n d_Ro_part_122 rfl rfl ?_
    refine ez_iastore (F' := zup (zup (va_cpy K3 K3 ((i + 1)) ((i + 2)) ((n - (i + 1)))) (i + 1) ((K3 i) - ((spF K4 i j : Nat) : Int))) i (j : Int)) i d_Ro_part_123 ho3 (by omega) (by omega) (by decide) rfl (fun h7 h7a h7o => ?_)
    have ho := (h7o _ (cne ho ho3 (by simp))).trans ho
    have ho1 := (h7o _ (cne ho1 ho3 (by simp))).trans ho1
    have ho2 := (h7o _ (cne ho2 ho3 (by simp))).trans ho2
    have ho4 := (h7o _ (cne ho4 ho3 (by simp))).trans ho4
    have ho3 := h7a
    have fm := fm.step (by simp) h7o
    exact ev_return d_Ro_part_124 rfl (by decide) (by decide) (⟨rfl, ho, ho1, ho2, ho3, ho4, fm⟩)
  · refine ev_iload_n d_Ro_part_11 rfl rfl ?_
    refine ev_iconst (v := iZ 1) d_Ro_part_12 rfl ?_
    refine ez_iadd d_Ro_part_13 ?_
    refine ev_goto (tgt := 18) d_Ro_part_14 rfl ?_
    have e9 : spF K4 i j = j + 1 := if_pos (by omega)
    refine ev_top (((spF K4 i j : Nat) : Int)) (by omega) ?_
    refine ev_istore (L' := [(0, .ref o), (1, .int (iZ (i : Int))), (2, .int (iZ (j : Int))), (3, .long (lZ t)), (5, .int (iZ ((spF K4 i j : Nat) : Int)))]) d_Ro_part_18 (by decide) rfl ?_
    refine ev_aload_n d_Ro_part_20 rfl rfl ?_
    refine ev_get d_Ro_part_21 fl_Ro_18 ho rfl ?_
    refine ev_iload_n d_Ro_part_24 rfl rfl ?_
    refine ez_iaload i d_Ro_part_25 ho3 (by omega) (by omega) (by decide) ?_
    refine ev_iload d_Ro_part_26 rfl ?_
    refine ez_isub d_Ro_part_28 ?_
    refine ev_istore (L' := [(0, .ref o), (1, .int (iZ (i : Int))), (2, .int (iZ (j : Int))), (3, .long (lZ t)), (5, .int (iZ ((spF K4 i j : Nat) : Int))), (6, .int (iZ ((K3 i) - ((spF K4 i j : Nat) : Int))))]) d_Ro_part_29 (by decide) rfl ?_
    refine ev_aload_n d_Ro_part_31 rfl rfl ?_
    refine ev_iload_n d_Ro_part_32 rfl rfl ?_
    refine ev_iconst (v := iZ 1) d_Ro_part_33 rfl ?_
    refine ez_iadd d_Ro_part_34 ?_
    rw [show ((i : Int) + 1 : Int) = ((i + 1 : Nat) : Int) from by omega]
    refine ev_iload_n d_Ro_part_35 rfl rfl ?_
    refine ev_iconst (v := iZ 2) d_Ro_part_36 rfl ?_
    refine ez_iadd d_Ro_part_37 ?_
    rw [show ((i : Int) + 2 : Int) = ((i + 2 : Nat) : Int) from by omega]
    refine ev_callV M_Ro_move (rm 1 40) _ (As := [.int (iZ ((i + 1 : Nat) : Int)), .int (iZ ((i + 2 : Nat) : Int))]) (c_Ro_move G h (i + 1) (i + 2) o o1 o2 o3 o4 n K1 K2 K3 K4 ho ho1 ho2 ho3 ho4 n_o (by omega) (by omega) (by omega)) d_Ro_part_38 mk_Ro_move ml_Ro_58 mv_Ro_move ho rfl rfl rfl (Nat.le_of_ble_eq_true rfl) ⟨by decide, by decide⟩ ⟨by decide, by decide⟩ (fun r h9 hq => ?_)
    obtain ⟨rfl, ho, ho1, ho2, ho3, ho4, fmv⟩ := hq
    have fm := fm.call (by simp) fmv
    refine ev_aload_n d_Ro_part_41 rfl rfl ?_
    refine ev_dup d_Ro_part_42 rfl ?_
    refine ev_get d_Ro_part_43 fl_Ro_25 ho rfl ?_
    refine ev_iconst (v := iZ 1) d_Ro_part_46 rfl ?_
    refine ez_iadd d_Ro_part_47 ?_
    rw [show ((n : Int) + 1 : Int) = ((n + 1 : Nat) : Int) from by omega]
    refine ev_put2 (fs' := [.ref o1, .ref o2, .ref o3, .ref o4, .int (iZ ((n + 1 : Nat) : Int))]) d_Ro_part_48 fw_Ro_25 (Or.inr (fun _ _ _ q => by cases q; rfl)) ho (Nat.le_of_ble_eq_true rfl) rfl rfl rfl (fun h8 h8a h8o => ?_)
    have ho1 := (h8o _ (cne ho1 ho (by simp))).trans ho1
    have ho2 := (h8o _ (cne ho2 ho (by simp))).trans ho2
    have ho3 := (h8o _ (cne ho3 ho (by simp))).trans ho3
    have ho4 := (h8o _ (cne ho4 ho (by simp))).trans ho4
    have ho := h8a
    have fm := fm.step (by simp) h8o
    refine ev_aload_n d_Ro_part_51 rfl rfl ?_
    refine ev_get d_Ro_part_52 fl_Ro_9 ho rfl ?_
    refine ev_iload_n d_Ro_part_55 rfl rfl ?_
    refine ev_iconst (v := iZ 1) d_Ro_part_56 rfl ?_
    refine ez_iadd d_Ro_part_57 ?_
    refine ev_lload_n d_Ro_part_58 rfl rfl ?_
    refine ez_lastore (F' := zup (va_cpy K1 K1 ((i + 1)) ((i + 2)) ((n - (i + 1)))) (i + 1) t) (i + 1) d_Ro_part_59 ho1 (by omega) (by omega) (by decide) rfl (fun h9 h9a h9o => ?_)
    have ho := (h9o _ (cne ho ho1 (by simp))).trans ho
    have ho2 := (h9o _ (Ne.symm n_o)).trans ho2
    have ho3 := (h9o _ (cne ho3 ho1 (by simp))).trans ho3
    have ho4 := (h9o _ (cne ho4 ho1 (by simp))).trans ho4
    have ho1 := h9a
    have fm := fm.step (by simp) h9o
    refine ev_aload_n d_Ro_part_60 rfl rfl ?_
    refine ev_get d_Ro_part_61 fl_Ro_15 ho rfl ?_
    refine ev_iload_n d_Ro_part_64 rfl rfl ?_
    refine ev_iconst (v := iZ 1) d_Ro_part_65 rfl ?_
    refine ez_iadd d_Ro_part_66 ?_
    refine ev_aload_n d_Ro_part_67 rfl rfl ?_
    refine ev_get d_Ro_part_68 fl_Ro_15 ho rfl ?_
    refine ev_iload_n d_Ro_part_71 rfl rfl ?_
    refine ez_laload i d_Ro_part_72 ho2 (by omega) (by omega) (by decide) ?_
    refine ez_lastore (F' := zup (va_cpy K2 K2 ((i + 1)) ((i + 2)) ((n - (i + 1)))) (i + 1) ((va_cpy K2 K2 ((i + 1)) ((i + 2)) ((n - (i + 1)))) i)) (i + 1) d_Ro_part_73 ho2 (by omega) (by omega) (by decide) rfl (fun h10 h10a h10o => ?_)
    have ho := (h10o _ (cne ho ho2 (by simp))).trans ho
    have ho1 := (h10o _ n_o).trans ho1
    have ho3 := (h10o _ (cne ho3 ho2 (by simp))).trans ho3
    have ho4 := (h10o _ (cne ho4 ho2 (by simp))).trans ho4
    have ho2 := h10a
    have fm := fm.step (by simp) h10o
    refine ev_aload_n d_Ro_part_74 rfl rfl ?_
    refine ev_get d_Ro_part_75 fl_Ro_18 ho rfl ?_
    refine ev_iload_n d_Ro_part_78 rfl rfl ?_
    refine ev_iconst (v := iZ 1) d_Ro_part_79 rfl ?_
    refine ez_iadd d_Ro_part_80 ?_
    refine ev_iload d_Ro_part_81 rfl ?_
    refine ez_iastore (F' := zup (va_cpy K3 K3 ((i + 1)) ((i + 2)) ((n - (i + 1)))) (i + 1) ((K3 i) - ((spF K4 i j : Nat) : Int))) (i + 1) d_Ro_part_83 ho3 (by omega) (by omega) (by decide) rfl (fun h11 h11a h11o => ?_)
    have ho := (h11o _ (cne ho ho3 (by simp))).trans ho
    have ho1 := (h11o _ (cne ho1 ho3 (by simp))).trans ho1
    have ho2 := (h11o _ (cne ho2 ho3 (by simp))).trans ho2
    have ho4 := (h11o _ (cne ho4 ho3 (by simp))).trans ho4
    have ho3 := h11a
    have fm := fm.step (by simp) h11o
    refine ev_aload_n d_Ro_part_84 rfl rfl ?_
    refine ev_get d_Ro_part_85 fl_Ro_22 ho rfl ?_
    refine ev_iload_n d_Ro_part_88 rfl rfl ?_
    refine ev_bipush (v := iZ 64) d_Ro_part_89 rfl ?_
    refine ez_imul d_Ro_part_91 ?_
    refine ev_iload d_Ro_part_92 rfl ?_
    refine ez_iadd d_Ro_part_94 ?_
    refine ev_aload_n d_Ro_part_95 rfl rfl ?_
    refine ev_get d_Ro_part_96 fl_Ro_22 ho rfl ?_
    refine ev_iload_n d_Ro_part_99 rfl rfl ?_
    refine ev_iconst (v := iZ 1) d_Ro_part_100 rfl ?_
    refine ez_iadd d_Ro_part_101 ?_
    refine ev_bipush (v := iZ 64) d_Ro_part_102 rfl ?_
    refine ez_imul d_Ro_part_104 ?_
    refine ev_iload d_Ro_part_105 rfl ?_
    refine ez_copyi (F' := va_cpy (va_cpy K4 K4 ((i + 1) * 64) ((i + 2) * 64) ((n - (i + 1)) * 64)) (va_cpy K4 K4 ((i + 1) * 64) ((i + 2) * 64) ((n - (i + 1)) * 64)) (i * 64 + spF K4 i j) ((i + 1) * 64) ((K3 i).toNat - spF K4 i j)) (i * 64 + spF K4 i j) ((i + 1) * 64) ((K3 i).toNat - spF K4 i j) d_Ro_part_107 ml_Ro_44 nat_copy sta_copy in_System ho4 ho4 (by omega) (by omega) (by omega) (by omega) (by omega) (by decide) (by decide) (by decide) (by decide) rfl (fun h12 h12a h12o => ?_)
    have ho := (h12o _ (cne ho ho4 (by simp))).trans ho
    have ho1 := (h12o _ (cne ho1 ho4 (by simp))).trans ho1
    have ho2 := (h12o _ (cne ho2 ho4 (by simp))).trans ho2
    have ho3 := (h12o _ (cne ho3 ho4 (by simp))).trans ho3
    have ho4 := h12a
    have fm := fm.step (by simp) h12o
    refine ev_aload_n d_Ro_part_110 rfl rfl ?_
    refine ev_get d_Ro_part_111 fl_Ro_15 ho rfl ?_
    refine ev_iload_n d_Ro_part_114 rfl rfl ?_
    refine ev_lload_n d_Ro_part_115 rfl rfl ?_
    refine ez_lastore (F' := zup (zup (va_cpy K2 K2 ((i + 1)) ((i + 2)) ((n - (i + 1)))) (i + 1) ((va_cpy K2 K2 ((i + 1)) ((i + 2)) ((n - (i + 1)))) i)) i t) i d_Ro_part_116 ho2 (by omega) (by omega) (by decide) rfl (fun h13 h13a h13o => ?_)
    have ho := (h13o _ (cne ho ho2 (by simp))).trans ho
    have ho1 := (h13o _ n_o).trans ho1
    have ho3 := (h13o _ (cne ho3 ho2 (by simp))).trans ho3
    have ho4 := (h13o _ (cne ho4 ho2 (by simp))).trans ho4
    have ho2 := h13a
    have fm := fm.step (by simp) h13o
    refine ev_aload_n d_Ro_part_117 rfl rfl ?_
    refine ev_get d_Ro_part_118 fl_Ro_18 ho rfl ?_
    refine ev_iload_n d_Ro_part_121 rfl rfl ?_
    refine ev_iload_n d_Ro_part_122 rfl rfl ?_
    refine ez_iastore (F' := zup (zup (va_cpy K3 K3 ((i + 1)) ((i + 2)) ((n - (i + 1)))) (i + 1) ((K3 i) - ((spF K4 i j : Nat) : Int))) i (j : Int)) i d_Ro_part_123 ho3 (by omega) (by omega) (by decide) rfl (fun h14 h14a h14o => ?_)
    have ho := (h14o _ (cne ho ho3 (by simp))).trans ho
    have ho1 := (h14o _ (cne ho1 ho3 (by simp))).trans ho1
    have ho2 := (h14o _ (cne ho2 ho3 (by simp))).trans ho2
    have ho4 := (h14o _ (cne ho4 ho3 (by simp))).trans ho4
    have ho3 := h14a
    have fm := fm.step (by simp) h14o
    exact ev_return d_Ro_part_124 rfl (by decide) (by decide) (⟨rfl, ho, ho1, ho2, ho3, ho4, fm⟩)
set_option maxHeartbeats 4000000 in
set_option maxRecDepth 100000 in
theorem c_CB_splitB (G : GT) (h : HM) (x b xf xu xo xp xe xw xl xr : Nat) (o1 o2 o3 o4 n : Nat) (K3 : Nat → Int) (i j : Int) (hx : h x = some (.inr (0, [.ref b, .ref xf, .ref xu, .ref xo, .ref xp, .ref xe, .ref xw, .ref xl, .ref xr]))) (ho : h xo = some (.inr (2, [.ref o1, .ref o2, .ref o3, .ref o4, .int (iZ (n : Int))]))) (ho3 : h o3 = some (.inl (G_i G, 16, .inl (iA K3)))) (hn : n ≤ 16) (hZ : ∀ k, 0 ≤ K3 k ∧ K3 k ≤ 64) (hi : iR i) (hj : iR j) (hb : ¬ (0 ≤ i ∧ i < n ∧ 1 ≤ j ∧ j < K3 i.toNat)) : Rn G M_CB_split (rm 1 40) [.ref x, .int (iZ i), .int (iZ j)] h (Pu (.int (iZ (-2))) h) := by
  refine rn_of (by decide) (Nat.le_of_ble_eq_true rfl) ?_
  show Ev G M_CB_split _ _ 0 [(0, .ref x), (1, .int (iZ i)), (2, .int (iZ j))] [] _ 0 0
  refine ev_aload_n d_CB_split_0 rfl rfl ?_
  refine ev_get d_CB_split_1 fl_CB_33 hx rfl ?_
  refine ev_iload_n d_CB_split_4 rfl rfl ?_
  have hr9 := hasZ_r (n : Int) i
  refine ev_pV M_Ro_has 0 0 (As := [.int (iZ i)]) (c_Ro_has G h xo o1 o2 o3 o4 n i ho (by omega) (by omega)) d_CB_split_5 mk_Ro_has ml_CB_121 mv_Ro_has ho rfl rfl rfl (Nat.le_of_ble_eq_true rfl) ⟨by decide, by decide⟩ ⟨by decide, by decide⟩ ?_
  refine ez_if_eq (tgt := 29) (by omega) d_CB_split_8 rfl (fun c8 => ?_) (fun c8 => ?_)
  · have z8 := hasZ_0 c8
    refine ev_bipush (v := iZ (-2)) d_CB_split_29 rfl ?_
    exact ev_ireturn d_CB_split_31 rfl (by decide) (by decide) (⟨rfl, rfl⟩)
  · have z8 := hasZ_1 c8
    refine ev_iload_n d_CB_split_11 rfl rfl ?_
    refine ev_iconst (v := iZ 1) d_CB_split_12 rfl ?_
    refine ez_icmp_lt (tgt := 29) (by omega) (by decide) d_CB_split_13 rfl (fun c13 => ?_) (fun c13 => ?_)
    · refine ev_bipush (v := iZ (-2)) d_CB_split_29 rfl ?_
      exact ev_ireturn d_CB_split_31 rfl (by decide) (by decide) (⟨rfl, rfl⟩)
    · refine ev_iload_n d_CB_split_16 rfl rfl ?_
      refine ev_aload_n d_CB_split_17 rfl rfl ?_
      refine ev_get d_CB_split_18 fl_CB_33 hx rfl ?_
      refine ev_get d_CB_split_21 fl_CB_133 ho rfl ?_
      refine ev_iload_n d_CB_split_24 rfl rfl ?_
      refine ez_iaload i.toNat d_CB_split_25 ho3 (by omega) (by omega) (by decide) ?_
      have z3 := hZ i.toNat
      have hb2 : ¬ (j < K3 i.toNat) := fun q => hb ⟨z8.1, z8.2, by omega, q⟩
      refine ez_icmp_lt (tgt := 32) (by omega) (by omega) d_CB_split_26 rfl (fun c26 => absurd c26 (by omega)) (fun c26 => ?_)
      refine ev_bipush (v := iZ (-2)) d_CB_split_29 rfl ?_
      exact ev_ireturn d_CB_split_31 rfl (by decide) (by decide) (⟨rfl, rfl⟩)
set_option maxHeartbeats 4000000 in
set_option maxRecDepth 100000 in
theorem c_CB_split (G : GT) (h : HM) (x b xf xu xo xp xe xw xl xr : Nat) (o1 o2 o3 o4 pk top nx ct n : Nat) (Kp : Nat → Option Nat) (Ke : Nat → Nat) (C : Nat → Cu) (K1 K2 K3 K4 : Nat → Int) (i j : Nat) (hx : h x = some (.inr (0, [.ref b, .ref xf, .ref xu, .ref xo, .ref xp, .ref xe, .ref xw, .ref xl, .ref xr]))) (ho : h xo = some (.inr (2, [.ref o1, .ref o2, .ref o3, .ref o4, .int (iZ (n : Int))]))) (ho1 : h o1 = some (.inl (G_j G, 16, .inr (.inl (lA K1))))) (ho2 : h o2 = some (.inl (G_j G, 16, .inr (.inl (lA K2))))) (ho3 : h o3 = some (.inl (G_i G, 16, .inl (iA K3)))) (ho4 : h o4 = some (.inl (G_i G, 1024, .inl (iA K4)))) (hW : PaW G h top xp pk nx ct Kp Ke C) (hn : n ≤ 16) (hT : ∀ k, 0 ≤ K1 k ∧ K1 k ≤ 2540160000000) (hE : ∀ k, 0 ≤ K2 k ∧ K2 k ≤ 2540160000000) (hZ : ∀ k, 0 ≤ K3 k ∧ K3 k ≤ 64) (hB : ∀ k, 0 ≤ K4 k ∧ K4 k ≤ 255) (hxt : x ≤ top) (hle : xp ≤ top ∧ pk ≤ top ∧ xo ≤ top ∧ o1 ≤ top ∧ o2 ≤ top ∧ o3 ≤ top ∧ o4 ≤ top) (htop : ∃ e, h top = some e) (n_o : o1 ≠ o2) (hi : i < n) (hj : 1 ≤ j ∧ (j : Int) < K3 i) : Rn G M_CB_split ({ frames := 4, cells := 5, slots := 1077, locals := 112 }) [.ref x, .int (iZ (i : Int)), .int (iZ (j : Int))] h (fun r h' => (spBad K1 K2 K3 K4 n i j → r = some (.int (iZ (-2))) ∧ h' = h) ∧ (¬ spBad K1 K2 K3 K4 n i j → n = 16 → r = some (.int (iZ (-3))) ∧ h' = h) ∧ (¬ spBad K1 K2 K3 K4 n i j → n < 16 → r = some (.int (iZ ((n + 1 : Nat) : Int))) ∧ h' xo = some (.inr (2, [.ref o1, .ref o2, .ref o3, .ref o4, .int (iZ ((n + 1 : Nat) : Int))])) ∧ h' o1 = some (.inl (G_j G, 16, .inr (.inl (lA (spC (n, K1, K2, K3, K4) i j (spTm K1 K2 K3 K4 i j)).2.1)))) ∧ h' o2 = some (.inl (G_j G, 16, .inr (.inl (lA (spC (n, K1, K2, K3, K4) i j (spTm K1 K2 K3 K4 i j)).2.2.1)))) ∧ h' o3 = some (.inl (G_i G, 16, .inl (iA (spC (n, K1, K2, K3, K4) i j (spTm K1 K2 K3 K4 i j)).2.2.2.1))) ∧ h' o4 = some (.inl (G_i G, 1024, .inl (iA (spC (n, K1, K2, K3, K4) i j (spTm K1 K2 K3 K4 i j)).2.2.2.2))) ∧ (∃ Kp' Ke', PaW G h' top xp pk ((nx + 1) % 10) (min (ct + 1) 10) Kp' Ke' (fun j => if j = nx then (n, K1, K2, K3, K4) else C j) ∧ (∃ q, Kp' nx = some q) ∧ ∀ j, j ≠ nx → Kp' j = Kp j) ∧ Fb top [xo, o1, o2, o3, o4, xp, pk] h h')) := by
  refine rn_of (by decide) (Nat.le_of_ble_eq_true rfl) ?_
  show Ev G M_CB_split _ _ 0 [(0, .ref x), (1, .int (iZ (i : Int))), (2, .int (iZ (j : Int)))] [] _ 0 0
  have z0 := hZ i
  have t0 := hT i
  have e0 := hE i
  have t1 := hT (i + 1)
  refine ev_aload_n d_CB_split_0 rfl rfl ?_
  refine ev_get d_CB_split_1 fl_CB_33 hx rfl ?_
  refine ev_iload_n d_CB_split_4 rfl rfl ?_
  have hr9 := hasZ_r (n : Int) (i : Int)
  refine ev_pV M_Ro_has 0 0 (As := [.int (iZ (i : Int))]) (c_Ro_has G h xo o1 o2 o3 o4 n (i : Int) ho (by omega) (by omega)) d_CB_split_5 mk_Ro_has ml_CB_121 mv_Ro_has ho rfl rfl rfl (Nat.le_of_ble_eq_true rfl) ⟨by decide, by decide⟩ ⟨by decide, by decide⟩ ?_
  refine ez_if_eq (tgt := 29) (by omega) d_CB_split_8 rfl (fun c8 => ?_) (fun c8 => ?_)
  · have z8 := hasZ_0 c8
    omega
  · have z8 := hasZ_1 c8
    refine ev_iload_n d_CB_split_11 rfl rfl ?_
    refine ev_iconst (v := iZ 1) d_CB_split_12 rfl ?_
    refine ez_icmp_lt (tgt := 29) (by omega) (by decide) d_CB_split_13 rfl (fun c13 => absurd c13 (by omega)) (fun c13 => ?_)
    refine ev_iload_n d_CB_split_16 rfl rfl ?_
    refine ev_aload_n d_CB_split_17 rfl rfl ?_
    refine ev_get d_CB_split_18 fl_CB_33 hx rfl ?_
    refine ev_get d_CB_split_21 fl_CB_133 ho rfl ?_
    refine ev_iload_n d_CB_split_24 rfl rfl ?_
    refine ez_iaload i d_CB_split_25 ho3 (by omega) (by omega) (by decide) ?_
    refine ez_icmp_lt (tgt := 32) (by omega) (by omega) d_CB_split_26 rfl (fun c26 => ?_) (fun c26 => absurd c26 (by omega))
    refine ev_aload_n d_CB_split_32 rfl rfl ?_
    refine ev_get d_CB_split_33 fl_CB_33 hx rfl ?_
    refine ev_iload_n d_CB_split_36 rfl rfl ?_
    refine ev_iload_n d_CB_split_37 rfl rfl ?_
    refine ev_iconst (v := iZ 1) d_CB_split_38 rfl ?_
    refine ez_isub d_CB_split_39 ?_
    rw [show ((j : Int) - 1 : Int) = ((j - 1 : Nat) : Int) from by omega]
    refine ev_pV M_Ro_byteAt 0 0 (As := [.int (iZ (i : Int)), .int (iZ ((j - 1 : Nat) : Int))]) (c_Ro_byteAt G h xo o1 o2 o3 o4 n K4 i (j - 1) ho ho4 (by omega)) d_CB_split_40 mk_Ro_byteAt ml_CB_144 mv_Ro_byteAt ho rfl rfl rfl (Nat.le_of_ble_eq_true rfl) ⟨by decide, by decide⟩ ⟨by decide, by decide⟩ ?_
    have rb40 := hB (i * 64 + (j - 1))
    refine ev_bipush (v := iZ 10) d_CB_split_43 rfl ?_
    refine ez_icmp_ne (tgt := 51) (by omega) (by decide) d_CB_split_45 rfl (fun c45 => ?_) (fun c45 => ?_)
    · refine ev_aload_n d_CB_split_51 rfl rfl ?_
      refine ev_get d_CB_split_52 fl_CB_33 hx rfl ?_
      refine ev_iload_n d_CB_split_55 rfl rfl ?_
      refine ev_iload_n d_CB_split_56 rfl rfl ?_
      refine ev_pV M_Ro_timeBefore 2 60 (As := [.int (iZ (i : Int)), .int (iZ (j : Int))]) (c_Ro_timeBefore G h i j xo o1 o2 o3 o4 n K1 K2 K3 K4 ho ho1 ho2 ho3 ho4 hn hT hE hZ hB (by omega) (by omega)) d_CB_split_57 mk_Ro_timeBefore ml_CB_201 mv_Ro_timeBefore ho rfl rfl rfl (Nat.le_of_ble_eq_true rfl) ⟨by decide, by decide⟩ ⟨by decide, by decide⟩ ?_
      have rt : -1000000000000000 ≤ spTm K1 K2 K3 K4 i j ∧ spTm K1 K2 K3 K4 i j ≤ 1000000000000000 := splT_r (hT i) (hE i) (by have := cellsN_r K4 (i * 64) j; omega) (by have := cellsN_r K4 (i * 64) (K3 i).toNat; omega)
      refine ev_lstore_n (L' := [(0, .ref x), (1, .int (iZ (i : Int))), (2, .int (iZ (j : Int))), (3, .long (lZ (spTm K1 K2 K3 K4 i j)))]) d_CB_split_60 rfl (by decide) rfl ?_
      refine ev_lload_n d_CB_split_61 rfl rfl ?_
      refine ev_aload_n d_CB_split_62 rfl rfl ?_
      refine ev_get d_CB_split_63 fl_CB_33 hx rfl ?_
      refine ev_get d_CB_split_66 fl_CB_126 ho rfl ?_
      refine ev_iload_n d_CB_split_69 rfl rfl ?_
      refine ez_laload i d_CB_split_70 ho1 (by omega) (by omega) (by decide) ?_
      refine ev_lcmp d_CB_split_71 ?_
      refine ez_lif_le (tgt := 89) (by omega) (by omega) d_CB_split_72 rfl (fun c72 => ?_) (fun c72 => ?_)
      · refine ev_bipush (v := iZ (-2)) d_CB_split_89 rfl ?_
        exact ev_ireturn d_CB_split_91 rfl (by decide) (by decide) (⟨fun _ => ⟨rfl, rfl⟩, fun q => absurd (Or.inr (by first | exact Or.inl (by omega) | exact Or.inr (Or.inl (by omega)))) q, fun q => absurd (Or.inr (by first | exact Or.inl (by omega) | exact Or.inr (Or.inl (by omega)))) q⟩)
      · refine ev_lload_n d_CB_split_75 rfl rfl ?_
        refine ev_aload_n d_CB_split_76 rfl rfl ?_
        refine ev_get d_CB_split_77 fl_CB_33 hx rfl ?_
        refine ev_get d_CB_split_80 fl_CB_130 ho rfl ?_
        refine ev_iload_n d_CB_split_83 rfl rfl ?_
        refine ez_laload i d_CB_split_84 ho2 (by omega) (by omega) (by decide) ?_
        refine ev_lcmp d_CB_split_85 ?_
        refine ez_lif_lt (tgt := 92) (by omega) (by omega) d_CB_split_86 rfl (fun c86 => ?_) (fun c86 => ?_)
        · refine ev_iload_n d_CB_split_92 rfl rfl ?_
          refine ev_iconst (v := iZ 1) d_CB_split_93 rfl ?_
          refine ez_iadd d_CB_split_94 ?_
          refine ev_aload_n d_CB_split_95 rfl rfl ?_
          refine ev_get d_CB_split_96 fl_CB_33 hx rfl ?_
          refine ev_get d_CB_split_99 fl_CB_112 ho rfl ?_
          refine ez_icmp_ge (tgt := 124) (by omega) (by omega) d_CB_split_102 rfl (fun c102 => ?_) (fun c102 => ?_)
          · refine ev_aload_n d_CB_split_124 rfl rfl ?_
            refine ev_get d_CB_split_125 fl_CB_33 hx rfl ?_
            refine ev_get d_CB_split_128 fl_CB_112 ho rfl ?_
            refine ev_bipush (v := iZ 16) d_CB_split_131 rfl ?_
            refine ez_icmp_ne (tgt := 139) (by omega) (by decide) d_CB_split_133 rfl (fun c133 => ?_) (fun c133 => ?_)
            · refine ev_aload_n d_CB_split_139 rfl rfl ?_
              refine ev_get d_CB_split_140 fl_CB_40 hx rfl ?_
              refine ev_aload_n d_CB_split_143 rfl rfl ?_
              refine ev_get d_CB_split_144 fl_CB_33 hx rfl ?_
              refine ev_callV M_Pa_keep ({ frames := 2, cells := 5, slots := 1077, locals := 61 }) _ (As := [.ref xo]) (c_Pa_keep G h top xp pk xo o1 o2 o3 o4 nx ct n Kp Ke C K1 K2 K3 K4 hW ho ho1 ho2 ho3 ho4 hn htop hle n_o) d_CB_split_147 mk_Pa_keep ml_CB_103 mv_Pa_keep hW.2.2.1 rfl rfl rfl (Nat.le_of_ble_eq_true rfl) ⟨by decide, by decide⟩ ⟨by decide, by decide⟩ (fun r h8 hq => ?_)
              obtain ⟨rfl, ⟨Kp', Ke', hW1, hKs, hKo⟩, fb⟩ := hq
              have hx := fb _ _ hx (by omega) (ninc (cne hx hW.2.2.1 (by simp)) (ninc (cne hx hW.2.2.2.1 (by simp)) nin0))
              have ho := fb _ _ ho (by omega) (ninc (cne ho hW.2.2.1 (by simp)) (ninc (cne ho hW.2.2.2.1 (by simp)) nin0))
              have ho1 := fb _ _ ho1 (by omega) (ninc (cne ho1 hW.2.2.1 (by simp)) (ninc (cne ho1 hW.2.2.2.1 (by simp)) nin0))
              have ho2 := fb _ _ ho2 (by omega) (ninc (cne ho2 hW.2.2.1 (by simp)) (ninc (cne ho2 hW.2.2.2.1 (by simp)) nin0))
              have ho3 := fb _ _ ho3 (by omega) (ninc (cne ho3 hW.2.2.1 (by simp)) (ninc (cne ho3 hW.2.2.2.1 (by simp)) nin0))
              have ho4 := fb _ _ ho4 (by omega) (ninc (cne ho4 hW.2.2.1 (by simp)) (ninc (cne ho4 hW.2.2.2.1 (by simp)) nin0))
              have hS : ∀ b ∈ [xo, o1, o2, o3, o4], b ≤ top ∧ b ≠ xp ∧ b ≠ pk := by
                intro b hb
                simp at hb
                rcases hb with rfl | rfl | rfl | rfl | rfl
                · exact ⟨by omega, cne ho hW1.2.2.1 (by simp), cne ho hW1.2.2.2.1 (by simp)⟩
                · exact ⟨by omega, cne ho1 hW1.2.2.1 (by simp), cne ho1 hW1.2.2.2.1 (by simp)⟩
                · exact ⟨by omega, cne ho2 hW1.2.2.1 (by simp), cne ho2 hW1.2.2.2.1 (by simp)⟩
                · exact ⟨by omega, cne ho3 hW1.2.2.1 (by simp), cne ho3 hW1.2.2.2.1 (by simp)⟩
                · exact ⟨by omega, cne ho4 hW1.2.2.1 (by simp), cne ho4 hW1.2.2.2.1 (by simp)⟩
              refine ev_aload_n d_CB_split_150 rfl rfl ?_
              refine ev_get d_CB_split_151 fl_CB_33 hx rfl ?_
              refine ev_iload_n d_CB_split_154 rfl rfl ?_
              refine ev_iload_n d_CB_split_155 rfl rfl ?_
              refine ev_lload_n d_CB_split_156 rfl rfl ?_
              have hox := ho
              have ho1x := ho1
              have ho2x := ho2
              have ho3x := ho3
              have ho4x := ho4
              refine ev_callV M_Ro_part (rm 2 70) _ (As := [.int (iZ (i : Int)), .int (iZ (j : Int)), .long (lZ (spTm K1 K2 K3 K4 i j))]) (c_Ro_part G h8 i j (spTm K1 K2 K3 K4 i j) xo o1 o2 o3 o4 n K1 K2 K3 K4 ho ho1 ho2 ho3 ho4 n_o (by omega) (by omega) (by omega) (by omega) hB) d_CB_split_157 mk_Ro_part ml_CB_205 mv_Ro_part ho rfl rfl rfl (Nat.le_of_ble_eq_true rfl) ⟨by decide, by decide⟩ ⟨by decide, by decide⟩ (fun r h9 hq => ?_)
              obtain ⟨rfl, ho, ho1, ho2, ho3, ho4, fm⟩ := hq
              have hx := (fm _ (ninc (cne hx hox (by simp)) (ninc (cne hx ho1x (by simp)) (ninc (cne hx ho2x (by simp)) (ninc (cne hx ho3x (by simp)) (ninc (cne hx ho4x (by simp)) nin0)))))).trans hx
              refine ev_aload_n d_CB_split_160 rfl rfl ?_
              refine ev_get d_CB_split_161 fl_CB_33 hx rfl ?_
              refine ev_get d_CB_split_164 fl_CB_112 ho rfl ?_
              exact ev_ireturn d_CB_split_167 rfl (by decide) (by decide) (⟨fun q => absurd q (fun q => by rcases q with q | q | q | q <;> omega), fun _ q => absurd q (by omega), fun _ _ => ⟨rfl, ho, ho1, ho2, ho3, ho4, ⟨Kp', Ke', hW1.fm fm hS, hKs, hKo⟩, fb.fm fm (by simp) (by simp)⟩⟩)
            · refine ev_bipush (v := iZ (-3)) d_CB_split_136 rfl ?_
              exact ev_ireturn d_CB_split_138 rfl (by decide) (by decide) (⟨fun q => absurd q (fun q => by rcases q with q | q | q | q <;> omega), fun _ _ => ⟨rfl, rfl⟩, fun _ q => absurd q (by omega)⟩)
          · refine ev_aload_n d_CB_split_105 rfl rfl ?_
            refine ev_get d_CB_split_106 fl_CB_33 hx rfl ?_
            refine ev_get d_CB_split_109 fl_CB_126 ho rfl ?_
            refine ev_iload_n d_CB_split_112 rfl rfl ?_
            refine ev_iconst (v := iZ 1) d_CB_split_113 rfl ?_
            refine ez_iadd d_CB_split_114 ?_
            refine ez_laload (i + 1) d_CB_split_115 ho1 (by omega) (by omega) (by decide) ?_
            refine ev_lload_n d_CB_split_116 rfl rfl ?_
            refine ev_lcmp d_CB_split_117 ?_
            refine ez_lif_ge (tgt := 124) (by omega) (by omega) d_CB_split_118 rfl (fun c118 => ?_) (fun c118 => ?_)
            · refine ev_aload_n d_CB_split_124 rfl rfl ?_
              refine ev_get d_CB_split_125 fl_CB_33 hx rfl ?_
              refine ev_get d_CB_split_128 fl_CB_112 ho rfl ?_
              refine ev_bipush (v := iZ 16) d_CB_split_131 rfl ?_
              refine ez_icmp_ne (tgt := 139) (by omega) (by decide) d_CB_split_133 rfl (fun c133 => ?_) (fun c133 => ?_)
              · refine ev_aload_n d_CB_split_139 rfl rfl ?_
                refine ev_get d_CB_split_140 fl_CB_40 hx rfl ?_
                refine ev_aload_n d_CB_split_143 rfl rfl ?_
                refine ev_get d_CB_split_144 fl_CB_33 hx rfl ?_
                refine ev_callV M_Pa_keep ({ frames := 2, cells := 5, slots := 1077, locals := 61 }) _ (As := [.ref xo]) (c_Pa_keep G h top xp pk xo o1 o2 o3 o4 nx ct n Kp Ke C K1 K2 K3 K4 hW ho ho1 ho2 ho3 ho4 hn htop hle n_o) d_CB_split_147 mk_Pa_keep ml_CB_103 mv_Pa_keep hW.2.2.1 rfl rfl rfl (Nat.le_of_ble_eq_true rfl) ⟨by decide, by decide⟩ ⟨by decide, by decide⟩ (fun r h8 hq => ?_)
                obtain ⟨rfl, ⟨Kp', Ke', hW1, hKs, hKo⟩, fb⟩ := hq
                have hx := fb _ _ hx (by omega) (ninc (cne hx hW.2.2.1 (by simp)) (ninc (cne hx hW.2.2.2.1 (by simp)) nin0))
                have ho := fb _ _ ho (by omega) (ninc (cne ho hW.2.2.1 (by simp)) (ninc (cne ho hW.2.2.2.1 (by simp)) nin0))
                have ho1 := fb _ _ ho1 (by omega) (ninc (cne ho1 hW.2.2.1 (by simp)) (ninc (cne ho1 hW.2.2.2.1 (by simp)) nin0))
                have ho2 := fb _ _ ho2 (by omega) (ninc (cne ho2 hW.2.2.1 (by simp)) (ninc (cne ho2 hW.2.2.2.1 (by simp)) nin0))
                have ho3 := fb _ _ ho3 (by omega) (ninc (cne ho3 hW.2.2.1 (by simp)) (ninc (cne ho3 hW.2.2.2.1 (by simp)) nin0))
                have ho4 := fb _ _ ho4 (by omega) (ninc (cne ho4 hW.2.2.1 (by simp)) (ninc (cne ho4 hW.2.2.2.1 (by simp)) nin0))
                have hS : ∀ b ∈ [xo, o1, o2, o3, o4], b ≤ top ∧ b ≠ xp ∧ b ≠ pk := by
                  intro b hb
                  simp at hb
                  rcases hb with rfl | rfl | rfl | rfl | rfl
                  · exact ⟨by omega, cne ho hW1.2.2.1 (by simp), cne ho hW1.2.2.2.1 (by simp)⟩
                  · exact ⟨by omega, cne ho1 hW1.2.2.1 (by simp), cne ho1 hW1.2.2.2.1 (by simp)⟩
                  · exact ⟨by omega, cne ho2 hW1.2.2.1 (by simp), cne ho2 hW1.2.2.2.1 (by simp)⟩
                  · exact ⟨by omega, cne ho3 hW1.2.2.1 (by simp), cne ho3 hW1.2.2.2.1 (by simp)⟩
                  · exact ⟨by omega, cne ho4 hW1.2.2.1 (by simp), cne ho4 hW1.2.2.2.1 (by simp)⟩
                refine ev_aload_n d_CB_split_150 rfl rfl ?_
                refine ev_get d_CB_split_151 fl_CB_33 hx rfl ?_
                refine ev_iload_n d_CB_split_154 rfl rfl ?_
                refine ev_iload_n d_CB_split_155 rfl rfl ?_
                refine ev_lload_n d_CB_split_156 rfl rfl ?_
                have hox := ho
                have ho1x := ho1
                have ho2x := ho2
                have ho3x := ho3
                have ho4x := ho4
                refine ev_callV M_Ro_part (rm 2 70) _ (As := [.int (iZ (i : Int)), .int (iZ (j : Int)), .long (lZ (spTm K1 K2 K3 K4 i j))]) (c_Ro_part G h8 i j (spTm K1 K2 K3 K4 i j) xo o1 o2 o3 o4 n K1 K2 K3 K4 ho ho1 ho2 ho3 ho4 n_o (by omega) (by omega) (by omega) (by omega) hB) d_CB_split_157 mk_Ro_part ml_CB_205 mv_Ro_part ho rfl rfl rfl (Nat.le_of_ble_eq_true rfl) ⟨by decide, by decide⟩ ⟨by decide, by decide⟩ (fun r h9 hq => ?_)
                obtain ⟨rfl, ho, ho1, ho2, ho3, ho4, fm⟩ := hq
                have hx := (fm _ (ninc (cne hx hox (by simp)) (ninc (cne hx ho1x (by simp)) (ninc (cne hx ho2x (by simp)) (ninc (cne hx ho3x (by simp)) (ninc (cne hx ho4x (by simp)) nin0)))))).trans hx
                refine ev_aload_n d_CB_split_160 rfl rfl ?_
                refine ev_get d_CB_split_161 fl_CB_33 hx rfl ?_
                refine ev_get d_CB_split_164 fl_CB_112 ho rfl ?_
                exact ev_ireturn d_CB_split_167 rfl (by decide) (by decide) (⟨fun q => absurd q (fun q => by rcases q with q | q | q | q <;> omega), fun _ q => absurd q (by omega), fun _ _ => ⟨rfl, ho, ho1, ho2, ho3, ho4, ⟨Kp', Ke', hW1.fm fm hS, hKs, hKo⟩, fb.fm fm (by simp) (by simp)⟩⟩)
              · refine ev_bipush (v := iZ (-3)) d_CB_split_136 rfl ?_
                exact ev_ireturn d_CB_split_138 rfl (by decide) (by decide) (⟨fun q => absurd q (fun q => by rcases q with q | q | q | q <;> omega), fun _ _ => ⟨rfl, rfl⟩, fun _ q => absurd q (by omega)⟩)
            · refine ev_bipush (v := iZ (-2)) d_CB_split_121 rfl ?_
              exact ev_ireturn d_CB_split_123 rfl (by decide) (by decide) (⟨fun _ => ⟨rfl, rfl⟩, fun q => absurd (Or.inr (Or.inr (Or.inr ⟨by omega, by omega⟩))) q, fun q => absurd (Or.inr (Or.inr (Or.inr ⟨by omega, by omega⟩))) q⟩)
        · refine ev_bipush (v := iZ (-2)) d_CB_split_89 rfl ?_
          exact ev_ireturn d_CB_split_91 rfl (by decide) (by decide) (⟨fun _ => ⟨rfl, rfl⟩, fun q => absurd (Or.inr (by first | exact Or.inl (by omega) | exact Or.inr (Or.inl (by omega)))) q, fun q => absurd (Or.inr (by first | exact Or.inl (by omega) | exact Or.inr (Or.inl (by omega)))) q⟩)
    · refine ev_bipush (v := iZ (-2)) d_CB_split_48 rfl ?_
      exact ev_ireturn d_CB_split_50 rfl (by decide) (by decide) (⟨fun _ => ⟨rfl, rfl⟩, fun q => absurd (Or.inl (by omega)) q, fun q => absurd (Or.inl (by omega)) q⟩)
