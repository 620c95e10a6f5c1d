theorem d_Mo_findWays_0 : decode M_Mo_findWays.2.1 0 = .ok (.iload_n 1, 1) := by decide +kernel
theorem d_Mo_findWays_1 : decode M_Mo_findWays.2.1 1 = .ok (.iconst 2, 1) := by decide +kernel
theorem d_Mo_findWays_2 : decode M_Mo_findWays.2.1 2 = .ok (.irem, 1) := by decide +kernel
theorem d_Mo_findWays_3 : decode M_Mo_findWays.2.1 3 = .ok (.bipush 97, 2) := by decide +kernel
theorem d_Mo_findWays_5 : decode M_Mo_findWays.2.1 5 = .ok (.imul, 1) := by decide +kernel
theorem d_Mo_findWays_6 : decode M_Mo_findWays.2.1 6 = .ok (.istore_n 2, 1) := by decide +kernel
theorem d_Mo_findWays_7 : decode M_Mo_findWays.2.1 7 = .ok (.iconst 0, 1) := by decide +kernel
theorem d_Mo_findWays_8 : decode M_Mo_findWays.2.1 8 = .ok (.istore_n 3, 1) := by decide +kernel
theorem d_Mo_findWays_9 : decode M_Mo_findWays.2.1 9 = .ok (.iload_n 3, 1) := by decide +kernel
theorem d_Mo_findWays_10 : decode M_Mo_findWays.2.1 10 = .ok (.bipush 97, 2) := by decide +kernel
theorem d_Mo_findWays_12 : decode M_Mo_findWays.2.1 12 = .ok (.if_icmp .ge 18, 3) := by decide +kernel
theorem d_Mo_findWays_15 : decode M_Mo_findWays.2.1 15 = .ok (.aload_n 0, 1) := by decide +kernel
theorem d_Mo_findWays_16 : decode M_Mo_findWays.2.1 16 = .ok (.getfield 75, 3) := by decide +kernel
theorem d_Mo_findWays_19 : decode M_Mo_findWays.2.1 19 = .ok (.iload_n 2, 1) := by decide +kernel
theorem d_Mo_findWays_20 : decode M_Mo_findWays.2.1 20 = .ok (.iload_n 3, 1) := by decide +kernel
theorem d_Mo_findWays_21 : decode M_Mo_findWays.2.1 21 = .ok (.iadd, 1) := by decide +kernel
theorem d_Mo_findWays_22 : decode M_Mo_findWays.2.1 22 = .ok (.iconst (-1), 1) := by decide +kernel
theorem d_Mo_findWays_23 : decode M_Mo_findWays.2.1 23 = .ok (.iastore, 1) := by decide +kernel
theorem d_Mo_findWays_24 : decode M_Mo_findWays.2.1 24 = .ok (.iinc 3 1, 3) := by decide +kernel
theorem d_Mo_findWays_27 : decode M_Mo_findWays.2.1 27 = .ok (.goto (-18), 3) := by decide +kernel
theorem d_Mo_findWays_30 : decode M_Mo_findWays.2.1 30 = .ok (.aload_n 0, 1) := by decide +kernel
theorem d_Mo_findWays_31 : decode M_Mo_findWays.2.1 31 = .ok (.getfield 20, 3) := by decide +kernel
theorem d_Mo_findWays_34 : decode M_Mo_findWays.2.1 34 = .ok (.iload_n 1, 1) := by decide +kernel
theorem d_Mo_findWays_35 : decode M_Mo_findWays.2.1 35 = .ok (.laload, 1) := by decide +kernel
theorem d_Mo_findWays_36 : decode M_Mo_findWays.2.1 36 = .ok (.aload_n 0, 1) := by decide +kernel
theorem d_Mo_findWays_37 : decode M_Mo_findWays.2.1 37 = .ok (.invokevirtual 134, 3) := by decide +kernel
theorem d_Mo_findWays_40 : decode M_Mo_findWays.2.1 40 = .ok (.invokestatic 189, 3) := by decide +kernel
theorem d_Mo_findWays_43 : decode M_Mo_findWays.2.1 43 = .ok (.lstore_n 3, 1) := by decide +kernel
theorem d_Mo_findWays_44 : decode M_Mo_findWays.2.1 44 = .ok (.aload_n 0, 1) := by decide +kernel
theorem d_Mo_findWays_45 : decode M_Mo_findWays.2.1 45 = .ok (.getfield 24, 3) := by decide +kernel
theorem d_Mo_findWays_48 : decode M_Mo_findWays.2.1 48 = .ok (.iload_n 1, 1) := by decide +kernel
theorem d_Mo_findWays_49 : decode M_Mo_findWays.2.1 49 = .ok (.laload, 1) := by decide +kernel
theorem d_Mo_findWays_50 : decode M_Mo_findWays.2.1 50 = .ok (.aload_n 0, 1) := by decide +kernel
theorem d_Mo_findWays_51 : decode M_Mo_findWays.2.1 51 = .ok (.invokevirtual 134, 3) := by decide +kernel
theorem d_Mo_findWays_54 : decode M_Mo_findWays.2.1 54 = .ok (.invokestatic 189, 3) := by decide +kernel
theorem d_Mo_findWays_57 : decode M_Mo_findWays.2.1 57 = .ok (.lstore 5, 2) := by decide +kernel
theorem d_Mo_findWays_59 : decode M_Mo_findWays.2.1 59 = .ok (.iconst 0, 1) := by decide +kernel
theorem d_Mo_findWays_60 : decode M_Mo_findWays.2.1 60 = .ok (.istore 7, 2) := by decide +kernel
theorem d_Mo_findWays_62 : decode M_Mo_findWays.2.1 62 = .ok (.iconst 0, 1) := by decide +kernel
theorem d_Mo_findWays_63 : decode M_Mo_findWays.2.1 63 = .ok (.istore 8, 2) := by decide +kernel
theorem d_Mo_findWays_65 : decode M_Mo_findWays.2.1 65 = .ok (.iload 8, 2) := by decide +kernel
theorem d_Mo_findWays_67 : decode M_Mo_findWays.2.1 67 = .ok (.bipush 25, 2) := by decide +kernel
theorem d_Mo_findWays_69 : decode M_Mo_findWays.2.1 69 = .ok (.if_icmp .ge 144, 3) := by decide +kernel
theorem d_Mo_findWays_72 : decode M_Mo_findWays.2.1 72 = .ok (.lload_n 3, 1) := by decide +kernel
theorem d_Mo_findWays_73 : decode M_Mo_findWays.2.1 73 = .ok (.ldc2_w 242, 3) := by decide +kernel
theorem d_Mo_findWays_76 : decode M_Mo_findWays.2.1 76 = .ok (.lsub, 1) := by decide +kernel
theorem d_Mo_findWays_77 : decode M_Mo_findWays.2.1 77 = .ok (.iload 8, 2) := by decide +kernel
theorem d_Mo_findWays_79 : decode M_Mo_findWays.2.1 79 = .ok (.i2l, 1) := by decide +kernel
theorem d_Mo_findWays_80 : decode M_Mo_findWays.2.1 80 = .ok (.ladd, 1) := by decide +kernel
theorem d_Mo_findWays_81 : decode M_Mo_findWays.2.1 81 = .ok (.lstore 9, 2) := by decide +kernel
theorem d_Mo_findWays_83 : decode M_Mo_findWays.2.1 83 = .ok (.iload_n 1, 1) := by decide +kernel
theorem d_Mo_findWays_84 : decode M_Mo_findWays.2.1 84 = .ok (.ifCond .ne 7, 3) := by decide +kernel
theorem d_Mo_findWays_87 : decode M_Mo_findWays.2.1 87 = .ok (.iconst (-1), 1) := by decide +kernel
theorem d_Mo_findWays_88 : decode M_Mo_findWays.2.1 88 = .ok (.goto 10, 3) := by decide +kernel
theorem d_Mo_findWays_91 : decode M_Mo_findWays.2.1 91 = .ok (.aload_n 0, 1) := by decide +kernel
theorem d_Mo_findWays_92 : decode M_Mo_findWays.2.1 92 = .ok (.iload_n 1, 1) := by decide +kernel
theorem d_Mo_findWays_93 : decode M_Mo_findWays.2.1 93 = .ok (.lload 9, 2) := by decide +kernel
theorem d_Mo_findWays_95 : decode M_Mo_findWays.2.1 95 = .ok (.invokevirtual 244, 3) := by decide +kernel
theorem d_Mo_findWays_98 : decode M_Mo_findWays.2.1 98 = .ok (.istore 11, 2) := by decide +kernel
theorem d_Mo_findWays_100 : decode M_Mo_findWays.2.1 100 = .ok (.iconst 0, 1) := by decide +kernel
theorem d_Mo_findWays_101 : decode M_Mo_findWays.2.1 101 = .ok (.istore 12, 2) := by decide +kernel
theorem d_Mo_findWays_103 : decode M_Mo_findWays.2.1 103 = .ok (.iload 12, 2) := by decide +kernel
theorem d_Mo_findWays_105 : decode M_Mo_findWays.2.1 105 = .ok (.bipush 97, 2) := by decide +kernel
theorem d_Mo_findWays_107 : decode M_Mo_findWays.2.1 107 = .ok (.if_icmp .ge 100, 3) := by decide +kernel
theorem d_Mo_findWays_110 : decode M_Mo_findWays.2.1 110 = .ok (.iload_n 1, 1) := by decide +kernel
theorem d_Mo_findWays_111 : decode M_Mo_findWays.2.1 111 = .ok (.ifCond .eq 8, 3) := by decide +kernel
theorem d_Mo_findWays_114 : decode M_Mo_findWays.2.1 114 = .ok (.iload 11, 2) := by decide +kernel
theorem d_Mo_findWays_116 : decode M_Mo_findWays.2.1 116 = .ok (.ifCond .lt 91, 3) := by decide +kernel
theorem d_Mo_findWays_119 : decode M_Mo_findWays.2.1 119 = .ok (.lload 5, 2) := by decide +kernel
theorem d_Mo_findWays_121 : decode M_Mo_findWays.2.1 121 = .ok (.ldc2_w 236, 3) := by decide +kernel
theorem d_Mo_findWays_124 : decode M_Mo_findWays.2.1 124 = .ok (.lsub, 1) := by decide +kernel
theorem d_Mo_findWays_125 : decode M_Mo_findWays.2.1 125 = .ok (.iload 12, 2) := by decide +kernel
theorem d_Mo_findWays_127 : decode M_Mo_findWays.2.1 127 = .ok (.i2l, 1) := by decide +kernel
theorem d_Mo_findWays_128 : decode M_Mo_findWays.2.1 128 = .ok (.ladd, 1) := by decide +kernel
theorem d_Mo_findWays_129 : decode M_Mo_findWays.2.1 129 = .ok (.lstore 13, 2) := by decide +kernel
theorem d_Mo_findWays_131 : decode M_Mo_findWays.2.1 131 = .ok (.aload_n 0, 1) := by decide +kernel
theorem d_Mo_findWays_132 : decode M_Mo_findWays.2.1 132 = .ok (.iload_n 1, 1) := by decide +kernel
theorem d_Mo_findWays_133 : decode M_Mo_findWays.2.1 133 = .ok (.lload 9, 2) := by decide +kernel
theorem d_Mo_findWays_135 : decode M_Mo_findWays.2.1 135 = .ok (.lload 13, 2) := by decide +kernel
theorem d_Mo_findWays_137 : decode M_Mo_findWays.2.1 137 = .ok (.invokevirtual 248, 3) := by decide +kernel
theorem d_Mo_findWays_140 : decode M_Mo_findWays.2.1 140 = .ok (.ifCond .eq 61, 3) := by decide +kernel
theorem d_Mo_findWays_143 : decode M_Mo_findWays.2.1 143 = .ok (.lload 9, 2) := by decide +kernel
theorem d_Mo_findWays_145 : decode M_Mo_findWays.2.1 145 = .ok (.lload_n 3, 1) := by decide +kernel
theorem d_Mo_findWays_146 : decode M_Mo_findWays.2.1 146 = .ok (.invokestatic 252, 3) := by decide +kernel
theorem d_Mo_findWays_149 : decode M_Mo_findWays.2.1 149 = .ok (.lload 13, 2) := by decide +kernel
theorem d_Mo_findWays_151 : decode M_Mo_findWays.2.1 151 = .ok (.lload 5, 2) := by decide +kernel
theorem d_Mo_findWays_153 : decode M_Mo_findWays.2.1 153 = .ok (.invokestatic 252, 3) := by decide +kernel
theorem d_Mo_findWays_156 : decode M_Mo_findWays.2.1 156 = .ok (.ladd, 1) := by decide +kernel
theorem d_Mo_findWays_157 : decode M_Mo_findWays.2.1 157 = .ok (.l2i, 1) := by decide +kernel
theorem d_Mo_findWays_158 : decode M_Mo_findWays.2.1 158 = .ok (.iload_n 1, 1) := by decide +kernel
theorem d_Mo_findWays_159 : decode M_Mo_findWays.2.1 159 = .ok (.ifCond .ne 7, 3) := by decide +kernel
theorem d_Mo_findWays_162 : decode M_Mo_findWays.2.1 162 = .ok (.iconst 0, 1) := by decide +kernel
theorem d_Mo_findWays_163 : decode M_Mo_findWays.2.1 163 = .ok (.goto 19, 3) := by decide +kernel
theorem d_Mo_findWays_166 : decode M_Mo_findWays.2.1 166 = .ok (.aload_n 0, 1) := by decide +kernel
theorem d_Mo_findWays_167 : decode M_Mo_findWays.2.1 167 = .ok (.getfield 75, 3) := by decide +kernel
theorem d_Mo_findWays_170 : decode M_Mo_findWays.2.1 170 = .ok (.iload_n 1, 1) := by decide +kernel
theorem d_Mo_findWays_171 : decode M_Mo_findWays.2.1 171 = .ok (.iconst 1, 1) := by decide +kernel
theorem d_Mo_findWays_172 : decode M_Mo_findWays.2.1 172 = .ok (.isub, 1) := by decide +kernel
theorem d_Mo_findWays_173 : decode M_Mo_findWays.2.1 173 = .ok (.iconst 2, 1) := by decide +kernel
theorem d_Mo_findWays_174 : decode M_Mo_findWays.2.1 174 = .ok (.irem, 1) := by decide +kernel
theorem d_Mo_findWays_175 : decode M_Mo_findWays.2.1 175 = .ok (.bipush 97, 2) := by decide +kernel
theorem d_Mo_findWays_177 : decode M_Mo_findWays.2.1 177 = .ok (.imul, 1) := by decide +kernel
theorem d_Mo_findWays_178 : decode M_Mo_findWays.2.1 178 = .ok (.iload 11, 2) := by decide +kernel
theorem d_Mo_findWays_180 : decode M_Mo_findWays.2.1 180 = .ok (.iadd, 1) := by decide +kernel
theorem d_Mo_findWays_181 : decode M_Mo_findWays.2.1 181 = .ok (.iaload, 1) := by decide +kernel
theorem d_Mo_findWays_182 : decode M_Mo_findWays.2.1 182 = .ok (.iadd, 1) := by decide +kernel
theorem d_Mo_findWays_183 : decode M_Mo_findWays.2.1 183 = .ok (.istore 15, 2) := by decide +kernel
theorem d_Mo_findWays_185 : decode M_Mo_findWays.2.1 185 = .ok (.aload_n 0, 1) := by decide +kernel
theorem d_Mo_findWays_186 : decode M_Mo_findWays.2.1 186 = .ok (.iload_n 1, 1) := by decide +kernel
theorem d_Mo_findWays_187 : decode M_Mo_findWays.2.1 187 = .ok (.iload 12, 2) := by decide +kernel
theorem d_Mo_findWays_189 : decode M_Mo_findWays.2.1 189 = .ok (.iload 8, 2) := by decide +kernel
theorem d_Mo_findWays_191 : decode M_Mo_findWays.2.1 191 = .ok (.iload 15, 2) := by decide +kernel
theorem d_Mo_findWays_193 : decode M_Mo_findWays.2.1 193 = .ok (.iload 11, 2) := by decide +kernel
theorem d_Mo_findWays_195 : decode M_Mo_findWays.2.1 195 = .ok (.invokevirtual 255, 3) := by decide +kernel
theorem d_Mo_findWays_198 : decode M_Mo_findWays.2.1 198 = .ok (.iconst 1, 1) := by decide +kernel
theorem d_Mo_findWays_199 : decode M_Mo_findWays.2.1 199 = .ok (.istore 7, 2) := by decide +kernel
theorem d_Mo_findWays_201 : decode M_Mo_findWays.2.1 201 = .ok (.iinc 12 1, 3) := by decide +kernel
theorem d_Mo_findWays_204 : decode M_Mo_findWays.2.1 204 = .ok (.goto (-101), 3) := by decide +kernel
theorem d_Mo_findWays_207 : decode M_Mo_findWays.2.1 207 = .ok (.iinc 8 1, 3) := by decide +kernel
theorem d_Mo_findWays_210 : decode M_Mo_findWays.2.1 210 = .ok (.goto (-145), 3) := by decide +kernel
theorem d_Mo_findWays_213 : decode M_Mo_findWays.2.1 213 = .ok (.iload 7, 2) := by decide +kernel
theorem d_Mo_findWays_215 : decode M_Mo_findWays.2.1 215 = .ok (.ireturn, 1) := by decide +kernel
theorem d_Mo_repair_0 : decode M_Mo_repair.2.1 0 = .ok (.iconst 0, 1) := by decide +kernel
theorem d_Mo_repair_1 : decode M_Mo_repair.2.1 1 = .ok (.istore_n 1, 1) := by decide +kernel
theorem d_Mo_repair_2 : decode M_Mo_repair.2.1 2 = .ok (.iload_n 1, 1) := by decide +kernel
theorem d_Mo_repair_3 : decode M_Mo_repair.2.1 3 = .ok (.aload_n 0, 1) := by decide +kernel
theorem d_Mo_repair_4 : decode M_Mo_repair.2.1 4 = .ok (.getfield 92, 3) := by decide +kernel
theorem d_Mo_repair_7 : decode M_Mo_repair.2.1 7 = .ok (.if_icmp .ge 22, 3) := by decide +kernel
theorem d_Mo_repair_10 : decode M_Mo_repair.2.1 10 = .ok (.aload_n 0, 1) := by decide +kernel
theorem d_Mo_repair_11 : decode M_Mo_repair.2.1 11 = .ok (.iload_n 1, 1) := by decide +kernel
theorem d_Mo_repair_12 : decode M_Mo_repair.2.1 12 = .ok (.invokevirtual 259, 3) := by decide +kernel
theorem d_Mo_repair_15 : decode M_Mo_repair.2.1 15 = .ok (.ifCond .ne 8, 3) := by decide +kernel
theorem d_Mo_repair_18 : decode M_Mo_repair.2.1 18 = .ok (.bipush (-10), 2) := by decide +kernel
theorem d_Mo_repair_20 : decode M_Mo_repair.2.1 20 = .ok (.iload_n 1, 1) := by decide +kernel
theorem d_Mo_repair_21 : decode M_Mo_repair.2.1 21 = .ok (.isub, 1) := by decide +kernel
theorem d_Mo_repair_22 : decode M_Mo_repair.2.1 22 = .ok (.ireturn, 1) := by decide +kernel
theorem d_Mo_repair_23 : decode M_Mo_repair.2.1 23 = .ok (.iinc 1 1, 3) := by decide +kernel
theorem d_Mo_repair_26 : decode M_Mo_repair.2.1 26 = .ok (.goto (-24), 3) := by decide +kernel
theorem d_Mo_repair_29 : decode M_Mo_repair.2.1 29 = .ok (.aload_n 0, 1) := by decide +kernel
theorem d_Mo_repair_30 : decode M_Mo_repair.2.1 30 = .ok (.invokevirtual 176, 3) := by decide +kernel
theorem d_Mo_repair_33 : decode M_Mo_repair.2.1 33 = .ok (.aload_n 0, 1) := by decide +kernel
theorem d_Mo_repair_34 : decode M_Mo_repair.2.1 34 = .ok (.getfield 92, 3) := by decide +kernel
theorem d_Mo_repair_37 : decode M_Mo_repair.2.1 37 = .ok (.ifCond .ne 5, 3) := by decide +kernel
theorem d_Mo_repair_40 : decode M_Mo_repair.2.1 40 = .ok (.iconst 0, 1) := by decide +kernel
theorem d_Mo_repair_41 : decode M_Mo_repair.2.1 41 = .ok (.ireturn, 1) := by decide +kernel
theorem d_Mo_repair_42 : decode M_Mo_repair.2.1 42 = .ok (.iconst (-1), 1) := by decide +kernel
theorem d_Mo_repair_43 : decode M_Mo_repair.2.1 43 = .ok (.istore_n 1, 1) := by decide +kernel
theorem d_Mo_repair_44 : decode M_Mo_repair.2.1 44 = .ok (.aload_n 0, 1) := by decide +kernel
theorem d_Mo_repair_45 : decode M_Mo_repair.2.1 45 = .ok (.getfield 92, 3) := by decide +kernel
theorem d_Mo_repair_48 : decode M_Mo_repair.2.1 48 = .ok (.iconst 1, 1) := by decide +kernel
theorem d_Mo_repair_49 : decode M_Mo_repair.2.1 49 = .ok (.isub, 1) := by decide +kernel
theorem d_Mo_repair_50 : decode M_Mo_repair.2.1 50 = .ok (.iconst 2, 1) := by decide +kernel
theorem d_Mo_repair_51 : decode M_Mo_repair.2.1 51 = .ok (.irem, 1) := by decide +kernel
theorem d_Mo_repair_52 : decode M_Mo_repair.2.1 52 = .ok (.bipush 97, 2) := by decide +kernel
theorem d_Mo_repair_54 : decode M_Mo_repair.2.1 54 = .ok (.imul, 1) := by decide +kernel
theorem d_Mo_repair_55 : decode M_Mo_repair.2.1 55 = .ok (.istore_n 2, 1) := by decide +kernel
theorem d_Mo_repair_56 : decode M_Mo_repair.2.1 56 = .ok (.iconst 0, 1) := by decide +kernel
theorem d_Mo_repair_57 : decode M_Mo_repair.2.1 57 = .ok (.istore_n 3, 1) := by decide +kernel
theorem d_Mo_repair_58 : decode M_Mo_repair.2.1 58 = .ok (.iload_n 3, 1) := by decide +kernel
theorem d_Mo_repair_59 : decode M_Mo_repair.2.1 59 = .ok (.bipush 97, 2) := by decide +kernel
theorem d_Mo_repair_61 : decode M_Mo_repair.2.1 61 = .ok (.if_icmp .ge 45, 3) := by decide +kernel
theorem d_Mo_repair_64 : decode M_Mo_repair.2.1 64 = .ok (.aload_n 0, 1) := by decide +kernel
theorem d_Mo_repair_65 : decode M_Mo_repair.2.1 65 = .ok (.getfield 75, 3) := by decide +kernel
theorem d_Mo_repair_68 : decode M_Mo_repair.2.1 68 = .ok (.iload_n 2, 1) := by decide +kernel
theorem d_Mo_repair_69 : decode M_Mo_repair.2.1 69 = .ok (.iload_n 3, 1) := by decide +kernel
theorem d_Mo_repair_70 : decode M_Mo_repair.2.1 70 = .ok (.iadd, 1) := by decide +kernel
theorem d_Mo_repair_71 : decode M_Mo_repair.2.1 71 = .ok (.iaload, 1) := by decide +kernel
theorem d_Mo_repair_72 : decode M_Mo_repair.2.1 72 = .ok (.ifCond .lt 26, 3) := by decide +kernel
theorem d_Mo_repair_75 : decode M_Mo_repair.2.1 75 = .ok (.iload_n 1, 1) := by decide +kernel
theorem d_Mo_repair_76 : decode M_Mo_repair.2.1 76 = .ok (.ifCond .lt 18, 3) := by decide +kernel
theorem d_Mo_repair_79 : decode M_Mo_repair.2.1 79 = .ok (.aload_n 0, 1) := by decide +kernel
theorem d_Mo_repair_80 : decode M_Mo_repair.2.1 80 = .ok (.aload_n 0, 1) := by decide +kernel
theorem d_Mo_repair_81 : decode M_Mo_repair.2.1 81 = .ok (.getfield 92, 3) := by decide +kernel
theorem d_Mo_repair_84 : decode M_Mo_repair.2.1 84 = .ok (.iconst 1, 1) := by decide +kernel
theorem d_Mo_repair_85 : decode M_Mo_repair.2.1 85 = .ok (.isub, 1) := by decide +kernel
theorem d_Mo_repair_86 : decode M_Mo_repair.2.1 86 = .ok (.iload_n 3, 1) := by decide +kernel
theorem d_Mo_repair_87 : decode M_Mo_repair.2.1 87 = .ok (.iload_n 1, 1) := by decide +kernel
theorem d_Mo_repair_88 : decode M_Mo_repair.2.1 88 = .ok (.invokevirtual 238, 3) := by decide +kernel
theorem d_Mo_repair_91 : decode M_Mo_repair.2.1 91 = .ok (.ifCond .eq 7, 3) := by decide +kernel
theorem d_Mo_repair_94 : decode M_Mo_repair.2.1 94 = .ok (.iload_n 3, 1) := by decide +kernel
theorem d_Mo_repair_95 : decode M_Mo_repair.2.1 95 = .ok (.goto 4, 3) := by decide +kernel
theorem d_Mo_repair_98 : decode M_Mo_repair.2.1 98 = .ok (.iload_n 1, 1) := by decide +kernel
theorem d_Mo_repair_99 : decode M_Mo_repair.2.1 99 = .ok (.istore_n 1, 1) := by decide +kernel
theorem d_Mo_repair_100 : decode M_Mo_repair.2.1 100 = .ok (.iinc 3 1, 3) := by decide +kernel
theorem d_Mo_repair_103 : decode M_Mo_repair.2.1 103 = .ok (.goto (-45), 3) := by decide +kernel
theorem d_Mo_repair_106 : decode M_Mo_repair.2.1 106 = .ok (.aload_n 0, 1) := by decide +kernel
theorem d_Mo_repair_107 : decode M_Mo_repair.2.1 107 = .ok (.invokevirtual 134, 3) := by decide +kernel
theorem d_Mo_repair_110 : decode M_Mo_repair.2.1 110 = .ok (.lstore_n 3, 1) := by decide +kernel
theorem d_Mo_repair_111 : decode M_Mo_repair.2.1 111 = .ok (.iconst 0, 1) := by decide +kernel
theorem d_Mo_repair_112 : decode M_Mo_repair.2.1 112 = .ok (.istore 5, 2) := by decide +kernel
theorem d_Mo_repair_114 : decode M_Mo_repair.2.1 114 = .ok (.iload 5, 2) := by decide +kernel
theorem d_Mo_repair_116 : decode M_Mo_repair.2.1 116 = .ok (.aload_n 0, 1) := by decide +kernel
theorem d_Mo_repair_117 : decode M_Mo_repair.2.1 117 = .ok (.getfield 92, 3) := by decide +kernel
theorem d_Mo_repair_120 : decode M_Mo_repair.2.1 120 = .ok (.if_icmp .ge 89, 3) := by decide +kernel
theorem d_Mo_repair_123 : decode M_Mo_repair.2.1 123 = .ok (.aload_n 0, 1) := by decide +kernel
theorem d_Mo_repair_124 : decode M_Mo_repair.2.1 124 = .ok (.getfield 78, 3) := by decide +kernel
theorem d_Mo_repair_127 : decode M_Mo_repair.2.1 127 = .ok (.bipush 16, 2) := by decide +kernel
theorem d_Mo_repair_129 : decode M_Mo_repair.2.1 129 = .ok (.iload_n 2, 1) := by decide +kernel
theorem d_Mo_repair_130 : decode M_Mo_repair.2.1 130 = .ok (.iload_n 1, 1) := by decide +kernel
theorem d_Mo_repair_131 : decode M_Mo_repair.2.1 131 = .ok (.iadd, 1) := by decide +kernel
theorem d_Mo_repair_132 : decode M_Mo_repair.2.1 132 = .ok (.imul, 1) := by decide +kernel
theorem d_Mo_repair_133 : decode M_Mo_repair.2.1 133 = .ok (.iload 5, 2) := by decide +kernel
theorem d_Mo_repair_135 : decode M_Mo_repair.2.1 135 = .ok (.iadd, 1) := by decide +kernel
theorem d_Mo_repair_136 : decode M_Mo_repair.2.1 136 = .ok (.iaload, 1) := by decide +kernel
theorem d_Mo_repair_137 : decode M_Mo_repair.2.1 137 = .ok (.istore 6, 2) := by decide +kernel
theorem d_Mo_repair_139 : decode M_Mo_repair.2.1 139 = .ok (.aload_n 0, 1) := by decide +kernel
theorem d_Mo_repair_140 : decode M_Mo_repair.2.1 140 = .ok (.getfield 20, 3) := by decide +kernel
theorem d_Mo_repair_143 : decode M_Mo_repair.2.1 143 = .ok (.iload 5, 2) := by decide +kernel
theorem d_Mo_repair_145 : decode M_Mo_repair.2.1 145 = .ok (.aload_n 0, 1) := by decide +kernel
theorem d_Mo_repair_146 : decode M_Mo_repair.2.1 146 = .ok (.getfield 20, 3) := by decide +kernel
theorem d_Mo_repair_149 : decode M_Mo_repair.2.1 149 = .ok (.iload 5, 2) := by decide +kernel
theorem d_Mo_repair_151 : decode M_Mo_repair.2.1 151 = .ok (.laload, 1) := by decide +kernel
theorem d_Mo_repair_152 : decode M_Mo_repair.2.1 152 = .ok (.lload_n 3, 1) := by decide +kernel
theorem d_Mo_repair_153 : decode M_Mo_repair.2.1 153 = .ok (.invokestatic 189, 3) := by decide +kernel
theorem d_Mo_repair_156 : decode M_Mo_repair.2.1 156 = .ok (.ldc2_w 242, 3) := by decide +kernel
theorem d_Mo_repair_159 : decode M_Mo_repair.2.1 159 = .ok (.lsub, 1) := by decide +kernel
theorem d_Mo_repair_160 : decode M_Mo_repair.2.1 160 = .ok (.iload 6, 2) := by decide +kernel
theorem d_Mo_repair_162 : decode M_Mo_repair.2.1 162 = .ok (.sipush 128, 3) := by decide +kernel
theorem d_Mo_repair_165 : decode M_Mo_repair.2.1 165 = .ok (.idiv, 1) := by decide +kernel
theorem d_Mo_repair_166 : decode M_Mo_repair.2.1 166 = .ok (.i2l, 1) := by decide +kernel
theorem d_Mo_repair_167 : decode M_Mo_repair.2.1 167 = .ok (.ladd, 1) := by decide +kernel
theorem d_Mo_repair_168 : decode M_Mo_repair.2.1 168 = .ok (.lload_n 3, 1) := by decide +kernel
theorem d_Mo_repair_169 : decode M_Mo_repair.2.1 169 = .ok (.lmul, 1) := by decide +kernel
theorem d_Mo_repair_170 : decode M_Mo_repair.2.1 170 = .ok (.lastore, 1) := by decide +kernel
theorem d_Mo_repair_171 : decode M_Mo_repair.2.1 171 = .ok (.aload_n 0, 1) := by decide +kernel
theorem d_Mo_repair_172 : decode M_Mo_repair.2.1 172 = .ok (.getfield 24, 3) := by decide +kernel
theorem d_Mo_repair_175 : decode M_Mo_repair.2.1 175 = .ok (.iload 5, 2) := by decide +kernel
theorem d_Mo_repair_177 : decode M_Mo_repair.2.1 177 = .ok (.aload_n 0, 1) := by decide +kernel
theorem d_Mo_repair_178 : decode M_Mo_repair.2.1 178 = .ok (.getfield 24, 3) := by decide +kernel
theorem d_Mo_repair_181 : decode M_Mo_repair.2.1 181 = .ok (.iload 5, 2) := by decide +kernel
theorem d_Mo_repair_183 : decode M_Mo_repair.2.1 183 = .ok (.laload, 1) := by decide +kernel
theorem d_Mo_repair_184 : decode M_Mo_repair.2.1 184 = .ok (.lload_n 3, 1) := by decide +kernel
theorem d_Mo_repair_185 : decode M_Mo_repair.2.1 185 = .ok (.invokestatic 189, 3) := by decide +kernel
theorem d_Mo_repair_188 : decode M_Mo_repair.2.1 188 = .ok (.ldc2_w 236, 3) := by decide +kernel
theorem d_Mo_repair_191 : decode M_Mo_repair.2.1 191 = .ok (.lsub, 1) := by decide +kernel
theorem d_Mo_repair_192 : decode M_Mo_repair.2.1 192 = .ok (.iload 6, 2) := by decide +kernel
theorem d_Mo_repair_194 : decode M_Mo_repair.2.1 194 = .ok (.sipush 128, 3) := by decide +kernel
theorem d_Mo_repair_197 : decode M_Mo_repair.2.1 197 = .ok (.irem, 1) := by decide +kernel
theorem d_Mo_repair_198 : decode M_Mo_repair.2.1 198 = .ok (.i2l, 1) := by decide +kernel
theorem d_Mo_repair_199 : decode M_Mo_repair.2.1 199 = .ok (.ladd, 1) := by decide +kernel
theorem d_Mo_repair_200 : decode M_Mo_repair.2.1 200 = .ok (.lload_n 3, 1) := by decide +kernel
theorem d_Mo_repair_201 : decode M_Mo_repair.2.1 201 = .ok (.lmul, 1) := by decide +kernel
theorem d_Mo_repair_202 : decode M_Mo_repair.2.1 202 = .ok (.lastore, 1) := by decide +kernel
theorem d_Mo_repair_203 : decode M_Mo_repair.2.1 203 = .ok (.iinc 5 1, 3) := by decide +kernel
theorem d_Mo_repair_206 : decode M_Mo_repair.2.1 206 = .ok (.goto (-92), 3) := by decide +kernel
theorem d_Mo_repair_209 : decode M_Mo_repair.2.1 209 = .ok (.aload_n 0, 1) := by decide +kernel
theorem d_Mo_repair_210 : decode M_Mo_repair.2.1 210 = .ok (.getfield 75, 3) := by decide +kernel
theorem d_Mo_repair_213 : decode M_Mo_repair.2.1 213 = .ok (.iload_n 2, 1) := by decide +kernel
theorem d_Mo_repair_214 : decode M_Mo_repair.2.1 214 = .ok (.iload_n 1, 1) := by decide +kernel
theorem d_Mo_repair_215 : decode M_Mo_repair.2.1 215 = .ok (.iadd, 1) := by decide +kernel
theorem d_Mo_repair_216 : decode M_Mo_repair.2.1 216 = .ok (.iaload, 1) := by decide +kernel
theorem d_Mo_repair_217 : decode M_Mo_repair.2.1 217 = .ok (.ireturn, 1) := by decide +kernel
theorem ev_second {G : GT} {M : MT} {R : Room} {Q : Option Value → HM → Prop} {pc : Nat} {L : List (Nat × Value)} {st : List Value} {h : HM} {k n : Nat} {a : Int} {v : Value} (b : Int) (e : a = b) (kk : Ev G M R Q pc L (v :: .int (iZ b) :: st) h k n) : Ev G M R Q pc L (v :: .int (iZ a) :: st) h k n := by
  subst e
  exact kk
/-- a way was found, or none yet -/
def fwF (P : Rp) (S : Nat → Int) (i : Nat) (sm : Int) : Prop := (sm = 1 ∧ ∃ x, rVP P (i + 1) x) ∨ (sm = 0 ∧ ∀ k, k < 97 → S (i % 2 * 97 + k) = -1)
/-- the other cue's entries are let be -/
def fwK (S W S0 W0 : Nat → Int) (i : Nat) : Prop := (∀ x, ¬ (i % 2 * 97 ≤ x ∧ x < i % 2 * 97 + 97) → S x = S0 x) ∧ ∀ x, ¬ (16 * (i % 2 * 97) ≤ x ∧ x < 16 * (i % 2 * 97 + 97)) → W x = W0 x
theorem fwK_o {S W S0 W0 : Nat → Int} {i k fr : Nat} {sum own : Int} (h : fwK S W S0 W0 i) (hi : i < 16) (hk : k < 97) : fwK (ofS S (i % 2 * 97 + k) sum) (ofW W fr (i % 2 * 97 + k) i own) S0 W0 i := by
  refine ⟨fun x hx => ?_, fun x hx => ?_⟩
  · rw [← h.1 x hx]
    exact zup_n (by omega)
  · rw [← h.2 x hx]
    unfold ofW
    rw [zup_n (by omega)]
    show (if 16 * (i % 2 * 97 + k) ≤ x ∧ x < 16 * (i % 2 * 97 + k) + i then _ else W x) = W x
    rw [if_neg (by omega)]
theorem fwK_e {P : Rp} {S W S0 W0 : Nat → Int} {i : Nat} (h : fwK S W S0 W0 i) (h1 : 1 ≤ i) (hi : i < 16) (hp : fwI P S0 W0 (i - 1) 25 0) : fwI P S W (i - 1) 25 0 := by
  intro k hk
  have := hp k hk
  rw [h.1 ((i - 1) % 2 * 97 + k) (by omega)]
  refine rE_c (fun c hc => ?_) this
  show (W0 (16 * ((i - 1) % 2 * 97 + k) + c)).toNat = (W (16 * ((i - 1) % 2 * 97 + k) + c)).toNat
  rw [h.2 (16 * ((i - 1) % 2 * 97 + k) + c) (by omega)]
theorem fw_pre {P : Rp} {S W : Nat → Int} {i b : Nat} {st e0 : Int} (h : fwI P S W i 25 0) (he : P.2.2.1 i = e0) (hb : bbP S W (i + 1) (i % 2 * 97) (fun j : Nat => e0 - 48 + (j : Int) + P.2.2.2 ≤ st) 97 (b : Int)) : b < 97 ∧ rPre P (i + 1) st (wX W (i % 2 * 97 + b)) ∧ rCs (i + 1) (wX W (i % 2 * 97 + b)) = S (i % 2 * 97 + b) := by
  have hE : ∀ k, k < 97 → rE P i k 25 (S (i % 2 * 97 + k)) (wX W (i % 2 * 97 + k)) := fun k hk => by
    have := h k hk
    rw [if_neg (by omega)] at this
    exact this
  have cs : ∀ k, k < 97 → 0 ≤ S (i % 2 * 97 + k) → rCs (i + 1) (wX W (i % 2 * 97 + k)) = S (i % 2 * 97 + k) := fun k hk h0 => by
    rcases hE k hk with ⟨q, _⟩ | ⟨_, _, _, q, _⟩
    · omega
    · exact q
  rcases hb with ⟨q, _⟩ | ⟨n, q1, q2, q3, q4, q5⟩
  · omega
  · obtain rfl : b = n := by omega
    refine ⟨q2, rPre_of (S := fun k => S (i % 2 * 97 + k)) (X := fun k => wX W (i % 2 * 97 + k)) hE q2 q3 (by rw [he]; exact q4) (fun k k1 k2 k3 w => ?_), cs b q2 q3⟩
    rw [he] at k3
    exact q5 k k1 k2 k3 ((btP_b (cs k k1 k2) (cs b q2 q3)).mpr w)
theorem fw_npre {P : Rp} {S W : Nat → Int} {i : Nat} {st e0 : Int} (h : fwI P S W i 25 0) (he : P.2.2.1 i = e0) (hb : bbP S W (i + 1) (i % 2 * 97) (fun j : Nat => e0 - 48 + (j : Int) + P.2.2.2 ≤ st) 97 (-1)) (y : Nat → Nat) (y1 : rVP P (i + 1) y) : ¬ (rEn P i (y i) + P.2.2.2 ≤ st) := by
  have hE : ∀ k, k < 97 → rE P i k 25 (S (i % 2 * 97 + k)) (wX W (i % 2 * 97 + k)) := fun k hk => by
    have := h k hk
    rw [if_neg (by omega)] at this
    exact this
  rcases hb with ⟨_, q⟩ | ⟨n, q1, _⟩
  · exact rPre_no (S := fun k => S (i % 2 * 97 + k)) (X := fun k => wX W (i % 2 * 97 + k)) hE (fun k k1 k2 k3 => q k k1 k2 (by rw [he] at k3; exact k3)) y y1
  · omega
/-- the best of all, out of the last entries -/
theorem fw_best {P : Rp} {S W : Nat → Int} {i : Nat} {b : Int} (h : fwI P S W i 25 0) (hx : ∃ x, rVP P (i + 1) x) (hb : bbP S W (i + 1) (i % 2 * 97) (fun _ => True) 97 b) : ∃ n : Nat, b = (n : Int) ∧ n < 97 ∧ rMn P (i + 1) (wX W (i % 2 * 97 + n)) ∧ rCs (i + 1) (wX W (i % 2 * 97 + n)) = S (i % 2 * 97 + n) := by
  have hE : ∀ k, k < 97 → rE P i k 25 (S (i % 2 * 97 + k)) (wX W (i % 2 * 97 + k)) := fun k hk => by
    have := h k hk
    rw [if_neg (by omega)] at this
    exact this
  have cs : ∀ k, k < 97 → 0 ≤ S (i % 2 * 97 + k) → rCs (i + 1) (wX W (i % 2 * 97 + k)) = S (i % 2 * 97 + k) := fun k hk h0 => by
    rcases hE k hk with ⟨q, _⟩ | ⟨_, _, _, q, _⟩
    · omega
    · exact q
  rcases hb with ⟨q, q2⟩ | ⟨n, q1, q2, q3, q4, q5⟩
  · exfalso
    obtain ⟨x, v⟩ := hx
    have o := (v i (by omega)).1
    rcases hE _ o.2.1 with ⟨_, e⟩ | ⟨e, _⟩
    · have := e x v rfl
      have := o.1
      omega
    · exact q2 _ o.2.1 e trivial
  · refine ⟨n, q1, q2, rMn_of (S := fun k => S (i % 2 * 97 + k)) (X := fun k => wX W (i % 2 * 97 + k)) hE q2 q3 (fun k k1 k2 w => ?_)⟩
    exact q5 k k1 k2 trivial ((btP_b (cs k k1 k2) (cs n q2 q3)).mpr w)
set_option maxHeartbeats 4000000 in
set_option maxRecDepth 100000 in
theorem lp_Mo_fw0 (G : GT) (Q : Option Value → HM → Prop) (h0 : HM) (σ : Nat → Value) (m v1 i : Nat) (S0 : Nat → Int) (f31 : σ 31 = .ref v1) (hi : i < 16) (kk : ∀ (k : Nat) (h : HM) (S : Nat → Int), k = 97 → h m = some (.inr (11, fsN 34 σ)) → h v1 = some (.inl (G_i G, 194, .inl (iA S))) → (∀ j, j < 97 → S (i % 2 * 97 + j) = -1) → (∀ x, ¬ (i % 2 * 97 ≤ x ∧ x < i % 2 * 97 + 97) → S x = S0 x) → (∀ k, -1 ≤ S k ∧ S k ≤ 100000) → Fm [v1] h0 h → Ev G M_Mo_findWays (rm 3 90) Q 30 [(0, .ref m), (1, .int (iZ (i : Int))), (2, .int (iZ ((i % 2 * 97 : Nat) : Int))), (3, .int (iZ (k : Int)))] [] h 0 0) : ∀ (d : Nat) (k : Nat) (h : HM) (S : Nat → Int), k + d = 97 → h m = some (.inr (11, fsN 34 σ)) → h v1 = some (.inl (G_i G, 194, .inl (iA S))) → (∀ j, j < k → S (i % 2 * 97 + j) = -1) → (∀ x, ¬ (i % 2 * 97 ≤ x ∧ x < i % 2 * 97 + 97) → S x = S0 x) → (∀ k, -1 ≤ S k ∧ S k ≤ 100000) → Fm [v1] h0 h → Ev G M_Mo_findWays (rm 3 90) (Q) 9 [(0, .ref m), (1, .int (iZ (i : Int))), (2, .int (iZ ((i % 2 * 97 : Nat) : Int))), (3, .int (iZ (k : Int)))] [] h 0 0 := by
  intro d
  induction d using Nat.strongRecOn with
  | ind d ih =>
  intro k h S hd hm hv1 p1 p2 hS fm
  refine ev_iload_n d_Mo_findWays_9 rfl rfl ?_
  refine ev_bipush (v := iZ 97) d_Mo_findWays_10 rfl ?_
  refine ez_icmp_ge (tgt := 30) (by omega) (by decide) d_Mo_findWays_12 rfl (fun c12 => ?_) (fun c12 => ?_)
  · exact kk k h S (by omega) hm hv1 (fun j hj => p1 j (by omega)) p2 hS fm
  · refine ev_aload_n d_Mo_findWays_15 rfl rfl ?_
    refine ev_getF d_Mo_findWays_16 fl_Mo_75 hm (by decide) f31 ?_
    refine ev_iload_n d_Mo_findWays_19 rfl rfl ?_
    refine ev_iload_n d_Mo_findWays_20 rfl rfl ?_
    refine ez_iadd d_Mo_findWays_21 ?_
    refine ev_iconst (v := iZ (-1)) d_Mo_findWays_22 rfl ?_
    refine ez_iastore (F' := zup S (i % 2 * 97 + k) (-1)) (i % 2 * 97 + k) d_Mo_findWays_23 hv1 (by omega) (by omega) (by decide) rfl (fun h1 h1a h1o => ?_)
    have hm := (h1o _ (cne hm hv1 (by simp))).trans hm
    have hv1 := h1a
    have fm := fm.step (by simp) h1o
    refine ez_iinc (L' := [(0, .ref m), (1, .int (iZ (i : Int))), (2, .int (iZ ((i % 2 * 97 : Nat) : Int))), (3, .int (iZ ((k + 1 : Nat) : Int)))]) d_Mo_findWays_24 rfl (by decide) rfl ?_
    refine ev_goto (tgt := 9) d_Mo_findWays_27 rfl ?_
    exact ih (d - 1) (by omega) (k + 1) h1 _ (by omega) hm hv1 (fun j hj => by by_cases q : j = k; (subst q; exact zup_s); (rw [zup_n (by omega)]; exact p1 j (by omega))) (fun x hx => by rw [zup_n (by omega)]; exact p2 x hx) (zup_r hS (by omega)) fm
set_option maxHeartbeats 4000000 in
set_option maxRecDepth 100000 in
theorem lp_Mo_fw1 (G : GT) (Q : Option Value → HM → Prop) (h0 : HM) (σ : Nat → Value) (m s1 s2 s3 s4 us v1 v2 n i : Nat) (S1 S2 S3 S4 : Nat → Int) (num den tk g0 l0 m0 s0 : Int) (U : Nat → Int) (nu : Nat) (T0 W0 : Nat → Int) (f2 : σ 2 = .int (iZ num)) (f3 : σ 3 = .int (iZ den)) (f5 : σ 5 = .ref s1) (f6 : σ 6 = .ref s2) (f7 : σ 7 = .ref s3) (f8 : σ 8 = .ref s4) (f25 : σ 25 = .int (iZ (nu : Int))) (f26 : σ 26 = .ref us) (f27 : σ 27 = .int (iZ g0)) (f28 : σ 28 = .int (iZ l0)) (f29 : σ 29 = .int (iZ m0)) (f30 : σ 30 = .int (iZ s0)) (f31 : σ 31 = .ref v1) (f32 : σ 32 = .ref v2) (hi : i < n) (hn : n ≤ 16) (hT : ∀ k, 0 ≤ S1 k ∧ S1 k ≤ 2540160000000) (hE : ∀ k, 0 ≤ S2 k ∧ S2 k ≤ 2540160000000) (hZ : ∀ k, 0 ≤ S3 k ∧ S3 k ≤ 64) (hB : ∀ k, 0 ≤ S4 k ∧ S4 k ≤ 255) (hnu : nu ≤ 20) (hU : ∀ k, k < nu → 0 ≤ U k ∧ U k ≤ 216000) (hnum : 1 ≤ num ∧ num ≤ 120000) (hden : 1 ≤ den ∧ den ≤ 1001) (htk : tk = 705600000 * den / num) (htr : 11760000 ≤ tk ∧ tk ≤ 705600000) (hg : 0 ≤ g0 ∧ g0 ≤ 20) (hl : 1 ≤ l0 ∧ l0 ≤ 100) (hm0 : 0 ≤ m0 ∧ m0 ≤ 400) (hs : 1 ≤ s0 ∧ s0 ≤ 60) (n_s : s1 ≠ s2) (j fr : Nat) (b zs : Int) (z : Nat → Nat) (hj : j < 25) (hpb : i = 0 ∨ 0 ≤ b) (hbr : -1 ≤ b ∧ b < 97) (hfb : (((i + 1) % 2 * 97 : Nat) : Int) + b = (fr : Int)) (hz : rPre (rpP n S1 S2 S3 S4 num den tk g0 l0 m0 s0 U nu) i (nearZ (S1 i) tk - 12 + (j : Int)) z) (hzs : rCs i z = zs) (kk : ∀ (k : Nat) (sm : Int) (h : HM) (S W : Nat → Int), k = 97 → h m = some (.inr (11, fsN 34 σ)) → h s1 = some (.inl (G_j G, 16, .inr (.inl (lA S1)))) → h s2 = some (.inl (G_j G, 16, .inr (.inl (lA S2)))) → h s3 = some (.inl (G_i G, 16, .inl (iA S3))) → h s4 = some (.inl (G_i G, 1024, .inl (iA S4))) → h us = some (.inl (G_i G, 20, .inl (iA U))) → h v1 = some (.inl (G_i G, 194, .inl (iA S))) → h v2 = some (.inl (G_i G, 3104, .inl (iA W))) → fwI (rpP n S1 S2 S3 S4 num den tk g0 l0 m0 s0 U nu) S W i j 97 → fwF (rpP n S1 S2 S3 S4 num den tk g0 l0 m0 s0 U nu) S i sm → fwK S W T0 W0 i → (∀ k, -1 ≤ S k ∧ S k ≤ 100000) → (∀ k, 0 ≤ W k ∧ W k ≤ 100000) → Fm [v1, v2] h0 h → Ev G M_Mo_findWays (rm 3 90) Q 207 [(0, .ref m), (1, .int (iZ (i : Int))), (2, .int (iZ ((i % 2 * 97 : Nat) : Int))), (3, .long (lZ (nearZ (S1 i) tk))), (5, .long (lZ (nearZ (S2 i) tk))), (7, .int (iZ sm)), (8, .int (iZ (j : Int))), (9, .long (lZ (nearZ (S1 i) tk - 12 + (j : Int)))), (11, .int (iZ b)), (12, .int (iZ (k : Int)))] [] h 0 0) : ∀ (d : Nat) (k : Nat) (sm : Int) (h : HM) (S W : Nat → Int), k + d = 97 → h m = some (.inr (11, fsN 34 σ)) → h s1 = some (.inl (G_j G, 16, .inr (.inl (lA S1)))) → h s2 = some (.inl (G_j G, 16, .inr (.inl (lA S2)))) → h s3 = some (.inl (G_i G, 16, .inl (iA S3))) → h s4 = some (.inl (G_i G, 1024, .inl (iA S4))) → h us = some (.inl (G_i G, 20, .inl (iA U))) → h v1 = some (.inl (G_i G, 194, .inl (iA S))) → h v2 = some (.inl (G_i G, 3104, .inl (iA W))) → fwI (rpP n S1 S2 S3 S4 num den tk g0 l0 m0 s0 U nu) S W i j k → fwF (rpP n S1 S2 S3 S4 num den tk g0 l0 m0 s0 U nu) S i sm → fwK S W T0 W0 i → (∀ k, -1 ≤ S k ∧ S k ≤ 100000) → (∀ k, 0 ≤ W k ∧ W k ≤ 100000) → (∀ c, c < i → wX W fr c = z c) → ((i = 0 ∧ zs = 0) ∨ (1 ≤ i ∧ S fr = zs)) → Fm [v1, v2] h0 h → Ev G M_Mo_findWays (rm 3 90) (Q) 103 [(0, .ref m), (1, .int (iZ (i : Int))), (2, .int (iZ ((i % 2 * 97 : Nat) : Int))), (3, .long (lZ (nearZ (S1 i) tk))), (5, .long (lZ (nearZ (S2 i) tk))), (7, .int (iZ sm)), (8, .int (iZ (j : Int))), (9, .long (lZ (nearZ (S1 i) tk - 12 + (j : Int)))), (11, .int (iZ b)), (12, .int (iZ (k : Int)))] [] h 0 0 := by
  intro d
  induction d using Nat.strongRecOn with
  | ind d ih =>
  intro k sm h S W hd hm hs1 hs2 hs3 hs4 hus hv1 hv2 hfw hF hK hS hW hzW hzf fm
  have t0 := hT i
  have e0 := hE i
  have nt := fra_r htr t0
  have ne := fra_r htr e0
  have hsm : sm = 0 ∨ sm = 1 := by rcases hF with q | q; exact Or.inr q.1; exact Or.inl q.1
  have hst9 : k < 97 → rSt (rpP n S1 S2 S3 S4 num den tk g0 l0 m0 s0 U nu) i (128 * j + k) = nearZ (S1 i) tk - 12 + (j : Int) := by
      intro q
      show nrF S1 tk 0 n i - 12 + (((128 * j + k) / 128 : Nat) : Int) = _
      rw [show nrF S1 tk 0 n i = nearZ (S1 i) tk - 0 from if_pos hi, show (128 * j + k) / 128 = j from by omega]
      omega
  have hen9 : k < 97 → rEn (rpP n S1 S2 S3 S4 num den tk g0 l0 m0 s0 U nu) i (128 * j + k) = nearZ (S2 i) tk - 48 + (k : Int) := by
      intro q
      show nrF S2 tk 0 n i - 48 + (((128 * j + k) % 128 : Nat) : Int) = _
      rw [show nrF S2 tk 0 n i = nearZ (S2 i) tk - 0 from if_pos hi, show (128 * j + k) % 128 = k from by omega]
      omega
  have hco : k < 97 → rCo (128 * j + k) = (((j : Int) - 12).natAbs : Int) + (((k : Int) - 48).natAbs : Int) := by
      intro q
      show (((((128 * j + k) / 128 : Nat) : Int) - 12).natAbs : Int) + (((((128 * j + k) % 128 : Nat) : Int) - 48).natAbs : Int) = _
      rw [show (128 * j + k) / 128 = j from by omega, show (128 * j + k) % 128 = k from by omega]
  have rz0 := rCs_r i hz.1
  refine ev_iload d_Mo_findWays_103 rfl ?_
  refine ev_bipush (v := iZ 97) d_Mo_findWays_105 rfl ?_
  refine ez_icmp_ge (tgt := 207) (by omega) (by decide) d_Mo_findWays_107 rfl (fun c107 => ?_) (fun c107 => ?_)
  · exact kk k sm h S W (by omega) hm hs1 hs2 hs3 hs4 hus hv1 hv2 (by rw [show (97 : Nat) = k from by omega]; exact hfw) hF hK hS hW fm
  · replace hst9 := hst9 (by omega)
    replace hen9 := hen9 (by omega)
    replace hco := hco (by omega)
    have rc8 := rCo_r (128 * j + k) (by omega) (by omega)
    refine ev_iload_n d_Mo_findWays_110 rfl rfl ?_
    refine ez_if_eq (tgt := 119) (by omega) d_Mo_findWays_111 rfl (fun c111 => ?_) (fun c111 => ?_)
    · refine ev_lload d_Mo_findWays_119 rfl ?_
      refine ev_ldc2 (v := lZ 48) d_Mo_findWays_121 kc_Mo_236 ?_
      refine ez_lsub d_Mo_findWays_124 ?_
      refine ev_iload d_Mo_findWays_125 rfl ?_
      refine ez_i2l (by omega) d_Mo_findWays_127 ?_
      refine ez_ladd d_Mo_findWays_128 ?_
      refine ev_lstore (L' := [(0, .ref m), (1, .int (iZ (i : Int))), (2, .int (iZ ((i % 2 * 97 : Nat) : Int))), (3, .long (lZ (nearZ (S1 i) tk))), (5, .long (lZ (nearZ (S2 i) tk))), (7, .int (iZ sm)), (8, .int (iZ (j : Int))), (9, .long (lZ (nearZ (S1 i) tk - 12 + (j : Int)))), (11, .int (iZ b)), (12, .int (iZ (k : Int))), (13, .long (lZ (((nearZ (S2 i) tk) - 48) + (k : Int))))]) d_Mo_findWays_129 (by decide) rfl ?_
      refine ev_aload_n d_Mo_findWays_131 rfl rfl ?_
      refine ev_iload_n d_Mo_findWays_132 rfl rfl ?_
      refine ev_lload d_Mo_findWays_133 rfl ?_
      refine ev_lload d_Mo_findWays_135 rfl ?_
      have lz := lgZ_r (rpP n S1 S2 S3 S4 num den tk g0 l0 m0 s0 U nu) i (nearZ (S1 i) tk - 12 + (j : Int)) (nearZ (S2 i) tk - 48 + (k : Int))
      refine ev_pV M_Mo_lasts 2 60 (As := [.int (iZ (i : Int)), .long (lZ (nearZ (S1 i) tk - 12 + (j : Int))), .long (lZ (((nearZ (S2 i) tk) - 48) + (k : Int)))]) (c_Mo_lasts G h σ m s3 s4 us n i S1 S2 S3 S4 num den tk g0 l0 m0 s0 U nu (nearZ (S1 i) tk - 12 + (j : Int)) (nearZ (S2 i) tk - 48 + (k : Int)) hm f2 f3 f7 f8 f25 f26 f28 f29 f30 hs3 hs4 hus hi hn hZ hB hnu hU hnum hden htk htr hl hm0 hs (by omega) (by omega)) d_Mo_findWays_137 mk_Mo_lasts ml_Mo_248 mv_Mo_lasts hm rfl rfl rfl (Nat.le_of_ble_eq_true rfl) ⟨by decide, by decide⟩ ⟨by decide, by decide⟩ ?_
      refine ez_if_eq (tgt := 201) (by omega) d_Mo_findWays_140 rfl (fun c140 => ?_) (fun c140 => ?_)
      · refine ez_iinc (L' := [(0, .ref m), (1, .int (iZ (i : Int))), (2, .int (iZ ((i % 2 * 97 : Nat) : Int))), (3, .long (lZ (nearZ (S1 i) tk))), (5, .long (lZ (nearZ (S2 i) tk))), (7, .int (iZ sm)), (8, .int (iZ (j : Int))), (9, .long (lZ (nearZ (S1 i) tk - 12 + (j : Int)))), (11, .int (iZ b)), (12, .int (iZ ((k + 1 : Nat) : Int))), (13, .long (lZ (((nearZ (S2 i) tk) - 48) + (k : Int))))]) d_Mo_findWays_201 rfl (by decide) rfl ?_
        refine ev_goto (tgt := 103) d_Mo_findWays_204 rfl ?_
        refine ev_loc [(0, .ref m), (1, .int (iZ (i : Int))), (2, .int (iZ ((i % 2 * 97 : Nat) : Int))), (3, .long (lZ (nearZ (S1 i) tk))), (5, .long (lZ (nearZ (S2 i) tk))), (7, .int (iZ sm)), (8, .int (iZ (j : Int))), (9, .long (lZ (nearZ (S1 i) tk - 12 + (j : Int)))), (11, .int (iZ b)), (12, .int (iZ ((k + 1 : Nat) : Int)))] (by simp) ?_
        have hsk : ∀ y, rVP (rpP n S1 S2 S3 S4 num den tk g0 l0 m0 s0 U nu) (i + 1) y → y i ≠ 128 * j + k := by
          intro y v q
          have o := (v i (by omega)).1.2.2
          rw [q, hst9, hen9] at o
          exact lgZ_i.mpr o c140
        exact ih (d - 1) (by omega) (k + 1) sm h S W (by omega) hm hs1 hs2 hs3 hs4 hus hv1 hv2 (fwI_skip hfw hsk) hF hK hS hW hzW hzf fm
      · refine ev_lload d_Mo_findWays_143 rfl ?_
        refine ev_lload_n d_Mo_findWays_145 rfl rfl ?_
        refine ev_pS M_Mo_away 0 0 (As := [.long (lZ (nearZ (S1 i) tk - 12 + (j : Int))), .long (lZ (nearZ (S1 i) tk))]) (c_Mo_away G h (nearZ (S1 i) tk - 12 + (j : Int)) (nearZ (S1 i) tk) (by omega) (by omega)) d_Mo_findWays_146 mk_Mo_away ml_Mo_252 ms_Mo_away rfl rfl (Nat.le_of_ble_eq_true rfl) ⟨by decide, by decide⟩ ⟨by decide, by decide⟩ ?_
        refine ev_lload d_Mo_findWays_149 rfl ?_
        refine ev_lload d_Mo_findWays_151 rfl ?_
        refine ev_pS M_Mo_away 0 0 (As := [.long (lZ (((nearZ (S2 i) tk) - 48) + (k : Int))), .long (lZ (nearZ (S2 i) tk))]) (c_Mo_away G h (((nearZ (S2 i) tk) - 48) + (k : Int)) (nearZ (S2 i) tk) (by omega) (by omega)) d_Mo_findWays_153 mk_Mo_away ml_Mo_252 ms_Mo_away rfl rfl (Nat.le_of_ble_eq_true rfl) ⟨by decide, by decide⟩ ⟨by decide, by decide⟩ ?_
        refine ez_ladd d_Mo_findWays_156 ?_
        refine ez_l2i d_Mo_findWays_157 ?_
        refine ev_iload_n d_Mo_findWays_158 rfl rfl ?_
        refine ez_if_ne (tgt := 166) (by omega) d_Mo_findWays_159 rfl (fun c159 => ?_) (fun c159 => ?_)
        · refine ev_aload_n d_Mo_findWays_166 rfl rfl ?_
          refine ev_getF d_Mo_findWays_167 fl_Mo_75 hm (by decide) f31 ?_
          refine ev_iload_n d_Mo_findWays_170 rfl rfl ?_
          refine ev_iconst (v := iZ 1) d_Mo_findWays_171 rfl ?_
          refine ez_isub d_Mo_findWays_172 ?_
          refine ev_iconst (v := iZ 2) d_Mo_findWays_173 rfl ?_
          refine ez_irem (by omega) (by omega) (by omega) (by omega) d_Mo_findWays_174 ?_
          refine ev_bipush (v := iZ 97) d_Mo_findWays_175 rfl ?_
          refine ez_imul d_Mo_findWays_177 ?_
          refine ev_iload d_Mo_findWays_178 rfl ?_
          refine ez_iadd d_Mo_findWays_180 ?_
          refine ez_iaload fr d_Mo_findWays_181 hv1 (by omega) (by omega) (by decide) ?_
          refine ez_iadd d_Mo_findWays_182 ?_
          rw [show (((((nearZ (S1 i) tk - 12 + (j : Int)) - (nearZ (S1 i) tk)).natAbs : Int) + (((((nearZ (S2 i) tk) - 48) + (k : Int)) - (nearZ (S2 i) tk)).natAbs : Int)) + (S fr) : Int) = zs + rCo (128 * j + k) from by omega]
          refine ev_istore (L' := [(0, .ref m), (1, .int (iZ (i : Int))), (2, .int (iZ ((i % 2 * 97 : Nat) : Int))), (3, .long (lZ (nearZ (S1 i) tk))), (5, .long (lZ (nearZ (S2 i) tk))), (7, .int (iZ sm)), (8, .int (iZ (j : Int))), (9, .long (lZ (nearZ (S1 i) tk - 12 + (j : Int)))), (11, .int (iZ b)), (12, .int (iZ (k : Int))), (13, .long (lZ (((nearZ (S2 i) tk) - 48) + (k : Int)))), (15, .int (iZ (zs + rCo (128 * j + k))))]) d_Mo_findWays_183 (by decide) rfl ?_
          refine ev_aload_n d_Mo_findWays_185 rfl rfl ?_
          refine ev_iload_n d_Mo_findWays_186 rfl rfl ?_
          refine ev_iload d_Mo_findWays_187 rfl ?_
          refine ev_iload d_Mo_findWays_189 rfl ?_
          refine ev_iload d_Mo_findWays_191 rfl ?_
          refine ev_iload d_Mo_findWays_193 rfl ?_
          refine ev_callV M_Mo_offer (rm 0 0) _ (As := [.int (iZ (i : Int)), .int (iZ (k : Int)), .int (iZ (j : Int)), .int (iZ (zs + rCo (128 * j + k))), .int (iZ b)]) (c_Mo_offer G h σ m v1 v2 i k j (i % 2 * 97 + k) fr (zs + rCo (128 * j + k)) b S W hm f31 f32 hv1 hv2 (by omega) (by omega) hj (by omega) (by omega) hS hW rfl hfb (by omega) (by omega)) d_Mo_findWays_195 mk_Mo_offer ml_Mo_255 mv_Mo_offer hm rfl rfl rfl (Nat.le_of_ble_eq_true rfl) ⟨by decide, by decide⟩ ⟨by decide, by decide⟩ (fun r h9 hq => ?_)
          obtain ⟨rfl, oy, on, fmc⟩ := hq
          have hl9 := lgZ_i.mp (show lgZ (rpP n S1 S2 S3 S4 num den tk g0 l0 m0 s0 U nu) i (nearZ (S1 i) tk - 12 + (j : Int)) (nearZ (S2 i) tk - 48 + (k : Int)) ≠ 0 from c140)
          rw [← hst9, ← hen9] at hl9
          have fo := fwI_offer (fr := fr) (sum := zs + rCo (128 * j + k)) hfw (by omega) hj (by omega) (fun c => (hW c).1) hl9 (by rw [hst9]; exact rPre_c (fun c hc => (hzW c hc).symm) hz) (by rw [rCs_c hzW, hzs])
          have rz := rCs_r i hz.1
          have rc9 := rCo_r (128 * j + k) (by omega) (by omega)
          by_cases ob : offB S W i (i % 2 * 97 + k) fr (zs + rCo (128 * j + k)) ((128 * j + k : Nat) : Int)
          ·
            obtain ⟨gv1, gv2⟩ := oy ob
            have hm := (fmc _ (ninc (cne hm hv1 (by simp)) (ninc (cne hm hv2 (by simp)) nin0))).trans hm
            have hs1 := (fmc _ (ninc (cne hs1 hv1 (by simp)) (ninc (cne hs1 hv2 (by simp)) nin0))).trans hs1
            have hs2 := (fmc _ (ninc (cne hs2 hv1 (by simp)) (ninc (cne hs2 hv2 (by simp)) nin0))).trans hs2
            have hs3 := (fmc _ (ninc (cne hs3 hv1 (by simp)) (ninc (cne hs3 hv2 (by simp)) nin0))).trans hs3
            have hs4 := (fmc _ (ninc (cne hs4 hv1 (by simp)) (ninc (cne hs4 hv2 (by simp)) nin0))).trans hs4
            have hus := (fmc _ (ninc (cne hus hv1 (by simp)) (ninc (cne hus hv2 (by simp)) nin0))).trans hus
            have hv1 := gv1
            have hv2 := gv2
            have fm := fm.call (by simp) fmc
            refine ev_iconst (v := iZ 1) d_Mo_findWays_198 rfl ?_
            refine ev_istore (L' := [(0, .ref m), (1, .int (iZ (i : Int))), (2, .int (iZ ((i % 2 * 97 : Nat) : Int))), (3, .long (lZ (nearZ (S1 i) tk))), (5, .long (lZ (nearZ (S2 i) tk))), (7, .int (iZ 1)), (8, .int (iZ (j : Int))), (9, .long (lZ (nearZ (S1 i) tk - 12 + (j : Int)))), (11, .int (iZ b)), (12, .int (iZ (k : Int))), (13, .long (lZ (((nearZ (S2 i) tk) - 48) + (k : Int)))), (15, .int (iZ (zs + rCo (128 * j + k))))]) d_Mo_findWays_199 (by decide) rfl ?_
            refine ez_iinc (L' := [(0, .ref m), (1, .int (iZ (i : Int))), (2, .int (iZ ((i % 2 * 97 : Nat) : Int))), (3, .long (lZ (nearZ (S1 i) tk))), (5, .long (lZ (nearZ (S2 i) tk))), (7, .int (iZ 1)), (8, .int (iZ (j : Int))), (9, .long (lZ (nearZ (S1 i) tk - 12 + (j : Int)))), (11, .int (iZ b)), (12, .int (iZ ((k + 1 : Nat) : Int))), (13, .long (lZ (((nearZ (S2 i) tk) - 48) + (k : Int)))), (15, .int (iZ (zs + rCo (128 * j + k))))]) d_Mo_findWays_201 rfl (by decide) rfl ?_
            refine ev_goto (tgt := 103) d_Mo_findWays_204 rfl ?_
            refine ev_loc [(0, .ref m), (1, .int (iZ (i : Int))), (2, .int (iZ ((i % 2 * 97 : Nat) : Int))), (3, .long (lZ (nearZ (S1 i) tk))), (5, .long (lZ (nearZ (S2 i) tk))), (7, .int (iZ 1)), (8, .int (iZ (j : Int))), (9, .long (lZ (nearZ (S1 i) tk - 12 + (j : Int)))), (11, .int (iZ b)), (12, .int (iZ ((k + 1 : Nat) : Int)))] (by simp) ?_
            exact ih (d - 1) (by omega) (k + 1) 1 h9 _ _ (by omega) hm hs1 hs2 hs3 hs4 hus hv1 hv2 (fo.1 ob) (Or.inl ⟨rfl, fo.2.2⟩) (fwK_o hK (by omega) (by omega)) (zup_r hS (by omega)) (zup_r (cpy_q hW hW) (by omega)) (fun c hc => by rw [← hzW c hc]; show (ofW W fr _ i _ (16 * fr + c)).toNat = (W (16 * fr + c)).toNat; rw [ofW_o (by omega) (by omega) (by omega)]) (by rcases hzf with q | ⟨q, q2⟩; exact Or.inl q; exact Or.inr ⟨q, by rw [← q2]; exact zup_n (by omega)⟩) fm
          ·
            rw [on ob]
            refine ev_iconst (v := iZ 1) d_Mo_findWays_198 rfl ?_
            refine ev_istore (L' := [(0, .ref m), (1, .int (iZ (i : Int))), (2, .int (iZ ((i % 2 * 97 : Nat) : Int))), (3, .long (lZ (nearZ (S1 i) tk))), (5, .long (lZ (nearZ (S2 i) tk))), (7, .int (iZ 1)), (8, .int (iZ (j : Int))), (9, .long (lZ (nearZ (S1 i) tk - 12 + (j : Int)))), (11, .int (iZ b)), (12, .int (iZ (k : Int))), (13, .long (lZ (((nearZ (S2 i) tk) - 48) + (k : Int)))), (15, .int (iZ (zs + rCo (128 * j + k))))]) d_Mo_findWays_199 (by decide) rfl ?_
            refine ez_iinc (L' := [(0, .ref m), (1, .int (iZ (i : Int))), (2, .int (iZ ((i % 2 * 97 : Nat) : Int))), (3, .long (lZ (nearZ (S1 i) tk))), (5, .long (lZ (nearZ (S2 i) tk))), (7, .int (iZ 1)), (8, .int (iZ (j : Int))), (9, .long (lZ (nearZ (S1 i) tk - 12 + (j : Int)))), (11, .int (iZ b)), (12, .int (iZ ((k + 1 : Nat) : Int))), (13, .long (lZ (((nearZ (S2 i) tk) - 48) + (k : Int)))), (15, .int (iZ (zs + rCo (128 * j + k))))]) d_Mo_findWays_201 rfl (by decide) rfl ?_
            refine ev_goto (tgt := 103) d_Mo_findWays_204 rfl ?_
            refine ev_loc [(0, .ref m), (1, .int (iZ (i : Int))), (2, .int (iZ ((i % 2 * 97 : Nat) : Int))), (3, .long (lZ (nearZ (S1 i) tk))), (5, .long (lZ (nearZ (S2 i) tk))), (7, .int (iZ 1)), (8, .int (iZ (j : Int))), (9, .long (lZ (nearZ (S1 i) tk - 12 + (j : Int)))), (11, .int (iZ b)), (12, .int (iZ ((k + 1 : Nat) : Int)))] (by simp) ?_
            exact ih (d - 1) (by omega) (k + 1) 1 h S W (by omega) hm hs1 hs2 hs3 hs4 hus hv1 hv2 (fo.2.1 ob).1 (Or.inl ⟨rfl, fo.2.2⟩) hK hS hW hzW hzf fm
        · refine ev_iconst (v := iZ 0) d_Mo_findWays_162 rfl ?_
          refine ev_goto (tgt := 182) d_Mo_findWays_163 rfl ?_
          refine ez_iadd d_Mo_findWays_182 ?_
          rw [show (((((nearZ (S1 i) tk - 12 + (j : Int)) - (nearZ (S1 i) tk)).natAbs : Int) + (((((nearZ (S2 i) tk) - 48) + (k : Int)) - (nearZ (S2 i) tk)).natAbs : Int)) + 0 : Int) = zs + rCo (128 * j + k) from by omega]
          refine ev_istore (L' := [(0, .ref m), (1, .int (iZ (i : Int))), (2, .int (iZ ((i % 2 * 97 : Nat) : Int))), (3, .long (lZ (nearZ (S1 i) tk))), (5, .long (lZ (nearZ (S2 i) tk))), (7, .int (iZ sm)), (8, .int (iZ (j : Int))), (9, .long (lZ (nearZ (S1 i) tk - 12 + (j : Int)))), (11, .int (iZ b)), (12, .int (iZ (k : Int))), (13, .long (lZ (((nearZ (S2 i) tk) - 48) + (k : Int)))), (15, .int (iZ (zs + rCo (128 * j + k))))]) d_Mo_findWays_183 (by decide) rfl ?_
          refine ev_aload_n d_Mo_findWays_185 rfl rfl ?_
          refine ev_iload_n d_Mo_findWays_186 rfl rfl ?_
          refine ev_iload d_Mo_findWays_187 rfl ?_
          refine ev_iload d_Mo_findWays_189 rfl ?_
          refine ev_iload d_Mo_findWays_191 rfl ?_
          refine ev_iload d_Mo_findWays_193 rfl ?_
          refine ev_callV M_Mo_offer (rm 0 0) _ (As := [.int (iZ (i : Int)), .int (iZ (k : Int)), .int (iZ (j : Int)), .int (iZ (zs + rCo (128 * j + k))), .int (iZ b)]) (c_Mo_offer G h σ m v1 v2 i k j (i % 2 * 97 + k) fr (zs + rCo (128 * j + k)) b S W hm f31 f32 hv1 hv2 (by omega) (by omega) hj (by omega) (by omega) hS hW rfl hfb (by omega) (by omega)) d_Mo_findWays_195 mk_Mo_offer ml_Mo_255 mv_Mo_offer hm rfl rfl rfl (Nat.le_of_ble_eq_true rfl) ⟨by decide, by decide⟩ ⟨by decide, by decide⟩ (fun r h9 hq => ?_)
          obtain ⟨rfl, oy, on, fmc⟩ := hq
          have hl9 := lgZ_i.mp (show lgZ (rpP n S1 S2 S3 S4 num den tk g0 l0 m0 s0 U nu) i (nearZ (S1 i) tk - 12 + (j : Int)) (nearZ (S2 i) tk - 48 + (k : Int)) ≠ 0 from c140)
          rw [← hst9, ← hen9] at hl9
          have fo := fwI_offer (fr := fr) (sum := zs + rCo (128 * j + k)) hfw (by omega) hj (by omega) (fun c => (hW c).1) hl9 (by rw [hst9]; exact rPre_c (fun c hc => (hzW c hc).symm) hz) (by rw [rCs_c hzW, hzs])
          have rz := rCs_r i hz.1
          have rc9 := rCo_r (128 * j + k) (by omega) (by omega)
          by_cases ob : offB S W i (i % 2 * 97 + k) fr (zs + rCo (128 * j + k)) ((128 * j + k : Nat) : Int)
          ·
            obtain ⟨gv1, gv2⟩ := oy ob
            have hm := (fmc _ (ninc (cne hm hv1 (by simp)) (ninc (cne hm hv2 (by simp)) nin0))).trans hm
            have hs1 := (fmc _ (ninc (cne hs1 hv1 (by simp)) (ninc (cne hs1 hv2 (by simp)) nin0))).trans hs1
            have hs2 := (fmc _ (ninc (cne hs2 hv1 (by simp)) (ninc (cne hs2 hv2 (by simp)) nin0))).trans hs2
            have hs3 := (fmc _ (ninc (cne hs3 hv1 (by simp)) (ninc (cne hs3 hv2 (by simp)) nin0))).trans hs3
            have hs4 := (fmc _ (ninc (cne hs4 hv1 (by simp)) (ninc (cne hs4 hv2 (by simp)) nin0))).trans hs4
            have hus := (fmc _ (ninc (cne hus hv1 (by simp)) (ninc (cne hus hv2 (by simp)) nin0))).trans hus
            have hv1 := gv1
            have hv2 := gv2
            have fm := fm.call (by simp) fmc
            refine ev_iconst (v := iZ 1) d_Mo_findWays_198 rfl ?_
            refine ev_istore (L' := [(0, .ref m), (1, .int (iZ (i : Int))), (2, .int (iZ ((i % 2 * 97 : Nat) : Int))), (3, .long (lZ (nearZ (S1 i) tk))), (5, .long (lZ (nearZ (S2 i) tk))), (7, .int (iZ 1)), (8, .int (iZ (j : Int))), (9, .long (lZ (nearZ (S1 i) tk - 12 + (j : Int)))), (11, .int (iZ b)), (12, .int (iZ (k : Int))), (13, .long (lZ (((nearZ (S2 i) tk) - 48) + (k : Int)))), (15, .int (iZ (zs + rCo (128 * j + k))))]) d_Mo_findWays_199 (by decide) rfl ?_
            refine ez_iinc (L' := [(0, .ref m), (1, .int (iZ (i : Int))), (2, .int (iZ ((i % 2 * 97 : Nat) : Int))), (3, .long (lZ (nearZ (S1 i) tk))), (5, .long (lZ (nearZ (S2 i) tk))), (7, .int (iZ 1)), (8, .int (iZ (j : Int))), (9, .long (lZ (nearZ (S1 i) tk - 12 + (j : Int)))), (11, .int (iZ b)), (12, .int (iZ ((k + 1 : Nat) : Int))), (13, .long (lZ (((nearZ (S2 i) tk) - 48) + (k : Int)))), (15, .int (iZ (zs + rCo (128 * j + k))))]) d_Mo_findWays_201 rfl (by decide) rfl ?_
            refine ev_goto (tgt := 103) d_Mo_findWays_204 rfl ?_
            refine ev_loc [(0, .ref m), (1, .int (iZ (i : Int))), (2, .int (iZ ((i % 2 * 97 : Nat) : Int))), (3, .long (lZ (nearZ (S1 i) tk))), (5, .long (lZ (nearZ (S2 i) tk))), (7, .int (iZ 1)), (8, .int (iZ (j : Int))), (9, .long (lZ (nearZ (S1 i) tk - 12 + (j : Int)))), (11, .int (iZ b)), (12, .int (iZ ((k + 1 : Nat) : Int)))] (by simp) ?_
            exact ih (d - 1) (by omega) (k + 1) 1 h9 _ _ (by omega) hm hs1 hs2 hs3 hs4 hus hv1 hv2 (fo.1 ob) (Or.inl ⟨rfl, fo.2.2⟩) (fwK_o hK (by omega) (by omega)) (zup_r hS (by omega)) (zup_r (cpy_q hW hW) (by omega)) (fun c hc => by rw [← hzW c hc]; show (ofW W fr _ i _ (16 * fr + c)).toNat = (W (16 * fr + c)).toNat; rw [ofW_o (by omega) (by omega) (by omega)]) (by rcases hzf with q | ⟨q, q2⟩; exact Or.inl q; exact Or.inr ⟨q, by rw [← q2]; exact zup_n (by omega)⟩) fm
          ·
            rw [on ob]
            refine ev_iconst (v := iZ 1) d_Mo_findWays_198 rfl ?_
            refine ev_istore (L' := [(0, .ref m), (1, .int (iZ (i : Int))), (2, .int (iZ ((i % 2 * 97 : Nat) : Int))), (3, .long (lZ (nearZ (S1 i) tk))), (5, .long (lZ (nearZ (S2 i) tk))), (7, .int (iZ 1)), (8, .int (iZ (j : Int))), (9, .long (lZ (nearZ (S1 i) tk - 12 + (j : Int)))), (11, .int (iZ b)), (12, .int (iZ (k : Int))), (13, .long (lZ (((nearZ (S2 i) tk) - 48) + (k : Int)))), (15, .int (iZ (zs + rCo (128 * j + k))))]) d_Mo_findWays_199 (by decide) rfl ?_
            refine ez_iinc (L' := [(0, .ref m), (1, .int (iZ (i : Int))), (2, .int (iZ ((i % 2 * 97 : Nat) : Int))), (3, .long (lZ (nearZ (S1 i) tk))), (5, .long (lZ (nearZ (S2 i) tk))), (7, .int (iZ 1)), (8, .int (iZ (j : Int))), (9, .long (lZ (nearZ (S1 i) tk - 12 + (j : Int)))), (11, .int (iZ b)), (12, .int (iZ ((k + 1 : Nat) : Int))), (13, .long (lZ (((nearZ (S2 i) tk) - 48) + (k : Int)))), (15, .int (iZ (zs + rCo (128 * j + k))))]) d_Mo_findWays_201 rfl (by decide) rfl ?_
            refine ev_goto (tgt := 103) d_Mo_findWays_204 rfl ?_
            refine ev_loc [(0, .ref m), (1, .int (iZ (i : Int))), (2, .int (iZ ((i % 2 * 97 : Nat) : Int))), (3, .long (lZ (nearZ (S1 i) tk))), (5, .long (lZ (nearZ (S2 i) tk))), (7, .int (iZ 1)), (8, .int (iZ (j : Int))), (9, .long (lZ (nearZ (S1 i) tk - 12 + (j : Int)))), (11, .int (iZ b)), (12, .int (iZ ((k + 1 : Nat) : Int)))] (by simp) ?_
            exact ih (d - 1) (by omega) (k + 1) 1 h S W (by omega) hm hs1 hs2 hs3 hs4 hus hv1 hv2 (fo.2.1 ob).1 (Or.inl ⟨rfl, fo.2.2⟩) hK hS hW hzW hzf fm
    · refine ev_iload d_Mo_findWays_114 rfl ?_
      refine ez_if_lt (tgt := 207) (by omega) d_Mo_findWays_116 rfl (fun c116 => absurd c116 (by omega)) (fun c116 => ?_)
      refine ev_lload d_Mo_findWays_119 rfl ?_
      refine ev_ldc2 (v := lZ 48) d_Mo_findWays_121 kc_Mo_236 ?_
      refine ez_lsub d_Mo_findWays_124 ?_
      refine ev_iload d_Mo_findWays_125 rfl ?_
      refine ez_i2l (by omega) d_Mo_findWays_127 ?_
      refine ez_ladd d_Mo_findWays_128 ?_
      refine ev_lstore (L' := [(0, .ref m), (1, .int (iZ (i : Int))), (2, .int (iZ ((i % 2 * 97 : Nat) : Int))), (3, .long (lZ (nearZ (S1 i) tk))), (5, .long (lZ (nearZ (S2 i) tk))), (7, .int (iZ sm)), (8, .int (iZ (j : Int))), (9, .long (lZ (nearZ (S1 i) tk - 12 + (j : Int)))), (11, .int (iZ b)), (12, .int (iZ (k : Int))), (13, .long (lZ (((nearZ (S2 i) tk) - 48) + (k : Int))))]) d_Mo_findWays_129 (by decide) rfl ?_
      refine ev_aload_n d_Mo_findWays_131 rfl rfl ?_
      refine ev_iload_n d_Mo_findWays_132 rfl rfl ?_
      refine ev_lload d_Mo_findWays_133 rfl ?_
      refine ev_lload d_Mo_findWays_135 rfl ?_
      have lz := lgZ_r (rpP n S1 S2 S3 S4 num den tk g0 l0 m0 s0 U nu) i (nearZ (S1 i) tk - 12 + (j : Int)) (nearZ (S2 i) tk - 48 + (k : Int))
      refine ev_pV M_Mo_lasts 2 60 (As := [.int (iZ (i : Int)), .long (lZ (nearZ (S1 i) tk - 12 + (j : Int))), .long (lZ (((nearZ (S2 i) tk) - 48) + (k : Int)))]) (c_Mo_lasts G h σ m s3 s4 us n i S1 S2 S3 S4 num den tk g0 l0 m0 s0 U nu (nearZ (S1 i) tk - 12 + (j : Int)) (nearZ (S2 i) tk - 48 + (k : Int)) hm f2 f3 f7 f8 f25 f26 f28 f29 f30 hs3 hs4 hus hi hn hZ hB hnu hU hnum hden htk htr hl hm0 hs (by omega) (by omega)) d_Mo_findWays_137 mk_Mo_lasts ml_Mo_248 mv_Mo_lasts hm rfl rfl rfl (Nat.le_of_ble_eq_true rfl) ⟨by decide, by decide⟩ ⟨by decide, by decide⟩ ?_
      refine ez_if_eq (tgt := 201) (by omega) d_Mo_findWays_140 rfl (fun c140 => ?_) (fun c140 => ?_)
      · refine ez_iinc (L' := [(0, .ref m), (1, .int (iZ (i : Int))), (2, .int (iZ ((i % 2 * 97 : Nat) : Int))), (3, .long (lZ (nearZ (S1 i) tk))), (5, .long (lZ (nearZ (S2 i) tk))), (7, .int (iZ sm)), (8, .int (iZ (j : Int))), (9, .long (lZ (nearZ (S1 i) tk - 12 + (j : Int)))), (11, .int (iZ b)), (12, .int (iZ ((k + 1 : Nat) : Int))), (13, .long (lZ (((nearZ (S2 i) tk) - 48) + (k : Int))))]) d_Mo_findWays_201 rfl (by decide) rfl ?_
        refine ev_goto (tgt := 103) d_Mo_findWays_204 rfl ?_
        refine ev_loc [(0, .ref m), (1, .int (iZ (i : Int))), (2, .int (iZ ((i % 2 * 97 : Nat) : Int))), (3, .long (lZ (nearZ (S1 i) tk))), (5, .long (lZ (nearZ (S2 i) tk))), (7, .int (iZ sm)), (8, .int (iZ (j : Int))), (9, .long (lZ (nearZ (S1 i) tk - 12 + (j : Int)))), (11, .int (iZ b)), (12, .int (iZ ((k + 1 : Nat) : Int)))] (by simp) ?_
        have hsk : ∀ y, rVP (rpP n S1 S2 S3 S4 num den tk g0 l0 m0 s0 U nu) (i + 1) y → y i ≠ 128 * j + k := by
          intro y v q
          have o := (v i (by omega)).1.2.2
          rw [q, hst9, hen9] at o
          exact lgZ_i.mpr o c140
        exact ih (d - 1) (by omega) (k + 1) sm h S W (by omega) hm hs1 hs2 hs3 hs4 hus hv1 hv2 (fwI_skip hfw hsk) hF hK hS hW hzW hzf fm
      · refine ev_lload d_Mo_findWays_143 rfl ?_
        refine ev_lload_n d_Mo_findWays_145 rfl rfl ?_
        refine ev_pS M_Mo_away 0 0 (As := [.long (lZ (nearZ (S1 i) tk - 12 + (j : Int))), .long (lZ (nearZ (S1 i) tk))]) (c_Mo_away G h (nearZ (S1 i) tk - 12 + (j : Int)) (nearZ (S1 i) tk) (by omega) (by omega)) d_Mo_findWays_146 mk_Mo_away ml_Mo_252 ms_Mo_away rfl rfl (Nat.le_of_ble_eq_true rfl) ⟨by decide, by decide⟩ ⟨by decide, by decide⟩ ?_
        refine ev_lload d_Mo_findWays_149 rfl ?_
        refine ev_lload d_Mo_findWays_151 rfl ?_
        refine ev_pS M_Mo_away 0 0 (As := [.long (lZ (((nearZ (S2 i) tk) - 48) + (k : Int))), .long (lZ (nearZ (S2 i) tk))]) (c_Mo_away G h (((nearZ (S2 i) tk) - 48) + (k : Int)) (nearZ (S2 i) tk) (by omega) (by omega)) d_Mo_findWays_153 mk_Mo_away ml_Mo_252 ms_Mo_away rfl rfl (Nat.le_of_ble_eq_true rfl) ⟨by decide, by decide⟩ ⟨by decide, by decide⟩ ?_
        refine ez_ladd d_Mo_findWays_156 ?_
        refine ez_l2i d_Mo_findWays_157 ?_
        refine ev_iload_n d_Mo_findWays_158 rfl rfl ?_
        refine ez_if_ne (tgt := 166) (by omega) d_Mo_findWays_159 rfl (fun c159 => ?_) (fun c159 => ?_)
        · refine ev_aload_n d_Mo_findWays_166 rfl rfl ?_
          refine ev_getF d_Mo_findWays_167 fl_Mo_75 hm (by decide) f31 ?_
          refine ev_iload_n d_Mo_findWays_170 rfl rfl ?_
          refine ev_iconst (v := iZ 1) d_Mo_findWays_171 rfl ?_
          refine ez_isub d_Mo_findWays_172 ?_
          refine ev_iconst (v := iZ 2) d_Mo_findWays_173 rfl ?_
          refine ez_irem (by omega) (by omega) (by omega) (by omega) d_Mo_findWays_174 ?_
          refine ev_bipush (v := iZ 97) d_Mo_findWays_175 rfl ?_
          refine ez_imul d_Mo_findWays_177 ?_
          refine ev_iload d_Mo_findWays_178 rfl ?_
          refine ez_iadd d_Mo_findWays_180 ?_
          refine ez_iaload fr d_Mo_findWays_181 hv1 (by omega) (by omega) (by decide) ?_
          refine ez_iadd d_Mo_findWays_182 ?_
          rw [show (((((nearZ (S1 i) tk - 12 + (j : Int)) - (nearZ (S1 i) tk)).natAbs : Int) + (((((nearZ (S2 i) tk) - 48) + (k : Int)) - (nearZ (S2 i) tk)).natAbs : Int)) + (S fr) : Int) = zs + rCo (128 * j + k) from by omega]
          refine ev_istore (L' := [(0, .ref m), (1, .int (iZ (i : Int))), (2, .int (iZ ((i % 2 * 97 : Nat) : Int))), (3, .long (lZ (nearZ (S1 i) tk))), (5, .long (lZ (nearZ (S2 i) tk))), (7, .int (iZ sm)), (8, .int (iZ (j : Int))), (9, .long (lZ (nearZ (S1 i) tk - 12 + (j : Int)))), (11, .int (iZ b)), (12, .int (iZ (k : Int))), (13, .long (lZ (((nearZ (S2 i) tk) - 48) + (k : Int)))), (15, .int (iZ (zs + rCo (128 * j + k))))]) d_Mo_findWays_183 (by decide) rfl ?_
          refine ev_aload_n d_Mo_findWays_185 rfl rfl ?_
          refine ev_iload_n d_Mo_findWays_186 rfl rfl ?_
          refine ev_iload d_Mo_findWays_187 rfl ?_
          refine ev_iload d_Mo_findWays_189 rfl ?_
          refine ev_iload d_Mo_findWays_191 rfl ?_
          refine ev_iload d_Mo_findWays_193 rfl ?_
          refine ev_callV M_Mo_offer (rm 0 0) _ (As := [.int (iZ (i : Int)), .int (iZ (k : Int)), .int (iZ (j : Int)), .int (iZ (zs + rCo (128 * j + k))), .int (iZ b)]) (c_Mo_offer G h σ m v1 v2 i k j (i % 2 * 97 + k) fr (zs + rCo (128 * j + k)) b S W hm f31 f32 hv1 hv2 (by omega) (by omega) hj (by omega) (by omega) hS hW rfl hfb (by omega) (by omega)) d_Mo_findWays_195 mk_Mo_offer ml_Mo_255 mv_Mo_offer hm rfl rfl rfl (Nat.le_of_ble_eq_true rfl) ⟨by decide, by decide⟩ ⟨by decide, by decide⟩ (fun r h9 hq => ?_)
          obtain ⟨rfl, oy, on, fmc⟩ := hq
          have hl9 := lgZ_i.mp (show lgZ (rpP n S1 S2 S3 S4 num den tk g0 l0 m0 s0 U nu) i (nearZ (S1 i) tk - 12 + (j : Int)) (nearZ (S2 i) tk - 48 + (k : Int)) ≠ 0 from c140)
          rw [← hst9, ← hen9] at hl9
          have fo := fwI_offer (fr := fr) (sum := zs + rCo (128 * j + k)) hfw (by omega) hj (by omega) (fun c => (hW c).1) hl9 (by rw [hst9]; exact rPre_c (fun c hc => (hzW c hc).symm) hz) (by rw [rCs_c hzW, hzs])
          have rz := rCs_r i hz.1
          have rc9 := rCo_r (128 * j + k) (by omega) (by omega)
          by_cases ob : offB S W i (i % 2 * 97 + k) fr (zs + rCo (128 * j + k)) ((128 * j + k : Nat) : Int)
          ·
            obtain ⟨gv1, gv2⟩ := oy ob
            have hm := (fmc _ (ninc (cne hm hv1 (by simp)) (ninc (cne hm hv2 (by simp)) nin0))).trans hm
            have hs1 := (fmc _ (ninc (cne hs1 hv1 (by simp)) (ninc (cne hs1 hv2 (by simp)) nin0))).trans hs1
            have hs2 := (fmc _ (ninc (cne hs2 hv1 (by simp)) (ninc (cne hs2 hv2 (by simp)) nin0))).trans hs2
            have hs3 := (fmc _ (ninc (cne hs3 hv1 (by simp)) (ninc (cne hs3 hv2 (by simp)) nin0))).trans hs3
            have hs4 := (fmc _ (ninc (cne hs4 hv1 (by simp)) (ninc (cne hs4 hv2 (by simp)) nin0))).trans hs4
            have hus := (fmc _ (ninc (cne hus hv1 (by simp)) (ninc (cne hus hv2 (by simp)) nin0))).trans hus
            have hv1 := gv1
            have hv2 := gv2
            have fm := fm.call (by simp) fmc
            refine ev_iconst (v := iZ 1) d_Mo_findWays_198 rfl ?_
            refine ev_istore (L' := [(0, .ref m), (1, .int (iZ (i : Int))), (2, .int (iZ ((i % 2 * 97 : Nat) : Int))), (3, .long (lZ (nearZ (S1 i) tk))), (5, .long (lZ (nearZ (S2 i) tk))), (7, .int (iZ 1)), (8, .int (iZ (j : Int))), (9, .long (lZ (nearZ (S1 i) tk - 12 + (j : Int)))), (11, .int (iZ b)), (12, .int (iZ (k : Int))), (13, .long (lZ (((nearZ (S2 i) tk) - 48) + (k : Int)))), (15, .int (iZ (zs + rCo (128 * j + k))))]) d_Mo_findWays_199 (by decide) rfl ?_
            refine ez_iinc (L' := [(0, .ref m), (1, .int (iZ (i : Int))), (2, .int (iZ ((i % 2 * 97 : Nat) : Int))), (3, .long (lZ (nearZ (S1 i) tk))), (5, .long (lZ (nearZ (S2 i) tk))), (7, .int (iZ 1)), (8, .int (iZ (j : Int))), (9, .long (lZ (nearZ (S1 i) tk - 12 + (j : Int)))), (11, .int (iZ b)), (12, .int (iZ ((k + 1 : Nat) : Int))), (13, .long (lZ (((nearZ (S2 i) tk) - 48) + (k : Int)))), (15, .int (iZ (zs + rCo (128 * j + k))))]) d_Mo_findWays_201 rfl (by decide) rfl ?_
            refine ev_goto (tgt := 103) d_Mo_findWays_204 rfl ?_
            refine ev_loc [(0, .ref m), (1, .int (iZ (i : Int))), (2, .int (iZ ((i % 2 * 97 : Nat) : Int))), (3, .long (lZ (nearZ (S1 i) tk))), (5, .long (lZ (nearZ (S2 i) tk))), (7, .int (iZ 1)), (8, .int (iZ (j : Int))), (9, .long (lZ (nearZ (S1 i) tk - 12 + (j : Int)))), (11, .int (iZ b)), (12, .int (iZ ((k + 1 : Nat) : Int)))] (by simp) ?_
            exact ih (d - 1) (by omega) (k + 1) 1 h9 _ _ (by omega) hm hs1 hs2 hs3 hs4 hus hv1 hv2 (fo.1 ob) (Or.inl ⟨rfl, fo.2.2⟩) (fwK_o hK (by omega) (by omega)) (zup_r hS (by omega)) (zup_r (cpy_q hW hW) (by omega)) (fun c hc => by rw [← hzW c hc]; show (ofW W fr _ i _ (16 * fr + c)).toNat = (W (16 * fr + c)).toNat; rw [ofW_o (by omega) (by omega) (by omega)]) (by rcases hzf with q | ⟨q, q2⟩; exact Or.inl q; exact Or.inr ⟨q, by rw [← q2]; exact zup_n (by omega)⟩) fm
          ·
            rw [on ob]
            refine ev_iconst (v := iZ 1) d_Mo_findWays_198 rfl ?_
            refine ev_istore (L' := [(0, .ref m), (1, .int (iZ (i : Int))), (2, .int (iZ ((i % 2 * 97 : Nat) : Int))), (3, .long (lZ (nearZ (S1 i) tk))), (5, .long (lZ (nearZ (S2 i) tk))), (7, .int (iZ 1)), (8, .int (iZ (j : Int))), (9, .long (lZ (nearZ (S1 i) tk - 12 + (j : Int)))), (11, .int (iZ b)), (12, .int (iZ (k : Int))), (13, .long (lZ (((nearZ (S2 i) tk) - 48) + (k : Int)))), (15, .int (iZ (zs + rCo (128 * j + k))))]) d_Mo_findWays_199 (by decide) rfl ?_
            refine ez_iinc (L' := [(0, .ref m), (1, .int (iZ (i : Int))), (2, .int (iZ ((i % 2 * 97 : Nat) : Int))), (3, .long (lZ (nearZ (S1 i) tk))), (5, .long (lZ (nearZ (S2 i) tk))), (7, .int (iZ 1)), (8, .int (iZ (j : Int))), (9, .long (lZ (nearZ (S1 i) tk - 12 + (j : Int)))), (11, .int (iZ b)), (12, .int (iZ ((k + 1 : Nat) : Int))), (13, .long (lZ (((nearZ (S2 i) tk) - 48) + (k : Int)))), (15, .int (iZ (zs + rCo (128 * j + k))))]) d_Mo_findWays_201 rfl (by decide) rfl ?_
            refine ev_goto (tgt := 103) d_Mo_findWays_204 rfl ?_
            refine ev_loc [(0, .ref m), (1, .int (iZ (i : Int))), (2, .int (iZ ((i % 2 * 97 : Nat) : Int))), (3, .long (lZ (nearZ (S1 i) tk))), (5, .long (lZ (nearZ (S2 i) tk))), (7, .int (iZ 1)), (8, .int (iZ (j : Int))), (9, .long (lZ (nearZ (S1 i) tk - 12 + (j : Int)))), (11, .int (iZ b)), (12, .int (iZ ((k + 1 : Nat) : Int)))] (by simp) ?_
            exact ih (d - 1) (by omega) (k + 1) 1 h S W (by omega) hm hs1 hs2 hs3 hs4 hus hv1 hv2 (fo.2.1 ob).1 (Or.inl ⟨rfl, fo.2.2⟩) hK hS hW hzW hzf fm
        · refine ev_iconst (v := iZ 0) d_Mo_findWays_162 rfl ?_
          refine ev_goto (tgt := 182) d_Mo_findWays_163 rfl ?_
          refine ez_iadd d_Mo_findWays_182 ?_
          rw [show (((((nearZ (S1 i) tk - 12 + (j : Int)) - (nearZ (S1 i) tk)).natAbs : Int) + (((((nearZ (S2 i) tk) - 48) + (k : Int)) - (nearZ (S2 i) tk)).natAbs : Int)) + 0 : Int) = zs + rCo (128 * j + k) from by omega]
          refine ev_istore (L' := [(0, .ref m), (1, .int (iZ (i : Int))), (2, .int (iZ ((i % 2 * 97 : Nat) : Int))), (3, .long (lZ (nearZ (S1 i) tk))), (5, .long (lZ (nearZ (S2 i) tk))), (7, .int (iZ sm)), (8, .int (iZ (j : Int))), (9, .long (lZ (nearZ (S1 i) tk - 12 + (j : Int)))), (11, .int (iZ b)), (12, .int (iZ (k : Int))), (13, .long (lZ (((nearZ (S2 i) tk) - 48) + (k : Int)))), (15, .int (iZ (zs + rCo (128 * j + k))))]) d_Mo_findWays_183 (by decide) rfl ?_
          refine ev_aload_n d_Mo_findWays_185 rfl rfl ?_
          refine ev_iload_n d_Mo_findWays_186 rfl rfl ?_
          refine ev_iload d_Mo_findWays_187 rfl ?_
          refine ev_iload d_Mo_findWays_189 rfl ?_
          refine ev_iload d_Mo_findWays_191 rfl ?_
          refine ev_iload d_Mo_findWays_193 rfl ?_
          refine ev_callV M_Mo_offer (rm 0 0) _ (As := [.int (iZ (i : Int)), .int (iZ (k : Int)), .int (iZ (j : Int)), .int (iZ (zs + rCo (128 * j + k))), .int (iZ b)]) (c_Mo_offer G h σ m v1 v2 i k j (i % 2 * 97 + k) fr (zs + rCo (128 * j + k)) b S W hm f31 f32 hv1 hv2 (by omega) (by omega) hj (by omega) (by omega) hS hW rfl hfb (by omega) (by omega)) d_Mo_findWays_195 mk_Mo_offer ml_Mo_255 mv_Mo_offer hm rfl rfl rfl (Nat.le_of_ble_eq_true rfl) ⟨by decide, by decide⟩ ⟨by decide, by decide⟩ (fun r h9 hq => ?_)
          obtain ⟨rfl, oy, on, fmc⟩ := hq
          have hl9 := lgZ_i.mp (show lgZ (rpP n S1 S2 S3 S4 num den tk g0 l0 m0 s0 U nu) i (nearZ (S1 i) tk - 12 + (j : Int)) (nearZ (S2 i) tk - 48 + (k : Int)) ≠ 0 from c140)
          rw [← hst9, ← hen9] at hl9
          have fo := fwI_offer (fr := fr) (sum := zs + rCo (128 * j + k)) hfw (by omega) hj (by omega) (fun c => (hW c).1) hl9 (by rw [hst9]; exact rPre_c (fun c hc => (hzW c hc).symm) hz) (by rw [rCs_c hzW, hzs])
          have rz := rCs_r i hz.1
          have rc9 := rCo_r (128 * j + k) (by omega) (by omega)
          by_cases ob : offB S W i (i % 2 * 97 + k) fr (zs + rCo (128 * j + k)) ((128 * j + k : Nat) : Int)
          ·
            obtain ⟨gv1, gv2⟩ := oy ob
            have hm := (fmc _ (ninc (cne hm hv1 (by simp)) (ninc (cne hm hv2 (by simp)) nin0))).trans hm
            have hs1 := (fmc _ (ninc (cne hs1 hv1 (by simp)) (ninc (cne hs1 hv2 (by simp)) nin0))).trans hs1
            have hs2 := (fmc _ (ninc (cne hs2 hv1 (by simp)) (ninc (cne hs2 hv2 (by simp)) nin0))).trans hs2
            have hs3 := (fmc _ (ninc (cne hs3 hv1 (by simp)) (ninc (cne hs3 hv2 (by simp)) nin0))).trans hs3
            have hs4 := (fmc _ (ninc (cne hs4 hv1 (by simp)) (ninc (cne hs4 hv2 (by simp)) nin0))).trans hs4
            have hus := (fmc _ (ninc (cne hus hv1 (by simp)) (ninc (cne hus hv2 (by simp)) nin0))).trans hus
            have hv1 := gv1
            have hv2 := gv2
            have fm := fm.call (by simp) fmc
            refine ev_iconst (v := iZ 1) d_Mo_findWays_198 rfl ?_
            refine ev_istore (L' := [(0, .ref m), (1, .int (iZ (i : Int))), (2, .int (iZ ((i % 2 * 97 : Nat) : Int))), (3, .long (lZ (nearZ (S1 i) tk))), (5, .long (lZ (nearZ (S2 i) tk))), (7, .int (iZ 1)), (8, .int (iZ (j : Int))), (9, .long (lZ (nearZ (S1 i) tk - 12 + (j : Int)))), (11, .int (iZ b)), (12, .int (iZ (k : Int))), (13, .long (lZ (((nearZ (S2 i) tk) - 48) + (k : Int)))), (15, .int (iZ (zs + rCo (128 * j + k))))]) d_Mo_findWays_199 (by decide) rfl ?_
            refine ez_iinc (L' := [(0, .ref m), (1, .int (iZ (i : Int))), (2, .int (iZ ((i % 2 * 97 : Nat) : Int))), (3, .long (lZ (nearZ (S1 i) tk))), (5, .long (lZ (nearZ (S2 i) tk))), (7, .int (iZ 1)), (8, .int (iZ (j : Int))), (9, .long (lZ (nearZ (S1 i) tk - 12 + (j : Int)))), (11, .int (iZ b)), (12, .int (iZ ((k + 1 : Nat) : Int))), (13, .long (lZ (((nearZ (S2 i) tk) - 48) + (k : Int)))), (15, .int (iZ (zs + rCo (128 * j + k))))]) d_Mo_findWays_201 rfl (by decide) rfl ?_
            refine ev_goto (tgt := 103) d_Mo_findWays_204 rfl ?_
            refine ev_loc [(0, .ref m), (1, .int (iZ (i : Int))), (2, .int (iZ ((i % 2 * 97 : Nat) : Int))), (3, .long (lZ (nearZ (S1 i) tk))), (5, .long (lZ (nearZ (S2 i) tk))), (7, .int (iZ 1)), (8, .int (iZ (j : Int))), (9, .long (lZ (nearZ (S1 i) tk - 12 + (j : Int)))), (11, .int (iZ b)), (12, .int (iZ ((k + 1 : Nat) : Int)))] (by simp) ?_
            exact ih (d - 1) (by omega) (k + 1) 1 h9 _ _ (by omega) hm hs1 hs2 hs3 hs4 hus hv1 hv2 (fo.1 ob) (Or.inl ⟨rfl, fo.2.2⟩) (fwK_o hK (by omega) (by omega)) (zup_r hS (by omega)) (zup_r (cpy_q hW hW) (by omega)) (fun c hc => by rw [← hzW c hc]; show (ofW W fr _ i _ (16 * fr + c)).toNat = (W (16 * fr + c)).toNat; rw [ofW_o (by omega) (by omega) (by omega)]) (by rcases hzf with q | ⟨q, q2⟩; exact Or.inl q; exact Or.inr ⟨q, by rw [← q2]; exact zup_n (by omega)⟩) fm
          ·
            rw [on ob]
            refine ev_iconst (v := iZ 1) d_Mo_findWays_198 rfl ?_
            refine ev_istore (L' := [(0, .ref m), (1, .int (iZ (i : Int))), (2, .int (iZ ((i % 2 * 97 : Nat) : Int))), (3, .long (lZ (nearZ (S1 i) tk))), (5, .long (lZ (nearZ (S2 i) tk))), (7, .int (iZ 1)), (8, .int (iZ (j : Int))), (9, .long (lZ (nearZ (S1 i) tk - 12 + (j : Int)))), (11, .int (iZ b)), (12, .int (iZ (k : Int))), (13, .long (lZ (((nearZ (S2 i) tk) - 48) + (k : Int)))), (15, .int (iZ (zs + rCo (128 * j + k))))]) d_Mo_findWays_199 (by decide) rfl ?_
            refine ez_iinc (L' := [(0, .ref m), (1, .int (iZ (i : Int))), (2, .int (iZ ((i % 2 * 97 : Nat) : Int))), (3, .long (lZ (nearZ (S1 i) tk))), (5, .long (lZ (nearZ (S2 i) tk))), (7, .int (iZ 1)), (8, .int (iZ (j : Int))), (9, .long (lZ (nearZ (S1 i) tk - 12 + (j : Int)))), (11, .int (iZ b)), (12, .int (iZ ((k + 1 : Nat) : Int))), (13, .long (lZ (((nearZ (S2 i) tk) - 48) + (k : Int)))), (15, .int (iZ (zs + rCo (128 * j + k))))]) d_Mo_findWays_201 rfl (by decide) rfl ?_
            refine ev_goto (tgt := 103) d_Mo_findWays_204 rfl ?_
            refine ev_loc [(0, .ref m), (1, .int (iZ (i : Int))), (2, .int (iZ ((i % 2 * 97 : Nat) : Int))), (3, .long (lZ (nearZ (S1 i) tk))), (5, .long (lZ (nearZ (S2 i) tk))), (7, .int (iZ 1)), (8, .int (iZ (j : Int))), (9, .long (lZ (nearZ (S1 i) tk - 12 + (j : Int)))), (11, .int (iZ b)), (12, .int (iZ ((k + 1 : Nat) : Int)))] (by simp) ?_
            exact ih (d - 1) (by omega) (k + 1) 1 h S W (by omega) hm hs1 hs2 hs3 hs4 hus hv1 hv2 (fo.2.1 ob).1 (Or.inl ⟨rfl, fo.2.2⟩) hK hS hW hzW hzf fm
set_option maxHeartbeats 4000000 in
set_option maxRecDepth 100000 in
theorem lp_Mo_fw2 (G : GT) (h0 : HM) (σ : Nat → Value) (m s1 s2 s3 s4 us v1 v2 n i : Nat) (S1 S2 S3 S4 : Nat → Int) (num den tk g0 l0 m0 s0 : Int) (U : Nat → Int) (nu : Nat) (T0 W0 : Nat → Int) (f2 : σ 2 = .int (iZ num)) (f3 : σ 3 = .int (iZ den)) (f5 : σ 5 = .ref s1) (f6 : σ 6 = .ref s2) (f7 : σ 7 = .ref s3) (f8 : σ 8 = .ref s4) (f25 : σ 25 = .int (iZ (nu : Int))) (f26 : σ 26 = .ref us) (f27 : σ 27 = .int (iZ g0)) (f28 : σ 28 = .int (iZ l0)) (f29 : σ 29 = .int (iZ m0)) (f30 : σ 30 = .int (iZ s0)) (f31 : σ 31 = .ref v1) (f32 : σ 32 = .ref v2) (hi : i < n) (hn : n ≤ 16) (hT : ∀ k, 0 ≤ S1 k ∧ S1 k ≤ 2540160000000) (hE : ∀ k, 0 ≤ S2 k ∧ S2 k ≤ 2540160000000) (hZ : ∀ k, 0 ≤ S3 k ∧ S3 k ≤ 64) (hB : ∀ k, 0 ≤ S4 k ∧ S4 k ≤ 255) (hnu : nu ≤ 20) (hU : ∀ k, k < nu → 0 ≤ U k ∧ U k ≤ 216000) (hnum : 1 ≤ num ∧ num ≤ 120000) (hden : 1 ≤ den ∧ den ≤ 1001) (htk : tk = 705600000 * den / num) (htr : 11760000 ≤ tk ∧ tk ≤ 705600000) (hg : 0 ≤ g0 ∧ g0 ≤ 20) (hl : 1 ≤ l0 ∧ l0 ≤ 100) (hm0 : 0 ≤ m0 ∧ m0 ≤ 400) (hs : 1 ≤ s0 ∧ s0 ≤ 60) (n_s : s1 ≠ s2) (hprev : 1 ≤ i → fwI (rpP n S1 S2 S3 S4 num den tk g0 l0 m0 s0 U nu) T0 W0 (i - 1) 25 0) : ∀ (d : Nat) (j : Nat) (sm : Int) (h : HM) (S W : Nat → Int), j + d = 25 → h m = some (.inr (11, fsN 34 σ)) → h s1 = some (.inl (G_j G, 16, .inr (.inl (lA S1)))) → h s2 = some (.inl (G_j G, 16, .inr (.inl (lA S2)))) → h s3 = some (.inl (G_i G, 16, .inl (iA S3))) → h s4 = some (.inl (G_i G, 1024, .inl (iA S4))) → h us = some (.inl (G_i G, 20, .inl (iA U))) → h v1 = some (.inl (G_i G, 194, .inl (iA S))) → h v2 = some (.inl (G_i G, 3104, .inl (iA W))) → fwI (rpP n S1 S2 S3 S4 num den tk g0 l0 m0 s0 U nu) S W i j 0 → fwF (rpP n S1 S2 S3 S4 num den tk g0 l0 m0 s0 U nu) S i sm → fwK S W T0 W0 i → (∀ k, -1 ≤ S k ∧ S k ≤ 100000) → (∀ k, 0 ≤ W k ∧ W k ≤ 100000) → Fm [v1, v2] h0 h → Ev G M_Mo_findWays (rm 3 90) (fun r h' => ∃ sm : Int, r = some (.int (iZ sm)) ∧ (∃ S W : Nat → Int, h' v1 = some (.inl (G_i G, 194, .inl (iA S))) ∧ h' v2 = some (.inl (G_i G, 3104, .inl (iA W))) ∧ fwI (rpP n S1 S2 S3 S4 num den tk g0 l0 m0 s0 U nu) S W i 25 0 ∧ (∀ k, -1 ≤ S k ∧ S k ≤ 100000) ∧ (∀ k, 0 ≤ W k ∧ W k ≤ 100000)) ∧ ((sm = 1 ∧ ∃ x, rVP (rpP n S1 S2 S3 S4 num den tk g0 l0 m0 s0 U nu) (i + 1) x) ∨ (sm = 0 ∧ ¬ ∃ x, rVP (rpP n S1 S2 S3 S4 num den tk g0 l0 m0 s0 U nu) (i + 1) x)) ∧ Fm [v1, v2] h0 h') 65 [(0, .ref m), (1, .int (iZ (i : Int))), (2, .int (iZ ((i % 2 * 97 : Nat) : Int))), (3, .long (lZ (nearZ (S1 i) tk))), (5, .long (lZ (nearZ (S2 i) tk))), (7, .int (iZ sm)), (8, .int (iZ (j : Int)))] [] h 0 0 := by
  intro d
  induction d using Nat.strongRecOn with
  | ind d ih =>
  intro j sm h S W hd hm hs1 hs2 hs3 hs4 hus hv1 hv2 hfw hF hK hS hW fm
  have t0 := hT i
  have e0 := hE i
  have nt := fra_r htr t0
  have ne := fra_r htr e0
  have hsm : sm = 0 ∨ sm = 1 := by rcases hF with q | q; exact Or.inr q.1; exact Or.inl q.1
  refine ev_iload d_Mo_findWays_65 rfl ?_
  refine ev_bipush (v := iZ 25) d_Mo_findWays_67 rfl ?_
  refine ez_icmp_ge (tgt := 213) (by omega) (by decide) d_Mo_findWays_69 rfl (fun c69 => ?_) (fun c69 => ?_)
  · refine ev_iload d_Mo_findWays_213 rfl ?_
    obtain rfl : j = 25 := by omega
    exact ev_zreturn d_Mo_findWays_215 rfl (by rcases hsm with q | q; exact Or.inl (by rw [q]; rfl); exact Or.inr (by rw [q]; rfl)) (by decide) (by decide) (⟨sm, rfl, ⟨S, W, hv1, hv2, hfw, hS, hW⟩, (by rcases hF with q | ⟨q1, q2⟩; exact Or.inl q; exact Or.inr ⟨q1, fw_some hfw q2⟩), fm⟩)
  · refine ev_lload_n d_Mo_findWays_72 rfl rfl ?_
    refine ev_ldc2 (v := lZ 12) d_Mo_findWays_73 kc_Mo_242 ?_
    refine ez_lsub d_Mo_findWays_76 ?_
    refine ev_iload d_Mo_findWays_77 rfl ?_
    refine ez_i2l (by omega) d_Mo_findWays_79 ?_
    refine ez_ladd d_Mo_findWays_80 ?_
    refine ev_lstore (L' := [(0, .ref m), (1, .int (iZ (i : Int))), (2, .int (iZ ((i % 2 * 97 : Nat) : Int))), (3, .long (lZ (nearZ (S1 i) tk))), (5, .long (lZ (nearZ (S2 i) tk))), (7, .int (iZ sm)), (8, .int (iZ (j : Int))), (9, .long (lZ (((nearZ (S1 i) tk) - 12) + (j : Int))))]) d_Mo_findWays_81 (by decide) rfl ?_
    refine ev_iload_n d_Mo_findWays_83 rfl rfl ?_
    refine ez_if_ne (tgt := 91) (by omega) d_Mo_findWays_84 rfl (fun c84 => ?_) (fun c84 => ?_)
    · refine ev_aload_n d_Mo_findWays_91 rfl rfl ?_
      refine ev_iload_n d_Mo_findWays_92 rfl rfl ?_
      refine ev_lload d_Mo_findWays_93 rfl ?_
      refine ev_second ((i - 1 + 1 : Nat) : Int) (by omega) ?_
      refine ev_callV M_Mo_bestBefore (rm 1 40) _ (As := [.int (iZ ((i - 1 + 1 : Nat) : Int)), .long (lZ (((nearZ (S1 i) tk) - 12) + (j : Int)))]) (c_Mo_bestBefore G h σ m s2 v1 v2 (i - 1) ((i - 1) % 2 * 97) S2 S W num den tk g0 (((nearZ (S1 i) tk) - 12) + (j : Int)) hm f2 f3 f6 f27 f31 f32 hs2 hv1 hv2 (by omega) rfl hS hW hE hnum hden htk htr hg (by omega)) d_Mo_findWays_95 mk_Mo_bestBefore ml_Mo_244 mv_Mo_bestBefore hm rfl rfl rfl (Nat.le_of_ble_eq_true rfl) ⟨by decide, by decide⟩ ⟨by decide, by decide⟩ (fun r h9 hq => ?_)
      obtain ⟨b, rfl, e9, hb⟩ := hq
      rw [e9]
      have hbr := bbP_r hb
      refine ev_istore (L' := [(0, .ref m), (1, .int (iZ (i : Int))), (2, .int (iZ ((i % 2 * 97 : Nat) : Int))), (3, .long (lZ (nearZ (S1 i) tk))), (5, .long (lZ (nearZ (S2 i) tk))), (7, .int (iZ sm)), (8, .int (iZ (j : Int))), (9, .long (lZ (((nearZ (S1 i) tk) - 12) + (j : Int)))), (11, .int (iZ b))]) d_Mo_findWays_98 (by decide) rfl ?_
      refine ev_iconst (v := iZ 0) d_Mo_findWays_100 rfl ?_
      refine ev_istore (L' := [(0, .ref m), (1, .int (iZ (i : Int))), (2, .int (iZ ((i % 2 * 97 : Nat) : Int))), (3, .long (lZ (nearZ (S1 i) tk))), (5, .long (lZ (nearZ (S2 i) tk))), (7, .int (iZ sm)), (8, .int (iZ (j : Int))), (9, .long (lZ (((nearZ (S1 i) tk) - 12) + (j : Int)))), (11, .int (iZ b)), (12, .int (iZ 0))]) d_Mo_findWays_101 (by decide) rfl ?_
      have hi1 : i - 1 + 1 = i := by omega
      have hpr := fwK_e hK (by omega) (by omega) (hprev (by omega))
      have he9 : (rpP n S1 S2 S3 S4 num den tk g0 l0 m0 s0 U nu).2.2.1 (i - 1) = nearZ (S2 (i - 1)) tk := by
        show nrF S2 tk 0 n (i - 1) = _
        rw [show nrF S2 tk 0 n (i - 1) = nearZ (S2 (i - 1)) tk - 0 from if_pos (by omega)]
        omega
      by_cases hb0 : b < 0
      ·
        obtain rfl : b = -1 := by omega
        have np := fw_npre (P := rpP n S1 S2 S3 S4 num den tk g0 l0 m0 s0 U nu) hpr he9 hb
        have fnx : fwI (rpP n S1 S2 S3 S4 num den tk g0 l0 m0 s0 U nu) S W i (j + 1) 0 := by
          refine fwI_all hfw (fun y k hk v q => ?_)
          have o := (v i (by omega)).2 (i - 1) hi1
          rw [q] at o
          have st9 : rSt (rpP n S1 S2 S3 S4 num den tk g0 l0 m0 s0 U nu) i (128 * j + k) = nearZ (S1 i) tk - 12 + (j : Int) := by
            show nrF S1 tk 0 n i - 12 + (((128 * j + k) / 128 : Nat) : Int) = _
            rw [show nrF S1 tk 0 n i = nearZ (S1 i) tk - 0 from if_pos hi, show (128 * j + k) / 128 = j from by omega]
            omega
          rw [st9] at o
          exact np y (rVP_le v (by omega)) o
        refine ev_iload d_Mo_findWays_103 rfl ?_
        refine ev_bipush (v := iZ 97) d_Mo_findWays_105 rfl ?_
        refine ez_icmp_ge (tgt := 207) (by decide) (by decide) d_Mo_findWays_107 rfl (fun c107 => absurd c107 (by omega)) (fun c107 => ?_)
        refine ev_iload_n d_Mo_findWays_110 rfl rfl ?_
        refine ez_if_eq (tgt := 119) (by omega) d_Mo_findWays_111 rfl (fun c111 => absurd c111 (by omega)) (fun c111 => ?_)
        refine ev_iload d_Mo_findWays_114 rfl ?_
        refine ez_if_lt (tgt := 207) (by decide) d_Mo_findWays_116 rfl (fun c116 => ?_) (fun c116 => absurd c116 (by omega))
        refine ez_iinc (L' := [(0, .ref m), (1, .int (iZ (i : Int))), (2, .int (iZ ((i % 2 * 97 : Nat) : Int))), (3, .long (lZ (nearZ (S1 i) tk))), (5, .long (lZ (nearZ (S2 i) tk))), (7, .int (iZ sm)), (8, .int (iZ ((j + 1 : Nat) : Int))), (9, .long (lZ (((nearZ (S1 i) tk) - 12) + (j : Int)))), (11, .int (iZ (-1))), (12, .int (iZ 0))]) d_Mo_findWays_207 rfl (by decide) rfl ?_
        refine ev_goto (tgt := 65) d_Mo_findWays_210 rfl ?_
        refine ev_loc [(0, .ref m), (1, .int (iZ (i : Int))), (2, .int (iZ ((i % 2 * 97 : Nat) : Int))), (3, .long (lZ (nearZ (S1 i) tk))), (5, .long (lZ (nearZ (S2 i) tk))), (7, .int (iZ sm)), (8, .int (iZ ((j + 1 : Nat) : Int)))] (by simp) ?_
        exact ih (d - 1) (by omega) (j + 1) sm h S W (by omega) hm hs1 hs2 hs3 hs4 hus hv1 hv2 fnx hF hK hS hW fm
      ·
        obtain ⟨bn, rfl⟩ : ∃ z : Nat, b = (z : Int) := ⟨b.toNat, by omega⟩
        obtain ⟨p1, p2, p3⟩ := fw_pre (P := rpP n S1 S2 S3 S4 num den tk g0 l0 m0 s0 U nu) hpr he9 hb
        rw [hi1] at p2 p3
        refine lp_Mo_fw1 G _ h σ m s1 s2 s3 s4 us v1 v2 n i S1 S2 S3 S4 num den tk g0 l0 m0 s0 U nu T0 W0 f2 f3 f5 f6 f7 f8 f25 f26 f27 f28 f29 f30 f31 f32 hi hn hT hE hZ hB hnu hU hnum hden htk htr hg hl hm0 hs n_s j ((i - 1) % 2 * 97 + bn) (bn : Int) (S ((i - 1) % 2 * 97 + bn)) (wX W ((i - 1) % 2 * 97 + bn)) (by omega) (Or.inr (by omega)) (by omega) (by omega) p2 p3 ?_ 97 0 sm h S W (by omega) hm hs1 hs2 hs3 hs4 hus hv1 hv2 hfw hF hK hS hW (fun _ _ => rfl) (Or.inr ⟨by omega, rfl⟩) Fm.rf
        rintro k9 sm9 h9 S9 W9 rfl gm gs1 gs2 gs3 gs4 gus gv1 gv2 gfw gF gK gS gW fm2
        have hm := gm
        have hs1 := gs1
        have hs2 := gs2
        have hs3 := gs3
        have hs4 := gs4
        have hus := gus
        have hv1 := gv1
        have hv2 := gv2
        have fm := fm.call (by simp) fm2
        have fnx := fwI_n gfw
        refine ez_iinc (L' := [(0, .ref m), (1, .int (iZ (i : Int))), (2, .int (iZ ((i % 2 * 97 : Nat) : Int))), (3, .long (lZ (nearZ (S1 i) tk))), (5, .long (lZ (nearZ (S2 i) tk))), (7, .int (iZ sm9)), (8, .int (iZ ((j + 1 : Nat) : Int))), (9, .long (lZ (((nearZ (S1 i) tk) - 12) + (j : Int)))), (11, .int (iZ (bn : Int))), (12, .int (iZ ((97 : Nat) : Int)))]) d_Mo_findWays_207 rfl (by decide) rfl ?_
        refine ev_goto (tgt := 65) d_Mo_findWays_210 rfl ?_
        refine ev_loc [(0, .ref m), (1, .int (iZ (i : Int))), (2, .int (iZ ((i % 2 * 97 : Nat) : Int))), (3, .long (lZ (nearZ (S1 i) tk))), (5, .long (lZ (nearZ (S2 i) tk))), (7, .int (iZ sm9)), (8, .int (iZ ((j + 1 : Nat) : Int)))] (by simp) ?_
        exact ih (d - 1) (by omega) (j + 1) sm9 h9 S9 W9 (by omega) hm hs1 hs2 hs3 hs4 hus hv1 hv2 fnx gF gK gS gW fm
    · refine ev_iconst (v := iZ (-1)) d_Mo_findWays_87 rfl ?_
      refine ev_goto (tgt := 98) d_Mo_findWays_88 rfl ?_
      refine ev_istore (L' := [(0, .ref m), (1, .int (iZ (i : Int))), (2, .int (iZ ((i % 2 * 97 : Nat) : Int))), (3, .long (lZ (nearZ (S1 i) tk))), (5, .long (lZ (nearZ (S2 i) tk))), (7, .int (iZ sm)), (8, .int (iZ (j : Int))), (9, .long (lZ (((nearZ (S1 i) tk) - 12) + (j : Int)))), (11, .int (iZ (-1)))]) d_Mo_findWays_98 (by decide) rfl ?_
      refine ev_iconst (v := iZ 0) d_Mo_findWays_100 rfl ?_
      refine ev_istore (L' := [(0, .ref m), (1, .int (iZ (i : Int))), (2, .int (iZ ((i % 2 * 97 : Nat) : Int))), (3, .long (lZ (nearZ (S1 i) tk))), (5, .long (lZ (nearZ (S2 i) tk))), (7, .int (iZ sm)), (8, .int (iZ (j : Int))), (9, .long (lZ (((nearZ (S1 i) tk) - 12) + (j : Int)))), (11, .int (iZ (-1))), (12, .int (iZ 0))]) d_Mo_findWays_101 (by decide) rfl ?_
      have hi0 : i = 0 := by omega
      refine lp_Mo_fw1 G _ h σ m s1 s2 s3 s4 us v1 v2 n i S1 S2 S3 S4 num den tk g0 l0 m0 s0 U nu T0 W0 f2 f3 f5 f6 f7 f8 f25 f26 f27 f28 f29 f30 f31 f32 hi hn hT hE hZ hB hnu hU hnum hden htk htr hg hl hm0 hs n_s j 96 (-1) 0 (fun _ => 0) (by omega) (Or.inl hi0) (by omega) (by rw [hi0]; rfl) (by rw [hi0]; exact rPre_0) (by rw [hi0]; rfl) ?_ 97 0 sm h S W (by omega) hm hs1 hs2 hs3 hs4 hus hv1 hv2 hfw hF hK hS hW (fun c hc => absurd hc (by omega)) (Or.inl ⟨hi0, rfl⟩) Fm.rf
      rintro k9 sm9 h9 S9 W9 rfl gm gs1 gs2 gs3 gs4 gus gv1 gv2 gfw gF gK gS gW fm2
      have hm := gm
      have hs1 := gs1
      have hs2 := gs2
      have hs3 := gs3
      have hs4 := gs4
      have hus := gus
      have hv1 := gv1
      have hv2 := gv2
      have fm := fm.call (by simp) fm2
      have fnx := fwI_n gfw
      refine ez_iinc (L' := [(0, .ref m), (1, .int (iZ (i : Int))), (2, .int (iZ ((i % 2 * 97 : Nat) : Int))), (3, .long (lZ (nearZ (S1 i) tk))), (5, .long (lZ (nearZ (S2 i) tk))), (7, .int (iZ sm9)), (8, .int (iZ ((j + 1 : Nat) : Int))), (9, .long (lZ (((nearZ (S1 i) tk) - 12) + (j : Int)))), (11, .int (iZ (-1))), (12, .int (iZ ((97 : Nat) : Int)))]) d_Mo_findWays_207 rfl (by decide) rfl ?_
      refine ev_goto (tgt := 65) d_Mo_findWays_210 rfl ?_
      refine ev_loc [(0, .ref m), (1, .int (iZ (i : Int))), (2, .int (iZ ((i % 2 * 97 : Nat) : Int))), (3, .long (lZ (nearZ (S1 i) tk))), (5, .long (lZ (nearZ (S2 i) tk))), (7, .int (iZ sm9)), (8, .int (iZ ((j + 1 : Nat) : Int)))] (by simp) ?_
      exact ih (d - 1) (by omega) (j + 1) sm9 h9 S9 W9 (by omega) hm hs1 hs2 hs3 hs4 hus hv1 hv2 fnx gF gK gS gW fm
set_option maxHeartbeats 4000000 in
set_option maxRecDepth 100000 in
theorem c_Mo_findWays (G : GT) (h : HM) (σ : Nat → Value) (m s1 s2 s3 s4 us v1 v2 n i : Nat) (S1 S2 S3 S4 : Nat → Int) (num den tk g0 l0 m0 s0 : Int) (U : Nat → Int) (nu : Nat) (T0 W0 : Nat → Int) (hm : h m = some (.inr (11, fsN 34 σ))) (f2 : σ 2 = .int (iZ num)) (f3 : σ 3 = .int (iZ den)) (f5 : σ 5 = .ref s1) (f6 : σ 6 = .ref s2) (f7 : σ 7 = .ref s3) (f8 : σ 8 = .ref s4) (f25 : σ 25 = .int (iZ (nu : Int))) (f26 : σ 26 = .ref us) (f27 : σ 27 = .int (iZ g0)) (f28 : σ 28 = .int (iZ l0)) (f29 : σ 29 = .int (iZ m0)) (f30 : σ 30 = .int (iZ s0)) (f31 : σ 31 = .ref v1) (f32 : σ 32 = .ref v2) (hs1 : h s1 = some (.inl (G_j G, 16, .inr (.inl (lA S1))))) (hs2 : h s2 = some (.inl (G_j G, 16, .inr (.inl (lA S2))))) (hs3 : h s3 = some (.inl (G_i G, 16, .inl (iA S3)))) (hs4 : h s4 = some (.inl (G_i G, 1024, .inl (iA S4)))) (hus : h us = some (.inl (G_i G, 20, .inl (iA U)))) (hv1 : h v1 = some (.inl (G_i G, 194, .inl (iA T0)))) (hv2 : h v2 = some (.inl (G_i G, 3104, .inl (iA W0)))) (hi : i < n) (hn : n ≤ 16) (hT : ∀ k, 0 ≤ S1 k ∧ S1 k ≤ 2540160000000) (hE : ∀ k, 0 ≤ S2 k ∧ S2 k ≤ 2540160000000) (hZ : ∀ k, 0 ≤ S3 k ∧ S3 k ≤ 64) (hB : ∀ k, 0 ≤ S4 k ∧ S4 k ≤ 255) (hnu : nu ≤ 20) (hU : ∀ k, k < nu → 0 ≤ U k ∧ U k ≤ 216000) (hnum : 1 ≤ num ∧ num ≤ 120000) (hden : 1 ≤ den ∧ den ≤ 1001) (htk : tk = 705600000 * den / num) (htr : 11760000 ≤ tk ∧ tk ≤ 705600000) (hg : 0 ≤ g0 ∧ g0 ≤ 20) (hl : 1 ≤ l0 ∧ l0 ≤ 100) (hm0 : 0 ≤ m0 ∧ m0 ≤ 400) (hs : 1 ≤ s0 ∧ s0 ≤ 60) (n_s : s1 ≠ s2) (hprev : 1 ≤ i → fwI (rpP n S1 S2 S3 S4 num den tk g0 l0 m0 s0 U nu) T0 W0 (i - 1) 25 0) (hS : ∀ k, -1 ≤ T0 k ∧ T0 k ≤ 100000) (hW : ∀ k, 0 ≤ W0 k ∧ W0 k ≤ 100000) : Rn G M_Mo_findWays (rm 3 90) [.ref m, .int (iZ (i : Int))] h (fun r h' => ∃ sm : Int, r = some (.int (iZ sm)) ∧ (∃ S W : Nat → Int, h' v1 = some (.inl (G_i G, 194, .inl (iA S))) ∧ h' v2 = some (.inl (G_i G, 3104, .inl (iA W))) ∧ fwI (rpP n S1 S2 S3 S4 num den tk g0 l0 m0 s0 U nu) S W i 25 0 ∧ (∀ k, -1 ≤ S k ∧ S k ≤ 100000) ∧ (∀ k, 0 ≤ W k ∧ W k ≤ 100000)) ∧ ((sm = 1 ∧ ∃ x, rVP (rpP n S1 S2 S3 S4 num den tk g0 l0 m0 s0 U nu) (i + 1) x) ∨ (sm = 0 ∧ ¬ ∃ x, rVP (rpP n S1 S2 S3 S4 num den tk g0 l0 m0 s0 U nu) (i + 1) x)) ∧ Fm [v1, v2] h h') := by
  refine rn_of (by decide) (Nat.le_of_ble_eq_true rfl) ?_
  show Ev G M_Mo_findWays _ _ 0 [(0, .ref m), (1, .int (iZ (i : Int)))] [] _ 0 0
  have fm : Fm [v1, v2] h h := Fm.rf
  refine ev_iload_n d_Mo_findWays_0 rfl rfl ?_
  refine ev_iconst (v := iZ 2) d_Mo_findWays_1 rfl ?_
  refine ez_irem (by omega) (by omega) (by omega) (by omega) d_Mo_findWays_2 ?_
  refine ev_bipush (v := iZ 97) d_Mo_findWays_3 rfl ?_
  refine ez_imul d_Mo_findWays_5 ?_
  rw [show (((i : Int) % 2) * 97 : Int) = ((i % 2 * 97 : Nat) : Int) from by omega]
  refine ev_istore_n (L' := [(0, .ref m), (1, .int (iZ (i : Int))), (2, .int (iZ ((i % 2 * 97 : Nat) : Int)))]) d_Mo_findWays_6 rfl (by decide) rfl ?_
  refine ev_iconst (v := iZ 0) d_Mo_findWays_7 rfl ?_
  refine ev_istore_n (L' := [(0, .ref m), (1, .int (iZ (i : Int))), (2, .int (iZ ((i % 2 * 97 : Nat) : Int))), (3, .int (iZ 0))]) d_Mo_findWays_8 rfl (by decide) rfl ?_
  refine lp_Mo_fw0 G _ h σ m v1 i T0 f31 (by omega) ?_ 97 0 h T0 (by omega) hm hv1 (fun j hj => absurd hj (by omega)) (fun _ _ => rfl) hS Fm.rf
  rintro k9 h5 S rfl gm gv1 g1 g2 gS fm2
  have hs1 := (fm2 _ (ninc (cne hs1 hv1 (by simp)) nin0)).trans hs1
  have hs2 := (fm2 _ (ninc (cne hs2 hv1 (by simp)) nin0)).trans hs2
  have hs3 := (fm2 _ (ninc (cne hs3 hv1 (by simp)) nin0)).trans hs3
  have hs4 := (fm2 _ (ninc (cne hs4 hv1 (by simp)) nin0)).trans hs4
  have hus := (fm2 _ (ninc (cne hus hv1 (by simp)) nin0)).trans hus
  have hv2 := (fm2 _ (ninc (cne hv2 hv1 (by simp)) nin0)).trans hv2
  have hm := gm
  have hv1 := gv1
  have fm := fm.call (by simp) fm2
  have t0 := hT i
  have e0 := hE i
  refine ev_aload_n d_Mo_findWays_30 rfl rfl ?_
  refine ev_getF d_Mo_findWays_31 fl_Mo_20 hm (by decide) f5 ?_
  refine ev_iload_n d_Mo_findWays_34 rfl rfl ?_
  refine ez_laload i d_Mo_findWays_35 hs1 (by omega) (by omega) (by decide) ?_
  refine ev_aload_n d_Mo_findWays_36 rfl rfl ?_
  refine ev_pV M_Mo_frame 0 0 (As := []) (c_Mo_frame G h5 σ m num den hm f2 f3 hnum hden) d_Mo_findWays_37 mk_Mo_frame ml_Mo_134 mv_Mo_frame hm rfl rfl rfl (Nat.le_of_ble_eq_true rfl) ⟨by decide, by decide⟩ ⟨by decide, by decide⟩ ?_
  rw [← htk]
  refine ev_pS M_Mo_nearest 0 0 (As := [.long (lZ (S1 i)), .long (lZ tk)]) (c_Mo_nearest G h5 (S1 i) tk (by omega) (by omega)) d_Mo_findWays_40 mk_Mo_nearest ml_Mo_189 ms_Mo_nearest rfl rfl (Nat.le_of_ble_eq_true rfl) ⟨by decide, by decide⟩ ⟨by decide, by decide⟩ ?_
  refine ev_lstore_n (L' := [(0, .ref m), (1, .int (iZ (i : Int))), (2, .int (iZ ((i % 2 * 97 : Nat) : Int))), (3, .long (lZ (nearZ (S1 i) tk)))]) d_Mo_findWays_43 rfl (by decide) rfl ?_
  refine ev_aload_n d_Mo_findWays_44 rfl rfl ?_
  refine ev_getF d_Mo_findWays_45 fl_Mo_24 hm (by decide) f6 ?_
  refine ev_iload_n d_Mo_findWays_48 rfl rfl ?_
  refine ez_laload i d_Mo_findWays_49 hs2 (by omega) (by omega) (by decide) ?_
  refine ev_aload_n d_Mo_findWays_50 rfl rfl ?_
  refine ev_pV M_Mo_frame 0 0 (As := []) (c_Mo_frame G h5 σ m num den hm f2 f3 hnum hden) d_Mo_findWays_51 mk_Mo_frame ml_Mo_134 mv_Mo_frame hm rfl rfl rfl (Nat.le_of_ble_eq_true rfl) ⟨by decide, by decide⟩ ⟨by decide, by decide⟩ ?_
  rw [← htk]
  refine ev_pS M_Mo_nearest 0 0 (As := [.long (lZ (S2 i)), .long (lZ tk)]) (c_Mo_nearest G h5 (S2 i) tk (by omega) (by omega)) d_Mo_findWays_54 mk_Mo_nearest ml_Mo_189 ms_Mo_nearest rfl rfl (Nat.le_of_ble_eq_true rfl) ⟨by decide, by decide⟩ ⟨by decide, by decide⟩ ?_
  refine ev_lstore (L' := [(0, .ref m), (1, .int (iZ (i : Int))), (2, .int (iZ ((i % 2 * 97 : Nat) : Int))), (3, .long (lZ (nearZ (S1 i) tk))), (5, .long (lZ (nearZ (S2 i) tk)))]) d_Mo_findWays_57 (by decide) rfl ?_
  refine ev_iconst (v := iZ 0) d_Mo_findWays_59 rfl ?_
  refine ev_istore (L' := [(0, .ref m), (1, .int (iZ (i : Int))), (2, .int (iZ ((i % 2 * 97 : Nat) : Int))), (3, .long (lZ (nearZ (S1 i) tk))), (5, .long (lZ (nearZ (S2 i) tk))), (7, .int (iZ 0))]) d_Mo_findWays_60 (by decide) rfl ?_
  refine ev_iconst (v := iZ 0) d_Mo_findWays_62 rfl ?_
  refine ev_istore (L' := [(0, .ref m), (1, .int (iZ (i : Int))), (2, .int (iZ ((i % 2 * 97 : Nat) : Int))), (3, .long (lZ (nearZ (S1 i) tk))), (5, .long (lZ (nearZ (S2 i) tk))), (7, .int (iZ 0)), (8, .int (iZ 0))]) d_Mo_findWays_63 (by decide) rfl ?_
  refine ev_mono ?_ (lp_Mo_fw2 G h5 σ m s1 s2 s3 s4 us v1 v2 n i S1 S2 S3 S4 num den tk g0 l0 m0 s0 U nu T0 W0 f2 f3 f5 f6 f7 f8 f25 f26 f27 f28 f29 f30 f31 f32 hi hn hT hE hZ hB hnu hU hnum hden htk htr hg hl hm0 hs n_s hprev 25 0 0 h5 S W0 (by omega) hm hs1 hs2 hs3 hs4 hus hv1 hv2 (fun k hk => by rw [if_neg (by omega), g1 k hk]; exact rE_0) (Or.inr ⟨rfl, g1⟩) ⟨g2, fun _ _ => rfl⟩ gS hW Fm.rf)
  rintro r h' ⟨sm, q1, q2, q3, q4⟩
  exact ⟨sm, q1, q2, q3, fm.call (fun _ w => w) q4⟩
set_option maxHeartbeats 4000000 in
set_option maxRecDepth 100000 in
theorem lp_Mo_rb (G : GT) (Q : Option Value → HM → Prop) (h : HM) (σ : Nat → Value) (m v1 v2 n : Nat) (S W : Nat → Int) (hm : h m = some (.inr (11, fsN 34 σ))) (f4 : σ 4 = .int (iZ (n : Int))) (f31 : σ 31 = .ref v1) (f32 : σ 32 = .ref v2) (hv1 : h v1 = some (.inl (G_i G, 194, .inl (iA S)))) (hv2 : h v2 = some (.inl (G_i G, 3104, .inl (iA W)))) (hn : 1 ≤ n ∧ n ≤ 16) (hS : ∀ k, -1 ≤ S k ∧ S k ≤ 100000) (hW : ∀ k, 0 ≤ W k ∧ W k ≤ 100000) (kk : ∀ (k : Nat) (b : Int), k = 97 → bbP S W (n - 1 + 1) ((n - 1) % 2 * 97) (fun _ => True) 97 b → Ev G M_Mo_repair (rm 4 130) Q 106 [(0, .ref m), (1, .int (iZ b)), (2, .int (iZ (((n - 1) % 2 * 97 : Nat) : Int))), (3, .int (iZ (k : Int)))] [] h 0 0) : ∀ (d : Nat) (k : Nat) (b : Int), k + d = 97 → bbP S W (n - 1 + 1) ((n - 1) % 2 * 97) (fun _ => True) k b → Ev G M_Mo_repair (rm 4 130) (Q) 58 [(0, .ref m), (1, .int (iZ b)), (2, .int (iZ (((n - 1) % 2 * 97 : Nat) : Int))), (3, .int (iZ (k : Int)))] [] h 0 0 := by
  intro d
  induction d using Nat.strongRecOn with
  | ind d ih =>
  intro k b hd hb
  have br := bbP_r hb
  refine ev_iload_n d_Mo_repair_58 rfl rfl ?_
  refine ev_bipush (v := iZ 97) d_Mo_repair_59 rfl ?_
  refine ez_icmp_ge (tgt := 106) (by omega) (by decide) d_Mo_repair_61 rfl (fun c61 => ?_) (fun c61 => ?_)
  · rw [show k = 97 from by omega] at hb
    exact kk k b (by omega) hb
  · refine ev_aload_n d_Mo_repair_64 rfl rfl ?_
    refine ev_getF d_Mo_repair_65 fl_Mo_75 hm (by decide) f31 ?_
    refine ev_iload_n d_Mo_repair_68 rfl rfl ?_
    refine ev_iload_n d_Mo_repair_69 rfl rfl ?_
    refine ez_iadd d_Mo_repair_70 ?_
    refine ez_iaload ((n - 1) % 2 * 97 + k) d_Mo_repair_71 hv1 (by omega) (by omega) (by decide) ?_
    have rg71 := hS ((n - 1) % 2 * 97 + k)
    refine ez_if_lt (tgt := 98) (by omega) d_Mo_repair_72 rfl (fun c72 => ?_) (fun c72 => ?_)
    · refine ev_iload_n d_Mo_repair_98 rfl rfl ?_
      refine ev_istore_n (L' := [(0, .ref m), (1, .int (iZ b)), (2, .int (iZ (((n - 1) % 2 * 97 : Nat) : Int))), (3, .int (iZ (k : Int)))]) d_Mo_repair_99 rfl (by decide) rfl ?_
      refine ez_iinc (L' := [(0, .ref m), (1, .int (iZ b)), (2, .int (iZ (((n - 1) % 2 * 97 : Nat) : Int))), (3, .int (iZ ((k + 1 : Nat) : Int)))]) d_Mo_repair_100 rfl (by decide) rfl ?_
      refine ev_goto (tgt := 58) d_Mo_repair_103 rfl ?_
      exact ih (d - 1) (by omega) (k + 1) b (by omega) (bbP_no hb (fun w => absurd w.1 (by omega)))
    · refine ev_iload_n d_Mo_repair_75 rfl rfl ?_
      refine ez_if_lt (tgt := 94) (by omega) d_Mo_repair_76 rfl (fun c76 => ?_) (fun c76 => ?_)
      · refine ev_iload_n d_Mo_repair_94 rfl rfl ?_
        refine ev_goto (tgt := 99) d_Mo_repair_95 rfl ?_
        refine ev_istore_n (L' := [(0, .ref m), (1, .int (iZ (k : Int))), (2, .int (iZ (((n - 1) % 2 * 97 : Nat) : Int))), (3, .int (iZ (k : Int)))]) d_Mo_repair_99 rfl (by decide) rfl ?_
        refine ez_iinc (L' := [(0, .ref m), (1, .int (iZ (k : Int))), (2, .int (iZ (((n - 1) % 2 * 97 : Nat) : Int))), (3, .int (iZ ((k + 1 : Nat) : Int)))]) d_Mo_repair_100 rfl (by decide) rfl ?_
        refine ev_goto (tgt := 58) d_Mo_repair_103 rfl ?_
        exact ih (d - 1) (by omega) (k + 1) (k : Int) (by omega) (bbP_first hb (by omega) (by omega) trivial)
      · refine ev_aload_n d_Mo_repair_79 rfl rfl ?_
        refine ev_aload_n d_Mo_repair_80 rfl rfl ?_
        refine ev_getF d_Mo_repair_81 fl_Mo_92 hm (by decide) f4 ?_
        refine ev_iconst (v := iZ 1) d_Mo_repair_84 rfl ?_
        refine ez_isub d_Mo_repair_85 ?_
        rw [show ((n : Int) - 1 : Int) = ((n - 1 : Nat) : Int) from by omega]
        refine ev_iload_n d_Mo_repair_86 rfl rfl ?_
        refine ev_iload_n d_Mo_repair_87 rfl rfl ?_
        obtain ⟨bn, rfl⟩ : ∃ z : Nat, b = (z : Int) := ⟨b.toNat, by omega⟩
        have bz9 := btZ_r S W (n - 1 + 1) ((n - 1) % 2 * 97 + k) ((n - 1) % 2 * 97 + bn)
        refine ev_pV M_Mo_isBetter 0 0 (As := [.int (iZ ((n - 1 : Nat) : Int)), .int (iZ (k : Int)), .int (iZ (bn : Int))]) (c_Mo_isBetter G h σ m v1 v2 (n - 1) k bn ((n - 1) % 2 * 97) S W hm f31 f32 hv1 hv2 (by omega) rfl (by omega) (by omega) hS hW) d_Mo_repair_88 mk_Mo_isBetter ml_Mo_238 mv_Mo_isBetter hm rfl rfl rfl (Nat.le_of_ble_eq_true rfl) ⟨by decide, by decide⟩ ⟨by decide, by decide⟩ ?_
        refine ez_if_eq (tgt := 98) (by omega) d_Mo_repair_91 rfl (fun c91 => ?_) (fun c91 => ?_)
        · refine ev_iload_n d_Mo_repair_98 rfl rfl ?_
          refine ev_istore_n (L' := [(0, .ref m), (1, .int (iZ (bn : Int))), (2, .int (iZ (((n - 1) % 2 * 97 : Nat) : Int))), (3, .int (iZ (k : Int)))]) d_Mo_repair_99 rfl (by decide) rfl ?_
          refine ez_iinc (L' := [(0, .ref m), (1, .int (iZ (bn : Int))), (2, .int (iZ (((n - 1) % 2 * 97 : Nat) : Int))), (3, .int (iZ ((k + 1 : Nat) : Int)))]) d_Mo_repair_100 rfl (by decide) rfl ?_
          refine ev_goto (tgt := 58) d_Mo_repair_103 rfl ?_
          exact ih (d - 1) (by omega) (k + 1) (bn : Int) (by omega) (bbP_f hb (fun w => btZ_i.mpr w c91))
        · refine ev_iload_n d_Mo_repair_94 rfl rfl ?_
          refine ev_goto (tgt := 99) d_Mo_repair_95 rfl ?_
          refine ev_istore_n (L' := [(0, .ref m), (1, .int (iZ (k : Int))), (2, .int (iZ (((n - 1) % 2 * 97 : Nat) : Int))), (3, .int (iZ (k : Int)))]) d_Mo_repair_99 rfl (by decide) rfl ?_
          refine ez_iinc (L' := [(0, .ref m), (1, .int (iZ (k : Int))), (2, .int (iZ (((n - 1) % 2 * 97 : Nat) : Int))), (3, .int (iZ ((k + 1 : Nat) : Int)))]) d_Mo_repair_100 rfl (by decide) rfl ?_
          refine ev_goto (tgt := 58) d_Mo_repair_103 rfl ?_
          exact ih (d - 1) (by omega) (k + 1) (k : Int) (by omega) (bbP_t hb (by omega) trivial (btZ_i.mp c91))
set_option maxHeartbeats 4000000 in
set_option maxRecDepth 100000 in
theorem lp_Mo_rt (G : GT) (Q : Option Value → HM → Prop) (h0 : HM) (σ : Nat → Value) (m s1 s2 v2 n bn : Nat) (S1 S2 S3 S4 W : Nat → Int) (num den tk g0 l0 m0 s0 : Int) (U : Nat → Int) (nu : Nat) (g : Nat → Nat) (f4 : σ 4 = .int (iZ (n : Int))) (f5 : σ 5 = .ref s1) (f6 : σ 6 = .ref s2) (f32 : σ 32 = .ref v2) (hg : g = wX W ((n - 1) % 2 * 97 + bn)) (hbn : bn < 97) (hn : 1 ≤ n ∧ n ≤ 16) (hT : ∀ k, 0 ≤ S1 k ∧ S1 k ≤ 2540160000000) (hE : ∀ k, 0 ≤ S2 k ∧ S2 k ≤ 2540160000000) (hW : ∀ k, 0 ≤ W k ∧ W k ≤ 100000) (htr : 11760000 ≤ tk ∧ tk ≤ 705600000) (n_s : s1 ≠ s2) (kk : ∀ (h : HM) (i : Nat), i = n → h m = some (.inr (11, fsN 34 σ)) → h s1 = some (.inl (G_j G, 16, .inr (.inl (lA (wyS (rpP n S1 S2 S3 S4 num den tk g0 l0 m0 s0 U nu) g tk S1 i))))) → h s2 = some (.inl (G_j G, 16, .inr (.inl (lA (wyE (rpP n S1 S2 S3 S4 num den tk g0 l0 m0 s0 U nu) g tk S2 i))))) → h v2 = some (.inl (G_i G, 3104, .inl (iA W))) → Fm [s1, s2] h0 h → Ev G M_Mo_repair (rm 4 130) Q 209 [(0, .ref m), (1, .int (iZ (bn : Int))), (2, .int (iZ (((n - 1) % 2 * 97 : Nat) : Int))), (3, .long (lZ tk)), (5, .int (iZ (i : Int)))] [] h 0 0) : ∀ (d : Nat) (i : Nat) (h : HM), i + d = n → h m = some (.inr (11, fsN 34 σ)) → h s1 = some (.inl (G_j G, 16, .inr (.inl (lA (wyS (rpP n S1 S2 S3 S4 num den tk g0 l0 m0 s0 U nu) g tk S1 i))))) → h s2 = some (.inl (G_j G, 16, .inr (.inl (lA (wyE (rpP n S1 S2 S3 S4 num den tk g0 l0 m0 s0 U nu) g tk S2 i))))) → h v2 = some (.inl (G_i G, 3104, .inl (iA W))) → Fm [s1, s2] h0 h → Ev G M_Mo_repair (rm 4 130) (Q) 114 [(0, .ref m), (1, .int (iZ (bn : Int))), (2, .int (iZ (((n - 1) % 2 * 97 : Nat) : Int))), (3, .long (lZ tk)), (5, .int (iZ (i : Int)))] [] h 0 0 := by
  intro d
  induction d using Nat.strongRecOn with
  | ind d ih =>
  intro i h hd hm hs1 hs2 hv2 fm
  refine ev_iload d_Mo_repair_114 rfl ?_
  refine ev_aload_n d_Mo_repair_116 rfl rfl ?_
  refine ev_getF d_Mo_repair_117 fl_Mo_92 hm (by decide) f4 ?_
  refine ez_icmp_ge (tgt := 209) (by omega) (by omega) d_Mo_repair_120 rfl (fun c120 => ?_) (fun c120 => ?_)
  · exact kk h i (by omega) hm hs1 hs2 hv2 fm
  · have gi : g i = (W (16 * ((n - 1) % 2 * 97 + bn) + i)).toNat := by rw [hg]; rfl
    have w0 := hW (16 * ((n - 1) % 2 * 97 + bn) + i)
    have gs9 : rSt (rpP n S1 S2 S3 S4 num den tk g0 l0 m0 s0 U nu) i (g i) = nearZ (S1 i) tk - 12 + W (16 * ((n - 1) % 2 * 97 + bn) + i) / 128 := by
      show nrF S1 tk 0 n i - 12 + ((g i / 128 : Nat) : Int) = _
      rw [show nrF S1 tk 0 n i = nearZ (S1 i) tk - 0 from if_pos (by omega), gi]
      omega
    have ge9 : rEn (rpP n S1 S2 S3 S4 num den tk g0 l0 m0 s0 U nu) i (g i) = nearZ (S2 i) tk - 48 + W (16 * ((n - 1) % 2 * 97 + bn) + i) % 128 := by
      show nrF S2 tk 0 n i - 48 + ((g i % 128 : Nat) : Int) = _
      rw [show nrF S2 tk 0 n i = nearZ (S2 i) tk - 0 from if_pos (by omega), gi]
      omega
    refine ev_aload_n d_Mo_repair_123 rfl rfl ?_
    refine ev_getF d_Mo_repair_124 fl_Mo_78 hm (by decide) f32 ?_
    refine ev_bipush (v := iZ 16) d_Mo_repair_127 rfl ?_
    refine ev_iload_n d_Mo_repair_129 rfl rfl ?_
    refine ev_iload_n d_Mo_repair_130 rfl rfl ?_
    refine ez_iadd d_Mo_repair_131 ?_
    refine ez_imul d_Mo_repair_132 ?_
    refine ev_iload d_Mo_repair_133 rfl ?_
    refine ez_iadd d_Mo_repair_135 ?_
    refine ez_iaload (16 * ((n - 1) % 2 * 97 + bn) + i) d_Mo_repair_136 hv2 (by omega) (by omega) (by decide) ?_
    have rg136 := hW (16 * ((n - 1) % 2 * 97 + bn) + i)
    refine ev_istore (L' := [(0, .ref m), (1, .int (iZ (bn : Int))), (2, .int (iZ (((n - 1) % 2 * 97 : Nat) : Int))), (3, .long (lZ tk)), (5, .int (iZ (i : Int))), (6, .int (iZ (W (16 * ((n - 1) % 2 * 97 + bn) + i))))]) d_Mo_repair_137 (by decide) rfl ?_
    refine ev_aload_n d_Mo_repair_139 rfl rfl ?_
    refine ev_getF d_Mo_repair_140 fl_Mo_20 hm (by decide) f5 ?_
    refine ev_iload d_Mo_repair_143 rfl ?_
    refine ev_aload_n d_Mo_repair_145 rfl rfl ?_
    refine ev_getF d_Mo_repair_146 fl_Mo_20 hm (by decide) f5 ?_
    refine ev_iload d_Mo_repair_149 rfl ?_
    refine ez_laload i d_Mo_repair_151 hs1 (by omega) (by omega) (by decide) ?_
    refine ev_topl (S1 i) (if_neg (by omega)) ?_
    skip
    have t0 := hT i
    refine ev_lload_n d_Mo_repair_152 rfl rfl ?_
    refine ev_pS M_Mo_nearest 0 0 (As := [.long (lZ (S1 i)), .long (lZ tk)]) (c_Mo_nearest G h (S1 i) tk (by omega) (by omega)) d_Mo_repair_153 mk_Mo_nearest ml_Mo_189 ms_Mo_nearest rfl rfl (Nat.le_of_ble_eq_true rfl) ⟨by decide, by decide⟩ ⟨by decide, by decide⟩ ?_
    refine ev_ldc2 (v := lZ 12) d_Mo_repair_156 kc_Mo_242 ?_
    refine ez_lsub d_Mo_repair_159 ?_
    refine ev_iload d_Mo_repair_160 rfl ?_
    refine ev_sipush (v := iZ 128) d_Mo_repair_162 rfl ?_
    refine ez_idiv (by omega) (by omega) (by omega) (by omega) d_Mo_repair_165 ?_
    refine ez_i2l (by omega) d_Mo_repair_166 ?_
    refine ez_ladd d_Mo_repair_167 ?_
    refine ev_lload_n d_Mo_repair_168 rfl rfl ?_
    refine ez_lmul d_Mo_repair_169 ?_
    refine ev_topl (rSt (rpP n S1 S2 S3 S4 num den tk g0 l0 m0 s0 U nu) i (g i) * tk) (by rw [gs9]) ?_
    skip
    refine ez_lastore (F' := zup (wyS (rpP n S1 S2 S3 S4 num den tk g0 l0 m0 s0 U nu) g tk S1 i) i (rSt (rpP n S1 S2 S3 S4 num den tk g0 l0 m0 s0 U nu) i (g i) * tk)) i d_Mo_repair_170 hs1 (by omega) (by omega) (by decide) rfl (fun h1 h1a h1o => ?_)
    have hm := (h1o _ (cne hm hs1 (by simp))).trans hm
    have hs2 := (h1o _ (Ne.symm n_s)).trans hs2
    have hv2 := (h1o _ (cne hv2 hs1 (by simp))).trans hv2
    have hs1 := h1a
    have fm := fm.step (by simp) h1o
    refine ev_aload_n d_Mo_repair_171 rfl rfl ?_
    refine ev_getF d_Mo_repair_172 fl_Mo_24 hm (by decide) f6 ?_
    refine ev_iload d_Mo_repair_175 rfl ?_
    refine ev_aload_n d_Mo_repair_177 rfl rfl ?_
    refine ev_getF d_Mo_repair_178 fl_Mo_24 hm (by decide) f6 ?_
    refine ev_iload d_Mo_repair_181 rfl ?_
    refine ez_laload i d_Mo_repair_183 hs2 (by omega) (by omega) (by decide) ?_
    refine ev_topl (S2 i) (if_neg (by omega)) ?_
    skip
    have e0 := hE i
    refine ev_lload_n d_Mo_repair_184 rfl rfl ?_
    refine ev_pS M_Mo_nearest 0 0 (As := [.long (lZ (S2 i)), .long (lZ tk)]) (c_Mo_nearest G h1 (S2 i) tk (by omega) (by omega)) d_Mo_repair_185 mk_Mo_nearest ml_Mo_189 ms_Mo_nearest rfl rfl (Nat.le_of_ble_eq_true rfl) ⟨by decide, by decide⟩ ⟨by decide, by decide⟩ ?_
    refine ev_ldc2 (v := lZ 48) d_Mo_repair_188 kc_Mo_236 ?_
    refine ez_lsub d_Mo_repair_191 ?_
    refine ev_iload d_Mo_repair_192 rfl ?_
    refine ev_sipush (v := iZ 128) d_Mo_repair_194 rfl ?_
    refine ez_irem (by omega) (by omega) (by omega) (by omega) d_Mo_repair_197 ?_
    refine ez_i2l (by omega) d_Mo_repair_198 ?_
    refine ez_ladd d_Mo_repair_199 ?_
    refine ev_lload_n d_Mo_repair_200 rfl rfl ?_
    refine ez_lmul d_Mo_repair_201 ?_
    refine ev_topl (rEn (rpP n S1 S2 S3 S4 num den tk g0 l0 m0 s0 U nu) i (g i) * tk) (by rw [ge9]) ?_
    skip
    refine ez_lastore (F' := zup (wyE (rpP n S1 S2 S3 S4 num den tk g0 l0 m0 s0 U nu) g tk S2 i) i (rEn (rpP n S1 S2 S3 S4 num den tk g0 l0 m0 s0 U nu) i (g i) * tk)) i d_Mo_repair_202 hs2 (by omega) (by omega) (by decide) rfl (fun h2 h2a h2o => ?_)
    have hm := (h2o _ (cne hm hs2 (by simp))).trans hm
    have hs1 := (h2o _ n_s).trans hs1
    have hv2 := (h2o _ (cne hv2 hs2 (by simp))).trans hv2
    have hs2 := h2a
    have fm := fm.step (by simp) h2o
    refine ez_iinc (L' := [(0, .ref m), (1, .int (iZ (bn : Int))), (2, .int (iZ (((n - 1) % 2 * 97 : Nat) : Int))), (3, .long (lZ tk)), (5, .int (iZ ((i + 1 : Nat) : Int))), (6, .int (iZ (W (16 * ((n - 1) % 2 * 97 + bn) + i))))]) d_Mo_repair_203 rfl (by decide) rfl ?_
    refine ev_goto (tgt := 114) d_Mo_repair_206 rfl ?_
    refine ev_loc [(0, .ref m), (1, .int (iZ (bn : Int))), (2, .int (iZ (((n - 1) % 2 * 97 : Nat) : Int))), (3, .long (lZ tk)), (5, .int (iZ ((i + 1 : Nat) : Int)))] (by simp) ?_
    exact ih (d - 1) (by omega) (i + 1) h2 (by omega) hm (by rw [show wyS (rpP n S1 S2 S3 S4 num den tk g0 l0 m0 s0 U nu) g tk S1 (i + 1) = _ from (wy_s (V := fun c => rSt (rpP n S1 S2 S3 S4 num den tk g0 l0 m0 s0 U nu) c (g c) * tk) (fun c hc => rfl) rfl).symm]; exact hs1) (by rw [show wyE (rpP n S1 S2 S3 S4 num den tk g0 l0 m0 s0 U nu) g tk S2 (i + 1) = _ from (wy_s (V := fun c => rEn (rpP n S1 S2 S3 S4 num den tk g0 l0 m0 s0 U nu) c (g c) * tk) (fun c hc => rfl) rfl).symm]; exact hs2) hv2 fm
set_option maxHeartbeats 4000000 in
set_option maxRecDepth 100000 in
theorem lp_Mo_rpEnd (G : GT) (h0 : HM) (m s1 s2 s3 s4 k0 k1 k2 k3 k4 us v1 v2 n c bk : Nat) (S1 S2 S3 S4 K0 K1 K2 K3 K4 : Nat → Int) (num den tk g0 l0 m0 s0 : Int) (U : Nat → Int) (nu : Nat) (σ : Nat → Value) (hn : n ≤ 16) (hT : ∀ k, 0 ≤ S1 k ∧ S1 k ≤ 2540160000000) (hE : ∀ k, 0 ≤ S2 k ∧ S2 k ≤ 2540160000000) (hZ : ∀ k, 0 ≤ S3 k ∧ S3 k ≤ 64) (hB : ∀ k, 0 ≤ S4 k ∧ S4 k ≤ 255) (hnu : nu ≤ 20) (hU : ∀ k, k < nu → 0 ≤ U k ∧ U k ≤ 216000) (hnum : 1 ≤ num ∧ num ≤ 120000) (hden : 1 ≤ den ∧ den ≤ 1001) (htk : tk = 705600000 * den / num) (htr : 11760000 ≤ tk ∧ tk ≤ 705600000) (hg : 0 ≤ g0 ∧ g0 ≤ 20) (hl : 1 ≤ l0 ∧ l0 ≤ 100) (hm0 : 0 ≤ m0 ∧ m0 ≤ 400) (hs : 1 ≤ s0 ∧ s0 ≤ 60) (hc : c ≤ 1000) (hbk : bk ≤ 10) (n_s : s1 ≠ s2) (n_k : k1 ≠ k2) : ∀ (S W : Nat → Int) (h : HM), (∃ x, rVP (rpP n S1 S2 S3 S4 num den tk g0 l0 m0 s0 U nu) n x) → (1 ≤ n → fwI (rpP n S1 S2 S3 S4 num den tk g0 l0 m0 s0 U nu) S W (n - 1) 25 0) → (∀ k, -1 ≤ S k ∧ S k ≤ 100000) → (∀ k, 0 ≤ W k ∧ W k ≤ 100000) → h m = some (.inr (11, fsN 34 σ)) → σ 2 = .int (iZ num) → σ 3 = .int (iZ den) → σ 4 = .int (iZ (n : Int)) → σ 5 = .ref s1 → σ 6 = .ref s2 → σ 7 = .ref s3 → σ 8 = .ref s4 → σ 9 = .int (iZ (c : Int)) → σ 10 = .int (iZ (bk : Int)) → σ 11 = .ref k0 → σ 12 = .ref k1 → σ 13 = .ref k2 → σ 14 = .ref k3 → σ 15 = .ref k4 → σ 25 = .int (iZ (nu : Int)) → σ 26 = .ref us → σ 27 = .int (iZ g0) → σ 28 = .int (iZ l0) → σ 29 = .int (iZ m0) → σ 30 = .int (iZ s0) → σ 31 = .ref v1 → σ 32 = .ref v2 → h s1 = some (.inl (G_j G, 16, .inr (.inl (lA S1)))) → h s2 = some (.inl (G_j G, 16, .inr (.inl (lA S2)))) → h s3 = some (.inl (G_i G, 16, .inl (iA S3))) → h s4 = some (.inl (G_i G, 1024, .inl (iA S4))) → h k0 = some (.inl (G_i G, 10, .inl (iA K0))) → h k1 = some (.inl (G_j G, 160, .inr (.inl (lA K1)))) → h k2 = some (.inl (G_j G, 160, .inr (.inl (lA K2)))) → h k3 = some (.inl (G_i G, 160, .inl (iA K3))) → h k4 = some (.inl (G_i G, 10240, .inl (iA K4))) → h us = some (.inl (G_i G, 20, .inl (iA U))) → h v1 = some (.inl (G_i G, 194, .inl (iA S))) → h v2 = some (.inl (G_i G, 3104, .inl (iA W))) → Fm [m, s1, s2, k0, k1, k2, k3, k4, v1, v2] h0 h → Ev G M_Mo_repair (rm 4 130) (fun r h' => (¬ (∃ x, rVP (rpP n S1 S2 S3 S4 num den tk g0 l0 m0 s0 U nu) n x) → ∃ z : Nat, z < n ∧ r = some (.int (iZ (-10 - (z : Int)))) ∧ (∃ x, rVP (rpP n S1 S2 S3 S4 num den tk g0 l0 m0 s0 U nu) z x) ∧ (¬ ∃ x, rVP (rpP n S1 S2 S3 S4 num den tk g0 l0 m0 s0 U nu) (z + 1) x) ∧ (∃ S W : Nat → Int, h' v1 = some (.inl (G_i G, 194, .inl (iA S))) ∧ h' v2 = some (.inl (G_i G, 3104, .inl (iA W))) ∧ (∀ k, -1 ≤ S k ∧ S k ≤ 100000) ∧ (∀ k, 0 ≤ W k ∧ W k ≤ 100000)) ∧ Fm [v1, v2] h0 h') ∧ ((∃ x, rVP (rpP n S1 S2 S3 S4 num den tk g0 l0 m0 s0 U nu) n x) → ∃ g : Nat → Nat, rMn (rpP n S1 S2 S3 S4 num den tk g0 l0 m0 s0 U nu) n g ∧ r = some (.int (iZ (rCs n g))) ∧ (∃ σ', h' m = some (.inr (11, fsN 34 σ')) ∧ σ' 9 = .int (iZ ((c : Int) + 1)) ∧ σ' 10 = .int (iZ ((min (bk + 1) 10 : Nat) : Int)) ∧ Fs [9, 10] σ σ') ∧ h' s1 = some (.inl (G_j G, 16, .inr (.inl (lA (wyS (rpP n S1 S2 S3 S4 num den tk g0 l0 m0 s0 U nu) g tk S1 n))))) ∧ h' s2 = some (.inl (G_j G, 16, .inr (.inl (lA (wyE (rpP n S1 S2 S3 S4 num den tk g0 l0 m0 s0 U nu) g tk S2 n))))) ∧ (∃ S W : Nat → Int, h' v1 = some (.inl (G_i G, 194, .inl (iA S))) ∧ h' v2 = some (.inl (G_i G, 3104, .inl (iA W))) ∧ (∀ k, -1 ≤ S k ∧ S k ≤ 100000) ∧ (∀ k, 0 ≤ W k ∧ W k ≤ 100000)) ∧ h' k0 = some (.inl (G_i G, 10, .inl (iA (zup K0 (c % 10) n)))) ∧ h' k1 = some (.inl (G_j G, 160, .inr (.inl (lA (va_cpy S1 K1 0 (16 * (c % 10)) 16))))) ∧ h' k2 = some (.inl (G_j G, 160, .inr (.inl (lA (va_cpy S2 K2 0 (16 * (c % 10)) 16))))) ∧ h' k3 = some (.inl (G_i G, 160, .inl (iA (va_cpy S3 K3 0 (16 * (c % 10)) 16)))) ∧ h' k4 = some (.inl (G_i G, 10240, .inl (iA (va_cpy S4 K4 0 (1024 * (c % 10)) 1024)))) ∧ Fm [m, s1, s2, k0, k1, k2, k3, k4, v1, v2] h0 h')) 29 [(0, .ref m), (1, .int (iZ (n : Int)))] [] h 0 0 := by
  intro S W h hex hfw hS hW hm f2 f3 f4 f5 f6 f7 f8 f9 f10 f11 f12 f13 f14 f15 f25 f26 f27 f28 f29 f30 f31 f32 hs1 hs2 hs3 hs4 hk0 hk1 hk2 hk3 hk4 hus hv1 hv2 fm
  have fs : Fs [9, 10] σ σ := Fs.rf
  refine ev_aload_n d_Mo_repair_29 rfl rfl ?_
  refine ev_callV M_Mo_keep (rm 0 0) _ (As := []) (c_Mo_keep G h σ m s1 s2 s3 s4 k0 k1 k2 k3 k4 n c bk S1 S2 S3 S4 K0 K1 K2 K3 K4 hm f4 f5 f6 f7 f8 f9 f10 f11 f12 f13 f14 f15 hs1 hs2 hs3 hs4 hk0 hk1 hk2 hk3 hk4 hc hbk n_s n_k) d_Mo_repair_30 mk_Mo_keep ml_Mo_176 mv_Mo_keep hm rfl rfl rfl (Nat.le_of_ble_eq_true rfl) ⟨by decide, by decide⟩ ⟨by decide, by decide⟩ (fun r h8 hq => ?_)
  obtain ⟨rfl, ⟨σ9, gm, g9, g10, gs⟩, gk0, gk1, gk2, gk3, gk4, fmk⟩ := hq
  have hs1 := (fmk _ (ninc (cne hs1 hm (by simp)) (ninc (cne hs1 hk0 (by simp)) (ninc (cne hs1 hk1 (by simp)) (ninc (cne hs1 hk2 (by simp)) (ninc (cne hs1 hk3 (by simp)) (ninc (cne hs1 hk4 (by simp)) nin0))))))).trans hs1
  have hs2 := (fmk _ (ninc (cne hs2 hm (by simp)) (ninc (cne hs2 hk0 (by simp)) (ninc (cne hs2 hk1 (by simp)) (ninc (cne hs2 hk2 (by simp)) (ninc (cne hs2 hk3 (by simp)) (ninc (cne hs2 hk4 (by simp)) nin0))))))).trans hs2
  have hs3 := (fmk _ (ninc (cne hs3 hm (by simp)) (ninc (cne hs3 hk0 (by simp)) (ninc (cne hs3 hk1 (by simp)) (ninc (cne hs3 hk2 (by simp)) (ninc (cne hs3 hk3 (by simp)) (ninc (cne hs3 hk4 (by simp)) nin0))))))).trans hs3
  have hs4 := (fmk _ (ninc (cne hs4 hm (by simp)) (ninc (cne hs4 hk0 (by simp)) (ninc (cne hs4 hk1 (by simp)) (ninc (cne hs4 hk2 (by simp)) (ninc (cne hs4 hk3 (by simp)) (ninc (cne hs4 hk4 (by simp)) nin0))))))).trans hs4
  have hus := (fmk _ (ninc (cne hus hm (by simp)) (ninc (cne hus hk0 (by simp)) (ninc (cne hus hk1 (by simp)) (ninc (cne hus hk2 (by simp)) (ninc (cne hus hk3 (by simp)) (ninc (cne hus hk4 (by simp)) nin0))))))).trans hus
  have hv1 := (fmk _ (ninc (cne hv1 hm (by simp)) (ninc (cne hv1 hk0 (by simp)) (ninc (cne hv1 hk1 (by simp)) (ninc (cne hv1 hk2 (by simp)) (ninc (cne hv1 hk3 (by simp)) (ninc (cne hv1 hk4 (by simp)) nin0))))))).trans hv1
  have hv2 := (fmk _ (ninc (cne hv2 hm (by simp)) (ninc (cne hv2 hk0 (by simp)) (ninc (cne hv2 hk1 (by simp)) (ninc (cne hv2 hk2 (by simp)) (ninc (cne hv2 hk3 (by simp)) (ninc (cne hv2 hk4 (by simp)) nin0))))))).trans hv2
  have hm := gm
  have hk0 := gk0
  have hk1 := gk1
  have hk2 := gk2
  have hk3 := gk3
  have hk4 := gk4
  have f4 := (gs 4 (by decide)).trans f4
  have f5 := (gs 5 (by decide)).trans f5
  have f6 := (gs 6 (by decide)).trans f6
  have f7 := (gs 7 (by decide)).trans f7
  have f8 := (gs 8 (by decide)).trans f8
  have f11 := (gs 11 (by decide)).trans f11
  have f12 := (gs 12 (by decide)).trans f12
  have f13 := (gs 13 (by decide)).trans f13
  have f14 := (gs 14 (by decide)).trans f14
  have f15 := (gs 15 (by decide)).trans f15
  have f2 := (gs 2 (by decide)).trans f2
  have f3 := (gs 3 (by decide)).trans f3
  have f25 := (gs 25 (by decide)).trans f25
  have f26 := (gs 26 (by decide)).trans f26
  have f27 := (gs 27 (by decide)).trans f27
  have f28 := (gs 28 (by decide)).trans f28
  have f29 := (gs 29 (by decide)).trans f29
  have f30 := (gs 30 (by decide)).trans f30
  have f31 := (gs 31 (by decide)).trans f31
  have f32 := (gs 32 (by decide)).trans f32
  have f9 := g9
  have f10 := g10
  have fm := fm.call (by simp) fmk
  have fs := fs.call (by simp) gs
  refine ev_aload_n d_Mo_repair_33 rfl rfl ?_
  refine ev_getF d_Mo_repair_34 fl_Mo_92 hm (by decide) f4 ?_
  refine ez_if_ne (tgt := 42) (by omega) d_Mo_repair_37 rfl (fun c37 => ?_) (fun c37 => ?_)
  · refine ev_iconst (v := iZ (-1)) d_Mo_repair_42 rfl ?_
    refine ev_istore_n (L' := [(0, .ref m), (1, .int (iZ (-1)))]) d_Mo_repair_43 rfl (by decide) rfl ?_
    refine ev_aload_n d_Mo_repair_44 rfl rfl ?_
    refine ev_getF d_Mo_repair_45 fl_Mo_92 hm (by decide) f4 ?_
    refine ev_iconst (v := iZ 1) d_Mo_repair_48 rfl ?_
    refine ez_isub d_Mo_repair_49 ?_
    refine ev_iconst (v := iZ 2) d_Mo_repair_50 rfl ?_
    refine ez_irem (by omega) (by omega) (by omega) (by omega) d_Mo_repair_51 ?_
    refine ev_bipush (v := iZ 97) d_Mo_repair_52 rfl ?_
    refine ez_imul d_Mo_repair_54 ?_
    rw [show ((((n : Int) - 1) % 2) * 97 : Int) = (((n - 1) % 2 * 97 : Nat) : Int) from by omega]
    refine ev_istore_n (L' := [(0, .ref m), (1, .int (iZ (-1))), (2, .int (iZ (((n - 1) % 2 * 97 : Nat) : Int)))]) d_Mo_repair_55 rfl (by decide) rfl ?_
    refine ev_iconst (v := iZ 0) d_Mo_repair_56 rfl ?_
    refine ev_istore_n (L' := [(0, .ref m), (1, .int (iZ (-1))), (2, .int (iZ (((n - 1) % 2 * 97 : Nat) : Int))), (3, .int (iZ 0))]) d_Mo_repair_57 rfl (by decide) rfl ?_
    refine lp_Mo_rb G _ h8 σ9 m v1 v2 n S W hm f4 f31 f32 hv1 hv2 (by omega) hS hW ?_ 97 0 (-1) (by omega) bbP_0
    rintro k9 b rfl hb
    have hn1 : n - 1 + 1 = n := by omega
    obtain ⟨bn, rfl, hbn, hmn, hcs⟩ := fw_best (P := rpP n S1 S2 S3 S4 num den tk g0 l0 m0 s0 U nu) (i := n - 1) (hfw (by omega)) (by rw [hn1]; exact hex) hb
    rw [hn1] at hmn hcs
    obtain ⟨g, hgw⟩ : ∃ g : Nat → Nat, g = wX W ((n - 1) % 2 * 97 + bn) := ⟨_, rfl⟩
    rw [← hgw] at hmn hcs
    refine ev_aload_n d_Mo_repair_106 rfl rfl ?_
    refine ev_pV M_Mo_frame 0 0 (As := []) (c_Mo_frame G h8 σ9 m num den hm f2 f3 hnum hden) d_Mo_repair_107 mk_Mo_frame ml_Mo_134 mv_Mo_frame hm rfl rfl rfl (Nat.le_of_ble_eq_true rfl) ⟨by decide, by decide⟩ ⟨by decide, by decide⟩ ?_
    rw [← htk]
    refine ev_lstore_n (L' := [(0, .ref m), (1, .int (iZ (bn : Int))), (2, .int (iZ (((n - 1) % 2 * 97 : Nat) : Int))), (3, .long (lZ tk))]) d_Mo_repair_110 rfl (by decide) rfl ?_
    refine ev_iconst (v := iZ 0) d_Mo_repair_111 rfl ?_
    refine ev_istore (L' := [(0, .ref m), (1, .int (iZ (bn : Int))), (2, .int (iZ (((n - 1) % 2 * 97 : Nat) : Int))), (3, .long (lZ tk)), (5, .int (iZ 0))]) d_Mo_repair_112 (by decide) rfl ?_
    refine lp_Mo_rt G _ h8 σ9 m s1 s2 v2 n bn S1 S2 S3 S4 W num den tk g0 l0 m0 s0 U nu g f4 f5 f6 f32 hgw hbn (by omega) hT hE hW htr n_s ?_ n 0 h8 (by omega) hm (by rw [show wyS (rpP n S1 S2 S3 S4 num den tk g0 l0 m0 s0 U nu) g tk S1 0 = S1 from wy_0]; exact hs1) (by rw [show wyE (rpP n S1 S2 S3 S4 num den tk g0 l0 m0 s0 U nu) g tk S2 0 = S2 from wy_0]; exact hs2) hv2 Fm.rf
    have jm := hm
    have js1 := hs1
    have js2 := hs2
    have js3 := hs3
    have js4 := hs4
    have jk0 := hk0
    have jk1 := hk1
    have jk2 := hk2
    have jk3 := hk3
    have jk4 := hk4
    have jus := hus
    have jv1 := hv1
    have jv2 := hv2
    rintro h10 z rfl hm hs1 hs2 hv2 fm2
    have hs3 := (fm2 _ (ninc (cne js3 js1 (by simp)) (ninc (cne js3 js2 (by simp)) nin0))).trans js3
    have hs4 := (fm2 _ (ninc (cne js4 js1 (by simp)) (ninc (cne js4 js2 (by simp)) nin0))).trans js4
    have hk0 := (fm2 _ (ninc (cne jk0 js1 (by simp)) (ninc (cne jk0 js2 (by simp)) nin0))).trans jk0
    have hk1 := (fm2 _ (ninc (cne jk1 js1 (by simp)) (ninc (cne jk1 js2 (by simp)) nin0))).trans jk1
    have hk2 := (fm2 _ (ninc (cne jk2 js1 (by simp)) (ninc (cne jk2 js2 (by simp)) nin0))).trans jk2
    have hk3 := (fm2 _ (ninc (cne jk3 js1 (by simp)) (ninc (cne jk3 js2 (by simp)) nin0))).trans jk3
    have hk4 := (fm2 _ (ninc (cne jk4 js1 (by simp)) (ninc (cne jk4 js2 (by simp)) nin0))).trans jk4
    have hus := (fm2 _ (ninc (cne jus js1 (by simp)) (ninc (cne jus js2 (by simp)) nin0))).trans jus
    have hv1 := (fm2 _ (ninc (cne jv1 js1 (by simp)) (ninc (cne jv1 js2 (by simp)) nin0))).trans jv1
    have fm := fm.call (by simp) fm2
    refine ev_aload_n d_Mo_repair_209 rfl rfl ?_
    refine ev_getF d_Mo_repair_210 fl_Mo_75 hm (by decide) f31 ?_
    refine ev_iload_n d_Mo_repair_213 rfl rfl ?_
    refine ev_iload_n d_Mo_repair_214 rfl rfl ?_
    refine ez_iadd d_Mo_repair_215 ?_
    refine ez_iaload ((z - 1) % 2 * 97 + bn) d_Mo_repair_216 hv1 (by omega) (by omega) (by decide) ?_
    exact ev_ireturn d_Mo_repair_217 rfl (by decide) (by decide) (⟨fun q => absurd hex q, fun _ => ⟨g, hmn, by rw [hcs], ⟨σ9, hm, f9, f10, fs⟩, hs1, hs2, ⟨S, W, hv1, hv2, hS, hW⟩, hk0, hk1, hk2, hk3, hk4, fm⟩⟩)
  · refine ev_iconst (v := iZ 0) d_Mo_repair_40 rfl ?_
    exact ev_ireturn d_Mo_repair_41 rfl (by decide) (by decide) (⟨fun q => absurd hex q, fun _ => ⟨fun _ => 0, ⟨by rw [show n = 0 from by omega]; exact rVP_0, fun y _ w9 => by rw [show n = 0 from by omega] at w9; rcases w9 with w9 | ⟨_, x, w9, _⟩; exact absurd w9 (Int.lt_irrefl _); omega⟩, by rw [show rCs n (fun _ => 0) = 0 from by rw [show n = 0 from by omega]; rfl], ⟨σ9, hm, f9, f10, fs⟩, by rw [show wyS (rpP n S1 S2 S3 S4 num den tk g0 l0 m0 s0 U nu) (fun _ => 0) tk S1 n = S1 from by rw [show n = 0 from by omega]; exact wy_0]; exact hs1, by rw [show wyE (rpP n S1 S2 S3 S4 num den tk g0 l0 m0 s0 U nu) (fun _ => 0) tk S2 n = S2 from by rw [show n = 0 from by omega]; exact wy_0]; exact hs2, ⟨S, W, hv1, hv2, hS, hW⟩, hk0, hk1, hk2, hk3, hk4, fm⟩⟩)
set_option maxHeartbeats 4000000 in
set_option maxRecDepth 100000 in
theorem lp_Mo_rp (G : GT) (h0 : HM) (m s1 s2 s3 s4 k0 k1 k2 k3 k4 us v1 v2 n c bk : Nat) (S1 S2 S3 S4 K0 K1 K2 K3 K4 : Nat → Int) (num den tk g0 l0 m0 s0 : Int) (U : Nat → Int) (nu : Nat) (σ : Nat → Value) (f2 : σ 2 = .int (iZ num)) (f3 : σ 3 = .int (iZ den)) (f4 : σ 4 = .int (iZ (n : Int))) (f5 : σ 5 = .ref s1) (f6 : σ 6 = .ref s2) (f7 : σ 7 = .ref s3) (f8 : σ 8 = .ref s4) (f9 : σ 9 = .int (iZ (c : Int))) (f10 : σ 10 = .int (iZ (bk : Int))) (f11 : σ 11 = .ref k0) (f12 : σ 12 = .ref k1) (f13 : σ 13 = .ref k2) (f14 : σ 14 = .ref k3) (f15 : σ 15 = .ref k4) (f25 : σ 25 = .int (iZ (nu : Int))) (f26 : σ 26 = .ref us) (f27 : σ 27 = .int (iZ g0)) (f28 : σ 28 = .int (iZ l0)) (f29 : σ 29 = .int (iZ m0)) (f30 : σ 30 = .int (iZ s0)) (f31 : σ 31 = .ref v1) (f32 : σ 32 = .ref v2) (hn : n ≤ 16) (hT : ∀ k, 0 ≤ S1 k ∧ S1 k ≤ 2540160000000) (hE : ∀ k, 0 ≤ S2 k ∧ S2 k ≤ 2540160000000) (hZ : ∀ k, 0 ≤ S3 k ∧ S3 k ≤ 64) (hB : ∀ k, 0 ≤ S4 k ∧ S4 k ≤ 255) (hnu : nu ≤ 20) (hU : ∀ k, k < nu → 0 ≤ U k ∧ U k ≤ 216000) (hnum : 1 ≤ num ∧ num ≤ 120000) (hden : 1 ≤ den ∧ den ≤ 1001) (htk : tk = 705600000 * den / num) (htr : 11760000 ≤ tk ∧ tk ≤ 705600000) (hg : 0 ≤ g0 ∧ g0 ≤ 20) (hl : 1 ≤ l0 ∧ l0 ≤ 100) (hm0 : 0 ≤ m0 ∧ m0 ≤ 400) (hs : 1 ≤ s0 ∧ s0 ≤ 60) (hc : c ≤ 1000) (hbk : bk ≤ 10) (n_s : s1 ≠ s2) (n_k : k1 ≠ k2) : ∀ (d : Nat) (i : Nat) (h : HM) (S W : Nat → Int), i + d = n → (∃ x, rVP (rpP n S1 S2 S3 S4 num den tk g0 l0 m0 s0 U nu) i x) → (1 ≤ i → fwI (rpP n S1 S2 S3 S4 num den tk g0 l0 m0 s0 U nu) S W (i - 1) 25 0) → (∀ k, -1 ≤ S k ∧ S k ≤ 100000) → (∀ k, 0 ≤ W k ∧ W k ≤ 100000) → h m = some (.inr (11, fsN 34 σ)) → h s1 = some (.inl (G_j G, 16, .inr (.inl (lA S1)))) → h s2 = some (.inl (G_j G, 16, .inr (.inl (lA S2)))) → h s3 = some (.inl (G_i G, 16, .inl (iA S3))) → h s4 = some (.inl (G_i G, 1024, .inl (iA S4))) → h k0 = some (.inl (G_i G, 10, .inl (iA K0))) → h k1 = some (.inl (G_j G, 160, .inr (.inl (lA K1)))) → h k2 = some (.inl (G_j G, 160, .inr (.inl (lA K2)))) → h k3 = some (.inl (G_i G, 160, .inl (iA K3))) → h k4 = some (.inl (G_i G, 10240, .inl (iA K4))) → h us = some (.inl (G_i G, 20, .inl (iA U))) → h v1 = some (.inl (G_i G, 194, .inl (iA S))) → h v2 = some (.inl (G_i G, 3104, .inl (iA W))) → Fm [v1, v2] h0 h → Ev G M_Mo_repair (rm 4 130) (fun r h' => (¬ (∃ x, rVP (rpP n S1 S2 S3 S4 num den tk g0 l0 m0 s0 U nu) n x) → ∃ z : Nat, z < n ∧ r = some (.int (iZ (-10 - (z : Int)))) ∧ (∃ x, rVP (rpP n S1 S2 S3 S4 num den tk g0 l0 m0 s0 U nu) z x) ∧ (¬ ∃ x, rVP (rpP n S1 S2 S3 S4 num den tk g0 l0 m0 s0 U nu) (z + 1) x) ∧ (∃ S W : Nat → Int, h' v1 = some (.inl (G_i G, 194, .inl (iA S))) ∧ h' v2 = some (.inl (G_i G, 3104, .inl (iA W))) ∧ (∀ k, -1 ≤ S k ∧ S k ≤ 100000) ∧ (∀ k, 0 ≤ W k ∧ W k ≤ 100000)) ∧ Fm [v1, v2] h0 h') ∧ ((∃ x, rVP (rpP n S1 S2 S3 S4 num den tk g0 l0 m0 s0 U nu) n x) → ∃ g : Nat → Nat, rMn (rpP n S1 S2 S3 S4 num den tk g0 l0 m0 s0 U nu) n g ∧ r = some (.int (iZ (rCs n g))) ∧ (∃ σ', h' m = some (.inr (11, fsN 34 σ')) ∧ σ' 9 = .int (iZ ((c : Int) + 1)) ∧ σ' 10 = .int (iZ ((min (bk + 1) 10 : Nat) : Int)) ∧ Fs [9, 10] σ σ') ∧ h' s1 = some (.inl (G_j G, 16, .inr (.inl (lA (wyS (rpP n S1 S2 S3 S4 num den tk g0 l0 m0 s0 U nu) g tk S1 n))))) ∧ h' s2 = some (.inl (G_j G, 16, .inr (.inl (lA (wyE (rpP n S1 S2 S3 S4 num den tk g0 l0 m0 s0 U nu) g tk S2 n))))) ∧ (∃ S W : Nat → Int, h' v1 = some (.inl (G_i G, 194, .inl (iA S))) ∧ h' v2 = some (.inl (G_i G, 3104, .inl (iA W))) ∧ (∀ k, -1 ≤ S k ∧ S k ≤ 100000) ∧ (∀ k, 0 ≤ W k ∧ W k ≤ 100000)) ∧ h' k0 = some (.inl (G_i G, 10, .inl (iA (zup K0 (c % 10) n)))) ∧ h' k1 = some (.inl (G_j G, 160, .inr (.inl (lA (va_cpy S1 K1 0 (16 * (c % 10)) 16))))) ∧ h' k2 = some (.inl (G_j G, 160, .inr (.inl (lA (va_cpy S2 K2 0 (16 * (c % 10)) 16))))) ∧ h' k3 = some (.inl (G_i G, 160, .inl (iA (va_cpy S3 K3 0 (16 * (c % 10)) 16)))) ∧ h' k4 = some (.inl (G_i G, 10240, .inl (iA (va_cpy S4 K4 0 (1024 * (c % 10)) 1024)))) ∧ Fm [m, s1, s2, k0, k1, k2, k3, k4, v1, v2] h0 h')) 2 [(0, .ref m), (1, .int (iZ (i : Int)))] [] h 0 0 := by
  intro d
  induction d using Nat.strongRecOn with
  | ind d ih =>
  intro i h S W hd hex hfw hS hW hm hs1 hs2 hs3 hs4 hk0 hk1 hk2 hk3 hk4 hus hv1 hv2 fm
  refine ev_iload_n d_Mo_repair_2 rfl rfl ?_
  refine ev_aload_n d_Mo_repair_3 rfl rfl ?_
  refine ev_getF d_Mo_repair_4 fl_Mo_92 hm (by decide) f4 ?_
  refine ez_icmp_ge (tgt := 29) (by omega) (by omega) d_Mo_repair_7 rfl (fun c7 => ?_) (fun c7 => ?_)
  · obtain rfl : i = n := by omega
    exact lp_Mo_rpEnd G h0 m s1 s2 s3 s4 k0 k1 k2 k3 k4 us v1 v2 i c bk S1 S2 S3 S4 K0 K1 K2 K3 K4 num den tk g0 l0 m0 s0 U nu σ hn hT hE hZ hB hnu hU hnum hden htk htr hg hl hm0 hs hc hbk n_s n_k S W h hex hfw hS hW hm f2 f3 f4 f5 f6 f7 f8 f9 f10 f11 f12 f13 f14 f15 f25 f26 f27 f28 f29 f30 f31 f32 hs1 hs2 hs3 hs4 hk0 hk1 hk2 hk3 hk4 hus hv1 hv2 (Fm.rf.call (by simp) fm)
  · refine ev_aload_n d_Mo_repair_10 rfl rfl ?_
    refine ev_iload_n d_Mo_repair_11 rfl rfl ?_
    refine ev_callV M_Mo_findWays (rm 3 90) _ (As := [.int (iZ (i : Int))]) (c_Mo_findWays G h σ m s1 s2 s3 s4 us v1 v2 n i S1 S2 S3 S4 num den tk g0 l0 m0 s0 U nu S W hm f2 f3 f5 f6 f7 f8 f25 f26 f27 f28 f29 f30 f31 f32 hs1 hs2 hs3 hs4 hus hv1 hv2 (by omega) hn hT hE hZ hB hnu hU hnum hden htk htr hg hl hm0 hs n_s (fun _ => hfw (by omega)) hS hW) d_Mo_repair_12 mk_Mo_findWays ml_Mo_259 mv_Mo_findWays hm rfl rfl rfl (Nat.le_of_ble_eq_true rfl) ⟨by decide, by decide⟩ ⟨by decide, by decide⟩ (fun r h9 hq => ?_)
    obtain ⟨sm, rfl, ⟨S', W', gv1, gv2, gfw, gS, gW⟩, hsm, fmc⟩ := hq
    have hm := (fmc _ (ninc (cne hm hv1 (by simp)) (ninc (cne hm hv2 (by simp)) nin0))).trans hm
    have hs1 := (fmc _ (ninc (cne hs1 hv1 (by simp)) (ninc (cne hs1 hv2 (by simp)) nin0))).trans hs1
    have hs2 := (fmc _ (ninc (cne hs2 hv1 (by simp)) (ninc (cne hs2 hv2 (by simp)) nin0))).trans hs2
    have hs3 := (fmc _ (ninc (cne hs3 hv1 (by simp)) (ninc (cne hs3 hv2 (by simp)) nin0))).trans hs3
    have hs4 := (fmc _ (ninc (cne hs4 hv1 (by simp)) (ninc (cne hs4 hv2 (by simp)) nin0))).trans hs4
    have hk0 := (fmc _ (ninc (cne hk0 hv1 (by simp)) (ninc (cne hk0 hv2 (by simp)) nin0))).trans hk0
    have hk1 := (fmc _ (ninc (cne hk1 hv1 (by simp)) (ninc (cne hk1 hv2 (by simp)) nin0))).trans hk1
    have hk2 := (fmc _ (ninc (cne hk2 hv1 (by simp)) (ninc (cne hk2 hv2 (by simp)) nin0))).trans hk2
    have hk3 := (fmc _ (ninc (cne hk3 hv1 (by simp)) (ninc (cne hk3 hv2 (by simp)) nin0))).trans hk3
    have hk4 := (fmc _ (ninc (cne hk4 hv1 (by simp)) (ninc (cne hk4 hv2 (by simp)) nin0))).trans hk4
    have hus := (fmc _ (ninc (cne hus hv1 (by simp)) (ninc (cne hus hv2 (by simp)) nin0))).trans hus
    have hv1 := gv1
    have hv2 := gv2
    have fm := fm.call (by simp) fmc
    have hs9 : sm = 0 ∨ sm = 1 := by rcases hsm with q | q; exact Or.inr q.1; exact Or.inl q.1
    refine ez_if_ne (tgt := 23) (by omega) d_Mo_repair_15 rfl (fun c15 => ?_) (fun c15 => ?_)
    · refine ez_iinc (L' := [(0, .ref m), (1, .int (iZ ((i + 1 : Nat) : Int)))]) d_Mo_repair_23 rfl (by decide) rfl ?_
      refine ev_goto (tgt := 2) d_Mo_repair_26 rfl ?_
      have nv : ∃ x, rVP (rpP n S1 S2 S3 S4 num den tk g0 l0 m0 s0 U nu) (i + 1) x := by
        rcases hsm with ⟨_, q⟩ | ⟨q, _⟩
        · exact q
        · omega
      exact ih (d - 1) (by omega) (i + 1) h9 S' W' (by omega) nv (fun _ => gfw) gS gW hm hs1 hs2 hs3 hs4 hk0 hk1 hk2 hk3 hk4 hus hv1 hv2 fm
    · refine ev_bipush (v := iZ (-10)) d_Mo_repair_18 rfl ?_
      refine ev_iload_n d_Mo_repair_20 rfl rfl ?_
      refine ez_isub d_Mo_repair_21 ?_
      have nv : ¬ ∃ x, rVP (rpP n S1 S2 S3 S4 num den tk g0 l0 m0 s0 U nu) (i + 1) x := by
        rcases hsm with ⟨q, _⟩ | ⟨_, q⟩
        · omega
        · exact q
      exact ev_ireturn d_Mo_repair_22 rfl (by decide) (by decide) (⟨fun _ => ⟨i, by omega, rfl, hex, nv, ⟨_, _, hv1, hv2, gS, gW⟩, fm⟩, fun ⟨x, v⟩ => absurd ⟨x, rVP_le v (by omega)⟩ nv⟩)
set_option maxHeartbeats 4000000 in
set_option maxRecDepth 100000 in
theorem c_Mo_repair (G : GT) (h : HM) (m s1 s2 s3 s4 k0 k1 k2 k3 k4 us v1 v2 n c bk : Nat) (S1 S2 S3 S4 K0 K1 K2 K3 K4 : Nat → Int) (num den tk g0 l0 m0 s0 : Int) (U : Nat → Int) (nu : Nat) (σ : Nat → Value) (S W : Nat → Int) (hm : h m = some (.inr (11, fsN 34 σ))) (f4 : σ 4 = .int (iZ (n : Int))) (f5 : σ 5 = .ref s1) (f6 : σ 6 = .ref s2) (f7 : σ 7 = .ref s3) (f8 : σ 8 = .ref s4) (f9 : σ 9 = .int (iZ (c : Int))) (f10 : σ 10 = .int (iZ (bk : Int))) (f11 : σ 11 = .ref k0) (f12 : σ 12 = .ref k1) (f13 : σ 13 = .ref k2) (f14 : σ 14 = .ref k3) (f15 : σ 15 = .ref k4) (f2 : σ 2 = .int (iZ num)) (f3 : σ 3 = .int (iZ den)) (f25 : σ 25 = .int (iZ (nu : Int))) (f26 : σ 26 = .ref us) (f27 : σ 27 = .int (iZ g0)) (f28 : σ 28 = .int (iZ l0)) (f29 : σ 29 = .int (iZ m0)) (f30 : σ 30 = .int (iZ s0)) (f31 : σ 31 = .ref v1) (f32 : σ 32 = .ref v2) (hs1 : h s1 = some (.inl (G_j G, 16, .inr (.inl (lA S1))))) (hs2 : h s2 = some (.inl (G_j G, 16, .inr (.inl (lA S2))))) (hs3 : h s3 = some (.inl (G_i G, 16, .inl (iA S3)))) (hs4 : h s4 = some (.inl (G_i G, 1024, .inl (iA S4)))) (hk0 : h k0 = some (.inl (G_i G, 10, .inl (iA K0)))) (hk1 : h k1 = some (.inl (G_j G, 160, .inr (.inl (lA K1))))) (hk2 : h k2 = some (.inl (G_j G, 160, .inr (.inl (lA K2))))) (hk3 : h k3 = some (.inl (G_i G, 160, .inl (iA K3)))) (hk4 : h k4 = some (.inl (G_i G, 10240, .inl (iA K4)))) (hus : h us = some (.inl (G_i G, 20, .inl (iA U)))) (hv1 : h v1 = some (.inl (G_i G, 194, .inl (iA S)))) (hv2 : h v2 = some (.inl (G_i G, 3104, .inl (iA W)))) (hn : n ≤ 16) (hT : ∀ k, 0 ≤ S1 k ∧ S1 k ≤ 2540160000000) (hE : ∀ k, 0 ≤ S2 k ∧ S2 k ≤ 2540160000000) (hZ : ∀ k, 0 ≤ S3 k ∧ S3 k ≤ 64) (hB : ∀ k, 0 ≤ S4 k ∧ S4 k ≤ 255) (hnu : nu ≤ 20) (hU : ∀ k, k < nu → 0 ≤ U k ∧ U k ≤ 216000) (hnum : 1 ≤ num ∧ num ≤ 120000) (hden : 1 ≤ den ∧ den ≤ 1001) (htk : tk = 705600000 * den / num) (htr : 11760000 ≤ tk ∧ tk ≤ 705600000) (hg : 0 ≤ g0 ∧ g0 ≤ 20) (hl : 1 ≤ l0 ∧ l0 ≤ 100) (hm0 : 0 ≤ m0 ∧ m0 ≤ 400) (hs : 1 ≤ s0 ∧ s0 ≤ 60) (hc : c ≤ 1000) (hbk : bk ≤ 10) (n_s : s1 ≠ s2) (n_k : k1 ≠ k2) (hS : ∀ k, -1 ≤ S k ∧ S k ≤ 100000) (hW : ∀ k, 0 ≤ W k ∧ W k ≤ 100000) : Rn G M_Mo_repair (rm 4 130) [.ref m] h (fun r h' => (¬ (∃ x, rVP (rpP n S1 S2 S3 S4 num den tk g0 l0 m0 s0 U nu) n x) → ∃ z : Nat, z < n ∧ r = some (.int (iZ (-10 - (z : Int)))) ∧ (∃ x, rVP (rpP n S1 S2 S3 S4 num den tk g0 l0 m0 s0 U nu) z x) ∧ (¬ ∃ x, rVP (rpP n S1 S2 S3 S4 num den tk g0 l0 m0 s0 U nu) (z + 1) x) ∧ (∃ S W : Nat → Int, h' v1 = some (.inl (G_i G, 194, .inl (iA S))) ∧ h' v2 = some (.inl (G_i G, 3104, .inl (iA W))) ∧ (∀ k, -1 ≤ S k ∧ S k ≤ 100000) ∧ (∀ k, 0 ≤ W k ∧ W k ≤ 100000)) ∧ Fm [v1, v2] h h') ∧ ((∃ x, rVP (rpP n S1 S2 S3 S4 num den tk g0 l0 m0 s0 U nu) n x) → ∃ g : Nat → Nat, rMn (rpP n S1 S2 S3 S4 num den tk g0 l0 m0 s0 U nu) n g ∧ r = some (.int (iZ (rCs n g))) ∧ (∃ σ', h' m = some (.inr (11, fsN 34 σ')) ∧ σ' 9 = .int (iZ ((c : Int) + 1)) ∧ σ' 10 = .int (iZ ((min (bk + 1) 10 : Nat) : Int)) ∧ Fs [9, 10] σ σ') ∧ h' s1 = some (.inl (G_j G, 16, .inr (.inl (lA (wyS (rpP n S1 S2 S3 S4 num den tk g0 l0 m0 s0 U nu) g tk S1 n))))) ∧ h' s2 = some (.inl (G_j G, 16, .inr (.inl (lA (wyE (rpP n S1 S2 S3 S4 num den tk g0 l0 m0 s0 U nu) g tk S2 n))))) ∧ (∃ S W : Nat → Int, h' v1 = some (.inl (G_i G, 194, .inl (iA S))) ∧ h' v2 = some (.inl (G_i G, 3104, .inl (iA W))) ∧ (∀ k, -1 ≤ S k ∧ S k ≤ 100000) ∧ (∀ k, 0 ≤ W k ∧ W k ≤ 100000)) ∧ h' k0 = some (.inl (G_i G, 10, .inl (iA (zup K0 (c % 10) n)))) ∧ h' k1 = some (.inl (G_j G, 160, .inr (.inl (lA (va_cpy S1 K1 0 (16 * (c % 10)) 16))))) ∧ h' k2 = some (.inl (G_j G, 160, .inr (.inl (lA (va_cpy S2 K2 0 (16 * (c % 10)) 16))))) ∧ h' k3 = some (.inl (G_i G, 160, .inl (iA (va_cpy S3 K3 0 (16 * (c % 10)) 16)))) ∧ h' k4 = some (.inl (G_i G, 10240, .inl (iA (va_cpy S4 K4 0 (1024 * (c % 10)) 1024)))) ∧ Fm [m, s1, s2, k0, k1, k2, k3, k4, v1, v2] h h')) := by
  refine rn_of (by decide) (Nat.le_of_ble_eq_true rfl) ?_
  show Ev G M_Mo_repair _ _ 0 [(0, .ref m)] [] _ 0 0
  refine ev_iconst (v := iZ 0) d_Mo_repair_0 rfl ?_
  refine ev_istore_n (L' := [(0, .ref m), (1, .int (iZ 0))]) d_Mo_repair_1 rfl (by decide) rfl ?_
  exact lp_Mo_rp G h m s1 s2 s3 s4 k0 k1 k2 k3 k4 us v1 v2 n c bk S1 S2 S3 S4 K0 K1 K2 K3 K4 num den tk g0 l0 m0 s0 U nu σ f2 f3 f4 f5 f6 f7 f8 f9 f10 f11 f12 f13 f14 f15 f25 f26 f27 f28 f29 f30 f31 f32 hn hT hE hZ hB hnu hU hnum hden htk htr hg hl hm0 hs hc hbk n_s n_k n 0 h S W (by omega) ⟨fun _ => 0, rVP_0⟩ (fun w => absurd w (by omega)) hS hW hm hs1 hs2 hs3 hs4 hk0 hk1 hk2 hk3 hk4 hus hv1 hv2 Fm.rf
