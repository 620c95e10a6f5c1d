theorem d_Mo_mapped_0 : decode M_Mo_mapped.2.1 0 = .ok (.aload_n 0, 1) := by decide +kernel
theorem d_Mo_mapped_1 : decode M_Mo_mapped.2.1 1 = .ok (.invokevirtual 134, 3) := by decide +kernel
theorem d_Mo_mapped_4 : decode M_Mo_mapped.2.1 4 = .ok (.lstore 11, 2) := by decide +kernel
theorem d_Mo_mapped_6 : decode M_Mo_mapped.2.1 6 = .ok (.lload 7, 2) := by decide +kernel
theorem d_Mo_mapped_8 : decode M_Mo_mapped.2.1 8 = .ok (.lload_n 3, 1) := by decide +kernel
theorem d_Mo_mapped_9 : decode M_Mo_mapped.2.1 9 = .ok (.lcmp, 1) := by decide +kernel
theorem d_Mo_mapped_10 : decode M_Mo_mapped.2.1 10 = .ok (.ifCond .le 7, 3) := by decide +kernel
theorem d_Mo_mapped_13 : decode M_Mo_mapped.2.1 13 = .ok (.lconst 1, 1) := by decide +kernel
theorem d_Mo_mapped_14 : decode M_Mo_mapped.2.1 14 = .ok (.goto 6, 3) := by decide +kernel
theorem d_Mo_mapped_17 : decode M_Mo_mapped.2.1 17 = .ok (.ldc2_w 220, 3) := by decide +kernel
theorem d_Mo_mapped_20 : decode M_Mo_mapped.2.1 20 = .ok (.lstore 13, 2) := by decide +kernel
theorem d_Mo_mapped_22 : decode M_Mo_mapped.2.1 22 = .ok (.lload 13, 2) := by decide +kernel
theorem d_Mo_mapped_24 : decode M_Mo_mapped.2.1 24 = .ok (.lload 5, 2) := by decide +kernel
theorem d_Mo_mapped_26 : decode M_Mo_mapped.2.1 26 = .ok (.lload 11, 2) := by decide +kernel
theorem d_Mo_mapped_28 : decode M_Mo_mapped.2.1 28 = .ok (.lmul, 1) := by decide +kernel
theorem d_Mo_mapped_29 : decode M_Mo_mapped.2.1 29 = .ok (.lload 7, 2) := by decide +kernel
theorem d_Mo_mapped_31 : decode M_Mo_mapped.2.1 31 = .ok (.lload_n 3, 1) := by decide +kernel
theorem d_Mo_mapped_32 : decode M_Mo_mapped.2.1 32 = .ok (.lsub, 1) := by decide +kernel
theorem d_Mo_mapped_33 : decode M_Mo_mapped.2.1 33 = .ok (.lmul, 1) := by decide +kernel
theorem d_Mo_mapped_34 : decode M_Mo_mapped.2.1 34 = .ok (.lload_n 1, 1) := by decide +kernel
theorem d_Mo_mapped_35 : decode M_Mo_mapped.2.1 35 = .ok (.lload_n 3, 1) := by decide +kernel
theorem d_Mo_mapped_36 : decode M_Mo_mapped.2.1 36 = .ok (.lload 11, 2) := by decide +kernel
theorem d_Mo_mapped_38 : decode M_Mo_mapped.2.1 38 = .ok (.lmul, 1) := by decide +kernel
theorem d_Mo_mapped_39 : decode M_Mo_mapped.2.1 39 = .ok (.lsub, 1) := by decide +kernel
theorem d_Mo_mapped_40 : decode M_Mo_mapped.2.1 40 = .ok (.lload 9, 2) := by decide +kernel
theorem d_Mo_mapped_42 : decode M_Mo_mapped.2.1 42 = .ok (.lload 5, 2) := by decide +kernel
theorem d_Mo_mapped_44 : decode M_Mo_mapped.2.1 44 = .ok (.lsub, 1) := by decide +kernel
theorem d_Mo_mapped_45 : decode M_Mo_mapped.2.1 45 = .ok (.lmul, 1) := by decide +kernel
theorem d_Mo_mapped_46 : decode M_Mo_mapped.2.1 46 = .ok (.ladd, 1) := by decide +kernel
theorem d_Mo_mapped_47 : decode M_Mo_mapped.2.1 47 = .ok (.lmul, 1) := by decide +kernel
theorem d_Mo_mapped_48 : decode M_Mo_mapped.2.1 48 = .ok (.lload 13, 2) := by decide +kernel
theorem d_Mo_mapped_50 : decode M_Mo_mapped.2.1 50 = .ok (.lload 11, 2) := by decide +kernel
theorem d_Mo_mapped_52 : decode M_Mo_mapped.2.1 52 = .ok (.lmul, 1) := by decide +kernel
theorem d_Mo_mapped_53 : decode M_Mo_mapped.2.1 53 = .ok (.lload 7, 2) := by decide +kernel
theorem d_Mo_mapped_55 : decode M_Mo_mapped.2.1 55 = .ok (.lload_n 3, 1) := by decide +kernel
theorem d_Mo_mapped_56 : decode M_Mo_mapped.2.1 56 = .ok (.lsub, 1) := by decide +kernel
theorem d_Mo_mapped_57 : decode M_Mo_mapped.2.1 57 = .ok (.lmul, 1) := by decide +kernel
theorem d_Mo_mapped_58 : decode M_Mo_mapped.2.1 58 = .ok (.invokestatic 189, 3) := by decide +kernel
theorem d_Mo_mapped_61 : decode M_Mo_mapped.2.1 61 = .ok (.lreturn, 1) := by decide +kernel
theorem d_Mo_twoPoint_0 : decode M_Mo_twoPoint.2.1 0 = .ok (.aload_n 0, 1) := by decide +kernel
theorem d_Mo_twoPoint_1 : decode M_Mo_twoPoint.2.1 1 = .ok (.invokevirtual 134, 3) := by decide +kernel
theorem d_Mo_twoPoint_4 : decode M_Mo_twoPoint.2.1 4 = .ok (.lstore 5, 2) := by decide +kernel
theorem d_Mo_twoPoint_6 : decode M_Mo_twoPoint.2.1 6 = .ok (.aload_n 0, 1) := by decide +kernel
theorem d_Mo_twoPoint_7 : decode M_Mo_twoPoint.2.1 7 = .ok (.iload_n 1, 1) := by decide +kernel
theorem d_Mo_twoPoint_8 : decode M_Mo_twoPoint.2.1 8 = .ok (.i2l, 1) := by decide +kernel
theorem d_Mo_twoPoint_9 : decode M_Mo_twoPoint.2.1 9 = .ok (.lload 5, 2) := by decide +kernel
theorem d_Mo_twoPoint_11 : decode M_Mo_twoPoint.2.1 11 = .ok (.lmul, 1) := by decide +kernel
theorem d_Mo_twoPoint_12 : decode M_Mo_twoPoint.2.1 12 = .ok (.invokevirtual 266, 3) := by decide +kernel
theorem d_Mo_twoPoint_15 : decode M_Mo_twoPoint.2.1 15 = .ok (.ifCond .eq 79, 3) := by decide +kernel
theorem d_Mo_twoPoint_18 : decode M_Mo_twoPoint.2.1 18 = .ok (.aload_n 0, 1) := by decide +kernel
theorem d_Mo_twoPoint_19 : decode M_Mo_twoPoint.2.1 19 = .ok (.iload_n 2, 1) := by decide +kernel
theorem d_Mo_twoPoint_20 : decode M_Mo_twoPoint.2.1 20 = .ok (.i2l, 1) := by decide +kernel
theorem d_Mo_twoPoint_21 : decode M_Mo_twoPoint.2.1 21 = .ok (.lload 5, 2) := by decide +kernel
theorem d_Mo_twoPoint_23 : decode M_Mo_twoPoint.2.1 23 = .ok (.lmul, 1) := by decide +kernel
theorem d_Mo_twoPoint_24 : decode M_Mo_twoPoint.2.1 24 = .ok (.invokevirtual 266, 3) := by decide +kernel
theorem d_Mo_twoPoint_27 : decode M_Mo_twoPoint.2.1 27 = .ok (.ifCond .eq 67, 3) := by decide +kernel
theorem d_Mo_twoPoint_30 : decode M_Mo_twoPoint.2.1 30 = .ok (.aload_n 0, 1) := by decide +kernel
theorem d_Mo_twoPoint_31 : decode M_Mo_twoPoint.2.1 31 = .ok (.iload_n 3, 1) := by decide +kernel
theorem d_Mo_twoPoint_32 : decode M_Mo_twoPoint.2.1 32 = .ok (.i2l, 1) := by decide +kernel
theorem d_Mo_twoPoint_33 : decode M_Mo_twoPoint.2.1 33 = .ok (.lload 5, 2) := by decide +kernel
theorem d_Mo_twoPoint_35 : decode M_Mo_twoPoint.2.1 35 = .ok (.lmul, 1) := by decide +kernel
theorem d_Mo_twoPoint_36 : decode M_Mo_twoPoint.2.1 36 = .ok (.invokevirtual 266, 3) := by decide +kernel
theorem d_Mo_twoPoint_39 : decode M_Mo_twoPoint.2.1 39 = .ok (.ifCond .eq 55, 3) := by decide +kernel
theorem d_Mo_twoPoint_42 : decode M_Mo_twoPoint.2.1 42 = .ok (.aload_n 0, 1) := by decide +kernel
theorem d_Mo_twoPoint_43 : decode M_Mo_twoPoint.2.1 43 = .ok (.iload 4, 2) := by decide +kernel
theorem d_Mo_twoPoint_45 : decode M_Mo_twoPoint.2.1 45 = .ok (.i2l, 1) := by decide +kernel
theorem d_Mo_twoPoint_46 : decode M_Mo_twoPoint.2.1 46 = .ok (.lload 5, 2) := by decide +kernel
theorem d_Mo_twoPoint_48 : decode M_Mo_twoPoint.2.1 48 = .ok (.lmul, 1) := by decide +kernel
theorem d_Mo_twoPoint_49 : decode M_Mo_twoPoint.2.1 49 = .ok (.invokevirtual 266, 3) := by decide +kernel
theorem d_Mo_twoPoint_52 : decode M_Mo_twoPoint.2.1 52 = .ok (.ifCond .eq 42, 3) := by decide +kernel
theorem d_Mo_twoPoint_55 : decode M_Mo_twoPoint.2.1 55 = .ok (.iload_n 1, 1) := by decide +kernel
theorem d_Mo_twoPoint_56 : decode M_Mo_twoPoint.2.1 56 = .ok (.iload_n 3, 1) := by decide +kernel
theorem d_Mo_twoPoint_57 : decode M_Mo_twoPoint.2.1 57 = .ok (.if_icmp .eq 37, 3) := by decide +kernel
theorem d_Mo_twoPoint_60 : decode M_Mo_twoPoint.2.1 60 = .ok (.iload_n 3, 1) := by decide +kernel
theorem d_Mo_twoPoint_61 : decode M_Mo_twoPoint.2.1 61 = .ok (.iload_n 1, 1) := by decide +kernel
theorem d_Mo_twoPoint_62 : decode M_Mo_twoPoint.2.1 62 = .ok (.if_icmp .le 7, 3) := by decide +kernel
theorem d_Mo_twoPoint_65 : decode M_Mo_twoPoint.2.1 65 = .ok (.iconst 1, 1) := by decide +kernel
theorem d_Mo_twoPoint_66 : decode M_Mo_twoPoint.2.1 66 = .ok (.goto 4, 3) := by decide +kernel
theorem d_Mo_twoPoint_69 : decode M_Mo_twoPoint.2.1 69 = .ok (.iconst 0, 1) := by decide +kernel
theorem d_Mo_twoPoint_70 : decode M_Mo_twoPoint.2.1 70 = .ok (.iload 4, 2) := by decide +kernel
theorem d_Mo_twoPoint_72 : decode M_Mo_twoPoint.2.1 72 = .ok (.iload_n 2, 1) := by decide +kernel
theorem d_Mo_twoPoint_73 : decode M_Mo_twoPoint.2.1 73 = .ok (.if_icmp .le 7, 3) := by decide +kernel
theorem d_Mo_twoPoint_76 : decode M_Mo_twoPoint.2.1 76 = .ok (.iconst 1, 1) := by decide +kernel
theorem d_Mo_twoPoint_77 : decode M_Mo_twoPoint.2.1 77 = .ok (.goto 4, 3) := by decide +kernel
theorem d_Mo_twoPoint_80 : decode M_Mo_twoPoint.2.1 80 = .ok (.iconst 0, 1) := by decide +kernel
theorem d_Mo_twoPoint_81 : decode M_Mo_twoPoint.2.1 81 = .ok (.if_icmp .ne 13, 3) := by decide +kernel
theorem d_Mo_twoPoint_84 : decode M_Mo_twoPoint.2.1 84 = .ok (.iload_n 2, 1) := by decide +kernel
theorem d_Mo_twoPoint_85 : decode M_Mo_twoPoint.2.1 85 = .ok (.iload 4, 2) := by decide +kernel
theorem d_Mo_twoPoint_87 : decode M_Mo_twoPoint.2.1 87 = .ok (.if_icmp .eq 7, 3) := by decide +kernel
theorem d_Mo_twoPoint_90 : decode M_Mo_twoPoint.2.1 90 = .ok (.iconst 1, 1) := by decide +kernel
theorem d_Mo_twoPoint_91 : decode M_Mo_twoPoint.2.1 91 = .ok (.goto 4, 3) := by decide +kernel
theorem d_Mo_twoPoint_94 : decode M_Mo_twoPoint.2.1 94 = .ok (.iconst 0, 1) := by decide +kernel
theorem d_Mo_twoPoint_95 : decode M_Mo_twoPoint.2.1 95 = .ok (.istore 7, 2) := by decide +kernel
theorem d_Mo_twoPoint_97 : decode M_Mo_twoPoint.2.1 97 = .ok (.iconst 0, 1) := by decide +kernel
theorem d_Mo_twoPoint_98 : decode M_Mo_twoPoint.2.1 98 = .ok (.istore 8, 2) := by decide +kernel
theorem d_Mo_twoPoint_100 : decode M_Mo_twoPoint.2.1 100 = .ok (.iload 8, 2) := by decide +kernel
theorem d_Mo_twoPoint_102 : decode M_Mo_twoPoint.2.1 102 = .ok (.aload_n 0, 1) := by decide +kernel
theorem d_Mo_twoPoint_103 : decode M_Mo_twoPoint.2.1 103 = .ok (.getfield 92, 3) := by decide +kernel
theorem d_Mo_twoPoint_106 : decode M_Mo_twoPoint.2.1 106 = .ok (.if_icmp .ge 92, 3) := by decide +kernel
theorem d_Mo_twoPoint_109 : decode M_Mo_twoPoint.2.1 109 = .ok (.iload 7, 2) := by decide +kernel
theorem d_Mo_twoPoint_111 : decode M_Mo_twoPoint.2.1 111 = .ok (.ifCond .eq 87, 3) := by decide +kernel
theorem d_Mo_twoPoint_114 : decode M_Mo_twoPoint.2.1 114 = .ok (.aload_n 0, 1) := by decide +kernel
theorem d_Mo_twoPoint_115 : decode M_Mo_twoPoint.2.1 115 = .ok (.aload_n 0, 1) := by decide +kernel
theorem d_Mo_twoPoint_116 : decode M_Mo_twoPoint.2.1 116 = .ok (.getfield 20, 3) := by decide +kernel
theorem d_Mo_twoPoint_119 : decode M_Mo_twoPoint.2.1 119 = .ok (.iload 8, 2) := by decide +kernel
theorem d_Mo_twoPoint_121 : decode M_Mo_twoPoint.2.1 121 = .ok (.laload, 1) := by decide +kernel
theorem d_Mo_twoPoint_122 : decode M_Mo_twoPoint.2.1 122 = .ok (.iload_n 1, 1) := by decide +kernel
theorem d_Mo_twoPoint_123 : decode M_Mo_twoPoint.2.1 123 = .ok (.i2l, 1) := by decide +kernel
theorem d_Mo_twoPoint_124 : decode M_Mo_twoPoint.2.1 124 = .ok (.iload_n 2, 1) := by decide +kernel
theorem d_Mo_twoPoint_125 : decode M_Mo_twoPoint.2.1 125 = .ok (.i2l, 1) := by decide +kernel
theorem d_Mo_twoPoint_126 : decode M_Mo_twoPoint.2.1 126 = .ok (.iload_n 3, 1) := by decide +kernel
theorem d_Mo_twoPoint_127 : decode M_Mo_twoPoint.2.1 127 = .ok (.i2l, 1) := by decide +kernel
theorem d_Mo_twoPoint_128 : decode M_Mo_twoPoint.2.1 128 = .ok (.iload 4, 2) := by decide +kernel
theorem d_Mo_twoPoint_130 : decode M_Mo_twoPoint.2.1 130 = .ok (.i2l, 1) := by decide +kernel
theorem d_Mo_twoPoint_131 : decode M_Mo_twoPoint.2.1 131 = .ok (.invokevirtual 269, 3) := by decide +kernel
theorem d_Mo_twoPoint_134 : decode M_Mo_twoPoint.2.1 134 = .ok (.lstore 9, 2) := by decide +kernel
theorem d_Mo_twoPoint_136 : decode M_Mo_twoPoint.2.1 136 = .ok (.aload_n 0, 1) := by decide +kernel
theorem d_Mo_twoPoint_137 : decode M_Mo_twoPoint.2.1 137 = .ok (.aload_n 0, 1) := by decide +kernel
theorem d_Mo_twoPoint_138 : decode M_Mo_twoPoint.2.1 138 = .ok (.getfield 24, 3) := by decide +kernel
theorem d_Mo_twoPoint_141 : decode M_Mo_twoPoint.2.1 141 = .ok (.iload 8, 2) := by decide +kernel
theorem d_Mo_twoPoint_143 : decode M_Mo_twoPoint.2.1 143 = .ok (.laload, 1) := by decide +kernel
theorem d_Mo_twoPoint_144 : decode M_Mo_twoPoint.2.1 144 = .ok (.iload_n 1, 1) := by decide +kernel
theorem d_Mo_twoPoint_145 : decode M_Mo_twoPoint.2.1 145 = .ok (.i2l, 1) := by decide +kernel
theorem d_Mo_twoPoint_146 : decode M_Mo_twoPoint.2.1 146 = .ok (.iload_n 2, 1) := by decide +kernel
theorem d_Mo_twoPoint_147 : decode M_Mo_twoPoint.2.1 147 = .ok (.i2l, 1) := by decide +kernel
theorem d_Mo_twoPoint_148 : decode M_Mo_twoPoint.2.1 148 = .ok (.iload_n 3, 1) := by decide +kernel
theorem d_Mo_twoPoint_149 : decode M_Mo_twoPoint.2.1 149 = .ok (.i2l, 1) := by decide +kernel
theorem d_Mo_twoPoint_150 : decode M_Mo_twoPoint.2.1 150 = .ok (.iload 4, 2) := by decide +kernel
theorem d_Mo_twoPoint_152 : decode M_Mo_twoPoint.2.1 152 = .ok (.i2l, 1) := by decide +kernel
theorem d_Mo_twoPoint_153 : decode M_Mo_twoPoint.2.1 153 = .ok (.invokevirtual 269, 3) := by decide +kernel
theorem d_Mo_twoPoint_156 : decode M_Mo_twoPoint.2.1 156 = .ok (.lstore 11, 2) := by decide +kernel
theorem d_Mo_twoPoint_158 : decode M_Mo_twoPoint.2.1 158 = .ok (.lload 9, 2) := by decide +kernel
theorem d_Mo_twoPoint_160 : decode M_Mo_twoPoint.2.1 160 = .ok (.lconst 0, 1) := by decide +kernel
theorem d_Mo_twoPoint_161 : decode M_Mo_twoPoint.2.1 161 = .ok (.lcmp, 1) := by decide +kernel
theorem d_Mo_twoPoint_162 : decode M_Mo_twoPoint.2.1 162 = .ok (.ifCond .lt 27, 3) := by decide +kernel
theorem d_Mo_twoPoint_165 : decode M_Mo_twoPoint.2.1 165 = .ok (.lload 11, 2) := by decide +kernel
theorem d_Mo_twoPoint_167 : decode M_Mo_twoPoint.2.1 167 = .ok (.lload 5, 2) := by decide +kernel
theorem d_Mo_twoPoint_169 : decode M_Mo_twoPoint.2.1 169 = .ok (.lmul, 1) := by decide +kernel
theorem d_Mo_twoPoint_170 : decode M_Mo_twoPoint.2.1 170 = .ok (.ldc2_w 171, 3) := by decide +kernel
theorem d_Mo_twoPoint_173 : decode M_Mo_twoPoint.2.1 173 = .ok (.lcmp, 1) := by decide +kernel
theorem d_Mo_twoPoint_174 : decode M_Mo_twoPoint.2.1 174 = .ok (.ifCond .gt 15, 3) := by decide +kernel
theorem d_Mo_twoPoint_177 : decode M_Mo_twoPoint.2.1 177 = .ok (.lload 9, 2) := by decide +kernel
theorem d_Mo_twoPoint_179 : decode M_Mo_twoPoint.2.1 179 = .ok (.lload 11, 2) := by decide +kernel
theorem d_Mo_twoPoint_181 : decode M_Mo_twoPoint.2.1 181 = .ok (.lcmp, 1) := by decide +kernel
theorem d_Mo_twoPoint_182 : decode M_Mo_twoPoint.2.1 182 = .ok (.ifCond .ge 7, 3) := by decide +kernel
theorem d_Mo_twoPoint_185 : decode M_Mo_twoPoint.2.1 185 = .ok (.iconst 1, 1) := by decide +kernel
theorem d_Mo_twoPoint_186 : decode M_Mo_twoPoint.2.1 186 = .ok (.goto 4, 3) := by decide +kernel
theorem d_Mo_twoPoint_189 : decode M_Mo_twoPoint.2.1 189 = .ok (.iconst 0, 1) := by decide +kernel
theorem d_Mo_twoPoint_190 : decode M_Mo_twoPoint.2.1 190 = .ok (.istore 7, 2) := by decide +kernel
theorem d_Mo_twoPoint_192 : decode M_Mo_twoPoint.2.1 192 = .ok (.iinc 8 1, 3) := by decide +kernel
theorem d_Mo_twoPoint_195 : decode M_Mo_twoPoint.2.1 195 = .ok (.goto (-95), 3) := by decide +kernel
theorem d_Mo_twoPoint_198 : decode M_Mo_twoPoint.2.1 198 = .ok (.iload 7, 2) := by decide +kernel
theorem d_Mo_twoPoint_200 : decode M_Mo_twoPoint.2.1 200 = .ok (.ifCond .ne 5, 3) := by decide +kernel
theorem d_Mo_twoPoint_203 : decode M_Mo_twoPoint.2.1 203 = .ok (.iconst 0, 1) := by decide +kernel
theorem d_Mo_twoPoint_204 : decode M_Mo_twoPoint.2.1 204 = .ok (.ireturn, 1) := by decide +kernel
theorem d_Mo_twoPoint_205 : decode M_Mo_twoPoint.2.1 205 = .ok (.aload_n 0, 1) := by decide +kernel
theorem d_Mo_twoPoint_206 : decode M_Mo_twoPoint.2.1 206 = .ok (.invokevirtual 176, 3) := by decide +kernel
theorem d_Mo_twoPoint_209 : decode M_Mo_twoPoint.2.1 209 = .ok (.iconst 0, 1) := by decide +kernel
theorem d_Mo_twoPoint_210 : decode M_Mo_twoPoint.2.1 210 = .ok (.istore 8, 2) := by decide +kernel
theorem d_Mo_twoPoint_212 : decode M_Mo_twoPoint.2.1 212 = .ok (.iload 8, 2) := by decide +kernel
theorem d_Mo_twoPoint_214 : decode M_Mo_twoPoint.2.1 214 = .ok (.aload_n 0, 1) := by decide +kernel
theorem d_Mo_twoPoint_215 : decode M_Mo_twoPoint.2.1 215 = .ok (.getfield 92, 3) := by decide +kernel
theorem d_Mo_twoPoint_218 : decode M_Mo_twoPoint.2.1 218 = .ok (.if_icmp .ge 69, 3) := by decide +kernel
theorem d_Mo_twoPoint_221 : decode M_Mo_twoPoint.2.1 221 = .ok (.aload_n 0, 1) := by decide +kernel
theorem d_Mo_twoPoint_222 : decode M_Mo_twoPoint.2.1 222 = .ok (.getfield 20, 3) := by decide +kernel
theorem d_Mo_twoPoint_225 : decode M_Mo_twoPoint.2.1 225 = .ok (.iload 8, 2) := by decide +kernel
theorem d_Mo_twoPoint_227 : decode M_Mo_twoPoint.2.1 227 = .ok (.aload_n 0, 1) := by decide +kernel
theorem d_Mo_twoPoint_228 : decode M_Mo_twoPoint.2.1 228 = .ok (.aload_n 0, 1) := by decide +kernel
theorem d_Mo_twoPoint_229 : decode M_Mo_twoPoint.2.1 229 = .ok (.getfield 20, 3) := by decide +kernel
theorem d_Mo_twoPoint_232 : decode M_Mo_twoPoint.2.1 232 = .ok (.iload 8, 2) := by decide +kernel
theorem d_Mo_twoPoint_234 : decode M_Mo_twoPoint.2.1 234 = .ok (.laload, 1) := by decide +kernel
theorem d_Mo_twoPoint_235 : decode M_Mo_twoPoint.2.1 235 = .ok (.iload_n 1, 1) := by decide +kernel
theorem d_Mo_twoPoint_236 : decode M_Mo_twoPoint.2.1 236 = .ok (.i2l, 1) := by decide +kernel
theorem d_Mo_twoPoint_237 : decode M_Mo_twoPoint.2.1 237 = .ok (.iload_n 2, 1) := by decide +kernel
theorem d_Mo_twoPoint_238 : decode M_Mo_twoPoint.2.1 238 = .ok (.i2l, 1) := by decide +kernel
theorem d_Mo_twoPoint_239 : decode M_Mo_twoPoint.2.1 239 = .ok (.iload_n 3, 1) := by decide +kernel
theorem d_Mo_twoPoint_240 : decode M_Mo_twoPoint.2.1 240 = .ok (.i2l, 1) := by decide +kernel
theorem d_Mo_twoPoint_241 : decode M_Mo_twoPoint.2.1 241 = .ok (.iload 4, 2) := by decide +kernel
theorem d_Mo_twoPoint_243 : decode M_Mo_twoPoint.2.1 243 = .ok (.i2l, 1) := by decide +kernel
theorem d_Mo_twoPoint_244 : decode M_Mo_twoPoint.2.1 244 = .ok (.invokevirtual 269, 3) := by decide +kernel
theorem d_Mo_twoPoint_247 : decode M_Mo_twoPoint.2.1 247 = .ok (.lload 5, 2) := by decide +kernel
theorem d_Mo_twoPoint_249 : decode M_Mo_twoPoint.2.1 249 = .ok (.lmul, 1) := by decide +kernel
theorem d_Mo_twoPoint_250 : decode M_Mo_twoPoint.2.1 250 = .ok (.lastore, 1) := by decide +kernel
theorem d_Mo_twoPoint_251 : decode M_Mo_twoPoint.2.1 251 = .ok (.aload_n 0, 1) := by decide +kernel
theorem d_Mo_twoPoint_252 : decode M_Mo_twoPoint.2.1 252 = .ok (.getfield 24, 3) := by decide +kernel
theorem d_Mo_twoPoint_255 : decode M_Mo_twoPoint.2.1 255 = .ok (.iload 8, 2) := by decide +kernel
theorem d_Mo_twoPoint_257 : decode M_Mo_twoPoint.2.1 257 = .ok (.aload_n 0, 1) := by decide +kernel
theorem d_Mo_twoPoint_258 : decode M_Mo_twoPoint.2.1 258 = .ok (.aload_n 0, 1) := by decide +kernel
theorem d_Mo_twoPoint_259 : decode M_Mo_twoPoint.2.1 259 = .ok (.getfield 24, 3) := by decide +kernel
theorem d_Mo_twoPoint_262 : decode M_Mo_twoPoint.2.1 262 = .ok (.iload 8, 2) := by decide +kernel
theorem d_Mo_twoPoint_264 : decode M_Mo_twoPoint.2.1 264 = .ok (.laload, 1) := by decide +kernel
theorem d_Mo_twoPoint_265 : decode M_Mo_twoPoint.2.1 265 = .ok (.iload_n 1, 1) := by decide +kernel
theorem d_Mo_twoPoint_266 : decode M_Mo_twoPoint.2.1 266 = .ok (.i2l, 1) := by decide +kernel
theorem d_Mo_twoPoint_267 : decode M_Mo_twoPoint.2.1 267 = .ok (.iload_n 2, 1) := by decide +kernel
theorem d_Mo_twoPoint_268 : decode M_Mo_twoPoint.2.1 268 = .ok (.i2l, 1) := by decide +kernel
theorem d_Mo_twoPoint_269 : decode M_Mo_twoPoint.2.1 269 = .ok (.iload_n 3, 1) := by decide +kernel
theorem d_Mo_twoPoint_270 : decode M_Mo_twoPoint.2.1 270 = .ok (.i2l, 1) := by decide +kernel
theorem d_Mo_twoPoint_271 : decode M_Mo_twoPoint.2.1 271 = .ok (.iload 4, 2) := by decide +kernel
theorem d_Mo_twoPoint_273 : decode M_Mo_twoPoint.2.1 273 = .ok (.i2l, 1) := by decide +kernel
theorem d_Mo_twoPoint_274 : decode M_Mo_twoPoint.2.1 274 = .ok (.invokevirtual 269, 3) := by decide +kernel
theorem d_Mo_twoPoint_277 : decode M_Mo_twoPoint.2.1 277 = .ok (.lload 5, 2) := by decide +kernel
theorem d_Mo_twoPoint_279 : decode M_Mo_twoPoint.2.1 279 = .ok (.lmul, 1) := by decide +kernel
theorem d_Mo_twoPoint_280 : decode M_Mo_twoPoint.2.1 280 = .ok (.lastore, 1) := by decide +kernel
theorem d_Mo_twoPoint_281 : decode M_Mo_twoPoint.2.1 281 = .ok (.iinc 8 1, 3) := by decide +kernel
theorem d_Mo_twoPoint_284 : decode M_Mo_twoPoint.2.1 284 = .ok (.goto (-72), 3) := by decide +kernel
theorem d_Mo_twoPoint_287 : decode M_Mo_twoPoint.2.1 287 = .ok (.iconst 1, 1) := by decide +kernel
theorem d_Mo_twoPoint_288 : decode M_Mo_twoPoint.2.1 288 = .ok (.ireturn, 1) := by decide +kernel
def tpOM (tk a c b d : Int) (K1 K2 : Nat → Int) (n : Nat) : Prop := tpP tk a c b d ∧ ∀ i, i < n → 0 ≤ mp tk a c b d (K1 i) ∧ mp tk a c b d (K2 i) * tk ≤ 2540160000000 ∧ mp tk a c b d (K1 i) < mp tk a c b d (K2 i)
theorem tpOK_OM {tk a c b d : Int} {K1 K2 : Nat → Int} {n : Nat} (h : 0 < tk) : tpOM tk a c b d K1 K2 n ↔ tpOK tk a c b d K1 K2 n := by
  constructor
  · rintro ⟨p, q⟩
    refine ⟨p, fun i hi => ?_⟩
    obtain ⟨q1, q2, q3⟩ := q i hi
    exact ⟨Int.mul_nonneg q1 (by omega), q2, Int.mul_lt_mul_of_pos_right q3 h⟩
  · rintro ⟨p, q⟩
    refine ⟨p, fun i hi => ?_⟩
    obtain ⟨q1, q2, q3⟩ := q i hi
    exact ⟨Int.le_of_mul_le_mul_right (by omega) h, q2, Int.lt_of_mul_lt_mul_right q3 (by omega)⟩
theorem timeF_0 {t a : Int} (ht : 0 < t) (h : timeZ (a * t) = 0) : ¬ inF t a := by
  have := timeZ_0 h
  intro q
  have := Int.mul_nonneg q.1 (show 0 ≤ t by omega)
  have := q.2
  omega
theorem timeF_1 {t a : Int} (ht : 0 < t) (h : timeZ (a * t) ≠ 0) : inF t a := by
  have := timeZ_1 h
  exact ⟨Int.le_of_mul_le_mul_right (by omega) ht, this.2⟩
theorem mp_r {tk a c b d t : Int} (hR : (a < b ∧ tpR tk a c b d) ∨ (b < a ∧ tpR tk b d a c)) (ht : 0 ≤ t ∧ t ≤ 2540160000000) : (-1300000000000000000 ≤ mp tk a c b d t * tk ∧ mp tk a c b d t * tk ≤ 1300000000000000000) ∧ -1300000000000000000 ≤ mp tk a c b d t ∧ mp tk a c b d t ≤ 1300000000000000000 := by
  rcases hR with ⟨o, r⟩ | ⟨o, r⟩
  · rw [mp_of o]; exact map_r r ht
  · rw [mp_sw (by omega)]; exact map_r r ht
theorem tp_le2 {tk a c b d : Int} (hR : (a < b ∧ tpR tk a c b d) ∨ (b < a ∧ tpR tk b d a c)) : (0 ≤ a ∧ a ≤ 216000) ∧ (0 ≤ c ∧ c ≤ 216000) ∧ (0 ≤ b ∧ b ≤ 216000) ∧ (0 ≤ d ∧ d ≤ 216000) := by
  rcases hR with ⟨o, r⟩ | ⟨o, r⟩
  · exact tp_le r
  · have := tp_le r; omega
set_option maxHeartbeats 4000000 in
set_option maxRecDepth 100000 in
theorem c_Mo_mapped (G : GT) (h : HM) (σ : Nat → Value) (m : Nat) (num den tk t a c b d : Int) (hm : h m = some (.inr (11, fsN 34 σ))) (f2 : σ 2 = .int (iZ num)) (f3 : σ 3 = .int (iZ den)) (hnum : 1 ≤ num ∧ num ≤ 120000) (hden : 1 ≤ den ∧ den ≤ 1001) (htk : tk = 705600000 * den / num) (hR : (a < b ∧ tpR tk a c b d) ∨ (b < a ∧ tpR tk b d a c)) (ht : 0 ≤ t ∧ t ≤ 2540160000000) : Rn G M_Mo_mapped (rm 1 30) [.ref m, .long (lZ t), .long (lZ a), .long (lZ c), .long (lZ b), .long (lZ d)] h (Pu (.long (lZ (mp tk a c b d t))) h) := by
  refine rn_of (by decide) (Nat.le_of_ble_eq_true rfl) ?_
  show Ev G M_Mo_mapped _ _ 0 [(0, .ref m), (1, .long (lZ t)), (3, .long (lZ a)), (5, .long (lZ c)), (7, .long (lZ b)), (9, .long (lZ d))] [] _ 0 0
  have ll := tp_le2 hR
  refine ev_aload_n d_Mo_mapped_0 rfl rfl ?_
  refine ev_pV M_Mo_frame 0 0 (As := []) (c_Mo_frame G h σ m num den hm f2 f3 hnum hden) d_Mo_mapped_1 mk_Mo_frame ml_Mo_134 mv_Mo_frame hm rfl rfl rfl (Nat.le_of_ble_eq_true rfl) ⟨by decide, by decide⟩ ⟨by decide, by decide⟩ ?_
  rw [← htk]
  refine ev_lstore (L' := [(0, .ref m), (1, .long (lZ t)), (3, .long (lZ a)), (5, .long (lZ c)), (7, .long (lZ b)), (9, .long (lZ d)), (11, .long (lZ tk))]) d_Mo_mapped_4 (by decide) rfl ?_
  refine ev_lload d_Mo_mapped_6 rfl ?_
  refine ev_lload_n d_Mo_mapped_8 rfl rfl ?_
  refine ev_lcmp d_Mo_mapped_9 ?_
  refine ez_lif_le (tgt := 17) (by omega) (by omega) d_Mo_mapped_10 rfl (fun c10 => ?_) (fun c10 => ?_)
  · refine ev_ldc2 (v := lZ (-1)) d_Mo_mapped_17 kc_Mo_220 ?_
    refine ev_lstore (L' := [(0, .ref m), (1, .long (lZ t)), (3, .long (lZ a)), (5, .long (lZ c)), (7, .long (lZ b)), (9, .long (lZ d)), (11, .long (lZ tk)), (13, .long (lZ (-1)))]) d_Mo_mapped_20 (by decide) rfl ?_
    refine ev_lload d_Mo_mapped_22 rfl ?_
    refine ev_lload d_Mo_mapped_24 rfl ?_
    refine ev_lload d_Mo_mapped_26 rfl ?_
    refine ez_lmul d_Mo_mapped_28 ?_
    refine ev_lload d_Mo_mapped_29 rfl ?_
    refine ev_lload_n d_Mo_mapped_31 rfl rfl ?_
    refine ez_lsub d_Mo_mapped_32 ?_
    refine ez_lmul d_Mo_mapped_33 ?_
    refine ev_lload_n d_Mo_mapped_34 rfl rfl ?_
    refine ev_lload_n d_Mo_mapped_35 rfl rfl ?_
    refine ev_lload d_Mo_mapped_36 rfl ?_
    refine ez_lmul d_Mo_mapped_38 ?_
    refine ez_lsub d_Mo_mapped_39 ?_
    refine ev_lload d_Mo_mapped_40 rfl ?_
    refine ev_lload d_Mo_mapped_42 rfl ?_
    refine ez_lsub d_Mo_mapped_44 ?_
    refine ez_lmul d_Mo_mapped_45 ?_
    refine ez_ladd d_Mo_mapped_46 ?_
    refine ez_lmul d_Mo_mapped_47 ?_
    rw [show ((-1) * (((c * tk) * (b - a)) + ((t - (a * tk)) * (d - c))) : Int) = d * tk * (a - b) + (t - b * tk) * (c - d) from by grind]
    refine ev_lload d_Mo_mapped_48 rfl ?_
    refine ev_lload d_Mo_mapped_50 rfl ?_
    refine ez_lmul d_Mo_mapped_52 ?_
    refine ev_lload d_Mo_mapped_53 rfl ?_
    refine ev_lload_n d_Mo_mapped_55 rfl rfl ?_
    refine ez_lsub d_Mo_mapped_56 ?_
    refine ez_lmul d_Mo_mapped_57 ?_
    rw [show (((-1) * tk) * (b - a) : Int) = tk * (a - b) from by grind]
    have hr : tpR tk b d a c := by rcases hR with ⟨_, q⟩ | ⟨_, q⟩; omega; exact q
    have t1 := tp_top hr ht
    have t2 := tp_bot hr
    refine ev_pS M_Mo_nearest 0 0 (As := [.long (lZ (d * tk * (a - b) + (t - b * tk) * (c - d))), .long (lZ (tk * (a - b)))]) (c_Mo_nearest G h _ _ (by omega) (by omega)) d_Mo_mapped_58 mk_Mo_nearest ml_Mo_189 ms_Mo_nearest rfl rfl (Nat.le_of_ble_eq_true rfl) ⟨by decide, by decide⟩ ⟨by decide, by decide⟩ ?_
    exact ev_lreturn d_Mo_mapped_61 rfl (by decide) (by decide) (⟨by rw [mp_sw (by omega)]; rfl, rfl⟩)
  · refine ev_lconst (v := lZ 1) d_Mo_mapped_13 rfl ?_
    refine ev_goto (tgt := 20) d_Mo_mapped_14 rfl ?_
    refine ev_lstore (L' := [(0, .ref m), (1, .long (lZ t)), (3, .long (lZ a)), (5, .long (lZ c)), (7, .long (lZ b)), (9, .long (lZ d)), (11, .long (lZ tk)), (13, .long (lZ 1))]) d_Mo_mapped_20 (by decide) rfl ?_
    refine ev_lload d_Mo_mapped_22 rfl ?_
    refine ev_lload d_Mo_mapped_24 rfl ?_
    refine ev_lload d_Mo_mapped_26 rfl ?_
    refine ez_lmul d_Mo_mapped_28 ?_
    refine ev_lload d_Mo_mapped_29 rfl ?_
    refine ev_lload_n d_Mo_mapped_31 rfl rfl ?_
    refine ez_lsub d_Mo_mapped_32 ?_
    refine ez_lmul d_Mo_mapped_33 ?_
    refine ev_lload_n d_Mo_mapped_34 rfl rfl ?_
    refine ev_lload_n d_Mo_mapped_35 rfl rfl ?_
    refine ev_lload d_Mo_mapped_36 rfl ?_
    refine ez_lmul d_Mo_mapped_38 ?_
    refine ez_lsub d_Mo_mapped_39 ?_
    refine ev_lload d_Mo_mapped_40 rfl ?_
    refine ev_lload d_Mo_mapped_42 rfl ?_
    refine ez_lsub d_Mo_mapped_44 ?_
    refine ez_lmul d_Mo_mapped_45 ?_
    refine ez_ladd d_Mo_mapped_46 ?_
    refine ez_lmul d_Mo_mapped_47 ?_
    rw [show (1 * (((c * tk) * (b - a)) + ((t - (a * tk)) * (d - c))) : Int) = c * tk * (b - a) + (t - a * tk) * (d - c) from by grind]
    refine ev_lload d_Mo_mapped_48 rfl ?_
    refine ev_lload d_Mo_mapped_50 rfl ?_
    refine ez_lmul d_Mo_mapped_52 ?_
    refine ev_lload d_Mo_mapped_53 rfl ?_
    refine ev_lload_n d_Mo_mapped_55 rfl rfl ?_
    refine ez_lsub d_Mo_mapped_56 ?_
    refine ez_lmul d_Mo_mapped_57 ?_
    rw [show ((1 * tk) * (b - a) : Int) = tk * (b - a) from by grind]
    have hr : tpR tk a c b d := by rcases hR with ⟨_, q⟩ | ⟨_, q⟩; exact q; omega
    have t1 := tp_top hr ht
    have t2 := tp_bot hr
    refine ev_pS M_Mo_nearest 0 0 (As := [.long (lZ (c * tk * (b - a) + (t - a * tk) * (d - c))), .long (lZ (tk * (b - a)))]) (c_Mo_nearest G h _ _ (by omega) (by omega)) d_Mo_mapped_58 mk_Mo_nearest ml_Mo_189 ms_Mo_nearest rfl rfl (Nat.le_of_ble_eq_true rfl) ⟨by decide, by decide⟩ ⟨by decide, by decide⟩ ?_
    exact ev_lreturn d_Mo_mapped_61 rfl (by decide) (by decide) (⟨by rw [mp_of (by omega)]; rfl, rfl⟩)
set_option maxHeartbeats 4000000 in
set_option maxRecDepth 100000 in
theorem lp_Mo_tp1 (G : GT) (Q : Option Value → HM → Prop) (h : HM) (σ : Nat → Value) (m s1 s2 n : Nat) (S1 S2 : Nat → Int) (num den tk va vc vb vd : Int) (hm : h m = some (.inr (11, fsN 34 σ))) (f2 : σ 2 = .int (iZ num)) (f3 : σ 3 = .int (iZ den)) (f4 : σ 4 = .int (iZ (n : Int))) (f5 : σ 5 = .ref s1) (f6 : σ 6 = .ref s2) (hs1 : h s1 = some (.inl (G_j G, 16, .inr (.inl (lA S1))))) (hs2 : h s2 = some (.inl (G_j G, 16, .inr (.inl (lA S2))))) (hnum : 1 ≤ num ∧ num ≤ 120000) (hden : 1 ≤ den ∧ den ≤ 1001) (htk : tk = 705600000 * den / num) (htr : 11760000 ≤ tk ∧ tk ≤ 705600000) (hva : iR va) (hvc : iR vc) (hvb : iR vb) (hvd : iR vd) (hT : ∀ k, 0 ≤ S1 k ∧ S1 k ≤ 2540160000000) (hE : ∀ k, 0 ≤ S2 k ∧ S2 k ≤ 2540160000000) (hn : n ≤ 16) (k0_ : ∀ i : Nat, ¬ tpOM tk va vc vb vd S1 S2 n → Ev G M_Mo_twoPoint (rm 2 90) Q 198 [(0, .ref m), (1, .int (iZ va)), (2, .int (iZ vc)), (3, .int (iZ vb)), (4, .int (iZ vd)), (5, .long (lZ tk)), (7, .int (iZ 0)), (8, .int (iZ (i : Int)))] [] h 0 0) (kk : ∀ i : Nat, tpOM tk va vc vb vd S1 S2 n → Ev G M_Mo_twoPoint (rm 2 90) Q 198 [(0, .ref m), (1, .int (iZ va)), (2, .int (iZ vc)), (3, .int (iZ vb)), (4, .int (iZ vd)), (5, .long (lZ tk)), (7, .int (iZ 1)), (8, .int (iZ (i : Int)))] [] h 0 0) : ∀ (d : Nat) (i : Nat) (g : Int), i + d = n → ((g = 1 ∧ tpP tk va vc vb vd ∧ ∀ j, j < i → 0 ≤ mp tk va vc vb vd (S1 j) ∧ mp tk va vc vb vd (S2 j) * tk ≤ 2540160000000 ∧ mp tk va vc vb vd (S1 j) < mp tk va vc vb vd (S2 j)) ∨ (g = 0 ∧ ¬ tpOM tk va vc vb vd S1 S2 n)) → Ev G M_Mo_twoPoint (rm 2 90) (Q) 100 [(0, .ref m), (1, .int (iZ va)), (2, .int (iZ vc)), (3, .int (iZ vb)), (4, .int (iZ vd)), (5, .long (lZ tk)), (7, .int (iZ g)), (8, .int (iZ (i : Int)))] [] h 0 0 := by
  intro d
  induction d using Nat.strongRecOn with
  | ind d ih =>
  intro i g hd hg
  have rb : g = 0 ∨ g = 1 := by rcases hg with q | q; exact Or.inr q.1; exact Or.inl q.1
  refine ev_iload d_Mo_twoPoint_100 rfl ?_
  refine ev_aload_n d_Mo_twoPoint_102 rfl rfl ?_
  refine ev_getF d_Mo_twoPoint_103 fl_Mo_92 hm (by decide) f4 ?_
  refine ez_icmp_ge (tgt := 198) (by omega) (by omega) d_Mo_twoPoint_106 rfl (fun c106 => ?_) (fun c106 => ?_)
  · rcases hg with ⟨rfl, h1, h2⟩ | ⟨rfl, h1⟩
    · exact kk i ⟨h1, fun j hj => h2 j (by omega)⟩
    · exact k0_ i h1
  · refine ev_iload d_Mo_twoPoint_109 rfl ?_
    refine ez_if_eq (tgt := 198) (by omega) d_Mo_twoPoint_111 rfl (fun c111 => ?_) (fun c111 => ?_)
    · rcases hg with ⟨rfl, h1, h2⟩ | ⟨rfl, h1⟩
      · exact kk i ⟨h1, fun j hj => h2 j (by omega)⟩
      · exact k0_ i h1
    · have hp : tpP tk va vc vb vd := by rcases hg with q | q; exact q.2.1; omega
      have hR := tp_R htr hp
      have ll := tp_le2 hR
      refine ev_aload_n d_Mo_twoPoint_114 rfl rfl ?_
      refine ev_aload_n d_Mo_twoPoint_115 rfl rfl ?_
      refine ev_getF d_Mo_twoPoint_116 fl_Mo_20 hm (by decide) f5 ?_
      refine ev_iload d_Mo_twoPoint_119 rfl ?_
      refine ez_laload i d_Mo_twoPoint_121 hs1 (by omega) (by omega) (by decide) ?_
      refine ev_iload_n d_Mo_twoPoint_122 rfl rfl ?_
      refine ez_i2l (by omega) d_Mo_twoPoint_123 ?_
      refine ev_iload_n d_Mo_twoPoint_124 rfl rfl ?_
      refine ez_i2l (by omega) d_Mo_twoPoint_125 ?_
      refine ev_iload_n d_Mo_twoPoint_126 rfl rfl ?_
      refine ez_i2l (by omega) d_Mo_twoPoint_127 ?_
      refine ev_iload d_Mo_twoPoint_128 rfl ?_
      refine ez_i2l (by omega) d_Mo_twoPoint_130 ?_
      have ht131 : 0 ≤ S1 i ∧ S1 i ≤ 2540160000000 := hT i
      have rt131 := mp_r hR ht131
      refine ev_pV M_Mo_mapped 1 30 (As := [.long (lZ (S1 i)), .long (lZ va), .long (lZ vc), .long (lZ vb), .long (lZ vd)]) (c_Mo_mapped G h σ m num den tk (S1 i) va vc vb vd hm f2 f3 hnum hden htk hR ht131) d_Mo_twoPoint_131 mk_Mo_mapped ml_Mo_269 mv_Mo_mapped hm rfl rfl rfl (Nat.le_of_ble_eq_true rfl) ⟨by decide, by decide⟩ ⟨by decide, by decide⟩ ?_
      refine ev_lstore (L' := [(0, .ref m), (1, .int (iZ va)), (2, .int (iZ vc)), (3, .int (iZ vb)), (4, .int (iZ vd)), (5, .long (lZ tk)), (7, .int (iZ g)), (8, .int (iZ (i : Int))), (9, .long (lZ (mp tk va vc vb vd (S1 i))))]) d_Mo_twoPoint_134 (by decide) rfl ?_
      refine ev_aload_n d_Mo_twoPoint_136 rfl rfl ?_
      refine ev_aload_n d_Mo_twoPoint_137 rfl rfl ?_
      refine ev_getF d_Mo_twoPoint_138 fl_Mo_24 hm (by decide) f6 ?_
      refine ev_iload d_Mo_twoPoint_141 rfl ?_
      refine ez_laload i d_Mo_twoPoint_143 hs2 (by omega) (by omega) (by decide) ?_
      refine ev_iload_n d_Mo_twoPoint_144 rfl rfl ?_
      refine ez_i2l (by omega) d_Mo_twoPoint_145 ?_
      refine ev_iload_n d_Mo_twoPoint_146 rfl rfl ?_
      refine ez_i2l (by omega) d_Mo_twoPoint_147 ?_
      refine ev_iload_n d_Mo_twoPoint_148 rfl rfl ?_
      refine ez_i2l (by omega) d_Mo_twoPoint_149 ?_
      refine ev_iload d_Mo_twoPoint_150 rfl ?_
      refine ez_i2l (by omega) d_Mo_twoPoint_152 ?_
      have ht153 : 0 ≤ S2 i ∧ S2 i ≤ 2540160000000 := hE i
      have rt153 := mp_r hR ht153
      refine ev_pV M_Mo_mapped 1 30 (As := [.long (lZ (S2 i)), .long (lZ va), .long (lZ vc), .long (lZ vb), .long (lZ vd)]) (c_Mo_mapped G h σ m num den tk (S2 i) va vc vb vd hm f2 f3 hnum hden htk hR ht153) d_Mo_twoPoint_153 mk_Mo_mapped ml_Mo_269 mv_Mo_mapped hm rfl rfl rfl (Nat.le_of_ble_eq_true rfl) ⟨by decide, by decide⟩ ⟨by decide, by decide⟩ ?_
      refine ev_lstore (L' := [(0, .ref m), (1, .int (iZ va)), (2, .int (iZ vc)), (3, .int (iZ vb)), (4, .int (iZ vd)), (5, .long (lZ tk)), (7, .int (iZ g)), (8, .int (iZ (i : Int))), (9, .long (lZ (mp tk va vc vb vd (S1 i)))), (11, .long (lZ (mp tk va vc vb vd (S2 i))))]) d_Mo_twoPoint_156 (by decide) rfl ?_
      refine ev_lload d_Mo_twoPoint_158 rfl ?_
      refine ev_lconst (v := lZ 0) d_Mo_twoPoint_160 rfl ?_
      refine ev_lcmp d_Mo_twoPoint_161 ?_
      refine ez_lif_lt (tgt := 189) (by omega) (by decide) d_Mo_twoPoint_162 rfl (fun c162 => ?_) (fun c162 => ?_)
      · refine ev_iconst (v := iZ 0) d_Mo_twoPoint_189 rfl ?_
        refine ev_istore (L' := [(0, .ref m), (1, .int (iZ va)), (2, .int (iZ vc)), (3, .int (iZ vb)), (4, .int (iZ vd)), (5, .long (lZ tk)), (7, .int (iZ 0)), (8, .int (iZ (i : Int))), (9, .long (lZ (mp tk va vc vb vd (S1 i)))), (11, .long (lZ (mp tk va vc vb vd (S2 i))))]) d_Mo_twoPoint_190 (by decide) rfl ?_
        refine ez_iinc (L' := [(0, .ref m), (1, .int (iZ va)), (2, .int (iZ vc)), (3, .int (iZ vb)), (4, .int (iZ vd)), (5, .long (lZ tk)), (7, .int (iZ 0)), (8, .int (iZ ((i + 1 : Nat) : Int))), (9, .long (lZ (mp tk va vc vb vd (S1 i)))), (11, .long (lZ (mp tk va vc vb vd (S2 i))))]) d_Mo_twoPoint_192 rfl (by decide) rfl ?_
        refine ev_goto (tgt := 100) d_Mo_twoPoint_195 rfl ?_
        refine ev_loc [(0, .ref m), (1, .int (iZ va)), (2, .int (iZ vc)), (3, .int (iZ vb)), (4, .int (iZ vd)), (5, .long (lZ tk)), (7, .int (iZ 0)), (8, .int (iZ ((i + 1 : Nat) : Int)))] (by simp) ?_
        exact ih (d - 1) (by omega) (i + 1) 0 (by omega) (Or.inr ⟨rfl, fun q => absurd (q.2 i (by omega)) (by omega)⟩)
      · refine ev_lload d_Mo_twoPoint_165 rfl ?_
        refine ev_lload d_Mo_twoPoint_167 rfl ?_
        refine ez_lmul d_Mo_twoPoint_169 ?_
        refine ev_ldc2 (v := lZ 2540160000000) d_Mo_twoPoint_170 kc_Mo_171 ?_
        refine ev_lcmp d_Mo_twoPoint_173 ?_
        refine ez_lif_gt (tgt := 189) (by omega) (by decide) d_Mo_twoPoint_174 rfl (fun c174 => ?_) (fun c174 => ?_)
        · refine ev_iconst (v := iZ 0) d_Mo_twoPoint_189 rfl ?_
          refine ev_istore (L' := [(0, .ref m), (1, .int (iZ va)), (2, .int (iZ vc)), (3, .int (iZ vb)), (4, .int (iZ vd)), (5, .long (lZ tk)), (7, .int (iZ 0)), (8, .int (iZ (i : Int))), (9, .long (lZ (mp tk va vc vb vd (S1 i)))), (11, .long (lZ (mp tk va vc vb vd (S2 i))))]) d_Mo_twoPoint_190 (by decide) rfl ?_
          refine ez_iinc (L' := [(0, .ref m), (1, .int (iZ va)), (2, .int (iZ vc)), (3, .int (iZ vb)), (4, .int (iZ vd)), (5, .long (lZ tk)), (7, .int (iZ 0)), (8, .int (iZ ((i + 1 : Nat) : Int))), (9, .long (lZ (mp tk va vc vb vd (S1 i)))), (11, .long (lZ (mp tk va vc vb vd (S2 i))))]) d_Mo_twoPoint_192 rfl (by decide) rfl ?_
          refine ev_goto (tgt := 100) d_Mo_twoPoint_195 rfl ?_
          refine ev_loc [(0, .ref m), (1, .int (iZ va)), (2, .int (iZ vc)), (3, .int (iZ vb)), (4, .int (iZ vd)), (5, .long (lZ tk)), (7, .int (iZ 0)), (8, .int (iZ ((i + 1 : Nat) : Int)))] (by simp) ?_
          exact ih (d - 1) (by omega) (i + 1) 0 (by omega) (Or.inr ⟨rfl, fun q => absurd (q.2 i (by omega)) (by omega)⟩)
        · refine ev_lload d_Mo_twoPoint_177 rfl ?_
          refine ev_lload d_Mo_twoPoint_179 rfl ?_
          refine ev_lcmp d_Mo_twoPoint_181 ?_
          refine ez_lif_ge (tgt := 189) (by omega) (by omega) d_Mo_twoPoint_182 rfl (fun c182 => ?_) (fun c182 => ?_)
          · refine ev_iconst (v := iZ 0) d_Mo_twoPoint_189 rfl ?_
            refine ev_istore (L' := [(0, .ref m), (1, .int (iZ va)), (2, .int (iZ vc)), (3, .int (iZ vb)), (4, .int (iZ vd)), (5, .long (lZ tk)), (7, .int (iZ 0)), (8, .int (iZ (i : Int))), (9, .long (lZ (mp tk va vc vb vd (S1 i)))), (11, .long (lZ (mp tk va vc vb vd (S2 i))))]) d_Mo_twoPoint_190 (by decide) rfl ?_
            refine ez_iinc (L' := [(0, .ref m), (1, .int (iZ va)), (2, .int (iZ vc)), (3, .int (iZ vb)), (4, .int (iZ vd)), (5, .long (lZ tk)), (7, .int (iZ 0)), (8, .int (iZ ((i + 1 : Nat) : Int))), (9, .long (lZ (mp tk va vc vb vd (S1 i)))), (11, .long (lZ (mp tk va vc vb vd (S2 i))))]) d_Mo_twoPoint_192 rfl (by decide) rfl ?_
            refine ev_goto (tgt := 100) d_Mo_twoPoint_195 rfl ?_
            refine ev_loc [(0, .ref m), (1, .int (iZ va)), (2, .int (iZ vc)), (3, .int (iZ vb)), (4, .int (iZ vd)), (5, .long (lZ tk)), (7, .int (iZ 0)), (8, .int (iZ ((i + 1 : Nat) : Int)))] (by simp) ?_
            exact ih (d - 1) (by omega) (i + 1) 0 (by omega) (Or.inr ⟨rfl, fun q => absurd (q.2 i (by omega)) (by omega)⟩)
          · refine ev_iconst (v := iZ 1) d_Mo_twoPoint_185 rfl ?_
            refine ev_goto (tgt := 190) d_Mo_twoPoint_186 rfl ?_
            refine ev_istore (L' := [(0, .ref m), (1, .int (iZ va)), (2, .int (iZ vc)), (3, .int (iZ vb)), (4, .int (iZ vd)), (5, .long (lZ tk)), (7, .int (iZ 1)), (8, .int (iZ (i : Int))), (9, .long (lZ (mp tk va vc vb vd (S1 i)))), (11, .long (lZ (mp tk va vc vb vd (S2 i))))]) d_Mo_twoPoint_190 (by decide) rfl ?_
            refine ez_iinc (L' := [(0, .ref m), (1, .int (iZ va)), (2, .int (iZ vc)), (3, .int (iZ vb)), (4, .int (iZ vd)), (5, .long (lZ tk)), (7, .int (iZ 1)), (8, .int (iZ ((i + 1 : Nat) : Int))), (9, .long (lZ (mp tk va vc vb vd (S1 i)))), (11, .long (lZ (mp tk va vc vb vd (S2 i))))]) d_Mo_twoPoint_192 rfl (by decide) rfl ?_
            refine ev_goto (tgt := 100) d_Mo_twoPoint_195 rfl ?_
            refine ev_loc [(0, .ref m), (1, .int (iZ va)), (2, .int (iZ vc)), (3, .int (iZ vb)), (4, .int (iZ vd)), (5, .long (lZ tk)), (7, .int (iZ 1)), (8, .int (iZ ((i + 1 : Nat) : Int)))] (by simp) ?_
            exact ih (d - 1) (by omega) (i + 1) 1 (by omega) (Or.inl ⟨rfl, hp, fun j hj => by rcases Nat.lt_succ_iff_lt_or_eq.mp hj with q | rfl; (rcases hg with w | w; exact w.2.2 j q; omega); exact ⟨by omega, by omega, by omega⟩⟩)
set_option maxHeartbeats 4000000 in
set_option maxRecDepth 100000 in
theorem lp_Mo_tp2 (G : GT) (Q : Option Value → HM → Prop) (h0 : HM) (σ : Nat → Value) (m s1 s2 n : Nat) (S1 S2 : Nat → Int) (num den tk va vc vb vd : Int) (f2 : σ 2 = .int (iZ num)) (f3 : σ 3 = .int (iZ den)) (f4 : σ 4 = .int (iZ (n : Int))) (f5 : σ 5 = .ref s1) (f6 : σ 6 = .ref s2) (hnum : 1 ≤ num ∧ num ≤ 120000) (hden : 1 ≤ den ∧ den ≤ 1001) (htk : tk = 705600000 * den / num) (htr : 11760000 ≤ tk ∧ tk ≤ 705600000) (hva : iR va) (hvc : iR vc) (hvb : iR vb) (hvd : iR vd) (hp : tpP tk va vc vb vd) (n_s : s1 ≠ s2) (hT : ∀ k, 0 ≤ S1 k ∧ S1 k ≤ 2540160000000) (hE : ∀ k, 0 ≤ S2 k ∧ S2 k ≤ 2540160000000) (hn : n ≤ 16) (kk : ∀ h, h m = some (.inr (11, fsN 34 σ)) → h s1 = some (.inl (G_j G, 16, .inr (.inl (lA (fU (fun t => mp tk va vc vb vd t * tk) S1 n))))) → h s2 = some (.inl (G_j G, 16, .inr (.inl (lA (fU (fun t => mp tk va vc vb vd t * tk) S2 n))))) → Fm [s1, s2] h0 h → Ev G M_Mo_twoPoint (rm 2 90) Q 287 [(0, .ref m), (1, .int (iZ va)), (2, .int (iZ vc)), (3, .int (iZ vb)), (4, .int (iZ vd)), (5, .long (lZ tk)), (7, .int (iZ 1)), (8, .int (iZ (n : Int)))] [] h 0 0) : ∀ (d : Nat) (i : Nat) (h : HM), i + d = n → h m = some (.inr (11, fsN 34 σ)) → h s1 = some (.inl (G_j G, 16, .inr (.inl (lA (fU (fun t => mp tk va vc vb vd t * tk) S1 i))))) → h s2 = some (.inl (G_j G, 16, .inr (.inl (lA (fU (fun t => mp tk va vc vb vd t * tk) S2 i))))) → Fm [s1, s2] h0 h → Ev G M_Mo_twoPoint (rm 2 90) (Q) 212 [(0, .ref m), (1, .int (iZ va)), (2, .int (iZ vc)), (3, .int (iZ vb)), (4, .int (iZ vd)), (5, .long (lZ tk)), (7, .int (iZ 1)), (8, .int (iZ (i : Int)))] [] h 0 0 := by
  intro d
  induction d using Nat.strongRecOn with
  | ind d ih =>
  intro i h hd hm hs1 hs2 fm
  have hR := tp_R htr hp
  have ll := tp_le2 hR
  refine ev_iload d_Mo_twoPoint_212 rfl ?_
  refine ev_aload_n d_Mo_twoPoint_214 rfl rfl ?_
  refine ev_getF d_Mo_twoPoint_215 fl_Mo_92 hm (by decide) f4 ?_
  refine ez_icmp_ge (tgt := 287) (by omega) (by omega) d_Mo_twoPoint_218 rfl (fun c218 => ?_) (fun c218 => ?_)
  · obtain rfl : i = n := by omega
    exact kk h hm hs1 hs2 fm
  · refine ev_aload_n d_Mo_twoPoint_221 rfl rfl ?_
    refine ev_getF d_Mo_twoPoint_222 fl_Mo_20 hm (by decide) f5 ?_
    refine ev_iload d_Mo_twoPoint_225 rfl ?_
    refine ev_aload_n d_Mo_twoPoint_227 rfl rfl ?_
    refine ev_aload_n d_Mo_twoPoint_228 rfl rfl ?_
    refine ev_getF d_Mo_twoPoint_229 fl_Mo_20 hm (by decide) f5 ?_
    refine ev_iload d_Mo_twoPoint_232 rfl ?_
    refine ez_laload i d_Mo_twoPoint_234 hs1 (by omega) (by omega) (by decide) ?_
    refine ev_iload_n d_Mo_twoPoint_235 rfl rfl ?_
    refine ez_i2l (by omega) d_Mo_twoPoint_236 ?_
    refine ev_iload_n d_Mo_twoPoint_237 rfl rfl ?_
    refine ez_i2l (by omega) d_Mo_twoPoint_238 ?_
    refine ev_iload_n d_Mo_twoPoint_239 rfl rfl ?_
    refine ez_i2l (by omega) d_Mo_twoPoint_240 ?_
    refine ev_iload d_Mo_twoPoint_241 rfl ?_
    refine ez_i2l (by omega) d_Mo_twoPoint_243 ?_
    have ht244 : 0 ≤ (fU (fun t => mp tk va vc vb vd t * tk) S1 i) i ∧ (fU (fun t => mp tk va vc vb vd t * tk) S1 i) i ≤ 2540160000000 := by rw [fU_i]; exact hT i
    have rt244 := mp_r hR ht244
    refine ev_pV M_Mo_mapped 1 30 (As := [.long (lZ ((fU (fun t => mp tk va vc vb vd t * tk) S1 i) i)), .long (lZ va), .long (lZ vc), .long (lZ vb), .long (lZ vd)]) (c_Mo_mapped G h σ m num den tk ((fU (fun t => mp tk va vc vb vd t * tk) S1 i) i) va vc vb vd hm f2 f3 hnum hden htk hR ht244) d_Mo_twoPoint_244 mk_Mo_mapped ml_Mo_269 mv_Mo_mapped hm rfl rfl rfl (Nat.le_of_ble_eq_true rfl) ⟨by decide, by decide⟩ ⟨by decide, by decide⟩ ?_
    refine ev_lload d_Mo_twoPoint_247 rfl ?_
    refine ez_lmul d_Mo_twoPoint_249 ?_
    refine ez_lastore (F' := zup (fU (fun t => mp tk va vc vb vd t * tk) S1 i) i ((mp tk va vc vb vd ((fU (fun t => mp tk va vc vb vd t * tk) S1 i) i)) * tk)) i d_Mo_twoPoint_250 hs1 (by omega) (by omega) (by decide) rfl (fun h1 h1a h1o => ?_)
    have hm := (h1o _ (cne hm hs1 (by simp))).trans hm
    have hs2 := (h1o _ (Ne.symm n_s)).trans hs2
    have hs1 := h1a
    have fm := fm.step (by simp) h1o
    refine ev_aload_n d_Mo_twoPoint_251 rfl rfl ?_
    refine ev_getF d_Mo_twoPoint_252 fl_Mo_24 hm (by decide) f6 ?_
    refine ev_iload d_Mo_twoPoint_255 rfl ?_
    refine ev_aload_n d_Mo_twoPoint_257 rfl rfl ?_
    refine ev_aload_n d_Mo_twoPoint_258 rfl rfl ?_
    refine ev_getF d_Mo_twoPoint_259 fl_Mo_24 hm (by decide) f6 ?_
    refine ev_iload d_Mo_twoPoint_262 rfl ?_
    refine ez_laload i d_Mo_twoPoint_264 hs2 (by omega) (by omega) (by decide) ?_
    refine ev_iload_n d_Mo_twoPoint_265 rfl rfl ?_
    refine ez_i2l (by omega) d_Mo_twoPoint_266 ?_
    refine ev_iload_n d_Mo_twoPoint_267 rfl rfl ?_
    refine ez_i2l (by omega) d_Mo_twoPoint_268 ?_
    refine ev_iload_n d_Mo_twoPoint_269 rfl rfl ?_
    refine ez_i2l (by omega) d_Mo_twoPoint_270 ?_
    refine ev_iload d_Mo_twoPoint_271 rfl ?_
    refine ez_i2l (by omega) d_Mo_twoPoint_273 ?_
    have ht274 : 0 ≤ (fU (fun t => mp tk va vc vb vd t * tk) S2 i) i ∧ (fU (fun t => mp tk va vc vb vd t * tk) S2 i) i ≤ 2540160000000 := by rw [fU_i]; exact hE i
    have rt274 := mp_r hR ht274
    refine ev_pV M_Mo_mapped 1 30 (As := [.long (lZ ((fU (fun t => mp tk va vc vb vd t * tk) S2 i) i)), .long (lZ va), .long (lZ vc), .long (lZ vb), .long (lZ vd)]) (c_Mo_mapped G h1 σ m num den tk ((fU (fun t => mp tk va vc vb vd t * tk) S2 i) i) va vc vb vd hm f2 f3 hnum hden htk hR ht274) d_Mo_twoPoint_274 mk_Mo_mapped ml_Mo_269 mv_Mo_mapped hm rfl rfl rfl (Nat.le_of_ble_eq_true rfl) ⟨by decide, by decide⟩ ⟨by decide, by decide⟩ ?_
    refine ev_lload d_Mo_twoPoint_277 rfl ?_
    refine ez_lmul d_Mo_twoPoint_279 ?_
    refine ez_lastore (F' := zup (fU (fun t => mp tk va vc vb vd t * tk) S2 i) i ((mp tk va vc vb vd ((fU (fun t => mp tk va vc vb vd t * tk) S2 i) i)) * tk)) i d_Mo_twoPoint_280 hs2 (by omega) (by omega) (by decide) rfl (fun h2 h2a h2o => ?_)
    have hm := (h2o _ (cne hm hs2 (by simp))).trans hm
    have hs1 := (h2o _ n_s).trans hs1
    have hs2 := h2a
    have fm := fm.step (by simp) h2o
    refine ez_iinc (L' := [(0, .ref m), (1, .int (iZ va)), (2, .int (iZ vc)), (3, .int (iZ vb)), (4, .int (iZ vd)), (5, .long (lZ tk)), (7, .int (iZ 1)), (8, .int (iZ ((i + 1 : Nat) : Int)))]) d_Mo_twoPoint_281 rfl (by decide) rfl ?_
    refine ev_goto (tgt := 212) d_Mo_twoPoint_284 rfl ?_
    exact ih (d - 1) (by omega) (i + 1) h2 (by omega) hm (by rw [← fU_s]; exact hs1) (by rw [← fU_s]; exact hs2) fm
set_option maxHeartbeats 4000000 in
set_option maxRecDepth 100000 in
theorem c_Mo_twoPoint (G : GT) (h : HM) (σ : Nat → Value) (m s1 s2 s3 s4 k0 k1 k2 k3 k4 : Nat) (n c bk : Nat) (S1 S2 S3 S4 K0 K1 K2 K3 K4 : Nat → Int) (num den tk va vc vb vd : Int) (hm : h m = some (.inr (11, fsN 34 σ))) (f4 : σ 4 = .int (iZ (n : Int))) (f5 : σ 5 = .ref s1) (f6 : σ 6 = .ref s2) (f7 : σ 7 = .ref s3) (f8 : σ 8 = .ref s4) (f9 : σ 9 = .int (iZ (c : Int))) (f10 : σ 10 = .int (iZ (bk : Int))) (f11 : σ 11 = .ref k0) (f12 : σ 12 = .ref k1) (f13 : σ 13 = .ref k2) (f14 : σ 14 = .ref k3) (f15 : σ 15 = .ref k4) (f2 : σ 2 = .int (iZ num)) (f3 : σ 3 = .int (iZ den)) (hs1 : h s1 = some (.inl (G_j G, 16, .inr (.inl (lA S1))))) (hs2 : h s2 = some (.inl (G_j G, 16, .inr (.inl (lA S2))))) (hs3 : h s3 = some (.inl (G_i G, 16, .inl (iA S3)))) (hs4 : h s4 = some (.inl (G_i G, 1024, .inl (iA S4)))) (hk0 : h k0 = some (.inl (G_i G, 10, .inl (iA K0)))) (hk1 : h k1 = some (.inl (G_j G, 160, .inr (.inl (lA K1))))) (hk2 : h k2 = some (.inl (G_j G, 160, .inr (.inl (lA K2))))) (hk3 : h k3 = some (.inl (G_i G, 160, .inl (iA K3)))) (hk4 : h k4 = some (.inl (G_i G, 10240, .inl (iA K4)))) (hnum : 1 ≤ num ∧ num ≤ 120000) (hden : 1 ≤ den ∧ den ≤ 1001) (htk : tk = 705600000 * den / num) (htr : 11760000 ≤ tk ∧ tk ≤ 705600000) (hva : iR va) (hvc : iR vc) (hvb : iR vb) (hvd : iR vd) (hT : ∀ k, 0 ≤ S1 k ∧ S1 k ≤ 2540160000000) (hE : ∀ k, 0 ≤ S2 k ∧ S2 k ≤ 2540160000000) (hn : n ≤ 16) (hc : c ≤ 1000) (hbk : bk ≤ 10) (n_s : s1 ≠ s2) (n_k : k1 ≠ k2) : Rn G M_Mo_twoPoint (rm 2 90) [.ref m, .int (iZ va), .int (iZ vc), .int (iZ vb), .int (iZ vd)] h (fun r h' => (¬ tpOM tk va vc vb vd S1 S2 n → r = some (.int (iZ 0)) ∧ h' = h) ∧ (tpOM tk va vc vb vd S1 S2 n → r = some (.int (iZ 1)) ∧ (∃ σ', h' m = some (.inr (11, fsN 34 σ')) ∧ σ' 9 = .int (iZ ((c : Int) + 1)) ∧ σ' 10 = .int (iZ ((min (bk + 1) 10 : Nat) : Int)) ∧ Fs [9, 10] σ σ') ∧ h' s1 = some (.inl (G_j G, 16, .inr (.inl (lA (fU (fun t => mp tk va vc vb vd t * tk) S1 n))))) ∧ h' s2 = some (.inl (G_j G, 16, .inr (.inl (lA (fU (fun t => mp tk va vc vb vd t * tk) S2 n))))) ∧ h' k0 = some (.inl (G_i G, 10, .inl (iA (zup K0 (c % 10) n)))) ∧ h' k1 = some (.inl (G_j G, 160, .inr (.inl (lA (va_cpy S1 K1 0 (16 * (c % 10)) 16))))) ∧ h' k2 = some (.inl (G_j G, 160, .inr (.inl (lA (va_cpy S2 K2 0 (16 * (c % 10)) 16))))) ∧ h' k3 = some (.inl (G_i G, 160, .inl (iA (va_cpy S3 K3 0 (16 * (c % 10)) 16)))) ∧ h' k4 = some (.inl (G_i G, 10240, .inl (iA (va_cpy S4 K4 0 (1024 * (c % 10)) 1024)))) ∧ Fm [m, s1, s2, k0, k1, k2, k3, k4] h h')) := by
  refine rn_of (by decide) (Nat.le_of_ble_eq_true rfl) ?_
  show Ev G M_Mo_twoPoint _ _ 0 [(0, .ref m), (1, .int (iZ va)), (2, .int (iZ vc)), (3, .int (iZ vb)), (4, .int (iZ vd))] [] _ 0 0
  have fm : Fm [m, s1, s2, k0, k1, k2, k3, k4] h h := Fm.rf
  have fs : Fs [9, 10] σ σ := Fs.rf
  refine ev_aload_n d_Mo_twoPoint_0 rfl rfl ?_
  refine ev_pV M_Mo_frame 0 0 (As := []) (c_Mo_frame G h σ m num den hm f2 f3 hnum hden) d_Mo_twoPoint_1 mk_Mo_frame ml_Mo_134 mv_Mo_frame hm rfl rfl rfl (Nat.le_of_ble_eq_true rfl) ⟨by decide, by decide⟩ ⟨by decide, by decide⟩ ?_
  rw [← htk]
  refine ev_lstore (L' := [(0, .ref m), (1, .int (iZ va)), (2, .int (iZ vc)), (3, .int (iZ vb)), (4, .int (iZ vd)), (5, .long (lZ tk))]) d_Mo_twoPoint_4 (by decide) rfl ?_
  refine ev_aload_n d_Mo_twoPoint_6 rfl rfl ?_
  refine ev_iload_n d_Mo_twoPoint_7 rfl rfl ?_
  refine ez_i2l (by omega) d_Mo_twoPoint_8 ?_
  refine ev_lload d_Mo_twoPoint_9 rfl ?_
  refine ez_lmul d_Mo_twoPoint_11 ?_
  have tr12 := timeZ_r (va * tk)
  refine ev_pV M_Mo_isTime 0 0 (As := [.long (lZ (va * tk))]) (c_Mo_isTime G h m (va * tk) (by have := frm_r (tk := tk) (a := va) (by omega) (by omega); omega)) d_Mo_twoPoint_12 mk_Mo_isTime ml_Mo_266 mv_Mo_isTime hm rfl rfl rfl (Nat.le_of_ble_eq_true rfl) ⟨by decide, by decide⟩ ⟨by decide, by decide⟩ ?_
  refine ez_if_eq (tgt := 94) (by omega) d_Mo_twoPoint_15 rfl (fun c15 => ?_) (fun c15 => ?_)
  · have z15 := timeF_0 (by omega) c15
    refine ev_iconst (v := iZ 0) d_Mo_twoPoint_94 rfl ?_
    refine ev_istore (L' := [(0, .ref m), (1, .int (iZ va)), (2, .int (iZ vc)), (3, .int (iZ vb)), (4, .int (iZ vd)), (5, .long (lZ tk)), (7, .int (iZ 0))]) d_Mo_twoPoint_95 (by decide) rfl ?_
    refine ev_iconst (v := iZ 0) d_Mo_twoPoint_97 rfl ?_
    refine ev_istore (L' := [(0, .ref m), (1, .int (iZ va)), (2, .int (iZ vc)), (3, .int (iZ vb)), (4, .int (iZ vd)), (5, .long (lZ tk)), (7, .int (iZ 0)), (8, .int (iZ 0))]) d_Mo_twoPoint_98 (by decide) rfl ?_
    refine lp_Mo_tp1 G _ h σ m s1 s2 n S1 S2 num den tk va vc vb vd hm f2 f3 f4 f5 f6 hs1 hs2 hnum hden htk htr hva hvc hvb hvd hT hE hn (fun i hno => ?_) (fun i hok => ?_) n 0 0 (by omega) (Or.inr ⟨rfl, fun q => absurd q.1 (fun q => by obtain ⟨q1, q2, q3, q4, q5, q6, q7⟩ := q; first | exact absurd q1 (by assumption) | exact absurd q2 (by assumption) | exact absurd q3 (by assumption) | exact absurd q4 (by assumption) | omega)⟩)
    ·
      refine ev_iload d_Mo_twoPoint_198 rfl ?_
      refine ez_if_ne (tgt := 205) (by decide) d_Mo_twoPoint_200 rfl (fun c200 => absurd c200 (by omega)) (fun c200 => ?_)
      refine ev_iconst (v := iZ 0) d_Mo_twoPoint_203 rfl ?_
      exact ev_zreturn d_Mo_twoPoint_204 rfl (Or.inl rfl) (by decide) (by decide) (⟨fun _ => ⟨rfl, rfl⟩, fun q => absurd q hno⟩)
    ·
      refine ev_iload d_Mo_twoPoint_198 rfl ?_
      refine ez_if_ne (tgt := 205) (by decide) d_Mo_twoPoint_200 rfl (fun c200 => ?_) (fun c200 => absurd c200 (by omega))
      refine ev_aload_n d_Mo_twoPoint_205 rfl rfl ?_
      refine ev_callV M_Mo_keep (rm 0 0) _ (As := []) (c_Mo_keep G h σ m s1 s2 s3 s4 k0 k1 k2 k3 k4 n c bk S1 S2 S3 S4 K0 K1 K2 K3 K4 hm f4 f5 f6 f7 f8 f9 f10 f11 f12 f13 f14 f15 hs1 hs2 hs3 hs4 hk0 hk1 hk2 hk3 hk4 hc hbk n_s n_k) d_Mo_twoPoint_206 mk_Mo_keep ml_Mo_176 mv_Mo_keep hm rfl rfl rfl (Nat.le_of_ble_eq_true rfl) ⟨by decide, by decide⟩ ⟨by decide, by decide⟩ (fun r h8 hq => ?_)
      obtain ⟨rfl, ⟨σ9, gm, g9, g10, gs⟩, gk0, gk1, gk2, gk3, gk4, fmk⟩ := hq
      have hs1 := (fmk _ (ninc (cne hs1 hm (by simp)) (ninc (cne hs1 hk0 (by simp)) (ninc (cne hs1 hk1 (by simp)) (ninc (cne hs1 hk2 (by simp)) (ninc (cne hs1 hk3 (by simp)) (ninc (cne hs1 hk4 (by simp)) nin0))))))).trans hs1
      have hs2 := (fmk _ (ninc (cne hs2 hm (by simp)) (ninc (cne hs2 hk0 (by simp)) (ninc (cne hs2 hk1 (by simp)) (ninc (cne hs2 hk2 (by simp)) (ninc (cne hs2 hk3 (by simp)) (ninc (cne hs2 hk4 (by simp)) nin0))))))).trans hs2
      have hs3 := (fmk _ (ninc (cne hs3 hm (by simp)) (ninc (cne hs3 hk0 (by simp)) (ninc (cne hs3 hk1 (by simp)) (ninc (cne hs3 hk2 (by simp)) (ninc (cne hs3 hk3 (by simp)) (ninc (cne hs3 hk4 (by simp)) nin0))))))).trans hs3
      have hs4 := (fmk _ (ninc (cne hs4 hm (by simp)) (ninc (cne hs4 hk0 (by simp)) (ninc (cne hs4 hk1 (by simp)) (ninc (cne hs4 hk2 (by simp)) (ninc (cne hs4 hk3 (by simp)) (ninc (cne hs4 hk4 (by simp)) nin0))))))).trans hs4
      have hm := gm
      have hk0 := gk0
      have hk1 := gk1
      have hk2 := gk2
      have hk3 := gk3
      have hk4 := gk4
      have f4 := (gs 4 (by decide)).trans f4
      have f5 := (gs 5 (by decide)).trans f5
      have f6 := (gs 6 (by decide)).trans f6
      have f7 := (gs 7 (by decide)).trans f7
      have f8 := (gs 8 (by decide)).trans f8
      have f11 := (gs 11 (by decide)).trans f11
      have f12 := (gs 12 (by decide)).trans f12
      have f13 := (gs 13 (by decide)).trans f13
      have f14 := (gs 14 (by decide)).trans f14
      have f15 := (gs 15 (by decide)).trans f15
      have f2 := (gs 2 (by decide)).trans f2
      have f3 := (gs 3 (by decide)).trans f3
      have f9 := g9
      have f10 := g10
      have fm := fm.call (by simp) fmk
      have fs := fs.call (by simp) gs
      refine ev_iconst (v := iZ 0) d_Mo_twoPoint_209 rfl ?_
      refine ev_istore (L' := [(0, .ref m), (1, .int (iZ va)), (2, .int (iZ vc)), (3, .int (iZ vb)), (4, .int (iZ vd)), (5, .long (lZ tk)), (7, .int (iZ 1)), (8, .int (iZ 0))]) d_Mo_twoPoint_210 (by decide) rfl ?_
      refine lp_Mo_tp2 G _ h8 σ9 m s1 s2 n S1 S2 num den tk va vc vb vd f2 f3 f4 f5 f6 hnum hden htk htr hva hvc hvb hvd hok.1 n_s hT hE hn ?_ n 0 h8 (by omega) hm (by rw [fU_0]; exact hs1) (by rw [fU_0]; exact hs2) Fm.rf
      intro h9 jm js1 js2 fm2
      have hk09 := (fm2 _ (ninc (cne hk0 hs1 (by simp)) (ninc (cne hk0 hs2 (by simp)) nin0))).trans hk0
      have hk19 := (fm2 _ (ninc (cne hk1 hs1 (by simp)) (ninc (cne hk1 hs2 (by simp)) nin0))).trans hk1
      have hk29 := (fm2 _ (ninc (cne hk2 hs1 (by simp)) (ninc (cne hk2 hs2 (by simp)) nin0))).trans hk2
      have hk39 := (fm2 _ (ninc (cne hk3 hs1 (by simp)) (ninc (cne hk3 hs2 (by simp)) nin0))).trans hk3
      have hk49 := (fm2 _ (ninc (cne hk4 hs1 (by simp)) (ninc (cne hk4 hs2 (by simp)) nin0))).trans hk4
      have fm := fm.call (by simp) fm2
      refine ev_iconst (v := iZ 1) d_Mo_twoPoint_287 rfl ?_
      exact ev_zreturn d_Mo_twoPoint_288 rfl (Or.inr rfl) (by decide) (by decide) ⟨fun q => absurd hok q, fun _ => ⟨rfl, ⟨σ9, jm, f9, f10, fs⟩, js1, js2, hk09, hk19, hk29, hk39, hk49, fm⟩⟩
  · have z15 := timeF_1 (by omega) c15
    refine ev_aload_n d_Mo_twoPoint_18 rfl rfl ?_
    refine ev_iload_n d_Mo_twoPoint_19 rfl rfl ?_
    refine ez_i2l (by omega) d_Mo_twoPoint_20 ?_
    refine ev_lload d_Mo_twoPoint_21 rfl ?_
    refine ez_lmul d_Mo_twoPoint_23 ?_
    have tr24 := timeZ_r (vc * tk)
    refine ev_pV M_Mo_isTime 0 0 (As := [.long (lZ (vc * tk))]) (c_Mo_isTime G h m (vc * tk) (by have := frm_r (tk := tk) (a := vc) (by omega) (by omega); omega)) d_Mo_twoPoint_24 mk_Mo_isTime ml_Mo_266 mv_Mo_isTime hm rfl rfl rfl (Nat.le_of_ble_eq_true rfl) ⟨by decide, by decide⟩ ⟨by decide, by decide⟩ ?_
    refine ez_if_eq (tgt := 94) (by omega) d_Mo_twoPoint_27 rfl (fun c27 => ?_) (fun c27 => ?_)
    · have z27 := timeF_0 (by omega) c27
      refine ev_iconst (v := iZ 0) d_Mo_twoPoint_94 rfl ?_
      refine ev_istore (L' := [(0, .ref m), (1, .int (iZ va)), (2, .int (iZ vc)), (3, .int (iZ vb)), (4, .int (iZ vd)), (5, .long (lZ tk)), (7, .int (iZ 0))]) d_Mo_twoPoint_95 (by decide) rfl ?_
      refine ev_iconst (v := iZ 0) d_Mo_twoPoint_97 rfl ?_
      refine ev_istore (L' := [(0, .ref m), (1, .int (iZ va)), (2, .int (iZ vc)), (3, .int (iZ vb)), (4, .int (iZ vd)), (5, .long (lZ tk)), (7, .int (iZ 0)), (8, .int (iZ 0))]) d_Mo_twoPoint_98 (by decide) rfl ?_
      refine lp_Mo_tp1 G _ h σ m s1 s2 n S1 S2 num den tk va vc vb vd hm f2 f3 f4 f5 f6 hs1 hs2 hnum hden htk htr hva hvc hvb hvd hT hE hn (fun i hno => ?_) (fun i hok => ?_) n 0 0 (by omega) (Or.inr ⟨rfl, fun q => absurd q.1 (fun q => by obtain ⟨q1, q2, q3, q4, q5, q6, q7⟩ := q; first | exact absurd q1 (by assumption) | exact absurd q2 (by assumption) | exact absurd q3 (by assumption) | exact absurd q4 (by assumption) | omega)⟩)
      ·
        refine ev_iload d_Mo_twoPoint_198 rfl ?_
        refine ez_if_ne (tgt := 205) (by decide) d_Mo_twoPoint_200 rfl (fun c200 => absurd c200 (by omega)) (fun c200 => ?_)
        refine ev_iconst (v := iZ 0) d_Mo_twoPoint_203 rfl ?_
        exact ev_zreturn d_Mo_twoPoint_204 rfl (Or.inl rfl) (by decide) (by decide) (⟨fun _ => ⟨rfl, rfl⟩, fun q => absurd q hno⟩)
      ·
        refine ev_iload d_Mo_twoPoint_198 rfl ?_
        refine ez_if_ne (tgt := 205) (by decide) d_Mo_twoPoint_200 rfl (fun c200 => ?_) (fun c200 => absurd c200 (by omega))
        refine ev_aload_n d_Mo_twoPoint_205 rfl rfl ?_
        refine ev_callV M_Mo_keep (rm 0 0) _ (As := []) (c_Mo_keep G h σ m s1 s2 s3 s4 k0 k1 k2 k3 k4 n c bk S1 S2 S3 S4 K0 K1 K2 K3 K4 hm f4 f5 f6 f7 f8 f9 f10 f11 f12 f13 f14 f15 hs1 hs2 hs3 hs4 hk0 hk1 hk2 hk3 hk4 hc hbk n_s n_k) d_Mo_twoPoint_206 mk_Mo_keep ml_Mo_176 mv_Mo_keep hm rfl rfl rfl (Nat.le_of_ble_eq_true rfl) ⟨by decide, by decide⟩ ⟨by decide, by decide⟩ (fun r h8 hq => ?_)
        obtain ⟨rfl, ⟨σ9, gm, g9, g10, gs⟩, gk0, gk1, gk2, gk3, gk4, fmk⟩ := hq
        have hs1 := (fmk _ (ninc (cne hs1 hm (by simp)) (ninc (cne hs1 hk0 (by simp)) (ninc (cne hs1 hk1 (by simp)) (ninc (cne hs1 hk2 (by simp)) (ninc (cne hs1 hk3 (by simp)) (ninc (cne hs1 hk4 (by simp)) nin0))))))).trans hs1
        have hs2 := (fmk _ (ninc (cne hs2 hm (by simp)) (ninc (cne hs2 hk0 (by simp)) (ninc (cne hs2 hk1 (by simp)) (ninc (cne hs2 hk2 (by simp)) (ninc (cne hs2 hk3 (by simp)) (ninc (cne hs2 hk4 (by simp)) nin0))))))).trans hs2
        have hs3 := (fmk _ (ninc (cne hs3 hm (by simp)) (ninc (cne hs3 hk0 (by simp)) (ninc (cne hs3 hk1 (by simp)) (ninc (cne hs3 hk2 (by simp)) (ninc (cne hs3 hk3 (by simp)) (ninc (cne hs3 hk4 (by simp)) nin0))))))).trans hs3
        have hs4 := (fmk _ (ninc (cne hs4 hm (by simp)) (ninc (cne hs4 hk0 (by simp)) (ninc (cne hs4 hk1 (by simp)) (ninc (cne hs4 hk2 (by simp)) (ninc (cne hs4 hk3 (by simp)) (ninc (cne hs4 hk4 (by simp)) nin0))))))).trans hs4
        have hm := gm
        have hk0 := gk0
        have hk1 := gk1
        have hk2 := gk2
        have hk3 := gk3
        have hk4 := gk4
        have f4 := (gs 4 (by decide)).trans f4
        have f5 := (gs 5 (by decide)).trans f5
        have f6 := (gs 6 (by decide)).trans f6
        have f7 := (gs 7 (by decide)).trans f7
        have f8 := (gs 8 (by decide)).trans f8
        have f11 := (gs 11 (by decide)).trans f11
        have f12 := (gs 12 (by decide)).trans f12
        have f13 := (gs 13 (by decide)).trans f13
        have f14 := (gs 14 (by decide)).trans f14
        have f15 := (gs 15 (by decide)).trans f15
        have f2 := (gs 2 (by decide)).trans f2
        have f3 := (gs 3 (by decide)).trans f3
        have f9 := g9
        have f10 := g10
        have fm := fm.call (by simp) fmk
        have fs := fs.call (by simp) gs
        refine ev_iconst (v := iZ 0) d_Mo_twoPoint_209 rfl ?_
        refine ev_istore (L' := [(0, .ref m), (1, .int (iZ va)), (2, .int (iZ vc)), (3, .int (iZ vb)), (4, .int (iZ vd)), (5, .long (lZ tk)), (7, .int (iZ 1)), (8, .int (iZ 0))]) d_Mo_twoPoint_210 (by decide) rfl ?_
        refine lp_Mo_tp2 G _ h8 σ9 m s1 s2 n S1 S2 num den tk va vc vb vd f2 f3 f4 f5 f6 hnum hden htk htr hva hvc hvb hvd hok.1 n_s hT hE hn ?_ n 0 h8 (by omega) hm (by rw [fU_0]; exact hs1) (by rw [fU_0]; exact hs2) Fm.rf
        intro h9 jm js1 js2 fm2
        have hk09 := (fm2 _ (ninc (cne hk0 hs1 (by simp)) (ninc (cne hk0 hs2 (by simp)) nin0))).trans hk0
        have hk19 := (fm2 _ (ninc (cne hk1 hs1 (by simp)) (ninc (cne hk1 hs2 (by simp)) nin0))).trans hk1
        have hk29 := (fm2 _ (ninc (cne hk2 hs1 (by simp)) (ninc (cne hk2 hs2 (by simp)) nin0))).trans hk2
        have hk39 := (fm2 _ (ninc (cne hk3 hs1 (by simp)) (ninc (cne hk3 hs2 (by simp)) nin0))).trans hk3
        have hk49 := (fm2 _ (ninc (cne hk4 hs1 (by simp)) (ninc (cne hk4 hs2 (by simp)) nin0))).trans hk4
        have fm := fm.call (by simp) fm2
        refine ev_iconst (v := iZ 1) d_Mo_twoPoint_287 rfl ?_
        exact ev_zreturn d_Mo_twoPoint_288 rfl (Or.inr rfl) (by decide) (by decide) ⟨fun q => absurd hok q, fun _ => ⟨rfl, ⟨σ9, jm, f9, f10, fs⟩, js1, js2, hk09, hk19, hk29, hk39, hk49, fm⟩⟩
    · have z27 := timeF_1 (by omega) c27
      refine ev_aload_n d_Mo_twoPoint_30 rfl rfl ?_
      refine ev_iload_n d_Mo_twoPoint_31 rfl rfl ?_
      refine ez_i2l (by omega) d_Mo_twoPoint_32 ?_
      refine ev_lload d_Mo_twoPoint_33 rfl ?_
      refine ez_lmul d_Mo_twoPoint_35 ?_
      have tr36 := timeZ_r (vb * tk)
      refine ev_pV M_Mo_isTime 0 0 (As := [.long (lZ (vb * tk))]) (c_Mo_isTime G h m (vb * tk) (by have := frm_r (tk := tk) (a := vb) (by omega) (by omega); omega)) d_Mo_twoPoint_36 mk_Mo_isTime ml_Mo_266 mv_Mo_isTime hm rfl rfl rfl (Nat.le_of_ble_eq_true rfl) ⟨by decide, by decide⟩ ⟨by decide, by decide⟩ ?_
      refine ez_if_eq (tgt := 94) (by omega) d_Mo_twoPoint_39 rfl (fun c39 => ?_) (fun c39 => ?_)
      · have z39 := timeF_0 (by omega) c39
        refine ev_iconst (v := iZ 0) d_Mo_twoPoint_94 rfl ?_
        refine ev_istore (L' := [(0, .ref m), (1, .int (iZ va)), (2, .int (iZ vc)), (3, .int (iZ vb)), (4, .int (iZ vd)), (5, .long (lZ tk)), (7, .int (iZ 0))]) d_Mo_twoPoint_95 (by decide) rfl ?_
        refine ev_iconst (v := iZ 0) d_Mo_twoPoint_97 rfl ?_
        refine ev_istore (L' := [(0, .ref m), (1, .int (iZ va)), (2, .int (iZ vc)), (3, .int (iZ vb)), (4, .int (iZ vd)), (5, .long (lZ tk)), (7, .int (iZ 0)), (8, .int (iZ 0))]) d_Mo_twoPoint_98 (by decide) rfl ?_
        refine lp_Mo_tp1 G _ h σ m s1 s2 n S1 S2 num den tk va vc vb vd hm f2 f3 f4 f5 f6 hs1 hs2 hnum hden htk htr hva hvc hvb hvd hT hE hn (fun i hno => ?_) (fun i hok => ?_) n 0 0 (by omega) (Or.inr ⟨rfl, fun q => absurd q.1 (fun q => by obtain ⟨q1, q2, q3, q4, q5, q6, q7⟩ := q; first | exact absurd q1 (by assumption) | exact absurd q2 (by assumption) | exact absurd q3 (by assumption) | exact absurd q4 (by assumption) | omega)⟩)
        ·
          refine ev_iload d_Mo_twoPoint_198 rfl ?_
          refine ez_if_ne (tgt := 205) (by decide) d_Mo_twoPoint_200 rfl (fun c200 => absurd c200 (by omega)) (fun c200 => ?_)
          refine ev_iconst (v := iZ 0) d_Mo_twoPoint_203 rfl ?_
          exact ev_zreturn d_Mo_twoPoint_204 rfl (Or.inl rfl) (by decide) (by decide) (⟨fun _ => ⟨rfl, rfl⟩, fun q => absurd q hno⟩)
        ·
          refine ev_iload d_Mo_twoPoint_198 rfl ?_
          refine ez_if_ne (tgt := 205) (by decide) d_Mo_twoPoint_200 rfl (fun c200 => ?_) (fun c200 => absurd c200 (by omega))
          refine ev_aload_n d_Mo_twoPoint_205 rfl rfl ?_
          refine ev_callV M_Mo_keep (rm 0 0) _ (As := []) (c_Mo_keep G h σ m s1 s2 s3 s4 k0 k1 k2 k3 k4 n c bk S1 S2 S3 S4 K0 K1 K2 K3 K4 hm f4 f5 f6 f7 f8 f9 f10 f11 f12 f13 f14 f15 hs1 hs2 hs3 hs4 hk0 hk1 hk2 hk3 hk4 hc hbk n_s n_k) d_Mo_twoPoint_206 mk_Mo_keep ml_Mo_176 mv_Mo_keep hm rfl rfl rfl (Nat.le_of_ble_eq_true rfl) ⟨by decide, by decide⟩ ⟨by decide, by decide⟩ (fun r h8 hq => ?_)
          obtain ⟨rfl, ⟨σ9, gm, g9, g10, gs⟩, gk0, gk1, gk2, gk3, gk4, fmk⟩ := hq
          have hs1 := (fmk _ (ninc (cne hs1 hm (by simp)) (ninc (cne hs1 hk0 (by simp)) (ninc (cne hs1 hk1 (by simp)) (ninc (cne hs1 hk2 (by simp)) (ninc (cne hs1 hk3 (by simp)) (ninc (cne hs1 hk4 (by simp)) nin0))))))).trans hs1
          have hs2 := (fmk _ (ninc (cne hs2 hm (by simp)) (ninc (cne hs2 hk0 (by simp)) (ninc (cne hs2 hk1 (by simp)) (ninc (cne hs2 hk2 (by simp)) (ninc (cne hs2 hk3 (by simp)) (ninc (cne hs2 hk4 (by simp)) nin0))))))).trans hs2
          have hs3 := (fmk _ (ninc (cne hs3 hm (by simp)) (ninc (cne hs3 hk0 (by simp)) (ninc (cne hs3 hk1 (by simp)) (ninc (cne hs3 hk2 (by simp)) (ninc (cne hs3 hk3 (by simp)) (ninc (cne hs3 hk4 (by simp)) nin0))))))).trans hs3
          have hs4 := (fmk _ (ninc (cne hs4 hm (by simp)) (ninc (cne hs4 hk0 (by simp)) (ninc (cne hs4 hk1 (by simp)) (ninc (cne hs4 hk2 (by simp)) (ninc (cne hs4 hk3 (by simp)) (ninc (cne hs4 hk4 (by simp)) nin0))))))).trans hs4
          have hm := gm
          have hk0 := gk0
          have hk1 := gk1
          have hk2 := gk2
          have hk3 := gk3
          have hk4 := gk4
          have f4 := (gs 4 (by decide)).trans f4
          have f5 := (gs 5 (by decide)).trans f5
          have f6 := (gs 6 (by decide)).trans f6
          have f7 := (gs 7 (by decide)).trans f7
          have f8 := (gs 8 (by decide)).trans f8
          have f11 := (gs 11 (by decide)).trans f11
          have f12 := (gs 12 (by decide)).trans f12
          have f13 := (gs 13 (by decide)).trans f13
          have f14 := (gs 14 (by decide)).trans f14
          have f15 := (gs 15 (by decide)).trans f15
          have f2 := (gs 2 (by decide)).trans f2
          have f3 := (gs 3 (by decide)).trans f3
          have f9 := g9
          have f10 := g10
          have fm := fm.call (by simp) fmk
          have fs := fs.call (by simp) gs
          refine ev_iconst (v := iZ 0) d_Mo_twoPoint_209 rfl ?_
          refine ev_istore (L' := [(0, .ref m), (1, .int (iZ va)), (2, .int (iZ vc)), (3, .int (iZ vb)), (4, .int (iZ vd)), (5, .long (lZ tk)), (7, .int (iZ 1)), (8, .int (iZ 0))]) d_Mo_twoPoint_210 (by decide) rfl ?_
          refine lp_Mo_tp2 G _ h8 σ9 m s1 s2 n S1 S2 num den tk va vc vb vd f2 f3 f4 f5 f6 hnum hden htk htr hva hvc hvb hvd hok.1 n_s hT hE hn ?_ n 0 h8 (by omega) hm (by rw [fU_0]; exact hs1) (by rw [fU_0]; exact hs2) Fm.rf
          intro h9 jm js1 js2 fm2
          have hk09 := (fm2 _ (ninc (cne hk0 hs1 (by simp)) (ninc (cne hk0 hs2 (by simp)) nin0))).trans hk0
          have hk19 := (fm2 _ (ninc (cne hk1 hs1 (by simp)) (ninc (cne hk1 hs2 (by simp)) nin0))).trans hk1
          have hk29 := (fm2 _ (ninc (cne hk2 hs1 (by simp)) (ninc (cne hk2 hs2 (by simp)) nin0))).trans hk2
          have hk39 := (fm2 _ (ninc (cne hk3 hs1 (by simp)) (ninc (cne hk3 hs2 (by simp)) nin0))).trans hk3
          have hk49 := (fm2 _ (ninc (cne hk4 hs1 (by simp)) (ninc (cne hk4 hs2 (by simp)) nin0))).trans hk4
          have fm := fm.call (by simp) fm2
          refine ev_iconst (v := iZ 1) d_Mo_twoPoint_287 rfl ?_
          exact ev_zreturn d_Mo_twoPoint_288 rfl (Or.inr rfl) (by decide) (by decide) ⟨fun q => absurd hok q, fun _ => ⟨rfl, ⟨σ9, jm, f9, f10, fs⟩, js1, js2, hk09, hk19, hk29, hk39, hk49, fm⟩⟩
      · have z39 := timeF_1 (by omega) c39
        refine ev_aload_n d_Mo_twoPoint_42 rfl rfl ?_
        refine ev_iload d_Mo_twoPoint_43 rfl ?_
        refine ez_i2l (by omega) d_Mo_twoPoint_45 ?_
        refine ev_lload d_Mo_twoPoint_46 rfl ?_
        refine ez_lmul d_Mo_twoPoint_48 ?_
        have tr49 := timeZ_r (vd * tk)
        refine ev_pV M_Mo_isTime 0 0 (As := [.long (lZ (vd * tk))]) (c_Mo_isTime G h m (vd * tk) (by have := frm_r (tk := tk) (a := vd) (by omega) (by omega); omega)) d_Mo_twoPoint_49 mk_Mo_isTime ml_Mo_266 mv_Mo_isTime hm rfl rfl rfl (Nat.le_of_ble_eq_true rfl) ⟨by decide, by decide⟩ ⟨by decide, by decide⟩ ?_
        refine ez_if_eq (tgt := 94) (by omega) d_Mo_twoPoint_52 rfl (fun c52 => ?_) (fun c52 => ?_)
        · have z52 := timeF_0 (by omega) c52
          refine ev_iconst (v := iZ 0) d_Mo_twoPoint_94 rfl ?_
          refine ev_istore (L' := [(0, .ref m), (1, .int (iZ va)), (2, .int (iZ vc)), (3, .int (iZ vb)), (4, .int (iZ vd)), (5, .long (lZ tk)), (7, .int (iZ 0))]) d_Mo_twoPoint_95 (by decide) rfl ?_
          refine ev_iconst (v := iZ 0) d_Mo_twoPoint_97 rfl ?_
          refine ev_istore (L' := [(0, .ref m), (1, .int (iZ va)), (2, .int (iZ vc)), (3, .int (iZ vb)), (4, .int (iZ vd)), (5, .long (lZ tk)), (7, .int (iZ 0)), (8, .int (iZ 0))]) d_Mo_twoPoint_98 (by decide) rfl ?_
          refine lp_Mo_tp1 G _ h σ m s1 s2 n S1 S2 num den tk va vc vb vd hm f2 f3 f4 f5 f6 hs1 hs2 hnum hden htk htr hva hvc hvb hvd hT hE hn (fun i hno => ?_) (fun i hok => ?_) n 0 0 (by omega) (Or.inr ⟨rfl, fun q => absurd q.1 (fun q => by obtain ⟨q1, q2, q3, q4, q5, q6, q7⟩ := q; first | exact absurd q1 (by assumption) | exact absurd q2 (by assumption) | exact absurd q3 (by assumption) | exact absurd q4 (by assumption) | omega)⟩)
          ·
            refine ev_iload d_Mo_twoPoint_198 rfl ?_
            refine ez_if_ne (tgt := 205) (by decide) d_Mo_twoPoint_200 rfl (fun c200 => absurd c200 (by omega)) (fun c200 => ?_)
            refine ev_iconst (v := iZ 0) d_Mo_twoPoint_203 rfl ?_
            exact ev_zreturn d_Mo_twoPoint_204 rfl (Or.inl rfl) (by decide) (by decide) (⟨fun _ => ⟨rfl, rfl⟩, fun q => absurd q hno⟩)
          ·
            refine ev_iload d_Mo_twoPoint_198 rfl ?_
            refine ez_if_ne (tgt := 205) (by decide) d_Mo_twoPoint_200 rfl (fun c200 => ?_) (fun c200 => absurd c200 (by omega))
            refine ev_aload_n d_Mo_twoPoint_205 rfl rfl ?_
            refine ev_callV M_Mo_keep (rm 0 0) _ (As := []) (c_Mo_keep G h σ m s1 s2 s3 s4 k0 k1 k2 k3 k4 n c bk S1 S2 S3 S4 K0 K1 K2 K3 K4 hm f4 f5 f6 f7 f8 f9 f10 f11 f12 f13 f14 f15 hs1 hs2 hs3 hs4 hk0 hk1 hk2 hk3 hk4 hc hbk n_s n_k) d_Mo_twoPoint_206 mk_Mo_keep ml_Mo_176 mv_Mo_keep hm rfl rfl rfl (Nat.le_of_ble_eq_true rfl) ⟨by decide, by decide⟩ ⟨by decide, by decide⟩ (fun r h8 hq => ?_)
            obtain ⟨rfl, ⟨σ9, gm, g9, g10, gs⟩, gk0, gk1, gk2, gk3, gk4, fmk⟩ := hq
            have hs1 := (fmk _ (ninc (cne hs1 hm (by simp)) (ninc (cne hs1 hk0 (by simp)) (ninc (cne hs1 hk1 (by simp)) (ninc (cne hs1 hk2 (by simp)) (ninc (cne hs1 hk3 (by simp)) (ninc (cne hs1 hk4 (by simp)) nin0))))))).trans hs1
            have hs2 := (fmk _ (ninc (cne hs2 hm (by simp)) (ninc (cne hs2 hk0 (by simp)) (ninc (cne hs2 hk1 (by simp)) (ninc (cne hs2 hk2 (by simp)) (ninc (cne hs2 hk3 (by simp)) (ninc (cne hs2 hk4 (by simp)) nin0))))))).trans hs2
            have hs3 := (fmk _ (ninc (cne hs3 hm (by simp)) (ninc (cne hs3 hk0 (by simp)) (ninc (cne hs3 hk1 (by simp)) (ninc (cne hs3 hk2 (by simp)) (ninc (cne hs3 hk3 (by simp)) (ninc (cne hs3 hk4 (by simp)) nin0))))))).trans hs3
            have hs4 := (fmk _ (ninc (cne hs4 hm (by simp)) (ninc (cne hs4 hk0 (by simp)) (ninc (cne hs4 hk1 (by simp)) (ninc (cne hs4 hk2 (by simp)) (ninc (cne hs4 hk3 (by simp)) (ninc (cne hs4 hk4 (by simp)) nin0))))))).trans hs4
            have hm := gm
            have hk0 := gk0
            have hk1 := gk1
            have hk2 := gk2
            have hk3 := gk3
            have hk4 := gk4
            have f4 := (gs 4 (by decide)).trans f4
            have f5 := (gs 5 (by decide)).trans f5
            have f6 := (gs 6 (by decide)).trans f6
            have f7 := (gs 7 (by decide)).trans f7
            have f8 := (gs 8 (by decide)).trans f8
            have f11 := (gs 11 (by decide)).trans f11
            have f12 := (gs 12 (by decide)).trans f12
            have f13 := (gs 13 (by decide)).trans f13
            have f14 := (gs 14 (by decide)).trans f14
            have f15 := (gs 15 (by decide)).trans f15
            have f2 := (gs 2 (by decide)).trans f2
            have f3 := (gs 3 (by decide)).trans f3
            have f9 := g9
            have f10 := g10
            have fm := fm.call (by simp) fmk
            have fs := fs.call (by simp) gs
            refine ev_iconst (v := iZ 0) d_Mo_twoPoint_209 rfl ?_
            refine ev_istore (L' := [(0, .ref m), (1, .int (iZ va)), (2, .int (iZ vc)), (3, .int (iZ vb)), (4, .int (iZ vd)), (5, .long (lZ tk)), (7, .int (iZ 1)), (8, .int (iZ 0))]) d_Mo_twoPoint_210 (by decide) rfl ?_
            refine lp_Mo_tp2 G _ h8 σ9 m s1 s2 n S1 S2 num den tk va vc vb vd f2 f3 f4 f5 f6 hnum hden htk htr hva hvc hvb hvd hok.1 n_s hT hE hn ?_ n 0 h8 (by omega) hm (by rw [fU_0]; exact hs1) (by rw [fU_0]; exact hs2) Fm.rf
            intro h9 jm js1 js2 fm2
            have hk09 := (fm2 _ (ninc (cne hk0 hs1 (by simp)) (ninc (cne hk0 hs2 (by simp)) nin0))).trans hk0
            have hk19 := (fm2 _ (ninc (cne hk1 hs1 (by simp)) (ninc (cne hk1 hs2 (by simp)) nin0))).trans hk1
            have hk29 := (fm2 _ (ninc (cne hk2 hs1 (by simp)) (ninc (cne hk2 hs2 (by simp)) nin0))).trans hk2
            have hk39 := (fm2 _ (ninc (cne hk3 hs1 (by simp)) (ninc (cne hk3 hs2 (by simp)) nin0))).trans hk3
            have hk49 := (fm2 _ (ninc (cne hk4 hs1 (by simp)) (ninc (cne hk4 hs2 (by simp)) nin0))).trans hk4
            have fm := fm.call (by simp) fm2
            refine ev_iconst (v := iZ 1) d_Mo_twoPoint_287 rfl ?_
            exact ev_zreturn d_Mo_twoPoint_288 rfl (Or.inr rfl) (by decide) (by decide) ⟨fun q => absurd hok q, fun _ => ⟨rfl, ⟨σ9, jm, f9, f10, fs⟩, js1, js2, hk09, hk19, hk29, hk39, hk49, fm⟩⟩
        · have z52 := timeF_1 (by omega) c52
          refine ev_iload_n d_Mo_twoPoint_55 rfl rfl ?_
          refine ev_iload_n d_Mo_twoPoint_56 rfl rfl ?_
          refine ez_icmp_eq (tgt := 94) (by omega) (by omega) d_Mo_twoPoint_57 rfl (fun c57 => ?_) (fun c57 => ?_)
          · refine ev_iconst (v := iZ 0) d_Mo_twoPoint_94 rfl ?_
            refine ev_istore (L' := [(0, .ref m), (1, .int (iZ va)), (2, .int (iZ vc)), (3, .int (iZ vb)), (4, .int (iZ vd)), (5, .long (lZ tk)), (7, .int (iZ 0))]) d_Mo_twoPoint_95 (by decide) rfl ?_
            refine ev_iconst (v := iZ 0) d_Mo_twoPoint_97 rfl ?_
            refine ev_istore (L' := [(0, .ref m), (1, .int (iZ va)), (2, .int (iZ vc)), (3, .int (iZ vb)), (4, .int (iZ vd)), (5, .long (lZ tk)), (7, .int (iZ 0)), (8, .int (iZ 0))]) d_Mo_twoPoint_98 (by decide) rfl ?_
            refine lp_Mo_tp1 G _ h σ m s1 s2 n S1 S2 num den tk va vc vb vd hm f2 f3 f4 f5 f6 hs1 hs2 hnum hden htk htr hva hvc hvb hvd hT hE hn (fun i hno => ?_) (fun i hok => ?_) n 0 0 (by omega) (Or.inr ⟨rfl, fun q => absurd q.1 (fun q => by obtain ⟨q1, q2, q3, q4, q5, q6, q7⟩ := q; first | exact absurd q1 (by assumption) | exact absurd q2 (by assumption) | exact absurd q3 (by assumption) | exact absurd q4 (by assumption) | omega)⟩)
            ·
              refine ev_iload d_Mo_twoPoint_198 rfl ?_
              refine ez_if_ne (tgt := 205) (by decide) d_Mo_twoPoint_200 rfl (fun c200 => absurd c200 (by omega)) (fun c200 => ?_)
              refine ev_iconst (v := iZ 0) d_Mo_twoPoint_203 rfl ?_
              exact ev_zreturn d_Mo_twoPoint_204 rfl (Or.inl rfl) (by decide) (by decide) (⟨fun _ => ⟨rfl, rfl⟩, fun q => absurd q hno⟩)
            ·
              refine ev_iload d_Mo_twoPoint_198 rfl ?_
              refine ez_if_ne (tgt := 205) (by decide) d_Mo_twoPoint_200 rfl (fun c200 => ?_) (fun c200 => absurd c200 (by omega))
              refine ev_aload_n d_Mo_twoPoint_205 rfl rfl ?_
              refine ev_callV M_Mo_keep (rm 0 0) _ (As := []) (c_Mo_keep G h σ m s1 s2 s3 s4 k0 k1 k2 k3 k4 n c bk S1 S2 S3 S4 K0 K1 K2 K3 K4 hm f4 f5 f6 f7 f8 f9 f10 f11 f12 f13 f14 f15 hs1 hs2 hs3 hs4 hk0 hk1 hk2 hk3 hk4 hc hbk n_s n_k) d_Mo_twoPoint_206 mk_Mo_keep ml_Mo_176 mv_Mo_keep hm rfl rfl rfl (Nat.le_of_ble_eq_true rfl) ⟨by decide, by decide⟩ ⟨by decide, by decide⟩ (fun r h8 hq => ?_)
              obtain ⟨rfl, ⟨σ9, gm, g9, g10, gs⟩, gk0, gk1, gk2, gk3, gk4, fmk⟩ := hq
              have hs1 := (fmk _ (ninc (cne hs1 hm (by simp)) (ninc (cne hs1 hk0 (by simp)) (ninc (cne hs1 hk1 (by simp)) (ninc (cne hs1 hk2 (by simp)) (ninc (cne hs1 hk3 (by simp)) (ninc (cne hs1 hk4 (by simp)) nin0))))))).trans hs1
              have hs2 := (fmk _ (ninc (cne hs2 hm (by simp)) (ninc (cne hs2 hk0 (by simp)) (ninc (cne hs2 hk1 (by simp)) (ninc (cne hs2 hk2 (by simp)) (ninc (cne hs2 hk3 (by simp)) (ninc (cne hs2 hk4 (by simp)) nin0))))))).trans hs2
              have hs3 := (fmk _ (ninc (cne hs3 hm (by simp)) (ninc (cne hs3 hk0 (by simp)) (ninc (cne hs3 hk1 (by simp)) (ninc (cne hs3 hk2 (by simp)) (ninc (cne hs3 hk3 (by simp)) (ninc (cne hs3 hk4 (by simp)) nin0))))))).trans hs3
              have hs4 := (fmk _ (ninc (cne hs4 hm (by simp)) (ninc (cne hs4 hk0 (by simp)) (ninc (cne hs4 hk1 (by simp)) (ninc (cne hs4 hk2 (by simp)) (ninc (cne hs4 hk3 (by simp)) (ninc (cne hs4 hk4 (by simp)) nin0))))))).trans hs4
              have hm := gm
              have hk0 := gk0
              have hk1 := gk1
              have hk2 := gk2
              have hk3 := gk3
              have hk4 := gk4
              have f4 := (gs 4 (by decide)).trans f4
              have f5 := (gs 5 (by decide)).trans f5
              have f6 := (gs 6 (by decide)).trans f6
              have f7 := (gs 7 (by decide)).trans f7
              have f8 := (gs 8 (by decide)).trans f8
              have f11 := (gs 11 (by decide)).trans f11
              have f12 := (gs 12 (by decide)).trans f12
              have f13 := (gs 13 (by decide)).trans f13
              have f14 := (gs 14 (by decide)).trans f14
              have f15 := (gs 15 (by decide)).trans f15
              have f2 := (gs 2 (by decide)).trans f2
              have f3 := (gs 3 (by decide)).trans f3
              have f9 := g9
              have f10 := g10
              have fm := fm.call (by simp) fmk
              have fs := fs.call (by simp) gs
              refine ev_iconst (v := iZ 0) d_Mo_twoPoint_209 rfl ?_
              refine ev_istore (L' := [(0, .ref m), (1, .int (iZ va)), (2, .int (iZ vc)), (3, .int (iZ vb)), (4, .int (iZ vd)), (5, .long (lZ tk)), (7, .int (iZ 1)), (8, .int (iZ 0))]) d_Mo_twoPoint_210 (by decide) rfl ?_
              refine lp_Mo_tp2 G _ h8 σ9 m s1 s2 n S1 S2 num den tk va vc vb vd f2 f3 f4 f5 f6 hnum hden htk htr hva hvc hvb hvd hok.1 n_s hT hE hn ?_ n 0 h8 (by omega) hm (by rw [fU_0]; exact hs1) (by rw [fU_0]; exact hs2) Fm.rf
              intro h9 jm js1 js2 fm2
              have hk09 := (fm2 _ (ninc (cne hk0 hs1 (by simp)) (ninc (cne hk0 hs2 (by simp)) nin0))).trans hk0
              have hk19 := (fm2 _ (ninc (cne hk1 hs1 (by simp)) (ninc (cne hk1 hs2 (by simp)) nin0))).trans hk1
              have hk29 := (fm2 _ (ninc (cne hk2 hs1 (by simp)) (ninc (cne hk2 hs2 (by simp)) nin0))).trans hk2
              have hk39 := (fm2 _ (ninc (cne hk3 hs1 (by simp)) (ninc (cne hk3 hs2 (by simp)) nin0))).trans hk3
              have hk49 := (fm2 _ (ninc (cne hk4 hs1 (by simp)) (ninc (cne hk4 hs2 (by simp)) nin0))).trans hk4
              have fm := fm.call (by simp) fm2
              refine ev_iconst (v := iZ 1) d_Mo_twoPoint_287 rfl ?_
              exact ev_zreturn d_Mo_twoPoint_288 rfl (Or.inr rfl) (by decide) (by decide) ⟨fun q => absurd hok q, fun _ => ⟨rfl, ⟨σ9, jm, f9, f10, fs⟩, js1, js2, hk09, hk19, hk29, hk39, hk49, fm⟩⟩
          · refine ev_iload_n d_Mo_twoPoint_60 rfl rfl ?_
            refine ev_iload_n d_Mo_twoPoint_61 rfl rfl ?_
            refine ez_icmp_le (tgt := 69) (by omega) (by omega) d_Mo_twoPoint_62 rfl (fun c62 => ?_) (fun c62 => ?_)
            · refine ev_iconst (v := iZ 0) d_Mo_twoPoint_69 rfl ?_
              refine ev_iload d_Mo_twoPoint_70 rfl ?_
              refine ev_iload_n d_Mo_twoPoint_72 rfl rfl ?_
              refine ez_icmp_le (tgt := 80) (by omega) (by omega) d_Mo_twoPoint_73 rfl (fun c73 => ?_) (fun c73 => ?_)
              · refine ev_iconst (v := iZ 0) d_Mo_twoPoint_80 rfl ?_
                refine ez_icmp_ne (tgt := 94) (by decide) (by decide) d_Mo_twoPoint_81 rfl (fun c81 => absurd c81 (by omega)) (fun c81 => ?_)
                refine ev_iload_n d_Mo_twoPoint_84 rfl rfl ?_
                refine ev_iload d_Mo_twoPoint_85 rfl ?_
                refine ez_icmp_eq (tgt := 94) (by omega) (by omega) d_Mo_twoPoint_87 rfl (fun c87 => ?_) (fun c87 => ?_)
                · refine ev_iconst (v := iZ 0) d_Mo_twoPoint_94 rfl ?_
                  refine ev_istore (L' := [(0, .ref m), (1, .int (iZ va)), (2, .int (iZ vc)), (3, .int (iZ vb)), (4, .int (iZ vd)), (5, .long (lZ tk)), (7, .int (iZ 0))]) d_Mo_twoPoint_95 (by decide) rfl ?_
                  refine ev_iconst (v := iZ 0) d_Mo_twoPoint_97 rfl ?_
                  refine ev_istore (L' := [(0, .ref m), (1, .int (iZ va)), (2, .int (iZ vc)), (3, .int (iZ vb)), (4, .int (iZ vd)), (5, .long (lZ tk)), (7, .int (iZ 0)), (8, .int (iZ 0))]) d_Mo_twoPoint_98 (by decide) rfl ?_
                  refine lp_Mo_tp1 G _ h σ m s1 s2 n S1 S2 num den tk va vc vb vd hm f2 f3 f4 f5 f6 hs1 hs2 hnum hden htk htr hva hvc hvb hvd hT hE hn (fun i hno => ?_) (fun i hok => ?_) n 0 0 (by omega) (Or.inr ⟨rfl, fun q => absurd q.1 (fun q => by obtain ⟨q1, q2, q3, q4, q5, q6, q7⟩ := q; first | exact absurd q1 (by assumption) | exact absurd q2 (by assumption) | exact absurd q3 (by assumption) | exact absurd q4 (by assumption) | omega)⟩)
                  ·
                    refine ev_iload d_Mo_twoPoint_198 rfl ?_
                    refine ez_if_ne (tgt := 205) (by decide) d_Mo_twoPoint_200 rfl (fun c200 => absurd c200 (by omega)) (fun c200 => ?_)
                    refine ev_iconst (v := iZ 0) d_Mo_twoPoint_203 rfl ?_
                    exact ev_zreturn d_Mo_twoPoint_204 rfl (Or.inl rfl) (by decide) (by decide) (⟨fun _ => ⟨rfl, rfl⟩, fun q => absurd q hno⟩)
                  ·
                    refine ev_iload d_Mo_twoPoint_198 rfl ?_
                    refine ez_if_ne (tgt := 205) (by decide) d_Mo_twoPoint_200 rfl (fun c200 => ?_) (fun c200 => absurd c200 (by omega))
                    refine ev_aload_n d_Mo_twoPoint_205 rfl rfl ?_
                    refine ev_callV M_Mo_keep (rm 0 0) _ (As := []) (c_Mo_keep G h σ m s1 s2 s3 s4 k0 k1 k2 k3 k4 n c bk S1 S2 S3 S4 K0 K1 K2 K3 K4 hm f4 f5 f6 f7 f8 f9 f10 f11 f12 f13 f14 f15 hs1 hs2 hs3 hs4 hk0 hk1 hk2 hk3 hk4 hc hbk n_s n_k) d_Mo_twoPoint_206 mk_Mo_keep ml_Mo_176 mv_Mo_keep hm rfl rfl rfl (Nat.le_of_ble_eq_true rfl) ⟨by decide, by decide⟩ ⟨by decide, by decide⟩ (fun r h8 hq => ?_)
                    obtain ⟨rfl, ⟨σ9, gm, g9, g10, gs⟩, gk0, gk1, gk2, gk3, gk4, fmk⟩ := hq
                    have hs1 := (fmk _ (ninc (cne hs1 hm (by simp)) (ninc (cne hs1 hk0 (by simp)) (ninc (cne hs1 hk1 (by simp)) (ninc (cne hs1 hk2 (by simp)) (ninc (cne hs1 hk3 (by simp)) (ninc (cne hs1 hk4 (by simp)) nin0))))))).trans hs1
                    have hs2 := (fmk _ (ninc (cne hs2 hm (by simp)) (ninc (cne hs2 hk0 (by simp)) (ninc (cne hs2 hk1 (by simp)) (ninc (cne hs2 hk2 (by simp)) (ninc (cne hs2 hk3 (by simp)) (ninc (cne hs2 hk4 (by simp)) nin0))))))).trans hs2
                    have hs3 := (fmk _ (ninc (cne hs3 hm (by simp)) (ninc (cne hs3 hk0 (by simp)) (ninc (cne hs3 hk1 (by simp)) (ninc (cne hs3 hk2 (by simp)) (ninc (cne hs3 hk3 (by simp)) (ninc (cne hs3 hk4 (by simp)) nin0))))))).trans hs3
                    have hs4 := (fmk _ (ninc (cne hs4 hm (by simp)) (ninc (cne hs4 hk0 (by simp)) (ninc (cne hs4 hk1 (by simp)) (ninc (cne hs4 hk2 (by simp)) (ninc (cne hs4 hk3 (by simp)) (ninc (cne hs4 hk4 (by simp)) nin0))))))).trans hs4
                    have hm := gm
                    have hk0 := gk0
                    have hk1 := gk1
                    have hk2 := gk2
                    have hk3 := gk3
                    have hk4 := gk4
                    have f4 := (gs 4 (by decide)).trans f4
                    have f5 := (gs 5 (by decide)).trans f5
                    have f6 := (gs 6 (by decide)).trans f6
                    have f7 := (gs 7 (by decide)).trans f7
                    have f8 := (gs 8 (by decide)).trans f8
                    have f11 := (gs 11 (by decide)).trans f11
                    have f12 := (gs 12 (by decide)).trans f12
                    have f13 := (gs 13 (by decide)).trans f13
                    have f14 := (gs 14 (by decide)).trans f14
                    have f15 := (gs 15 (by decide)).trans f15
                    have f2 := (gs 2 (by decide)).trans f2
                    have f3 := (gs 3 (by decide)).trans f3
                    have f9 := g9
                    have f10 := g10
                    have fm := fm.call (by simp) fmk
                    have fs := fs.call (by simp) gs
                    refine ev_iconst (v := iZ 0) d_Mo_twoPoint_209 rfl ?_
                    refine ev_istore (L' := [(0, .ref m), (1, .int (iZ va)), (2, .int (iZ vc)), (3, .int (iZ vb)), (4, .int (iZ vd)), (5, .long (lZ tk)), (7, .int (iZ 1)), (8, .int (iZ 0))]) d_Mo_twoPoint_210 (by decide) rfl ?_
                    refine lp_Mo_tp2 G _ h8 σ9 m s1 s2 n S1 S2 num den tk va vc vb vd f2 f3 f4 f5 f6 hnum hden htk htr hva hvc hvb hvd hok.1 n_s hT hE hn ?_ n 0 h8 (by omega) hm (by rw [fU_0]; exact hs1) (by rw [fU_0]; exact hs2) Fm.rf
                    intro h9 jm js1 js2 fm2
                    have hk09 := (fm2 _ (ninc (cne hk0 hs1 (by simp)) (ninc (cne hk0 hs2 (by simp)) nin0))).trans hk0
                    have hk19 := (fm2 _ (ninc (cne hk1 hs1 (by simp)) (ninc (cne hk1 hs2 (by simp)) nin0))).trans hk1
                    have hk29 := (fm2 _ (ninc (cne hk2 hs1 (by simp)) (ninc (cne hk2 hs2 (by simp)) nin0))).trans hk2
                    have hk39 := (fm2 _ (ninc (cne hk3 hs1 (by simp)) (ninc (cne hk3 hs2 (by simp)) nin0))).trans hk3
                    have hk49 := (fm2 _ (ninc (cne hk4 hs1 (by simp)) (ninc (cne hk4 hs2 (by simp)) nin0))).trans hk4
                    have fm := fm.call (by simp) fm2
                    refine ev_iconst (v := iZ 1) d_Mo_twoPoint_287 rfl ?_
                    exact ev_zreturn d_Mo_twoPoint_288 rfl (Or.inr rfl) (by decide) (by decide) ⟨fun q => absurd hok q, fun _ => ⟨rfl, ⟨σ9, jm, f9, f10, fs⟩, js1, js2, hk09, hk19, hk29, hk39, hk49, fm⟩⟩
                · refine ev_iconst (v := iZ 1) d_Mo_twoPoint_90 rfl ?_
                  refine ev_goto (tgt := 95) d_Mo_twoPoint_91 rfl ?_
                  refine ev_istore (L' := [(0, .ref m), (1, .int (iZ va)), (2, .int (iZ vc)), (3, .int (iZ vb)), (4, .int (iZ vd)), (5, .long (lZ tk)), (7, .int (iZ 1))]) d_Mo_twoPoint_95 (by decide) rfl ?_
                  refine ev_iconst (v := iZ 0) d_Mo_twoPoint_97 rfl ?_
                  refine ev_istore (L' := [(0, .ref m), (1, .int (iZ va)), (2, .int (iZ vc)), (3, .int (iZ vb)), (4, .int (iZ vd)), (5, .long (lZ tk)), (7, .int (iZ 1)), (8, .int (iZ 0))]) d_Mo_twoPoint_98 (by decide) rfl ?_
                  refine lp_Mo_tp1 G _ h σ m s1 s2 n S1 S2 num den tk va vc vb vd hm f2 f3 f4 f5 f6 hs1 hs2 hnum hden htk htr hva hvc hvb hvd hT hE hn (fun i hno => ?_) (fun i hok => ?_) n 0 1 (by omega) (Or.inl ⟨rfl, ⟨z15, z27, z39, z52, by omega, by omega, by omega⟩, fun j hj => absurd hj (by omega)⟩)
                  ·
                    refine ev_iload d_Mo_twoPoint_198 rfl ?_
                    refine ez_if_ne (tgt := 205) (by decide) d_Mo_twoPoint_200 rfl (fun c200 => absurd c200 (by omega)) (fun c200 => ?_)
                    refine ev_iconst (v := iZ 0) d_Mo_twoPoint_203 rfl ?_
                    exact ev_zreturn d_Mo_twoPoint_204 rfl (Or.inl rfl) (by decide) (by decide) (⟨fun _ => ⟨rfl, rfl⟩, fun q => absurd q hno⟩)
                  ·
                    refine ev_iload d_Mo_twoPoint_198 rfl ?_
                    refine ez_if_ne (tgt := 205) (by decide) d_Mo_twoPoint_200 rfl (fun c200 => ?_) (fun c200 => absurd c200 (by omega))
                    refine ev_aload_n d_Mo_twoPoint_205 rfl rfl ?_
                    refine ev_callV M_Mo_keep (rm 0 0) _ (As := []) (c_Mo_keep G h σ m s1 s2 s3 s4 k0 k1 k2 k3 k4 n c bk S1 S2 S3 S4 K0 K1 K2 K3 K4 hm f4 f5 f6 f7 f8 f9 f10 f11 f12 f13 f14 f15 hs1 hs2 hs3 hs4 hk0 hk1 hk2 hk3 hk4 hc hbk n_s n_k) d_Mo_twoPoint_206 mk_Mo_keep ml_Mo_176 mv_Mo_keep hm rfl rfl rfl (Nat.le_of_ble_eq_true rfl) ⟨by decide, by decide⟩ ⟨by decide, by decide⟩ (fun r h8 hq => ?_)
                    obtain ⟨rfl, ⟨σ9, gm, g9, g10, gs⟩, gk0, gk1, gk2, gk3, gk4, fmk⟩ := hq
                    have hs1 := (fmk _ (ninc (cne hs1 hm (by simp)) (ninc (cne hs1 hk0 (by simp)) (ninc (cne hs1 hk1 (by simp)) (ninc (cne hs1 hk2 (by simp)) (ninc (cne hs1 hk3 (by simp)) (ninc (cne hs1 hk4 (by simp)) nin0))))))).trans hs1
                    have hs2 := (fmk _ (ninc (cne hs2 hm (by simp)) (ninc (cne hs2 hk0 (by simp)) (ninc (cne hs2 hk1 (by simp)) (ninc (cne hs2 hk2 (by simp)) (ninc (cne hs2 hk3 (by simp)) (ninc (cne hs2 hk4 (by simp)) nin0))))))).trans hs2
                    have hs3 := (fmk _ (ninc (cne hs3 hm (by simp)) (ninc (cne hs3 hk0 (by simp)) (ninc (cne hs3 hk1 (by simp)) (ninc (cne hs3 hk2 (by simp)) (ninc (cne hs3 hk3 (by simp)) (ninc (cne hs3 hk4 (by simp)) nin0))))))).trans hs3
                    have hs4 := (fmk _ (ninc (cne hs4 hm (by simp)) (ninc (cne hs4 hk0 (by simp)) (ninc (cne hs4 hk1 (by simp)) (ninc (cne hs4 hk2 (by simp)) (ninc (cne hs4 hk3 (by simp)) (ninc (cne hs4 hk4 (by simp)) nin0))))))).trans hs4
                    have hm := gm
                    have hk0 := gk0
                    have hk1 := gk1
                    have hk2 := gk2
                    have hk3 := gk3
                    have hk4 := gk4
                    have f4 := (gs 4 (by decide)).trans f4
                    have f5 := (gs 5 (by decide)).trans f5
                    have f6 := (gs 6 (by decide)).trans f6
                    have f7 := (gs 7 (by decide)).trans f7
                    have f8 := (gs 8 (by decide)).trans f8
                    have f11 := (gs 11 (by decide)).trans f11
                    have f12 := (gs 12 (by decide)).trans f12
                    have f13 := (gs 13 (by decide)).trans f13
                    have f14 := (gs 14 (by decide)).trans f14
                    have f15 := (gs 15 (by decide)).trans f15
                    have f2 := (gs 2 (by decide)).trans f2
                    have f3 := (gs 3 (by decide)).trans f3
                    have f9 := g9
                    have f10 := g10
                    have fm := fm.call (by simp) fmk
                    have fs := fs.call (by simp) gs
                    refine ev_iconst (v := iZ 0) d_Mo_twoPoint_209 rfl ?_
                    refine ev_istore (L' := [(0, .ref m), (1, .int (iZ va)), (2, .int (iZ vc)), (3, .int (iZ vb)), (4, .int (iZ vd)), (5, .long (lZ tk)), (7, .int (iZ 1)), (8, .int (iZ 0))]) d_Mo_twoPoint_210 (by decide) rfl ?_
                    refine lp_Mo_tp2 G _ h8 σ9 m s1 s2 n S1 S2 num den tk va vc vb vd f2 f3 f4 f5 f6 hnum hden htk htr hva hvc hvb hvd hok.1 n_s hT hE hn ?_ n 0 h8 (by omega) hm (by rw [fU_0]; exact hs1) (by rw [fU_0]; exact hs2) Fm.rf
                    intro h9 jm js1 js2 fm2
                    have hk09 := (fm2 _ (ninc (cne hk0 hs1 (by simp)) (ninc (cne hk0 hs2 (by simp)) nin0))).trans hk0
                    have hk19 := (fm2 _ (ninc (cne hk1 hs1 (by simp)) (ninc (cne hk1 hs2 (by simp)) nin0))).trans hk1
                    have hk29 := (fm2 _ (ninc (cne hk2 hs1 (by simp)) (ninc (cne hk2 hs2 (by simp)) nin0))).trans hk2
                    have hk39 := (fm2 _ (ninc (cne hk3 hs1 (by simp)) (ninc (cne hk3 hs2 (by simp)) nin0))).trans hk3
                    have hk49 := (fm2 _ (ninc (cne hk4 hs1 (by simp)) (ninc (cne hk4 hs2 (by simp)) nin0))).trans hk4
                    have fm := fm.call (by simp) fm2
                    refine ev_iconst (v := iZ 1) d_Mo_twoPoint_287 rfl ?_
                    exact ev_zreturn d_Mo_twoPoint_288 rfl (Or.inr rfl) (by decide) (by decide) ⟨fun q => absurd hok q, fun _ => ⟨rfl, ⟨σ9, jm, f9, f10, fs⟩, js1, js2, hk09, hk19, hk29, hk39, hk49, fm⟩⟩
              · refine ev_iconst (v := iZ 1) d_Mo_twoPoint_76 rfl ?_
                refine ev_goto (tgt := 81) d_Mo_twoPoint_77 rfl ?_
                refine ez_icmp_ne (tgt := 94) (by decide) (by decide) d_Mo_twoPoint_81 rfl (fun c81 => ?_) (fun c81 => absurd c81 (by omega))
                refine ev_iconst (v := iZ 0) d_Mo_twoPoint_94 rfl ?_
                refine ev_istore (L' := [(0, .ref m), (1, .int (iZ va)), (2, .int (iZ vc)), (3, .int (iZ vb)), (4, .int (iZ vd)), (5, .long (lZ tk)), (7, .int (iZ 0))]) d_Mo_twoPoint_95 (by decide) rfl ?_
                refine ev_iconst (v := iZ 0) d_Mo_twoPoint_97 rfl ?_
                refine ev_istore (L' := [(0, .ref m), (1, .int (iZ va)), (2, .int (iZ vc)), (3, .int (iZ vb)), (4, .int (iZ vd)), (5, .long (lZ tk)), (7, .int (iZ 0)), (8, .int (iZ 0))]) d_Mo_twoPoint_98 (by decide) rfl ?_
                refine lp_Mo_tp1 G _ h σ m s1 s2 n S1 S2 num den tk va vc vb vd hm f2 f3 f4 f5 f6 hs1 hs2 hnum hden htk htr hva hvc hvb hvd hT hE hn (fun i hno => ?_) (fun i hok => ?_) n 0 0 (by omega) (Or.inr ⟨rfl, fun q => absurd q.1 (fun q => by obtain ⟨q1, q2, q3, q4, q5, q6, q7⟩ := q; first | exact absurd q1 (by assumption) | exact absurd q2 (by assumption) | exact absurd q3 (by assumption) | exact absurd q4 (by assumption) | omega)⟩)
                ·
                  refine ev_iload d_Mo_twoPoint_198 rfl ?_
                  refine ez_if_ne (tgt := 205) (by decide) d_Mo_twoPoint_200 rfl (fun c200 => absurd c200 (by omega)) (fun c200 => ?_)
                  refine ev_iconst (v := iZ 0) d_Mo_twoPoint_203 rfl ?_
                  exact ev_zreturn d_Mo_twoPoint_204 rfl (Or.inl rfl) (by decide) (by decide) (⟨fun _ => ⟨rfl, rfl⟩, fun q => absurd q hno⟩)
                ·
                  refine ev_iload d_Mo_twoPoint_198 rfl ?_
                  refine ez_if_ne (tgt := 205) (by decide) d_Mo_twoPoint_200 rfl (fun c200 => ?_) (fun c200 => absurd c200 (by omega))
                  refine ev_aload_n d_Mo_twoPoint_205 rfl rfl ?_
                  refine ev_callV M_Mo_keep (rm 0 0) _ (As := []) (c_Mo_keep G h σ m s1 s2 s3 s4 k0 k1 k2 k3 k4 n c bk S1 S2 S3 S4 K0 K1 K2 K3 K4 hm f4 f5 f6 f7 f8 f9 f10 f11 f12 f13 f14 f15 hs1 hs2 hs3 hs4 hk0 hk1 hk2 hk3 hk4 hc hbk n_s n_k) d_Mo_twoPoint_206 mk_Mo_keep ml_Mo_176 mv_Mo_keep hm rfl rfl rfl (Nat.le_of_ble_eq_true rfl) ⟨by decide, by decide⟩ ⟨by decide, by decide⟩ (fun r h8 hq => ?_)
                  obtain ⟨rfl, ⟨σ9, gm, g9, g10, gs⟩, gk0, gk1, gk2, gk3, gk4, fmk⟩ := hq
                  have hs1 := (fmk _ (ninc (cne hs1 hm (by simp)) (ninc (cne hs1 hk0 (by simp)) (ninc (cne hs1 hk1 (by simp)) (ninc (cne hs1 hk2 (by simp)) (ninc (cne hs1 hk3 (by simp)) (ninc (cne hs1 hk4 (by simp)) nin0))))))).trans hs1
                  have hs2 := (fmk _ (ninc (cne hs2 hm (by simp)) (ninc (cne hs2 hk0 (by simp)) (ninc (cne hs2 hk1 (by simp)) (ninc (cne hs2 hk2 (by simp)) (ninc (cne hs2 hk3 (by simp)) (ninc (cne hs2 hk4 (by simp)) nin0))))))).trans hs2
                  have hs3 := (fmk _ (ninc (cne hs3 hm (by simp)) (ninc (cne hs3 hk0 (by simp)) (ninc (cne hs3 hk1 (by simp)) (ninc (cne hs3 hk2 (by simp)) (ninc (cne hs3 hk3 (by simp)) (ninc (cne hs3 hk4 (by simp)) nin0))))))).trans hs3
                  have hs4 := (fmk _ (ninc (cne hs4 hm (by simp)) (ninc (cne hs4 hk0 (by simp)) (ninc (cne hs4 hk1 (by simp)) (ninc (cne hs4 hk2 (by simp)) (ninc (cne hs4 hk3 (by simp)) (ninc (cne hs4 hk4 (by simp)) nin0))))))).trans hs4
                  have hm := gm
                  have hk0 := gk0
                  have hk1 := gk1
                  have hk2 := gk2
                  have hk3 := gk3
                  have hk4 := gk4
                  have f4 := (gs 4 (by decide)).trans f4
                  have f5 := (gs 5 (by decide)).trans f5
                  have f6 := (gs 6 (by decide)).trans f6
                  have f7 := (gs 7 (by decide)).trans f7
                  have f8 := (gs 8 (by decide)).trans f8
                  have f11 := (gs 11 (by decide)).trans f11
                  have f12 := (gs 12 (by decide)).trans f12
                  have f13 := (gs 13 (by decide)).trans f13
                  have f14 := (gs 14 (by decide)).trans f14
                  have f15 := (gs 15 (by decide)).trans f15
                  have f2 := (gs 2 (by decide)).trans f2
                  have f3 := (gs 3 (by decide)).trans f3
                  have f9 := g9
                  have f10 := g10
                  have fm := fm.call (by simp) fmk
                  have fs := fs.call (by simp) gs
                  refine ev_iconst (v := iZ 0) d_Mo_twoPoint_209 rfl ?_
                  refine ev_istore (L' := [(0, .ref m), (1, .int (iZ va)), (2, .int (iZ vc)), (3, .int (iZ vb)), (4, .int (iZ vd)), (5, .long (lZ tk)), (7, .int (iZ 1)), (8, .int (iZ 0))]) d_Mo_twoPoint_210 (by decide) rfl ?_
                  refine lp_Mo_tp2 G _ h8 σ9 m s1 s2 n S1 S2 num den tk va vc vb vd f2 f3 f4 f5 f6 hnum hden htk htr hva hvc hvb hvd hok.1 n_s hT hE hn ?_ n 0 h8 (by omega) hm (by rw [fU_0]; exact hs1) (by rw [fU_0]; exact hs2) Fm.rf
                  intro h9 jm js1 js2 fm2
                  have hk09 := (fm2 _ (ninc (cne hk0 hs1 (by simp)) (ninc (cne hk0 hs2 (by simp)) nin0))).trans hk0
                  have hk19 := (fm2 _ (ninc (cne hk1 hs1 (by simp)) (ninc (cne hk1 hs2 (by simp)) nin0))).trans hk1
                  have hk29 := (fm2 _ (ninc (cne hk2 hs1 (by simp)) (ninc (cne hk2 hs2 (by simp)) nin0))).trans hk2
                  have hk39 := (fm2 _ (ninc (cne hk3 hs1 (by simp)) (ninc (cne hk3 hs2 (by simp)) nin0))).trans hk3
                  have hk49 := (fm2 _ (ninc (cne hk4 hs1 (by simp)) (ninc (cne hk4 hs2 (by simp)) nin0))).trans hk4
                  have fm := fm.call (by simp) fm2
                  refine ev_iconst (v := iZ 1) d_Mo_twoPoint_287 rfl ?_
                  exact ev_zreturn d_Mo_twoPoint_288 rfl (Or.inr rfl) (by decide) (by decide) ⟨fun q => absurd hok q, fun _ => ⟨rfl, ⟨σ9, jm, f9, f10, fs⟩, js1, js2, hk09, hk19, hk29, hk39, hk49, fm⟩⟩
            · refine ev_iconst (v := iZ 1) d_Mo_twoPoint_65 rfl ?_
              refine ev_goto (tgt := 70) d_Mo_twoPoint_66 rfl ?_
              refine ev_iload d_Mo_twoPoint_70 rfl ?_
              refine ev_iload_n d_Mo_twoPoint_72 rfl rfl ?_
              refine ez_icmp_le (tgt := 80) (by omega) (by omega) d_Mo_twoPoint_73 rfl (fun c73 => ?_) (fun c73 => ?_)
              · refine ev_iconst (v := iZ 0) d_Mo_twoPoint_80 rfl ?_
                refine ez_icmp_ne (tgt := 94) (by decide) (by decide) d_Mo_twoPoint_81 rfl (fun c81 => ?_) (fun c81 => absurd c81 (by omega))
                refine ev_iconst (v := iZ 0) d_Mo_twoPoint_94 rfl ?_
                refine ev_istore (L' := [(0, .ref m), (1, .int (iZ va)), (2, .int (iZ vc)), (3, .int (iZ vb)), (4, .int (iZ vd)), (5, .long (lZ tk)), (7, .int (iZ 0))]) d_Mo_twoPoint_95 (by decide) rfl ?_
                refine ev_iconst (v := iZ 0) d_Mo_twoPoint_97 rfl ?_
                refine ev_istore (L' := [(0, .ref m), (1, .int (iZ va)), (2, .int (iZ vc)), (3, .int (iZ vb)), (4, .int (iZ vd)), (5, .long (lZ tk)), (7, .int (iZ 0)), (8, .int (iZ 0))]) d_Mo_twoPoint_98 (by decide) rfl ?_
                refine lp_Mo_tp1 G _ h σ m s1 s2 n S1 S2 num den tk va vc vb vd hm f2 f3 f4 f5 f6 hs1 hs2 hnum hden htk htr hva hvc hvb hvd hT hE hn (fun i hno => ?_) (fun i hok => ?_) n 0 0 (by omega) (Or.inr ⟨rfl, fun q => absurd q.1 (fun q => by obtain ⟨q1, q2, q3, q4, q5, q6, q7⟩ := q; first | exact absurd q1 (by assumption) | exact absurd q2 (by assumption) | exact absurd q3 (by assumption) | exact absurd q4 (by assumption) | omega)⟩)
                ·
                  refine ev_iload d_Mo_twoPoint_198 rfl ?_
                  refine ez_if_ne (tgt := 205) (by decide) d_Mo_twoPoint_200 rfl (fun c200 => absurd c200 (by omega)) (fun c200 => ?_)
                  refine ev_iconst (v := iZ 0) d_Mo_twoPoint_203 rfl ?_
                  exact ev_zreturn d_Mo_twoPoint_204 rfl (Or.inl rfl) (by decide) (by decide) (⟨fun _ => ⟨rfl, rfl⟩, fun q => absurd q hno⟩)
                ·
                  refine ev_iload d_Mo_twoPoint_198 rfl ?_
                  refine ez_if_ne (tgt := 205) (by decide) d_Mo_twoPoint_200 rfl (fun c200 => ?_) (fun c200 => absurd c200 (by omega))
                  refine ev_aload_n d_Mo_twoPoint_205 rfl rfl ?_
                  refine ev_callV M_Mo_keep (rm 0 0) _ (As := []) (c_Mo_keep G h σ m s1 s2 s3 s4 k0 k1 k2 k3 k4 n c bk S1 S2 S3 S4 K0 K1 K2 K3 K4 hm f4 f5 f6 f7 f8 f9 f10 f11 f12 f13 f14 f15 hs1 hs2 hs3 hs4 hk0 hk1 hk2 hk3 hk4 hc hbk n_s n_k) d_Mo_twoPoint_206 mk_Mo_keep ml_Mo_176 mv_Mo_keep hm rfl rfl rfl (Nat.le_of_ble_eq_true rfl) ⟨by decide, by decide⟩ ⟨by decide, by decide⟩ (fun r h8 hq => ?_)
                  obtain ⟨rfl, ⟨σ9, gm, g9, g10, gs⟩, gk0, gk1, gk2, gk3, gk4, fmk⟩ := hq
                  have hs1 := (fmk _ (ninc (cne hs1 hm (by simp)) (ninc (cne hs1 hk0 (by simp)) (ninc (cne hs1 hk1 (by simp)) (ninc (cne hs1 hk2 (by simp)) (ninc (cne hs1 hk3 (by simp)) (ninc (cne hs1 hk4 (by simp)) nin0))))))).trans hs1
                  have hs2 := (fmk _ (ninc (cne hs2 hm (by simp)) (ninc (cne hs2 hk0 (by simp)) (ninc (cne hs2 hk1 (by simp)) (ninc (cne hs2 hk2 (by simp)) (ninc (cne hs2 hk3 (by simp)) (ninc (cne hs2 hk4 (by simp)) nin0))))))).trans hs2
                  have hs3 := (fmk _ (ninc (cne hs3 hm (by simp)) (ninc (cne hs3 hk0 (by simp)) (ninc (cne hs3 hk1 (by simp)) (ninc (cne hs3 hk2 (by simp)) (ninc (cne hs3 hk3 (by simp)) (ninc (cne hs3 hk4 (by simp)) nin0))))))).trans hs3
                  have hs4 := (fmk _ (ninc (cne hs4 hm (by simp)) (ninc (cne hs4 hk0 (by simp)) (ninc (cne hs4 hk1 (by simp)) (ninc (cne hs4 hk2 (by simp)) (ninc (cne hs4 hk3 (by simp)) (ninc (cne hs4 hk4 (by simp)) nin0))))))).trans hs4
                  have hm := gm
                  have hk0 := gk0
                  have hk1 := gk1
                  have hk2 := gk2
                  have hk3 := gk3
                  have hk4 := gk4
                  have f4 := (gs 4 (by decide)).trans f4
                  have f5 := (gs 5 (by decide)).trans f5
                  have f6 := (gs 6 (by decide)).trans f6
                  have f7 := (gs 7 (by decide)).trans f7
                  have f8 := (gs 8 (by decide)).trans f8
                  have f11 := (gs 11 (by decide)).trans f11
                  have f12 := (gs 12 (by decide)).trans f12
                  have f13 := (gs 13 (by decide)).trans f13
                  have f14 := (gs 14 (by decide)).trans f14
                  have f15 := (gs 15 (by decide)).trans f15
                  have f2 := (gs 2 (by decide)).trans f2
                  have f3 := (gs 3 (by decide)).trans f3
                  have f9 := g9
                  have f10 := g10
                  have fm := fm.call (by simp) fmk
                  have fs := fs.call (by simp) gs
                  refine ev_iconst (v := iZ 0) d_Mo_twoPoint_209 rfl ?_
                  refine ev_istore (L' := [(0, .ref m), (1, .int (iZ va)), (2, .int (iZ vc)), (3, .int (iZ vb)), (4, .int (iZ vd)), (5, .long (lZ tk)), (7, .int (iZ 1)), (8, .int (iZ 0))]) d_Mo_twoPoint_210 (by decide) rfl ?_
                  refine lp_Mo_tp2 G _ h8 σ9 m s1 s2 n S1 S2 num den tk va vc vb vd f2 f3 f4 f5 f6 hnum hden htk htr hva hvc hvb hvd hok.1 n_s hT hE hn ?_ n 0 h8 (by omega) hm (by rw [fU_0]; exact hs1) (by rw [fU_0]; exact hs2) Fm.rf
                  intro h9 jm js1 js2 fm2
                  have hk09 := (fm2 _ (ninc (cne hk0 hs1 (by simp)) (ninc (cne hk0 hs2 (by simp)) nin0))).trans hk0
                  have hk19 := (fm2 _ (ninc (cne hk1 hs1 (by simp)) (ninc (cne hk1 hs2 (by simp)) nin0))).trans hk1
                  have hk29 := (fm2 _ (ninc (cne hk2 hs1 (by simp)) (ninc (cne hk2 hs2 (by simp)) nin0))).trans hk2
                  have hk39 := (fm2 _ (ninc (cne hk3 hs1 (by simp)) (ninc (cne hk3 hs2 (by simp)) nin0))).trans hk3
                  have hk49 := (fm2 _ (ninc (cne hk4 hs1 (by simp)) (ninc (cne hk4 hs2 (by simp)) nin0))).trans hk4
                  have fm := fm.call (by simp) fm2
                  refine ev_iconst (v := iZ 1) d_Mo_twoPoint_287 rfl ?_
                  exact ev_zreturn d_Mo_twoPoint_288 rfl (Or.inr rfl) (by decide) (by decide) ⟨fun q => absurd hok q, fun _ => ⟨rfl, ⟨σ9, jm, f9, f10, fs⟩, js1, js2, hk09, hk19, hk29, hk39, hk49, fm⟩⟩
              · refine ev_iconst (v := iZ 1) d_Mo_twoPoint_76 rfl ?_
                refine ev_goto (tgt := 81) d_Mo_twoPoint_77 rfl ?_
                refine ez_icmp_ne (tgt := 94) (by decide) (by decide) d_Mo_twoPoint_81 rfl (fun c81 => absurd c81 (by omega)) (fun c81 => ?_)
                refine ev_iload_n d_Mo_twoPoint_84 rfl rfl ?_
                refine ev_iload d_Mo_twoPoint_85 rfl ?_
                refine ez_icmp_eq (tgt := 94) (by omega) (by omega) d_Mo_twoPoint_87 rfl (fun c87 => ?_) (fun c87 => ?_)
                · refine ev_iconst (v := iZ 0) d_Mo_twoPoint_94 rfl ?_
                  refine ev_istore (L' := [(0, .ref m), (1, .int (iZ va)), (2, .int (iZ vc)), (3, .int (iZ vb)), (4, .int (iZ vd)), (5, .long (lZ tk)), (7, .int (iZ 0))]) d_Mo_twoPoint_95 (by decide) rfl ?_
                  refine ev_iconst (v := iZ 0) d_Mo_twoPoint_97 rfl ?_
                  refine ev_istore (L' := [(0, .ref m), (1, .int (iZ va)), (2, .int (iZ vc)), (3, .int (iZ vb)), (4, .int (iZ vd)), (5, .long (lZ tk)), (7, .int (iZ 0)), (8, .int (iZ 0))]) d_Mo_twoPoint_98 (by decide) rfl ?_
                  refine lp_Mo_tp1 G _ h σ m s1 s2 n S1 S2 num den tk va vc vb vd hm f2 f3 f4 f5 f6 hs1 hs2 hnum hden htk htr hva hvc hvb hvd hT hE hn (fun i hno => ?_) (fun i hok => ?_) n 0 0 (by omega) (Or.inr ⟨rfl, fun q => absurd q.1 (fun q => by obtain ⟨q1, q2, q3, q4, q5, q6, q7⟩ := q; first | exact absurd q1 (by assumption) | exact absurd q2 (by assumption) | exact absurd q3 (by assumption) | exact absurd q4 (by assumption) | omega)⟩)
                  ·
                    refine ev_iload d_Mo_twoPoint_198 rfl ?_
                    refine ez_if_ne (tgt := 205) (by decide) d_Mo_twoPoint_200 rfl (fun c200 => absurd c200 (by omega)) (fun c200 => ?_)
                    refine ev_iconst (v := iZ 0) d_Mo_twoPoint_203 rfl ?_
                    exact ev_zreturn d_Mo_twoPoint_204 rfl (Or.inl rfl) (by decide) (by decide) (⟨fun _ => ⟨rfl, rfl⟩, fun q => absurd q hno⟩)
                  ·
                    refine ev_iload d_Mo_twoPoint_198 rfl ?_
                    refine ez_if_ne (tgt := 205) (by decide) d_Mo_twoPoint_200 rfl (fun c200 => ?_) (fun c200 => absurd c200 (by omega))
                    refine ev_aload_n d_Mo_twoPoint_205 rfl rfl ?_
                    refine ev_callV M_Mo_keep (rm 0 0) _ (As := []) (c_Mo_keep G h σ m s1 s2 s3 s4 k0 k1 k2 k3 k4 n c bk S1 S2 S3 S4 K0 K1 K2 K3 K4 hm f4 f5 f6 f7 f8 f9 f10 f11 f12 f13 f14 f15 hs1 hs2 hs3 hs4 hk0 hk1 hk2 hk3 hk4 hc hbk n_s n_k) d_Mo_twoPoint_206 mk_Mo_keep ml_Mo_176 mv_Mo_keep hm rfl rfl rfl (Nat.le_of_ble_eq_true rfl) ⟨by decide, by decide⟩ ⟨by decide, by decide⟩ (fun r h8 hq => ?_)
                    obtain ⟨rfl, ⟨σ9, gm, g9, g10, gs⟩, gk0, gk1, gk2, gk3, gk4, fmk⟩ := hq
                    have hs1 := (fmk _ (ninc (cne hs1 hm (by simp)) (ninc (cne hs1 hk0 (by simp)) (ninc (cne hs1 hk1 (by simp)) (ninc (cne hs1 hk2 (by simp)) (ninc (cne hs1 hk3 (by simp)) (ninc (cne hs1 hk4 (by simp)) nin0))))))).trans hs1
                    have hs2 := (fmk _ (ninc (cne hs2 hm (by simp)) (ninc (cne hs2 hk0 (by simp)) (ninc (cne hs2 hk1 (by simp)) (ninc (cne hs2 hk2 (by simp)) (ninc (cne hs2 hk3 (by simp)) (ninc (cne hs2 hk4 (by simp)) nin0))))))).trans hs2
                    have hs3 := (fmk _ (ninc (cne hs3 hm (by simp)) (ninc (cne hs3 hk0 (by simp)) (ninc (cne hs3 hk1 (by simp)) (ninc (cne hs3 hk2 (by simp)) (ninc (cne hs3 hk3 (by simp)) (ninc (cne hs3 hk4 (by simp)) nin0))))))).trans hs3
                    have hs4 := (fmk _ (ninc (cne hs4 hm (by simp)) (ninc (cne hs4 hk0 (by simp)) (ninc (cne hs4 hk1 (by simp)) (ninc (cne hs4 hk2 (by simp)) (ninc (cne hs4 hk3 (by simp)) (ninc (cne hs4 hk4 (by simp)) nin0))))))).trans hs4
                    have hm := gm
                    have hk0 := gk0
                    have hk1 := gk1
                    have hk2 := gk2
                    have hk3 := gk3
                    have hk4 := gk4
                    have f4 := (gs 4 (by decide)).trans f4
                    have f5 := (gs 5 (by decide)).trans f5
                    have f6 := (gs 6 (by decide)).trans f6
                    have f7 := (gs 7 (by decide)).trans f7
                    have f8 := (gs 8 (by decide)).trans f8
                    have f11 := (gs 11 (by decide)).trans f11
                    have f12 := (gs 12 (by decide)).trans f12
                    have f13 := (gs 13 (by decide)).trans f13
                    have f14 := (gs 14 (by decide)).trans f14
                    have f15 := (gs 15 (by decide)).trans f15
                    have f2 := (gs 2 (by decide)).trans f2
                    have f3 := (gs 3 (by decide)).trans f3
                    have f9 := g9
                    have f10 := g10
                    have fm := fm.call (by simp) fmk
                    have fs := fs.call (by simp) gs
                    refine ev_iconst (v := iZ 0) d_Mo_twoPoint_209 rfl ?_
                    refine ev_istore (L' := [(0, .ref m), (1, .int (iZ va)), (2, .int (iZ vc)), (3, .int (iZ vb)), (4, .int (iZ vd)), (5, .long (lZ tk)), (7, .int (iZ 1)), (8, .int (iZ 0))]) d_Mo_twoPoint_210 (by decide) rfl ?_
                    refine lp_Mo_tp2 G _ h8 σ9 m s1 s2 n S1 S2 num den tk va vc vb vd f2 f3 f4 f5 f6 hnum hden htk htr hva hvc hvb hvd hok.1 n_s hT hE hn ?_ n 0 h8 (by omega) hm (by rw [fU_0]; exact hs1) (by rw [fU_0]; exact hs2) Fm.rf
                    intro h9 jm js1 js2 fm2
                    have hk09 := (fm2 _ (ninc (cne hk0 hs1 (by simp)) (ninc (cne hk0 hs2 (by simp)) nin0))).trans hk0
                    have hk19 := (fm2 _ (ninc (cne hk1 hs1 (by simp)) (ninc (cne hk1 hs2 (by simp)) nin0))).trans hk1
                    have hk29 := (fm2 _ (ninc (cne hk2 hs1 (by simp)) (ninc (cne hk2 hs2 (by simp)) nin0))).trans hk2
                    have hk39 := (fm2 _ (ninc (cne hk3 hs1 (by simp)) (ninc (cne hk3 hs2 (by simp)) nin0))).trans hk3
                    have hk49 := (fm2 _ (ninc (cne hk4 hs1 (by simp)) (ninc (cne hk4 hs2 (by simp)) nin0))).trans hk4
                    have fm := fm.call (by simp) fm2
                    refine ev_iconst (v := iZ 1) d_Mo_twoPoint_287 rfl ?_
                    exact ev_zreturn d_Mo_twoPoint_288 rfl (Or.inr rfl) (by decide) (by decide) ⟨fun q => absurd hok q, fun _ => ⟨rfl, ⟨σ9, jm, f9, f10, fs⟩, js1, js2, hk09, hk19, hk29, hk39, hk49, fm⟩⟩
                · refine ev_iconst (v := iZ 1) d_Mo_twoPoint_90 rfl ?_
                  refine ev_goto (tgt := 95) d_Mo_twoPoint_91 rfl ?_
                  refine ev_istore (L' := [(0, .ref m), (1, .int (iZ va)), (2, .int (iZ vc)), (3, .int (iZ vb)), (4, .int (iZ vd)), (5, .long (lZ tk)), (7, .int (iZ 1))]) d_Mo_twoPoint_95 (by decide) rfl ?_
                  refine ev_iconst (v := iZ 0) d_Mo_twoPoint_97 rfl ?_
                  refine ev_istore (L' := [(0, .ref m), (1, .int (iZ va)), (2, .int (iZ vc)), (3, .int (iZ vb)), (4, .int (iZ vd)), (5, .long (lZ tk)), (7, .int (iZ 1)), (8, .int (iZ 0))]) d_Mo_twoPoint_98 (by decide) rfl ?_
                  refine lp_Mo_tp1 G _ h σ m s1 s2 n S1 S2 num den tk va vc vb vd hm f2 f3 f4 f5 f6 hs1 hs2 hnum hden htk htr hva hvc hvb hvd hT hE hn (fun i hno => ?_) (fun i hok => ?_) n 0 1 (by omega) (Or.inl ⟨rfl, ⟨z15, z27, z39, z52, by omega, by omega, by omega⟩, fun j hj => absurd hj (by omega)⟩)
                  ·
                    refine ev_iload d_Mo_twoPoint_198 rfl ?_
                    refine ez_if_ne (tgt := 205) (by decide) d_Mo_twoPoint_200 rfl (fun c200 => absurd c200 (by omega)) (fun c200 => ?_)
                    refine ev_iconst (v := iZ 0) d_Mo_twoPoint_203 rfl ?_
                    exact ev_zreturn d_Mo_twoPoint_204 rfl (Or.inl rfl) (by decide) (by decide) (⟨fun _ => ⟨rfl, rfl⟩, fun q => absurd q hno⟩)
                  ·
                    refine ev_iload d_Mo_twoPoint_198 rfl ?_
                    refine ez_if_ne (tgt := 205) (by decide) d_Mo_twoPoint_200 rfl (fun c200 => ?_) (fun c200 => absurd c200 (by omega))
                    refine ev_aload_n d_Mo_twoPoint_205 rfl rfl ?_
                    refine ev_callV M_Mo_keep (rm 0 0) _ (As := []) (c_Mo_keep G h σ m s1 s2 s3 s4 k0 k1 k2 k3 k4 n c bk S1 S2 S3 S4 K0 K1 K2 K3 K4 hm f4 f5 f6 f7 f8 f9 f10 f11 f12 f13 f14 f15 hs1 hs2 hs3 hs4 hk0 hk1 hk2 hk3 hk4 hc hbk n_s n_k) d_Mo_twoPoint_206 mk_Mo_keep ml_Mo_176 mv_Mo_keep hm rfl rfl rfl (Nat.le_of_ble_eq_true rfl) ⟨by decide, by decide⟩ ⟨by decide, by decide⟩ (fun r h8 hq => ?_)
                    obtain ⟨rfl, ⟨σ9, gm, g9, g10, gs⟩, gk0, gk1, gk2, gk3, gk4, fmk⟩ := hq
                    have hs1 := (fmk _ (ninc (cne hs1 hm (by simp)) (ninc (cne hs1 hk0 (by simp)) (ninc (cne hs1 hk1 (by simp)) (ninc (cne hs1 hk2 (by simp)) (ninc (cne hs1 hk3 (by simp)) (ninc (cne hs1 hk4 (by simp)) nin0))))))).trans hs1
                    have hs2 := (fmk _ (ninc (cne hs2 hm (by simp)) (ninc (cne hs2 hk0 (by simp)) (ninc (cne hs2 hk1 (by simp)) (ninc (cne hs2 hk2 (by simp)) (ninc (cne hs2 hk3 (by simp)) (ninc (cne hs2 hk4 (by simp)) nin0))))))).trans hs2
                    have hs3 := (fmk _ (ninc (cne hs3 hm (by simp)) (ninc (cne hs3 hk0 (by simp)) (ninc (cne hs3 hk1 (by simp)) (ninc (cne hs3 hk2 (by simp)) (ninc (cne hs3 hk3 (by simp)) (ninc (cne hs3 hk4 (by simp)) nin0))))))).trans hs3
                    have hs4 := (fmk _ (ninc (cne hs4 hm (by simp)) (ninc (cne hs4 hk0 (by simp)) (ninc (cne hs4 hk1 (by simp)) (ninc (cne hs4 hk2 (by simp)) (ninc (cne hs4 hk3 (by simp)) (ninc (cne hs4 hk4 (by simp)) nin0))))))).trans hs4
                    have hm := gm
                    have hk0 := gk0
                    have hk1 := gk1
                    have hk2 := gk2
                    have hk3 := gk3
                    have hk4 := gk4
                    have f4 := (gs 4 (by decide)).trans f4
                    have f5 := (gs 5 (by decide)).trans f5
                    have f6 := (gs 6 (by decide)).trans f6
                    have f7 := (gs 7 (by decide)).trans f7
                    have f8 := (gs 8 (by decide)).trans f8
                    have f11 := (gs 11 (by decide)).trans f11
                    have f12 := (gs 12 (by decide)).trans f12
                    have f13 := (gs 13 (by decide)).trans f13
                    have f14 := (gs 14 (by decide)).trans f14
                    have f15 := (gs 15 (by decide)).trans f15
                    have f2 := (gs 2 (by decide)).trans f2
                    have f3 := (gs 3 (by decide)).trans f3
                    have f9 := g9
                    have f10 := g10
                    have fm := fm.call (by simp) fmk
                    have fs := fs.call (by simp) gs
                    refine ev_iconst (v := iZ 0) d_Mo_twoPoint_209 rfl ?_
                    refine ev_istore (L' := [(0, .ref m), (1, .int (iZ va)), (2, .int (iZ vc)), (3, .int (iZ vb)), (4, .int (iZ vd)), (5, .long (lZ tk)), (7, .int (iZ 1)), (8, .int (iZ 0))]) d_Mo_twoPoint_210 (by decide) rfl ?_
                    refine lp_Mo_tp2 G _ h8 σ9 m s1 s2 n S1 S2 num den tk va vc vb vd f2 f3 f4 f5 f6 hnum hden htk htr hva hvc hvb hvd hok.1 n_s hT hE hn ?_ n 0 h8 (by omega) hm (by rw [fU_0]; exact hs1) (by rw [fU_0]; exact hs2) Fm.rf
                    intro h9 jm js1 js2 fm2
                    have hk09 := (fm2 _ (ninc (cne hk0 hs1 (by simp)) (ninc (cne hk0 hs2 (by simp)) nin0))).trans hk0
                    have hk19 := (fm2 _ (ninc (cne hk1 hs1 (by simp)) (ninc (cne hk1 hs2 (by simp)) nin0))).trans hk1
                    have hk29 := (fm2 _ (ninc (cne hk2 hs1 (by simp)) (ninc (cne hk2 hs2 (by simp)) nin0))).trans hk2
                    have hk39 := (fm2 _ (ninc (cne hk3 hs1 (by simp)) (ninc (cne hk3 hs2 (by simp)) nin0))).trans hk3
                    have hk49 := (fm2 _ (ninc (cne hk4 hs1 (by simp)) (ninc (cne hk4 hs2 (by simp)) nin0))).trans hk4
                    have fm := fm.call (by simp) fm2
                    refine ev_iconst (v := iZ 1) d_Mo_twoPoint_287 rfl ?_
                    exact ev_zreturn d_Mo_twoPoint_288 rfl (Or.inr rfl) (by decide) (by decide) ⟨fun q => absurd hok q, fun _ => ⟨rfl, ⟨σ9, jm, f9, f10, fs⟩, js1, js2, hk09, hk19, hk29, hk39, hk49, fm⟩⟩
