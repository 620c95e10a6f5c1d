theorem d_Po_init_0 : decode M_Po_init.2.1 0 = .ok (.aload_n 0, 1) := by decide +kernel
theorem d_Po_init_1 : decode M_Po_init.2.1 1 = .ok (.invokespecial 1, 3) := by decide +kernel
theorem d_Po_init_4 : decode M_Po_init.2.1 4 = .ok (.aload_n 0, 1) := by decide +kernel
theorem d_Po_init_5 : decode M_Po_init.2.1 5 = .ok (.lload_n 1, 1) := by decide +kernel
theorem d_Po_init_6 : decode M_Po_init.2.1 6 = .ok (.putfield 7, 3) := by decide +kernel
theorem d_Po_init_9 : decode M_Po_init.2.1 9 = .ok (.aload_n 0, 1) := by decide +kernel
theorem d_Po_init_10 : decode M_Po_init.2.1 10 = .ok (.iload_n 3, 1) := by decide +kernel
theorem d_Po_init_11 : decode M_Po_init.2.1 11 = .ok (.i2l, 1) := by decide +kernel
theorem d_Po_init_12 : decode M_Po_init.2.1 12 = .ok (.putfield 13, 3) := by decide +kernel
theorem d_Po_init_15 : decode M_Po_init.2.1 15 = .ok (.aload_n 0, 1) := by decide +kernel
theorem d_Po_init_16 : decode M_Po_init.2.1 16 = .ok (.iload 4, 2) := by decide +kernel
theorem d_Po_init_18 : decode M_Po_init.2.1 18 = .ok (.i2l, 1) := by decide +kernel
theorem d_Po_init_19 : decode M_Po_init.2.1 19 = .ok (.putfield 16, 3) := by decide +kernel
theorem d_Po_init_22 : decode M_Po_init.2.1 22 = .ok (.aload_n 0, 1) := by decide +kernel
theorem d_Po_init_23 : decode M_Po_init.2.1 23 = .ok (.iload 5, 2) := by decide +kernel
theorem d_Po_init_25 : decode M_Po_init.2.1 25 = .ok (.iload_n 3, 1) := by decide +kernel
theorem d_Po_init_26 : decode M_Po_init.2.1 26 = .ok (.isub, 1) := by decide +kernel
theorem d_Po_init_27 : decode M_Po_init.2.1 27 = .ok (.i2l, 1) := by decide +kernel
theorem d_Po_init_28 : decode M_Po_init.2.1 28 = .ok (.putfield 19, 3) := by decide +kernel
theorem d_Po_init_31 : decode M_Po_init.2.1 31 = .ok (.aload_n 0, 1) := by decide +kernel
theorem d_Po_init_32 : decode M_Po_init.2.1 32 = .ok (.iload 6, 2) := by decide +kernel
theorem d_Po_init_34 : decode M_Po_init.2.1 34 = .ok (.iload 4, 2) := by decide +kernel
theorem d_Po_init_36 : decode M_Po_init.2.1 36 = .ok (.isub, 1) := by decide +kernel
theorem d_Po_init_37 : decode M_Po_init.2.1 37 = .ok (.i2l, 1) := by decide +kernel
theorem d_Po_init_38 : decode M_Po_init.2.1 38 = .ok (.putfield 22, 3) := by decide +kernel
theorem d_Po_init_41 : decode M_Po_init.2.1 41 = .ok (.return_, 1) := by decide +kernel
theorem d_Po_of_0 : decode M_Po_of.2.1 0 = .ok (.aload_n 0, 1) := by decide +kernel
theorem d_Po_of_1 : decode M_Po_of.2.1 1 = .ok (.getfield 16, 3) := by decide +kernel
theorem d_Po_of_4 : decode M_Po_of.2.1 4 = .ok (.aload_n 0, 1) := by decide +kernel
theorem d_Po_of_5 : decode M_Po_of.2.1 5 = .ok (.getfield 7, 3) := by decide +kernel
theorem d_Po_of_8 : decode M_Po_of.2.1 8 = .ok (.lmul, 1) := by decide +kernel
theorem d_Po_of_9 : decode M_Po_of.2.1 9 = .ok (.aload_n 0, 1) := by decide +kernel
theorem d_Po_of_10 : decode M_Po_of.2.1 10 = .ok (.getfield 19, 3) := by decide +kernel
theorem d_Po_of_13 : decode M_Po_of.2.1 13 = .ok (.lmul, 1) := by decide +kernel
theorem d_Po_of_14 : decode M_Po_of.2.1 14 = .ok (.lload_n 1, 1) := by decide +kernel
theorem d_Po_of_15 : decode M_Po_of.2.1 15 = .ok (.aload_n 0, 1) := by decide +kernel
theorem d_Po_of_16 : decode M_Po_of.2.1 16 = .ok (.getfield 13, 3) := by decide +kernel
theorem d_Po_of_19 : decode M_Po_of.2.1 19 = .ok (.aload_n 0, 1) := by decide +kernel
theorem d_Po_of_20 : decode M_Po_of.2.1 20 = .ok (.getfield 7, 3) := by decide +kernel
theorem d_Po_of_23 : decode M_Po_of.2.1 23 = .ok (.lmul, 1) := by decide +kernel
theorem d_Po_of_24 : decode M_Po_of.2.1 24 = .ok (.lsub, 1) := by decide +kernel
theorem d_Po_of_25 : decode M_Po_of.2.1 25 = .ok (.aload_n 0, 1) := by decide +kernel
theorem d_Po_of_26 : decode M_Po_of.2.1 26 = .ok (.getfield 22, 3) := by decide +kernel
theorem d_Po_of_29 : decode M_Po_of.2.1 29 = .ok (.lmul, 1) := by decide +kernel
theorem d_Po_of_30 : decode M_Po_of.2.1 30 = .ok (.ladd, 1) := by decide +kernel
theorem d_Po_of_31 : decode M_Po_of.2.1 31 = .ok (.lstore_n 3, 1) := by decide +kernel
theorem d_Po_of_32 : decode M_Po_of.2.1 32 = .ok (.lload_n 3, 1) := by decide +kernel
theorem d_Po_of_33 : decode M_Po_of.2.1 33 = .ok (.aload_n 0, 1) := by decide +kernel
theorem d_Po_of_34 : decode M_Po_of.2.1 34 = .ok (.getfield 7, 3) := by decide +kernel
theorem d_Po_of_37 : decode M_Po_of.2.1 37 = .ok (.aload_n 0, 1) := by decide +kernel
theorem d_Po_of_38 : decode M_Po_of.2.1 38 = .ok (.getfield 19, 3) := by decide +kernel
theorem d_Po_of_41 : decode M_Po_of.2.1 41 = .ok (.lmul, 1) := by decide +kernel
theorem d_Po_of_42 : decode M_Po_of.2.1 42 = .ok (.invokestatic 25, 3) := by decide +kernel
theorem d_Po_of_45 : decode M_Po_of.2.1 45 = .ok (.aload_n 0, 1) := by decide +kernel
theorem d_Po_of_46 : decode M_Po_of.2.1 46 = .ok (.getfield 7, 3) := by decide +kernel
theorem d_Po_of_49 : decode M_Po_of.2.1 49 = .ok (.lmul, 1) := by decide +kernel
theorem d_Po_of_50 : decode M_Po_of.2.1 50 = .ok (.lreturn, 1) := by decide +kernel
theorem d_CB_twoPoint_0 : decode M_CB_twoPoint.2.1 0 = .ok (.aload_n 0, 1) := by decide +kernel
theorem d_CB_twoPoint_1 : decode M_CB_twoPoint.2.1 1 = .ok (.getfield 19, 3) := by decide +kernel
theorem d_CB_twoPoint_4 : decode M_CB_twoPoint.2.1 4 = .ok (.iload_n 1, 1) := by decide +kernel
theorem d_CB_twoPoint_5 : decode M_CB_twoPoint.2.1 5 = .ok (.invokevirtual 178, 3) := by decide +kernel
theorem d_CB_twoPoint_8 : decode M_CB_twoPoint.2.1 8 = .ok (.ifCond .eq 14, 3) := by decide +kernel
theorem d_CB_twoPoint_11 : decode M_CB_twoPoint.2.1 11 = .ok (.aload_n 0, 1) := by decide +kernel
theorem d_CB_twoPoint_12 : decode M_CB_twoPoint.2.1 12 = .ok (.getfield 19, 3) := by decide +kernel
theorem d_CB_twoPoint_15 : decode M_CB_twoPoint.2.1 15 = .ok (.iload_n 2, 1) := by decide +kernel
theorem d_CB_twoPoint_16 : decode M_CB_twoPoint.2.1 16 = .ok (.invokevirtual 178, 3) := by decide +kernel
theorem d_CB_twoPoint_19 : decode M_CB_twoPoint.2.1 19 = .ok (.ifCond .ne 5, 3) := by decide +kernel
theorem d_CB_twoPoint_22 : decode M_CB_twoPoint.2.1 22 = .ok (.iconst 0, 1) := by decide +kernel
theorem d_CB_twoPoint_23 : decode M_CB_twoPoint.2.1 23 = .ok (.ireturn, 1) := by decide +kernel
theorem d_CB_twoPoint_24 : decode M_CB_twoPoint.2.1 24 = .ok (.aload_n 0, 1) := by decide +kernel
theorem d_CB_twoPoint_25 : decode M_CB_twoPoint.2.1 25 = .ok (.getfield 19, 3) := by decide +kernel
theorem d_CB_twoPoint_28 : decode M_CB_twoPoint.2.1 28 = .ok (.iload_n 3, 1) := by decide +kernel
theorem d_CB_twoPoint_29 : decode M_CB_twoPoint.2.1 29 = .ok (.invokevirtual 178, 3) := by decide +kernel
theorem d_CB_twoPoint_32 : decode M_CB_twoPoint.2.1 32 = .ok (.ifCond .eq 15, 3) := by decide +kernel
theorem d_CB_twoPoint_35 : decode M_CB_twoPoint.2.1 35 = .ok (.aload_n 0, 1) := by decide +kernel
theorem d_CB_twoPoint_36 : decode M_CB_twoPoint.2.1 36 = .ok (.getfield 19, 3) := by decide +kernel
theorem d_CB_twoPoint_39 : decode M_CB_twoPoint.2.1 39 = .ok (.iload 4, 2) := by decide +kernel
theorem d_CB_twoPoint_41 : decode M_CB_twoPoint.2.1 41 = .ok (.invokevirtual 178, 3) := by decide +kernel
theorem d_CB_twoPoint_44 : decode M_CB_twoPoint.2.1 44 = .ok (.ifCond .ne 5, 3) := by decide +kernel
theorem d_CB_twoPoint_47 : decode M_CB_twoPoint.2.1 47 = .ok (.iconst 0, 1) := by decide +kernel
theorem d_CB_twoPoint_48 : decode M_CB_twoPoint.2.1 48 = .ok (.ireturn, 1) := by decide +kernel
theorem d_CB_twoPoint_49 : decode M_CB_twoPoint.2.1 49 = .ok (.iload_n 1, 1) := by decide +kernel
theorem d_CB_twoPoint_50 : decode M_CB_twoPoint.2.1 50 = .ok (.iload_n 3, 1) := by decide +kernel
theorem d_CB_twoPoint_51 : decode M_CB_twoPoint.2.1 51 = .ok (.if_icmp .eq 33, 3) := by decide +kernel
theorem d_CB_twoPoint_54 : decode M_CB_twoPoint.2.1 54 = .ok (.iload_n 2, 1) := by decide +kernel
theorem d_CB_twoPoint_55 : decode M_CB_twoPoint.2.1 55 = .ok (.iload 4, 2) := by decide +kernel
theorem d_CB_twoPoint_57 : decode M_CB_twoPoint.2.1 57 = .ok (.if_icmp .eq 27, 3) := by decide +kernel
theorem d_CB_twoPoint_60 : decode M_CB_twoPoint.2.1 60 = .ok (.iload_n 1, 1) := by decide +kernel
theorem d_CB_twoPoint_61 : decode M_CB_twoPoint.2.1 61 = .ok (.iload_n 3, 1) := by decide +kernel
theorem d_CB_twoPoint_62 : decode M_CB_twoPoint.2.1 62 = .ok (.if_icmp .ge 7, 3) := by decide +kernel
theorem d_CB_twoPoint_65 : decode M_CB_twoPoint.2.1 65 = .ok (.iconst 1, 1) := by decide +kernel
theorem d_CB_twoPoint_66 : decode M_CB_twoPoint.2.1 66 = .ok (.goto 4, 3) := by decide +kernel
theorem d_CB_twoPoint_69 : decode M_CB_twoPoint.2.1 69 = .ok (.iconst 0, 1) := by decide +kernel
theorem d_CB_twoPoint_70 : decode M_CB_twoPoint.2.1 70 = .ok (.iload_n 2, 1) := by decide +kernel
theorem d_CB_twoPoint_71 : decode M_CB_twoPoint.2.1 71 = .ok (.iload 4, 2) := by decide +kernel
theorem d_CB_twoPoint_73 : decode M_CB_twoPoint.2.1 73 = .ok (.if_icmp .ge 7, 3) := by decide +kernel
theorem d_CB_twoPoint_76 : decode M_CB_twoPoint.2.1 76 = .ok (.iconst 1, 1) := by decide +kernel
theorem d_CB_twoPoint_77 : decode M_CB_twoPoint.2.1 77 = .ok (.goto 4, 3) := by decide +kernel
theorem d_CB_twoPoint_80 : decode M_CB_twoPoint.2.1 80 = .ok (.iconst 0, 1) := by decide +kernel
theorem d_CB_twoPoint_81 : decode M_CB_twoPoint.2.1 81 = .ok (.if_icmp .eq 5, 3) := by decide +kernel
theorem d_CB_twoPoint_84 : decode M_CB_twoPoint.2.1 84 = .ok (.iconst 0, 1) := by decide +kernel
theorem d_CB_twoPoint_85 : decode M_CB_twoPoint.2.1 85 = .ok (.ireturn, 1) := by decide +kernel
theorem d_CB_twoPoint_86 : decode M_CB_twoPoint.2.1 86 = .ok (.iload_n 1, 1) := by decide +kernel
theorem d_CB_twoPoint_87 : decode M_CB_twoPoint.2.1 87 = .ok (.iload_n 3, 1) := by decide +kernel
theorem d_CB_twoPoint_88 : decode M_CB_twoPoint.2.1 88 = .ok (.if_icmp .ge 25, 3) := by decide +kernel
theorem d_CB_twoPoint_91 : decode M_CB_twoPoint.2.1 91 = .ok (.new 181, 3) := by decide +kernel
theorem d_CB_twoPoint_94 : decode M_CB_twoPoint.2.1 94 = .ok (.dup, 1) := by decide +kernel
theorem d_CB_twoPoint_95 : decode M_CB_twoPoint.2.1 95 = .ok (.aload_n 0, 1) := by decide +kernel
theorem d_CB_twoPoint_96 : decode M_CB_twoPoint.2.1 96 = .ok (.getfield 19, 3) := by decide +kernel
theorem d_CB_twoPoint_99 : decode M_CB_twoPoint.2.1 99 = .ok (.getfield 183, 3) := by decide +kernel
theorem d_CB_twoPoint_102 : decode M_CB_twoPoint.2.1 102 = .ok (.iload_n 1, 1) := by decide +kernel
theorem d_CB_twoPoint_103 : decode M_CB_twoPoint.2.1 103 = .ok (.iload_n 2, 1) := by decide +kernel
theorem d_CB_twoPoint_104 : decode M_CB_twoPoint.2.1 104 = .ok (.iload_n 3, 1) := by decide +kernel
theorem d_CB_twoPoint_105 : decode M_CB_twoPoint.2.1 105 = .ok (.iload 4, 2) := by decide +kernel
theorem d_CB_twoPoint_107 : decode M_CB_twoPoint.2.1 107 = .ok (.invokespecial 187, 3) := by decide +kernel
theorem d_CB_twoPoint_110 : decode M_CB_twoPoint.2.1 110 = .ok (.goto 22, 3) := by decide +kernel
theorem d_CB_twoPoint_113 : decode M_CB_twoPoint.2.1 113 = .ok (.new 181, 3) := by decide +kernel
theorem d_CB_twoPoint_116 : decode M_CB_twoPoint.2.1 116 = .ok (.dup, 1) := by decide +kernel
theorem d_CB_twoPoint_117 : decode M_CB_twoPoint.2.1 117 = .ok (.aload_n 0, 1) := by decide +kernel
theorem d_CB_twoPoint_118 : decode M_CB_twoPoint.2.1 118 = .ok (.getfield 19, 3) := by decide +kernel
theorem d_CB_twoPoint_121 : decode M_CB_twoPoint.2.1 121 = .ok (.getfield 183, 3) := by decide +kernel
theorem d_CB_twoPoint_124 : decode M_CB_twoPoint.2.1 124 = .ok (.iload_n 3, 1) := by decide +kernel
theorem d_CB_twoPoint_125 : decode M_CB_twoPoint.2.1 125 = .ok (.iload 4, 2) := by decide +kernel
theorem d_CB_twoPoint_127 : decode M_CB_twoPoint.2.1 127 = .ok (.iload_n 1, 1) := by decide +kernel
theorem d_CB_twoPoint_128 : decode M_CB_twoPoint.2.1 128 = .ok (.iload_n 2, 1) := by decide +kernel
theorem d_CB_twoPoint_129 : decode M_CB_twoPoint.2.1 129 = .ok (.invokespecial 187, 3) := by decide +kernel
theorem d_CB_twoPoint_132 : decode M_CB_twoPoint.2.1 132 = .ok (.astore 5, 2) := by decide +kernel
theorem d_CB_twoPoint_134 : decode M_CB_twoPoint.2.1 134 = .ok (.iconst 0, 1) := by decide +kernel
theorem d_CB_twoPoint_135 : decode M_CB_twoPoint.2.1 135 = .ok (.istore 6, 2) := by decide +kernel
theorem d_CB_twoPoint_137 : decode M_CB_twoPoint.2.1 137 = .ok (.iload 6, 2) := by decide +kernel
theorem d_CB_twoPoint_139 : decode M_CB_twoPoint.2.1 139 = .ok (.aload_n 0, 1) := by decide +kernel
theorem d_CB_twoPoint_140 : decode M_CB_twoPoint.2.1 140 = .ok (.getfield 33, 3) := by decide +kernel
theorem d_CB_twoPoint_143 : decode M_CB_twoPoint.2.1 143 = .ok (.getfield 112, 3) := by decide +kernel
theorem d_CB_twoPoint_146 : decode M_CB_twoPoint.2.1 146 = .ok (.if_icmp .ge 69, 3) := by decide +kernel
theorem d_CB_twoPoint_149 : decode M_CB_twoPoint.2.1 149 = .ok (.aload 5, 2) := by decide +kernel
theorem d_CB_twoPoint_151 : decode M_CB_twoPoint.2.1 151 = .ok (.aload_n 0, 1) := by decide +kernel
theorem d_CB_twoPoint_152 : decode M_CB_twoPoint.2.1 152 = .ok (.getfield 33, 3) := by decide +kernel
theorem d_CB_twoPoint_155 : decode M_CB_twoPoint.2.1 155 = .ok (.getfield 126, 3) := by decide +kernel
theorem d_CB_twoPoint_158 : decode M_CB_twoPoint.2.1 158 = .ok (.iload 6, 2) := by decide +kernel
theorem d_CB_twoPoint_160 : decode M_CB_twoPoint.2.1 160 = .ok (.laload, 1) := by decide +kernel
theorem d_CB_twoPoint_161 : decode M_CB_twoPoint.2.1 161 = .ok (.invokevirtual 190, 3) := by decide +kernel
theorem d_CB_twoPoint_164 : decode M_CB_twoPoint.2.1 164 = .ok (.lstore 7, 2) := by decide +kernel
theorem d_CB_twoPoint_166 : decode M_CB_twoPoint.2.1 166 = .ok (.aload 5, 2) := by decide +kernel
theorem d_CB_twoPoint_168 : decode M_CB_twoPoint.2.1 168 = .ok (.aload_n 0, 1) := by decide +kernel
theorem d_CB_twoPoint_169 : decode M_CB_twoPoint.2.1 169 = .ok (.getfield 33, 3) := by decide +kernel
theorem d_CB_twoPoint_172 : decode M_CB_twoPoint.2.1 172 = .ok (.getfield 130, 3) := by decide +kernel
theorem d_CB_twoPoint_175 : decode M_CB_twoPoint.2.1 175 = .ok (.iload 6, 2) := by decide +kernel
theorem d_CB_twoPoint_177 : decode M_CB_twoPoint.2.1 177 = .ok (.laload, 1) := by decide +kernel
theorem d_CB_twoPoint_178 : decode M_CB_twoPoint.2.1 178 = .ok (.invokevirtual 190, 3) := by decide +kernel
theorem d_CB_twoPoint_181 : decode M_CB_twoPoint.2.1 181 = .ok (.lstore 9, 2) := by decide +kernel
theorem d_CB_twoPoint_183 : decode M_CB_twoPoint.2.1 183 = .ok (.lload 7, 2) := by decide +kernel
theorem d_CB_twoPoint_185 : decode M_CB_twoPoint.2.1 185 = .ok (.lconst 0, 1) := by decide +kernel
theorem d_CB_twoPoint_186 : decode M_CB_twoPoint.2.1 186 = .ok (.lcmp, 1) := by decide +kernel
theorem d_CB_twoPoint_187 : decode M_CB_twoPoint.2.1 187 = .ok (.ifCond .lt 20, 3) := by decide +kernel
theorem d_CB_twoPoint_190 : decode M_CB_twoPoint.2.1 190 = .ok (.lload 9, 2) := by decide +kernel
theorem d_CB_twoPoint_192 : decode M_CB_twoPoint.2.1 192 = .ok (.ldc2_w 194, 3) := by decide +kernel
theorem d_CB_twoPoint_195 : decode M_CB_twoPoint.2.1 195 = .ok (.lcmp, 1) := by decide +kernel
theorem d_CB_twoPoint_196 : decode M_CB_twoPoint.2.1 196 = .ok (.ifCond .gt 11, 3) := by decide +kernel
theorem d_CB_twoPoint_199 : decode M_CB_twoPoint.2.1 199 = .ok (.lload 9, 2) := by decide +kernel
theorem d_CB_twoPoint_201 : decode M_CB_twoPoint.2.1 201 = .ok (.lload 7, 2) := by decide +kernel
theorem d_CB_twoPoint_203 : decode M_CB_twoPoint.2.1 203 = .ok (.lcmp, 1) := by decide +kernel
theorem d_CB_twoPoint_204 : decode M_CB_twoPoint.2.1 204 = .ok (.ifCond .gt 5, 3) := by decide +kernel
theorem d_CB_twoPoint_207 : decode M_CB_twoPoint.2.1 207 = .ok (.iconst 0, 1) := by decide +kernel
theorem d_CB_twoPoint_208 : decode M_CB_twoPoint.2.1 208 = .ok (.ireturn, 1) := by decide +kernel
theorem d_CB_twoPoint_209 : decode M_CB_twoPoint.2.1 209 = .ok (.iinc 6 1, 3) := by decide +kernel
theorem d_CB_twoPoint_212 : decode M_CB_twoPoint.2.1 212 = .ok (.goto (-75), 3) := by decide +kernel
theorem d_CB_twoPoint_215 : decode M_CB_twoPoint.2.1 215 = .ok (.aload_n 0, 1) := by decide +kernel
theorem d_CB_twoPoint_216 : decode M_CB_twoPoint.2.1 216 = .ok (.getfield 40, 3) := by decide +kernel
theorem d_CB_twoPoint_219 : decode M_CB_twoPoint.2.1 219 = .ok (.aload_n 0, 1) := by decide +kernel
theorem d_CB_twoPoint_220 : decode M_CB_twoPoint.2.1 220 = .ok (.getfield 33, 3) := by decide +kernel
theorem d_CB_twoPoint_223 : decode M_CB_twoPoint.2.1 223 = .ok (.invokevirtual 103, 3) := by decide +kernel
theorem d_CB_twoPoint_226 : decode M_CB_twoPoint.2.1 226 = .ok (.iconst 0, 1) := by decide +kernel
theorem d_CB_twoPoint_227 : decode M_CB_twoPoint.2.1 227 = .ok (.istore 6, 2) := by decide +kernel
theorem d_CB_twoPoint_229 : decode M_CB_twoPoint.2.1 229 = .ok (.iload 6, 2) := by decide +kernel
theorem d_CB_twoPoint_231 : decode M_CB_twoPoint.2.1 231 = .ok (.aload_n 0, 1) := by decide +kernel
theorem d_CB_twoPoint_232 : decode M_CB_twoPoint.2.1 232 = .ok (.getfield 33, 3) := by decide +kernel
theorem d_CB_twoPoint_235 : decode M_CB_twoPoint.2.1 235 = .ok (.getfield 112, 3) := by decide +kernel
theorem d_CB_twoPoint_238 : decode M_CB_twoPoint.2.1 238 = .ok (.if_icmp .ge 59, 3) := by decide +kernel
theorem d_CB_twoPoint_241 : decode M_CB_twoPoint.2.1 241 = .ok (.aload_n 0, 1) := by decide +kernel
theorem d_CB_twoPoint_242 : decode M_CB_twoPoint.2.1 242 = .ok (.getfield 33, 3) := by decide +kernel
theorem d_CB_twoPoint_245 : decode M_CB_twoPoint.2.1 245 = .ok (.getfield 126, 3) := by decide +kernel
theorem d_CB_twoPoint_248 : decode M_CB_twoPoint.2.1 248 = .ok (.iload 6, 2) := by decide +kernel
theorem d_CB_twoPoint_250 : decode M_CB_twoPoint.2.1 250 = .ok (.aload 5, 2) := by decide +kernel
theorem d_CB_twoPoint_252 : decode M_CB_twoPoint.2.1 252 = .ok (.aload_n 0, 1) := by decide +kernel
theorem d_CB_twoPoint_253 : decode M_CB_twoPoint.2.1 253 = .ok (.getfield 33, 3) := by decide +kernel
theorem d_CB_twoPoint_256 : decode M_CB_twoPoint.2.1 256 = .ok (.getfield 126, 3) := by decide +kernel
theorem d_CB_twoPoint_259 : decode M_CB_twoPoint.2.1 259 = .ok (.iload 6, 2) := by decide +kernel
theorem d_CB_twoPoint_261 : decode M_CB_twoPoint.2.1 261 = .ok (.laload, 1) := by decide +kernel
theorem d_CB_twoPoint_262 : decode M_CB_twoPoint.2.1 262 = .ok (.invokevirtual 190, 3) := by decide +kernel
theorem d_CB_twoPoint_265 : decode M_CB_twoPoint.2.1 265 = .ok (.lastore, 1) := by decide +kernel
theorem d_CB_twoPoint_266 : decode M_CB_twoPoint.2.1 266 = .ok (.aload_n 0, 1) := by decide +kernel
theorem d_CB_twoPoint_267 : decode M_CB_twoPoint.2.1 267 = .ok (.getfield 33, 3) := by decide +kernel
theorem d_CB_twoPoint_270 : decode M_CB_twoPoint.2.1 270 = .ok (.getfield 130, 3) := by decide +kernel
theorem d_CB_twoPoint_273 : decode M_CB_twoPoint.2.1 273 = .ok (.iload 6, 2) := by decide +kernel
theorem d_CB_twoPoint_275 : decode M_CB_twoPoint.2.1 275 = .ok (.aload 5, 2) := by decide +kernel
theorem d_CB_twoPoint_277 : decode M_CB_twoPoint.2.1 277 = .ok (.aload_n 0, 1) := by decide +kernel
theorem d_CB_twoPoint_278 : decode M_CB_twoPoint.2.1 278 = .ok (.getfield 33, 3) := by decide +kernel
theorem d_CB_twoPoint_281 : decode M_CB_twoPoint.2.1 281 = .ok (.getfield 130, 3) := by decide +kernel
theorem d_CB_twoPoint_284 : decode M_CB_twoPoint.2.1 284 = .ok (.iload 6, 2) := by decide +kernel
theorem d_CB_twoPoint_286 : decode M_CB_twoPoint.2.1 286 = .ok (.laload, 1) := by decide +kernel
theorem d_CB_twoPoint_287 : decode M_CB_twoPoint.2.1 287 = .ok (.invokevirtual 190, 3) := by decide +kernel
theorem d_CB_twoPoint_290 : decode M_CB_twoPoint.2.1 290 = .ok (.lastore, 1) := by decide +kernel
theorem d_CB_twoPoint_291 : decode M_CB_twoPoint.2.1 291 = .ok (.iinc 6 1, 3) := by decide +kernel
theorem d_CB_twoPoint_294 : decode M_CB_twoPoint.2.1 294 = .ok (.goto (-65), 3) := by decide +kernel
theorem d_CB_twoPoint_297 : decode M_CB_twoPoint.2.1 297 = .ok (.iconst 1, 1) := by decide +kernel
theorem d_CB_twoPoint_298 : decode M_CB_twoPoint.2.1 298 = .ok (.ireturn, 1) := by decide +kernel
def mapZ (tk a c b d t : Int) : Int := nearZ (c * tk * (b - a) + (t - a * tk) * (d - c)) (tk * (b - a))
def mp (tk a c b d t : Int) : Int := if a < b then mapZ tk a c b d t else mapZ tk b d a c t
def inF (tk a : Int) : Prop := 0 ≤ a ∧ a * tk ≤ 2540160000000
def tpR (tk A C B D : Int) : Prop := (11760000 ≤ tk ∧ tk ≤ 705600000) ∧ inF tk A ∧ inF tk C ∧ inF tk B ∧ inF tk D ∧ A < B ∧ C < D
def tpP (tk a c b d : Int) : Prop := inF tk a ∧ inF tk c ∧ inF tk b ∧ inF tk d ∧ a ≠ b ∧ c ≠ d ∧ (a < b ↔ c < d)
def tpOK (tk a c b d : Int) (K1 K2 : Nat → Int) (n : Nat) : Prop := tpP tk a c b d ∧ ∀ i, i < n → 0 ≤ mp tk a c b d (K1 i) * tk ∧ mp tk a c b d (K2 i) * tk ≤ 2540160000000 ∧ mp tk a c b d (K1 i) * tk < mp tk a c b d (K2 i) * tk
theorem mulB {x y L M : Int} (h1 : -L ≤ x) (h2 : x ≤ L) (h3 : 0 ≤ y) (h4 : y ≤ M) : -(L * M) ≤ x * y ∧ x * y ≤ L * M := by
  have a := Int.mul_le_mul_of_nonneg_right h2 h3
  have b := Int.mul_le_mul_of_nonneg_left h4 (show 0 ≤ L by omega)
  have c := Int.mul_le_mul_of_nonneg_right h1 h3
  have e : -L * y = -(L * y) := Int.neg_mul ..
  omega
theorem inF_le {tk a : Int} (ht : 11760000 ≤ tk) (h : inF tk a) : 0 ≤ a ∧ a ≤ 216000 := by
  have := Int.mul_le_mul_of_nonneg_left ht h.1
  have := h.1
  have := h.2
  omega
theorem tp_le {tk A C B D : Int} (h : tpR tk A C B D) : (0 ≤ A ∧ A ≤ 216000) ∧ (0 ≤ C ∧ C ≤ 216000) ∧ (0 ≤ B ∧ B ≤ 216000) ∧ (0 ≤ D ∧ D ≤ 216000) := by
  obtain ⟨⟨h1, h2⟩, a, c, b, d, _⟩ := h
  exact ⟨inF_le h1 a, inF_le h1 c, inF_le h1 b, inF_le h1 d⟩
theorem tp_bot {tk A C B D : Int} (h : tpR tk A C B D) : (0 < tk * (B - A) ∧ tk * (B - A) ≤ 2540160000000) ∧ tk ≤ tk * (B - A) := by
  obtain ⟨⟨h1, h2⟩, a, c, b, d, ab, cd⟩ := h
  have e : tk * (B - A) = B * tk - A * tk := by grind
  have g : tk * 1 ≤ tk * (B - A) := Int.mul_le_mul_of_nonneg_left (by omega) (by omega)
  have f : 0 ≤ A * tk := Int.mul_nonneg a.1 (by omega)
  have := b.2
  omega
theorem tp_top {tk A C B D t : Int} (h : tpR tk A C B D) (ht : 0 ≤ t ∧ t ≤ 2540160000000) : -1200000000000000000 ≤ C * tk * (B - A) + (t - A * tk) * (D - C) ∧ C * tk * (B - A) + (t - A * tk) * (D - C) ≤ 1200000000000000000 := by
  obtain ⟨la, lc, lb, ld⟩ := tp_le h
  obtain ⟨⟨h1, h2⟩, a, c, b, d, ab, cd⟩ := h
  have f : 0 ≤ A * tk := Int.mul_nonneg a.1 (by omega)
  have f2 : 0 ≤ C * tk := Int.mul_nonneg c.1 (by omega)
  have u := mulB (x := C * tk) (y := B - A) (L := 2540160000000) (M := 216000) (by omega) c.2 (by omega) (by omega)
  have v := mulB (x := t - A * tk) (y := D - C) (L := 2540160000000) (M := 216000) (by have := a.2; omega) (by omega) (by omega) (by omega)
  omega
theorem near_b {a b : Int} (hb : 0 < b) : a - b ≤ nearZ a b * b ∧ nearZ a b * b ≤ a + b := by
  have h := dmul (a := a) (b := b)
  have h0 := Int.emod_nonneg a (show b ≠ 0 by omega)
  have h1 := Int.emod_lt_of_pos a hb
  unfold nearZ
  split
  · rw [Int.add_mul]; omega
  · omega
theorem mul_sm {x k b L : Int} (hk : 0 < k) (hb : k ≤ b) (h1 : -L ≤ x * b) (h2 : x * b ≤ L) : (-L ≤ x * k ∧ x * k ≤ L) ∧ -L ≤ x ∧ x ≤ L := by
  have aux : ∀ c, 0 < c → c ≤ b → -L ≤ x * c ∧ x * c ≤ L := by
    intro c hc hcb
    by_cases q : 0 ≤ x
    · have := Int.mul_le_mul_of_nonneg_left hcb q
      have : 0 ≤ x * c := Int.mul_nonneg q (by omega)
      omega
    · have := Int.mul_le_mul_of_nonpos_left (a := x) (by omega) hcb
      have : x * c ≤ 0 := Int.mul_nonpos_of_nonpos_of_nonneg (by omega) (by omega)
      omega
  have := aux 1 (by omega) (by omega)
  exact ⟨aux k hk hb, by omega, by omega⟩
theorem map_r {tk A C B D t : Int} (h : tpR tk A C B D) (ht : 0 ≤ t ∧ t ≤ 2540160000000) : (-1300000000000000000 ≤ mapZ tk A C B D t * tk ∧ mapZ tk A C B D t * tk ≤ 1300000000000000000) ∧ -1300000000000000000 ≤ mapZ tk A C B D t ∧ mapZ tk A C B D t ≤ 1300000000000000000 := by
  have ⟨⟨b1, b2⟩, b3⟩ := tp_bot h
  have ⟨u, v⟩ := tp_top h ht
  have ⟨n1, n2⟩ := near_b (a := C * tk * (B - A) + (t - A * tk) * (D - C)) b1
  have ⟨⟨k1, _⟩, _⟩ := h
  unfold mapZ
  exact mul_sm (by omega) b3 (by omega) (by omega)
theorem mp_of {tk a c b d t : Int} (h : a < b) : mp tk a c b d t = mapZ tk a c b d t := if_pos h
theorem mp_sw {tk a c b d t : Int} (h : ¬ a < b) : mp tk a c b d t = mapZ tk b d a c t := if_neg h
theorem tp_R {tk a c b d : Int} (h1 : 11760000 ≤ tk ∧ tk ≤ 705600000) (h : tpP tk a c b d) : (a < b ∧ tpR tk a c b d) ∨ (b < a ∧ tpR tk b d a c) := by
  obtain ⟨pa, pc, pb, pd, ab, cd, o⟩ := h
  by_cases q : a < b
  · exact Or.inl ⟨q, h1, pa, pc, pb, pd, q, o.mp q⟩
  · have : ¬ c < d := fun w => q (o.mpr w)
    exact Or.inr ⟨by omega, h1, pb, pd, pa, pc, by omega, by omega⟩
def fU (f : Int → Int) (K : Nat → Int) (i : Nat) : Nat → Int := fun k => if k < i then f (K k) else K k
theorem fU_0 {f : Int → Int} {K : Nat → Int} : fU f K 0 = K := by
  funext k
  exact if_neg (by omega)
theorem fU_i {f : Int → Int} {K : Nat → Int} {i : Nat} : fU f K i i = K i := if_neg (by omega)
theorem fU_s {f : Int → Int} {K : Nat → Int} {i : Nat} : zup (fU f K i) i (f (fU f K i i)) = fU f K (i + 1) := by
  funext k
  show (if k = i then f (fU f K i i) else if k < i then f (K k) else K k) = if k < i + 1 then f (K k) else K k
  rw [fU_i]
  by_cases q : k = i
  · subst q; rw [if_pos rfl, if_pos (by omega)]
  · rw [if_neg q]
    by_cases q2 : k < i
    · rw [if_pos q2, if_pos (by omega)]
    · rw [if_neg q2, if_neg (by omega)]
theorem holdZ_0 {t f : Int} (h : holdZ t f = 0) : ¬ inF t f := by
  unfold holdZ at h
  split at h
  · omega
  · assumption
theorem holdZ_1 {t f : Int} (h : holdZ t f ≠ 0) : inF t f := by
  unfold holdZ at h
  split at h
  · assumption
  · omega
theorem holdZ_r (t f : Int) : holdZ t f = 0 ∨ holdZ t f = 1 := by
  unfold holdZ
  split <;> omega
theorem frm_r {tk a : Int} (h : 0 ≤ tk ∧ tk ≤ 705600000) (ha : iR a) : -9000000000000000000 < a * tk ∧ a * tk < 9000000000000000000 := by
  have := mulB (x := a) (y := tk) (L := 2147483648) (M := 705600000) (by have := ha.1; omega) (by have := ha.2; omega) h.1 h.2
  omega
theorem PaW.fm {G : GT} {h h' : HM} {top p pk nx ct : Nat} {Kp : Nat → Option Nat} {Ke : Nat → Nat} {C : Nat → Cu} {S : List Nat} (w : PaW G h top p pk nx ct Kp Ke C) (f : Fm S h h') (hs : ∀ b ∈ S, b ≤ top ∧ b ≠ p ∧ b ≠ pk) : PaW G h' top p pk nx ct Kp Ke C :=
  w.mv (fun b e hb hc => (f b (fun q => by obtain ⟨q1, q2, q3⟩ := hs b q; omega)).trans hb)
theorem Fb.fm {top : Nat} {S S' S2 : List Nat} {h h1 h2 : HM} (f : Fb top S h h1) (g : Fm S' h1 h2) (hs : ∀ b ∈ S, b ∈ S2) (hs' : ∀ b ∈ S', b ∈ S2) : Fb top S2 h h2 := fun b e hb ht hn => (g b (fun q => hn (hs' b q))).trans (f b e hb ht (fun q => hn (hs b q)))
set_option maxHeartbeats 4000000 in
set_option maxRecDepth 100000 in
theorem c_Pa_keepP (G : GT) (h : HM) (top p pk o o1 o2 o3 o4 nx ct n : Nat) (Kp : Nat → Option Nat) (Ke : Nat → Nat) (C : Nat → Cu) (K1 K2 K3 K4 : Nat → Int) (hW : PaW G h top p pk nx ct Kp Ke C)
    (ho : h o = some (.inr (2, [.ref o1, .ref o2, .ref o3, .ref o4, .int (iZ (n : Int))]))) (ho1 : h o1 = some (.inl (G_j G, 16, .inr (.inl (lA K1))))) (ho2 : h o2 = some (.inl (G_j G, 16, .inr (.inl (lA K2))))) (ho3 : h o3 = some (.inl (G_i G, 16, .inl (iA K3)))) (ho4 : h o4 = some (.inl (G_i G, 1024, .inl (iA K4)))) (hn : n ≤ 16) (htop : ∃ e, h top = some e) (hle : p ≤ top ∧ pk ≤ top ∧ o ≤ top ∧ o1 ≤ top ∧ o2 ≤ top ∧ o3 ≤ top ∧ o4 ≤ top) (n_o1_o2 : o1 ≠ o2) :
    Rn G M_Pa_keep ({ frames := 2, cells := 5, slots := 1077, locals := 61 }) [.ref p, .ref o] h (fun r h' => r = none ∧ (∃ Kp' Ke', PaW G h' top p pk ((nx + 1) % 10) (min (ct + 1) 10) Kp' Ke' (fun j => if j = nx then (n, K1, K2, K3, K4) else C j) ∧ (∃ q, Kp' nx = some q) ∧ ∀ j, j ≠ nx → Kp' j = Kp j) ∧ Fb top [p, pk] h h' ∧ ∀ b fs, h b = some (.inr (8, fs)) → h' b = some (.inr (8, fs))) := by
  obtain ⟨w1, w2, w3, w4, w5, w6⟩ := hW
  obtain ⟨te, htop⟩ := htop
  have ce := cue_cpy (n := n) (K1 := K1) (K2 := K2) (K3 := K3) (K4 := K4) (F1 := fun _ => 0) (F2 := fun _ => 0) (F3 := fun _ => 0) (F4 := fun _ => 0)
  cases hK : Kp nx with
  | none =>
    refine rn_mono (c_Pa_keepN G h p pk o o1 o2 o3 o4 Kp nx ct n K1 K2 K3 K4 w3 w4 ho ho1 ho2 ho3 ho4 w1 w2 hn hK n_o1_o2) ?_
    rintro r h' ⟨rfl, q, q1, q2, q3, q4, ltq, l1, l2, l3, l4, hp, hpk, hq, hq1, hq2, hq3, hq4, fx⟩
    have htq := ltq _ _ htop
    refine ⟨rfl, ⟨va_up Kp nx (some q), (fun j => if j = nx then q4 else Ke j), ⟨Nat.mod_lt _ (by decide), by omega, hp, hpk, ?_, ?_⟩, ⟨q, if_pos rfl⟩, fun j hj => if_neg hj⟩, fun b e hb _ hs => fx b e hb hs, fun b fs hb => fx b _ hb (ninc (cne hb w3 (by simp)) (ninc (cne hb w4 (by simp)) nin0))⟩
    · intro j hj z hz
      by_cases qj : j = nx
      · subst qj
        have hz2 : va_up Kp j (some q) j = some q := if_pos rfl
        obtain rfl : q = z := Option.some.inj (hz2.symm.trans hz)
        refine ⟨htq, ?_⟩
        try dsimp only
        rw [if_pos rfl, if_pos rfl]
        exact ⟨q1, q2, q3, _, l1, l2, l3, l4, ce, hn, hq, hq1, hq2, hq3, hq4⟩
      · have hz2 : va_up Kp nx (some q) j = Kp j := if_neg qj
        rw [hz2] at hz
        obtain ⟨t1, t2⟩ := w5 j hj z hz
        try dsimp only
        rw [if_neg qj, if_neg qj]
        exact ⟨t1, t2.keep (fun b x hb b1 b2 => fx b x hb (ninc (by omega) (ninc (by omega) nin0)))⟩
    · intro i j hi hj hij a b ha hb
      by_cases qi : i = nx
      · have hb2 : va_up Kp nx (some q) j = Kp j := if_neg (by omega)
        rw [hb2] at hb
        obtain ⟨t1, q1', q2', q3', c', m1, m2, m3, m4, ce', cn', b0, b1, b2, b3, b4⟩ := w5 j hj b hb
        have := ltq _ _ b4
        rw [qi] at ha
        have ha2 : va_up Kp nx (some q) nx = some q := if_pos rfl
        obtain rfl : q = a := Option.some.inj (ha2.symm.trans ha)
        right
        try dsimp only
        rw [if_neg (by omega)]
        exact this
      · have ha2 : va_up Kp nx (some q) i = Kp i := if_neg qi
        rw [ha2] at ha
        try dsimp only
        rw [if_neg qi]
        by_cases qj : j = nx
        · obtain ⟨t1, q1', q2', q3', c', m1, m2, m3, m4, ce', cn', b0, b1, b2, b3, b4⟩ := w5 i hi a ha
          have := ltq _ _ b4
          rw [qj] at hb
          have hb2 : va_up Kp nx (some q) nx = some q := if_pos rfl
          obtain rfl : q = b := Option.some.inj (hb2.symm.trans hb)
          left
          exact this
        · have hb2 : va_up Kp nx (some q) j = Kp j := if_neg qj
          rw [hb2] at hb
          try dsimp only
          rw [if_neg qj]
          exact w6 i j hi hj hij a b ha hb
  | some q =>
    obtain ⟨t1, q1, q2, q3, ⟨n0, F1, F2, F3, F4⟩, m1, m2, m3, m4, ce', cn', b0, b1, b2, b3, b4⟩ := w5 nx w1 q hK
    refine rn_mono (c_Pa_keepR G h p pk q q1 q2 q3 (Ke nx) o o1 o2 o3 o4 Kp n0 nx ct n F1 F2 F3 F4 K1 K2 K3 K4 w3 w4 b0 b1 b2 b3 b4 ho ho1 ho2 ho3 ho4 w1 w2 hn hK (by omega) (by omega) (by omega) (by omega) (by omega) (by omega) (by omega) (by omega) n_o1_o2) ?_
    rintro r h' ⟨rfl, hp, hpk, hq, hq1, hq2, hq3, hq4, fm⟩
    have ce2 := cue_cpy (n := n) (K1 := K1) (K2 := K2) (K3 := K3) (K4 := K4) (F1 := F1) (F2 := F2) (F3 := F3) (F4 := F4)
    refine ⟨rfl, ⟨Kp, Ke, ⟨Nat.mod_lt _ (by decide), by omega, hp, hpk, ?_, w6⟩, ⟨q, hK⟩, fun _ _ => rfl⟩, fun b e hb ht hs => ?_, fun b fs hb => (fm b (ninc (cne hb w3 (by simp)) (ninc (cne hb b0 (by simp)) (ninc (cne hb b1 (by simp)) (ninc (cne hb b2 (by simp)) (ninc (cne hb b3 (by simp)) (ninc (cne hb b4 (by simp)) nin0))))))).trans hb⟩
    · intro j hj z hz
      by_cases qj : j = nx
      · subst qj
        obtain rfl : q = z := Option.some.inj (hK.symm.trans hz)
        refine ⟨t1, ?_⟩
        try dsimp only
        rw [if_pos rfl]
        exact ⟨q1, q2, q3, _, m1, m2, m3, m4, ce2, hn, hq, hq1, hq2, hq3, hq4⟩
      · obtain ⟨s1, s2⟩ := w5 j hj z hz
        try dsimp only
        rw [if_neg qj]
        have := w6 nx j w1 hj (by omega) q z hK hz
        exact ⟨s1, s2.keep (fun b x hb c1 c2 => (fm b (ninc (by omega) (ninc (by omega) (ninc (by omega) (ninc (by omega) (ninc (by omega) (ninc (by omega) nin0))))))).trans hb)⟩
    · have hbp : b ≠ p := fun w => hs (by rw [w]; exact List.mem_cons_self)
      exact (fm b (ninc hbp (ninc (by omega) (ninc (by omega) (ninc (by omega) (ninc (by omega) (ninc (by omega) nin0))))))).trans hb
set_option maxHeartbeats 4000000 in
set_option maxRecDepth 100000 in
theorem c_Po_init (G : GT) (h : HM) (q : Nat) (t : Int) (pa : Int) (pc : Int) (pb : Int) (pd : Int) (hq : h q = some (.inr (8, [.long (lZ 0), .long (lZ 0), .long (lZ 0), .long (lZ 0), .long (lZ 0)]))) (g1 : iR pa) (g2 : iR pc) (g3 : iR (pb - pa)) (g4 : iR (pd - pc)) : Rn G M_Po_init ({ frames := 1, cells := 0, slots := 0, locals := 12 }) [.ref q, .long (lZ t), .int (iZ pa), .int (iZ pc), .int (iZ pb), .int (iZ pd)] h (fun r h' => r = none ∧ h' q = some (.inr (8, [.long (lZ t), .long (lZ pa), .long (lZ pc), .long (lZ (pb - pa)), .long (lZ (pd - pc))])) ∧ Fx [q] h h') := by
  refine rn_of (by decide) (Nat.le_of_ble_eq_true rfl) ?_
  show Ev G M_Po_init _ _ 0 [(0, .ref q), (1, .long (lZ t)), (3, .int (iZ pa)), (4, .int (iZ pc)), (5, .int (iZ pb)), (6, .int (iZ pd))] [] _ 0 0
  have fx : Fx [q] h h := Fx.rf
  refine ev_aload_n d_Po_init_0 rfl rfl ?_
  refine ev_objInit d_Po_init_1 ml_Po_1 oi_1 oi_2 (by decide) (by decide) ?_
  refine ev_aload_n d_Po_init_4 rfl rfl ?_
  refine ev_lload_n d_Po_init_5 rfl rfl ?_
  refine ev_put2 (fs' := [.long (lZ t), .long (lZ 0), .long (lZ 0), .long (lZ 0), .long (lZ 0)]) d_Po_init_6 fw_Po_7 (Or.inl rfl) hq (Nat.le_of_ble_eq_true rfl) rfl rfl rfl (fun h1 h1a h1o => ?_)
  have hq := h1a
  have fx := fx.step (by simp) h1o
  refine ev_aload_n d_Po_init_9 rfl rfl ?_
  refine ev_iload_n d_Po_init_10 rfl rfl ?_
  refine ez_i2l (by omega) d_Po_init_11 ?_
  refine ev_put2 (fs' := [.long (lZ t), .long (lZ pa), .long (lZ 0), .long (lZ 0), .long (lZ 0)]) d_Po_init_12 fw_Po_13 (Or.inl rfl) hq (Nat.le_of_ble_eq_true rfl) rfl rfl rfl (fun h2 h2a h2o => ?_)
  have hq := h2a
  have fx := fx.step (by simp) h2o
  refine ev_aload_n d_Po_init_15 rfl rfl ?_
  refine ev_iload d_Po_init_16 rfl ?_
  refine ez_i2l (by omega) d_Po_init_18 ?_
  refine ev_put2 (fs' := [.long (lZ t), .long (lZ pa), .long (lZ pc), .long (lZ 0), .long (lZ 0)]) d_Po_init_19 fw_Po_16 (Or.inl rfl) hq (Nat.le_of_ble_eq_true rfl) rfl rfl rfl (fun h3 h3a h3o => ?_)
  have hq := h3a
  have fx := fx.step (by simp) h3o
  refine ev_aload_n d_Po_init_22 rfl rfl ?_
  refine ev_iload d_Po_init_23 rfl ?_
  refine ev_iload_n d_Po_init_25 rfl rfl ?_
  refine ez_isub d_Po_init_26 ?_
  refine ez_i2l (by omega) d_Po_init_27 ?_
  refine ev_put2 (fs' := [.long (lZ t), .long (lZ pa), .long (lZ pc), .long (lZ (pb - pa)), .long (lZ 0)]) d_Po_init_28 fw_Po_19 (Or.inl rfl) hq (Nat.le_of_ble_eq_true rfl) rfl rfl rfl (fun h4 h4a h4o => ?_)
  have hq := h4a
  have fx := fx.step (by simp) h4o
  refine ev_aload_n d_Po_init_31 rfl rfl ?_
  refine ev_iload d_Po_init_32 rfl ?_
  refine ev_iload d_Po_init_34 rfl ?_
  refine ez_isub d_Po_init_36 ?_
  refine ez_i2l (by omega) d_Po_init_37 ?_
  refine ev_put2 (fs' := [.long (lZ t), .long (lZ pa), .long (lZ pc), .long (lZ (pb - pa)), .long (lZ (pd - pc))]) d_Po_init_38 fw_Po_22 (Or.inl rfl) hq (Nat.le_of_ble_eq_true rfl) rfl rfl rfl (fun h5 h5a h5o => ?_)
  have hq := h5a
  have fx := fx.step (by simp) h5o
  exact ev_return d_Po_init_41 rfl (by decide) (by decide) (⟨rfl, hq, fx⟩)
set_option maxHeartbeats 4000000 in
set_option maxRecDepth 100000 in
theorem c_Po_of (G : GT) (h : HM) (q : Nat) (tk A C B D t : Int) (hpm : h q = some (.inr (8, [.long (lZ tk), .long (lZ A), .long (lZ C), .long (lZ (B - A)), .long (lZ (D - C))]))) (hR : tpR tk A C B D) (ht : 0 ≤ t ∧ t ≤ 2540160000000) : Rn G M_Po_of (rm 2 60) [.ref q, .long (lZ t)] h (Pu (.long (lZ (mapZ tk A C B D t * tk))) h) := by
  refine rn_of (by decide) (Nat.le_of_ble_eq_true rfl) ?_
  show Ev G M_Po_of _ _ 0 [(0, .ref q), (1, .long (lZ t))] [] _ 0 0
  refine ev_aload_n d_Po_of_0 rfl rfl ?_
  refine ev_get d_Po_of_1 fl_Po_16 hpm rfl ?_
  refine ev_aload_n d_Po_of_4 rfl rfl ?_
  refine ev_get d_Po_of_5 fl_Po_7 hpm rfl ?_
  refine ez_lmul d_Po_of_8 ?_
  refine ev_aload_n d_Po_of_9 rfl rfl ?_
  refine ev_get d_Po_of_10 fl_Po_19 hpm rfl ?_
  refine ez_lmul d_Po_of_13 ?_
  refine ev_lload_n d_Po_of_14 rfl rfl ?_
  refine ev_aload_n d_Po_of_15 rfl rfl ?_
  refine ev_get d_Po_of_16 fl_Po_13 hpm rfl ?_
  refine ev_aload_n d_Po_of_19 rfl rfl ?_
  refine ev_get d_Po_of_20 fl_Po_7 hpm rfl ?_
  refine ez_lmul d_Po_of_23 ?_
  refine ez_lsub d_Po_of_24 ?_
  refine ev_aload_n d_Po_of_25 rfl rfl ?_
  refine ev_get d_Po_of_26 fl_Po_22 hpm rfl ?_
  refine ez_lmul d_Po_of_29 ?_
  refine ez_ladd d_Po_of_30 ?_
  refine ev_lstore_n (L' := [(0, .ref q), (1, .long (lZ t)), (3, .long (lZ (((C * tk) * (B - A)) + ((t - (A * tk)) * (D - C)))))]) d_Po_of_31 rfl (by decide) rfl ?_
  refine ev_lload_n d_Po_of_32 rfl rfl ?_
  refine ev_aload_n d_Po_of_33 rfl rfl ?_
  refine ev_get d_Po_of_34 fl_Po_7 hpm rfl ?_
  refine ev_aload_n d_Po_of_37 rfl rfl ?_
  refine ev_get d_Po_of_38 fl_Po_19 hpm rfl ?_
  refine ez_lmul d_Po_of_41 ?_
  refine ev_pS M_CB_nearest 1 30 (As := [.long (lZ (((C * tk) * (B - A)) + ((t - (A * tk)) * (D - C)))), .long (lZ (tk * (B - A)))]) (c_CB_nearest G h _ _ (by have := tp_top hR ht; omega) (by have := tp_bot hR; omega)) d_Po_of_42 mk_CB_nearest ml_Po_25 ms_CB_nearest rfl rfl (Nat.le_of_ble_eq_true rfl) ⟨by decide, by decide⟩ ⟨by decide, by decide⟩ ?_
  refine ev_aload_n d_Po_of_45 rfl rfl ?_
  refine ev_get d_Po_of_46 fl_Po_7 hpm rfl ?_
  refine ez_lmul d_Po_of_49 ?_
  exact ev_lreturn d_Po_of_50 rfl (by decide) (by decide) (⟨rfl, rfl⟩)
set_option maxHeartbeats 4000000 in
set_option maxRecDepth 100000 in
theorem lp_CB_tp2 (G : GT) (Q : Option Value → HM → Prop) (h0 : HM) (x b xf xu xo xp xe xw xl xr : Nat) (o1 o2 o3 o4 q : Nat) (n : Nat) (K1 K2 : Nat → Int) (va vc vb vd : Int) (tk A C B D : Int) (hR : tpR tk A C B D) (n_o : o1 ≠ o2) (hT : ∀ k, 0 ≤ K1 k ∧ K1 k ≤ 2540160000000) (hE : ∀ k, 0 ≤ K2 k ∧ K2 k ≤ 2540160000000) (hn : n ≤ 16) (kk : ∀ h, h x = some (.inr (0, [.ref b, .ref xf, .ref xu, .ref xo, .ref xp, .ref xe, .ref xw, .ref xl, .ref xr])) → h xo = some (.inr (2, [.ref o1, .ref o2, .ref o3, .ref o4, .int (iZ (n : Int))])) → h o1 = some (.inl (G_j G, 16, .inr (.inl (lA (fU (fun t => mapZ tk A C B D t * tk) K1 n))))) → h o2 = some (.inl (G_j G, 16, .inr (.inl (lA (fU (fun t => mapZ tk A C B D t * tk) K2 n))))) → h q = some (.inr (8, [.long (lZ tk), .long (lZ A), .long (lZ C), .long (lZ (B - A)), .long (lZ (D - C))])) → Fm [o1, o2] h0 h → Ev G M_CB_twoPoint ({ frames := 4, cells := 6, slots := 1082, locals := 142 }) Q 297 [(0, .ref x), (1, .int (iZ va)), (2, .int (iZ vc)), (3, .int (iZ vb)), (4, .int (iZ vd)), (5, .ref q), (6, .int (iZ (n : Int)))] [] h 6 1082) : ∀ (d : Nat) (i : Nat) (h : HM), i + d = n → h x = some (.inr (0, [.ref b, .ref xf, .ref xu, .ref xo, .ref xp, .ref xe, .ref xw, .ref xl, .ref xr])) → h xo = some (.inr (2, [.ref o1, .ref o2, .ref o3, .ref o4, .int (iZ (n : Int))])) → h o1 = some (.inl (G_j G, 16, .inr (.inl (lA (fU (fun t => mapZ tk A C B D t * tk) K1 i))))) → h o2 = some (.inl (G_j G, 16, .inr (.inl (lA (fU (fun t => mapZ tk A C B D t * tk) K2 i))))) → h q = some (.inr (8, [.long (lZ tk), .long (lZ A), .long (lZ C), .long (lZ (B - A)), .long (lZ (D - C))])) → Fm [o1, o2] h0 h → Ev G M_CB_twoPoint ({ frames := 4, cells := 6, slots := 1082, locals := 142 }) (Q) 229 [(0, .ref x), (1, .int (iZ va)), (2, .int (iZ vc)), (3, .int (iZ vb)), (4, .int (iZ vd)), (5, .ref q), (6, .int (iZ (i : Int)))] [] h 6 1082 := by
  intro d
  induction d using Nat.strongRecOn with
  | ind d ih =>
  intro i h hd hx ho ho1 ho2 hpm fm
  refine ev_iload d_CB_twoPoint_229 rfl ?_
  refine ev_aload_n d_CB_twoPoint_231 rfl rfl ?_
  refine ev_get d_CB_twoPoint_232 fl_CB_33 hx rfl ?_
  refine ev_get d_CB_twoPoint_235 fl_CB_112 ho rfl ?_
  refine ez_icmp_ge (tgt := 297) (by omega) (by omega) d_CB_twoPoint_238 rfl (fun c238 => ?_) (fun c238 => ?_)
  · obtain rfl : i = n := by omega
    exact kk h hx ho ho1 ho2 hpm fm
  · refine ev_aload_n d_CB_twoPoint_241 rfl rfl ?_
    refine ev_get d_CB_twoPoint_242 fl_CB_33 hx rfl ?_
    refine ev_get d_CB_twoPoint_245 fl_CB_126 ho rfl ?_
    refine ev_iload d_CB_twoPoint_248 rfl ?_
    refine ev_aload d_CB_twoPoint_250 rfl ?_
    refine ev_aload_n d_CB_twoPoint_252 rfl rfl ?_
    refine ev_get d_CB_twoPoint_253 fl_CB_33 hx rfl ?_
    refine ev_get d_CB_twoPoint_256 fl_CB_126 ho rfl ?_
    refine ev_iload d_CB_twoPoint_259 rfl ?_
    refine ez_laload i d_CB_twoPoint_261 ho1 (by omega) (by omega) (by decide) ?_
    have ht262 : 0 ≤ (fU (fun t => mapZ tk A C B D t * tk) K1 i) i ∧ (fU (fun t => mapZ tk A C B D t * tk) K1 i) i ≤ 2540160000000 := by rw [fU_i]; exact hT i
    have rt262 := map_r hR ht262
    refine ev_pV M_Po_of 2 60 (As := [.long (lZ ((fU (fun t => mapZ tk A C B D t * tk) K1 i) i))]) (c_Po_of G h q tk A C B D ((fU (fun t => mapZ tk A C B D t * tk) K1 i) i) hpm hR ht262) d_CB_twoPoint_262 mk_Po_of ml_CB_190 mv_Po_of hpm rfl rfl rfl (Nat.le_of_ble_eq_true rfl) ⟨by decide, by decide⟩ ⟨by decide, by decide⟩ ?_
    refine ez_lastore (F' := zup (fU (fun t => mapZ tk A C B D t * tk) K1 i) i (mapZ tk A C B D ((fU (fun t => mapZ tk A C B D t * tk) K1 i) i) * tk)) i d_CB_twoPoint_265 ho1 (by omega) (by omega) (by decide) rfl (fun h1 h1a h1o => ?_)
    have hx := (h1o _ (cne hx ho1 (by simp))).trans hx
    have ho := (h1o _ (cne ho ho1 (by simp))).trans ho
    have ho2 := (h1o _ (Ne.symm n_o)).trans ho2
    have hpm := (h1o _ (cne hpm ho1 (by simp))).trans hpm
    have ho1 := h1a
    have fm := fm.step (by simp) h1o
    refine ev_aload_n d_CB_twoPoint_266 rfl rfl ?_
    refine ev_get d_CB_twoPoint_267 fl_CB_33 hx rfl ?_
    refine ev_get d_CB_twoPoint_270 fl_CB_130 ho rfl ?_
    refine ev_iload d_CB_twoPoint_273 rfl ?_
    refine ev_aload d_CB_twoPoint_275 rfl ?_
    refine ev_aload_n d_CB_twoPoint_277 rfl rfl ?_
    refine ev_get d_CB_twoPoint_278 fl_CB_33 hx rfl ?_
    refine ev_get d_CB_twoPoint_281 fl_CB_130 ho rfl ?_
    refine ev_iload d_CB_twoPoint_284 rfl ?_
    refine ez_laload i d_CB_twoPoint_286 ho2 (by omega) (by omega) (by decide) ?_
    have ht287 : 0 ≤ (fU (fun t => mapZ tk A C B D t * tk) K2 i) i ∧ (fU (fun t => mapZ tk A C B D t * tk) K2 i) i ≤ 2540160000000 := by rw [fU_i]; exact hE i
    have rt287 := map_r hR ht287
    refine ev_pV M_Po_of 2 60 (As := [.long (lZ ((fU (fun t => mapZ tk A C B D t * tk) K2 i) i))]) (c_Po_of G h1 q tk A C B D ((fU (fun t => mapZ tk A C B D t * tk) K2 i) i) hpm hR ht287) d_CB_twoPoint_287 mk_Po_of ml_CB_190 mv_Po_of hpm rfl rfl rfl (Nat.le_of_ble_eq_true rfl) ⟨by decide, by decide⟩ ⟨by decide, by decide⟩ ?_
    refine ez_lastore (F' := zup (fU (fun t => mapZ tk A C B D t * tk) K2 i) i (mapZ tk A C B D ((fU (fun t => mapZ tk A C B D t * tk) K2 i) i) * tk)) i d_CB_twoPoint_290 ho2 (by omega) (by omega) (by decide) rfl (fun h2 h2a h2o => ?_)
    have hx := (h2o _ (cne hx ho2 (by simp))).trans hx
    have ho := (h2o _ (cne ho ho2 (by simp))).trans ho
    have ho1 := (h2o _ n_o).trans ho1
    have hpm := (h2o _ (cne hpm ho2 (by simp))).trans hpm
    have ho2 := h2a
    have fm := fm.step (by simp) h2o
    refine ez_iinc (L' := [(0, .ref x), (1, .int (iZ va)), (2, .int (iZ vc)), (3, .int (iZ vb)), (4, .int (iZ vd)), (5, .ref q), (6, .int (iZ ((i + 1 : Nat) : Int)))]) d_CB_twoPoint_291 rfl (by decide) rfl ?_
    refine ev_goto (tgt := 229) d_CB_twoPoint_294 rfl ?_
    exact ih (d - 1) (by omega) (i + 1) h2 (by omega) hx ho (by rw [← fU_s]; exact ho1) (by rw [← fU_s]; exact ho2) hpm fm
set_option maxHeartbeats 4000000 in
set_option maxRecDepth 100000 in
theorem lp_CB_tp1 (G : GT) (Q : Option Value → HM → Prop) (h : HM) (x b xf xu xo xp xe xw xl xr : Nat) (o1 o2 o3 o4 q : Nat) (n : Nat) (K1 K2 : Nat → Int) (va vc vb vd : Int) (tk A C B D : Int) (hx : h x = some (.inr (0, [.ref b, .ref xf, .ref xu, .ref xo, .ref xp, .ref xe, .ref xw, .ref xl, .ref xr]))) (ho : h xo = some (.inr (2, [.ref o1, .ref o2, .ref o3, .ref o4, .int (iZ (n : Int))]))) (ho1 : h o1 = some (.inl (G_j G, 16, .inr (.inl (lA K1))))) (ho2 : h o2 = some (.inl (G_j G, 16, .inr (.inl (lA K2))))) (hpm : h q = some (.inr (8, [.long (lZ tk), .long (lZ A), .long (lZ C), .long (lZ (B - A)), .long (lZ (D - C))]))) (hR : tpR tk A C B D) (hT : ∀ k, 0 ≤ K1 k ∧ K1 k ≤ 2540160000000) (hE : ∀ k, 0 ≤ K2 k ∧ K2 k ≤ 2540160000000) (hn : n ≤ 16) (kf : ¬ (∀ j, j < n → 0 ≤ mapZ tk A C B D (K1 j) * tk ∧ mapZ tk A C B D (K2 j) * tk ≤ 2540160000000 ∧ mapZ tk A C B D (K1 j) * tk < mapZ tk A C B D (K2 j) * tk) → Q (some (.int (iZ 0))) h) (kk : (∀ j, j < n → 0 ≤ mapZ tk A C B D (K1 j) * tk ∧ mapZ tk A C B D (K2 j) * tk ≤ 2540160000000 ∧ mapZ tk A C B D (K1 j) * tk < mapZ tk A C B D (K2 j) * tk) → Ev G M_CB_twoPoint ({ frames := 4, cells := 6, slots := 1082, locals := 142 }) Q 215 [(0, .ref x), (1, .int (iZ va)), (2, .int (iZ vc)), (3, .int (iZ vb)), (4, .int (iZ vd)), (5, .ref q), (6, .int (iZ (n : Int)))] [] h 1 5) : ∀ (d : Nat) (i : Nat), i + d = n → (∀ j, j < i → 0 ≤ mapZ tk A C B D (K1 j) * tk ∧ mapZ tk A C B D (K2 j) * tk ≤ 2540160000000 ∧ mapZ tk A C B D (K1 j) * tk < mapZ tk A C B D (K2 j) * tk) → Ev G M_CB_twoPoint ({ frames := 4, cells := 6, slots := 1082, locals := 142 }) (Q) 137 [(0, .ref x), (1, .int (iZ va)), (2, .int (iZ vc)), (3, .int (iZ vb)), (4, .int (iZ vd)), (5, .ref q), (6, .int (iZ (i : Int)))] [] h 1 5 := by
  intro d
  induction d using Nat.strongRecOn with
  | ind d ih =>
  intro i hd hg
  refine ev_iload d_CB_twoPoint_137 rfl ?_
  refine ev_aload_n d_CB_twoPoint_139 rfl rfl ?_
  refine ev_get d_CB_twoPoint_140 fl_CB_33 hx rfl ?_
  refine ev_get d_CB_twoPoint_143 fl_CB_112 ho rfl ?_
  refine ez_icmp_ge (tgt := 215) (by omega) (by omega) d_CB_twoPoint_146 rfl (fun c146 => ?_) (fun c146 => ?_)
  · obtain rfl : i = n := by omega
    exact kk hg
  · refine ev_aload d_CB_twoPoint_149 rfl ?_
    refine ev_aload_n d_CB_twoPoint_151 rfl rfl ?_
    refine ev_get d_CB_twoPoint_152 fl_CB_33 hx rfl ?_
    refine ev_get d_CB_twoPoint_155 fl_CB_126 ho rfl ?_
    refine ev_iload d_CB_twoPoint_158 rfl ?_
    refine ez_laload i d_CB_twoPoint_160 ho1 (by omega) (by omega) (by decide) ?_
    have ht161 : 0 ≤ K1 i ∧ K1 i ≤ 2540160000000 := hT i
    have rt161 := map_r hR ht161
    refine ev_pV M_Po_of 2 60 (As := [.long (lZ (K1 i))]) (c_Po_of G h q tk A C B D (K1 i) hpm hR ht161) d_CB_twoPoint_161 mk_Po_of ml_CB_190 mv_Po_of hpm rfl rfl rfl (Nat.le_of_ble_eq_true rfl) ⟨by decide, by decide⟩ ⟨by decide, by decide⟩ ?_
    refine ev_lstore (L' := [(0, .ref x), (1, .int (iZ va)), (2, .int (iZ vc)), (3, .int (iZ vb)), (4, .int (iZ vd)), (5, .ref q), (6, .int (iZ (i : Int))), (7, .long (lZ (mapZ tk A C B D (K1 i) * tk)))]) d_CB_twoPoint_164 (by decide) rfl ?_
    refine ev_aload d_CB_twoPoint_166 rfl ?_
    refine ev_aload_n d_CB_twoPoint_168 rfl rfl ?_
    refine ev_get d_CB_twoPoint_169 fl_CB_33 hx rfl ?_
    refine ev_get d_CB_twoPoint_172 fl_CB_130 ho rfl ?_
    refine ev_iload d_CB_twoPoint_175 rfl ?_
    refine ez_laload i d_CB_twoPoint_177 ho2 (by omega) (by omega) (by decide) ?_
    have ht178 : 0 ≤ K2 i ∧ K2 i ≤ 2540160000000 := hE i
    have rt178 := map_r hR ht178
    refine ev_pV M_Po_of 2 60 (As := [.long (lZ (K2 i))]) (c_Po_of G h q tk A C B D (K2 i) hpm hR ht178) d_CB_twoPoint_178 mk_Po_of ml_CB_190 mv_Po_of hpm rfl rfl rfl (Nat.le_of_ble_eq_true rfl) ⟨by decide, by decide⟩ ⟨by decide, by decide⟩ ?_
    refine ev_lstore (L' := [(0, .ref x), (1, .int (iZ va)), (2, .int (iZ vc)), (3, .int (iZ vb)), (4, .int (iZ vd)), (5, .ref q), (6, .int (iZ (i : Int))), (7, .long (lZ (mapZ tk A C B D (K1 i) * tk))), (9, .long (lZ (mapZ tk A C B D (K2 i) * tk)))]) d_CB_twoPoint_181 (by decide) rfl ?_
    refine ev_lload d_CB_twoPoint_183 rfl ?_
    refine ev_lconst (v := lZ 0) d_CB_twoPoint_185 rfl ?_
    refine ev_lcmp d_CB_twoPoint_186 ?_
    refine ez_lif_lt (tgt := 207) (by omega) (by decide) d_CB_twoPoint_187 rfl (fun c187 => ?_) (fun c187 => ?_)
    · refine ev_iconst (v := iZ 0) d_CB_twoPoint_207 rfl ?_
      exact ev_zreturn d_CB_twoPoint_208 rfl (Or.inl rfl) (by decide) (by decide) (kf (fun q => absurd (q i (by omega)) (by omega)))
    · refine ev_lload d_CB_twoPoint_190 rfl ?_
      refine ev_ldc2 (v := lZ 2540160000000) d_CB_twoPoint_192 kc_CB_194 ?_
      refine ev_lcmp d_CB_twoPoint_195 ?_
      refine ez_lif_gt (tgt := 207) (by omega) (by decide) d_CB_twoPoint_196 rfl (fun c196 => ?_) (fun c196 => ?_)
      · refine ev_iconst (v := iZ 0) d_CB_twoPoint_207 rfl ?_
        exact ev_zreturn d_CB_twoPoint_208 rfl (Or.inl rfl) (by decide) (by decide) (kf (fun q => absurd (q i (by omega)) (by omega)))
      · refine ev_lload d_CB_twoPoint_199 rfl ?_
        refine ev_lload d_CB_twoPoint_201 rfl ?_
        refine ev_lcmp d_CB_twoPoint_203 ?_
        refine ez_lif_gt (tgt := 209) (by omega) (by omega) d_CB_twoPoint_204 rfl (fun c204 => ?_) (fun c204 => ?_)
        · refine ez_iinc (L' := [(0, .ref x), (1, .int (iZ va)), (2, .int (iZ vc)), (3, .int (iZ vb)), (4, .int (iZ vd)), (5, .ref q), (6, .int (iZ ((i + 1 : Nat) : Int))), (7, .long (lZ (mapZ tk A C B D (K1 i) * tk))), (9, .long (lZ (mapZ tk A C B D (K2 i) * tk)))]) d_CB_twoPoint_209 rfl (by decide) rfl ?_
          refine ev_goto (tgt := 137) d_CB_twoPoint_212 rfl ?_
          refine ev_loc [(0, .ref x), (1, .int (iZ va)), (2, .int (iZ vc)), (3, .int (iZ vb)), (4, .int (iZ vd)), (5, .ref q), (6, .int (iZ ((i + 1 : Nat) : Int)))] (by simp) ?_
          exact ih (d - 1) (by omega) (i + 1) (by omega) (fun j hj => by rcases Nat.lt_succ_iff_lt_or_eq.mp hj with q | rfl; exact hg j q; exact ⟨by omega, by omega, by omega⟩)
        · refine ev_iconst (v := iZ 0) d_CB_twoPoint_207 rfl ?_
          exact ev_zreturn d_CB_twoPoint_208 rfl (Or.inl rfl) (by decide) (by decide) (kf (fun q => absurd (q i (by omega)) (by omega)))
set_option maxHeartbeats 4000000 in
set_option maxRecDepth 100000 in
theorem c_CB_twoPoint (G : GT) (h : HM) (x b xf xu xo xp xe xw xl xr : Nat) (o1 o2 o3 o4 pk top nx ct n : Nat) (Kp : Nat → Option Nat) (Ke : Nat → Nat) (C : Nat → Cu) (K1 K2 K3 K4 : Nat → Int) (num den tk va vc vb vd : Int) (hx : h x = some (.inr (0, [.ref b, .ref xf, .ref xu, .ref xo, .ref xp, .ref xe, .ref xw, .ref xl, .ref xr]))) (ho : h xo = some (.inr (2, [.ref o1, .ref o2, .ref o3, .ref o4, .int (iZ (n : Int))]))) (ho1 : h o1 = some (.inl (G_j G, 16, .inr (.inl (lA K1))))) (ho2 : h o2 = some (.inl (G_j G, 16, .inr (.inl (lA K2))))) (ho3 : h o3 = some (.inl (G_i G, 16, .inl (iA K3)))) (ho4 : h o4 = some (.inl (G_i G, 1024, .inl (iA K4)))) (hf : h xf = some (.inr (5, [.int (iZ num), .int (iZ den), .long (lZ tk)]))) (hW : PaW G h top xp pk nx ct Kp Ke C) (hT : ∀ k, 0 ≤ K1 k ∧ K1 k ≤ 2540160000000) (hE : ∀ k, 0 ≤ K2 k ∧ K2 k ≤ 2540160000000) (hn : n ≤ 16) (hxt : x ≤ top ∧ xf ≤ top) (hle : xp ≤ top ∧ pk ≤ top ∧ xo ≤ top ∧ o1 ≤ top ∧ o2 ≤ top ∧ o3 ≤ top ∧ o4 ≤ top) (htop : ∃ e, h top = some e) (n_o : o1 ≠ o2) (htk : 11760000 ≤ tk ∧ tk ≤ 705600000) (hva : iR va) (hvc : iR vc) (hvb : iR vb) (hvd : iR vd) : Rn G M_CB_twoPoint ({ frames := 4, cells := 6, slots := 1082, locals := 142 }) [.ref x, .int (iZ va), .int (iZ vc), .int (iZ vb), .int (iZ vd)] h (fun r h' => (¬ tpOK tk va vc vb vd K1 K2 n → r = some (.int (iZ 0)) ∧ Fx [] h h') ∧ (tpOK tk va vc vb vd K1 K2 n → r = some (.int (iZ 1)) ∧ h' o1 = some (.inl (G_j G, 16, .inr (.inl (lA (fU (fun t => mp tk va vc vb vd t * tk) K1 n))))) ∧ h' o2 = some (.inl (G_j G, 16, .inr (.inl (lA (fU (fun t => mp tk va vc vb vd t * tk) K2 n))))) ∧ (∃ Kp' Ke', PaW G h' top xp pk ((nx + 1) % 10) (min (ct + 1) 10) Kp' Ke' (fun j => if j = nx then (n, K1, K2, K3, K4) else C j) ∧ (∃ q, Kp' nx = some q) ∧ ∀ j, j ≠ nx → Kp' j = Kp j) ∧ Fb top [o1, o2, xp, pk] h h')) := by
  refine rn_of (by decide) (Nat.le_of_ble_eq_true rfl) ?_
  show Ev G M_CB_twoPoint _ _ 0 [(0, .ref x), (1, .int (iZ va)), (2, .int (iZ vc)), (3, .int (iZ vb)), (4, .int (iZ vd))] [] _ 0 0
  have fx : Fx [] h h := Fx.rf
  refine ev_aload_n d_CB_twoPoint_0 rfl rfl ?_
  refine ev_get d_CB_twoPoint_1 fl_CB_19 hx rfl ?_
  refine ev_iload_n d_CB_twoPoint_4 rfl rfl ?_
  have hr5 := holdZ_r tk va
  refine ev_pV M_Fr_holds 0 0 (As := [.int (iZ va)]) (c_Fr_holds G h xf num den tk va hf (by omega) (frm_r (by omega) (by omega))) d_CB_twoPoint_5 mk_Fr_holds ml_CB_178 mv_Fr_holds hf rfl rfl rfl (Nat.le_of_ble_eq_true rfl) ⟨by decide, by decide⟩ ⟨by decide, by decide⟩ ?_
  refine ez_if_eq (tgt := 22) (by omega) d_CB_twoPoint_8 rfl (fun c8 => ?_) (fun c8 => ?_)
  · have z8 := holdZ_0 c8
    refine ev_iconst (v := iZ 0) d_CB_twoPoint_22 rfl ?_
    exact ev_zreturn d_CB_twoPoint_23 rfl (Or.inl rfl) (by decide) (by decide) (⟨fun _ => ⟨rfl, fx⟩, fun q => absurd q.1 (fun q => by obtain ⟨q1, q2, q3, q4, q5, q6, q7⟩ := q; first | exact absurd q1 (by assumption) | exact absurd q2 (by assumption) | exact absurd q3 (by assumption) | exact absurd q4 (by assumption) | omega)⟩)
  · have z8 := holdZ_1 c8
    refine ev_aload_n d_CB_twoPoint_11 rfl rfl ?_
    refine ev_get d_CB_twoPoint_12 fl_CB_19 hx rfl ?_
    refine ev_iload_n d_CB_twoPoint_15 rfl rfl ?_
    have hr16 := holdZ_r tk vc
    refine ev_pV M_Fr_holds 0 0 (As := [.int (iZ vc)]) (c_Fr_holds G h xf num den tk vc hf (by omega) (frm_r (by omega) (by omega))) d_CB_twoPoint_16 mk_Fr_holds ml_CB_178 mv_Fr_holds hf rfl rfl rfl (Nat.le_of_ble_eq_true rfl) ⟨by decide, by decide⟩ ⟨by decide, by decide⟩ ?_
    refine ez_if_ne (tgt := 24) (by omega) d_CB_twoPoint_19 rfl (fun c19 => ?_) (fun c19 => ?_)
    · have z19 := holdZ_1 c19
      refine ev_aload_n d_CB_twoPoint_24 rfl rfl ?_
      refine ev_get d_CB_twoPoint_25 fl_CB_19 hx rfl ?_
      refine ev_iload_n d_CB_twoPoint_28 rfl rfl ?_
      have hr29 := holdZ_r tk vb
      refine ev_pV M_Fr_holds 0 0 (As := [.int (iZ vb)]) (c_Fr_holds G h xf num den tk vb hf (by omega) (frm_r (by omega) (by omega))) d_CB_twoPoint_29 mk_Fr_holds ml_CB_178 mv_Fr_holds hf rfl rfl rfl (Nat.le_of_ble_eq_true rfl) ⟨by decide, by decide⟩ ⟨by decide, by decide⟩ ?_
      refine ez_if_eq (tgt := 47) (by omega) d_CB_twoPoint_32 rfl (fun c32 => ?_) (fun c32 => ?_)
      · have z32 := holdZ_0 c32
        refine ev_iconst (v := iZ 0) d_CB_twoPoint_47 rfl ?_
        exact ev_zreturn d_CB_twoPoint_48 rfl (Or.inl rfl) (by decide) (by decide) (⟨fun _ => ⟨rfl, fx⟩, fun q => absurd q.1 (fun q => by obtain ⟨q1, q2, q3, q4, q5, q6, q7⟩ := q; first | exact absurd q1 (by assumption) | exact absurd q2 (by assumption) | exact absurd q3 (by assumption) | exact absurd q4 (by assumption) | omega)⟩)
      · have z32 := holdZ_1 c32
        refine ev_aload_n d_CB_twoPoint_35 rfl rfl ?_
        refine ev_get d_CB_twoPoint_36 fl_CB_19 hx rfl ?_
        refine ev_iload d_CB_twoPoint_39 rfl ?_
        have hr41 := holdZ_r tk vd
        refine ev_pV M_Fr_holds 0 0 (As := [.int (iZ vd)]) (c_Fr_holds G h xf num den tk vd hf (by omega) (frm_r (by omega) (by omega))) d_CB_twoPoint_41 mk_Fr_holds ml_CB_178 mv_Fr_holds hf rfl rfl rfl (Nat.le_of_ble_eq_true rfl) ⟨by decide, by decide⟩ ⟨by decide, by decide⟩ ?_
        refine ez_if_ne (tgt := 49) (by omega) d_CB_twoPoint_44 rfl (fun c44 => ?_) (fun c44 => ?_)
        · have z44 := holdZ_1 c44
          refine ev_iload_n d_CB_twoPoint_49 rfl rfl ?_
          refine ev_iload_n d_CB_twoPoint_50 rfl rfl ?_
          refine ez_icmp_eq (tgt := 84) (by omega) (by omega) d_CB_twoPoint_51 rfl (fun c51 => ?_) (fun c51 => ?_)
          · refine ev_iconst (v := iZ 0) d_CB_twoPoint_84 rfl ?_
            exact ev_zreturn d_CB_twoPoint_85 rfl (Or.inl rfl) (by decide) (by decide) (⟨fun _ => ⟨rfl, fx⟩, fun q => absurd q.1 (fun q => by obtain ⟨q1, q2, q3, q4, q5, q6, q7⟩ := q; first | exact absurd q1 (by assumption) | exact absurd q2 (by assumption) | exact absurd q3 (by assumption) | exact absurd q4 (by assumption) | omega)⟩)
          · refine ev_iload_n d_CB_twoPoint_54 rfl rfl ?_
            refine ev_iload d_CB_twoPoint_55 rfl ?_
            refine ez_icmp_eq (tgt := 84) (by omega) (by omega) d_CB_twoPoint_57 rfl (fun c57 => ?_) (fun c57 => ?_)
            · refine ev_iconst (v := iZ 0) d_CB_twoPoint_84 rfl ?_
              exact ev_zreturn d_CB_twoPoint_85 rfl (Or.inl rfl) (by decide) (by decide) (⟨fun _ => ⟨rfl, fx⟩, fun q => absurd q.1 (fun q => by obtain ⟨q1, q2, q3, q4, q5, q6, q7⟩ := q; first | exact absurd q1 (by assumption) | exact absurd q2 (by assumption) | exact absurd q3 (by assumption) | exact absurd q4 (by assumption) | omega)⟩)
            · refine ev_iload_n d_CB_twoPoint_60 rfl rfl ?_
              refine ev_iload_n d_CB_twoPoint_61 rfl rfl ?_
              refine ez_icmp_ge (tgt := 69) (by omega) (by omega) d_CB_twoPoint_62 rfl (fun c62 => ?_) (fun c62 => ?_)
              · refine ev_iconst (v := iZ 0) d_CB_twoPoint_69 rfl ?_
                refine ev_iload_n d_CB_twoPoint_70 rfl rfl ?_
                refine ev_iload d_CB_twoPoint_71 rfl ?_
                refine ez_icmp_ge (tgt := 80) (by omega) (by omega) d_CB_twoPoint_73 rfl (fun c73 => ?_) (fun c73 => ?_)
                · refine ev_iconst (v := iZ 0) d_CB_twoPoint_80 rfl ?_
                  refine ez_icmp_eq (tgt := 86) (by decide) (by decide) d_CB_twoPoint_81 rfl (fun c81 => ?_) (fun c81 => absurd c81 (by omega))
                  refine ev_iload_n d_CB_twoPoint_86 rfl rfl ?_
                  refine ev_iload_n d_CB_twoPoint_87 rfl rfl ?_
                  refine ez_icmp_ge (tgt := 113) (by omega) (by omega) d_CB_twoPoint_88 rfl (fun c88 => ?_) (fun c88 => ?_)
                  · refine ez_new 5 d_CB_twoPoint_113 nc_CB_181 rfl (by decide) (by decide) (fun q h1 lt9 h1a h1o => ?_)
                    have lo9 : ∀ b e, h b = some e → b < q := fun b e hb9 => lt9 b e (hb9)
                    have fx := fx.new lt9 h1o
                    have hx := (h1o _ (Nat.ne_of_lt (lt9 _ _ hx))).trans hx
                    have ho := (h1o _ (Nat.ne_of_lt (lt9 _ _ ho))).trans ho
                    have ho1 := (h1o _ (Nat.ne_of_lt (lt9 _ _ ho1))).trans ho1
                    have ho2 := (h1o _ (Nat.ne_of_lt (lt9 _ _ ho2))).trans ho2
                    have ho3 := (h1o _ (Nat.ne_of_lt (lt9 _ _ ho3))).trans ho3
                    have ho4 := (h1o _ (Nat.ne_of_lt (lt9 _ _ ho4))).trans ho4
                    have hf := (h1o _ (Nat.ne_of_lt (lt9 _ _ hf))).trans hf
                    have hpm := h1a
                    refine ev_dup d_CB_twoPoint_116 rfl ?_
                    refine ev_aload_n d_CB_twoPoint_117 rfl rfl ?_
                    refine ev_get d_CB_twoPoint_118 fl_CB_19 hx rfl ?_
                    refine ev_get d_CB_twoPoint_121 fl_CB_183 hf rfl ?_
                    refine ev_iload_n d_CB_twoPoint_124 rfl rfl ?_
                    refine ev_iload d_CB_twoPoint_125 rfl ?_
                    refine ev_iload_n d_CB_twoPoint_127 rfl rfl ?_
                    refine ev_iload_n d_CB_twoPoint_128 rfl rfl ?_
                    have l4 := (⟨inF_le htk.1 z8, inF_le htk.1 z19, inF_le htk.1 z32, inF_le htk.1 z44⟩ : _ ∧ _ ∧ _ ∧ _)
                    refine ev_callI M_Po_init ({ frames := 1, cells := 0, slots := 0, locals := 12 }) _ (As := [.long (lZ tk), .int (iZ vb), .int (iZ vd), .int (iZ va), .int (iZ vc)]) (c_Po_init G h1 q tk vb vd va vc hpm (by omega) (by omega) (by omega) (by omega)) d_CB_twoPoint_129 mk_Po_init ml_CB_187 ⟨rfl, rfl⟩ mi_Po_init rfl rfl (Nat.le_of_ble_eq_true rfl) ⟨by decide, by decide⟩ ⟨by decide, by decide⟩ (fun r h2 hq => ?_)
                    obtain ⟨rfl, hpm9, fxp⟩ := hq
                    have hx := fxp _ _ hx (ninc (cne hx hpm (by simp)) nin0)
                    have ho := fxp _ _ ho (ninc (cne ho hpm (by simp)) nin0)
                    have ho1 := fxp _ _ ho1 (ninc (cne ho1 hpm (by simp)) nin0)
                    have ho2 := fxp _ _ ho2 (ninc (cne ho2 hpm (by simp)) nin0)
                    have ho3 := fxp _ _ ho3 (ninc (cne ho3 hpm (by simp)) nin0)
                    have ho4 := fxp _ _ ho4 (ninc (cne ho4 hpm (by simp)) nin0)
                    have hf := fxp _ _ hf (ninc (cne hf hpm (by simp)) nin0)
                    have hpm := hpm9
                    have fx := fx.call fxp (fun z hz => Or.inr (fun b e hb9 => by simp at hz; subst hz; exact Nat.ne_of_lt (lo9 b e hb9)))
                    refine ev_astore (L' := [(0, .ref x), (1, .int (iZ va)), (2, .int (iZ vc)), (3, .int (iZ vb)), (4, .int (iZ vd)), (5, .ref q)]) d_CB_twoPoint_132 (by decide) rfl ?_
                    refine ev_iconst (v := iZ 0) d_CB_twoPoint_134 rfl ?_
                    refine ev_istore (L' := [(0, .ref x), (1, .int (iZ va)), (2, .int (iZ vc)), (3, .int (iZ vb)), (4, .int (iZ vd)), (5, .ref q), (6, .int (iZ 0))]) d_CB_twoPoint_135 (by decide) rfl ?_
                    have hP : tpP tk va vc vb vd := ⟨z8, z19, z32, z44, by omega, by omega, by omega⟩
                    have hR : tpR tk vb vd va vc := ⟨htk, z32, z44, z8, z19, by omega, by omega⟩
                    have hM : ∀ t, mp tk va vc vb vd t = mapZ tk vb vd va vc t := fun t => mp_sw (by omega)
                    have hFe : (fun t => mp tk va vc vb vd t * tk) = (fun t => mapZ tk vb vd va vc t * tk) := funext fun t => by rw [hM t]
                    refine lp_CB_tp1 G _ h2 x b xf xu xo xp xe xw xl xr o1 o2 o3 o4 q n K1 K2 va vc vb vd tk vb vd va vc hx ho ho1 ho2 hpm hR hT hE hn (fun hno => ⟨fun _ => ⟨rfl, fx⟩, fun w => absurd (fun j hj => by have := w.2 j hj; simp only [hM] at this; exact this) hno⟩) (fun hok => ?_) n 0 (by omega) (fun j hj => absurd hj (by omega))
                    have hOK : tpOK tk va vc vb vd K1 K2 n := ⟨hP, fun j hj => by simp only [hM]; exact hok j hj⟩
                    refine ev_aload_n d_CB_twoPoint_215 rfl rfl ?_
                    refine ev_get d_CB_twoPoint_216 fl_CB_40 hx rfl ?_
                    refine ev_aload_n d_CB_twoPoint_219 rfl rfl ?_
                    refine ev_get d_CB_twoPoint_220 fl_CB_33 hx rfl ?_
                    have hW := hW.mv (h' := h2) (fun b e hb _ => fx b e hb nin0)
                    have htop := htop.imp (fun e he => fx _ _ he nin0)
                    refine ev_callV M_Pa_keep ({ frames := 2, cells := 5, slots := 1077, locals := 61 }) _ (As := [.ref xo]) (c_Pa_keepP G h2 top xp pk xo o1 o2 o3 o4 nx ct n Kp Ke C K1 K2 K3 K4 hW ho ho1 ho2 ho3 ho4 hn htop hle n_o) d_CB_twoPoint_223 mk_Pa_keep ml_CB_103 mv_Pa_keep hW.2.2.1 rfl rfl rfl (Nat.le_of_ble_eq_true rfl) ⟨by decide, by decide⟩ ⟨by decide, by decide⟩ (fun r h8 hq => ?_)
                    obtain ⟨rfl, ⟨Kp', Ke', hW1, hKs, hKo⟩, fb, fp⟩ := hq
                    have hx := fb _ _ hx (by omega) (ninc (cne hx hW.2.2.1 (by simp)) (ninc (cne hx hW.2.2.2.1 (by simp)) nin0))
                    have ho := fb _ _ ho (by omega) (ninc (cne ho hW.2.2.1 (by simp)) (ninc (cne ho hW.2.2.2.1 (by simp)) nin0))
                    have ho1 := fb _ _ ho1 (by omega) (ninc (cne ho1 hW.2.2.1 (by simp)) (ninc (cne ho1 hW.2.2.2.1 (by simp)) nin0))
                    have ho2 := fb _ _ ho2 (by omega) (ninc (cne ho2 hW.2.2.1 (by simp)) (ninc (cne ho2 hW.2.2.2.1 (by simp)) nin0))
                    have ho3 := fb _ _ ho3 (by omega) (ninc (cne ho3 hW.2.2.1 (by simp)) (ninc (cne ho3 hW.2.2.2.1 (by simp)) nin0))
                    have ho4 := fb _ _ ho4 (by omega) (ninc (cne ho4 hW.2.2.1 (by simp)) (ninc (cne ho4 hW.2.2.2.1 (by simp)) nin0))
                    have hf := fb _ _ hf (by omega) (ninc (cne hf hW.2.2.1 (by simp)) (ninc (cne hf hW.2.2.2.1 (by simp)) nin0))
                    have hpm := fp _ _ hpm
                    refine ev_iconst (v := iZ 0) d_CB_twoPoint_226 rfl ?_
                    refine ev_istore (L' := [(0, .ref x), (1, .int (iZ va)), (2, .int (iZ vc)), (3, .int (iZ vb)), (4, .int (iZ vd)), (5, .ref q), (6, .int (iZ 0))]) d_CB_twoPoint_227 (by decide) rfl ?_
                    have hS : ∀ b ∈ [o1, o2], b ≤ top ∧ b ≠ xp ∧ b ≠ pk := by
                      intro b hb
                      simp at hb
                      rcases hb with rfl | rfl
                      · exact ⟨by omega, cne ho1 hW1.2.2.1 (by simp), cne ho1 hW1.2.2.2.1 (by simp)⟩
                      · exact ⟨by omega, cne ho2 hW1.2.2.1 (by simp), cne ho2 hW1.2.2.2.1 (by simp)⟩
                    refine lp_CB_tp2 G _ h8 x b xf xu xo xp xe xw xl xr o1 o2 o3 o4 q n K1 K2 va vc vb vd tk vb vd va vc hR n_o hT hE hn ?_ n 0 h8 (by omega) hx ho (by rw [fU_0]; exact ho1) (by rw [fU_0]; exact ho2) hpm Fm.rf
                    intro h9 hx ho ho1 ho2 hpm fm
                    refine ev_iconst (v := iZ 1) d_CB_twoPoint_297 rfl ?_
                    exact ev_zreturn d_CB_twoPoint_298 rfl (Or.inr rfl) (by decide) (by decide) ⟨fun q => absurd hOK q, fun _ => ⟨rfl, by rw [hFe]; exact ho1, by rw [hFe]; exact ho2, ⟨Kp', Ke', hW1.fm fm hS, hKs, hKo⟩, fun b e hb ht hs => (fb.fm fm (S2 := [o1, o2, xp, pk]) (by simp) (by simp)) b e (fx b e hb nin0) ht hs⟩⟩
                  · refine ez_new 5 d_CB_twoPoint_91 nc_CB_181 rfl (by decide) (by decide) (fun q h3 lt9 h3a h3o => ?_)
                    have lo9 : ∀ b e, h b = some e → b < q := fun b e hb9 => lt9 b e (hb9)
                    have fx := fx.new lt9 h3o
                    have hx := (h3o _ (Nat.ne_of_lt (lt9 _ _ hx))).trans hx
                    have ho := (h3o _ (Nat.ne_of_lt (lt9 _ _ ho))).trans ho
                    have ho1 := (h3o _ (Nat.ne_of_lt (lt9 _ _ ho1))).trans ho1
                    have ho2 := (h3o _ (Nat.ne_of_lt (lt9 _ _ ho2))).trans ho2
                    have ho3 := (h3o _ (Nat.ne_of_lt (lt9 _ _ ho3))).trans ho3
                    have ho4 := (h3o _ (Nat.ne_of_lt (lt9 _ _ ho4))).trans ho4
                    have hf := (h3o _ (Nat.ne_of_lt (lt9 _ _ hf))).trans hf
                    have hpm := h3a
                    refine ev_dup d_CB_twoPoint_94 rfl ?_
                    refine ev_aload_n d_CB_twoPoint_95 rfl rfl ?_
                    refine ev_get d_CB_twoPoint_96 fl_CB_19 hx rfl ?_
                    refine ev_get d_CB_twoPoint_99 fl_CB_183 hf rfl ?_
                    refine ev_iload_n d_CB_twoPoint_102 rfl rfl ?_
                    refine ev_iload_n d_CB_twoPoint_103 rfl rfl ?_
                    refine ev_iload_n d_CB_twoPoint_104 rfl rfl ?_
                    refine ev_iload d_CB_twoPoint_105 rfl ?_
                    have l4 := (⟨inF_le htk.1 z8, inF_le htk.1 z19, inF_le htk.1 z32, inF_le htk.1 z44⟩ : _ ∧ _ ∧ _ ∧ _)
                    refine ev_callI M_Po_init ({ frames := 1, cells := 0, slots := 0, locals := 12 }) _ (As := [.long (lZ tk), .int (iZ va), .int (iZ vc), .int (iZ vb), .int (iZ vd)]) (c_Po_init G h3 q tk va vc vb vd hpm (by omega) (by omega) (by omega) (by omega)) d_CB_twoPoint_107 mk_Po_init ml_CB_187 ⟨rfl, rfl⟩ mi_Po_init rfl rfl (Nat.le_of_ble_eq_true rfl) ⟨by decide, by decide⟩ ⟨by decide, by decide⟩ (fun r h4 hq => ?_)
                    obtain ⟨rfl, hpm9, fxp⟩ := hq
                    have hx := fxp _ _ hx (ninc (cne hx hpm (by simp)) nin0)
                    have ho := fxp _ _ ho (ninc (cne ho hpm (by simp)) nin0)
                    have ho1 := fxp _ _ ho1 (ninc (cne ho1 hpm (by simp)) nin0)
                    have ho2 := fxp _ _ ho2 (ninc (cne ho2 hpm (by simp)) nin0)
                    have ho3 := fxp _ _ ho3 (ninc (cne ho3 hpm (by simp)) nin0)
                    have ho4 := fxp _ _ ho4 (ninc (cne ho4 hpm (by simp)) nin0)
                    have hf := fxp _ _ hf (ninc (cne hf hpm (by simp)) nin0)
                    have hpm := hpm9
                    have fx := fx.call fxp (fun z hz => Or.inr (fun b e hb9 => by simp at hz; subst hz; exact Nat.ne_of_lt (lo9 b e hb9)))
                    refine ev_goto (tgt := 132) d_CB_twoPoint_110 rfl ?_
                    refine ev_astore (L' := [(0, .ref x), (1, .int (iZ va)), (2, .int (iZ vc)), (3, .int (iZ vb)), (4, .int (iZ vd)), (5, .ref q)]) d_CB_twoPoint_132 (by decide) rfl ?_
                    refine ev_iconst (v := iZ 0) d_CB_twoPoint_134 rfl ?_
                    refine ev_istore (L' := [(0, .ref x), (1, .int (iZ va)), (2, .int (iZ vc)), (3, .int (iZ vb)), (4, .int (iZ vd)), (5, .ref q), (6, .int (iZ 0))]) d_CB_twoPoint_135 (by decide) rfl ?_
                    have hP : tpP tk va vc vb vd := ⟨z8, z19, z32, z44, by omega, by omega, by omega⟩
                    have hR : tpR tk va vc vb vd := ⟨htk, z8, z19, z32, z44, by omega, by omega⟩
                    have hM : ∀ t, mp tk va vc vb vd t = mapZ tk va vc vb vd t := fun t => mp_of (by omega)
                    have hFe : (fun t => mp tk va vc vb vd t * tk) = (fun t => mapZ tk va vc vb vd t * tk) := funext fun t => by rw [hM t]
                    refine lp_CB_tp1 G _ h4 x b xf xu xo xp xe xw xl xr o1 o2 o3 o4 q n K1 K2 va vc vb vd tk va vc vb vd hx ho ho1 ho2 hpm hR hT hE hn (fun hno => ⟨fun _ => ⟨rfl, fx⟩, fun w => absurd (fun j hj => by have := w.2 j hj; simp only [hM] at this; exact this) hno⟩) (fun hok => ?_) n 0 (by omega) (fun j hj => absurd hj (by omega))
                    have hOK : tpOK tk va vc vb vd K1 K2 n := ⟨hP, fun j hj => by simp only [hM]; exact hok j hj⟩
                    refine ev_aload_n d_CB_twoPoint_215 rfl rfl ?_
                    refine ev_get d_CB_twoPoint_216 fl_CB_40 hx rfl ?_
                    refine ev_aload_n d_CB_twoPoint_219 rfl rfl ?_
                    refine ev_get d_CB_twoPoint_220 fl_CB_33 hx rfl ?_
                    have hW := hW.mv (h' := h4) (fun b e hb _ => fx b e hb nin0)
                    have htop := htop.imp (fun e he => fx _ _ he nin0)
                    refine ev_callV M_Pa_keep ({ frames := 2, cells := 5, slots := 1077, locals := 61 }) _ (As := [.ref xo]) (c_Pa_keepP G h4 top xp pk xo o1 o2 o3 o4 nx ct n Kp Ke C K1 K2 K3 K4 hW ho ho1 ho2 ho3 ho4 hn htop hle n_o) d_CB_twoPoint_223 mk_Pa_keep ml_CB_103 mv_Pa_keep hW.2.2.1 rfl rfl rfl (Nat.le_of_ble_eq_true rfl) ⟨by decide, by decide⟩ ⟨by decide, by decide⟩ (fun r h8 hq => ?_)
                    obtain ⟨rfl, ⟨Kp', Ke', hW1, hKs, hKo⟩, fb, fp⟩ := hq
                    have hx := fb _ _ hx (by omega) (ninc (cne hx hW.2.2.1 (by simp)) (ninc (cne hx hW.2.2.2.1 (by simp)) nin0))
                    have ho := fb _ _ ho (by omega) (ninc (cne ho hW.2.2.1 (by simp)) (ninc (cne ho hW.2.2.2.1 (by simp)) nin0))
                    have ho1 := fb _ _ ho1 (by omega) (ninc (cne ho1 hW.2.2.1 (by simp)) (ninc (cne ho1 hW.2.2.2.1 (by simp)) nin0))
                    have ho2 := fb _ _ ho2 (by omega) (ninc (cne ho2 hW.2.2.1 (by simp)) (ninc (cne ho2 hW.2.2.2.1 (by simp)) nin0))
                    have ho3 := fb _ _ ho3 (by omega) (ninc (cne ho3 hW.2.2.1 (by simp)) (ninc (cne ho3 hW.2.2.2.1 (by simp)) nin0))
                    have ho4 := fb _ _ ho4 (by omega) (ninc (cne ho4 hW.2.2.1 (by simp)) (ninc (cne ho4 hW.2.2.2.1 (by simp)) nin0))
                    have hf := fb _ _ hf (by omega) (ninc (cne hf hW.2.2.1 (by simp)) (ninc (cne hf hW.2.2.2.1 (by simp)) nin0))
                    have hpm := fp _ _ hpm
                    refine ev_iconst (v := iZ 0) d_CB_twoPoint_226 rfl ?_
                    refine ev_istore (L' := [(0, .ref x), (1, .int (iZ va)), (2, .int (iZ vc)), (3, .int (iZ vb)), (4, .int (iZ vd)), (5, .ref q), (6, .int (iZ 0))]) d_CB_twoPoint_227 (by decide) rfl ?_
                    have hS : ∀ b ∈ [o1, o2], b ≤ top ∧ b ≠ xp ∧ b ≠ pk := by
                      intro b hb
                      simp at hb
                      rcases hb with rfl | rfl
                      · exact ⟨by omega, cne ho1 hW1.2.2.1 (by simp), cne ho1 hW1.2.2.2.1 (by simp)⟩
                      · exact ⟨by omega, cne ho2 hW1.2.2.1 (by simp), cne ho2 hW1.2.2.2.1 (by simp)⟩
                    refine lp_CB_tp2 G _ h8 x b xf xu xo xp xe xw xl xr o1 o2 o3 o4 q n K1 K2 va vc vb vd tk va vc vb vd hR n_o hT hE hn ?_ n 0 h8 (by omega) hx ho (by rw [fU_0]; exact ho1) (by rw [fU_0]; exact ho2) hpm Fm.rf
                    intro h9 hx ho ho1 ho2 hpm fm
                    refine ev_iconst (v := iZ 1) d_CB_twoPoint_297 rfl ?_
                    exact ev_zreturn d_CB_twoPoint_298 rfl (Or.inr rfl) (by decide) (by decide) ⟨fun q => absurd hOK q, fun _ => ⟨rfl, by rw [hFe]; exact ho1, by rw [hFe]; exact ho2, ⟨Kp', Ke', hW1.fm fm hS, hKs, hKo⟩, fun b e hb ht hs => (fb.fm fm (S2 := [o1, o2, xp, pk]) (by simp) (by simp)) b e (fx b e hb nin0) ht hs⟩⟩
                · refine ev_iconst (v := iZ 1) d_CB_twoPoint_76 rfl ?_
                  refine ev_goto (tgt := 81) d_CB_twoPoint_77 rfl ?_
                  refine ez_icmp_eq (tgt := 86) (by decide) (by decide) d_CB_twoPoint_81 rfl (fun c81 => absurd c81 (by omega)) (fun c81 => ?_)
                  refine ev_iconst (v := iZ 0) d_CB_twoPoint_84 rfl ?_
                  exact ev_zreturn d_CB_twoPoint_85 rfl (Or.inl rfl) (by decide) (by decide) (⟨fun _ => ⟨rfl, fx⟩, fun q => absurd q.1 (fun q => by obtain ⟨q1, q2, q3, q4, q5, q6, q7⟩ := q; first | exact absurd q1 (by assumption) | exact absurd q2 (by assumption) | exact absurd q3 (by assumption) | exact absurd q4 (by assumption) | omega)⟩)
              · refine ev_iconst (v := iZ 1) d_CB_twoPoint_65 rfl ?_
                refine ev_goto (tgt := 70) d_CB_twoPoint_66 rfl ?_
                refine ev_iload_n d_CB_twoPoint_70 rfl rfl ?_
                refine ev_iload d_CB_twoPoint_71 rfl ?_
                refine ez_icmp_ge (tgt := 80) (by omega) (by omega) d_CB_twoPoint_73 rfl (fun c73 => ?_) (fun c73 => ?_)
                · refine ev_iconst (v := iZ 0) d_CB_twoPoint_80 rfl ?_
                  refine ez_icmp_eq (tgt := 86) (by decide) (by decide) d_CB_twoPoint_81 rfl (fun c81 => absurd c81 (by omega)) (fun c81 => ?_)
                  refine ev_iconst (v := iZ 0) d_CB_twoPoint_84 rfl ?_
                  exact ev_zreturn d_CB_twoPoint_85 rfl (Or.inl rfl) (by decide) (by decide) (⟨fun _ => ⟨rfl, fx⟩, fun q => absurd q.1 (fun q => by obtain ⟨q1, q2, q3, q4, q5, q6, q7⟩ := q; first | exact absurd q1 (by assumption) | exact absurd q2 (by assumption) | exact absurd q3 (by assumption) | exact absurd q4 (by assumption) | omega)⟩)
                · refine ev_iconst (v := iZ 1) d_CB_twoPoint_76 rfl ?_
                  refine ev_goto (tgt := 81) d_CB_twoPoint_77 rfl ?_
                  refine ez_icmp_eq (tgt := 86) (by decide) (by decide) d_CB_twoPoint_81 rfl (fun c81 => ?_) (fun c81 => absurd c81 (by omega))
                  refine ev_iload_n d_CB_twoPoint_86 rfl rfl ?_
                  refine ev_iload_n d_CB_twoPoint_87 rfl rfl ?_
                  refine ez_icmp_ge (tgt := 113) (by omega) (by omega) d_CB_twoPoint_88 rfl (fun c88 => ?_) (fun c88 => ?_)
                  · refine ez_new 5 d_CB_twoPoint_113 nc_CB_181 rfl (by decide) (by decide) (fun q h5 lt9 h5a h5o => ?_)
                    have lo9 : ∀ b e, h b = some e → b < q := fun b e hb9 => lt9 b e (hb9)
                    have fx := fx.new lt9 h5o
                    have hx := (h5o _ (Nat.ne_of_lt (lt9 _ _ hx))).trans hx
                    have ho := (h5o _ (Nat.ne_of_lt (lt9 _ _ ho))).trans ho
                    have ho1 := (h5o _ (Nat.ne_of_lt (lt9 _ _ ho1))).trans ho1
                    have ho2 := (h5o _ (Nat.ne_of_lt (lt9 _ _ ho2))).trans ho2
                    have ho3 := (h5o _ (Nat.ne_of_lt (lt9 _ _ ho3))).trans ho3
                    have ho4 := (h5o _ (Nat.ne_of_lt (lt9 _ _ ho4))).trans ho4
                    have hf := (h5o _ (Nat.ne_of_lt (lt9 _ _ hf))).trans hf
                    have hpm := h5a
                    refine ev_dup d_CB_twoPoint_116 rfl ?_
                    refine ev_aload_n d_CB_twoPoint_117 rfl rfl ?_
                    refine ev_get d_CB_twoPoint_118 fl_CB_19 hx rfl ?_
                    refine ev_get d_CB_twoPoint_121 fl_CB_183 hf rfl ?_
                    refine ev_iload_n d_CB_twoPoint_124 rfl rfl ?_
                    refine ev_iload d_CB_twoPoint_125 rfl ?_
                    refine ev_iload_n d_CB_twoPoint_127 rfl rfl ?_
                    refine ev_iload_n d_CB_twoPoint_128 rfl rfl ?_
                    have l4 := (⟨inF_le htk.1 z8, inF_le htk.1 z19, inF_le htk.1 z32, inF_le htk.1 z44⟩ : _ ∧ _ ∧ _ ∧ _)
                    refine ev_callI M_Po_init ({ frames := 1, cells := 0, slots := 0, locals := 12 }) _ (As := [.long (lZ tk), .int (iZ vb), .int (iZ vd), .int (iZ va), .int (iZ vc)]) (c_Po_init G h5 q tk vb vd va vc hpm (by omega) (by omega) (by omega) (by omega)) d_CB_twoPoint_129 mk_Po_init ml_CB_187 ⟨rfl, rfl⟩ mi_Po_init rfl rfl (Nat.le_of_ble_eq_true rfl) ⟨by decide, by decide⟩ ⟨by decide, by decide⟩ (fun r h6 hq => ?_)
                    obtain ⟨rfl, hpm9, fxp⟩ := hq
                    have hx := fxp _ _ hx (ninc (cne hx hpm (by simp)) nin0)
                    have ho := fxp _ _ ho (ninc (cne ho hpm (by simp)) nin0)
                    have ho1 := fxp _ _ ho1 (ninc (cne ho1 hpm (by simp)) nin0)
                    have ho2 := fxp _ _ ho2 (ninc (cne ho2 hpm (by simp)) nin0)
                    have ho3 := fxp _ _ ho3 (ninc (cne ho3 hpm (by simp)) nin0)
                    have ho4 := fxp _ _ ho4 (ninc (cne ho4 hpm (by simp)) nin0)
                    have hf := fxp _ _ hf (ninc (cne hf hpm (by simp)) nin0)
                    have hpm := hpm9
                    have fx := fx.call fxp (fun z hz => Or.inr (fun b e hb9 => by simp at hz; subst hz; exact Nat.ne_of_lt (lo9 b e hb9)))
                    refine ev_astore (L' := [(0, .ref x), (1, .int (iZ va)), (2, .int (iZ vc)), (3, .int (iZ vb)), (4, .int (iZ vd)), (5, .ref q)]) d_CB_twoPoint_132 (by decide) rfl ?_
                    refine ev_iconst (v := iZ 0) d_CB_twoPoint_134 rfl ?_
                    refine ev_istore (L' := [(0, .ref x), (1, .int (iZ va)), (2, .int (iZ vc)), (3, .int (iZ vb)), (4, .int (iZ vd)), (5, .ref q), (6, .int (iZ 0))]) d_CB_twoPoint_135 (by decide) rfl ?_
                    have hP : tpP tk va vc vb vd := ⟨z8, z19, z32, z44, by omega, by omega, by omega⟩
                    have hR : tpR tk vb vd va vc := ⟨htk, z32, z44, z8, z19, by omega, by omega⟩
                    have hM : ∀ t, mp tk va vc vb vd t = mapZ tk vb vd va vc t := fun t => mp_sw (by omega)
                    have hFe : (fun t => mp tk va vc vb vd t * tk) = (fun t => mapZ tk vb vd va vc t * tk) := funext fun t => by rw [hM t]
                    refine lp_CB_tp1 G _ h6 x b xf xu xo xp xe xw xl xr o1 o2 o3 o4 q n K1 K2 va vc vb vd tk vb vd va vc hx ho ho1 ho2 hpm hR hT hE hn (fun hno => ⟨fun _ => ⟨rfl, fx⟩, fun w => absurd (fun j hj => by have := w.2 j hj; simp only [hM] at this; exact this) hno⟩) (fun hok => ?_) n 0 (by omega) (fun j hj => absurd hj (by omega))
                    have hOK : tpOK tk va vc vb vd K1 K2 n := ⟨hP, fun j hj => by simp only [hM]; exact hok j hj⟩
                    refine ev_aload_n d_CB_twoPoint_215 rfl rfl ?_
                    refine ev_get d_CB_twoPoint_216 fl_CB_40 hx rfl ?_
                    refine ev_aload_n d_CB_twoPoint_219 rfl rfl ?_
                    refine ev_get d_CB_twoPoint_220 fl_CB_33 hx rfl ?_
                    have hW := hW.mv (h' := h6) (fun b e hb _ => fx b e hb nin0)
                    have htop := htop.imp (fun e he => fx _ _ he nin0)
                    refine ev_callV M_Pa_keep ({ frames := 2, cells := 5, slots := 1077, locals := 61 }) _ (As := [.ref xo]) (c_Pa_keepP G h6 top xp pk xo o1 o2 o3 o4 nx ct n Kp Ke C K1 K2 K3 K4 hW ho ho1 ho2 ho3 ho4 hn htop hle n_o) d_CB_twoPoint_223 mk_Pa_keep ml_CB_103 mv_Pa_keep hW.2.2.1 rfl rfl rfl (Nat.le_of_ble_eq_true rfl) ⟨by decide, by decide⟩ ⟨by decide, by decide⟩ (fun r h8 hq => ?_)
                    obtain ⟨rfl, ⟨Kp', Ke', hW1, hKs, hKo⟩, fb, fp⟩ := hq
                    have hx := fb _ _ hx (by omega) (ninc (cne hx hW.2.2.1 (by simp)) (ninc (cne hx hW.2.2.2.1 (by simp)) nin0))
                    have ho := fb _ _ ho (by omega) (ninc (cne ho hW.2.2.1 (by simp)) (ninc (cne ho hW.2.2.2.1 (by simp)) nin0))
                    have ho1 := fb _ _ ho1 (by omega) (ninc (cne ho1 hW.2.2.1 (by simp)) (ninc (cne ho1 hW.2.2.2.1 (by simp)) nin0))
                    have ho2 := fb _ _ ho2 (by omega) (ninc (cne ho2 hW.2.2.1 (by simp)) (ninc (cne ho2 hW.2.2.2.1 (by simp)) nin0))
                    have ho3 := fb _ _ ho3 (by omega) (ninc (cne ho3 hW.2.2.1 (by simp)) (ninc (cne ho3 hW.2.2.2.1 (by simp)) nin0))
                    have ho4 := fb _ _ ho4 (by omega) (ninc (cne ho4 hW.2.2.1 (by simp)) (ninc (cne ho4 hW.2.2.2.1 (by simp)) nin0))
                    have hf := fb _ _ hf (by omega) (ninc (cne hf hW.2.2.1 (by simp)) (ninc (cne hf hW.2.2.2.1 (by simp)) nin0))
                    have hpm := fp _ _ hpm
                    refine ev_iconst (v := iZ 0) d_CB_twoPoint_226 rfl ?_
                    refine ev_istore (L' := [(0, .ref x), (1, .int (iZ va)), (2, .int (iZ vc)), (3, .int (iZ vb)), (4, .int (iZ vd)), (5, .ref q), (6, .int (iZ 0))]) d_CB_twoPoint_227 (by decide) rfl ?_
                    have hS : ∀ b ∈ [o1, o2], b ≤ top ∧ b ≠ xp ∧ b ≠ pk := by
                      intro b hb
                      simp at hb
                      rcases hb with rfl | rfl
                      · exact ⟨by omega, cne ho1 hW1.2.2.1 (by simp), cne ho1 hW1.2.2.2.1 (by simp)⟩
                      · exact ⟨by omega, cne ho2 hW1.2.2.1 (by simp), cne ho2 hW1.2.2.2.1 (by simp)⟩
                    refine lp_CB_tp2 G _ h8 x b xf xu xo xp xe xw xl xr o1 o2 o3 o4 q n K1 K2 va vc vb vd tk vb vd va vc hR n_o hT hE hn ?_ n 0 h8 (by omega) hx ho (by rw [fU_0]; exact ho1) (by rw [fU_0]; exact ho2) hpm Fm.rf
                    intro h9 hx ho ho1 ho2 hpm fm
                    refine ev_iconst (v := iZ 1) d_CB_twoPoint_297 rfl ?_
                    exact ev_zreturn d_CB_twoPoint_298 rfl (Or.inr rfl) (by decide) (by decide) ⟨fun q => absurd hOK q, fun _ => ⟨rfl, by rw [hFe]; exact ho1, by rw [hFe]; exact ho2, ⟨Kp', Ke', hW1.fm fm hS, hKs, hKo⟩, fun b e hb ht hs => (fb.fm fm (S2 := [o1, o2, xp, pk]) (by simp) (by simp)) b e (fx b e hb nin0) ht hs⟩⟩
                  · refine ez_new 5 d_CB_twoPoint_91 nc_CB_181 rfl (by decide) (by decide) (fun q h7 lt9 h7a h7o => ?_)
                    have lo9 : ∀ b e, h b = some e → b < q := fun b e hb9 => lt9 b e (hb9)
                    have fx := fx.new lt9 h7o
                    have hx := (h7o _ (Nat.ne_of_lt (lt9 _ _ hx))).trans hx
                    have ho := (h7o _ (Nat.ne_of_lt (lt9 _ _ ho))).trans ho
                    have ho1 := (h7o _ (Nat.ne_of_lt (lt9 _ _ ho1))).trans ho1
                    have ho2 := (h7o _ (Nat.ne_of_lt (lt9 _ _ ho2))).trans ho2
                    have ho3 := (h7o _ (Nat.ne_of_lt (lt9 _ _ ho3))).trans ho3
                    have ho4 := (h7o _ (Nat.ne_of_lt (lt9 _ _ ho4))).trans ho4
                    have hf := (h7o _ (Nat.ne_of_lt (lt9 _ _ hf))).trans hf
                    have hpm := h7a
                    refine ev_dup d_CB_twoPoint_94 rfl ?_
                    refine ev_aload_n d_CB_twoPoint_95 rfl rfl ?_
                    refine ev_get d_CB_twoPoint_96 fl_CB_19 hx rfl ?_
                    refine ev_get d_CB_twoPoint_99 fl_CB_183 hf rfl ?_
                    refine ev_iload_n d_CB_twoPoint_102 rfl rfl ?_
                    refine ev_iload_n d_CB_twoPoint_103 rfl rfl ?_
                    refine ev_iload_n d_CB_twoPoint_104 rfl rfl ?_
                    refine ev_iload d_CB_twoPoint_105 rfl ?_
                    have l4 := (⟨inF_le htk.1 z8, inF_le htk.1 z19, inF_le htk.1 z32, inF_le htk.1 z44⟩ : _ ∧ _ ∧ _ ∧ _)
                    refine ev_callI M_Po_init ({ frames := 1, cells := 0, slots := 0, locals := 12 }) _ (As := [.long (lZ tk), .int (iZ va), .int (iZ vc), .int (iZ vb), .int (iZ vd)]) (c_Po_init G h7 q tk va vc vb vd hpm (by omega) (by omega) (by omega) (by omega)) d_CB_twoPoint_107 mk_Po_init ml_CB_187 ⟨rfl, rfl⟩ mi_Po_init rfl rfl (Nat.le_of_ble_eq_true rfl) ⟨by decide, by decide⟩ ⟨by decide, by decide⟩ (fun r h8 hq => ?_)
                    obtain ⟨rfl, hpm9, fxp⟩ := hq
                    have hx := fxp _ _ hx (ninc (cne hx hpm (by simp)) nin0)
                    have ho := fxp _ _ ho (ninc (cne ho hpm (by simp)) nin0)
                    have ho1 := fxp _ _ ho1 (ninc (cne ho1 hpm (by simp)) nin0)
                    have ho2 := fxp _ _ ho2 (ninc (cne ho2 hpm (by simp)) nin0)
                    have ho3 := fxp _ _ ho3 (ninc (cne ho3 hpm (by simp)) nin0)
                    have ho4 := fxp _ _ ho4 (ninc (cne ho4 hpm (by simp)) nin0)
                    have hf := fxp _ _ hf (ninc (cne hf hpm (by simp)) nin0)
                    have hpm := hpm9
                    have fx := fx.call fxp (fun z hz => Or.inr (fun b e hb9 => by simp at hz; subst hz; exact Nat.ne_of_lt (lo9 b e hb9)))
                    refine ev_goto (tgt := 132) d_CB_twoPoint_110 rfl ?_
                    refine ev_astore (L' := [(0, .ref x), (1, .int (iZ va)), (2, .int (iZ vc)), (3, .int (iZ vb)), (4, .int (iZ vd)), (5, .ref q)]) d_CB_twoPoint_132 (by decide) rfl ?_
                    refine ev_iconst (v := iZ 0) d_CB_twoPoint_134 rfl ?_
                    refine ev_istore (L' := [(0, .ref x), (1, .int (iZ va)), (2, .int (iZ vc)), (3, .int (iZ vb)), (4, .int (iZ vd)), (5, .ref q), (6, .int (iZ 0))]) d_CB_twoPoint_135 (by decide) rfl ?_
                    have hP : tpP tk va vc vb vd := ⟨z8, z19, z32, z44, by omega, by omega, by omega⟩
                    have hR : tpR tk va vc vb vd := ⟨htk, z8, z19, z32, z44, by omega, by omega⟩
                    have hM : ∀ t, mp tk va vc vb vd t = mapZ tk va vc vb vd t := fun t => mp_of (by omega)
                    have hFe : (fun t => mp tk va vc vb vd t * tk) = (fun t => mapZ tk va vc vb vd t * tk) := funext fun t => by rw [hM t]
                    refine lp_CB_tp1 G _ h8 x b xf xu xo xp xe xw xl xr o1 o2 o3 o4 q n K1 K2 va vc vb vd tk va vc vb vd hx ho ho1 ho2 hpm hR hT hE hn (fun hno => ⟨fun _ => ⟨rfl, fx⟩, fun w => absurd (fun j hj => by have := w.2 j hj; simp only [hM] at this; exact this) hno⟩) (fun hok => ?_) n 0 (by omega) (fun j hj => absurd hj (by omega))
                    have hOK : tpOK tk va vc vb vd K1 K2 n := ⟨hP, fun j hj => by simp only [hM]; exact hok j hj⟩
                    refine ev_aload_n d_CB_twoPoint_215 rfl rfl ?_
                    refine ev_get d_CB_twoPoint_216 fl_CB_40 hx rfl ?_
                    refine ev_aload_n d_CB_twoPoint_219 rfl rfl ?_
                    refine ev_get d_CB_twoPoint_220 fl_CB_33 hx rfl ?_
                    have hW := hW.mv (h' := h8) (fun b e hb _ => fx b e hb nin0)
                    have htop := htop.imp (fun e he => fx _ _ he nin0)
                    refine ev_callV M_Pa_keep ({ frames := 2, cells := 5, slots := 1077, locals := 61 }) _ (As := [.ref xo]) (c_Pa_keepP G h8 top xp pk xo o1 o2 o3 o4 nx ct n Kp Ke C K1 K2 K3 K4 hW ho ho1 ho2 ho3 ho4 hn htop hle n_o) d_CB_twoPoint_223 mk_Pa_keep ml_CB_103 mv_Pa_keep hW.2.2.1 rfl rfl rfl (Nat.le_of_ble_eq_true rfl) ⟨by decide, by decide⟩ ⟨by decide, by decide⟩ (fun r h8 hq => ?_)
                    obtain ⟨rfl, ⟨Kp', Ke', hW1, hKs, hKo⟩, fb, fp⟩ := hq
                    have hx := fb _ _ hx (by omega) (ninc (cne hx hW.2.2.1 (by simp)) (ninc (cne hx hW.2.2.2.1 (by simp)) nin0))
                    have ho := fb _ _ ho (by omega) (ninc (cne ho hW.2.2.1 (by simp)) (ninc (cne ho hW.2.2.2.1 (by simp)) nin0))
                    have ho1 := fb _ _ ho1 (by omega) (ninc (cne ho1 hW.2.2.1 (by simp)) (ninc (cne ho1 hW.2.2.2.1 (by simp)) nin0))
                    have ho2 := fb _ _ ho2 (by omega) (ninc (cne ho2 hW.2.2.1 (by simp)) (ninc (cne ho2 hW.2.2.2.1 (by simp)) nin0))
                    have ho3 := fb _ _ ho3 (by omega) (ninc (cne ho3 hW.2.2.1 (by simp)) (ninc (cne ho3 hW.2.2.2.1 (by simp)) nin0))
                    have ho4 := fb _ _ ho4 (by omega) (ninc (cne ho4 hW.2.2.1 (by simp)) (ninc (cne ho4 hW.2.2.2.1 (by simp)) nin0))
                    have hf := fb _ _ hf (by omega) (ninc (cne hf hW.2.2.1 (by simp)) (ninc (cne hf hW.2.2.2.1 (by simp)) nin0))
                    have hpm := fp _ _ hpm
                    refine ev_iconst (v := iZ 0) d_CB_twoPoint_226 rfl ?_
                    refine ev_istore (L' := [(0, .ref x), (1, .int (iZ va)), (2, .int (iZ vc)), (3, .int (iZ vb)), (4, .int (iZ vd)), (5, .ref q), (6, .int (iZ 0))]) d_CB_twoPoint_227 (by decide) rfl ?_
                    have hS : ∀ b ∈ [o1, o2], b ≤ top ∧ b ≠ xp ∧ b ≠ pk := by
                      intro b hb
                      simp at hb
                      rcases hb with rfl | rfl
                      · exact ⟨by omega, cne ho1 hW1.2.2.1 (by simp), cne ho1 hW1.2.2.2.1 (by simp)⟩
                      · exact ⟨by omega, cne ho2 hW1.2.2.1 (by simp), cne ho2 hW1.2.2.2.1 (by simp)⟩
                    refine lp_CB_tp2 G _ h8 x b xf xu xo xp xe xw xl xr o1 o2 o3 o4 q n K1 K2 va vc vb vd tk va vc vb vd hR n_o hT hE hn ?_ n 0 h8 (by omega) hx ho (by rw [fU_0]; exact ho1) (by rw [fU_0]; exact ho2) hpm Fm.rf
                    intro h9 hx ho ho1 ho2 hpm fm
                    refine ev_iconst (v := iZ 1) d_CB_twoPoint_297 rfl ?_
                    exact ev_zreturn d_CB_twoPoint_298 rfl (Or.inr rfl) (by decide) (by decide) ⟨fun q => absurd hOK q, fun _ => ⟨rfl, by rw [hFe]; exact ho1, by rw [hFe]; exact ho2, ⟨Kp', Ke', hW1.fm fm hS, hKs, hKo⟩, fun b e hb ht hs => (fb.fm fm (S2 := [o1, o2, xp, pk]) (by simp) (by simp)) b e (fx b e hb nin0) ht hs⟩⟩
        · have z44 := holdZ_0 c44
          refine ev_iconst (v := iZ 0) d_CB_twoPoint_47 rfl ?_
          exact ev_zreturn d_CB_twoPoint_48 rfl (Or.inl rfl) (by decide) (by decide) (⟨fun _ => ⟨rfl, fx⟩, fun q => absurd q.1 (fun q => by obtain ⟨q1, q2, q3, q4, q5, q6, q7⟩ := q; first | exact absurd q1 (by assumption) | exact absurd q2 (by assumption) | exact absurd q3 (by assumption) | exact absurd q4 (by assumption) | omega)⟩)
    · have z19 := holdZ_0 c19
      refine ev_iconst (v := iZ 0) d_CB_twoPoint_22 rfl ?_
      exact ev_zreturn d_CB_twoPoint_23 rfl (Or.inl rfl) (by decide) (by decide) (⟨fun _ => ⟨rfl, fx⟩, fun q => absurd q.1 (fun q => by obtain ⟨q1, q2, q3, q4, q5, q6, q7⟩ := q; first | exact absurd q1 (by assumption) | exact absurd q2 (by assumption) | exact absurd q3 (by assumption) | exact absurd q4 (by assumption) | omega)⟩)
